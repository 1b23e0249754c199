/-! Plan: a clause -/
def kindF (s : Int) : Int := if s = -1 then -1 else fidx (stv 20100) s 0 4
theorem fidx_b (f : Int → Int) (c : Int) : ∀ (n : Nat) (i : Int), 0 ≤ i → -1 ≤ fidx f c i n ∧ (fidx f c i n = -1 ∨ (i ≤ fidx f c i n ∧ fidx f c i n < i + n)) := by
  intro n
  induction n with
  | zero => intro i h; unfold fidx; omega
  | succ n ih =>
    intro i h; unfold fidx; split
    · omega
    · have := ih (i + 1) (by omega); omega
theorem kindF_b (s : Int) : -1 ≤ kindF s ∧ kindF s < 4 := by
  unfold kindF; split
  · omega
  · have := fidx_b (stv 20100) s 4 0 (by omega); omega
theorem kindF_n {s : Int} (h : 0 ≤ kindF s) : s ≠ -1 := by
  intro e; unfold kindF at h; rw [if_pos e] at h; omega
theorem bit16 : ∀ t : Nat, t < 16 → ∀ i : Nat, i < 4 → amIand (amIshr (t : Int) (i : Int)) 1 = (t : Int) / (2 ^ (i : Int).toNat) % 2 ∧ amIor (t : Int) (amIshl 1 (i : Int)) = (if (t : Int) / (2 ^ (i : Int).toNat) % 2 = 1 then (t : Int) else (t : Int) + 2 ^ (i : Int).toNat) ∧ 0 ≤ (t : Int) + 2 ^ (i : Int).toNat ∧ ((t : Int) / (2 ^ (i : Int).toNat) % 2 ≠ 1 → (t : Int) + 2 ^ (i : Int).toNat < 16) := by decide +kernel
theorem bit16' {t i : Int} (h0 : 0 ≤ t) (h1 : t < 16) (h2 : 0 ≤ i) (h3 : i < 4) : amIand (amIshr t i) 1 = t / (2 ^ i.toNat) % 2 ∧ amIor t (amIshl 1 i) = (if t / (2 ^ i.toNat) % 2 = 1 then t else t + 2 ^ i.toNat) ∧ 0 ≤ t + 2 ^ i.toNat ∧ (t / (2 ^ i.toNat) % 2 ≠ 1 → t + 2 ^ i.toNat < 16) := by
  obtain ⟨a, rfl⟩ : ∃ a : Nat, t = a := ⟨t.toNat, by omega⟩
  obtain ⟨b, rfl⟩ : ∃ b : Nat, i = b := ⟨i.toNat, by omega⟩
  exact bit16 a (by omega) b (by omega)
/-- the items of a clause: fault, place, numbers -/
def hIt (t : Int → Int) (n kind row : Int) : Nat → Int → Int → (Int → Int) → Int × Int × (Int → Int)
  | 0, _, p, v => (p, p, v)
  | f + 1, told, p, v =>
    if t (sk t n p) = -1 ∨ t (sk t n p) = 59 then (-1, sk t n p, v)
    else if itemF kind (t (sk t n p)) = -1 ∨ told / (2 ^ (itemF kind (t (sk t n p))).toNat) % 2 = 1 then (sk t n p, sk t n p, v)
    else if ndig t (sk t n (sk t n p + 1)) 2 = 0 ∨ (48 ≤ t (sk t n (sk t n p + 1) + ndig t (sk t n (sk t n p + 1)) 2) ∧ t (sk t n (sk t n p + 1) + ndig t (sk t n (sk t n p + 1)) 2) ≤ 57) then (sk t n (sk t n p + 1) + ndig t (sk t n (sk t n p + 1)) 2, sk t n (sk t n p + 1) + ndig t (sk t n (sk t n p + 1)) 2, v)
    else if fitF kind (itemF kind (t (sk t n p))) (nval t (sk t n (sk t n p + 1)) 0 2) then
      hIt t n kind row f (told + 2 ^ (itemF kind (t (sk t n p))).toNat) (sk t n (sk t n p + 1) + ndig t (sk t n (sk t n p + 1)) 2) (upf v (row * 4 + itemF kind (t (sk t n p))) (nval t (sk t n (sk t n p + 1)) 0 2))
    else (sk t n (sk t n p + 1) + ndig t (sk t n (sk t n p + 1)) 2 - 1, sk t n (sk t n p + 1) + ndig t (sk t n (sk t n p + 1)) 2, v)
theorem ndig_le {t : Int → Int} {n : Int} (ht : ∀ i, n ≤ i → t i = -1) : ∀ (m : Nat) (p : Int), p ≤ n → p + ndig t p m ≤ n := by
  intro m
  induction m with
  | zero => intro p h; unfold ndig; omega
  | succ m ih =>
    intro p h; unfold ndig; split
    · have hp : p < n := by
        by_cases h9 : p < n
        · exact h9
        · have := ht p (by omega); omega
      have := ih (p + 1) (by omega); omega
    · omega
theorem sk_lt {t : Int → Int} {n : Int} (ht : ∀ i, n ≤ i → t i = -1) {q : Int} (h : t q ≠ -1) : q < n := by
  by_cases h9 : q < n
  · exact h9
  · exact absurd (ht q (by omega)) h
def rowB (v : Int → Int) : Prop := ∀ j, 0 ≤ j → j < 68 → 0 ≤ v j ∧ v j ≤ 99
theorem rowB_up {v : Int → Int} (h : rowB v) {k x : Int} (hx : 0 ≤ x ∧ x ≤ 99) : rowB (upf v k x) := by
  intro j h0 h1; unfold upf; split
  · exact hx
  · exact h j h0 h1
theorem hIt_b {t : Int → Int} {n kind row : Int} (ht : ∀ i, n ≤ i → t i = -1) (hn : 0 ≤ n) : ∀ (f : Nat) (told p : Int) (v : Int → Int), 0 ≤ p → p ≤ n → rowB v →
    -1 ≤ (hIt t n kind row f told p v).1 ∧ (hIt t n kind row f told p v).1 ≤ n ∧ p ≤ (hIt t n kind row f told p v).2.1 ∧ (hIt t n kind row f told p v).2.1 ≤ n ∧ rowB (hIt t n kind row f told p v).2.2 := by
  intro f
  induction f with
  | zero => intro told p v h0 h1 hv; unfold hIt; refine ⟨?_, ?_, ?_, ?_, hv⟩ <;> dsimp only <;> omega
  | succ f ih =>
    intro told p v h0 h1 hv
    have s1 := sk_b t h1
    unfold hIt
    split
    · refine ⟨?_, ?_, ?_, ?_, hv⟩ <;> dsimp only <;> omega
    · rename_i c1
      have s2 := sk_lt ht (q := sk t n p) (by omega)
      split
      · refine ⟨?_, ?_, ?_, ?_, hv⟩ <;> dsimp only <;> omega
      · have s3 := sk_b t (n := n) (p := sk t n p + 1) (by omega)
        have s4 := ndig_le ht 2 (sk t n (sk t n p + 1)) (by omega)
        have s5 := ndig_bd t 2 (sk t n (sk t n p + 1))
        split
        · refine ⟨?_, ?_, ?_, ?_, hv⟩ <;> dsimp only <;> omega
        · split
          · have := ih (told + 2 ^ (itemF kind (t (sk t n p))).toNat) (sk t n (sk t n p + 1) + ndig t (sk t n (sk t n p + 1)) 2) (upf v (row * 4 + itemF kind (t (sk t n p))) (nval t (sk t n (sk t n p + 1)) 0 2)) (by omega) (by omega) (rowB_up hv (nval2_b t _))
            exact ⟨this.1, this.2.1, by omega, this.2.2.2.1, this.2.2.2.2⟩
          · refine ⟨?_, ?_, ?_, ?_, hv⟩ <;> dsimp only <;> omega
theorem fillU_setv (σ : Mem) (p k i : Int) : fillU σ p k i = setv σ (p + 1) (fillU σ p k i (p + 1)) := by
  funext b j; unfold setv; split
  · rename_i h; rw [h]
  · rename_i h; rw [fillU_o σ h]
theorem skp_fold (t : Int → Int) (n p : Int) : skp t p (n - p).toNat = sk t n p := rfl

theorem wd_408 : Cond.methodLink RX6 38 yX10_ahead ∈ TBL := tb_tab (List.mem_of_getElem? (i := 408) (by decide +kernel)) rfl
theorem lk_X6_38 : amLk RX6 38 yX10_ahead cX10_ahead 1 (some .int) 0 := ⟨wd_408, wd_2, wd_411, by decide +kernel, by decide +kernel, by decide⟩
theorem wd_417 : Cond.methodLink RX6 51 yX10_place ∈ TBL := tb_tab (List.mem_of_getElem? (i := 417) (by decide +kernel)) rfl
theorem wd_419 : Cond.code yX10_place cX10_place 2 (some .int) ∈ TBL := tb_tab (List.mem_of_getElem? (i := 419) (by decide +kernel)) rfl
theorem lk_X6_51 : amLk RX6 51 yX10_place cX10_place 2 (some .int) 2 := ⟨wd_417, wd_2, wd_419, by decide +kernel, by decide +kernel, by decide⟩
theorem wd_418 : Cond.static yX10_place ∈ TBL := tb_tab (List.mem_of_getElem? (i := 418) (by decide +kernel)) rfl
theorem wd_506 : Cond.methodLink RX6 55 yX6_openClause ∈ TBL := tb_tab (List.mem_of_getElem? (i := 506) (by decide +kernel)) rfl
theorem wd_509 : Cond.code yX6_openClause cX6_openClause 2 (some .boolean) ∈ TBL := tb_tab (List.mem_of_getElem? (i := 509) (by decide +kernel)) rfl
theorem lk_X6_55 : amLk RX6 55 yX6_openClause cX6_openClause 2 (some .boolean) 1 := ⟨wd_506, wd_3, wd_509, by decide +kernel, by decide +kernel, by decide⟩
theorem wd_508 : Cond.instanceMethod yX6_openClause ∈ TBL := tb_tab (List.mem_of_getElem? (i := 508) (by decide +kernel)) rfl
theorem sl_X6_openClause : Cond.selects RX6 yX6_openClause yX6_openClause ∈ TBL := tb_sel (List.mem_of_getElem? (i := 2) (by decide +kernel)) rfl
theorem fp_X6_28 : amFp RX6 10 2 28 RX10 TX10 3 tyX10 .int := ⟨fl_X6_28, tyX10_ok, nmX10, by decide +kernel⟩
theorem wd_513 : Cond.methodLink RX6 59 yX6_itemOf ∈ TBL := tb_tab (List.mem_of_getElem? (i := 513) (by decide +kernel)) rfl
theorem wd_515 : Cond.code yX6_itemOf cX6_itemOf 3 (some .int) ∈ TBL := tb_tab (List.mem_of_getElem? (i := 515) (by decide +kernel)) rfl
theorem lk_X6_59 : amLk RX6 59 yX6_itemOf cX6_itemOf 3 (some .int) 2 := ⟨wd_513, wd_3, wd_515, by decide +kernel, by decide +kernel, by decide⟩
theorem wd_514 : Cond.static yX6_itemOf ∈ TBL := tb_tab (List.mem_of_getElem? (i := 514) (by decide +kernel)) rfl
theorem wd_537 : Cond.methodLink RX6 63 yX6_readItem ∈ TBL := tb_tab (List.mem_of_getElem? (i := 537) (by decide +kernel)) rfl
theorem wd_540 : Cond.code yX6_readItem cX6_readItem 6 (some .int) ∈ TBL := tb_tab (List.mem_of_getElem? (i := 540) (by decide +kernel)) rfl
theorem lk_X6_63 : amLk RX6 63 yX6_readItem cX6_readItem 6 (some .int) 3 := ⟨wd_537, wd_3, wd_540, by decide +kernel, by decide +kernel, by decide⟩
theorem wd_539 : Cond.instanceMethod yX6_readItem ∈ TBL := tb_tab (List.mem_of_getElem? (i := 539) (by decide +kernel)) rfl
theorem sl_X6_readItem : Cond.selects RX6 yX6_readItem yX6_readItem ∈ TBL := tb_sel (List.mem_of_getElem? (i := 3) (by decide +kernel)) rfl
def a_X6_readClause : AC := [(0, vAload 1 1), (1, vCallM w_X10_ahead 26 0 4), (4, vLdcS 20000 6), (6, vCallS w_X10_place 2 9), (9, vIstore 2 10), (10, vAload 0 11), (11, vIload 2 12), (12, vCallM w_X6_openClause 22 1 15), (15, vIfNe 23 18), (18, vAload 1 19), (19, vGetI 26 2 22), (22, vIret), (23, vAload 1 24), (24, vDup 25), (25, vGetI 26 2 28), (28, vI 1 29), (29, vIadd 30), (30, vPutI 26 2 33), (33, vI 0 34), (34, vIstore 3 35), (35, vI 0 36), (36, vIstore 4 38), (38, vIload 4 40), (40, vI 4 41), (41, vIcGt 135 44), (44, vAload 1 45), (45, vCallM w_X10_ahead 26 0 48), (48, vIstore 5 50), (50, vIload 5 52), (52, vI (-1) 53), (53, vIcEq 63 56), (56, vIload 5 58), (58, vI 59 60), (60, vIcNe 65 63), (63, vI (-1) 64), (64, vIret), (65, vIload 2 66), (66, vIload 5 68), (68, vCallS w_X6_itemOf 2 71), (71, vIstore 6 73), (73, vIload 6 75), (75, vI (-1) 76), (76, vIcEq 88 79), (79, vIload 3 80), (80, vIload 6 82), (82, vIshr 83), (83, vI 1 84), (84, vIand 85), (85, vIfEq 93 88), (88, vAload 1 89), (89, vGetI 26 2 92), (92, vIret), (93, vIload 3 94), (94, vI 1 95), (95, vIload 6 97), (97, vIshl 98), (98, vIor 99), (99, vIstore 3 100), (100, vAload 1 101), (101, vDup 102), (102, vGetI 26 2 105), (105, vI 1 106), (106, vIadd 107), (107, vPutI 26 2 110), (110, vAload 0 111), (111, vAload 1 112), (112, vIload 2 113), (113, vIload 6 115), (115, vCallM w_X6_readItem 22 3 118), (118, vIstore 7 120), (120, vIload 7 122), (122, vI (-1) 123), (123, vIcEq 129 126), (126, vIload 7 128), (128, vIret), (129, vIinc 4 1 132), (132, vGoto 38), (135, vAload 1 136), (136, vGetI 26 2 139), (139, vIret)]
theorem k_X6_readClause_0 : look a_X6_readClause 0 = vAload 1 1 := rfl
theorem k_X6_readClause_1 : look a_X6_readClause 1 = vCallM w_X10_ahead 26 0 4 := rfl
theorem k_X6_readClause_4 : look a_X6_readClause 4 = vLdcS 20000 6 := rfl
theorem k_X6_readClause_6 : look a_X6_readClause 6 = vCallS w_X10_place 2 9 := rfl
theorem k_X6_readClause_9 : look a_X6_readClause 9 = vIstore 2 10 := rfl
theorem k_X6_readClause_10 : look a_X6_readClause 10 = vAload 0 11 := rfl
theorem k_X6_readClause_11 : look a_X6_readClause 11 = vIload 2 12 := rfl
theorem k_X6_readClause_12 : look a_X6_readClause 12 = vCallM w_X6_openClause 22 1 15 := rfl
theorem k_X6_readClause_15 : look a_X6_readClause 15 = vIfNe 23 18 := rfl
theorem k_X6_readClause_18 : look a_X6_readClause 18 = vAload 1 19 := rfl
theorem k_X6_readClause_19 : look a_X6_readClause 19 = vGetI 26 2 22 := rfl
theorem k_X6_readClause_22 : look a_X6_readClause 22 = vIret := rfl
theorem k_X6_readClause_23 : look a_X6_readClause 23 = vAload 1 24 := rfl
theorem k_X6_readClause_24 : look a_X6_readClause 24 = vDup 25 := rfl
theorem k_X6_readClause_25 : look a_X6_readClause 25 = vGetI 26 2 28 := rfl
theorem k_X6_readClause_28 : look a_X6_readClause 28 = vI 1 29 := rfl
theorem k_X6_readClause_29 : look a_X6_readClause 29 = vIadd 30 := rfl
theorem k_X6_readClause_30 : look a_X6_readClause 30 = vPutI 26 2 33 := rfl
theorem k_X6_readClause_33 : look a_X6_readClause 33 = vI 0 34 := rfl
theorem k_X6_readClause_34 : look a_X6_readClause 34 = vIstore 3 35 := rfl
theorem k_X6_readClause_35 : look a_X6_readClause 35 = vI 0 36 := rfl
theorem k_X6_readClause_36 : look a_X6_readClause 36 = vIstore 4 38 := rfl
theorem k_X6_readClause_38 : look a_X6_readClause 38 = vIload 4 40 := rfl
theorem k_X6_readClause_40 : look a_X6_readClause 40 = vI 4 41 := rfl
theorem k_X6_readClause_41 : look a_X6_readClause 41 = vIcGt 135 44 := rfl
theorem k_X6_readClause_44 : look a_X6_readClause 44 = vAload 1 45 := rfl
theorem k_X6_readClause_45 : look a_X6_readClause 45 = vCallM w_X10_ahead 26 0 48 := rfl
theorem k_X6_readClause_48 : look a_X6_readClause 48 = vIstore 5 50 := rfl
theorem k_X6_readClause_50 : look a_X6_readClause 50 = vIload 5 52 := rfl
theorem k_X6_readClause_52 : look a_X6_readClause 52 = vI (-1) 53 := rfl
theorem k_X6_readClause_53 : look a_X6_readClause 53 = vIcEq 63 56 := rfl
theorem k_X6_readClause_56 : look a_X6_readClause 56 = vIload 5 58 := rfl
theorem k_X6_readClause_58 : look a_X6_readClause 58 = vI 59 60 := rfl
theorem k_X6_readClause_60 : look a_X6_readClause 60 = vIcNe 65 63 := rfl
theorem k_X6_readClause_63 : look a_X6_readClause 63 = vI (-1) 64 := rfl
theorem k_X6_readClause_64 : look a_X6_readClause 64 = vIret := rfl
theorem k_X6_readClause_65 : look a_X6_readClause 65 = vIload 2 66 := rfl
theorem k_X6_readClause_66 : look a_X6_readClause 66 = vIload 5 68 := rfl
theorem k_X6_readClause_68 : look a_X6_readClause 68 = vCallS w_X6_itemOf 2 71 := rfl
theorem k_X6_readClause_71 : look a_X6_readClause 71 = vIstore 6 73 := rfl
theorem k_X6_readClause_73 : look a_X6_readClause 73 = vIload 6 75 := rfl
theorem k_X6_readClause_75 : look a_X6_readClause 75 = vI (-1) 76 := rfl
theorem k_X6_readClause_76 : look a_X6_readClause 76 = vIcEq 88 79 := rfl
theorem k_X6_readClause_79 : look a_X6_readClause 79 = vIload 3 80 := rfl
theorem k_X6_readClause_80 : look a_X6_readClause 80 = vIload 6 82 := rfl
theorem k_X6_readClause_82 : look a_X6_readClause 82 = vIshr 83 := rfl
theorem k_X6_readClause_83 : look a_X6_readClause 83 = vI 1 84 := rfl
theorem k_X6_readClause_84 : look a_X6_readClause 84 = vIand 85 := rfl
theorem k_X6_readClause_85 : look a_X6_readClause 85 = vIfEq 93 88 := rfl
theorem k_X6_readClause_88 : look a_X6_readClause 88 = vAload 1 89 := rfl
theorem k_X6_readClause_89 : look a_X6_readClause 89 = vGetI 26 2 92 := rfl
theorem k_X6_readClause_92 : look a_X6_readClause 92 = vIret := rfl
theorem k_X6_readClause_93 : look a_X6_readClause 93 = vIload 3 94 := rfl
theorem k_X6_readClause_94 : look a_X6_readClause 94 = vI 1 95 := rfl
theorem k_X6_readClause_95 : look a_X6_readClause 95 = vIload 6 97 := rfl
theorem k_X6_readClause_97 : look a_X6_readClause 97 = vIshl 98 := rfl
theorem k_X6_readClause_98 : look a_X6_readClause 98 = vIor 99 := rfl
theorem k_X6_readClause_99 : look a_X6_readClause 99 = vIstore 3 100 := rfl
theorem k_X6_readClause_100 : look a_X6_readClause 100 = vAload 1 101 := rfl
theorem k_X6_readClause_101 : look a_X6_readClause 101 = vDup 102 := rfl
theorem k_X6_readClause_102 : look a_X6_readClause 102 = vGetI 26 2 105 := rfl
theorem k_X6_readClause_105 : look a_X6_readClause 105 = vI 1 106 := rfl
theorem k_X6_readClause_106 : look a_X6_readClause 106 = vIadd 107 := rfl
theorem k_X6_readClause_107 : look a_X6_readClause 107 = vPutI 26 2 110 := rfl
theorem k_X6_readClause_110 : look a_X6_readClause 110 = vAload 0 111 := rfl
theorem k_X6_readClause_111 : look a_X6_readClause 111 = vAload 1 112 := rfl
theorem k_X6_readClause_112 : look a_X6_readClause 112 = vIload 2 113 := rfl
theorem k_X6_readClause_113 : look a_X6_readClause 113 = vIload 6 115 := rfl
theorem k_X6_readClause_115 : look a_X6_readClause 115 = vCallM w_X6_readItem 22 3 118 := rfl
theorem k_X6_readClause_118 : look a_X6_readClause 118 = vIstore 7 120 := rfl
theorem k_X6_readClause_120 : look a_X6_readClause 120 = vIload 7 122 := rfl
theorem k_X6_readClause_122 : look a_X6_readClause 122 = vI (-1) 123 := rfl
theorem k_X6_readClause_123 : look a_X6_readClause 123 = vIcEq 129 126 := rfl
theorem k_X6_readClause_126 : look a_X6_readClause 126 = vIload 7 128 := rfl
theorem k_X6_readClause_128 : look a_X6_readClause 128 = vIret := rfl
theorem k_X6_readClause_129 : look a_X6_readClause 129 = vIinc 4 1 132 := rfl
theorem k_X6_readClause_132 : look a_X6_readClause 132 = vGoto 38 := rfl
theorem k_X6_readClause_135 : look a_X6_readClause 135 = vAload 1 136 := rfl
theorem k_X6_readClause_136 : look a_X6_readClause 136 = vGetI 26 2 139 := rfl
theorem k_X6_readClause_139 : look a_X6_readClause 139 = vIret := rfl
theorem o_X6_readClause {X : amX} (e1 : XT X = TT) (e2 : XD X = 5) (hB : amB X RX6 cX6_readClause (some .int) 8) : ∀ pc, amOK X pc (look a_X6_readClause pc) := by
  have hT : amTok (XT X) := e1 ▸ TT_ok
  refine look_ok ?_
  unfold a_X6_readClause
  refine fc (ok_aload_n hB dX6_readClause_0) ?_
  refine fc (ok_callM hB hT (e1 ▸ s_X10_ahead) lk_X6_38 (by rw [e2]; decide) (c := 10) rfl rfl rfl wd_409 wd_410 dX6_readClause_1) ?_
  refine fc (ok_ldcS hB (k := 0) rfl rfl rfl rfl dX6_readClause_4) ?_
  refine fc (ok_callS hB (e1 ▸ s_X10_place) lk_X6_51 (by rw [e2]; decide) wd_418 dX6_readClause_6) ?_
  refine fc (ok_istore_n hB (by decide) dX6_readClause_9) ?_
  refine fc (ok_aload_n hB dX6_readClause_10) ?_
  refine fc (ok_iload_n hB dX6_readClause_11) ?_
  refine fc (ok_callM hB hT (e1 ▸ s_X6_openClause) lk_X6_55 (by rw [e2]; decide) (c := 6) rfl rfl rfl wd_508 sl_X6_openClause dX6_readClause_12) ?_
  refine fc (ok_if_ne hB (t := 23) (by decide) dX6_readClause_15) ?_
  refine fc (ok_aload_n hB dX6_readClause_18) ?_
  refine fc (ok_getI hB hT fl_X6_28 rfl rfl (Or.inl af_10_2) dX6_readClause_19) ?_
  refine fc (ok_iret hB dX6_readClause_22) ?_
  refine fc (ok_aload_n hB dX6_readClause_23) ?_
  refine fc (ok_dup hB dX6_readClause_24) ?_
  refine fc (ok_getI hB hT fl_X6_28 rfl rfl (Or.inl af_10_2) dX6_readClause_25) ?_
  refine fc (ok_iconst hB dX6_readClause_28) ?_
  refine fc (ok_iadd hB dX6_readClause_29) ?_
  refine fc (ok_putI hB hT fp_X6_28 rfl rfl rfl af_10_2 dX6_readClause_30) ?_
  refine fc (ok_iconst hB dX6_readClause_33) ?_
  refine fc (ok_istore_n hB (by decide) dX6_readClause_34) ?_
  refine fc (ok_iconst hB dX6_readClause_35) ?_
  refine fc (ok_istore hB (by decide) dX6_readClause_36) ?_
  refine fc (ok_iload hB dX6_readClause_38) ?_
  refine fc (ok_iconst hB dX6_readClause_40) ?_
  refine fc (ok_icmp_gt hB (t := 135) (by decide) dX6_readClause_41) ?_
  refine fc (ok_aload_n hB dX6_readClause_44) ?_
  refine fc (ok_callM hB hT (e1 ▸ s_X10_ahead) lk_X6_38 (by rw [e2]; decide) (c := 10) rfl rfl rfl wd_409 wd_410 dX6_readClause_45) ?_
  refine fc (ok_istore hB (by decide) dX6_readClause_48) ?_
  refine fc (ok_iload hB dX6_readClause_50) ?_
  refine fc (ok_iconst hB dX6_readClause_52) ?_
  refine fc (ok_icmp_eq hB (t := 63) (by decide) dX6_readClause_53) ?_
  refine fc (ok_iload hB dX6_readClause_56) ?_
  refine fc (ok_bipush hB dX6_readClause_58 (by decide)) ?_
  refine fc (ok_icmp_ne hB (t := 65) (by decide) dX6_readClause_60) ?_
  refine fc (ok_iconst hB dX6_readClause_63) ?_
  refine fc (ok_iret hB dX6_readClause_64) ?_
  refine fc (ok_iload_n hB dX6_readClause_65) ?_
  refine fc (ok_iload hB dX6_readClause_66) ?_
  refine fc (ok_callS hB (e1 ▸ s_X6_itemOf) lk_X6_59 (by rw [e2]; decide) wd_514 dX6_readClause_68) ?_
  refine fc (ok_istore hB (by decide) dX6_readClause_71) ?_
  refine fc (ok_iload hB dX6_readClause_73) ?_
  refine fc (ok_iconst hB dX6_readClause_75) ?_
  refine fc (ok_icmp_eq hB (t := 88) (by decide) dX6_readClause_76) ?_
  refine fc (ok_iload_n hB dX6_readClause_79) ?_
  refine fc (ok_iload hB dX6_readClause_80) ?_
  refine fc (ok_ishr hB dX6_readClause_82) ?_
  refine fc (ok_iconst hB dX6_readClause_83) ?_
  refine fc (ok_iand hB dX6_readClause_84) ?_
  refine fc (ok_if_eq hB (t := 93) (by decide) dX6_readClause_85) ?_
  refine fc (ok_aload_n hB dX6_readClause_88) ?_
  refine fc (ok_getI hB hT fl_X6_28 rfl rfl (Or.inl af_10_2) dX6_readClause_89) ?_
  refine fc (ok_iret hB dX6_readClause_92) ?_
  refine fc (ok_iload_n hB dX6_readClause_93) ?_
  refine fc (ok_iconst hB dX6_readClause_94) ?_
  refine fc (ok_iload hB dX6_readClause_95) ?_
  refine fc (ok_ishl hB dX6_readClause_97) ?_
  refine fc (ok_ior hB dX6_readClause_98) ?_
  refine fc (ok_istore_n hB (by decide) dX6_readClause_99) ?_
  refine fc (ok_aload_n hB dX6_readClause_100) ?_
  refine fc (ok_dup hB dX6_readClause_101) ?_
  refine fc (ok_getI hB hT fl_X6_28 rfl rfl (Or.inl af_10_2) dX6_readClause_102) ?_
  refine fc (ok_iconst hB dX6_readClause_105) ?_
  refine fc (ok_iadd hB dX6_readClause_106) ?_
  refine fc (ok_putI hB hT fp_X6_28 rfl rfl rfl af_10_2 dX6_readClause_107) ?_
  refine fc (ok_aload_n hB dX6_readClause_110) ?_
  refine fc (ok_aload_n hB dX6_readClause_111) ?_
  refine fc (ok_iload_n hB dX6_readClause_112) ?_
  refine fc (ok_iload hB dX6_readClause_113) ?_
  refine fc (ok_callM hB hT (e1 ▸ s_X6_readItem) lk_X6_63 (by rw [e2]; decide) (c := 6) rfl rfl rfl wd_539 sl_X6_readItem dX6_readClause_115) ?_
  refine fc (ok_istore hB (by decide) dX6_readClause_118) ?_
  refine fc (ok_iload hB dX6_readClause_120) ?_
  refine fc (ok_iconst hB dX6_readClause_122) ?_
  refine fc (ok_icmp_eq hB (t := 129) (by decide) dX6_readClause_123) ?_
  refine fc (ok_iload hB dX6_readClause_126) ?_
  refine fc (ok_iret hB dX6_readClause_128) ?_
  refine fc (ok_iinc hB (by decide) dX6_readClause_129) ?_
  refine fc (ok_goto hB (t := 38) (by decide) dX6_readClause_132) ?_
  refine fc (ok_aload_n hB dX6_readClause_135) ?_
  refine fc (ok_getI hB hT fl_X6_28 rfl rfl (Or.inl af_10_2) dX6_readClause_136) ?_
  refine fc (ok_iret hB dX6_readClause_139) ?_
  exact fn
def inv_clause (σ : Mem) (p kd : Int) (R : Int × Int × (Int → Int)) (n pc : Nat) (ls st : List AV) (σ' : Mem) : Prop := pc = 38 ∧ st = [] ∧ ∃ (told i pos : Int) (v : Int → Int) (v5 v6 v7 : AV), ls = [(22, p), (26, 1), (0, kd), (0, told), (0, i), v5, v6, v7] ∧ σ' = up (setv (up σ (p + 2) kd (σ (p + 2) kd + 1)) (p + 1) v) 1 2 pos ∧ 0 ≤ kd ∧ σ (p + 2) kd < mostK kd ∧ 0 ≤ told ∧ told < 16 ∧ 0 ≤ i ∧ i + n = 5 ∧ 0 ≤ pos ∧ pos ≤ σ 1 1 ∧ rowB v ∧ hIt (tsg σ) (σ 1 1) kd (firstK kd + σ (p + 2) kd) n told pos v = R
def w_X6_readClause : WP := fun av σ Q => ∃ (p : Int) (u : Int), av = [(22, p), (26, u)] ∧ (u = 1 ∧ isP p ∧ planB σ p ∧ tapeOk σ ∧ 0 ≤ σ 1 2 ∧ σ 1 2 ≤ σ 1 1 ∧
(0 ≤ kindF (tsg σ (tsk σ)) ∧ σ (p + 2) (kindF (tsg σ (tsk σ))) < mostK (kindF (tsg σ (tsk σ))) → Q (0, (hIt (tsg σ) (σ 1 1) (kindF (tsg σ (tsk σ))) (firstK (kindF (tsg σ (tsk σ))) + σ (p + 2) (kindF (tsg σ (tsk σ)))) 5 0 (tsk σ + 1) (fillU σ p (kindF (tsg σ (tsk σ))) (σ (p + 2) (kindF (tsg σ (tsk σ)))) (p + 1))).1) (up (setv (up σ (p + 2) (kindF (tsg σ (tsk σ))) (σ (p + 2) (kindF (tsg σ (tsk σ))) + 1)) (p + 1) (hIt (tsg σ) (σ 1 1) (kindF (tsg σ (tsk σ))) (firstK (kindF (tsg σ (tsk σ))) + σ (p + 2) (kindF (tsg σ (tsk σ)))) 5 0 (tsk σ + 1) (fillU σ p (kindF (tsg σ (tsk σ))) (σ (p + 2) (kindF (tsg σ (tsk σ)))) (p + 1))).2.2) 1 2 (hIt (tsg σ) (σ 1 1) (kindF (tsg σ (tsk σ))) (firstK (kindF (tsg σ (tsk σ))) + σ (p + 2) (kindF (tsg σ (tsk σ)))) 5 0 (tsk σ + 1) (fillU σ p (kindF (tsg σ (tsk σ))) (σ (p + 2) (kindF (tsg σ (tsk σ)))) (p + 1))).2.1)) ∧
(¬ (0 ≤ kindF (tsg σ (tsk σ)) ∧ σ (p + 2) (kindF (tsg σ (tsk σ))) < mostK (kindF (tsg σ (tsk σ)))) → Q (0, tsk σ) (up σ 1 2 (tsk σ))))
theorem w_X6_readClause_e (p : Int) (u : Int) (σ : Mem) (Q : AV → Mem → Prop) : w_X6_readClause [(22, p), (26, u)] σ Q = (u = 1 ∧ isP p ∧ planB σ p ∧ tapeOk σ ∧ 0 ≤ σ 1 2 ∧ σ 1 2 ≤ σ 1 1 ∧
(0 ≤ kindF (tsg σ (tsk σ)) ∧ σ (p + 2) (kindF (tsg σ (tsk σ))) < mostK (kindF (tsg σ (tsk σ))) → Q (0, (hIt (tsg σ) (σ 1 1) (kindF (tsg σ (tsk σ))) (firstK (kindF (tsg σ (tsk σ))) + σ (p + 2) (kindF (tsg σ (tsk σ)))) 5 0 (tsk σ + 1) (fillU σ p (kindF (tsg σ (tsk σ))) (σ (p + 2) (kindF (tsg σ (tsk σ)))) (p + 1))).1) (up (setv (up σ (p + 2) (kindF (tsg σ (tsk σ))) (σ (p + 2) (kindF (tsg σ (tsk σ))) + 1)) (p + 1) (hIt (tsg σ) (σ 1 1) (kindF (tsg σ (tsk σ))) (firstK (kindF (tsg σ (tsk σ))) + σ (p + 2) (kindF (tsg σ (tsk σ)))) 5 0 (tsk σ + 1) (fillU σ p (kindF (tsg σ (tsk σ))) (σ (p + 2) (kindF (tsg σ (tsk σ)))) (p + 1))).2.2) 1 2 (hIt (tsg σ) (σ 1 1) (kindF (tsg σ (tsk σ))) (firstK (kindF (tsg σ (tsk σ))) + σ (p + 2) (kindF (tsg σ (tsk σ)))) 5 0 (tsk σ + 1) (fillU σ p (kindF (tsg σ (tsk σ))) (σ (p + 2) (kindF (tsg σ (tsk σ)))) (p + 1))).2.1)) ∧
(¬ (0 ≤ kindF (tsg σ (tsk σ)) ∧ σ (p + 2) (kindF (tsg σ (tsk σ))) < mostK (kindF (tsg σ (tsk σ)))) → Q (0, tsk σ) (up σ 1 2 (tsk σ)))) := by
  apply propext; constructor
  · rintro ⟨p', u', h9, hb9⟩; cases h9; exact hb9
  · intro hb9; exact ⟨p, u, rfl, hb9⟩

set_option maxRecDepth 100000 in
set_option maxHeartbeats 4000000 in
theorem s_X6_readClause : ∀ av σ Q, w_X6_readClause av σ Q → amCall 5 0 0 TT yX6_readClause cX6_readClause 8 (some .int) av σ Q := by
  rintro av σ Q ⟨p, u, rfl, rfl, hp, hB, ht, h0, h1, h⟩
  have hpb := isP_b hp
  have hq := tsk_bd h0 h1
  have ht0 := ht.1
  have ht1 := ht.2.1
  have hte : ∀ i, σ 1 1 ≤ i → tsg σ i = -1 := fun i hi => (tsg_bd ht i).2.2.2 hi
  have htb := tsg_bd ht (tsk σ)
  generalize hkd : kindF (tsg σ (tsk σ)) = kd at h
  have hkb := kindF_b (tsg σ (tsk σ))
  rw [hkd] at hkb
  obtain ⟨h3, h4⟩ := h
  generalize hR : hIt (tsg σ) (σ 1 1) kd (firstK kd + σ (p + 2) kd) 5 0 (tsk σ + 1) (fillU σ p kd (σ (p + 2) kd) (p + 1)) = R at h3
  refine am_m [38] (inv_clause σ p kd R) (own := RX6) (A := look a_X6_readClause) (fun X e1 e2 hB => o_X6_readClause e1 e2 hB) rfl (by decide +kernel) rfl rfl ?_ ⟨90, ?_⟩ (w := 8)
  · rintro n pc ls st σ' ⟨rfl, rfl, told, i, pos, v, v5, v6, v7, rfl, rfl, hkd0, hkc, hto0, hto1, hi0, hin, hp0, hp1, hv, hr⟩
    have hmk := mostK_b kd
    have hcb := hB.1 kd hkd0 hkb.2
    have M0 : ∀ x b, b ≠ 1 → b ≠ p + 1 → b ≠ p + 2 → up (setv (up σ (p + 2) kd (σ (p + 2) kd + 1)) (p + 1) v) 1 2 x b = σ b := fun x b g1 g2 g3 => by
      rw [up_na _ g1, setv_o _ _ g2, up_na _ g3]
    have M11 : ∀ x, up (setv (up σ (p + 2) kd (σ (p + 2) kd + 1)) (p + 1) v) 1 2 x 1 1 = σ 1 1 := fun x => by
      rw [up_n _ (Or.inr (by decide)), setv_o _ _ (by omega), up_n _ (Or.inl (by omega))]
    have M2 : ∀ x k, up (setv (up σ (p + 2) kd (σ (p + 2) kd + 1)) (p + 1) v) 1 2 x (p + 2) k = up σ (p + 2) kd (σ (p + 2) kd + 1) (p + 2) k := fun x k => by
      rw [up_n _ (Or.inl (by omega)), setv_o _ _ (by omega)]
    have Mt : ∀ x, tsg (up (setv (up σ (p + 2) kd (σ (p + 2) kd + 1)) (p + 1) v) 1 2 x) = tsg σ := fun x => tsg_cong (M11 x) (M0 x 2 (by omega) (by omega) (by omega))
    have MtO : ∀ x, tapeOk (up (setv (up σ (p + 2) kd (σ (p + 2) kd + 1)) (p + 1) v) 1 2 x) = True := fun x => eq_true (by
      unfold tapeOk; rw [M11, M0 x 2 (by omega) (by omega) (by omega)]; exact ht)
    have MB : ∀ x, planB (up (setv (up σ (p + 2) kd (σ (p + 2) kd + 1)) (p + 1) v) 1 2 x) p = True := fun x => eq_true (by
      refine ⟨fun k a b => ?_, fun j a b => ?_⟩
      · rw [M2, up_at]; split
        · omega
        · exact hB.1 k a b
      · rw [up_n _ (Or.inl (by omega)), setv_s]; exact hv j a b)
    have Mk : ∀ x, tsk (up (setv (up σ (p + 2) kd (σ (p + 2) kd + 1)) (p + 1) v) 1 2 x) = sk (tsg σ) (σ 1 1) x := fun x => by
      rw [tsk_sk, Mt, M11, up_s]
    have Mu : ∀ x k' y, up (up (setv (up σ (p + 2) kd (σ (p + 2) kd + 1)) (p + 1) v) 1 2 x) (p + 1) k' y = up (setv (up σ (p + 2) kd (σ (p + 2) kd + 1)) (p + 1) (upf v k' y)) 1 2 x := fun x k' y => by
      rw [← up_setv]
      funext b j; unfold up
      by_cases g1 : b = p + 1 ∧ j = k'
      · rw [if_pos g1, if_neg (by omega), if_pos g1]
      · rw [if_neg g1, if_neg g1]
    have s1 := sk_b (tsg σ) hp1
    have b1 := tsg_bd ht (sk (tsg σ) (σ 1 1) pos)
    refine ⟨130, ?_⟩
    simp only [vI_e, vL_e, vNull_e, vIload_e, vLload_e, vAload_e, vIstore_e, vLstore_e, vAstore_e, vIinc_e, vIadd_e, vIsub_e, vImul_e, vIand_e, vIor_e, vIxor_e, vIshl_e, vIshr_e, vIushr_e, vIdiv_e, vIrem_e, vLadd_e, vLsub_e, vLmul_e, vLand_e, vLor_e, vLxor_e, vLdiv_e, vLrem_e, vLushr_e, vLshl_e, vLcmp_e, vIneg_e, vI2l_e, vL2i_e, vI2b_e, vI2c_e, vDup_e, vPop_e, vDup2_e, vGoto_e, vIcEq_e, vIfEq_e, vIcNe_e, vIfNe_e, vIcLt_e, vIfLt_e, vIcGe_e, vIfGe_e, vIcGt_e, vIfGt_e, vIcLe_e, vIfLe_e, vNonnull_e, vSw_e, vGetI_e, vGetL_e, vGetR_e, vPutI_e, vPutZ_e, vPutL_e, vPutR_e, vIald_e, vIald_s, vLald_e, vBald_e, vBald_s, vAald_e, vIast_e, vLast_e, vBast_e, vAast_e, vAlen_e8, vAlen_e9, vAlen_e10, vAlen_e11, vAlen_e5, vAlen_e3, vGets_e, vCompact_e, vLdcS_e, vIret_e, vZret_e, vCret_e, vBret_e, vLret_e, vVret_e, vAret_e, vCallM_e0, vCallMV_e0, vCallS_e0, vCallSV_e0, vCallM_e1, vCallMV_e1, vCallS_e1, vCallSV_e1, vCallM_e2, vCallMV_e2, vCallS_e2, vCallSV_e2, vCallM_e3, vCallMV_e3, vCallS_e3, vCallSV_e3, vCallM_e4, vCallMV_e4, vCallS_e4, vCallSV_e4, vCallM_e5, vCallMV_e5, vCallS_e5, vCallSV_e5, vCallM_e6, vCallMV_e6, vCallS_e6, vCallSV_e6, vCallM_e7, vCallMV_e7, vCallS_e7, vCallSV_e7, vBad_e, vStrVal_e, vStrCod_e, vForm_e, vCallT_e0, vCallT_e1, vCallT_e2, vCopy_e, rf_0_0, rf_0_1, rf_0_2, rf_0_3, rf_0_4, rf_0_7, rf_0_10, rf_0_11, rf_0_12, rf_0_13, rf_0_14, rf_0_15, rf_0_16, rf_1_0, rf_3_0, rf_3_1, rf_6_0, rf_6_1, rf_9_0, rf_9_1, rf_9_3, rf_13_0, rf_13_1, rf_13_2, rf_16_0, rf_16_1, rf_16_2, rf_16_3, rf_21_0, rf_21_1, rf_21_2, rf_21_3, rf_26_0, rf_26_1, rf_26_2, rf_26_3, rf_26_4, rf_26_5, rf_26_6, rf_31_0, rf_31_2, rf_31_5, rf_31_6, rf_36_0, rf_36_1, rf_36_2, rf_36_3, rf_39_0, rf_39_1, rf_39_2, rf_41_0, rf_41_1, rf_41_2, rf_41_3, rf_5000_1, rf_5000_2, rf_5000_3, rf_5000_4, rf_5000_5, rf_5000_15, rf_5000_16, rf_5000_18, rf_5000_19, rf_5000_20, rf_5000_21, rf_5000_22, rf_5000_23, rf_5000_24, rf_5000_25, rf_5000_26, rf_5000_27, rf_5000_36, rf_5000_37, rf_5000_40, rf_5000_41, rf_5000_42, rf_5000_43, rf_5000_44, rf_5000_45, rf_5000_47, rf_5000_52, rf_5000_54, rf_5000_55, rf_100_0, rf_100_1, rf_103_0, rf_103_1, rf_106_0, rf_106_1, rf_109_0, rf_109_1, al_2, al_4, al_5, al_7, al_8, al_10, al_11, al_12, al_14, al_15, al_17, al_18, al_19, al_20, al_22, al_23, al_24, al_25, al_27, al_28, al_29, al_30, al_32, al_33, al_34, al_35, al_37, al_38, al_40, al_42, al_5001, al_5002, al_5003, al_5004, al_5005, al_5006, al_5007, al_5008, al_5009, al_5010, al_5011, al_5012, al_5013, al_5014, al_5015, al_5016, al_5017, al_5018, al_5019, al_5020, al_5021, al_5022, al_5023, al_5024, al_5025, al_5026, al_9000, al_101, al_102, al_104, al_105, al_107, al_108, al_110, al_111, vcs_e, lg_c0, lg_cs, lg_nil, set_c0, set_cs, okst_0, okst_s, acok_n, acok_c, List.contains_nil, List.contains_cons, Bool.or_false, Bool.false_or, Bool.false_eq_true, if_false, if_true, ite_self, ne_eq, true_and, and_true, not_false_eq_true, not_true_eq_false, false_imp_iff, true_imp_iff, Nat.ble_eq, Bool.and_eq_true, reduceCtorEq, or_false, false_or, or_true, true_or, false_and, and_false, and_self, Int.reduceLE, Int.reduceAdd, Int.reduceSub, Int.reduceMul, Int.reduceNeg, Int.reduceLT, Int.reduceEq, Int.reduceNe, Nat.reduceBEq, Nat.reduceBNe, Nat.reduceEqDiff, amCmp_in, amCmp_lt, amCmp_le, amCmp_gt, amCmp_ge, amCmp_eq, amCmp_ne, Nat.reduceLeDiff, Nat.reduceSub, Bool.and_true, Bool.true_and, Bool.and_self, Bool.or_true, Bool.true_or, isRf_3, isRf_4, isRf_5, isRf_8, isRf_9, isRf_10, isRf_11, isRf_15, isRf_16, isRf_17, isRf_18, isRf_19, isRf_20, isRf_21, isRf_22, isRf_23, isRf_24, isRf_25, isRf_26, isRf_27, isRf_28, k_X6_readClause_0, k_X6_readClause_1, k_X6_readClause_4, k_X6_readClause_6, k_X6_readClause_9, k_X6_readClause_10, k_X6_readClause_11, k_X6_readClause_12, k_X6_readClause_15, k_X6_readClause_18, k_X6_readClause_19, k_X6_readClause_22, k_X6_readClause_23, k_X6_readClause_24, k_X6_readClause_25, k_X6_readClause_28, k_X6_readClause_29, k_X6_readClause_30, k_X6_readClause_33, k_X6_readClause_34, k_X6_readClause_35, k_X6_readClause_36, k_X6_readClause_38, k_X6_readClause_40, k_X6_readClause_41, k_X6_readClause_44, k_X6_readClause_45, k_X6_readClause_48, k_X6_readClause_50, k_X6_readClause_52, k_X6_readClause_53, k_X6_readClause_56, k_X6_readClause_58, k_X6_readClause_60, k_X6_readClause_63, k_X6_readClause_64, k_X6_readClause_65, k_X6_readClause_66, k_X6_readClause_68, k_X6_readClause_71, k_X6_readClause_73, k_X6_readClause_75, k_X6_readClause_76, k_X6_readClause_79, k_X6_readClause_80, k_X6_readClause_82, k_X6_readClause_83, k_X6_readClause_84, k_X6_readClause_85, k_X6_readClause_88, k_X6_readClause_89, k_X6_readClause_92, k_X6_readClause_93, k_X6_readClause_94, k_X6_readClause_95, k_X6_readClause_97, k_X6_readClause_98, k_X6_readClause_99, k_X6_readClause_100, k_X6_readClause_101, k_X6_readClause_102, k_X6_readClause_105, k_X6_readClause_106, k_X6_readClause_107, k_X6_readClause_110, k_X6_readClause_111, k_X6_readClause_112, k_X6_readClause_113, k_X6_readClause_115, k_X6_readClause_118, k_X6_readClause_120, k_X6_readClause_122, k_X6_readClause_123, k_X6_readClause_126, k_X6_readClause_128, k_X6_readClause_129, k_X6_readClause_132, k_X6_readClause_135, k_X6_readClause_136, k_X6_readClause_139, w_X10_ahead_e, w_X10_place_e, w_X6_itemOf_e, w_X6_openClause_e, w_X6_readItem_e, M11, Mt, MtO, MB, Mk, up_s, up_up, skp_fold, M2]
    cases n with
    | zero =>
      unfold hIt at hr
      have := h3 ⟨hkd0, hkc⟩
      rw [← hr] at this
      repeat' (first | assumption | apply And.intro | intro _)
      all_goals first | omega | exact this
    | succ n =>
      unfold hIt at hr
      split at hr
      · rename_i c1
        have := h3 ⟨hkd0, hkc⟩
        rw [← hr] at this
        repeat' (first | assumption | apply And.intro | intro _)
        all_goals first | omega | exact this
      · rename_i c1
        have s2 := sk_lt hte (q := sk (tsg σ) (σ 1 1) pos) (by omega)
        have ib := itemF_b kd (tsg σ (sk (tsg σ) (σ 1 1) pos))
        split at hr
        · rename_i c2
          have := h3 ⟨hkd0, hkc⟩
          rw [← hr] at this
          by_cases c3 : itemF kd (tsg σ (sk (tsg σ) (σ 1 1) pos)) = -1
          · repeat' (first | assumption | apply And.intro | intro _)
            all_goals first | omega | exact this
          · obtain ⟨g1, g2, g3, g4⟩ := bit16' hto0 hto1 (i := itemF kd (tsg σ (sk (tsg σ) (σ 1 1) pos))) (by omega) (by omega)
            rw [g1]
            repeat' (first | assumption | apply And.intro | intro _)
            all_goals first | omega | exact this
        · rename_i c2
          obtain ⟨g1, g2, g3, g4⟩ := bit16' hto0 hto1 (i := itemF kd (tsg σ (sk (tsg σ) (σ 1 1) pos))) (by omega) (by omega)
          rw [if_neg (by omega)] at g2
          rw [g1, g2]
          have s3 := sk_b (tsg σ) (n := σ 1 1) (p := sk (tsg σ) (σ 1 1) pos + 1) (by omega)
          have s4 := ndig_le hte 2 (sk (tsg σ) (σ 1 1) (sk (tsg σ) (σ 1 1) pos + 1)) (by omega)
          have s5 := ndig_bd (tsg σ) 2 (sk (tsg σ) (σ 1 1) (sk (tsg σ) (σ 1 1) pos + 1))
          split at hr
          · rename_i c3
            have := h3 ⟨hkd0, hkc⟩
            rw [← hr] at this
            rw [if_pos c3]
            repeat' (first | assumption | apply And.intro | intro _)
            all_goals first | omega | exact this
          · rename_i c3
            rw [if_neg c3]
            split at hr
            · rename_i c4
              rw [if_pos c4, Mu, show (firstK kd + (σ (p + 2) kd + 1 - 1)) = firstK kd + σ (p + 2) kd by omega]
              repeat' (first | assumption | apply And.intro | intro _)
              all_goals first | omega | exact ⟨n, by omega, rfl, rfl, _, _, _, _, _, _, _, rfl, rfl, hkd0, hkc, g3, g4 (by omega), by omega, by omega, by omega, by omega, rowB_up hv (nval2_b _ _), hr⟩
            · rename_i c4
              have := h3 ⟨hkd0, hkc⟩
              rw [← hr] at this
              rw [if_neg c4]
              repeat' (first | assumption | apply And.intro | intro _)
              all_goals first | omega | exact this
  · change vcs _ _ _ _ 90 0 [(22, p), (26, 1), (6, 0), (6, 0), (6, 0), (6, 0), (6, 0), (6, 0)] [] σ
    have ek : (if tsg σ (tsk σ) = -1 then (-1 : Int) else fidx (stv 20100) (tsg σ (tsk σ)) 0 (4 : Int).toNat) = kd := hkd
    have htA : tapeOk σ = True := eq_true ht
    have hB9 : ∀ x, planB (up σ 1 2 x) p = True := fun x => eq_true (by
      refine ⟨fun k a b => ?_, fun j a b => ?_⟩
      · rw [up_n σ (Or.inl (by omega))]; exact hB.1 k a b
      · rw [up_n σ (Or.inl (by omega))]; exact hB.2 j a b)
    have e2 : ∀ x k, up σ 1 2 x (p + 2) k = σ (p + 2) k := fun x k => up_n σ (Or.inl (by omega))
    have eat : ∀ x c d, up (fillU (up σ 1 2 x) p kd c) (p + 2) kd d 1 2 = x := fun x c d => by
      rw [up_n _ (Or.inl (by omega)), fillU_o _ (by omega), up_s]
    have emm : ∀ x y, up (up (fillU (up σ 1 2 x) p kd (σ (p + 2) kd)) (p + 2) kd (σ (p + 2) kd + 1)) 1 2 y = up (setv (up σ (p + 2) kd (σ (p + 2) kd + 1)) (p + 1) (fillU σ p kd (σ (p + 2) kd) (p + 1))) 1 2 y := fun x y => by
      funext b j
      unfold up setv
      dsimp only
      by_cases g1 : b = 1 ∧ j = 2
      · rw [if_pos g1, if_pos g1]
      · rw [if_neg g1, if_neg g1]
        by_cases g2 : b = p + 2 ∧ j = kd
        · rw [if_pos g2, if_neg (by omega), if_pos g2]
        · rw [if_neg g2, if_neg g2]
          by_cases g3 : b = p + 1
          · subst g3
            rw [if_pos rfl]
            unfold fillU
            dsimp only
            rw [if_neg (c := p + 1 = 1 ∧ j = 2) (by omega)]
          · rw [if_neg g3, fillU_o _ g3, if_neg g1]
    simp only [vI_e, vL_e, vNull_e, vIload_e, vLload_e, vAload_e, vIstore_e, vLstore_e, vAstore_e, vIinc_e, vIadd_e, vIsub_e, vImul_e, vIand_e, vIor_e, vIxor_e, vIshl_e, vIshr_e, vIushr_e, vIdiv_e, vIrem_e, vLadd_e, vLsub_e, vLmul_e, vLand_e, vLor_e, vLxor_e, vLdiv_e, vLrem_e, vLushr_e, vLshl_e, vLcmp_e, vIneg_e, vI2l_e, vL2i_e, vI2b_e, vI2c_e, vDup_e, vPop_e, vDup2_e, vGoto_e, vIcEq_e, vIfEq_e, vIcNe_e, vIfNe_e, vIcLt_e, vIfLt_e, vIcGe_e, vIfGe_e, vIcGt_e, vIfGt_e, vIcLe_e, vIfLe_e, vNonnull_e, vSw_e, vGetI_e, vGetL_e, vGetR_e, vPutI_e, vPutZ_e, vPutL_e, vPutR_e, vIald_e, vIald_s, vLald_e, vBald_e, vBald_s, vAald_e, vIast_e, vLast_e, vBast_e, vAast_e, vAlen_e8, vAlen_e9, vAlen_e10, vAlen_e11, vAlen_e5, vAlen_e3, vGets_e, vCompact_e, vLdcS_e, vIret_e, vZret_e, vCret_e, vBret_e, vLret_e, vVret_e, vAret_e, vCallM_e0, vCallMV_e0, vCallS_e0, vCallSV_e0, vCallM_e1, vCallMV_e1, vCallS_e1, vCallSV_e1, vCallM_e2, vCallMV_e2, vCallS_e2, vCallSV_e2, vCallM_e3, vCallMV_e3, vCallS_e3, vCallSV_e3, vCallM_e4, vCallMV_e4, vCallS_e4, vCallSV_e4, vCallM_e5, vCallMV_e5, vCallS_e5, vCallSV_e5, vCallM_e6, vCallMV_e6, vCallS_e6, vCallSV_e6, vCallM_e7, vCallMV_e7, vCallS_e7, vCallSV_e7, vBad_e, vStrVal_e, vStrCod_e, vForm_e, vCallT_e0, vCallT_e1, vCallT_e2, vCopy_e, rf_0_0, rf_0_1, rf_0_2, rf_0_3, rf_0_4, rf_0_7, rf_0_10, rf_0_11, rf_0_12, rf_0_13, rf_0_14, rf_0_15, rf_0_16, rf_1_0, rf_3_0, rf_3_1, rf_6_0, rf_6_1, rf_9_0, rf_9_1, rf_9_3, rf_13_0, rf_13_1, rf_13_2, rf_16_0, rf_16_1, rf_16_2, rf_16_3, rf_21_0, rf_21_1, rf_21_2, rf_21_3, rf_26_0, rf_26_1, rf_26_2, rf_26_3, rf_26_4, rf_26_5, rf_26_6, rf_31_0, rf_31_2, rf_31_5, rf_31_6, rf_36_0, rf_36_1, rf_36_2, rf_36_3, rf_39_0, rf_39_1, rf_39_2, rf_41_0, rf_41_1, rf_41_2, rf_41_3, rf_5000_1, rf_5000_2, rf_5000_3, rf_5000_4, rf_5000_5, rf_5000_15, rf_5000_16, rf_5000_18, rf_5000_19, rf_5000_20, rf_5000_21, rf_5000_22, rf_5000_23, rf_5000_24, rf_5000_25, rf_5000_26, rf_5000_27, rf_5000_36, rf_5000_37, rf_5000_40, rf_5000_41, rf_5000_42, rf_5000_43, rf_5000_44, rf_5000_45, rf_5000_47, rf_5000_52, rf_5000_54, rf_5000_55, rf_100_0, rf_100_1, rf_103_0, rf_103_1, rf_106_0, rf_106_1, rf_109_0, rf_109_1, al_2, al_4, al_5, al_7, al_8, al_10, al_11, al_12, al_14, al_15, al_17, al_18, al_19, al_20, al_22, al_23, al_24, al_25, al_27, al_28, al_29, al_30, al_32, al_33, al_34, al_35, al_37, al_38, al_40, al_42, al_5001, al_5002, al_5003, al_5004, al_5005, al_5006, al_5007, al_5008, al_5009, al_5010, al_5011, al_5012, al_5013, al_5014, al_5015, al_5016, al_5017, al_5018, al_5019, al_5020, al_5021, al_5022, al_5023, al_5024, al_5025, al_5026, al_9000, al_101, al_102, al_104, al_105, al_107, al_108, al_110, al_111, vcs_e, lg_c0, lg_cs, lg_nil, set_c0, set_cs, okst_0, okst_s, acok_n, acok_c, List.contains_nil, List.contains_cons, Bool.or_false, Bool.false_or, Bool.false_eq_true, if_false, if_true, ite_self, ne_eq, true_and, and_true, not_false_eq_true, not_true_eq_false, false_imp_iff, true_imp_iff, Nat.ble_eq, Bool.and_eq_true, reduceCtorEq, or_false, false_or, or_true, true_or, false_and, and_false, and_self, Int.reduceLE, Int.reduceAdd, Int.reduceSub, Int.reduceMul, Int.reduceNeg, Int.reduceLT, Int.reduceEq, Int.reduceNe, Nat.reduceBEq, Nat.reduceBNe, Nat.reduceEqDiff, amCmp_in, amCmp_lt, amCmp_le, amCmp_gt, amCmp_ge, amCmp_eq, amCmp_ne, Nat.reduceLeDiff, Nat.reduceSub, Bool.and_true, Bool.true_and, Bool.and_self, Bool.or_true, Bool.true_or, isRf_3, isRf_4, isRf_5, isRf_8, isRf_9, isRf_10, isRf_11, isRf_15, isRf_16, isRf_17, isRf_18, isRf_19, isRf_20, isRf_21, isRf_22, isRf_23, isRf_24, isRf_25, isRf_26, isRf_27, isRf_28, k_X6_readClause_0, k_X6_readClause_1, k_X6_readClause_4, k_X6_readClause_6, k_X6_readClause_9, k_X6_readClause_10, k_X6_readClause_11, k_X6_readClause_12, k_X6_readClause_15, k_X6_readClause_18, k_X6_readClause_19, k_X6_readClause_22, k_X6_readClause_23, k_X6_readClause_24, k_X6_readClause_25, k_X6_readClause_28, k_X6_readClause_29, k_X6_readClause_30, k_X6_readClause_33, k_X6_readClause_34, k_X6_readClause_35, k_X6_readClause_36, k_X6_readClause_38, k_X6_readClause_40, k_X6_readClause_41, k_X6_readClause_44, k_X6_readClause_45, k_X6_readClause_48, k_X6_readClause_50, k_X6_readClause_52, k_X6_readClause_53, k_X6_readClause_56, k_X6_readClause_58, k_X6_readClause_60, k_X6_readClause_63, k_X6_readClause_64, k_X6_readClause_65, k_X6_readClause_66, k_X6_readClause_68, k_X6_readClause_71, k_X6_readClause_73, k_X6_readClause_75, k_X6_readClause_76, k_X6_readClause_79, k_X6_readClause_80, k_X6_readClause_82, k_X6_readClause_83, k_X6_readClause_84, k_X6_readClause_85, k_X6_readClause_88, k_X6_readClause_89, k_X6_readClause_92, k_X6_readClause_93, k_X6_readClause_94, k_X6_readClause_95, k_X6_readClause_97, k_X6_readClause_98, k_X6_readClause_99, k_X6_readClause_100, k_X6_readClause_101, k_X6_readClause_102, k_X6_readClause_105, k_X6_readClause_106, k_X6_readClause_107, k_X6_readClause_110, k_X6_readClause_111, k_X6_readClause_112, k_X6_readClause_113, k_X6_readClause_115, k_X6_readClause_118, k_X6_readClause_120, k_X6_readClause_122, k_X6_readClause_123, k_X6_readClause_126, k_X6_readClause_128, k_X6_readClause_129, k_X6_readClause_132, k_X6_readClause_135, k_X6_readClause_136, k_X6_readClause_139, w_X10_ahead_e, w_X10_place_e, w_X6_itemOf_e, w_X6_openClause_e, w_X6_readItem_e, htA, hB9, stl_20100, ← tsk.eq_1, ek, e2, eat, emm, up_s]
    have hv0 : rowB (fillU σ p kd (σ (p + 2) kd) (p + 1)) := (fillU_B hB kd (σ (p + 2) kd)).2
    by_cases c : 0 ≤ kd ∧ σ (p + 2) kd < mostK kd
    · have s2 : tsk σ < σ 1 1 := sk_lt hte (kindF_n (s := tsg σ (tsk σ)) (by rw [hkd]; exact c.1))
      repeat' (first | assumption | apply And.intro | intro _)
      all_goals first | omega | exact ⟨5, rfl, rfl, 0, 0, tsk σ + 1, _, _, _, _, rfl, rfl, c.1, c.2, by omega, by omega, by omega, by omega, by omega, by omega, hv0, hR⟩
    · have := h4 c
      repeat' (first | assumption | apply And.intro | intro _)
      all_goals first | omega | exact this
