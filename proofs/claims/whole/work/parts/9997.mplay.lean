/-! the reference: a PLAY -/
theorem bor_at0 : ∀ x : Nat, x < 64 → ∀ k : Nat, k < 6 → bt (x : Int) (k : Int) = 0 → amIor (x : Int) (amIshl 1 (k : Int)) = (x : Int) + 2 ^ k := by decide +kernel
theorem bor_at {x : Int} {k : Nat} (h0 : 0 ≤ x) (h1 : x < 64) (hk : k < 6) (hb : bt x k = 0) : amIor x (amIshl 1 (k : Int)) = x + 2 ^ k := by
  have := bor_at0 x.toNat (by omega) k hk
  rw [show ((x.toNat : Nat) : Int) = x by omega] at this
  exact this hb
theorem gb_c {P P' : Int → Bool} : ∀ {n : Nat}, (∀ i : Int, 0 ≤ i → i < n → P i = P' i) → gb P n = gb P' n := by
  intro n
  induction n with
  | zero => intro _; rfl
  | succ n ih =>
    intro h
    unfold gb
    rw [ih (fun i a b => h i a (by omega)), h n (by omega) (by omega)]
theorem gb_set {P P' : Int → Bool} {j : Nat} (h1 : P j = false) (h2 : P' j = true) (ho : ∀ i : Int, i ≠ j → P i = P' i) : ∀ {n : Nat}, j < n → gb P' n = gb P n + 2 ^ j := by
  intro n
  induction n with
  | zero => intro h; omega
  | succ n ih =>
    intro h
    unfold gb
    by_cases e : j = n
    · subst e
      rw [h1, h2, if_pos rfl, if_neg (by decide), gb_c (P := P') (P' := P) (fun i _ b => (ho i (by omega)).symm)]
      omega
    · rw [ih (by omega), ho n (by omega)]
      omega
theorem gb_all0 : ∀ x : Nat, x < 64 → gb (fun c => decide (bt (x : Int) c = 1)) 6 = (x : Int) := by decide +kernel
/-- who is OUT behind MINUTE k - 1 -/
def mOu (σ : Mem) (w p : Int) : Nat → Int
  | 0 => 0
  | k + 1 => gb (fun c => decide (bt (mOu σ w p k) c = 1 ∨ σ 5005 0 ≤ mMn σ w p k (mOu σ w p k) c)) (σ 5000 29).toNat
def mFl (σ : Mem) (w p : Int) : Nat → Int → Int
  | 0, _ => 0
  | k + 1, c => mFl σ w p k c + mMn σ w p k (mOu σ w p k) c
def mOa (σ : Mem) (w p : Int) : Nat → Int → Int
  | 0, _ => -1
  | k + 1, c => if bt (mOu σ w p k) c = 0 ∧ σ 5005 0 ≤ mMn σ w p k (mOu σ w p k) c then k else mOa σ w p k c
theorem mOu_b (σ : Mem) (w p : Int) (h : σ 5000 29 ≤ 6) (k : Nat) : 0 ≤ mOu σ w p k ∧ mOu σ w p k < 64 := by
  cases k with
  | zero => exact (show (0 : Int) ≤ 0 ∧ (0 : Int) < 64 by decide)
  | succ k => exact gb_64 _ (by omega)
theorem mMn_out {σ : Mem} {w p k o c : Int} (h : bt o c = 1) : mMn σ w p k o c = 0 := by unfold mMn; rw [if_pos (Or.inl h)]
/-- within a MINUTE, behind j CHAIRS -/
def mOj (σ : Mem) (w p : Int) (k j : Nat) : Int := gb (fun c => decide (bt (mOu σ w p k) c = 1 ∨ (c < (j : Int) ∧ σ 5005 0 ≤ mMn σ w p k (mOu σ w p k) c))) (σ 5000 29).toNat
theorem mOj_0 {σ : Mem} {w p : Int} (h0 : 0 ≤ σ 5000 29) (h6 : σ 5000 29 ≤ 6) (k : Nat) : mOj σ w p k 0 = mOu σ w p k := by
  have hb := mOu_b σ w p h6 k
  have key : ∀ x : Int, 0 ≤ x → x < 64 → (∀ i : Int, σ 5000 29 ≤ i → i < 6 → bt x i = 0) → gb (fun c => decide (bt x c = 1 ∨ (c < ((0 : Nat) : Int) ∧ σ 5005 0 ≤ mMn σ w p k x c))) (σ 5000 29).toNat = x := by
    intro x x0 x1 hx
    have e : gb (fun c => decide (bt x c = 1 ∨ (c < ((0 : Nat) : Int) ∧ σ 5005 0 ≤ mMn σ w p k x c))) (σ 5000 29).toNat = gb (fun c => decide (bt x c = 1)) 6 := by
      have e1 : ∀ n : Nat, n ≤ 6 → (∀ i : Int, n ≤ i → i < 6 → bt x i = 0) → gb (fun c => decide (bt x c = 1)) 6 = gb (fun c => decide (bt x c = 1)) n := by
        intro n hn hz
        obtain ⟨d, hd⟩ : ∃ d, n + d = 6 := ⟨6 - n, by omega⟩
        induction d generalizing n with
        | zero => rw [show n = 6 by omega]
        | succ d ih =>
          rw [ih (n + 1) (by omega) (fun i a b => hz i (by omega) b) (by omega)]
          show gb (fun c => decide (bt x c = 1)) n + (if decide (bt x n = 1) = true then 2 ^ n else 0) = _
          rw [hz n (by omega) (by omega), if_neg (by decide), Int.add_zero]
      rw [e1 (σ 5000 29).toNat (by omega) (fun i a b => hx i (by omega) b)]
      refine gb_c (fun i i0 i1 => ?_)
      by_cases hq : bt x i = 1
      · rw [decide_eq_true hq, decide_eq_true (Or.inl hq)]
      · rw [decide_eq_false hq, decide_eq_false (fun o => o.elim hq (fun q => by omega))]
    rw [e]
    have := gb_all0 x.toNat (by omega)
    rw [show ((x.toNat : Nat) : Int) = x by omega] at this; exact this
  unfold mOj
  refine key _ hb.1 hb.2 (fun i i0 i1 => ?_)
  cases k with
  | zero => exact bt_0 i
  | succ k =>
    show bt (gb _ (σ 5000 29).toNat) i = 0
    rw [gb_bit _ (by omega) i1 _ (by omega), if_neg (by omega)]
theorem mOj_s {σ : Mem} {w p : Int} (h0 : 0 ≤ σ 5000 29) (h6 : σ 5000 29 ≤ 6) (k : Nat) : mOj σ w p k (σ 5000 29).toNat = mOu σ w p (k + 1) := by
  unfold mOj
  refine gb_c (fun i i0 i1 => ?_)
  have e : (bt (mOu σ w p k) i = 1 ∨ (i < (((σ 5000 29).toNat : Nat) : Int) ∧ σ 5005 0 ≤ mMn σ w p k (mOu σ w p k) i)) = (bt (mOu σ w p k) i = 1 ∨ σ 5005 0 ≤ mMn σ w p k (mOu σ w p k) i) := by
    apply propext; constructor
    · rintro (h | h)
      · exact Or.inl h
      · exact Or.inr h.2
    · rintro (h | h)
      · exact Or.inl h
      · exact Or.inr ⟨i1, h⟩
  simp only [e]
theorem mOj_b {σ : Mem} {w p : Int} (h6 : σ 5000 29 ≤ 6) (k j : Nat) : 0 ≤ mOj σ w p k j ∧ mOj σ w p k j < 64 := gb_64 _ (by omega)
theorem mOj_bit {σ : Mem} {w p : Int} (h6 : σ 5000 29 ≤ 6) (k : Nat) {j : Nat} (hj : (j : Int) < σ 5000 29) : bt (mOj σ w p k j) j = bt (mOu σ w p k) j := by
  unfold mOj
  rw [gb_bit _ (by omega) (by omega) _ (by omega)]
  have hb := bt_b (mOu σ w p k) j
  by_cases c : bt (mOu σ w p k) j = 1
  · rw [if_pos ⟨by omega, decide_eq_true (Or.inl c)⟩, c]
  · rw [if_neg (fun q => by
      have := of_decide_eq_true q.2
      rcases this with h | h
      · exact c h
      · omega)]
    omega
theorem mOj_n {σ : Mem} {w p : Int} (k : Nat) {j : Nat} (hc : bt (mOu σ w p k) j = 1 ∨ ¬ σ 5005 0 ≤ mMn σ w p k (mOu σ w p k) j) : mOj σ w p k (j + 1) = mOj σ w p k j := by
  unfold mOj
  refine gb_c (fun i i0 i1 => ?_)
  by_cases e : i = j
  · subst e
    rcases hc with h | h
    · rw [decide_eq_true (Or.inl h), decide_eq_true (Or.inl h)]
    · by_cases g : bt (mOu σ w p k) j = 1
      · rw [decide_eq_true (Or.inl g), decide_eq_true (Or.inl g)]
      · rw [decide_eq_false (fun o => o.elim g (fun q => h q.2)), decide_eq_false (fun o => o.elim g (fun q => h q.2))]
  · simp only [show (i < ((j + 1 : Nat) : Int)) = (i < (j : Int)) from propext (by omega)]
theorem mOj_y {σ : Mem} {w p : Int} (k : Nat) {j : Nat} (hj : (j : Int) < σ 5000 29) (hc : bt (mOu σ w p k) j ≠ 1) (hl : σ 5005 0 ≤ mMn σ w p k (mOu σ w p k) j) : mOj σ w p k (j + 1) = mOj σ w p k j + 2 ^ j := by
  unfold mOj
  refine gb_set (j := j) (decide_eq_false (fun o => o.elim hc (fun q => by omega))) (decide_eq_true (Or.inr ⟨by omega, hl⟩)) (fun i hi => ?_) (by omega)
  simp only [show (i < ((j + 1 : Nat) : Int)) = (i < (j : Int)) from propext (by omega)]
/-- what a PLAY may change -/
def PF (σ τ : Mem) : Prop := (∀ b, b ≠ 5000 → b ≠ 5004 → ¬ (5017 ≤ b ∧ b ≤ 5022) → τ b = σ b) ∧ ∀ k, k ≠ 5 → (k < 8 ∨ 14 < k) → k ≠ 17 → k ≠ 46 → τ 5000 k = σ 5000 k
theorem PF_rf (σ : Mem) : PF σ σ := ⟨fun _ _ _ _ => rfl, fun _ _ _ _ _ => rfl⟩
theorem PF_NF {σ τ υ : Mem} (h : PF σ τ) (h' : NF τ υ) : PF σ υ := ⟨fun b h1 h2 h3 => by rw [h'.1 b h1 h2 (by omega) (by omega) (by omega) (by omega)]; exact h.1 b h1 h2 h3, fun k h1 h2 h3 h4 => by rw [h'.2 k h1 h2 h3]; exact h.2 k h1 h2 h3 h4⟩
theorem PF_tr {σ τ υ : Mem} (h : PF σ τ) (h' : PF τ υ) : PF σ υ := ⟨fun b h1 h2 h3 => by rw [h'.1 b h1 h2 h3]; exact h.1 b h1 h2 h3, fun k h1 h2 h3 h4 => by rw [h'.2 k h1 h2 h3 h4]; exact h.2 k h1 h2 h3 h4⟩
theorem PF_up {σ τ : Mem} (h : PF σ τ) {b k v : Int} (hb : b = 5019 ∨ b = 5020) : PF σ (up τ b k v) := ⟨fun c h1 h2 h3 => by rw [up_na _ (by omega)]; exact h.1 c h1 h2 h3, fun j h1 h2 h3 h4 => by rw [up_na _ (by omega)]; exact h.2 j h1 h2 h3 h4⟩
theorem PF_46 {σ τ : Mem} (h : PF σ τ) (v : Int) : PF σ (up τ 5000 46 v) := ⟨fun c h1 h2 h3 => by rw [up_na _ h1]; exact h.1 c h1 h2 h3, fun j h1 h2 h3 h4 => by rw [up_nj _ h4]; exact h.2 j h1 h2 h3 h4⟩
theorem PF_r {σ τ : Mem} (h : PF σ τ) {b : Int} (hb : b < 5000 ∨ (5004 < b ∧ b < 5017) ∨ 5022 < b ∨ (5000 < b ∧ b < 5004)) : τ b = σ b := h.1 b (by omega) (by omega) (by omega)
theorem PF_mRk {σ τ : Mem} (h : PF σ τ) (f g d n k e : Int) : mRk τ f g d n k e = mRk σ f g d n k e := by
  unfold mRk; rw [mwo_c (PF_r h (by decide)) (PF_r h (by decide)), h.2 38 (by decide) (by decide) (by decide) (by decide)]
theorem PF_mMn {σ τ : Mem} (h : PF σ τ) {w : Int} (hw : isW w) (p k o c : Int) : mMn τ w p k o c = mMn σ w p k o c := by
  unfold mMn
  rw [PF_r h (b := w) (by omega), PF_r h (b := 5007) (by decide), PF_r h (b := 5011) (by decide), h.2 29 (by decide) (by decide) (by decide) (by decide), PF_mRk h]
theorem PF_mP {σ τ : Mem} (h : PF σ τ) {w : Int} (hm : mOk τ) (hp : mP σ w) : mP τ w := by
  obtain ⟨hw, -, hl, h1, h2, h3, h4, h5, h6, h7⟩ := hp
  have e29 := h.2 29 (by decide) (by decide) (by decide) (by decide)
  have e28 := h.2 28 (by decide) (by decide) (by decide) (by decide)
  have e30 := h.2 30 (by decide) (by decide) (by decide) (by decide)
  have ew : τ w = σ w := PF_r h (by omega)
  refine ⟨hw, hm, lwIs_c (h.2 7 (by decide) (by decide) (by decide) (by decide)) (h.2 38 (by decide) (by decide) (by decide) (by decide)) hl, ?_⟩
  rw [e29, e28, e30, ew, PF_r h (b := 5007) (by decide), PF_r h (b := 5011) (by decide), PF_r h (b := 5005) (by decide)]
  exact ⟨h1, h2, h3, h4, h5, h6, h7⟩
theorem mFl_b {σ : Mem} {w p : Int} {c : Nat} (hc : (c : Int) < σ 5000 29) : ∀ k : Nat, 0 ≤ mFl σ w p k c ∧ mFl σ w p k c ≤ 99 * k := by
  intro k
  induction k with
  | zero => unfold mFl; omega
  | succ k ih =>
    have := mMn_b (w := w) (p := p) (k := k) (o := mOu σ w p k) hc
    unfold mFl; omega
theorem mOa_b (σ : Mem) (w p c : Int) : ∀ k : Nat, -1 ≤ mOa σ w p k c ∧ mOa σ w p k c < max k 1 := by
  intro k
  induction k with
  | zero => unfold mOa; omega
  | succ k ih => unfold mOa; split <;> omega
theorem sumC_set {f g : Int → Int} {j : Nat} {x : Int} (hj : g j = f j + x) (ho : ∀ i : Int, i ≠ j → g i = f i) : ∀ {n : Nat}, j < n → sumC g n = sumC f n + x := by
  intro n
  induction n with
  | zero => intro h; omega
  | succ n ih =>
    intro h
    unfold sumC
    by_cases e : j = n
    · subst e
      rw [hj, sumC_cong (f := g) (g := f) (fun i _ b => ho i (by omega))]; omega
    · rw [ih (by omega), ho n (by omega)]; omega

theorem wd_1351 : Cond.fieldLink RX12 352 "ArmchairHouseModel" "all" "I" ∈ TBL := tb_tab (List.mem_of_getElem? (i := 1351) (by decide +kernel)) rfl
theorem fl_X12_352 : amFl RX12 12 46 352 RX12 TX12 57 := ⟨rfl, inT_12, by decide, wd_1351⟩
theorem fp_X12_352 : amFp RX12 12 46 352 RX12 TX12 57 tyX12 .int := ⟨fl_X12_352, tyX12_ok, nmX12, by decide +kernel⟩
theorem wd_1347 : Cond.fieldLink RX12 87 "ArmchairHouseModel" "felt" "[I" ∈ TBL := tb_tab (List.mem_of_getElem? (i := 1347) (by decide +kernel)) rfl
theorem fl_X12_87 : amFl RX12 12 42 87 RX12 TX12 57 := ⟨rfl, inT_12, by decide, wd_1347⟩
theorem wd_1348 : Cond.fieldLink RX12 90 "ArmchairHouseModel" "outAt" "[I" ∈ TBL := tb_tab (List.mem_of_getElem? (i := 1348) (by decide +kernel)) rfl
theorem fl_X12_90 : amFl RX12 12 43 90 RX12 TX12 57 := ⟨rfl, inT_12, by decide, wd_1348⟩
theorem wd_1700 : Cond.methodLink RX12 355 yX12_minutes ∈ TBL := tb_tab (List.mem_of_getElem? (i := 1700) (by decide +kernel)) rfl
theorem wd_1703 : Cond.code yX12_minutes cX12_minutes 2 (some .int) ∈ TBL := tb_tab (List.mem_of_getElem? (i := 1703) (by decide +kernel)) rfl
theorem lk_X12_355 : amLk RX12 355 yX12_minutes cX12_minutes 2 (some .int) 1 := ⟨wd_1700, wd_12, wd_1703, by decide +kernel, by decide +kernel, by decide⟩
theorem wd_1702 : Cond.instanceMethod yX12_minutes ∈ TBL := tb_tab (List.mem_of_getElem? (i := 1702) (by decide +kernel)) rfl
theorem sl_X12_minutes : Cond.selects RX12 yX12_minutes yX12_minutes ∈ TBL := tb_sel (List.mem_of_getElem? (i := 79) (by decide +kernel)) rfl
theorem wd_1704 : Cond.methodLink RX12 358 yX12_goMinute ∈ TBL := tb_tab (List.mem_of_getElem? (i := 1704) (by decide +kernel)) rfl
theorem wd_1707 : Cond.code yX12_goMinute cX12_goMinute 7 (none) ∈ TBL := tb_tab (List.mem_of_getElem? (i := 1707) (by decide +kernel)) rfl
theorem lk_X12_358 : amLk RX12 358 yX12_goMinute cX12_goMinute 7 (none) 4 := ⟨wd_1704, wd_12, wd_1707, by decide +kernel, by decide +kernel, by decide⟩
theorem wd_1706 : Cond.instanceMethod yX12_goMinute ∈ TBL := tb_tab (List.mem_of_getElem? (i := 1706) (by decide +kernel)) rfl
theorem sl_X12_goMinute : Cond.selects RX12 yX12_goMinute yX12_goMinute ∈ TBL := tb_sel (List.mem_of_getElem? (i := 80) (by decide +kernel)) rfl
def a_X12_goPlay : AC := [(0, vI 0 1), (1, vIstore 3 2), (2, vAload 0 3), (3, vI 0 4), (4, vPutI 28 46 7), (7, vI 0 8), (8, vIstore 4 10), (10, vIload 4 12), (12, vAload 0 13), (13, vGetI 28 29 16), (16, vIcGe 41 19), (19, vAload 0 20), (20, vGetR TT 28 42 8 23), (23, vIload 4 25), (25, vI 0 26), (26, vIast TT 27), (27, vAload 0 28), (28, vGetR TT 28 43 8 31), (31, vIload 4 33), (33, vI (-1) 34), (34, vIast TT 35), (35, vIinc 4 1 38), (38, vGoto 10), (41, vI 0 42), (42, vIstore 4 44), (44, vIload 4 46), (46, vAload 0 47), (47, vIload 2 48), (48, vCallM w_X12_minutes 28 1 51), (51, vIcGe 167 54), (54, vAload 0 55), (55, vAload 1 56), (56, vIload 2 57), (57, vIload 4 59), (59, vIload 3 60), (60, vCallMV w_X12_goMinute 28 4 63), (63, vI 0 64), (64, vIstore 5 66), (66, vIload 5 68), (68, vAload 0 69), (69, vGetI 28 29 72), (72, vIcGe 161 75), (75, vIload 3 76), (76, vIload 5 78), (78, vCallS w_X12_has 2 81), (81, vIfEq 87 84), (84, vGoto 155), (87, vAload 0 88), (88, vGetR TT 28 42 8 91), (91, vIload 5 93), (93, vDup2 94), (94, vIald TT 95), (95, vAload 0 96), (96, vGetR TT 28 45 8 99), (99, vIload 5 101), (101, vIald TT 102), (102, vIadd 103), (103, vIast TT 104), (104, vAload 0 105), (105, vDup 106), (106, vGetI 28 46 109), (109, vAload 0 110), (110, vGetR TT 28 45 8 113), (113, vIload 5 115), (115, vIald TT 116), (116, vIadd 117), (117, vPutI 28 46 120), (120, vAload 0 121), (121, vGetR TT 28 45 8 124), (124, vIload 5 126), (126, vIald TT 127), (127, vAload 0 128), (128, vGetR TT 28 18 8 131), (131, vI 0 132), (132, vIald TT 133), (133, vIcGe 139 136), (136, vGoto 155), (139, vAload 0 140), (140, vGetR TT 28 43 8 143), (143, vIload 5 145), (145, vIload 4 147), (147, vIast TT 148), (148, vIload 3 149), (149, vI 1 150), (150, vIload 5 152), (152, vIshl 153), (153, vIor 154), (154, vIstore 3 155), (155, vIinc 5 1 158), (158, vGoto 66), (161, vIinc 4 1 164), (164, vGoto 44), (167, vIload 3 168), (168, vIret)]
theorem k_X12_goPlay_0 : look a_X12_goPlay 0 = vI 0 1 := rfl
theorem k_X12_goPlay_1 : look a_X12_goPlay 1 = vIstore 3 2 := rfl
theorem k_X12_goPlay_2 : look a_X12_goPlay 2 = vAload 0 3 := rfl
theorem k_X12_goPlay_3 : look a_X12_goPlay 3 = vI 0 4 := rfl
theorem k_X12_goPlay_4 : look a_X12_goPlay 4 = vPutI 28 46 7 := rfl
theorem k_X12_goPlay_7 : look a_X12_goPlay 7 = vI 0 8 := rfl
theorem k_X12_goPlay_8 : look a_X12_goPlay 8 = vIstore 4 10 := rfl
theorem k_X12_goPlay_10 : look a_X12_goPlay 10 = vIload 4 12 := rfl
theorem k_X12_goPlay_12 : look a_X12_goPlay 12 = vAload 0 13 := rfl
theorem k_X12_goPlay_13 : look a_X12_goPlay 13 = vGetI 28 29 16 := rfl
theorem k_X12_goPlay_16 : look a_X12_goPlay 16 = vIcGe 41 19 := rfl
theorem k_X12_goPlay_19 : look a_X12_goPlay 19 = vAload 0 20 := rfl
theorem k_X12_goPlay_20 : look a_X12_goPlay 20 = vGetR TT 28 42 8 23 := rfl
theorem k_X12_goPlay_23 : look a_X12_goPlay 23 = vIload 4 25 := rfl
theorem k_X12_goPlay_25 : look a_X12_goPlay 25 = vI 0 26 := rfl
theorem k_X12_goPlay_26 : look a_X12_goPlay 26 = vIast TT 27 := rfl
theorem k_X12_goPlay_27 : look a_X12_goPlay 27 = vAload 0 28 := rfl
theorem k_X12_goPlay_28 : look a_X12_goPlay 28 = vGetR TT 28 43 8 31 := rfl
theorem k_X12_goPlay_31 : look a_X12_goPlay 31 = vIload 4 33 := rfl
theorem k_X12_goPlay_33 : look a_X12_goPlay 33 = vI (-1) 34 := rfl
theorem k_X12_goPlay_34 : look a_X12_goPlay 34 = vIast TT 35 := rfl
theorem k_X12_goPlay_35 : look a_X12_goPlay 35 = vIinc 4 1 38 := rfl
theorem k_X12_goPlay_38 : look a_X12_goPlay 38 = vGoto 10 := rfl
theorem k_X12_goPlay_41 : look a_X12_goPlay 41 = vI 0 42 := rfl
theorem k_X12_goPlay_42 : look a_X12_goPlay 42 = vIstore 4 44 := rfl
theorem k_X12_goPlay_44 : look a_X12_goPlay 44 = vIload 4 46 := rfl
theorem k_X12_goPlay_46 : look a_X12_goPlay 46 = vAload 0 47 := rfl
theorem k_X12_goPlay_47 : look a_X12_goPlay 47 = vIload 2 48 := rfl
theorem k_X12_goPlay_48 : look a_X12_goPlay 48 = vCallM w_X12_minutes 28 1 51 := rfl
theorem k_X12_goPlay_51 : look a_X12_goPlay 51 = vIcGe 167 54 := rfl
theorem k_X12_goPlay_54 : look a_X12_goPlay 54 = vAload 0 55 := rfl
theorem k_X12_goPlay_55 : look a_X12_goPlay 55 = vAload 1 56 := rfl
theorem k_X12_goPlay_56 : look a_X12_goPlay 56 = vIload 2 57 := rfl
theorem k_X12_goPlay_57 : look a_X12_goPlay 57 = vIload 4 59 := rfl
theorem k_X12_goPlay_59 : look a_X12_goPlay 59 = vIload 3 60 := rfl
theorem k_X12_goPlay_60 : look a_X12_goPlay 60 = vCallMV w_X12_goMinute 28 4 63 := rfl
theorem k_X12_goPlay_63 : look a_X12_goPlay 63 = vI 0 64 := rfl
theorem k_X12_goPlay_64 : look a_X12_goPlay 64 = vIstore 5 66 := rfl
theorem k_X12_goPlay_66 : look a_X12_goPlay 66 = vIload 5 68 := rfl
theorem k_X12_goPlay_68 : look a_X12_goPlay 68 = vAload 0 69 := rfl
theorem k_X12_goPlay_69 : look a_X12_goPlay 69 = vGetI 28 29 72 := rfl
theorem k_X12_goPlay_72 : look a_X12_goPlay 72 = vIcGe 161 75 := rfl
theorem k_X12_goPlay_75 : look a_X12_goPlay 75 = vIload 3 76 := rfl
theorem k_X12_goPlay_76 : look a_X12_goPlay 76 = vIload 5 78 := rfl
theorem k_X12_goPlay_78 : look a_X12_goPlay 78 = vCallS w_X12_has 2 81 := rfl
theorem k_X12_goPlay_81 : look a_X12_goPlay 81 = vIfEq 87 84 := rfl
theorem k_X12_goPlay_84 : look a_X12_goPlay 84 = vGoto 155 := rfl
theorem k_X12_goPlay_87 : look a_X12_goPlay 87 = vAload 0 88 := rfl
theorem k_X12_goPlay_88 : look a_X12_goPlay 88 = vGetR TT 28 42 8 91 := rfl
theorem k_X12_goPlay_91 : look a_X12_goPlay 91 = vIload 5 93 := rfl
theorem k_X12_goPlay_93 : look a_X12_goPlay 93 = vDup2 94 := rfl
theorem k_X12_goPlay_94 : look a_X12_goPlay 94 = vIald TT 95 := rfl
theorem k_X12_goPlay_95 : look a_X12_goPlay 95 = vAload 0 96 := rfl
theorem k_X12_goPlay_96 : look a_X12_goPlay 96 = vGetR TT 28 45 8 99 := rfl
theorem k_X12_goPlay_99 : look a_X12_goPlay 99 = vIload 5 101 := rfl
theorem k_X12_goPlay_101 : look a_X12_goPlay 101 = vIald TT 102 := rfl
theorem k_X12_goPlay_102 : look a_X12_goPlay 102 = vIadd 103 := rfl
theorem k_X12_goPlay_103 : look a_X12_goPlay 103 = vIast TT 104 := rfl
theorem k_X12_goPlay_104 : look a_X12_goPlay 104 = vAload 0 105 := rfl
theorem k_X12_goPlay_105 : look a_X12_goPlay 105 = vDup 106 := rfl
theorem k_X12_goPlay_106 : look a_X12_goPlay 106 = vGetI 28 46 109 := rfl
theorem k_X12_goPlay_109 : look a_X12_goPlay 109 = vAload 0 110 := rfl
theorem k_X12_goPlay_110 : look a_X12_goPlay 110 = vGetR TT 28 45 8 113 := rfl
theorem k_X12_goPlay_113 : look a_X12_goPlay 113 = vIload 5 115 := rfl
theorem k_X12_goPlay_115 : look a_X12_goPlay 115 = vIald TT 116 := rfl
theorem k_X12_goPlay_116 : look a_X12_goPlay 116 = vIadd 117 := rfl
theorem k_X12_goPlay_117 : look a_X12_goPlay 117 = vPutI 28 46 120 := rfl
theorem k_X12_goPlay_120 : look a_X12_goPlay 120 = vAload 0 121 := rfl
theorem k_X12_goPlay_121 : look a_X12_goPlay 121 = vGetR TT 28 45 8 124 := rfl
theorem k_X12_goPlay_124 : look a_X12_goPlay 124 = vIload 5 126 := rfl
theorem k_X12_goPlay_126 : look a_X12_goPlay 126 = vIald TT 127 := rfl
theorem k_X12_goPlay_127 : look a_X12_goPlay 127 = vAload 0 128 := rfl
theorem k_X12_goPlay_128 : look a_X12_goPlay 128 = vGetR TT 28 18 8 131 := rfl
theorem k_X12_goPlay_131 : look a_X12_goPlay 131 = vI 0 132 := rfl
theorem k_X12_goPlay_132 : look a_X12_goPlay 132 = vIald TT 133 := rfl
theorem k_X12_goPlay_133 : look a_X12_goPlay 133 = vIcGe 139 136 := rfl
theorem k_X12_goPlay_136 : look a_X12_goPlay 136 = vGoto 155 := rfl
theorem k_X12_goPlay_139 : look a_X12_goPlay 139 = vAload 0 140 := rfl
theorem k_X12_goPlay_140 : look a_X12_goPlay 140 = vGetR TT 28 43 8 143 := rfl
theorem k_X12_goPlay_143 : look a_X12_goPlay 143 = vIload 5 145 := rfl
theorem k_X12_goPlay_145 : look a_X12_goPlay 145 = vIload 4 147 := rfl
theorem k_X12_goPlay_147 : look a_X12_goPlay 147 = vIast TT 148 := rfl
theorem k_X12_goPlay_148 : look a_X12_goPlay 148 = vIload 3 149 := rfl
theorem k_X12_goPlay_149 : look a_X12_goPlay 149 = vI 1 150 := rfl
theorem k_X12_goPlay_150 : look a_X12_goPlay 150 = vIload 5 152 := rfl
theorem k_X12_goPlay_152 : look a_X12_goPlay 152 = vIshl 153 := rfl
theorem k_X12_goPlay_153 : look a_X12_goPlay 153 = vIor 154 := rfl
theorem k_X12_goPlay_154 : look a_X12_goPlay 154 = vIstore 3 155 := rfl
theorem k_X12_goPlay_155 : look a_X12_goPlay 155 = vIinc 5 1 158 := rfl
theorem k_X12_goPlay_158 : look a_X12_goPlay 158 = vGoto 66 := rfl
theorem k_X12_goPlay_161 : look a_X12_goPlay 161 = vIinc 4 1 164 := rfl
theorem k_X12_goPlay_164 : look a_X12_goPlay 164 = vGoto 44 := rfl
theorem k_X12_goPlay_167 : look a_X12_goPlay 167 = vIload 3 168 := rfl
theorem k_X12_goPlay_168 : look a_X12_goPlay 168 = vIret := rfl
theorem o_X12_goPlay {X : amX} (e1 : XT X = TT) (e2 : XD X = 59) (hB : amB X RX12 cX12_goPlay (some .int) 6) : ∀ pc, amOK X pc (look a_X12_goPlay pc) := by
  have hT : amTok (XT X) := e1 ▸ TT_ok
  refine look_ok ?_
  unfold a_X12_goPlay
  refine fc (ok_iconst hB dX12_goPlay_0) ?_
  refine fc (ok_istore_n hB (by decide) dX12_goPlay_1) ?_
  refine fc (ok_aload_n hB dX12_goPlay_2) ?_
  refine fc (ok_iconst hB dX12_goPlay_3) ?_
  refine fc (ok_putI hB hT fp_X12_352 rfl rfl rfl af_12_46 dX12_goPlay_4) ?_
  refine fc (ok_iconst hB dX12_goPlay_7) ?_
  refine fc (ok_istore hB (by decide) dX12_goPlay_8) ?_
  refine fc (ok_iload hB dX12_goPlay_10) ?_
  refine fc (ok_aload_n hB dX12_goPlay_12) ?_
  refine fc (ok_getI hB hT fl_X12_317 rfl rfl (Or.inl af_12_29) dX12_goPlay_13) ?_
  refine fc (ok_icmp_ge hB (t := 41) (by decide) dX12_goPlay_16) ?_
  refine fc (ok_aload_n hB dX12_goPlay_19) ?_
  refine fc (okt_getR e1 hB hT fl_X12_87 rfl af_12_42 at_12_42 (by decide) dX12_goPlay_20) ?_
  refine fc (ok_iload hB dX12_goPlay_23) ?_
  refine fc (ok_iconst hB dX12_goPlay_25) ?_
  refine fc (okt_iastore e1 hB dX12_goPlay_26) ?_
  refine fc (ok_aload_n hB dX12_goPlay_27) ?_
  refine fc (okt_getR e1 hB hT fl_X12_90 rfl af_12_43 at_12_43 (by decide) dX12_goPlay_28) ?_
  refine fc (ok_iload hB dX12_goPlay_31) ?_
  refine fc (ok_iconst hB dX12_goPlay_33) ?_
  refine fc (okt_iastore e1 hB dX12_goPlay_34) ?_
  refine fc (ok_iinc hB (by decide) dX12_goPlay_35) ?_
  refine fc (ok_goto hB (t := 10) (by decide) dX12_goPlay_38) ?_
  refine fc (ok_iconst hB dX12_goPlay_41) ?_
  refine fc (ok_istore hB (by decide) dX12_goPlay_42) ?_
  refine fc (ok_iload hB dX12_goPlay_44) ?_
  refine fc (ok_aload_n hB dX12_goPlay_46) ?_
  refine fc (ok_iload_n hB dX12_goPlay_47) ?_
  refine fc (ok_callM hB hT (e1 ▸ s_X12_minutes) lk_X12_355 (by rw [e2]; decide) (c := 12) rfl rfl rfl wd_1702 sl_X12_minutes dX12_goPlay_48) ?_
  refine fc (ok_icmp_ge hB (t := 167) (by decide) dX12_goPlay_51) ?_
  refine fc (ok_aload_n hB dX12_goPlay_54) ?_
  refine fc (ok_aload_n hB dX12_goPlay_55) ?_
  refine fc (ok_iload_n hB dX12_goPlay_56) ?_
  refine fc (ok_iload hB dX12_goPlay_57) ?_
  refine fc (ok_iload_n hB dX12_goPlay_59) ?_
  refine fc (ok_callMV hB hT (e1 ▸ s_X12_goMinute) lk_X12_358 (by rw [e2]; decide) (c := 12) rfl rfl rfl wd_1706 sl_X12_goMinute dX12_goPlay_60) ?_
  refine fc (ok_iconst hB dX12_goPlay_63) ?_
  refine fc (ok_istore hB (by decide) dX12_goPlay_64) ?_
  refine fc (ok_iload hB dX12_goPlay_66) ?_
  refine fc (ok_aload_n hB dX12_goPlay_68) ?_
  refine fc (ok_getI hB hT fl_X12_317 rfl rfl (Or.inl af_12_29) dX12_goPlay_69) ?_
  refine fc (ok_icmp_ge hB (t := 161) (by decide) dX12_goPlay_72) ?_
  refine fc (ok_iload_n hB dX12_goPlay_75) ?_
  refine fc (ok_iload hB dX12_goPlay_76) ?_
  refine fc (ok_callS hB (e1 ▸ s_X12_has) lk_X12_244 (by rw [e2]; decide) wd_1538 dX12_goPlay_78) ?_
  refine fc (ok_if_eq hB (t := 87) (by decide) dX12_goPlay_81) ?_
  refine fc (ok_goto hB (t := 155) (by decide) dX12_goPlay_84) ?_
  refine fc (ok_aload_n hB dX12_goPlay_87) ?_
  refine fc (okt_getR e1 hB hT fl_X12_87 rfl af_12_42 at_12_42 (by decide) dX12_goPlay_88) ?_
  refine fc (ok_iload hB dX12_goPlay_91) ?_
  refine fc (ok_dup2 hB dX12_goPlay_93) ?_
  refine fc (okt_iaload e1 hB dX12_goPlay_94) ?_
  refine fc (ok_aload_n hB dX12_goPlay_95) ?_
  refine fc (okt_getR e1 hB hT fl_X12_96 rfl af_12_45 at_12_45 (by decide) dX12_goPlay_96) ?_
  refine fc (ok_iload hB dX12_goPlay_99) ?_
  refine fc (okt_iaload e1 hB dX12_goPlay_101) ?_
  refine fc (ok_iadd hB dX12_goPlay_102) ?_
  refine fc (okt_iastore e1 hB dX12_goPlay_103) ?_
  refine fc (ok_aload_n hB dX12_goPlay_104) ?_
  refine fc (ok_dup hB dX12_goPlay_105) ?_
  refine fc (ok_getI hB hT fl_X12_352 rfl rfl (Or.inl af_12_46) dX12_goPlay_106) ?_
  refine fc (ok_aload_n hB dX12_goPlay_109) ?_
  refine fc (okt_getR e1 hB hT fl_X12_96 rfl af_12_45 at_12_45 (by decide) dX12_goPlay_110) ?_
  refine fc (ok_iload hB dX12_goPlay_113) ?_
  refine fc (okt_iaload e1 hB dX12_goPlay_115) ?_
  refine fc (ok_iadd hB dX12_goPlay_116) ?_
  refine fc (ok_putI hB hT fp_X12_352 rfl rfl rfl af_12_46 dX12_goPlay_117) ?_
  refine fc (ok_aload_n hB dX12_goPlay_120) ?_
  refine fc (okt_getR e1 hB hT fl_X12_96 rfl af_12_45 at_12_45 (by decide) dX12_goPlay_121) ?_
  refine fc (ok_iload hB dX12_goPlay_124) ?_
  refine fc (okt_iaload e1 hB dX12_goPlay_126) ?_
  refine fc (ok_aload_n hB dX12_goPlay_127) ?_
  refine fc (okt_getR e1 hB hT fl_X12_37 rfl af_12_18 at_12_18 (by decide) dX12_goPlay_128) ?_
  refine fc (ok_iconst hB dX12_goPlay_131) ?_
  refine fc (okt_iaload e1 hB dX12_goPlay_132) ?_
  refine fc (ok_icmp_ge hB (t := 139) (by decide) dX12_goPlay_133) ?_
  refine fc (ok_goto hB (t := 155) (by decide) dX12_goPlay_136) ?_
  refine fc (ok_aload_n hB dX12_goPlay_139) ?_
  refine fc (okt_getR e1 hB hT fl_X12_90 rfl af_12_43 at_12_43 (by decide) dX12_goPlay_140) ?_
  refine fc (ok_iload hB dX12_goPlay_143) ?_
  refine fc (ok_iload hB dX12_goPlay_145) ?_
  refine fc (okt_iastore e1 hB dX12_goPlay_147) ?_
  refine fc (ok_iload_n hB dX12_goPlay_148) ?_
  refine fc (ok_iconst hB dX12_goPlay_149) ?_
  refine fc (ok_iload hB dX12_goPlay_150) ?_
  refine fc (ok_ishl hB dX12_goPlay_152) ?_
  refine fc (ok_ior hB dX12_goPlay_153) ?_
  refine fc (ok_istore_n hB (by decide) dX12_goPlay_154) ?_
  refine fc (ok_iinc hB (by decide) dX12_goPlay_155) ?_
  refine fc (ok_goto hB (t := 66) (by decide) dX12_goPlay_158) ?_
  refine fc (ok_iinc hB (by decide) dX12_goPlay_161) ?_
  refine fc (ok_goto hB (t := 44) (by decide) dX12_goPlay_164) ?_
  refine fc (ok_iload_n hB dX12_goPlay_167) ?_
  refine fc (ok_iret hB dX12_goPlay_168) ?_
  exact fn
def inv_gpl (σ : Mem) (a p : Int) (n pc : Nat) (ls st : List AV) (σ' : Mem) : Prop := st = [] ∧
  ((∃ (c : Nat) (v5 : AV), pc = 10 ∧ ls = [(28, 5000), (8, a), (0, p), (0, 0), (0, (c : Int)), v5] ∧ (n : Int) = 200 + (6 - c) ∧ (c : Int) ≤ σ 5000 29 ∧ PF σ σ' ∧ mOk σ' ∧ σ' 5000 46 = 0 ∧ ∀ j : Int, 0 ≤ j → j < c → σ' 5019 j = 0 ∧ σ' 5020 j = -1) ∨
   (∃ (k : Nat) (v5 : AV), pc = 44 ∧ ls = [(28, 5000), (8, a), (0, p), (0, mOu σ a p k), (0, (k : Int)), v5] ∧ (n : Int) = 10 * (9 - k) + 9 ∧ (k : Int) ≤ σ 5007 (4 * p + 3) ∧ PF σ σ' ∧ mOk σ' ∧ σ' 5000 46 = sumC (mFl σ a p k) (σ 5000 29).toNat ∧ ∀ j : Int, 0 ≤ j → j < σ 5000 29 → σ' 5019 j = mFl σ a p k j ∧ σ' 5020 j = mOa σ a p k j) ∨
   (∃ (k j : Nat), pc = 66 ∧ ls = [(28, 5000), (8, a), (0, p), (0, mOj σ a p k j), (0, (k : Int)), (0, (j : Int))] ∧ (n : Int) = 10 * (9 - k) + (6 - j) ∧ (k : Int) < σ 5007 (4 * p + 3) ∧ (j : Int) ≤ σ 5000 29 ∧ PF σ σ' ∧ mOk σ' ∧ σ' 5000 46 = sumC (fun c => if c < (j : Int) then mFl σ a p (k + 1) c else mFl σ a p k c) (σ 5000 29).toNat ∧ (∀ c : Int, 0 ≤ c → c < σ 5000 29 → σ' 5022 c = mMn σ a p k (mOu σ a p k) c) ∧ ∀ c : Int, 0 ≤ c → c < σ 5000 29 → σ' 5019 c = (if c < (j : Int) then mFl σ a p (k + 1) c else mFl σ a p k c) ∧ σ' 5020 c = if c < (j : Int) then mOa σ a p (k + 1) c else mOa σ a p k c))
def w_X12_goPlay : WP := fun av σ Q => ∃ (a : Int) (p : Int), av = [(28, 5000), (8, a), (0, p)] ∧ (mP σ a ∧ 0 ≤ p ∧ (p < 4 ∧ p < σ 5000 28) ∧ (∀ τ, PF σ τ → mOk τ → τ 5000 46 = sumC (mFl σ a p (σ 5007 (4 * p + 3)).toNat) (σ 5000 29).toNat → (∀ j, 0 ≤ j → j < σ 5000 29 → τ 5019 j = mFl σ a p (σ 5007 (4 * p + 3)).toNat j ∧ τ 5020 j = mOa σ a p (σ 5007 (4 * p + 3)).toNat j) → Q (0, mOu σ a p (σ 5007 (4 * p + 3)).toNat) τ))
theorem w_X12_goPlay_e (a : Int) (p : Int) (σ : Mem) (Q : AV → Mem → Prop) : w_X12_goPlay [(28, 5000), (8, a), (0, p)] σ Q = (mP σ a ∧ 0 ≤ p ∧ (p < 4 ∧ p < σ 5000 28) ∧ (∀ τ, PF σ τ → mOk τ → τ 5000 46 = sumC (mFl σ a p (σ 5007 (4 * p + 3)).toNat) (σ 5000 29).toNat → (∀ j, 0 ≤ j → j < σ 5000 29 → τ 5019 j = mFl σ a p (σ 5007 (4 * p + 3)).toNat j ∧ τ 5020 j = mOa σ a p (σ 5007 (4 * p + 3)).toNat j) → Q (0, mOu σ a p (σ 5007 (4 * p + 3)).toNat) τ)) := by
  apply propext; constructor
  · rintro ⟨a', p', h9, hb9⟩; cases h9; exact hb9
  · intro hb9; exact ⟨a, p, rfl, hb9⟩

set_option maxRecDepth 100000 in
set_option maxHeartbeats 4000000 in
theorem s_X12_goPlay : ∀ av σ Q, w_X12_goPlay av σ Q → amCall 59 0 0 TT yX12_goPlay cX12_goPlay 6 (some .int) av σ Q := by
  rintro av σ Q ⟨a, p, rfl, hP, p0, p1, hq⟩
  obtain ⟨ha, hok, hli, ⟨n0, n6⟩, hcs, hil, hev, hpl, hsi, hl0, hl1⟩ := id hP
  have a0 : 0 ≤ a := by omega
  have hM := hpl (4 * p + 3) (by omega) (by omega)
  refine am_m [10, 44, 66] (inv_gpl σ a p) (own := RX12) (A := look a_X12_goPlay) (fun X e1 e2 hB => o_X12_goPlay e1 e2 hB) rfl (by decide +kernel) rfl rfl ?_ ⟨60, ?_⟩ (w := 6)
  · rintro n pc ls st σ' ⟨rfl, ⟨c, v5, rfl, rfl, hn, hc, hF, hm, h46, hz⟩ | ⟨k, v5, rfl, rfl, hn, hk, hF, hm, h46, hz⟩ | ⟨k, j, rfl, rfl, hn, hk, hj, hF, hm, h46, hmi, hz⟩⟩
    · have e29 := hF.2 29 (by decide) (by decide) (by decide) (by decide)
      refine ⟨60, ?_⟩
      by_cases cc : (c : Int) < σ 5000 29
      · have i9 : ∃ k', k' < n ∧ inv_gpl σ a p k' 10 [(28, 5000), (8, a), (0, p), (0, 0), (0, (c : Int) + 1), v5] [] (up (up σ' 5019 c 0) 5020 c (-1)) := by
          refine ⟨n - 1, by omega, rfl, Or.inl ⟨c + 1, v5, rfl, rfl, by omega, by omega, PF_up (PF_up hF (Or.inl rfl)) (Or.inr rfl), mOk_up (mOk_up hm (by decide)) (by decide), ?_, fun j j0 j1 => ?_⟩⟩
          · rw [up_na _ (by decide), up_na _ (by decide)]; exact h46
          · rw [up_na _ (show (5019 : Int) ≠ 5020 by decide)]
            by_cases e : j = c
            · rw [e, up_s, up_s]; exact ⟨rfl, rfl⟩
            · rw [up_nj _ e, up_nj _ e, up_na _ (by decide)]; exact hz j j0 (by omega)
        simp only [↓reduceIte, inR_0, inR_1, inR_m, vSw2_e, swP_n, swP_c, vI_e, vL_e, vNull_e, vIload_e, vLload_e, vAload_e, vIstore_e, vLstore_e, vAstore_e, vIinc_e, vIadd_e, vIsub_e, vImul_e, vIand_e, vIor_e, vIxor_e, vIshl_e, vIshr_e, vIushr_e, vIdiv_e, vIrem_e, vLadd_e, vLsub_e, vLmul_e, vLand_e, vLor_e, vLxor_e, vLdiv_e, vLrem_e, vLushr_e, vLshl_e, vLcmp_e, vIneg_e, vI2l_e, vL2i_e, vI2b_e, vI2c_e, vDup_e, vPop_e, vDup2_e, vGoto_e, vIcEq_e, vIfEq_e, vIcNe_e, vIfNe_e, vIcLt_e, vIfLt_e, vIcGe_e, vIfGe_e, vIcGt_e, vIfGt_e, vIcLe_e, vIfLe_e, vNonnull_e, vSw_e, vGetI_e, vGetL_e, vGetR_e, vPutI_e, vPutZ_e, vPutL_e, vPutR_e, vIald_e, vIald_s, vLald_e, vBald_e, vBald_s, vAald_e, vIast_e, vLast_e, vBast_e, vAast_e, vAlen_e8, vAlen_e9, vAlen_e10, vAlen_e11, vAlen_e5, vAlen_e3, vGets_e, vCompact_e, vLdcS_e, vIret_e, vZret_e, vCret_e, vBret_e, vLret_e, vVret_e, vAret_e, vCallM_e0, vCallMV_e0, vCallS_e0, vCallSV_e0, vCallM_e1, vCallMV_e1, vCallS_e1, vCallSV_e1, vCallM_e2, vCallMV_e2, vCallS_e2, vCallSV_e2, vCallM_e3, vCallMV_e3, vCallS_e3, vCallSV_e3, vCallM_e4, vCallMV_e4, vCallS_e4, vCallSV_e4, vCallM_e5, vCallMV_e5, vCallS_e5, vCallSV_e5, vCallM_e6, vCallMV_e6, vCallS_e6, vCallSV_e6, vCallM_e7, vCallMV_e7, vCallS_e7, vCallSV_e7, vBad_e, vStrVal_e, vStrCod_e, vForm_e, vCallT_e0, vCallT_e1, vCallT_e2, vCopy_e, rf_0_0, rf_0_1, rf_0_2, rf_0_3, rf_0_4, rf_0_7, rf_0_10, rf_0_11, rf_0_12, rf_0_13, rf_0_14, rf_0_15, rf_0_16, rf_1_0, rf_3_0, rf_3_1, rf_6_0, rf_6_1, rf_9_0, rf_9_1, rf_9_3, rf_13_0, rf_13_1, rf_13_2, rf_16_0, rf_16_1, rf_16_2, rf_16_3, rf_21_0, rf_21_1, rf_21_2, rf_21_3, rf_26_0, rf_26_1, rf_26_2, rf_26_3, rf_26_4, rf_26_5, rf_26_6, rf_31_0, rf_31_2, rf_31_5, rf_31_6, rf_36_0, rf_36_1, rf_36_2, rf_36_3, rf_39_0, rf_39_1, rf_39_2, rf_41_0, rf_41_1, rf_41_2, rf_41_3, rf_5000_1, rf_5000_2, rf_5000_3, rf_5000_4, rf_5000_5, rf_5000_15, rf_5000_16, rf_5000_18, rf_5000_19, rf_5000_20, rf_5000_21, rf_5000_22, rf_5000_23, rf_5000_24, rf_5000_25, rf_5000_26, rf_5000_27, rf_5000_36, rf_5000_37, rf_5000_40, rf_5000_41, rf_5000_42, rf_5000_43, rf_5000_44, rf_5000_45, rf_5000_47, rf_5000_52, rf_5000_54, rf_5000_55, rf_100_0, rf_100_1, rf_103_0, rf_103_1, rf_106_0, rf_106_1, rf_109_0, rf_109_1, al_2, al_4, al_5, al_7, al_8, al_10, al_11, al_12, al_14, al_15, al_17, al_18, al_19, al_20, al_22, al_23, al_24, al_25, al_27, al_28, al_29, al_30, al_32, al_33, al_34, al_35, al_37, al_38, al_40, al_42, al_5001, al_5002, al_5003, al_5004, al_5005, al_5006, al_5007, al_5008, al_5009, al_5010, al_5011, al_5012, al_5013, al_5014, al_5015, al_5016, al_5017, al_5018, al_5019, al_5020, al_5021, al_5022, al_5023, al_5024, al_5025, al_5026, al_9000, al_101, al_102, al_104, al_105, al_107, al_108, al_110, al_111, vcs_e, lg_c0, lg_cs, lg_nil, set_c0, set_cs, okst_0, okst_s, acok_n, acok_c, List.contains_nil, List.contains_cons, Bool.or_false, Bool.false_or, Bool.false_eq_true, if_false, if_true, ite_self, ne_eq, true_and, and_true, not_false_eq_true, not_true_eq_false, false_imp_iff, true_imp_iff, Nat.ble_eq, Bool.and_eq_true, reduceCtorEq, or_false, false_or, or_true, true_or, false_and, and_false, and_self, Int.reduceLE, Int.reduceAdd, Int.reduceSub, Int.reduceMul, Int.reduceNeg, Int.reduceLT, Int.reduceEq, Int.reduceNe, Nat.reduceBEq, Nat.reduceBNe, Nat.reduceEqDiff, amCmp_in, amCmp_lt, amCmp_le, amCmp_gt, amCmp_ge, amCmp_eq, amCmp_ne, Nat.reduceLeDiff, Nat.reduceSub, Bool.and_true, Bool.true_and, Bool.and_self, Bool.or_true, Bool.true_or, isRf_3, isRf_4, isRf_5, isRf_8, isRf_9, isRf_10, isRf_11, isRf_15, isRf_16, isRf_17, isRf_18, isRf_19, isRf_20, isRf_21, isRf_22, isRf_23, isRf_24, isRf_25, isRf_26, isRf_27, isRf_28, k_X12_goPlay_0, k_X12_goPlay_1, k_X12_goPlay_2, k_X12_goPlay_3, k_X12_goPlay_4, k_X12_goPlay_7, k_X12_goPlay_8, k_X12_goPlay_10, k_X12_goPlay_12, k_X12_goPlay_13, k_X12_goPlay_16, k_X12_goPlay_19, k_X12_goPlay_20, k_X12_goPlay_23, k_X12_goPlay_25, k_X12_goPlay_26, k_X12_goPlay_27, k_X12_goPlay_28, k_X12_goPlay_31, k_X12_goPlay_33, k_X12_goPlay_34, k_X12_goPlay_35, k_X12_goPlay_38, k_X12_goPlay_41, k_X12_goPlay_42, k_X12_goPlay_44, k_X12_goPlay_46, k_X12_goPlay_47, k_X12_goPlay_48, k_X12_goPlay_51, k_X12_goPlay_54, k_X12_goPlay_55, k_X12_goPlay_56, k_X12_goPlay_57, k_X12_goPlay_59, k_X12_goPlay_60, k_X12_goPlay_63, k_X12_goPlay_64, k_X12_goPlay_66, k_X12_goPlay_68, k_X12_goPlay_69, k_X12_goPlay_72, k_X12_goPlay_75, k_X12_goPlay_76, k_X12_goPlay_78, k_X12_goPlay_81, k_X12_goPlay_84, k_X12_goPlay_87, k_X12_goPlay_88, k_X12_goPlay_91, k_X12_goPlay_93, k_X12_goPlay_94, k_X12_goPlay_95, k_X12_goPlay_96, k_X12_goPlay_99, k_X12_goPlay_101, k_X12_goPlay_102, k_X12_goPlay_103, k_X12_goPlay_104, k_X12_goPlay_105, k_X12_goPlay_106, k_X12_goPlay_109, k_X12_goPlay_110, k_X12_goPlay_113, k_X12_goPlay_115, k_X12_goPlay_116, k_X12_goPlay_117, k_X12_goPlay_120, k_X12_goPlay_121, k_X12_goPlay_124, k_X12_goPlay_126, k_X12_goPlay_127, k_X12_goPlay_128, k_X12_goPlay_131, k_X12_goPlay_132, k_X12_goPlay_133, k_X12_goPlay_136, k_X12_goPlay_139, k_X12_goPlay_140, k_X12_goPlay_143, k_X12_goPlay_145, k_X12_goPlay_147, k_X12_goPlay_148, k_X12_goPlay_149, k_X12_goPlay_150, k_X12_goPlay_152, k_X12_goPlay_153, k_X12_goPlay_154, k_X12_goPlay_155, k_X12_goPlay_158, k_X12_goPlay_161, k_X12_goPlay_164, k_X12_goPlay_167, k_X12_goPlay_168, e29]
        repeat' (first | assumption | apply And.intro | intro _)
        all_goals first | omega | exact absurd trivial (by assumption) | exact i9
      · have i9 : ∃ k', k' < n ∧ inv_gpl σ a p k' 44 [(28, 5000), (8, a), (0, p), (0, 0), (0, 0), v5] [] σ' := by
          refine ⟨99, by omega, rfl, Or.inr (Or.inl ⟨0, v5, rfl, rfl, by omega, by omega, hF, hm, ?_, fun j j0 j1 => hz j j0 (by omega)⟩)⟩
          rw [h46]
          have : ∀ n : Nat, sumC (mFl σ a p 0) n = 0 := by
            intro n
            induction n with
            | zero => rfl
            | succ n ih => show sumC (mFl σ a p 0) n + 0 = 0; omega
          exact (this _).symm
        simp only [↓reduceIte, inR_0, inR_1, inR_m, vSw2_e, swP_n, swP_c, vI_e, vL_e, vNull_e, vIload_e, vLload_e, vAload_e, vIstore_e, vLstore_e, vAstore_e, vIinc_e, vIadd_e, vIsub_e, vImul_e, vIand_e, vIor_e, vIxor_e, vIshl_e, vIshr_e, vIushr_e, vIdiv_e, vIrem_e, vLadd_e, vLsub_e, vLmul_e, vLand_e, vLor_e, vLxor_e, vLdiv_e, vLrem_e, vLushr_e, vLshl_e, vLcmp_e, vIneg_e, vI2l_e, vL2i_e, vI2b_e, vI2c_e, vDup_e, vPop_e, vDup2_e, vGoto_e, vIcEq_e, vIfEq_e, vIcNe_e, vIfNe_e, vIcLt_e, vIfLt_e, vIcGe_e, vIfGe_e, vIcGt_e, vIfGt_e, vIcLe_e, vIfLe_e, vNonnull_e, vSw_e, vGetI_e, vGetL_e, vGetR_e, vPutI_e, vPutZ_e, vPutL_e, vPutR_e, vIald_e, vIald_s, vLald_e, vBald_e, vBald_s, vAald_e, vIast_e, vLast_e, vBast_e, vAast_e, vAlen_e8, vAlen_e9, vAlen_e10, vAlen_e11, vAlen_e5, vAlen_e3, vGets_e, vCompact_e, vLdcS_e, vIret_e, vZret_e, vCret_e, vBret_e, vLret_e, vVret_e, vAret_e, vCallM_e0, vCallMV_e0, vCallS_e0, vCallSV_e0, vCallM_e1, vCallMV_e1, vCallS_e1, vCallSV_e1, vCallM_e2, vCallMV_e2, vCallS_e2, vCallSV_e2, vCallM_e3, vCallMV_e3, vCallS_e3, vCallSV_e3, vCallM_e4, vCallMV_e4, vCallS_e4, vCallSV_e4, vCallM_e5, vCallMV_e5, vCallS_e5, vCallSV_e5, vCallM_e6, vCallMV_e6, vCallS_e6, vCallSV_e6, vCallM_e7, vCallMV_e7, vCallS_e7, vCallSV_e7, vBad_e, vStrVal_e, vStrCod_e, vForm_e, vCallT_e0, vCallT_e1, vCallT_e2, vCopy_e, rf_0_0, rf_0_1, rf_0_2, rf_0_3, rf_0_4, rf_0_7, rf_0_10, rf_0_11, rf_0_12, rf_0_13, rf_0_14, rf_0_15, rf_0_16, rf_1_0, rf_3_0, rf_3_1, rf_6_0, rf_6_1, rf_9_0, rf_9_1, rf_9_3, rf_13_0, rf_13_1, rf_13_2, rf_16_0, rf_16_1, rf_16_2, rf_16_3, rf_21_0, rf_21_1, rf_21_2, rf_21_3, rf_26_0, rf_26_1, rf_26_2, rf_26_3, rf_26_4, rf_26_5, rf_26_6, rf_31_0, rf_31_2, rf_31_5, rf_31_6, rf_36_0, rf_36_1, rf_36_2, rf_36_3, rf_39_0, rf_39_1, rf_39_2, rf_41_0, rf_41_1, rf_41_2, rf_41_3, rf_5000_1, rf_5000_2, rf_5000_3, rf_5000_4, rf_5000_5, rf_5000_15, rf_5000_16, rf_5000_18, rf_5000_19, rf_5000_20, rf_5000_21, rf_5000_22, rf_5000_23, rf_5000_24, rf_5000_25, rf_5000_26, rf_5000_27, rf_5000_36, rf_5000_37, rf_5000_40, rf_5000_41, rf_5000_42, rf_5000_43, rf_5000_44, rf_5000_45, rf_5000_47, rf_5000_52, rf_5000_54, rf_5000_55, rf_100_0, rf_100_1, rf_103_0, rf_103_1, rf_106_0, rf_106_1, rf_109_0, rf_109_1, al_2, al_4, al_5, al_7, al_8, al_10, al_11, al_12, al_14, al_15, al_17, al_18, al_19, al_20, al_22, al_23, al_24, al_25, al_27, al_28, al_29, al_30, al_32, al_33, al_34, al_35, al_37, al_38, al_40, al_42, al_5001, al_5002, al_5003, al_5004, al_5005, al_5006, al_5007, al_5008, al_5009, al_5010, al_5011, al_5012, al_5013, al_5014, al_5015, al_5016, al_5017, al_5018, al_5019, al_5020, al_5021, al_5022, al_5023, al_5024, al_5025, al_5026, al_9000, al_101, al_102, al_104, al_105, al_107, al_108, al_110, al_111, vcs_e, lg_c0, lg_cs, lg_nil, set_c0, set_cs, okst_0, okst_s, acok_n, acok_c, List.contains_nil, List.contains_cons, Bool.or_false, Bool.false_or, Bool.false_eq_true, if_false, if_true, ite_self, ne_eq, true_and, and_true, not_false_eq_true, not_true_eq_false, false_imp_iff, true_imp_iff, Nat.ble_eq, Bool.and_eq_true, reduceCtorEq, or_false, false_or, or_true, true_or, false_and, and_false, and_self, Int.reduceLE, Int.reduceAdd, Int.reduceSub, Int.reduceMul, Int.reduceNeg, Int.reduceLT, Int.reduceEq, Int.reduceNe, Nat.reduceBEq, Nat.reduceBNe, Nat.reduceEqDiff, amCmp_in, amCmp_lt, amCmp_le, amCmp_gt, amCmp_ge, amCmp_eq, amCmp_ne, Nat.reduceLeDiff, Nat.reduceSub, Bool.and_true, Bool.true_and, Bool.and_self, Bool.or_true, Bool.true_or, isRf_3, isRf_4, isRf_5, isRf_8, isRf_9, isRf_10, isRf_11, isRf_15, isRf_16, isRf_17, isRf_18, isRf_19, isRf_20, isRf_21, isRf_22, isRf_23, isRf_24, isRf_25, isRf_26, isRf_27, isRf_28, k_X12_goPlay_0, k_X12_goPlay_1, k_X12_goPlay_2, k_X12_goPlay_3, k_X12_goPlay_4, k_X12_goPlay_7, k_X12_goPlay_8, k_X12_goPlay_10, k_X12_goPlay_12, k_X12_goPlay_13, k_X12_goPlay_16, k_X12_goPlay_19, k_X12_goPlay_20, k_X12_goPlay_23, k_X12_goPlay_25, k_X12_goPlay_26, k_X12_goPlay_27, k_X12_goPlay_28, k_X12_goPlay_31, k_X12_goPlay_33, k_X12_goPlay_34, k_X12_goPlay_35, k_X12_goPlay_38, k_X12_goPlay_41, k_X12_goPlay_42, k_X12_goPlay_44, k_X12_goPlay_46, k_X12_goPlay_47, k_X12_goPlay_48, k_X12_goPlay_51, k_X12_goPlay_54, k_X12_goPlay_55, k_X12_goPlay_56, k_X12_goPlay_57, k_X12_goPlay_59, k_X12_goPlay_60, k_X12_goPlay_63, k_X12_goPlay_64, k_X12_goPlay_66, k_X12_goPlay_68, k_X12_goPlay_69, k_X12_goPlay_72, k_X12_goPlay_75, k_X12_goPlay_76, k_X12_goPlay_78, k_X12_goPlay_81, k_X12_goPlay_84, k_X12_goPlay_87, k_X12_goPlay_88, k_X12_goPlay_91, k_X12_goPlay_93, k_X12_goPlay_94, k_X12_goPlay_95, k_X12_goPlay_96, k_X12_goPlay_99, k_X12_goPlay_101, k_X12_goPlay_102, k_X12_goPlay_103, k_X12_goPlay_104, k_X12_goPlay_105, k_X12_goPlay_106, k_X12_goPlay_109, k_X12_goPlay_110, k_X12_goPlay_113, k_X12_goPlay_115, k_X12_goPlay_116, k_X12_goPlay_117, k_X12_goPlay_120, k_X12_goPlay_121, k_X12_goPlay_124, k_X12_goPlay_126, k_X12_goPlay_127, k_X12_goPlay_128, k_X12_goPlay_131, k_X12_goPlay_132, k_X12_goPlay_133, k_X12_goPlay_136, k_X12_goPlay_139, k_X12_goPlay_140, k_X12_goPlay_143, k_X12_goPlay_145, k_X12_goPlay_147, k_X12_goPlay_148, k_X12_goPlay_149, k_X12_goPlay_150, k_X12_goPlay_152, k_X12_goPlay_153, k_X12_goPlay_154, k_X12_goPlay_155, k_X12_goPlay_158, k_X12_goPlay_161, k_X12_goPlay_164, k_X12_goPlay_167, k_X12_goPlay_168, e29]
        repeat' (first | assumption | apply And.intro | intro _)
        all_goals first | omega | exact absurd trivial (by assumption) | exact i9
    · have e29 := hF.2 29 (by decide) (by decide) (by decide) (by decide)
      have e5007 : σ' 5007 = σ 5007 := PF_r hF (by decide)
      have ob := mOu_b σ a p n6 k
      refine ⟨60, ?_⟩
      by_cases cc : (k : Int) < σ 5007 (4 * p + 3)
      · have hP' := PF_mP hF hm hP
        have e28 := hF.2 28 (by decide) (by decide) (by decide) (by decide)
        have i9 : ∀ τ, NF σ' τ → mOk τ → (∀ j, 0 ≤ j → j < σ 5000 29 → τ 5022 j = mMn σ a p k (mOu σ a p k) j) → ∃ k', k' < n ∧ inv_gpl σ a p k' 66 [(28, 5000), (8, a), (0, p), (0, mOu σ a p k), (0, (k : Int)), (0, 0)] [] τ := fun τ hN hm' hv => by
          refine ⟨n - 3, by omega, rfl, Or.inr (Or.inr ⟨k, 0, rfl, by rw [mOj_0 n0 n6]; rfl, by omega, cc, by omega, PF_NF hF hN, hm', ?_, hv, fun c c0 c1 => ?_⟩)⟩
          · rw [hN.2 46 (by decide) (by decide) (by decide), h46]
            exact sumC_cong (fun i i0 i1 => by rw [if_neg (by omega)])
          · rw [NF_r hN (b := 5019) (by decide), NF_r hN (b := 5020) (by decide), if_neg (by omega), if_neg (by omega)]; exact hz c c0 c1
        simp only [↓reduceIte, inR_0, inR_1, inR_m, vSw2_e, swP_n, swP_c, vI_e, vL_e, vNull_e, vIload_e, vLload_e, vAload_e, vIstore_e, vLstore_e, vAstore_e, vIinc_e, vIadd_e, vIsub_e, vImul_e, vIand_e, vIor_e, vIxor_e, vIshl_e, vIshr_e, vIushr_e, vIdiv_e, vIrem_e, vLadd_e, vLsub_e, vLmul_e, vLand_e, vLor_e, vLxor_e, vLdiv_e, vLrem_e, vLushr_e, vLshl_e, vLcmp_e, vIneg_e, vI2l_e, vL2i_e, vI2b_e, vI2c_e, vDup_e, vPop_e, vDup2_e, vGoto_e, vIcEq_e, vIfEq_e, vIcNe_e, vIfNe_e, vIcLt_e, vIfLt_e, vIcGe_e, vIfGe_e, vIcGt_e, vIfGt_e, vIcLe_e, vIfLe_e, vNonnull_e, vSw_e, vGetI_e, vGetL_e, vGetR_e, vPutI_e, vPutZ_e, vPutL_e, vPutR_e, vIald_e, vIald_s, vLald_e, vBald_e, vBald_s, vAald_e, vIast_e, vLast_e, vBast_e, vAast_e, vAlen_e8, vAlen_e9, vAlen_e10, vAlen_e11, vAlen_e5, vAlen_e3, vGets_e, vCompact_e, vLdcS_e, vIret_e, vZret_e, vCret_e, vBret_e, vLret_e, vVret_e, vAret_e, vCallM_e0, vCallMV_e0, vCallS_e0, vCallSV_e0, vCallM_e1, vCallMV_e1, vCallS_e1, vCallSV_e1, vCallM_e2, vCallMV_e2, vCallS_e2, vCallSV_e2, vCallM_e3, vCallMV_e3, vCallS_e3, vCallSV_e3, vCallM_e4, vCallMV_e4, vCallS_e4, vCallSV_e4, vCallM_e5, vCallMV_e5, vCallS_e5, vCallSV_e5, vCallM_e6, vCallMV_e6, vCallS_e6, vCallSV_e6, vCallM_e7, vCallMV_e7, vCallS_e7, vCallSV_e7, vBad_e, vStrVal_e, vStrCod_e, vForm_e, vCallT_e0, vCallT_e1, vCallT_e2, vCopy_e, rf_0_0, rf_0_1, rf_0_2, rf_0_3, rf_0_4, rf_0_7, rf_0_10, rf_0_11, rf_0_12, rf_0_13, rf_0_14, rf_0_15, rf_0_16, rf_1_0, rf_3_0, rf_3_1, rf_6_0, rf_6_1, rf_9_0, rf_9_1, rf_9_3, rf_13_0, rf_13_1, rf_13_2, rf_16_0, rf_16_1, rf_16_2, rf_16_3, rf_21_0, rf_21_1, rf_21_2, rf_21_3, rf_26_0, rf_26_1, rf_26_2, rf_26_3, rf_26_4, rf_26_5, rf_26_6, rf_31_0, rf_31_2, rf_31_5, rf_31_6, rf_36_0, rf_36_1, rf_36_2, rf_36_3, rf_39_0, rf_39_1, rf_39_2, rf_41_0, rf_41_1, rf_41_2, rf_41_3, rf_5000_1, rf_5000_2, rf_5000_3, rf_5000_4, rf_5000_5, rf_5000_15, rf_5000_16, rf_5000_18, rf_5000_19, rf_5000_20, rf_5000_21, rf_5000_22, rf_5000_23, rf_5000_24, rf_5000_25, rf_5000_26, rf_5000_27, rf_5000_36, rf_5000_37, rf_5000_40, rf_5000_41, rf_5000_42, rf_5000_43, rf_5000_44, rf_5000_45, rf_5000_47, rf_5000_52, rf_5000_54, rf_5000_55, rf_100_0, rf_100_1, rf_103_0, rf_103_1, rf_106_0, rf_106_1, rf_109_0, rf_109_1, al_2, al_4, al_5, al_7, al_8, al_10, al_11, al_12, al_14, al_15, al_17, al_18, al_19, al_20, al_22, al_23, al_24, al_25, al_27, al_28, al_29, al_30, al_32, al_33, al_34, al_35, al_37, al_38, al_40, al_42, al_5001, al_5002, al_5003, al_5004, al_5005, al_5006, al_5007, al_5008, al_5009, al_5010, al_5011, al_5012, al_5013, al_5014, al_5015, al_5016, al_5017, al_5018, al_5019, al_5020, al_5021, al_5022, al_5023, al_5024, al_5025, al_5026, al_9000, al_101, al_102, al_104, al_105, al_107, al_108, al_110, al_111, vcs_e, lg_c0, lg_cs, lg_nil, set_c0, set_cs, okst_0, okst_s, acok_n, acok_c, List.contains_nil, List.contains_cons, Bool.or_false, Bool.false_or, Bool.false_eq_true, if_false, if_true, ite_self, ne_eq, true_and, and_true, not_false_eq_true, not_true_eq_false, false_imp_iff, true_imp_iff, Nat.ble_eq, Bool.and_eq_true, reduceCtorEq, or_false, false_or, or_true, true_or, false_and, and_false, and_self, Int.reduceLE, Int.reduceAdd, Int.reduceSub, Int.reduceMul, Int.reduceNeg, Int.reduceLT, Int.reduceEq, Int.reduceNe, Nat.reduceBEq, Nat.reduceBNe, Nat.reduceEqDiff, amCmp_in, amCmp_lt, amCmp_le, amCmp_gt, amCmp_ge, amCmp_eq, amCmp_ne, Nat.reduceLeDiff, Nat.reduceSub, Bool.and_true, Bool.true_and, Bool.and_self, Bool.or_true, Bool.true_or, isRf_3, isRf_4, isRf_5, isRf_8, isRf_9, isRf_10, isRf_11, isRf_15, isRf_16, isRf_17, isRf_18, isRf_19, isRf_20, isRf_21, isRf_22, isRf_23, isRf_24, isRf_25, isRf_26, isRf_27, isRf_28, k_X12_goPlay_0, k_X12_goPlay_1, k_X12_goPlay_2, k_X12_goPlay_3, k_X12_goPlay_4, k_X12_goPlay_7, k_X12_goPlay_8, k_X12_goPlay_10, k_X12_goPlay_12, k_X12_goPlay_13, k_X12_goPlay_16, k_X12_goPlay_19, k_X12_goPlay_20, k_X12_goPlay_23, k_X12_goPlay_25, k_X12_goPlay_26, k_X12_goPlay_27, k_X12_goPlay_28, k_X12_goPlay_31, k_X12_goPlay_33, k_X12_goPlay_34, k_X12_goPlay_35, k_X12_goPlay_38, k_X12_goPlay_41, k_X12_goPlay_42, k_X12_goPlay_44, k_X12_goPlay_46, k_X12_goPlay_47, k_X12_goPlay_48, k_X12_goPlay_51, k_X12_goPlay_54, k_X12_goPlay_55, k_X12_goPlay_56, k_X12_goPlay_57, k_X12_goPlay_59, k_X12_goPlay_60, k_X12_goPlay_63, k_X12_goPlay_64, k_X12_goPlay_66, k_X12_goPlay_68, k_X12_goPlay_69, k_X12_goPlay_72, k_X12_goPlay_75, k_X12_goPlay_76, k_X12_goPlay_78, k_X12_goPlay_81, k_X12_goPlay_84, k_X12_goPlay_87, k_X12_goPlay_88, k_X12_goPlay_91, k_X12_goPlay_93, k_X12_goPlay_94, k_X12_goPlay_95, k_X12_goPlay_96, k_X12_goPlay_99, k_X12_goPlay_101, k_X12_goPlay_102, k_X12_goPlay_103, k_X12_goPlay_104, k_X12_goPlay_105, k_X12_goPlay_106, k_X12_goPlay_109, k_X12_goPlay_110, k_X12_goPlay_113, k_X12_goPlay_115, k_X12_goPlay_116, k_X12_goPlay_117, k_X12_goPlay_120, k_X12_goPlay_121, k_X12_goPlay_124, k_X12_goPlay_126, k_X12_goPlay_127, k_X12_goPlay_128, k_X12_goPlay_131, k_X12_goPlay_132, k_X12_goPlay_133, k_X12_goPlay_136, k_X12_goPlay_139, k_X12_goPlay_140, k_X12_goPlay_143, k_X12_goPlay_145, k_X12_goPlay_147, k_X12_goPlay_148, k_X12_goPlay_149, k_X12_goPlay_150, k_X12_goPlay_152, k_X12_goPlay_153, k_X12_goPlay_154, k_X12_goPlay_155, k_X12_goPlay_158, k_X12_goPlay_161, k_X12_goPlay_164, k_X12_goPlay_167, k_X12_goPlay_168, w_X12_goMinute_e, w_X12_has_e, w_X12_minutes_e, e29, e5007, PF_mMn hF ha, a0]
        repeat' (first | assumption | exact hP' | apply And.intro | intro _)
        all_goals first | omega | exact absurd trivial (by assumption) | exact i9 _ (by assumption) (by assumption) (by assumption)
      · have ek : k = (σ 5007 (4 * p + 3)).toNat := by omega
        rw [ek] at h46 hz ⊢
        have h0 := hq σ' hF hm h46 hz
        simp only [↓reduceIte, inR_0, inR_1, inR_m, vSw2_e, swP_n, swP_c, vI_e, vL_e, vNull_e, vIload_e, vLload_e, vAload_e, vIstore_e, vLstore_e, vAstore_e, vIinc_e, vIadd_e, vIsub_e, vImul_e, vIand_e, vIor_e, vIxor_e, vIshl_e, vIshr_e, vIushr_e, vIdiv_e, vIrem_e, vLadd_e, vLsub_e, vLmul_e, vLand_e, vLor_e, vLxor_e, vLdiv_e, vLrem_e, vLushr_e, vLshl_e, vLcmp_e, vIneg_e, vI2l_e, vL2i_e, vI2b_e, vI2c_e, vDup_e, vPop_e, vDup2_e, vGoto_e, vIcEq_e, vIfEq_e, vIcNe_e, vIfNe_e, vIcLt_e, vIfLt_e, vIcGe_e, vIfGe_e, vIcGt_e, vIfGt_e, vIcLe_e, vIfLe_e, vNonnull_e, vSw_e, vGetI_e, vGetL_e, vGetR_e, vPutI_e, vPutZ_e, vPutL_e, vPutR_e, vIald_e, vIald_s, vLald_e, vBald_e, vBald_s, vAald_e, vIast_e, vLast_e, vBast_e, vAast_e, vAlen_e8, vAlen_e9, vAlen_e10, vAlen_e11, vAlen_e5, vAlen_e3, vGets_e, vCompact_e, vLdcS_e, vIret_e, vZret_e, vCret_e, vBret_e, vLret_e, vVret_e, vAret_e, vCallM_e0, vCallMV_e0, vCallS_e0, vCallSV_e0, vCallM_e1, vCallMV_e1, vCallS_e1, vCallSV_e1, vCallM_e2, vCallMV_e2, vCallS_e2, vCallSV_e2, vCallM_e3, vCallMV_e3, vCallS_e3, vCallSV_e3, vCallM_e4, vCallMV_e4, vCallS_e4, vCallSV_e4, vCallM_e5, vCallMV_e5, vCallS_e5, vCallSV_e5, vCallM_e6, vCallMV_e6, vCallS_e6, vCallSV_e6, vCallM_e7, vCallMV_e7, vCallS_e7, vCallSV_e7, vBad_e, vStrVal_e, vStrCod_e, vForm_e, vCallT_e0, vCallT_e1, vCallT_e2, vCopy_e, rf_0_0, rf_0_1, rf_0_2, rf_0_3, rf_0_4, rf_0_7, rf_0_10, rf_0_11, rf_0_12, rf_0_13, rf_0_14, rf_0_15, rf_0_16, rf_1_0, rf_3_0, rf_3_1, rf_6_0, rf_6_1, rf_9_0, rf_9_1, rf_9_3, rf_13_0, rf_13_1, rf_13_2, rf_16_0, rf_16_1, rf_16_2, rf_16_3, rf_21_0, rf_21_1, rf_21_2, rf_21_3, rf_26_0, rf_26_1, rf_26_2, rf_26_3, rf_26_4, rf_26_5, rf_26_6, rf_31_0, rf_31_2, rf_31_5, rf_31_6, rf_36_0, rf_36_1, rf_36_2, rf_36_3, rf_39_0, rf_39_1, rf_39_2, rf_41_0, rf_41_1, rf_41_2, rf_41_3, rf_5000_1, rf_5000_2, rf_5000_3, rf_5000_4, rf_5000_5, rf_5000_15, rf_5000_16, rf_5000_18, rf_5000_19, rf_5000_20, rf_5000_21, rf_5000_22, rf_5000_23, rf_5000_24, rf_5000_25, rf_5000_26, rf_5000_27, rf_5000_36, rf_5000_37, rf_5000_40, rf_5000_41, rf_5000_42, rf_5000_43, rf_5000_44, rf_5000_45, rf_5000_47, rf_5000_52, rf_5000_54, rf_5000_55, rf_100_0, rf_100_1, rf_103_0, rf_103_1, rf_106_0, rf_106_1, rf_109_0, rf_109_1, al_2, al_4, al_5, al_7, al_8, al_10, al_11, al_12, al_14, al_15, al_17, al_18, al_19, al_20, al_22, al_23, al_24, al_25, al_27, al_28, al_29, al_30, al_32, al_33, al_34, al_35, al_37, al_38, al_40, al_42, al_5001, al_5002, al_5003, al_5004, al_5005, al_5006, al_5007, al_5008, al_5009, al_5010, al_5011, al_5012, al_5013, al_5014, al_5015, al_5016, al_5017, al_5018, al_5019, al_5020, al_5021, al_5022, al_5023, al_5024, al_5025, al_5026, al_9000, al_101, al_102, al_104, al_105, al_107, al_108, al_110, al_111, vcs_e, lg_c0, lg_cs, lg_nil, set_c0, set_cs, okst_0, okst_s, acok_n, acok_c, List.contains_nil, List.contains_cons, Bool.or_false, Bool.false_or, Bool.false_eq_true, if_false, if_true, ite_self, ne_eq, true_and, and_true, not_false_eq_true, not_true_eq_false, false_imp_iff, true_imp_iff, Nat.ble_eq, Bool.and_eq_true, reduceCtorEq, or_false, false_or, or_true, true_or, false_and, and_false, and_self, Int.reduceLE, Int.reduceAdd, Int.reduceSub, Int.reduceMul, Int.reduceNeg, Int.reduceLT, Int.reduceEq, Int.reduceNe, Nat.reduceBEq, Nat.reduceBNe, Nat.reduceEqDiff, amCmp_in, amCmp_lt, amCmp_le, amCmp_gt, amCmp_ge, amCmp_eq, amCmp_ne, Nat.reduceLeDiff, Nat.reduceSub, Bool.and_true, Bool.true_and, Bool.and_self, Bool.or_true, Bool.true_or, isRf_3, isRf_4, isRf_5, isRf_8, isRf_9, isRf_10, isRf_11, isRf_15, isRf_16, isRf_17, isRf_18, isRf_19, isRf_20, isRf_21, isRf_22, isRf_23, isRf_24, isRf_25, isRf_26, isRf_27, isRf_28, k_X12_goPlay_0, k_X12_goPlay_1, k_X12_goPlay_2, k_X12_goPlay_3, k_X12_goPlay_4, k_X12_goPlay_7, k_X12_goPlay_8, k_X12_goPlay_10, k_X12_goPlay_12, k_X12_goPlay_13, k_X12_goPlay_16, k_X12_goPlay_19, k_X12_goPlay_20, k_X12_goPlay_23, k_X12_goPlay_25, k_X12_goPlay_26, k_X12_goPlay_27, k_X12_goPlay_28, k_X12_goPlay_31, k_X12_goPlay_33, k_X12_goPlay_34, k_X12_goPlay_35, k_X12_goPlay_38, k_X12_goPlay_41, k_X12_goPlay_42, k_X12_goPlay_44, k_X12_goPlay_46, k_X12_goPlay_47, k_X12_goPlay_48, k_X12_goPlay_51, k_X12_goPlay_54, k_X12_goPlay_55, k_X12_goPlay_56, k_X12_goPlay_57, k_X12_goPlay_59, k_X12_goPlay_60, k_X12_goPlay_63, k_X12_goPlay_64, k_X12_goPlay_66, k_X12_goPlay_68, k_X12_goPlay_69, k_X12_goPlay_72, k_X12_goPlay_75, k_X12_goPlay_76, k_X12_goPlay_78, k_X12_goPlay_81, k_X12_goPlay_84, k_X12_goPlay_87, k_X12_goPlay_88, k_X12_goPlay_91, k_X12_goPlay_93, k_X12_goPlay_94, k_X12_goPlay_95, k_X12_goPlay_96, k_X12_goPlay_99, k_X12_goPlay_101, k_X12_goPlay_102, k_X12_goPlay_103, k_X12_goPlay_104, k_X12_goPlay_105, k_X12_goPlay_106, k_X12_goPlay_109, k_X12_goPlay_110, k_X12_goPlay_113, k_X12_goPlay_115, k_X12_goPlay_116, k_X12_goPlay_117, k_X12_goPlay_120, k_X12_goPlay_121, k_X12_goPlay_124, k_X12_goPlay_126, k_X12_goPlay_127, k_X12_goPlay_128, k_X12_goPlay_131, k_X12_goPlay_132, k_X12_goPlay_133, k_X12_goPlay_136, k_X12_goPlay_139, k_X12_goPlay_140, k_X12_goPlay_143, k_X12_goPlay_145, k_X12_goPlay_147, k_X12_goPlay_148, k_X12_goPlay_149, k_X12_goPlay_150, k_X12_goPlay_152, k_X12_goPlay_153, k_X12_goPlay_154, k_X12_goPlay_155, k_X12_goPlay_158, k_X12_goPlay_161, k_X12_goPlay_164, k_X12_goPlay_167, k_X12_goPlay_168, w_X12_goMinute_e, w_X12_has_e, w_X12_minutes_e, e29, e5007]
        repeat' (first | assumption | apply And.intro | intro _)
        all_goals first | omega | exact absurd trivial (by assumption) | exact h0
    · have e29 := hF.2 29 (by decide) (by decide) (by decide) (by decide)
      have e5005 : σ' 5005 = σ 5005 := PF_r hF (by decide)
      have ob := mOu_b σ a p n6 k
      have oj := mOj_b (w := a) (p := p) n6 k j
      refine ⟨90, ?_⟩
      by_cases cc : (j : Int) < σ 5000 29
      · have bj := mOj_bit (w := a) (p := p) n6 k cc
        have b01 := bt_b (mOu σ a p k) j
        obtain ⟨z1, z2⟩ := hz j (by omega) cc
        rw [if_neg (by omega)] at z1 z2
        have zm := hmi j (by omega) cc
        have mb := mMn_b (w := a) (p := p) (k := k) (o := mOu σ a p k) cc
        have f1 : ∀ c, mFl σ a p (k + 1) c = mFl σ a p k c + mMn σ a p k (mOu σ a p k) c := fun c => rfl
        have o1 : ∀ c, mOa σ a p (k + 1) c = if bt (mOu σ a p k) c = 0 ∧ σ 5005 0 ≤ mMn σ a p k (mOu σ a p k) c then (k : Int) else mOa σ a p k c := fun c => rfl
        have hsum : sumC (fun c => if c < ((j + 1 : Nat) : Int) then mFl σ a p (k + 1) c else mFl σ a p k c) (σ 5000 29).toNat = σ' 5000 46 + mMn σ a p k (mOu σ a p k) j := by
          rw [h46]
          refine sumC_set (j := j) ?_ (fun i hi => ?_) (by omega)
          · rw [if_pos (by omega), if_neg (by omega), f1]
          · exact (it_ij hi _ _).symm
        by_cases d : bt (mOu σ a p k) j = 1
        · have m0 := mMn_out (σ := σ) (w := a) (p := p) (k := k) d
          have i9 : ∃ k', k' < n ∧ inv_gpl σ a p k' 66 [(28, 5000), (8, a), (0, p), (0, mOj σ a p k j), (0, (k : Int)), (0, (j : Int) + 1)] [] σ' := by
            refine ⟨n - 1, by omega, rfl, Or.inr (Or.inr ⟨k, j + 1, rfl, by rw [mOj_n k (Or.inl d)]; rfl, by omega, hk, by omega, hF, hm, by rw [hsum, m0]; omega, hmi, fun c c0 c1 => ?_⟩)⟩
            by_cases e : c = j
            · rw [e, if_pos (by omega), if_pos (by omega), f1, m0, o1, if_neg (by omega), Int.add_zero]; exact ⟨z1, z2⟩
            · rw [← it_ij e, ← it_ij e]; exact hz c c0 c1
          simp only [↓reduceIte, inR_0, inR_1, inR_m, vSw2_e, swP_n, swP_c, vI_e, vL_e, vNull_e, vIload_e, vLload_e, vAload_e, vIstore_e, vLstore_e, vAstore_e, vIinc_e, vIadd_e, vIsub_e, vImul_e, vIand_e, vIor_e, vIxor_e, vIshl_e, vIshr_e, vIushr_e, vIdiv_e, vIrem_e, vLadd_e, vLsub_e, vLmul_e, vLand_e, vLor_e, vLxor_e, vLdiv_e, vLrem_e, vLushr_e, vLshl_e, vLcmp_e, vIneg_e, vI2l_e, vL2i_e, vI2b_e, vI2c_e, vDup_e, vPop_e, vDup2_e, vGoto_e, vIcEq_e, vIfEq_e, vIcNe_e, vIfNe_e, vIcLt_e, vIfLt_e, vIcGe_e, vIfGe_e, vIcGt_e, vIfGt_e, vIcLe_e, vIfLe_e, vNonnull_e, vSw_e, vGetI_e, vGetL_e, vGetR_e, vPutI_e, vPutZ_e, vPutL_e, vPutR_e, vIald_e, vIald_s, vLald_e, vBald_e, vBald_s, vAald_e, vIast_e, vLast_e, vBast_e, vAast_e, vAlen_e8, vAlen_e9, vAlen_e10, vAlen_e11, vAlen_e5, vAlen_e3, vGets_e, vCompact_e, vLdcS_e, vIret_e, vZret_e, vCret_e, vBret_e, vLret_e, vVret_e, vAret_e, vCallM_e0, vCallMV_e0, vCallS_e0, vCallSV_e0, vCallM_e1, vCallMV_e1, vCallS_e1, vCallSV_e1, vCallM_e2, vCallMV_e2, vCallS_e2, vCallSV_e2, vCallM_e3, vCallMV_e3, vCallS_e3, vCallSV_e3, vCallM_e4, vCallMV_e4, vCallS_e4, vCallSV_e4, vCallM_e5, vCallMV_e5, vCallS_e5, vCallSV_e5, vCallM_e6, vCallMV_e6, vCallS_e6, vCallSV_e6, vCallM_e7, vCallMV_e7, vCallS_e7, vCallSV_e7, vBad_e, vStrVal_e, vStrCod_e, vForm_e, vCallT_e0, vCallT_e1, vCallT_e2, vCopy_e, rf_0_0, rf_0_1, rf_0_2, rf_0_3, rf_0_4, rf_0_7, rf_0_10, rf_0_11, rf_0_12, rf_0_13, rf_0_14, rf_0_15, rf_0_16, rf_1_0, rf_3_0, rf_3_1, rf_6_0, rf_6_1, rf_9_0, rf_9_1, rf_9_3, rf_13_0, rf_13_1, rf_13_2, rf_16_0, rf_16_1, rf_16_2, rf_16_3, rf_21_0, rf_21_1, rf_21_2, rf_21_3, rf_26_0, rf_26_1, rf_26_2, rf_26_3, rf_26_4, rf_26_5, rf_26_6, rf_31_0, rf_31_2, rf_31_5, rf_31_6, rf_36_0, rf_36_1, rf_36_2, rf_36_3, rf_39_0, rf_39_1, rf_39_2, rf_41_0, rf_41_1, rf_41_2, rf_41_3, rf_5000_1, rf_5000_2, rf_5000_3, rf_5000_4, rf_5000_5, rf_5000_15, rf_5000_16, rf_5000_18, rf_5000_19, rf_5000_20, rf_5000_21, rf_5000_22, rf_5000_23, rf_5000_24, rf_5000_25, rf_5000_26, rf_5000_27, rf_5000_36, rf_5000_37, rf_5000_40, rf_5000_41, rf_5000_42, rf_5000_43, rf_5000_44, rf_5000_45, rf_5000_47, rf_5000_52, rf_5000_54, rf_5000_55, rf_100_0, rf_100_1, rf_103_0, rf_103_1, rf_106_0, rf_106_1, rf_109_0, rf_109_1, al_2, al_4, al_5, al_7, al_8, al_10, al_11, al_12, al_14, al_15, al_17, al_18, al_19, al_20, al_22, al_23, al_24, al_25, al_27, al_28, al_29, al_30, al_32, al_33, al_34, al_35, al_37, al_38, al_40, al_42, al_5001, al_5002, al_5003, al_5004, al_5005, al_5006, al_5007, al_5008, al_5009, al_5010, al_5011, al_5012, al_5013, al_5014, al_5015, al_5016, al_5017, al_5018, al_5019, al_5020, al_5021, al_5022, al_5023, al_5024, al_5025, al_5026, al_9000, al_101, al_102, al_104, al_105, al_107, al_108, al_110, al_111, vcs_e, lg_c0, lg_cs, lg_nil, set_c0, set_cs, okst_0, okst_s, acok_n, acok_c, List.contains_nil, List.contains_cons, Bool.or_false, Bool.false_or, Bool.false_eq_true, if_false, if_true, ite_self, ne_eq, true_and, and_true, not_false_eq_true, not_true_eq_false, false_imp_iff, true_imp_iff, Nat.ble_eq, Bool.and_eq_true, reduceCtorEq, or_false, false_or, or_true, true_or, false_and, and_false, and_self, Int.reduceLE, Int.reduceAdd, Int.reduceSub, Int.reduceMul, Int.reduceNeg, Int.reduceLT, Int.reduceEq, Int.reduceNe, Nat.reduceBEq, Nat.reduceBNe, Nat.reduceEqDiff, amCmp_in, amCmp_lt, amCmp_le, amCmp_gt, amCmp_ge, amCmp_eq, amCmp_ne, Nat.reduceLeDiff, Nat.reduceSub, Bool.and_true, Bool.true_and, Bool.and_self, Bool.or_true, Bool.true_or, isRf_3, isRf_4, isRf_5, isRf_8, isRf_9, isRf_10, isRf_11, isRf_15, isRf_16, isRf_17, isRf_18, isRf_19, isRf_20, isRf_21, isRf_22, isRf_23, isRf_24, isRf_25, isRf_26, isRf_27, isRf_28, k_X12_goPlay_0, k_X12_goPlay_1, k_X12_goPlay_2, k_X12_goPlay_3, k_X12_goPlay_4, k_X12_goPlay_7, k_X12_goPlay_8, k_X12_goPlay_10, k_X12_goPlay_12, k_X12_goPlay_13, k_X12_goPlay_16, k_X12_goPlay_19, k_X12_goPlay_20, k_X12_goPlay_23, k_X12_goPlay_25, k_X12_goPlay_26, k_X12_goPlay_27, k_X12_goPlay_28, k_X12_goPlay_31, k_X12_goPlay_33, k_X12_goPlay_34, k_X12_goPlay_35, k_X12_goPlay_38, k_X12_goPlay_41, k_X12_goPlay_42, k_X12_goPlay_44, k_X12_goPlay_46, k_X12_goPlay_47, k_X12_goPlay_48, k_X12_goPlay_51, k_X12_goPlay_54, k_X12_goPlay_55, k_X12_goPlay_56, k_X12_goPlay_57, k_X12_goPlay_59, k_X12_goPlay_60, k_X12_goPlay_63, k_X12_goPlay_64, k_X12_goPlay_66, k_X12_goPlay_68, k_X12_goPlay_69, k_X12_goPlay_72, k_X12_goPlay_75, k_X12_goPlay_76, k_X12_goPlay_78, k_X12_goPlay_81, k_X12_goPlay_84, k_X12_goPlay_87, k_X12_goPlay_88, k_X12_goPlay_91, k_X12_goPlay_93, k_X12_goPlay_94, k_X12_goPlay_95, k_X12_goPlay_96, k_X12_goPlay_99, k_X12_goPlay_101, k_X12_goPlay_102, k_X12_goPlay_103, k_X12_goPlay_104, k_X12_goPlay_105, k_X12_goPlay_106, k_X12_goPlay_109, k_X12_goPlay_110, k_X12_goPlay_113, k_X12_goPlay_115, k_X12_goPlay_116, k_X12_goPlay_117, k_X12_goPlay_120, k_X12_goPlay_121, k_X12_goPlay_124, k_X12_goPlay_126, k_X12_goPlay_127, k_X12_goPlay_128, k_X12_goPlay_131, k_X12_goPlay_132, k_X12_goPlay_133, k_X12_goPlay_136, k_X12_goPlay_139, k_X12_goPlay_140, k_X12_goPlay_143, k_X12_goPlay_145, k_X12_goPlay_147, k_X12_goPlay_148, k_X12_goPlay_149, k_X12_goPlay_150, k_X12_goPlay_152, k_X12_goPlay_153, k_X12_goPlay_154, k_X12_goPlay_155, k_X12_goPlay_158, k_X12_goPlay_161, k_X12_goPlay_164, k_X12_goPlay_167, k_X12_goPlay_168, w_X12_goMinute_e, w_X12_has_e, w_X12_minutes_e, e29, bj, d]
          repeat' (first | assumption | apply And.intro | intro _)
          all_goals first | omega | exact absurd trivial (by assumption) | exact i9
        · have d0 : bt (mOu σ a p k) j = 0 := by omega
          have u20 : ∀ (τ : Mem) (x y : Int), up τ 5019 x y 5000 = τ 5000 := fun τ x y => up_na _ (by decide)
          have bo := bor_at oj.1 oj.2 (k := j) (by omega) (by rw [bj]; exact d0)
          have hst : ∀ c : Int, 0 ≤ c → c < σ 5000 29 → up (up σ' 5019 j (mFl σ a p k j + mMn σ a p k (mOu σ a p k) j)) 5000 46 (σ' 5000 46 + mMn σ a p k (mOu σ a p k) j) 5019 c = if c < ((j + 1 : Nat) : Int) then mFl σ a p (k + 1) c else mFl σ a p k c := fun c c0 c1 => by
            rw [up_na _ (by decide)]
            by_cases e : c = j
            · rw [e, up_s, if_pos (by omega), f1]
            · rw [up_nj _ e, ← it_ij e]; exact (hz c c0 c1).1
          have hPF : PF σ (up (up σ' 5019 j (mFl σ a p k j + mMn σ a p k (mOu σ a p k) j)) 5000 46 (σ' 5000 46 + mMn σ a p k (mOu σ a p k) j)) := PF_46 (PF_up hF (Or.inl rfl)) _
          have hmm : mOk (up (up σ' 5019 j (mFl σ a p k j + mMn σ a p k (mOu σ a p k) j)) 5000 46 (σ' 5000 46 + mMn σ a p k (mOu σ a p k) j)) := mOk_c (by rw [up_nj _ (by decide), up_na _ (by decide)]) (fun b hb => by rw [up_na _ (by omega), up_na _ (by omega)]) hm
          have h22 : up (up σ' 5019 j (mFl σ a p k j + mMn σ a p k (mOu σ a p k) j)) 5000 46 (σ' 5000 46 + mMn σ a p k (mOu σ a p k) j) 5022 = σ' 5022 := by rw [up_na _ (by decide), up_na _ (by decide)]
          have h20 : up (up σ' 5019 j (mFl σ a p k j + mMn σ a p k (mOu σ a p k) j)) 5000 46 (σ' 5000 46 + mMn σ a p k (mOu σ a p k) j) 5020 = σ' 5020 := by rw [up_na _ (by decide), up_na _ (by decide)]
          by_cases g : σ 5005 0 ≤ mMn σ a p k (mOu σ a p k) j
          · have i9 : ∃ k', k' < n ∧ inv_gpl σ a p k' 66 [(28, 5000), (8, a), (0, p), (0, mOj σ a p k j + 2 ^ j), (0, (k : Int)), (0, (j : Int) + 1)] [] (up (up (up σ' 5019 j (mFl σ a p k j + mMn σ a p k (mOu σ a p k) j)) 5000 46 (σ' 5000 46 + mMn σ a p k (mOu σ a p k) j)) 5020 j k) := by
              refine ⟨n - 1, by omega, rfl, Or.inr (Or.inr ⟨k, j + 1, rfl, by rw [mOj_y k cc d g]; rfl, by omega, hk, by omega, PF_up hPF (Or.inr rfl), mOk_up hmm (by decide), ?_, fun c c0 c1 => ?_, fun c c0 c1 => ⟨?_, ?_⟩⟩)⟩
              · rw [hsum, up_na _ (by decide), up_s]
              · rw [up_na _ (by decide), h22]; exact hmi c c0 c1
              · rw [up_na _ (by decide)]; exact hst c c0 c1
              · by_cases e : c = j
                · rw [e, up_s, if_pos (by omega), o1, if_pos ⟨d0, g⟩]
                · rw [up_nj _ e, h20, ← it_ij e]; exact (hz c c0 c1).2
            simp only [↓reduceIte, inR_0, inR_1, inR_m, vSw2_e, swP_n, swP_c, vI_e, vL_e, vNull_e, vIload_e, vLload_e, vAload_e, vIstore_e, vLstore_e, vAstore_e, vIinc_e, vIadd_e, vIsub_e, vImul_e, vIand_e, vIor_e, vIxor_e, vIshl_e, vIshr_e, vIushr_e, vIdiv_e, vIrem_e, vLadd_e, vLsub_e, vLmul_e, vLand_e, vLor_e, vLxor_e, vLdiv_e, vLrem_e, vLushr_e, vLshl_e, vLcmp_e, vIneg_e, vI2l_e, vL2i_e, vI2b_e, vI2c_e, vDup_e, vPop_e, vDup2_e, vGoto_e, vIcEq_e, vIfEq_e, vIcNe_e, vIfNe_e, vIcLt_e, vIfLt_e, vIcGe_e, vIfGe_e, vIcGt_e, vIfGt_e, vIcLe_e, vIfLe_e, vNonnull_e, vSw_e, vGetI_e, vGetL_e, vGetR_e, vPutI_e, vPutZ_e, vPutL_e, vPutR_e, vIald_e, vIald_s, vLald_e, vBald_e, vBald_s, vAald_e, vIast_e, vLast_e, vBast_e, vAast_e, vAlen_e8, vAlen_e9, vAlen_e10, vAlen_e11, vAlen_e5, vAlen_e3, vGets_e, vCompact_e, vLdcS_e, vIret_e, vZret_e, vCret_e, vBret_e, vLret_e, vVret_e, vAret_e, vCallM_e0, vCallMV_e0, vCallS_e0, vCallSV_e0, vCallM_e1, vCallMV_e1, vCallS_e1, vCallSV_e1, vCallM_e2, vCallMV_e2, vCallS_e2, vCallSV_e2, vCallM_e3, vCallMV_e3, vCallS_e3, vCallSV_e3, vCallM_e4, vCallMV_e4, vCallS_e4, vCallSV_e4, vCallM_e5, vCallMV_e5, vCallS_e5, vCallSV_e5, vCallM_e6, vCallMV_e6, vCallS_e6, vCallSV_e6, vCallM_e7, vCallMV_e7, vCallS_e7, vCallSV_e7, vBad_e, vStrVal_e, vStrCod_e, vForm_e, vCallT_e0, vCallT_e1, vCallT_e2, vCopy_e, rf_0_0, rf_0_1, rf_0_2, rf_0_3, rf_0_4, rf_0_7, rf_0_10, rf_0_11, rf_0_12, rf_0_13, rf_0_14, rf_0_15, rf_0_16, rf_1_0, rf_3_0, rf_3_1, rf_6_0, rf_6_1, rf_9_0, rf_9_1, rf_9_3, rf_13_0, rf_13_1, rf_13_2, rf_16_0, rf_16_1, rf_16_2, rf_16_3, rf_21_0, rf_21_1, rf_21_2, rf_21_3, rf_26_0, rf_26_1, rf_26_2, rf_26_3, rf_26_4, rf_26_5, rf_26_6, rf_31_0, rf_31_2, rf_31_5, rf_31_6, rf_36_0, rf_36_1, rf_36_2, rf_36_3, rf_39_0, rf_39_1, rf_39_2, rf_41_0, rf_41_1, rf_41_2, rf_41_3, rf_5000_1, rf_5000_2, rf_5000_3, rf_5000_4, rf_5000_5, rf_5000_15, rf_5000_16, rf_5000_18, rf_5000_19, rf_5000_20, rf_5000_21, rf_5000_22, rf_5000_23, rf_5000_24, rf_5000_25, rf_5000_26, rf_5000_27, rf_5000_36, rf_5000_37, rf_5000_40, rf_5000_41, rf_5000_42, rf_5000_43, rf_5000_44, rf_5000_45, rf_5000_47, rf_5000_52, rf_5000_54, rf_5000_55, rf_100_0, rf_100_1, rf_103_0, rf_103_1, rf_106_0, rf_106_1, rf_109_0, rf_109_1, al_2, al_4, al_5, al_7, al_8, al_10, al_11, al_12, al_14, al_15, al_17, al_18, al_19, al_20, al_22, al_23, al_24, al_25, al_27, al_28, al_29, al_30, al_32, al_33, al_34, al_35, al_37, al_38, al_40, al_42, al_5001, al_5002, al_5003, al_5004, al_5005, al_5006, al_5007, al_5008, al_5009, al_5010, al_5011, al_5012, al_5013, al_5014, al_5015, al_5016, al_5017, al_5018, al_5019, al_5020, al_5021, al_5022, al_5023, al_5024, al_5025, al_5026, al_9000, al_101, al_102, al_104, al_105, al_107, al_108, al_110, al_111, vcs_e, lg_c0, lg_cs, lg_nil, set_c0, set_cs, okst_0, okst_s, acok_n, acok_c, List.contains_nil, List.contains_cons, Bool.or_false, Bool.false_or, Bool.false_eq_true, if_false, if_true, ite_self, ne_eq, true_and, and_true, not_false_eq_true, not_true_eq_false, false_imp_iff, true_imp_iff, Nat.ble_eq, Bool.and_eq_true, reduceCtorEq, or_false, false_or, or_true, true_or, false_and, and_false, and_self, Int.reduceLE, Int.reduceAdd, Int.reduceSub, Int.reduceMul, Int.reduceNeg, Int.reduceLT, Int.reduceEq, Int.reduceNe, Nat.reduceBEq, Nat.reduceBNe, Nat.reduceEqDiff, amCmp_in, amCmp_lt, amCmp_le, amCmp_gt, amCmp_ge, amCmp_eq, amCmp_ne, Nat.reduceLeDiff, Nat.reduceSub, Bool.and_true, Bool.true_and, Bool.and_self, Bool.or_true, Bool.true_or, isRf_3, isRf_4, isRf_5, isRf_8, isRf_9, isRf_10, isRf_11, isRf_15, isRf_16, isRf_17, isRf_18, isRf_19, isRf_20, isRf_21, isRf_22, isRf_23, isRf_24, isRf_25, isRf_26, isRf_27, isRf_28, k_X12_goPlay_0, k_X12_goPlay_1, k_X12_goPlay_2, k_X12_goPlay_3, k_X12_goPlay_4, k_X12_goPlay_7, k_X12_goPlay_8, k_X12_goPlay_10, k_X12_goPlay_12, k_X12_goPlay_13, k_X12_goPlay_16, k_X12_goPlay_19, k_X12_goPlay_20, k_X12_goPlay_23, k_X12_goPlay_25, k_X12_goPlay_26, k_X12_goPlay_27, k_X12_goPlay_28, k_X12_goPlay_31, k_X12_goPlay_33, k_X12_goPlay_34, k_X12_goPlay_35, k_X12_goPlay_38, k_X12_goPlay_41, k_X12_goPlay_42, k_X12_goPlay_44, k_X12_goPlay_46, k_X12_goPlay_47, k_X12_goPlay_48, k_X12_goPlay_51, k_X12_goPlay_54, k_X12_goPlay_55, k_X12_goPlay_56, k_X12_goPlay_57, k_X12_goPlay_59, k_X12_goPlay_60, k_X12_goPlay_63, k_X12_goPlay_64, k_X12_goPlay_66, k_X12_goPlay_68, k_X12_goPlay_69, k_X12_goPlay_72, k_X12_goPlay_75, k_X12_goPlay_76, k_X12_goPlay_78, k_X12_goPlay_81, k_X12_goPlay_84, k_X12_goPlay_87, k_X12_goPlay_88, k_X12_goPlay_91, k_X12_goPlay_93, k_X12_goPlay_94, k_X12_goPlay_95, k_X12_goPlay_96, k_X12_goPlay_99, k_X12_goPlay_101, k_X12_goPlay_102, k_X12_goPlay_103, k_X12_goPlay_104, k_X12_goPlay_105, k_X12_goPlay_106, k_X12_goPlay_109, k_X12_goPlay_110, k_X12_goPlay_113, k_X12_goPlay_115, k_X12_goPlay_116, k_X12_goPlay_117, k_X12_goPlay_120, k_X12_goPlay_121, k_X12_goPlay_124, k_X12_goPlay_126, k_X12_goPlay_127, k_X12_goPlay_128, k_X12_goPlay_131, k_X12_goPlay_132, k_X12_goPlay_133, k_X12_goPlay_136, k_X12_goPlay_139, k_X12_goPlay_140, k_X12_goPlay_143, k_X12_goPlay_145, k_X12_goPlay_147, k_X12_goPlay_148, k_X12_goPlay_149, k_X12_goPlay_150, k_X12_goPlay_152, k_X12_goPlay_153, k_X12_goPlay_154, k_X12_goPlay_155, k_X12_goPlay_158, k_X12_goPlay_161, k_X12_goPlay_164, k_X12_goPlay_167, k_X12_goPlay_168, w_X12_goMinute_e, w_X12_has_e, w_X12_minutes_e, up_s, up_nj, up_na, up_up, savR_o, cpy_o, fillm_o, setAud_o, setv_o, setv_s, Int.reduceNe, Int.reduceEq, Int.reduceLT, Int.reduceAdd, not_false_eq_true, ne_eq, or_true, true_or, e29, e5005, bj, d0, z1, zm, bo]
            repeat' (first | assumption | apply And.intro | intro _)
            all_goals first | omega | exact absurd trivial (by assumption) | exact i9
          · have i9 : ∃ k', k' < n ∧ inv_gpl σ a p k' 66 [(28, 5000), (8, a), (0, p), (0, mOj σ a p k j), (0, (k : Int)), (0, (j : Int) + 1)] [] (up (up σ' 5019 j (mFl σ a p k j + mMn σ a p k (mOu σ a p k) j)) 5000 46 (σ' 5000 46 + mMn σ a p k (mOu σ a p k) j)) := by
              refine ⟨n - 1, by omega, rfl, Or.inr (Or.inr ⟨k, j + 1, rfl, by rw [mOj_n k (Or.inr g)]; rfl, by omega, hk, by omega, hPF, hmm, ?_, fun c c0 c1 => ?_, fun c c0 c1 => ⟨hst c c0 c1, ?_⟩⟩)⟩
              · rw [hsum, up_s]
              · rw [h22]; exact hmi c c0 c1
              · rw [h20]
                by_cases e : c = j
                · rw [e, if_pos (by omega), o1, if_neg (fun q => g q.2)]; exact z2
                · rw [← it_ij e]; exact (hz c c0 c1).2
            simp only [↓reduceIte, inR_0, inR_1, inR_m, vSw2_e, swP_n, swP_c, vI_e, vL_e, vNull_e, vIload_e, vLload_e, vAload_e, vIstore_e, vLstore_e, vAstore_e, vIinc_e, vIadd_e, vIsub_e, vImul_e, vIand_e, vIor_e, vIxor_e, vIshl_e, vIshr_e, vIushr_e, vIdiv_e, vIrem_e, vLadd_e, vLsub_e, vLmul_e, vLand_e, vLor_e, vLxor_e, vLdiv_e, vLrem_e, vLushr_e, vLshl_e, vLcmp_e, vIneg_e, vI2l_e, vL2i_e, vI2b_e, vI2c_e, vDup_e, vPop_e, vDup2_e, vGoto_e, vIcEq_e, vIfEq_e, vIcNe_e, vIfNe_e, vIcLt_e, vIfLt_e, vIcGe_e, vIfGe_e, vIcGt_e, vIfGt_e, vIcLe_e, vIfLe_e, vNonnull_e, vSw_e, vGetI_e, vGetL_e, vGetR_e, vPutI_e, vPutZ_e, vPutL_e, vPutR_e, vIald_e, vIald_s, vLald_e, vBald_e, vBald_s, vAald_e, vIast_e, vLast_e, vBast_e, vAast_e, vAlen_e8, vAlen_e9, vAlen_e10, vAlen_e11, vAlen_e5, vAlen_e3, vGets_e, vCompact_e, vLdcS_e, vIret_e, vZret_e, vCret_e, vBret_e, vLret_e, vVret_e, vAret_e, vCallM_e0, vCallMV_e0, vCallS_e0, vCallSV_e0, vCallM_e1, vCallMV_e1, vCallS_e1, vCallSV_e1, vCallM_e2, vCallMV_e2, vCallS_e2, vCallSV_e2, vCallM_e3, vCallMV_e3, vCallS_e3, vCallSV_e3, vCallM_e4, vCallMV_e4, vCallS_e4, vCallSV_e4, vCallM_e5, vCallMV_e5, vCallS_e5, vCallSV_e5, vCallM_e6, vCallMV_e6, vCallS_e6, vCallSV_e6, vCallM_e7, vCallMV_e7, vCallS_e7, vCallSV_e7, vBad_e, vStrVal_e, vStrCod_e, vForm_e, vCallT_e0, vCallT_e1, vCallT_e2, vCopy_e, rf_0_0, rf_0_1, rf_0_2, rf_0_3, rf_0_4, rf_0_7, rf_0_10, rf_0_11, rf_0_12, rf_0_13, rf_0_14, rf_0_15, rf_0_16, rf_1_0, rf_3_0, rf_3_1, rf_6_0, rf_6_1, rf_9_0, rf_9_1, rf_9_3, rf_13_0, rf_13_1, rf_13_2, rf_16_0, rf_16_1, rf_16_2, rf_16_3, rf_21_0, rf_21_1, rf_21_2, rf_21_3, rf_26_0, rf_26_1, rf_26_2, rf_26_3, rf_26_4, rf_26_5, rf_26_6, rf_31_0, rf_31_2, rf_31_5, rf_31_6, rf_36_0, rf_36_1, rf_36_2, rf_36_3, rf_39_0, rf_39_1, rf_39_2, rf_41_0, rf_41_1, rf_41_2, rf_41_3, rf_5000_1, rf_5000_2, rf_5000_3, rf_5000_4, rf_5000_5, rf_5000_15, rf_5000_16, rf_5000_18, rf_5000_19, rf_5000_20, rf_5000_21, rf_5000_22, rf_5000_23, rf_5000_24, rf_5000_25, rf_5000_26, rf_5000_27, rf_5000_36, rf_5000_37, rf_5000_40, rf_5000_41, rf_5000_42, rf_5000_43, rf_5000_44, rf_5000_45, rf_5000_47, rf_5000_52, rf_5000_54, rf_5000_55, rf_100_0, rf_100_1, rf_103_0, rf_103_1, rf_106_0, rf_106_1, rf_109_0, rf_109_1, al_2, al_4, al_5, al_7, al_8, al_10, al_11, al_12, al_14, al_15, al_17, al_18, al_19, al_20, al_22, al_23, al_24, al_25, al_27, al_28, al_29, al_30, al_32, al_33, al_34, al_35, al_37, al_38, al_40, al_42, al_5001, al_5002, al_5003, al_5004, al_5005, al_5006, al_5007, al_5008, al_5009, al_5010, al_5011, al_5012, al_5013, al_5014, al_5015, al_5016, al_5017, al_5018, al_5019, al_5020, al_5021, al_5022, al_5023, al_5024, al_5025, al_5026, al_9000, al_101, al_102, al_104, al_105, al_107, al_108, al_110, al_111, vcs_e, lg_c0, lg_cs, lg_nil, set_c0, set_cs, okst_0, okst_s, acok_n, acok_c, List.contains_nil, List.contains_cons, Bool.or_false, Bool.false_or, Bool.false_eq_true, if_false, if_true, ite_self, ne_eq, true_and, and_true, not_false_eq_true, not_true_eq_false, false_imp_iff, true_imp_iff, Nat.ble_eq, Bool.and_eq_true, reduceCtorEq, or_false, false_or, or_true, true_or, false_and, and_false, and_self, Int.reduceLE, Int.reduceAdd, Int.reduceSub, Int.reduceMul, Int.reduceNeg, Int.reduceLT, Int.reduceEq, Int.reduceNe, Nat.reduceBEq, Nat.reduceBNe, Nat.reduceEqDiff, amCmp_in, amCmp_lt, amCmp_le, amCmp_gt, amCmp_ge, amCmp_eq, amCmp_ne, Nat.reduceLeDiff, Nat.reduceSub, Bool.and_true, Bool.true_and, Bool.and_self, Bool.or_true, Bool.true_or, isRf_3, isRf_4, isRf_5, isRf_8, isRf_9, isRf_10, isRf_11, isRf_15, isRf_16, isRf_17, isRf_18, isRf_19, isRf_20, isRf_21, isRf_22, isRf_23, isRf_24, isRf_25, isRf_26, isRf_27, isRf_28, k_X12_goPlay_0, k_X12_goPlay_1, k_X12_goPlay_2, k_X12_goPlay_3, k_X12_goPlay_4, k_X12_goPlay_7, k_X12_goPlay_8, k_X12_goPlay_10, k_X12_goPlay_12, k_X12_goPlay_13, k_X12_goPlay_16, k_X12_goPlay_19, k_X12_goPlay_20, k_X12_goPlay_23, k_X12_goPlay_25, k_X12_goPlay_26, k_X12_goPlay_27, k_X12_goPlay_28, k_X12_goPlay_31, k_X12_goPlay_33, k_X12_goPlay_34, k_X12_goPlay_35, k_X12_goPlay_38, k_X12_goPlay_41, k_X12_goPlay_42, k_X12_goPlay_44, k_X12_goPlay_46, k_X12_goPlay_47, k_X12_goPlay_48, k_X12_goPlay_51, k_X12_goPlay_54, k_X12_goPlay_55, k_X12_goPlay_56, k_X12_goPlay_57, k_X12_goPlay_59, k_X12_goPlay_60, k_X12_goPlay_63, k_X12_goPlay_64, k_X12_goPlay_66, k_X12_goPlay_68, k_X12_goPlay_69, k_X12_goPlay_72, k_X12_goPlay_75, k_X12_goPlay_76, k_X12_goPlay_78, k_X12_goPlay_81, k_X12_goPlay_84, k_X12_goPlay_87, k_X12_goPlay_88, k_X12_goPlay_91, k_X12_goPlay_93, k_X12_goPlay_94, k_X12_goPlay_95, k_X12_goPlay_96, k_X12_goPlay_99, k_X12_goPlay_101, k_X12_goPlay_102, k_X12_goPlay_103, k_X12_goPlay_104, k_X12_goPlay_105, k_X12_goPlay_106, k_X12_goPlay_109, k_X12_goPlay_110, k_X12_goPlay_113, k_X12_goPlay_115, k_X12_goPlay_116, k_X12_goPlay_117, k_X12_goPlay_120, k_X12_goPlay_121, k_X12_goPlay_124, k_X12_goPlay_126, k_X12_goPlay_127, k_X12_goPlay_128, k_X12_goPlay_131, k_X12_goPlay_132, k_X12_goPlay_133, k_X12_goPlay_136, k_X12_goPlay_139, k_X12_goPlay_140, k_X12_goPlay_143, k_X12_goPlay_145, k_X12_goPlay_147, k_X12_goPlay_148, k_X12_goPlay_149, k_X12_goPlay_150, k_X12_goPlay_152, k_X12_goPlay_153, k_X12_goPlay_154, k_X12_goPlay_155, k_X12_goPlay_158, k_X12_goPlay_161, k_X12_goPlay_164, k_X12_goPlay_167, k_X12_goPlay_168, w_X12_goMinute_e, w_X12_has_e, w_X12_minutes_e, up_s, up_nj, up_na, up_up, savR_o, cpy_o, fillm_o, setAud_o, setv_o, setv_s, Int.reduceNe, Int.reduceEq, Int.reduceLT, Int.reduceAdd, not_false_eq_true, ne_eq, or_true, true_or, e29, e5005, bj, d0, z1, zm, bo]
            repeat' (first | assumption | apply And.intro | intro _)
            all_goals first | omega | exact absurd trivial (by assumption) | exact i9
      · have ej : j = (σ 5000 29).toNat := by omega
        have i9 : ∃ k', k' < n ∧ inv_gpl σ a p k' 44 [(28, 5000), (8, a), (0, p), (0, mOj σ a p k j), (0, (k : Int) + 1), (0, (j : Int))] [] σ' := by
          refine ⟨n - 1 - (6 - j), by omega, rfl, Or.inr (Or.inl ⟨k + 1, (0, (j : Int)), rfl, by rw [ej, mOj_s n0 n6]; rfl, by omega, by omega, hF, hm, ?_, fun c c0 c1 => ?_⟩)⟩
          · rw [h46]; exact sumC_cong (fun i i0 i1 => by rw [if_pos (by omega)])
          · have := hz c c0 c1
            rw [if_pos (by omega), if_pos (by omega)] at this; exact this
        simp only [↓reduceIte, inR_0, inR_1, inR_m, vSw2_e, swP_n, swP_c, vI_e, vL_e, vNull_e, vIload_e, vLload_e, vAload_e, vIstore_e, vLstore_e, vAstore_e, vIinc_e, vIadd_e, vIsub_e, vImul_e, vIand_e, vIor_e, vIxor_e, vIshl_e, vIshr_e, vIushr_e, vIdiv_e, vIrem_e, vLadd_e, vLsub_e, vLmul_e, vLand_e, vLor_e, vLxor_e, vLdiv_e, vLrem_e, vLushr_e, vLshl_e, vLcmp_e, vIneg_e, vI2l_e, vL2i_e, vI2b_e, vI2c_e, vDup_e, vPop_e, vDup2_e, vGoto_e, vIcEq_e, vIfEq_e, vIcNe_e, vIfNe_e, vIcLt_e, vIfLt_e, vIcGe_e, vIfGe_e, vIcGt_e, vIfGt_e, vIcLe_e, vIfLe_e, vNonnull_e, vSw_e, vGetI_e, vGetL_e, vGetR_e, vPutI_e, vPutZ_e, vPutL_e, vPutR_e, vIald_e, vIald_s, vLald_e, vBald_e, vBald_s, vAald_e, vIast_e, vLast_e, vBast_e, vAast_e, vAlen_e8, vAlen_e9, vAlen_e10, vAlen_e11, vAlen_e5, vAlen_e3, vGets_e, vCompact_e, vLdcS_e, vIret_e, vZret_e, vCret_e, vBret_e, vLret_e, vVret_e, vAret_e, vCallM_e0, vCallMV_e0, vCallS_e0, vCallSV_e0, vCallM_e1, vCallMV_e1, vCallS_e1, vCallSV_e1, vCallM_e2, vCallMV_e2, vCallS_e2, vCallSV_e2, vCallM_e3, vCallMV_e3, vCallS_e3, vCallSV_e3, vCallM_e4, vCallMV_e4, vCallS_e4, vCallSV_e4, vCallM_e5, vCallMV_e5, vCallS_e5, vCallSV_e5, vCallM_e6, vCallMV_e6, vCallS_e6, vCallSV_e6, vCallM_e7, vCallMV_e7, vCallS_e7, vCallSV_e7, vBad_e, vStrVal_e, vStrCod_e, vForm_e, vCallT_e0, vCallT_e1, vCallT_e2, vCopy_e, rf_0_0, rf_0_1, rf_0_2, rf_0_3, rf_0_4, rf_0_7, rf_0_10, rf_0_11, rf_0_12, rf_0_13, rf_0_14, rf_0_15, rf_0_16, rf_1_0, rf_3_0, rf_3_1, rf_6_0, rf_6_1, rf_9_0, rf_9_1, rf_9_3, rf_13_0, rf_13_1, rf_13_2, rf_16_0, rf_16_1, rf_16_2, rf_16_3, rf_21_0, rf_21_1, rf_21_2, rf_21_3, rf_26_0, rf_26_1, rf_26_2, rf_26_3, rf_26_4, rf_26_5, rf_26_6, rf_31_0, rf_31_2, rf_31_5, rf_31_6, rf_36_0, rf_36_1, rf_36_2, rf_36_3, rf_39_0, rf_39_1, rf_39_2, rf_41_0, rf_41_1, rf_41_2, rf_41_3, rf_5000_1, rf_5000_2, rf_5000_3, rf_5000_4, rf_5000_5, rf_5000_15, rf_5000_16, rf_5000_18, rf_5000_19, rf_5000_20, rf_5000_21, rf_5000_22, rf_5000_23, rf_5000_24, rf_5000_25, rf_5000_26, rf_5000_27, rf_5000_36, rf_5000_37, rf_5000_40, rf_5000_41, rf_5000_42, rf_5000_43, rf_5000_44, rf_5000_45, rf_5000_47, rf_5000_52, rf_5000_54, rf_5000_55, rf_100_0, rf_100_1, rf_103_0, rf_103_1, rf_106_0, rf_106_1, rf_109_0, rf_109_1, al_2, al_4, al_5, al_7, al_8, al_10, al_11, al_12, al_14, al_15, al_17, al_18, al_19, al_20, al_22, al_23, al_24, al_25, al_27, al_28, al_29, al_30, al_32, al_33, al_34, al_35, al_37, al_38, al_40, al_42, al_5001, al_5002, al_5003, al_5004, al_5005, al_5006, al_5007, al_5008, al_5009, al_5010, al_5011, al_5012, al_5013, al_5014, al_5015, al_5016, al_5017, al_5018, al_5019, al_5020, al_5021, al_5022, al_5023, al_5024, al_5025, al_5026, al_9000, al_101, al_102, al_104, al_105, al_107, al_108, al_110, al_111, vcs_e, lg_c0, lg_cs, lg_nil, set_c0, set_cs, okst_0, okst_s, acok_n, acok_c, List.contains_nil, List.contains_cons, Bool.or_false, Bool.false_or, Bool.false_eq_true, if_false, if_true, ite_self, ne_eq, true_and, and_true, not_false_eq_true, not_true_eq_false, false_imp_iff, true_imp_iff, Nat.ble_eq, Bool.and_eq_true, reduceCtorEq, or_false, false_or, or_true, true_or, false_and, and_false, and_self, Int.reduceLE, Int.reduceAdd, Int.reduceSub, Int.reduceMul, Int.reduceNeg, Int.reduceLT, Int.reduceEq, Int.reduceNe, Nat.reduceBEq, Nat.reduceBNe, Nat.reduceEqDiff, amCmp_in, amCmp_lt, amCmp_le, amCmp_gt, amCmp_ge, amCmp_eq, amCmp_ne, Nat.reduceLeDiff, Nat.reduceSub, Bool.and_true, Bool.true_and, Bool.and_self, Bool.or_true, Bool.true_or, isRf_3, isRf_4, isRf_5, isRf_8, isRf_9, isRf_10, isRf_11, isRf_15, isRf_16, isRf_17, isRf_18, isRf_19, isRf_20, isRf_21, isRf_22, isRf_23, isRf_24, isRf_25, isRf_26, isRf_27, isRf_28, k_X12_goPlay_0, k_X12_goPlay_1, k_X12_goPlay_2, k_X12_goPlay_3, k_X12_goPlay_4, k_X12_goPlay_7, k_X12_goPlay_8, k_X12_goPlay_10, k_X12_goPlay_12, k_X12_goPlay_13, k_X12_goPlay_16, k_X12_goPlay_19, k_X12_goPlay_20, k_X12_goPlay_23, k_X12_goPlay_25, k_X12_goPlay_26, k_X12_goPlay_27, k_X12_goPlay_28, k_X12_goPlay_31, k_X12_goPlay_33, k_X12_goPlay_34, k_X12_goPlay_35, k_X12_goPlay_38, k_X12_goPlay_41, k_X12_goPlay_42, k_X12_goPlay_44, k_X12_goPlay_46, k_X12_goPlay_47, k_X12_goPlay_48, k_X12_goPlay_51, k_X12_goPlay_54, k_X12_goPlay_55, k_X12_goPlay_56, k_X12_goPlay_57, k_X12_goPlay_59, k_X12_goPlay_60, k_X12_goPlay_63, k_X12_goPlay_64, k_X12_goPlay_66, k_X12_goPlay_68, k_X12_goPlay_69, k_X12_goPlay_72, k_X12_goPlay_75, k_X12_goPlay_76, k_X12_goPlay_78, k_X12_goPlay_81, k_X12_goPlay_84, k_X12_goPlay_87, k_X12_goPlay_88, k_X12_goPlay_91, k_X12_goPlay_93, k_X12_goPlay_94, k_X12_goPlay_95, k_X12_goPlay_96, k_X12_goPlay_99, k_X12_goPlay_101, k_X12_goPlay_102, k_X12_goPlay_103, k_X12_goPlay_104, k_X12_goPlay_105, k_X12_goPlay_106, k_X12_goPlay_109, k_X12_goPlay_110, k_X12_goPlay_113, k_X12_goPlay_115, k_X12_goPlay_116, k_X12_goPlay_117, k_X12_goPlay_120, k_X12_goPlay_121, k_X12_goPlay_124, k_X12_goPlay_126, k_X12_goPlay_127, k_X12_goPlay_128, k_X12_goPlay_131, k_X12_goPlay_132, k_X12_goPlay_133, k_X12_goPlay_136, k_X12_goPlay_139, k_X12_goPlay_140, k_X12_goPlay_143, k_X12_goPlay_145, k_X12_goPlay_147, k_X12_goPlay_148, k_X12_goPlay_149, k_X12_goPlay_150, k_X12_goPlay_152, k_X12_goPlay_153, k_X12_goPlay_154, k_X12_goPlay_155, k_X12_goPlay_158, k_X12_goPlay_161, k_X12_goPlay_164, k_X12_goPlay_167, k_X12_goPlay_168, e29]
        repeat' (first | assumption | apply And.intro | intro _)
        all_goals first | omega | exact absurd trivial (by assumption) | exact i9
  · change vcs _ _ _ _ 60 0 [(28, 5000), (8, a), (0, p), (6, 0), (6, 0), (6, 0)] [] σ
    have i9 : ∃ k', inv_gpl σ a p k' 10 [(28, 5000), (8, a), (0, p), (0, 0), (0, 0), (6, 0)] [] (up σ 5000 46 0) :=
      ⟨206, rfl, Or.inl ⟨0, (6, 0), rfl, rfl, by omega, by omega, PF_46 (PF_rf σ) 0, mOk_c (by rw [up_nj _ (by decide)]) (fun b hb => by rw [up_na _ (by omega)]) hok, by rw [up_s], fun j j0 j1 => by omega⟩⟩
    simp only [↓reduceIte, inR_0, inR_1, inR_m, vSw2_e, swP_n, swP_c, vI_e, vL_e, vNull_e, vIload_e, vLload_e, vAload_e, vIstore_e, vLstore_e, vAstore_e, vIinc_e, vIadd_e, vIsub_e, vImul_e, vIand_e, vIor_e, vIxor_e, vIshl_e, vIshr_e, vIushr_e, vIdiv_e, vIrem_e, vLadd_e, vLsub_e, vLmul_e, vLand_e, vLor_e, vLxor_e, vLdiv_e, vLrem_e, vLushr_e, vLshl_e, vLcmp_e, vIneg_e, vI2l_e, vL2i_e, vI2b_e, vI2c_e, vDup_e, vPop_e, vDup2_e, vGoto_e, vIcEq_e, vIfEq_e, vIcNe_e, vIfNe_e, vIcLt_e, vIfLt_e, vIcGe_e, vIfGe_e, vIcGt_e, vIfGt_e, vIcLe_e, vIfLe_e, vNonnull_e, vSw_e, vGetI_e, vGetL_e, vGetR_e, vPutI_e, vPutZ_e, vPutL_e, vPutR_e, vIald_e, vIald_s, vLald_e, vBald_e, vBald_s, vAald_e, vIast_e, vLast_e, vBast_e, vAast_e, vAlen_e8, vAlen_e9, vAlen_e10, vAlen_e11, vAlen_e5, vAlen_e3, vGets_e, vCompact_e, vLdcS_e, vIret_e, vZret_e, vCret_e, vBret_e, vLret_e, vVret_e, vAret_e, vCallM_e0, vCallMV_e0, vCallS_e0, vCallSV_e0, vCallM_e1, vCallMV_e1, vCallS_e1, vCallSV_e1, vCallM_e2, vCallMV_e2, vCallS_e2, vCallSV_e2, vCallM_e3, vCallMV_e3, vCallS_e3, vCallSV_e3, vCallM_e4, vCallMV_e4, vCallS_e4, vCallSV_e4, vCallM_e5, vCallMV_e5, vCallS_e5, vCallSV_e5, vCallM_e6, vCallMV_e6, vCallS_e6, vCallSV_e6, vCallM_e7, vCallMV_e7, vCallS_e7, vCallSV_e7, vBad_e, vStrVal_e, vStrCod_e, vForm_e, vCallT_e0, vCallT_e1, vCallT_e2, vCopy_e, rf_0_0, rf_0_1, rf_0_2, rf_0_3, rf_0_4, rf_0_7, rf_0_10, rf_0_11, rf_0_12, rf_0_13, rf_0_14, rf_0_15, rf_0_16, rf_1_0, rf_3_0, rf_3_1, rf_6_0, rf_6_1, rf_9_0, rf_9_1, rf_9_3, rf_13_0, rf_13_1, rf_13_2, rf_16_0, rf_16_1, rf_16_2, rf_16_3, rf_21_0, rf_21_1, rf_21_2, rf_21_3, rf_26_0, rf_26_1, rf_26_2, rf_26_3, rf_26_4, rf_26_5, rf_26_6, rf_31_0, rf_31_2, rf_31_5, rf_31_6, rf_36_0, rf_36_1, rf_36_2, rf_36_3, rf_39_0, rf_39_1, rf_39_2, rf_41_0, rf_41_1, rf_41_2, rf_41_3, rf_5000_1, rf_5000_2, rf_5000_3, rf_5000_4, rf_5000_5, rf_5000_15, rf_5000_16, rf_5000_18, rf_5000_19, rf_5000_20, rf_5000_21, rf_5000_22, rf_5000_23, rf_5000_24, rf_5000_25, rf_5000_26, rf_5000_27, rf_5000_36, rf_5000_37, rf_5000_40, rf_5000_41, rf_5000_42, rf_5000_43, rf_5000_44, rf_5000_45, rf_5000_47, rf_5000_52, rf_5000_54, rf_5000_55, rf_100_0, rf_100_1, rf_103_0, rf_103_1, rf_106_0, rf_106_1, rf_109_0, rf_109_1, al_2, al_4, al_5, al_7, al_8, al_10, al_11, al_12, al_14, al_15, al_17, al_18, al_19, al_20, al_22, al_23, al_24, al_25, al_27, al_28, al_29, al_30, al_32, al_33, al_34, al_35, al_37, al_38, al_40, al_42, al_5001, al_5002, al_5003, al_5004, al_5005, al_5006, al_5007, al_5008, al_5009, al_5010, al_5011, al_5012, al_5013, al_5014, al_5015, al_5016, al_5017, al_5018, al_5019, al_5020, al_5021, al_5022, al_5023, al_5024, al_5025, al_5026, al_9000, al_101, al_102, al_104, al_105, al_107, al_108, al_110, al_111, vcs_e, lg_c0, lg_cs, lg_nil, set_c0, set_cs, okst_0, okst_s, acok_n, acok_c, List.contains_nil, List.contains_cons, Bool.or_false, Bool.false_or, Bool.false_eq_true, if_false, if_true, ite_self, ne_eq, true_and, and_true, not_false_eq_true, not_true_eq_false, false_imp_iff, true_imp_iff, Nat.ble_eq, Bool.and_eq_true, reduceCtorEq, or_false, false_or, or_true, true_or, false_and, and_false, and_self, Int.reduceLE, Int.reduceAdd, Int.reduceSub, Int.reduceMul, Int.reduceNeg, Int.reduceLT, Int.reduceEq, Int.reduceNe, Nat.reduceBEq, Nat.reduceBNe, Nat.reduceEqDiff, amCmp_in, amCmp_lt, amCmp_le, amCmp_gt, amCmp_ge, amCmp_eq, amCmp_ne, Nat.reduceLeDiff, Nat.reduceSub, Bool.and_true, Bool.true_and, Bool.and_self, Bool.or_true, Bool.true_or, isRf_3, isRf_4, isRf_5, isRf_8, isRf_9, isRf_10, isRf_11, isRf_15, isRf_16, isRf_17, isRf_18, isRf_19, isRf_20, isRf_21, isRf_22, isRf_23, isRf_24, isRf_25, isRf_26, isRf_27, isRf_28, k_X12_goPlay_0, k_X12_goPlay_1, k_X12_goPlay_2, k_X12_goPlay_3, k_X12_goPlay_4, k_X12_goPlay_7, k_X12_goPlay_8, k_X12_goPlay_10, k_X12_goPlay_12, k_X12_goPlay_13, k_X12_goPlay_16, k_X12_goPlay_19, k_X12_goPlay_20, k_X12_goPlay_23, k_X12_goPlay_25, k_X12_goPlay_26, k_X12_goPlay_27, k_X12_goPlay_28, k_X12_goPlay_31, k_X12_goPlay_33, k_X12_goPlay_34, k_X12_goPlay_35, k_X12_goPlay_38, k_X12_goPlay_41, k_X12_goPlay_42, k_X12_goPlay_44, k_X12_goPlay_46, k_X12_goPlay_47, k_X12_goPlay_48, k_X12_goPlay_51, k_X12_goPlay_54, k_X12_goPlay_55, k_X12_goPlay_56, k_X12_goPlay_57, k_X12_goPlay_59, k_X12_goPlay_60, k_X12_goPlay_63, k_X12_goPlay_64, k_X12_goPlay_66, k_X12_goPlay_68, k_X12_goPlay_69, k_X12_goPlay_72, k_X12_goPlay_75, k_X12_goPlay_76, k_X12_goPlay_78, k_X12_goPlay_81, k_X12_goPlay_84, k_X12_goPlay_87, k_X12_goPlay_88, k_X12_goPlay_91, k_X12_goPlay_93, k_X12_goPlay_94, k_X12_goPlay_95, k_X12_goPlay_96, k_X12_goPlay_99, k_X12_goPlay_101, k_X12_goPlay_102, k_X12_goPlay_103, k_X12_goPlay_104, k_X12_goPlay_105, k_X12_goPlay_106, k_X12_goPlay_109, k_X12_goPlay_110, k_X12_goPlay_113, k_X12_goPlay_115, k_X12_goPlay_116, k_X12_goPlay_117, k_X12_goPlay_120, k_X12_goPlay_121, k_X12_goPlay_124, k_X12_goPlay_126, k_X12_goPlay_127, k_X12_goPlay_128, k_X12_goPlay_131, k_X12_goPlay_132, k_X12_goPlay_133, k_X12_goPlay_136, k_X12_goPlay_139, k_X12_goPlay_140, k_X12_goPlay_143, k_X12_goPlay_145, k_X12_goPlay_147, k_X12_goPlay_148, k_X12_goPlay_149, k_X12_goPlay_150, k_X12_goPlay_152, k_X12_goPlay_153, k_X12_goPlay_154, k_X12_goPlay_155, k_X12_goPlay_158, k_X12_goPlay_161, k_X12_goPlay_164, k_X12_goPlay_167, k_X12_goPlay_168]
    repeat' (first | assumption | apply And.intro | intro _)
    all_goals first | omega | exact absurd trivial (by assumption) | exact i9
