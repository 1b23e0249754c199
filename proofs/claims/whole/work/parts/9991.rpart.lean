/-! the reference reads CONDITIONS: parts, CONDITIONS -/
theorem gCmp_b {t : Int → Int} {n : Int} (ht : ∀ i, n ≤ i → t i = -1) (r : Nat) {p : Int} (h0 : 0 ≤ p) (h1 : p ≤ n) (g : List Int) : (∀ f, gCmp t n r (.inr (p, g)) = .inl f → 0 ≤ f ∧ f ≤ n) ∧ ∀ y, gCmp t n r (.inr (p, g)) = .inr y → 0 < y.1 ∧ y.1 ≤ n := by
  have s := sk_b t (n := n) (p := p) h1
  unfold gCmp; dsimp only
  by_cases c : isSg (t (sk t n p))
  · rw [if_pos c]
    unfold isSg at c
    have hlt := sk_lt ht (q := sk t n p) (by omega)
    have h := gS_ok ht r (sk t n p + 1) (by omega) (by omega)
    revert h
    cases gS t n r (sk t n p + 1) with
    | inl q =>
      intro h; rw [gok_l] at h
      exact ⟨fun f e => by cases e; omega, fun y e => by cases e⟩
    | inr z =>
      intro h; rw [gok_r] at h
      exact ⟨fun f e => (by cases e), fun y e => by cases e; dsimp only; omega⟩
  · rw [if_neg c]
    exact ⟨fun f e => by cases e; omega, fun y e => by cases e⟩
/-- where a start of a row of parts stands, and what it is worth -/
def stB (m : Mem) (l : Nat) (X : LR) : Prop := (∀ f, X = .inl f → 0 ≤ f ∧ f ≤ m 5000 9) ∧ ∀ y, X = .inr y → 0 < y.1 ∧ y.1 ≤ m 5000 9 ∧ gdb (mL m) l y.2
theorem stB_U {m : Mem} (ht : txOk m) (hL : lbd (mL m)) (r : Nat) {p : Int} (p0 : 0 ≤ p) (p1 : p ≤ m 5000 9) : stB m (2 * r + 4) (gU (mtx m) (m 5000 9) r p) := by
  have h := gU_ok (mtx_n ht) r p p0 p1
  refine ⟨fun f e => ?_, fun y e => ?_⟩
  · rw [e, gok_l] at h; omega
  · have hv := gU_val hL r p y e
    rw [e, gok_r] at h; exact ⟨by omega, by omega, hv⟩
theorem stB_C {m : Mem} (ht : txOk m) (hL : lbd (mL m)) (r : Nat) {p : Int} (p0 : 0 ≤ p) (p1 : p ≤ m 5000 9) {g : List Int} (hg : gd (mL m) (2 * r + 3) g) : stB m (2 * r + 4) (gCmp (mtx m) (m 5000 9) r (.inr (p, g))) := by
  obtain ⟨h1, h2⟩ := gCmp_b (mtx_n ht) r p0 p1 g
  exact ⟨h1, fun y e => ⟨(h2 y e).1, (h2 y e).2, gCmp_val hL r (fun z hz => by cases hz; exact hg) y e⟩⟩
theorem gLp_b {t : Int → Int} {n : Int} (ht : ∀ i, n ≤ i → t i = -1) {s : Int → Bool} (hs : s (-1) = false) {nx : Int → LR} (hi : ∀ p, 0 ≤ p → p ≤ n → gok n p (nx p)) : ∀ (f : Nat) (p : Int) (g : List Int), 0 < p → p ≤ n → (∀ q, gLp t n s nx f p g = .inl q → 0 ≤ q ∧ q ≤ n) ∧ ∀ y, gLp t n s nx f p g = .inr y → 0 < y.1 ∧ y.1 ≤ n := by
  intro f
  induction f with
  | zero =>
    intro p g h0 h1
    have s := sk_b t h1
    unfold gLp
    exact ⟨fun q e => (by cases e), fun y e => by cases e; dsimp only; omega⟩
  | succ f ih =>
    intro p g h0 h1
    have s9 := sk_b t h1
    rw [gLp_s]
    by_cases c : s (t (sk t n p)) = true
    · rw [if_pos c]
      have hlt := sk_lt ht (q := sk t n p) (by intro e; rw [e, hs] at c; cases c)
      have h := hi (sk t n p + 1) (by omega) (by omega)
      revert h
      cases nx (sk t n p + 1) with
      | inl q =>
        intro h; rw [gok_l] at h
        exact ⟨fun f e => by cases e; omega, fun y e => by cases e⟩
      | inr z =>
        intro h; rw [gok_r] at h
        exact ih z.1 _ (by omega) (by omega)
    · rw [if_neg c]
      exact ⟨fun q e => (by cases e), fun y e => by cases e; dsimp only; omega⟩
theorem stB_P {m : Mem} (ht : txOk m) (hL : lbd (mL m)) (r : Nat) {X : LR} (hX : stB m (2 * r + 4) X) : stB m (2 * r + 5) (gPrt (mtx m) (m 5000 9) (gU (mtx m) (m 5000 9) r) X) := by
  have hv := fun y h => gPrt_val (t := mtx m) (n := m 5000 9) (u := gU (mtx m) (m 5000 9) r) (m := 2 * r + 4) (gU_val hL r) (x := X) (fun z hz => (hX.2 z hz).2.2) y h
  cases X with
  | inl f => exact ⟨fun q e => by cases e; exact hX.1 f rfl, fun y e => by cases e⟩
  | inr x =>
    have hx := hX.2 x rfl
    have h := gLp_b (mtx_n ht) (s := sAnd) rfl (gU_ok (mtx_n ht) r) 240 x.1 x.2 hx.1 hx.2.1
    exact ⟨fun q e => h.1 q e, fun y e => ⟨(h.2 y e).1, (h.2 y e).2, hv y e⟩⟩

def a_X12_part (r : Nat) : AC := [(0, vIload 1 1), (1, vIfEq 13 4), (4, vAload 0 5), (5, vI 1 6), (6, vIload 2 7), (7, vCallM (w_X12_compares r) 28 2 10), (10, vGoto 17), (13, vAload 0 14), (14, vCallM (w_X12_unit r) 28 0 17), (17, vIstore 3 18), (18, vAload 0 19), (19, vGetI 28 11 22), (22, vI (-1) 23), (23, vIcNe 69 26), (26, vAload 0 27), (27, vCallM w_X12_look 28 0 30), (30, vI 38 32), (32, vIcNe 69 35), (35, vAload 0 36), (36, vDup 37), (37, vGetI 28 10 40), (40, vI 1 41), (41, vIadd 42), (42, vPutI 28 10 45), (45, vAload 0 46), (46, vCallM (w_X12_unit r) 28 0 49), (49, vIstore 4 51), (51, vIload 3 52), (52, vIfEq 64 55), (55, vIload 4 57), (57, vIfEq 64 60), (60, vI 1 61), (61, vGoto 65), (64, vI 0 65), (65, vIstore 3 66), (66, vGoto 18), (69, vIload 3 70), (70, vZret)]
theorem k_X12_part_0 (r : Nat) : look (a_X12_part r) 0 = vIload 1 1 := rfl
theorem k_X12_part_1 (r : Nat) : look (a_X12_part r) 1 = vIfEq 13 4 := rfl
theorem k_X12_part_4 (r : Nat) : look (a_X12_part r) 4 = vAload 0 5 := rfl
theorem k_X12_part_5 (r : Nat) : look (a_X12_part r) 5 = vI 1 6 := rfl
theorem k_X12_part_6 (r : Nat) : look (a_X12_part r) 6 = vIload 2 7 := rfl
theorem k_X12_part_7 (r : Nat) : look (a_X12_part r) 7 = vCallM (w_X12_compares r) 28 2 10 := rfl
theorem k_X12_part_10 (r : Nat) : look (a_X12_part r) 10 = vGoto 17 := rfl
theorem k_X12_part_13 (r : Nat) : look (a_X12_part r) 13 = vAload 0 14 := rfl
theorem k_X12_part_14 (r : Nat) : look (a_X12_part r) 14 = vCallM (w_X12_unit r) 28 0 17 := rfl
theorem k_X12_part_17 (r : Nat) : look (a_X12_part r) 17 = vIstore 3 18 := rfl
theorem k_X12_part_18 (r : Nat) : look (a_X12_part r) 18 = vAload 0 19 := rfl
theorem k_X12_part_19 (r : Nat) : look (a_X12_part r) 19 = vGetI 28 11 22 := rfl
theorem k_X12_part_22 (r : Nat) : look (a_X12_part r) 22 = vI (-1) 23 := rfl
theorem k_X12_part_23 (r : Nat) : look (a_X12_part r) 23 = vIcNe 69 26 := rfl
theorem k_X12_part_26 (r : Nat) : look (a_X12_part r) 26 = vAload 0 27 := rfl
theorem k_X12_part_27 (r : Nat) : look (a_X12_part r) 27 = vCallM w_X12_look 28 0 30 := rfl
theorem k_X12_part_30 (r : Nat) : look (a_X12_part r) 30 = vI 38 32 := rfl
theorem k_X12_part_32 (r : Nat) : look (a_X12_part r) 32 = vIcNe 69 35 := rfl
theorem k_X12_part_35 (r : Nat) : look (a_X12_part r) 35 = vAload 0 36 := rfl
theorem k_X12_part_36 (r : Nat) : look (a_X12_part r) 36 = vDup 37 := rfl
theorem k_X12_part_37 (r : Nat) : look (a_X12_part r) 37 = vGetI 28 10 40 := rfl
theorem k_X12_part_40 (r : Nat) : look (a_X12_part r) 40 = vI 1 41 := rfl
theorem k_X12_part_41 (r : Nat) : look (a_X12_part r) 41 = vIadd 42 := rfl
theorem k_X12_part_42 (r : Nat) : look (a_X12_part r) 42 = vPutI 28 10 45 := rfl
theorem k_X12_part_45 (r : Nat) : look (a_X12_part r) 45 = vAload 0 46 := rfl
theorem k_X12_part_46 (r : Nat) : look (a_X12_part r) 46 = vCallM (w_X12_unit r) 28 0 49 := rfl
theorem k_X12_part_49 (r : Nat) : look (a_X12_part r) 49 = vIstore 4 51 := rfl
theorem k_X12_part_51 (r : Nat) : look (a_X12_part r) 51 = vIload 3 52 := rfl
theorem k_X12_part_52 (r : Nat) : look (a_X12_part r) 52 = vIfEq 64 55 := rfl
theorem k_X12_part_55 (r : Nat) : look (a_X12_part r) 55 = vIload 4 57 := rfl
theorem k_X12_part_57 (r : Nat) : look (a_X12_part r) 57 = vIfEq 64 60 := rfl
theorem k_X12_part_60 (r : Nat) : look (a_X12_part r) 60 = vI 1 61 := rfl
theorem k_X12_part_61 (r : Nat) : look (a_X12_part r) 61 = vGoto 65 := rfl
theorem k_X12_part_64 (r : Nat) : look (a_X12_part r) 64 = vI 0 65 := rfl
theorem k_X12_part_65 (r : Nat) : look (a_X12_part r) 65 = vIstore 3 66 := rfl
theorem k_X12_part_66 (r : Nat) : look (a_X12_part r) 66 = vGoto 18 := rfl
theorem k_X12_part_69 (r : Nat) : look (a_X12_part r) 69 = vIload 3 70 := rfl
theorem k_X12_part_70 (r : Nat) : look (a_X12_part r) 70 = vZret := rfl
theorem o_X12_part {X : amX} (r : Nat) (h6 : r ≤ 6) (hU : UnS r) (hC : CoS r) (e1 : XT X = TT) (e2 : XD X = 34 + 3 * r) (hB : amB X RX12 cX12_part (some .boolean) 5) : ∀ pc, amOK X pc (look (a_X12_part r) pc) := by
  have hT : amTok (XT X) := e1 ▸ TT_ok
  refine look_ok ?_
  unfold a_X12_part
  refine fc (ok_iload_n hB dX12_part_0) ?_
  refine fc (ok_if_eq hB (t := 13) (by decide) dX12_part_1) ?_
  refine fc (ok_aload_n hB dX12_part_4) ?_
  refine fc (ok_iconst hB dX12_part_5) ?_
  refine fc (ok_iload_n hB dX12_part_6) ?_
  refine fc (ok_callM hB hT (fun av9 σ9 Q9 h9 => e1 ▸ (s_X12_compares r h6) av9 σ9 Q9 h9) lk_X12_206 (by rw [e2]; omega) (c := 12) rfl rfl rfl wd_1590 sl_X12_compares dX12_part_7) ?_
  refine fc (ok_goto hB (t := 17) (by decide) dX12_part_10) ?_
  refine fc (ok_aload_n hB dX12_part_13) ?_
  refine fc (ok_callM hB hT (fun av9 σ9 Q9 h9 => e1 ▸ (s_X12_unit r h6 hU hC) av9 σ9 Q9 h9) lk_X12_199 (by rw [e2]; omega) (c := 12) rfl rfl rfl wd_1622 sl_X12_unit dX12_part_14) ?_
  refine fc (ok_istore_n hB (by decide) dX12_part_17) ?_
  refine fc (ok_aload_n hB dX12_part_18) ?_
  refine fc (ok_getI hB hT fl_X12_143 rfl rfl (Or.inl af_12_11) dX12_part_19) ?_
  refine fc (ok_iconst hB dX12_part_22) ?_
  refine fc (ok_icmp_ne hB (t := 69) (by decide) dX12_part_23) ?_
  refine fc (ok_aload_n hB dX12_part_26) ?_
  refine fc (ok_callM hB hT (e1 ▸ s_X12_look) lk_X12_153 (by rw [e2]; omega) (c := 12) rfl rfl rfl wd_1521 sl_X12_look dX12_part_27) ?_
  refine fc (ok_bipush hB dX12_part_30 (by decide)) ?_
  refine fc (ok_icmp_ne hB (t := 69) (by decide) dX12_part_32) ?_
  refine fc (ok_aload_n hB dX12_part_35) ?_
  refine fc (ok_dup hB dX12_part_36) ?_
  refine fc (ok_getI hB hT fl_X12_134 rfl rfl (Or.inl af_12_10) dX12_part_37) ?_
  refine fc (ok_iconst hB dX12_part_40) ?_
  refine fc (ok_iadd hB dX12_part_41) ?_
  refine fc (ok_putI hB hT fp_X12_134 rfl rfl rfl af_12_10 dX12_part_42) ?_
  refine fc (ok_aload_n hB dX12_part_45) ?_
  refine fc (ok_callM hB hT (fun av9 σ9 Q9 h9 => e1 ▸ (s_X12_unit r h6 hU hC) av9 σ9 Q9 h9) lk_X12_199 (by rw [e2]; omega) (c := 12) rfl rfl rfl wd_1622 sl_X12_unit dX12_part_46) ?_
  refine fc (ok_istore hB (by decide) dX12_part_49) ?_
  refine fc (ok_iload_n hB dX12_part_51) ?_
  refine fc (ok_if_eq hB (t := 64) (by decide) dX12_part_52) ?_
  refine fc (ok_iload hB dX12_part_55) ?_
  refine fc (ok_if_eq hB (t := 64) (by decide) dX12_part_57) ?_
  refine fc (ok_iconst hB dX12_part_60) ?_
  refine fc (ok_goto hB (t := 65) (by decide) dX12_part_61) ?_
  refine fc (ok_iconst hB dX12_part_64) ?_
  refine fc (ok_istore_n hB (by decide) dX12_part_65) ?_
  refine fc (ok_goto hB (t := 18) (by decide) dX12_part_66) ?_
  refine fc (ok_iload_n hB dX12_part_69) ?_
  refine fc (ok_zret hB dX12_part_70) ?_
  exact fn
def inv_part (m : Mem) (Z : LR) (hh vv : Int) (r n pc : Nat) (ls st : List AV) (σ' : Mem) : Prop := pc = 18 ∧ st = [] ∧ ∃ (v : Int) (v4 : AV), ls = [(28, 5000), (0, hh), (0, vv), (0, v), v4] ∧ (v = 0 ∨ v = 1) ∧
  ((n = 0 ∧ ∃ f p d, σ' = rdM m p f d ∧ Z = .inl f ∧ 0 ≤ f ∧ f ≤ 240 ∧ 6 - (r : Int) ≤ d ∧ d ≤ 6) ∨
   (∃ (k : Nat) (p : Int) (g : List Int), n = k + 1 ∧ σ' = rdM m p (-1) (6 - r) ∧ v = val (mL m) g ∧ gdb (mL m) (2 * r + 4 + 1) g ∧ 0 ≤ p ∧ p ≤ m 5000 9 ∧ m 5000 9 - p < k ∧ Z = gLp (mtx m) (m 5000 9) sAnd (gU (mtx m) (m 5000 9) r) k p g))
def w_X12_part (r : Nat) : WP := fun av σ Q => ∃ (h : Int) (v : Int), av = [(28, 5000), (0, h), (0, v)] ∧ (rdOk σ r ∧ (h = 0 ∨ h = 1) ∧ InR v ∧ (h = 0 → (∀ f v p d, gPrt (mtx σ) (σ 5000 9) (gU (mtx σ) (σ 5000 9) r) (gU (mtx σ) (σ 5000 9) r (σ 5000 10)) = .inl f → (v = 0 ∨ v = 1) → 6 - (r : Int) ≤ d → d ≤ 6 → Q (0, v) (rdM σ p f d)) ∧ (∀ y, gPrt (mtx σ) (σ 5000 9) (gU (mtx σ) (σ 5000 9) r) (gU (mtx σ) (σ 5000 9) r (σ 5000 10)) = .inr y → Q (0, val (mL σ) y.2) (rdM σ y.1 (-1) (6 - r)))) ∧ (h = 1 → ∃ g, v = val (mL σ) g ∧ gd (mL σ) (2 * r + 3) g ∧ (∀ f v p d, gPrt (mtx σ) (σ 5000 9) (gU (mtx σ) (σ 5000 9) r) (gCmp (mtx σ) (σ 5000 9) r (.inr (σ 5000 10, g))) = .inl f → (v = 0 ∨ v = 1) → 6 - (r : Int) ≤ d → d ≤ 6 → Q (0, v) (rdM σ p f d)) ∧ (∀ y, gPrt (mtx σ) (σ 5000 9) (gU (mtx σ) (σ 5000 9) r) (gCmp (mtx σ) (σ 5000 9) r (.inr (σ 5000 10, g))) = .inr y → Q (0, val (mL σ) y.2) (rdM σ y.1 (-1) (6 - r)))))
theorem w_X12_part_e (r : Nat) (h : Int) (v : Int) (σ : Mem) (Q : AV → Mem → Prop) : w_X12_part r [(28, 5000), (0, h), (0, v)] σ Q = (rdOk σ r ∧ (h = 0 ∨ h = 1) ∧ InR v ∧ (h = 0 → (∀ f v p d, gPrt (mtx σ) (σ 5000 9) (gU (mtx σ) (σ 5000 9) r) (gU (mtx σ) (σ 5000 9) r (σ 5000 10)) = .inl f → (v = 0 ∨ v = 1) → 6 - (r : Int) ≤ d → d ≤ 6 → Q (0, v) (rdM σ p f d)) ∧ (∀ y, gPrt (mtx σ) (σ 5000 9) (gU (mtx σ) (σ 5000 9) r) (gU (mtx σ) (σ 5000 9) r (σ 5000 10)) = .inr y → Q (0, val (mL σ) y.2) (rdM σ y.1 (-1) (6 - r)))) ∧ (h = 1 → ∃ g, v = val (mL σ) g ∧ gd (mL σ) (2 * r + 3) g ∧ (∀ f v p d, gPrt (mtx σ) (σ 5000 9) (gU (mtx σ) (σ 5000 9) r) (gCmp (mtx σ) (σ 5000 9) r (.inr (σ 5000 10, g))) = .inl f → (v = 0 ∨ v = 1) → 6 - (r : Int) ≤ d → d ≤ 6 → Q (0, v) (rdM σ p f d)) ∧ (∀ y, gPrt (mtx σ) (σ 5000 9) (gU (mtx σ) (σ 5000 9) r) (gCmp (mtx σ) (σ 5000 9) r (.inr (σ 5000 10, g))) = .inr y → Q (0, val (mL σ) y.2) (rdM σ y.1 (-1) (6 - r))))) := by
  apply propext; constructor
  · rintro ⟨h', v', h9, hb9⟩; cases h9; exact hb9
  · intro hb9; exact ⟨h, v, rfl, hb9⟩

set_option maxRecDepth 100000 in
set_option maxHeartbeats 4000000 in
theorem s_X12_part (r : Nat) (h6 : r ≤ 6) (hU : UnS r) (hC : CoS r) : ∀ av σ Q, w_X12_part r av σ Q → amCall (34 + 3 * r) 0 0 TT yX12_part cX12_part 5 (some .boolean) av σ Q := by
  rintro av σ Q ⟨h, v, rfl, hok, hh, hv, H0, H1⟩
  obtain ⟨m, p, rfl⟩ := rdOk_m hok
  obtain ⟨ht, hL, -, p0, p1, -, hr⟩ := rdOk_dr hok
  have mt : ∀ p f d, mtx (rdM m p f d) = mtx m := mtx_rd ht
  have mk : ∀ p f d, msk (rdM m p f d) = sk (mtx m) (m 5000 9) p := fun p f d => by unfold msk; rw [mt, rd_9, rd_10]
  simp only [mt, rd_9, rd_10, mL_rd, rd_rd] at H0 H1
  have n1 := ht.2.1
  have tO : ∀ p f d, txOk (rdM m p f d) := fun p f d => txOk_rd ht p f d
  have hrd : ∀ q, 0 ≤ q → q ≤ m 5000 9 → rdOk (rdM m q (-1) (6 - r)) r := fun q a b => rdOk_rd ht hL a b rfl hr
  obtain ⟨X, hX0, hX1, hXb, K1, K2⟩ : ∃ X : LR, (h = 0 → X = gU (mtx m) (m 5000 9) r p) ∧ (h = 1 → ∃ g, v = val (mL m) g ∧ gd (mL m) (2 * r + 3) g ∧ X = gCmp (mtx m) (m 5000 9) r (.inr (p, g))) ∧ stB m (2 * r + 4) X ∧ (∀ f v p d, gPrt (mtx m) (m 5000 9) (gU (mtx m) (m 5000 9) r) X = .inl f → (v = 0 ∨ v = 1) → 6 - (r : Int) ≤ d → d ≤ 6 → Q (0, v) (rdM m p f d)) ∧ (∀ y, gPrt (mtx m) (m 5000 9) (gU (mtx m) (m 5000 9) r) X = .inr y → Q (0, val (mL m) y.2) (rdM m y.1 (-1) (6 - r))) := by
    rcases hh with rfl | rfl
    · exact ⟨_, fun _ => rfl, fun e => absurd e (by decide), stB_U ht hL r p0 p1, (H0 rfl).1, (H0 rfl).2⟩
    · obtain ⟨g, hvg, hg, G1, G2⟩ := H1 rfl
      exact ⟨_, fun e => absurd e (by decide), fun _ => ⟨g, hvg, hg, rfl⟩, stB_C ht hL r p0 p1 hg, G1, G2⟩
  clear H0 H1
  have nok := gU_ok (mtx_n ht) r
  have nval_ := gU_val (t := mtx m) (n := m 5000 9) hL r
  have hZ0 : gPrt (mtx m) (m 5000 9) (gU (mtx m) (m 5000 9) r) X = gCh (mtx m) (m 5000 9) sAnd (gU (mtx m) (m 5000 9) r) X := rfl
  generalize hZ : gPrt (mtx m) (m 5000 9) (gU (mtx m) (m 5000 9) r) X = Z at *
  refine am_m [18] (inv_part m Z h v r) (own := RX12) (A := look (a_X12_part r)) (fun X e1 e2 hB => o_X12_part r h6 hU hC e1 e2 hB) rfl (by decide +kernel) rfl rfl ?_ ⟨120, ?_⟩ (w := 5)
  · rintro n pc ls st σ' ⟨rfl, rfl, v', v4, rfl, hv', ⟨rfl, f, p', d, rfl, rfl, f0, f1, d0, d1⟩ | ⟨k, p', g, rfl, rfl, rfl, hg, q0, q1, hkf, hZk⟩⟩
    · have h0 := K1 f v' p' d rfl hv' d0 d1
      refine ⟨120, ?_⟩
      simp only [↓reduceIte, inR_0, inR_1, inR_m, vSw2_e, swP_n, swP_c, vI_e, vL_e, vNull_e, vIload_e, vLload_e, vAload_e, vIstore_e, vLstore_e, vAstore_e, vIinc_e, vIadd_e, vIsub_e, vImul_e, vIand_e, vIor_e, vIxor_e, vIshl_e, vIshr_e, vIushr_e, vIdiv_e, vIrem_e, vLadd_e, vLsub_e, vLmul_e, vLand_e, vLor_e, vLxor_e, vLdiv_e, vLrem_e, vLushr_e, vLshl_e, vLcmp_e, vIneg_e, vI2l_e, vL2i_e, vI2b_e, vI2c_e, vDup_e, vPop_e, vDup2_e, vGoto_e, vIcEq_e, vIfEq_e, vIcNe_e, vIfNe_e, vIcLt_e, vIfLt_e, vIcGe_e, vIfGe_e, vIcGt_e, vIfGt_e, vIcLe_e, vIfLe_e, vNonnull_e, vSw_e, vGetI_e, vGetL_e, vGetR_e, vPutI_e, vPutZ_e, vPutL_e, vPutR_e, vIald_e, vIald_s, vLald_e, vBald_e, vBald_s, vAald_e, vIast_e, vLast_e, vBast_e, vAast_e, vAlen_e8, vAlen_e9, vAlen_e10, vAlen_e11, vAlen_e5, vAlen_e3, vGets_e, vCompact_e, vLdcS_e, vIret_e, vZret_e, vCret_e, vBret_e, vLret_e, vVret_e, vAret_e, vCallM_e0, vCallMV_e0, vCallS_e0, vCallSV_e0, vCallM_e1, vCallMV_e1, vCallS_e1, vCallSV_e1, vCallM_e2, vCallMV_e2, vCallS_e2, vCallSV_e2, vCallM_e3, vCallMV_e3, vCallS_e3, vCallSV_e3, vCallM_e4, vCallMV_e4, vCallS_e4, vCallSV_e4, vCallM_e5, vCallMV_e5, vCallS_e5, vCallSV_e5, vCallM_e6, vCallMV_e6, vCallS_e6, vCallSV_e6, vCallM_e7, vCallMV_e7, vCallS_e7, vCallSV_e7, vBad_e, vStrVal_e, vStrCod_e, vForm_e, vCallT_e0, vCallT_e1, vCallT_e2, vCopy_e, rf_0_0, rf_0_1, rf_0_2, rf_0_3, rf_0_4, rf_0_7, rf_0_10, rf_0_11, rf_0_12, rf_0_13, rf_0_14, rf_0_15, rf_0_16, rf_1_0, rf_3_0, rf_3_1, rf_6_0, rf_6_1, rf_9_0, rf_9_1, rf_9_3, rf_13_0, rf_13_1, rf_13_2, rf_16_0, rf_16_1, rf_16_2, rf_16_3, rf_21_0, rf_21_1, rf_21_2, rf_21_3, rf_26_0, rf_26_1, rf_26_2, rf_26_3, rf_26_4, rf_26_5, rf_26_6, rf_31_0, rf_31_2, rf_31_5, rf_31_6, rf_36_0, rf_36_1, rf_36_2, rf_36_3, rf_39_0, rf_39_1, rf_39_2, rf_41_0, rf_41_1, rf_41_2, rf_41_3, rf_5000_1, rf_5000_2, rf_5000_3, rf_5000_4, rf_5000_5, rf_5000_15, rf_5000_16, rf_5000_18, rf_5000_19, rf_5000_20, rf_5000_21, rf_5000_22, rf_5000_23, rf_5000_24, rf_5000_25, rf_5000_26, rf_5000_27, rf_5000_36, rf_5000_37, rf_5000_40, rf_5000_41, rf_5000_42, rf_5000_43, rf_5000_44, rf_5000_45, rf_5000_47, rf_5000_52, rf_5000_54, rf_5000_55, rf_100_0, rf_100_1, rf_103_0, rf_103_1, rf_106_0, rf_106_1, rf_109_0, rf_109_1, al_2, al_4, al_5, al_7, al_8, al_10, al_11, al_12, al_14, al_15, al_17, al_18, al_19, al_20, al_22, al_23, al_24, al_25, al_27, al_28, al_29, al_30, al_32, al_33, al_34, al_35, al_37, al_38, al_40, al_42, al_5001, al_5002, al_5003, al_5004, al_5005, al_5006, al_5007, al_5008, al_5009, al_5010, al_5011, al_5012, al_5013, al_5014, al_5015, al_5016, al_5017, al_5018, al_5019, al_5020, al_5021, al_5022, al_5023, al_5024, al_5025, al_5026, al_9000, al_101, al_102, al_104, al_105, al_107, al_108, al_110, al_111, vcs_e, lg_c0, lg_cs, lg_nil, set_c0, set_cs, okst_0, okst_s, acok_n, acok_c, List.contains_nil, List.contains_cons, Bool.or_false, Bool.false_or, Bool.false_eq_true, if_false, if_true, ite_self, ne_eq, true_and, and_true, not_false_eq_true, not_true_eq_false, false_imp_iff, true_imp_iff, Nat.ble_eq, Bool.and_eq_true, reduceCtorEq, or_false, false_or, or_true, true_or, false_and, and_false, and_self, Int.reduceLE, Int.reduceAdd, Int.reduceSub, Int.reduceMul, Int.reduceNeg, Int.reduceLT, Int.reduceEq, Int.reduceNe, Nat.reduceBEq, Nat.reduceBNe, Nat.reduceEqDiff, amCmp_in, amCmp_lt, amCmp_le, amCmp_gt, amCmp_ge, amCmp_eq, amCmp_ne, Nat.reduceLeDiff, Nat.reduceSub, Bool.and_true, Bool.true_and, Bool.and_self, Bool.or_true, Bool.true_or, isRf_3, isRf_4, isRf_5, isRf_8, isRf_9, isRf_10, isRf_11, isRf_15, isRf_16, isRf_17, isRf_18, isRf_19, isRf_20, isRf_21, isRf_22, isRf_23, isRf_24, isRf_25, isRf_26, isRf_27, isRf_28, k_X12_part_0, k_X12_part_1, k_X12_part_4, k_X12_part_5, k_X12_part_6, k_X12_part_7, k_X12_part_10, k_X12_part_13, k_X12_part_14, k_X12_part_17, k_X12_part_18, k_X12_part_19, k_X12_part_22, k_X12_part_23, k_X12_part_26, k_X12_part_27, k_X12_part_30, k_X12_part_32, k_X12_part_35, k_X12_part_36, k_X12_part_37, k_X12_part_40, k_X12_part_41, k_X12_part_42, k_X12_part_45, k_X12_part_46, k_X12_part_49, k_X12_part_51, k_X12_part_52, k_X12_part_55, k_X12_part_57, k_X12_part_60, k_X12_part_61, k_X12_part_64, k_X12_part_65, k_X12_part_66, k_X12_part_69, k_X12_part_70, w_X12_compares_e, w_X12_look_e, w_X12_unit_e, rd_11]
      repeat' (first | assumption | exact tO _ _ _ | exact hrd _ (by omega) (by omega) | apply And.intro | intro _)
      all_goals first | omega | exact absurd trivial (by assumption) | exact h0
    · obtain ⟨k, rfl⟩ : ∃ k', k = k' + 1 := ⟨k - 1, by omega⟩
      rw [gLp_s] at hZk
      have hsb := sk_b (mtx m) q1
      have tb := mtx_b ht (sk (mtx m) (m 5000 9) p')
      have sks := sk_sk (mtx m) q1
      by_cases c : sAnd (mtx m (sk (mtx m) (m 5000 9) p')) = true
      · have hc := sAnd_t c
        rw [if_pos c, hc] at hZk
        have hlt : sk (mtx m) (m 5000 9) p' < m 5000 9 := by
          by_cases h9 : sk (mtx m) (m 5000 9) p' < m 5000 9
          · exact h9
          · have := mtx_n ht _ (Int.not_lt.mp h9); omega
        generalize hq : sk (mtx m) (m 5000 9) p' = q at *
        have hgo := nok (q + 1) (by omega) (by omega)
        have fin1 : ∀ (a : Int) (v4 : AV) f p d, (gU (mtx m) (m 5000 9) r) (q + 1) = .inl f → 6 - (r : Int) ≤ d → d ≤ 6 → (a = 0 ∨ a = 1) → ∃ k', k' < k + 1 + 1 ∧ inv_part m Z h v r k' 18 [(28, 5000), (0, h), (0, v), (0, a), v4] [] (rdM m p f d) := fun a v4 f p d e d0 d1 ha => by
          rw [e, gok_l] at hgo
          rw [e] at hZk
          exact ⟨0, by omega, rfl, rfl, a, v4, rfl, ha, Or.inl ⟨rfl, f, p, d, rfl, hZk, by omega, by omega, d0, d1⟩⟩
        have fin2 : ∀ (a : Int) (v4 : AV) y, (gU (mtx m) (m 5000 9) r) (q + 1) = .inr y → a = apF 38 (val (mL m) g) (val (mL m) y.2) → ∃ k', k' < k + 1 + 1 ∧ inv_part m Z h v r k' 18 [(28, 5000), (0, h), (0, v), (0, a), v4] [] (rdM m y.1 (-1) (6 - r)) := fun a v4 y e ha => by
          rw [e, gok_r] at hgo
          rw [e] at hZk
          obtain ⟨z1, z2⟩ := gd_bo (c := 38) hg (nval_ _ _ e) (by decide)
          have hb := z1.2
          rw [z2] at hb
          exact ⟨k + 1, by omega, rfl, rfl, a, v4, rfl, by rw [ha]; exact hb, Or.inr ⟨k, y.1, g ++ y.2 ++ [20000 + 38], rfl, rfl, by rw [ha, z2], z1, by omega, by omega, by omega, hZk⟩⟩
        have yb : ∀ y, (gU (mtx m) (m 5000 9) r) (q + 1) = .inr y → val (mL m) y.2 = 0 ∨ val (mL m) y.2 = 1 := fun y e => (nval_ _ _ e).2
        have gb := hg.2
        generalize val (mL m) g = w at *
        have ap : ∀ l r : Int, (l = 0 ∨ l = 1) → (r = 0 ∨ r = 1) → apF 38 l r = if l = 1 ∧ r = 1 then 1 else 0 := fun l r a b => apF_and a b
        refine ⟨120, ?_⟩
        simp only [↓reduceIte, inR_0, inR_1, inR_m, vSw2_e, swP_n, swP_c, vI_e, vL_e, vNull_e, vIload_e, vLload_e, vAload_e, vIstore_e, vLstore_e, vAstore_e, vIinc_e, vIadd_e, vIsub_e, vImul_e, vIand_e, vIor_e, vIxor_e, vIshl_e, vIshr_e, vIushr_e, vIdiv_e, vIrem_e, vLadd_e, vLsub_e, vLmul_e, vLand_e, vLor_e, vLxor_e, vLdiv_e, vLrem_e, vLushr_e, vLshl_e, vLcmp_e, vIneg_e, vI2l_e, vL2i_e, vI2b_e, vI2c_e, vDup_e, vPop_e, vDup2_e, vGoto_e, vIcEq_e, vIfEq_e, vIcNe_e, vIfNe_e, vIcLt_e, vIfLt_e, vIcGe_e, vIfGe_e, vIcGt_e, vIfGt_e, vIcLe_e, vIfLe_e, vNonnull_e, vSw_e, vGetI_e, vGetL_e, vGetR_e, vPutI_e, vPutZ_e, vPutL_e, vPutR_e, vIald_e, vIald_s, vLald_e, vBald_e, vBald_s, vAald_e, vIast_e, vLast_e, vBast_e, vAast_e, vAlen_e8, vAlen_e9, vAlen_e10, vAlen_e11, vAlen_e5, vAlen_e3, vGets_e, vCompact_e, vLdcS_e, vIret_e, vZret_e, vCret_e, vBret_e, vLret_e, vVret_e, vAret_e, vCallM_e0, vCallMV_e0, vCallS_e0, vCallSV_e0, vCallM_e1, vCallMV_e1, vCallS_e1, vCallSV_e1, vCallM_e2, vCallMV_e2, vCallS_e2, vCallSV_e2, vCallM_e3, vCallMV_e3, vCallS_e3, vCallSV_e3, vCallM_e4, vCallMV_e4, vCallS_e4, vCallSV_e4, vCallM_e5, vCallMV_e5, vCallS_e5, vCallSV_e5, vCallM_e6, vCallMV_e6, vCallS_e6, vCallSV_e6, vCallM_e7, vCallMV_e7, vCallS_e7, vCallSV_e7, vBad_e, vStrVal_e, vStrCod_e, vForm_e, vCallT_e0, vCallT_e1, vCallT_e2, vCopy_e, rf_0_0, rf_0_1, rf_0_2, rf_0_3, rf_0_4, rf_0_7, rf_0_10, rf_0_11, rf_0_12, rf_0_13, rf_0_14, rf_0_15, rf_0_16, rf_1_0, rf_3_0, rf_3_1, rf_6_0, rf_6_1, rf_9_0, rf_9_1, rf_9_3, rf_13_0, rf_13_1, rf_13_2, rf_16_0, rf_16_1, rf_16_2, rf_16_3, rf_21_0, rf_21_1, rf_21_2, rf_21_3, rf_26_0, rf_26_1, rf_26_2, rf_26_3, rf_26_4, rf_26_5, rf_26_6, rf_31_0, rf_31_2, rf_31_5, rf_31_6, rf_36_0, rf_36_1, rf_36_2, rf_36_3, rf_39_0, rf_39_1, rf_39_2, rf_41_0, rf_41_1, rf_41_2, rf_41_3, rf_5000_1, rf_5000_2, rf_5000_3, rf_5000_4, rf_5000_5, rf_5000_15, rf_5000_16, rf_5000_18, rf_5000_19, rf_5000_20, rf_5000_21, rf_5000_22, rf_5000_23, rf_5000_24, rf_5000_25, rf_5000_26, rf_5000_27, rf_5000_36, rf_5000_37, rf_5000_40, rf_5000_41, rf_5000_42, rf_5000_43, rf_5000_44, rf_5000_45, rf_5000_47, rf_5000_52, rf_5000_54, rf_5000_55, rf_100_0, rf_100_1, rf_103_0, rf_103_1, rf_106_0, rf_106_1, rf_109_0, rf_109_1, al_2, al_4, al_5, al_7, al_8, al_10, al_11, al_12, al_14, al_15, al_17, al_18, al_19, al_20, al_22, al_23, al_24, al_25, al_27, al_28, al_29, al_30, al_32, al_33, al_34, al_35, al_37, al_38, al_40, al_42, al_5001, al_5002, al_5003, al_5004, al_5005, al_5006, al_5007, al_5008, al_5009, al_5010, al_5011, al_5012, al_5013, al_5014, al_5015, al_5016, al_5017, al_5018, al_5019, al_5020, al_5021, al_5022, al_5023, al_5024, al_5025, al_5026, al_9000, al_101, al_102, al_104, al_105, al_107, al_108, al_110, al_111, vcs_e, lg_c0, lg_cs, lg_nil, set_c0, set_cs, okst_0, okst_s, acok_n, acok_c, List.contains_nil, List.contains_cons, Bool.or_false, Bool.false_or, Bool.false_eq_true, if_false, if_true, ite_self, ne_eq, true_and, and_true, not_false_eq_true, not_true_eq_false, false_imp_iff, true_imp_iff, Nat.ble_eq, Bool.and_eq_true, reduceCtorEq, or_false, false_or, or_true, true_or, false_and, and_false, and_self, Int.reduceLE, Int.reduceAdd, Int.reduceSub, Int.reduceMul, Int.reduceNeg, Int.reduceLT, Int.reduceEq, Int.reduceNe, Nat.reduceBEq, Nat.reduceBNe, Nat.reduceEqDiff, amCmp_in, amCmp_lt, amCmp_le, amCmp_gt, amCmp_ge, amCmp_eq, amCmp_ne, Nat.reduceLeDiff, Nat.reduceSub, Bool.and_true, Bool.true_and, Bool.and_self, Bool.or_true, Bool.true_or, isRf_3, isRf_4, isRf_5, isRf_8, isRf_9, isRf_10, isRf_11, isRf_15, isRf_16, isRf_17, isRf_18, isRf_19, isRf_20, isRf_21, isRf_22, isRf_23, isRf_24, isRf_25, isRf_26, isRf_27, isRf_28, k_X12_part_0, k_X12_part_1, k_X12_part_4, k_X12_part_5, k_X12_part_6, k_X12_part_7, k_X12_part_10, k_X12_part_13, k_X12_part_14, k_X12_part_17, k_X12_part_18, k_X12_part_19, k_X12_part_22, k_X12_part_23, k_X12_part_26, k_X12_part_27, k_X12_part_30, k_X12_part_32, k_X12_part_35, k_X12_part_36, k_X12_part_37, k_X12_part_40, k_X12_part_41, k_X12_part_42, k_X12_part_45, k_X12_part_46, k_X12_part_49, k_X12_part_51, k_X12_part_52, k_X12_part_55, k_X12_part_57, k_X12_part_60, k_X12_part_61, k_X12_part_64, k_X12_part_65, k_X12_part_66, k_X12_part_69, k_X12_part_70, w_X12_compares_e, w_X12_look_e, w_X12_unit_e, mt, mk, rd_9, rd_10, rd_11, rd_12, rd_u10, rd_u11, rd_u12, rd_rd, mL_rd, fa_n, hq, hc, sks]
        repeat' (first | assumption | exact tO _ _ _ | exact hrd _ (by omega) (by omega) | apply And.intro | intro _)
        all_goals first | omega | exact absurd trivial (by assumption) | exact tO _ _ _ | exact hrd _ (by omega) (by omega) | exact fin1 _ _ _ _ _ (by assumption) (by omega) (by omega) (by decide) | (have h9 := yb _ (by assumption); first | omega | exact fin2 _ _ _ (by assumption) (by rw [ap _ _ gb h9]; split <;> omega))
      · have hc : ¬ (mtx m (sk (mtx m) (m 5000 9) p') = 38) := by
          unfold sAnd at c
          simpa using c
        rw [if_neg c] at hZk
        have h0 := K2 _ hZk
        generalize hq : sk (mtx m) (m 5000 9) p' = q at *
        refine ⟨120, ?_⟩
        simp only [↓reduceIte, inR_0, inR_1, inR_m, vSw2_e, swP_n, swP_c, vI_e, vL_e, vNull_e, vIload_e, vLload_e, vAload_e, vIstore_e, vLstore_e, vAstore_e, vIinc_e, vIadd_e, vIsub_e, vImul_e, vIand_e, vIor_e, vIxor_e, vIshl_e, vIshr_e, vIushr_e, vIdiv_e, vIrem_e, vLadd_e, vLsub_e, vLmul_e, vLand_e, vLor_e, vLxor_e, vLdiv_e, vLrem_e, vLushr_e, vLshl_e, vLcmp_e, vIneg_e, vI2l_e, vL2i_e, vI2b_e, vI2c_e, vDup_e, vPop_e, vDup2_e, vGoto_e, vIcEq_e, vIfEq_e, vIcNe_e, vIfNe_e, vIcLt_e, vIfLt_e, vIcGe_e, vIfGe_e, vIcGt_e, vIfGt_e, vIcLe_e, vIfLe_e, vNonnull_e, vSw_e, vGetI_e, vGetL_e, vGetR_e, vPutI_e, vPutZ_e, vPutL_e, vPutR_e, vIald_e, vIald_s, vLald_e, vBald_e, vBald_s, vAald_e, vIast_e, vLast_e, vBast_e, vAast_e, vAlen_e8, vAlen_e9, vAlen_e10, vAlen_e11, vAlen_e5, vAlen_e3, vGets_e, vCompact_e, vLdcS_e, vIret_e, vZret_e, vCret_e, vBret_e, vLret_e, vVret_e, vAret_e, vCallM_e0, vCallMV_e0, vCallS_e0, vCallSV_e0, vCallM_e1, vCallMV_e1, vCallS_e1, vCallSV_e1, vCallM_e2, vCallMV_e2, vCallS_e2, vCallSV_e2, vCallM_e3, vCallMV_e3, vCallS_e3, vCallSV_e3, vCallM_e4, vCallMV_e4, vCallS_e4, vCallSV_e4, vCallM_e5, vCallMV_e5, vCallS_e5, vCallSV_e5, vCallM_e6, vCallMV_e6, vCallS_e6, vCallSV_e6, vCallM_e7, vCallMV_e7, vCallS_e7, vCallSV_e7, vBad_e, vStrVal_e, vStrCod_e, vForm_e, vCallT_e0, vCallT_e1, vCallT_e2, vCopy_e, rf_0_0, rf_0_1, rf_0_2, rf_0_3, rf_0_4, rf_0_7, rf_0_10, rf_0_11, rf_0_12, rf_0_13, rf_0_14, rf_0_15, rf_0_16, rf_1_0, rf_3_0, rf_3_1, rf_6_0, rf_6_1, rf_9_0, rf_9_1, rf_9_3, rf_13_0, rf_13_1, rf_13_2, rf_16_0, rf_16_1, rf_16_2, rf_16_3, rf_21_0, rf_21_1, rf_21_2, rf_21_3, rf_26_0, rf_26_1, rf_26_2, rf_26_3, rf_26_4, rf_26_5, rf_26_6, rf_31_0, rf_31_2, rf_31_5, rf_31_6, rf_36_0, rf_36_1, rf_36_2, rf_36_3, rf_39_0, rf_39_1, rf_39_2, rf_41_0, rf_41_1, rf_41_2, rf_41_3, rf_5000_1, rf_5000_2, rf_5000_3, rf_5000_4, rf_5000_5, rf_5000_15, rf_5000_16, rf_5000_18, rf_5000_19, rf_5000_20, rf_5000_21, rf_5000_22, rf_5000_23, rf_5000_24, rf_5000_25, rf_5000_26, rf_5000_27, rf_5000_36, rf_5000_37, rf_5000_40, rf_5000_41, rf_5000_42, rf_5000_43, rf_5000_44, rf_5000_45, rf_5000_47, rf_5000_52, rf_5000_54, rf_5000_55, rf_100_0, rf_100_1, rf_103_0, rf_103_1, rf_106_0, rf_106_1, rf_109_0, rf_109_1, al_2, al_4, al_5, al_7, al_8, al_10, al_11, al_12, al_14, al_15, al_17, al_18, al_19, al_20, al_22, al_23, al_24, al_25, al_27, al_28, al_29, al_30, al_32, al_33, al_34, al_35, al_37, al_38, al_40, al_42, al_5001, al_5002, al_5003, al_5004, al_5005, al_5006, al_5007, al_5008, al_5009, al_5010, al_5011, al_5012, al_5013, al_5014, al_5015, al_5016, al_5017, al_5018, al_5019, al_5020, al_5021, al_5022, al_5023, al_5024, al_5025, al_5026, al_9000, al_101, al_102, al_104, al_105, al_107, al_108, al_110, al_111, vcs_e, lg_c0, lg_cs, lg_nil, set_c0, set_cs, okst_0, okst_s, acok_n, acok_c, List.contains_nil, List.contains_cons, Bool.or_false, Bool.false_or, Bool.false_eq_true, if_false, if_true, ite_self, ne_eq, true_and, and_true, not_false_eq_true, not_true_eq_false, false_imp_iff, true_imp_iff, Nat.ble_eq, Bool.and_eq_true, reduceCtorEq, or_false, false_or, or_true, true_or, false_and, and_false, and_self, Int.reduceLE, Int.reduceAdd, Int.reduceSub, Int.reduceMul, Int.reduceNeg, Int.reduceLT, Int.reduceEq, Int.reduceNe, Nat.reduceBEq, Nat.reduceBNe, Nat.reduceEqDiff, amCmp_in, amCmp_lt, amCmp_le, amCmp_gt, amCmp_ge, amCmp_eq, amCmp_ne, Nat.reduceLeDiff, Nat.reduceSub, Bool.and_true, Bool.true_and, Bool.and_self, Bool.or_true, Bool.true_or, isRf_3, isRf_4, isRf_5, isRf_8, isRf_9, isRf_10, isRf_11, isRf_15, isRf_16, isRf_17, isRf_18, isRf_19, isRf_20, isRf_21, isRf_22, isRf_23, isRf_24, isRf_25, isRf_26, isRf_27, isRf_28, k_X12_part_0, k_X12_part_1, k_X12_part_4, k_X12_part_5, k_X12_part_6, k_X12_part_7, k_X12_part_10, k_X12_part_13, k_X12_part_14, k_X12_part_17, k_X12_part_18, k_X12_part_19, k_X12_part_22, k_X12_part_23, k_X12_part_26, k_X12_part_27, k_X12_part_30, k_X12_part_32, k_X12_part_35, k_X12_part_36, k_X12_part_37, k_X12_part_40, k_X12_part_41, k_X12_part_42, k_X12_part_45, k_X12_part_46, k_X12_part_49, k_X12_part_51, k_X12_part_52, k_X12_part_55, k_X12_part_57, k_X12_part_60, k_X12_part_61, k_X12_part_64, k_X12_part_65, k_X12_part_66, k_X12_part_69, k_X12_part_70, w_X12_compares_e, w_X12_look_e, w_X12_unit_e, mt, mk, rd_9, rd_10, rd_11, rd_12, rd_u10, rd_u11, rd_u12, rd_rd, mL_rd, fa_n, hq, sks]
        repeat' (first | assumption | exact tO _ _ _ | exact hrd _ (by omega) (by omega) | apply And.intro | intro _)
        all_goals first | omega | exact absurd trivial (by assumption) | exact h0 | exact tO _ _ _
  · change vcs _ _ _ _ 120 0 [(28, 5000), (0, h), (0, v), (6, 0), (6, 0)] [] (rdM m p (-1) (6 - r))
    have fin1 : ∀ f v' p' d, X = .inl f → (v' = 0 ∨ v' = 1) → 6 - (r : Int) ≤ d → d ≤ 6 → ∃ n, inv_part m Z h v r n 18 [(28, 5000), (0, h), (0, v), (0, v'), (6, 0)] [] (rdM m p' f d) := fun f v' p' d e hv' d0 d1 => by
      have hb := hXb.1 f e
      have hZ1 := hZ0
      rw [e] at hZ1
      exact ⟨0, rfl, rfl, v', _, rfl, hv', Or.inl ⟨rfl, f, p', d, rfl, hZ1, hb.1, by omega, d0, d1⟩⟩
    have fin2 : ∀ y, X = .inr y → ∃ n, inv_part m Z h v r n 18 [(28, 5000), (0, h), (0, v), (0, val (mL m) y.2), (6, 0)] [] (rdM m y.1 (-1) (6 - r)) := fun y e => by
      obtain ⟨b1, b2, b3⟩ := hXb.2 y e
      have hZ1 := hZ0
      rw [e] at hZ1
      exact ⟨241, rfl, rfl, _, _, rfl, b3.2, Or.inr ⟨240, y.1, y.2, rfl, rfl, rfl, ⟨vok_m b3.1 (by omega), b3.2⟩, by omega, b2, by omega, hZ1⟩⟩
    rcases hh with rfl | rfl
    · have e0 := hX0 rfl
      subst e0
      simp only [↓reduceIte, inR_0, inR_1, inR_m, vSw2_e, swP_n, swP_c, vI_e, vL_e, vNull_e, vIload_e, vLload_e, vAload_e, vIstore_e, vLstore_e, vAstore_e, vIinc_e, vIadd_e, vIsub_e, vImul_e, vIand_e, vIor_e, vIxor_e, vIshl_e, vIshr_e, vIushr_e, vIdiv_e, vIrem_e, vLadd_e, vLsub_e, vLmul_e, vLand_e, vLor_e, vLxor_e, vLdiv_e, vLrem_e, vLushr_e, vLshl_e, vLcmp_e, vIneg_e, vI2l_e, vL2i_e, vI2b_e, vI2c_e, vDup_e, vPop_e, vDup2_e, vGoto_e, vIcEq_e, vIfEq_e, vIcNe_e, vIfNe_e, vIcLt_e, vIfLt_e, vIcGe_e, vIfGe_e, vIcGt_e, vIfGt_e, vIcLe_e, vIfLe_e, vNonnull_e, vSw_e, vGetI_e, vGetL_e, vGetR_e, vPutI_e, vPutZ_e, vPutL_e, vPutR_e, vIald_e, vIald_s, vLald_e, vBald_e, vBald_s, vAald_e, vIast_e, vLast_e, vBast_e, vAast_e, vAlen_e8, vAlen_e9, vAlen_e10, vAlen_e11, vAlen_e5, vAlen_e3, vGets_e, vCompact_e, vLdcS_e, vIret_e, vZret_e, vCret_e, vBret_e, vLret_e, vVret_e, vAret_e, vCallM_e0, vCallMV_e0, vCallS_e0, vCallSV_e0, vCallM_e1, vCallMV_e1, vCallS_e1, vCallSV_e1, vCallM_e2, vCallMV_e2, vCallS_e2, vCallSV_e2, vCallM_e3, vCallMV_e3, vCallS_e3, vCallSV_e3, vCallM_e4, vCallMV_e4, vCallS_e4, vCallSV_e4, vCallM_e5, vCallMV_e5, vCallS_e5, vCallSV_e5, vCallM_e6, vCallMV_e6, vCallS_e6, vCallSV_e6, vCallM_e7, vCallMV_e7, vCallS_e7, vCallSV_e7, vBad_e, vStrVal_e, vStrCod_e, vForm_e, vCallT_e0, vCallT_e1, vCallT_e2, vCopy_e, rf_0_0, rf_0_1, rf_0_2, rf_0_3, rf_0_4, rf_0_7, rf_0_10, rf_0_11, rf_0_12, rf_0_13, rf_0_14, rf_0_15, rf_0_16, rf_1_0, rf_3_0, rf_3_1, rf_6_0, rf_6_1, rf_9_0, rf_9_1, rf_9_3, rf_13_0, rf_13_1, rf_13_2, rf_16_0, rf_16_1, rf_16_2, rf_16_3, rf_21_0, rf_21_1, rf_21_2, rf_21_3, rf_26_0, rf_26_1, rf_26_2, rf_26_3, rf_26_4, rf_26_5, rf_26_6, rf_31_0, rf_31_2, rf_31_5, rf_31_6, rf_36_0, rf_36_1, rf_36_2, rf_36_3, rf_39_0, rf_39_1, rf_39_2, rf_41_0, rf_41_1, rf_41_2, rf_41_3, rf_5000_1, rf_5000_2, rf_5000_3, rf_5000_4, rf_5000_5, rf_5000_15, rf_5000_16, rf_5000_18, rf_5000_19, rf_5000_20, rf_5000_21, rf_5000_22, rf_5000_23, rf_5000_24, rf_5000_25, rf_5000_26, rf_5000_27, rf_5000_36, rf_5000_37, rf_5000_40, rf_5000_41, rf_5000_42, rf_5000_43, rf_5000_44, rf_5000_45, rf_5000_47, rf_5000_52, rf_5000_54, rf_5000_55, rf_100_0, rf_100_1, rf_103_0, rf_103_1, rf_106_0, rf_106_1, rf_109_0, rf_109_1, al_2, al_4, al_5, al_7, al_8, al_10, al_11, al_12, al_14, al_15, al_17, al_18, al_19, al_20, al_22, al_23, al_24, al_25, al_27, al_28, al_29, al_30, al_32, al_33, al_34, al_35, al_37, al_38, al_40, al_42, al_5001, al_5002, al_5003, al_5004, al_5005, al_5006, al_5007, al_5008, al_5009, al_5010, al_5011, al_5012, al_5013, al_5014, al_5015, al_5016, al_5017, al_5018, al_5019, al_5020, al_5021, al_5022, al_5023, al_5024, al_5025, al_5026, al_9000, al_101, al_102, al_104, al_105, al_107, al_108, al_110, al_111, vcs_e, lg_c0, lg_cs, lg_nil, set_c0, set_cs, okst_0, okst_s, acok_n, acok_c, List.contains_nil, List.contains_cons, Bool.or_false, Bool.false_or, Bool.false_eq_true, if_false, if_true, ite_self, ne_eq, true_and, and_true, not_false_eq_true, not_true_eq_false, false_imp_iff, true_imp_iff, Nat.ble_eq, Bool.and_eq_true, reduceCtorEq, or_false, false_or, or_true, true_or, false_and, and_false, and_self, Int.reduceLE, Int.reduceAdd, Int.reduceSub, Int.reduceMul, Int.reduceNeg, Int.reduceLT, Int.reduceEq, Int.reduceNe, Nat.reduceBEq, Nat.reduceBNe, Nat.reduceEqDiff, amCmp_in, amCmp_lt, amCmp_le, amCmp_gt, amCmp_ge, amCmp_eq, amCmp_ne, Nat.reduceLeDiff, Nat.reduceSub, Bool.and_true, Bool.true_and, Bool.and_self, Bool.or_true, Bool.true_or, isRf_3, isRf_4, isRf_5, isRf_8, isRf_9, isRf_10, isRf_11, isRf_15, isRf_16, isRf_17, isRf_18, isRf_19, isRf_20, isRf_21, isRf_22, isRf_23, isRf_24, isRf_25, isRf_26, isRf_27, isRf_28, k_X12_part_0, k_X12_part_1, k_X12_part_4, k_X12_part_5, k_X12_part_6, k_X12_part_7, k_X12_part_10, k_X12_part_13, k_X12_part_14, k_X12_part_17, k_X12_part_18, k_X12_part_19, k_X12_part_22, k_X12_part_23, k_X12_part_26, k_X12_part_27, k_X12_part_30, k_X12_part_32, k_X12_part_35, k_X12_part_36, k_X12_part_37, k_X12_part_40, k_X12_part_41, k_X12_part_42, k_X12_part_45, k_X12_part_46, k_X12_part_49, k_X12_part_51, k_X12_part_52, k_X12_part_55, k_X12_part_57, k_X12_part_60, k_X12_part_61, k_X12_part_64, k_X12_part_65, k_X12_part_66, k_X12_part_69, k_X12_part_70, w_X12_compares_e, w_X12_look_e, w_X12_unit_e, mt, mk, rd_9, rd_10, rd_11, rd_12, rd_u10, rd_u11, rd_u12, rd_rd, mL_rd, fa_n]
      repeat' (first | assumption | exact tO _ _ _ | exact hrd _ (by omega) (by omega) | apply And.intro | intro _)
      all_goals first | omega | exact absurd trivial (by assumption) | exact hrd _ (by omega) (by omega) | exact fin1 _ _ _ _ (by assumption) (by assumption) (by omega) (by omega) | exact fin2 _ (by assumption)
    · obtain ⟨g, hvg, hg, e1⟩ := hX1 rfl
      subst e1
      simp only [↓reduceIte, inR_0, inR_1, inR_m, vSw2_e, swP_n, swP_c, vI_e, vL_e, vNull_e, vIload_e, vLload_e, vAload_e, vIstore_e, vLstore_e, vAstore_e, vIinc_e, vIadd_e, vIsub_e, vImul_e, vIand_e, vIor_e, vIxor_e, vIshl_e, vIshr_e, vIushr_e, vIdiv_e, vIrem_e, vLadd_e, vLsub_e, vLmul_e, vLand_e, vLor_e, vLxor_e, vLdiv_e, vLrem_e, vLushr_e, vLshl_e, vLcmp_e, vIneg_e, vI2l_e, vL2i_e, vI2b_e, vI2c_e, vDup_e, vPop_e, vDup2_e, vGoto_e, vIcEq_e, vIfEq_e, vIcNe_e, vIfNe_e, vIcLt_e, vIfLt_e, vIcGe_e, vIfGe_e, vIcGt_e, vIfGt_e, vIcLe_e, vIfLe_e, vNonnull_e, vSw_e, vGetI_e, vGetL_e, vGetR_e, vPutI_e, vPutZ_e, vPutL_e, vPutR_e, vIald_e, vIald_s, vLald_e, vBald_e, vBald_s, vAald_e, vIast_e, vLast_e, vBast_e, vAast_e, vAlen_e8, vAlen_e9, vAlen_e10, vAlen_e11, vAlen_e5, vAlen_e3, vGets_e, vCompact_e, vLdcS_e, vIret_e, vZret_e, vCret_e, vBret_e, vLret_e, vVret_e, vAret_e, vCallM_e0, vCallMV_e0, vCallS_e0, vCallSV_e0, vCallM_e1, vCallMV_e1, vCallS_e1, vCallSV_e1, vCallM_e2, vCallMV_e2, vCallS_e2, vCallSV_e2, vCallM_e3, vCallMV_e3, vCallS_e3, vCallSV_e3, vCallM_e4, vCallMV_e4, vCallS_e4, vCallSV_e4, vCallM_e5, vCallMV_e5, vCallS_e5, vCallSV_e5, vCallM_e6, vCallMV_e6, vCallS_e6, vCallSV_e6, vCallM_e7, vCallMV_e7, vCallS_e7, vCallSV_e7, vBad_e, vStrVal_e, vStrCod_e, vForm_e, vCallT_e0, vCallT_e1, vCallT_e2, vCopy_e, rf_0_0, rf_0_1, rf_0_2, rf_0_3, rf_0_4, rf_0_7, rf_0_10, rf_0_11, rf_0_12, rf_0_13, rf_0_14, rf_0_15, rf_0_16, rf_1_0, rf_3_0, rf_3_1, rf_6_0, rf_6_1, rf_9_0, rf_9_1, rf_9_3, rf_13_0, rf_13_1, rf_13_2, rf_16_0, rf_16_1, rf_16_2, rf_16_3, rf_21_0, rf_21_1, rf_21_2, rf_21_3, rf_26_0, rf_26_1, rf_26_2, rf_26_3, rf_26_4, rf_26_5, rf_26_6, rf_31_0, rf_31_2, rf_31_5, rf_31_6, rf_36_0, rf_36_1, rf_36_2, rf_36_3, rf_39_0, rf_39_1, rf_39_2, rf_41_0, rf_41_1, rf_41_2, rf_41_3, rf_5000_1, rf_5000_2, rf_5000_3, rf_5000_4, rf_5000_5, rf_5000_15, rf_5000_16, rf_5000_18, rf_5000_19, rf_5000_20, rf_5000_21, rf_5000_22, rf_5000_23, rf_5000_24, rf_5000_25, rf_5000_26, rf_5000_27, rf_5000_36, rf_5000_37, rf_5000_40, rf_5000_41, rf_5000_42, rf_5000_43, rf_5000_44, rf_5000_45, rf_5000_47, rf_5000_52, rf_5000_54, rf_5000_55, rf_100_0, rf_100_1, rf_103_0, rf_103_1, rf_106_0, rf_106_1, rf_109_0, rf_109_1, al_2, al_4, al_5, al_7, al_8, al_10, al_11, al_12, al_14, al_15, al_17, al_18, al_19, al_20, al_22, al_23, al_24, al_25, al_27, al_28, al_29, al_30, al_32, al_33, al_34, al_35, al_37, al_38, al_40, al_42, al_5001, al_5002, al_5003, al_5004, al_5005, al_5006, al_5007, al_5008, al_5009, al_5010, al_5011, al_5012, al_5013, al_5014, al_5015, al_5016, al_5017, al_5018, al_5019, al_5020, al_5021, al_5022, al_5023, al_5024, al_5025, al_5026, al_9000, al_101, al_102, al_104, al_105, al_107, al_108, al_110, al_111, vcs_e, lg_c0, lg_cs, lg_nil, set_c0, set_cs, okst_0, okst_s, acok_n, acok_c, List.contains_nil, List.contains_cons, Bool.or_false, Bool.false_or, Bool.false_eq_true, if_false, if_true, ite_self, ne_eq, true_and, and_true, not_false_eq_true, not_true_eq_false, false_imp_iff, true_imp_iff, Nat.ble_eq, Bool.and_eq_true, reduceCtorEq, or_false, false_or, or_true, true_or, false_and, and_false, and_self, Int.reduceLE, Int.reduceAdd, Int.reduceSub, Int.reduceMul, Int.reduceNeg, Int.reduceLT, Int.reduceEq, Int.reduceNe, Nat.reduceBEq, Nat.reduceBNe, Nat.reduceEqDiff, amCmp_in, amCmp_lt, amCmp_le, amCmp_gt, amCmp_ge, amCmp_eq, amCmp_ne, Nat.reduceLeDiff, Nat.reduceSub, Bool.and_true, Bool.true_and, Bool.and_self, Bool.or_true, Bool.true_or, isRf_3, isRf_4, isRf_5, isRf_8, isRf_9, isRf_10, isRf_11, isRf_15, isRf_16, isRf_17, isRf_18, isRf_19, isRf_20, isRf_21, isRf_22, isRf_23, isRf_24, isRf_25, isRf_26, isRf_27, isRf_28, k_X12_part_0, k_X12_part_1, k_X12_part_4, k_X12_part_5, k_X12_part_6, k_X12_part_7, k_X12_part_10, k_X12_part_13, k_X12_part_14, k_X12_part_17, k_X12_part_18, k_X12_part_19, k_X12_part_22, k_X12_part_23, k_X12_part_26, k_X12_part_27, k_X12_part_30, k_X12_part_32, k_X12_part_35, k_X12_part_36, k_X12_part_37, k_X12_part_40, k_X12_part_41, k_X12_part_42, k_X12_part_45, k_X12_part_46, k_X12_part_49, k_X12_part_51, k_X12_part_52, k_X12_part_55, k_X12_part_57, k_X12_part_60, k_X12_part_61, k_X12_part_64, k_X12_part_65, k_X12_part_66, k_X12_part_69, k_X12_part_70, w_X12_compares_e, w_X12_look_e, w_X12_unit_e, mt, mk, rd_9, rd_10, rd_11, rd_12, rd_u10, rd_u11, rd_u12, rd_rd, mL_rd, fa_n]
      repeat' (first | assumption | exact tO _ _ _ | exact hrd _ (by omega) (by omega) | apply And.intro | intro _)
      all_goals first | omega | exact absurd trivial (by assumption) | exact hrd _ (by omega) (by omega) | exact ⟨g, hvg, hg, fun f v' p' d e hv' d0 d1 => fin1 f v' p' d e hv' d0 d1, fun y e => fin2 y e⟩
