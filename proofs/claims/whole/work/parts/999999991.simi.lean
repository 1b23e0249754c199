/-! TEXTS: what both sides read; FAULT side by side -/
theorem tx_eq {σ m : Mem} {n : Int} (h : tapeR σ) (h5 : m 5001 = σ 5001) (hn : n = σ 1 1) : txt m 5001 0 n = tsg σ := by
  obtain ⟨⟨t1, t2, t3⟩, t4, t5⟩ := h
  funext i
  unfold txt tsg
  rw [h5, hn]
  by_cases q : 0 ≤ i ∧ i < σ 1 1
  · rw [if_pos q, if_pos ⟨q.1, q.2, by omega⟩, Int.zero_add]; exact (t5 i q.1 q.2).2
  · rw [if_neg q, if_neg (fun z => q ⟨z.1, z.2.1⟩)]
theorem tx_ok {σ m : Mem} {n : Int} (h : tapeR σ) (h5 : m 5001 = σ 5001) (hn : n = σ 1 1) : txtOk m 5001 0 n := by
  obtain ⟨⟨t1, t2, t3⟩, t4, t5⟩ := h
  rw [hn]
  refine ⟨t1, t2, Or.inl ⟨rfl, rfl⟩, fun i i0 i1 => ?_⟩
  rw [h5, Int.zero_add]; exact (t5 i i0 i1).1
theorem hCls_cc {t : Int → Int} {n : Int} : ∀ (f : Nat) (p : Int) (c c' v : Int → Int), (∀ k, 0 ≤ k → k < 4 → c' k = c k) → (hCls t n f p c' v).1 = (hCls t n f p c v).1 ∧ (hCls t n f p c' v).2.1 = (hCls t n f p c v).2.1 ∧ (∀ k, 0 ≤ k → k < 4 → (hCls t n f p c' v).2.2.1 k = (hCls t n f p c v).2.2.1 k) ∧ (hCls t n f p c' v).2.2.2 = (hCls t n f p c v).2.2.2 := by
  intro f
  induction f with
  | zero => intro p c c' v h; unfold hCls; exact ⟨rfl, rfl, h, rfl⟩
  | succ f ih =>
    intro p c c' v h
    unfold hCls
    have kb : hK t n p < 4 := (kindF_b (t (sk t n p))).2
    by_cases m : 0 ≤ hK t n p
    · have e := h _ m kb
      have eR : hR t n p c' v = hR t n p c v := by unfold hR; rw [e]
      have eu : ∀ k, 0 ≤ k → k < 4 → upf c' (hK t n p) (c (hK t n p) + 1) k = upf c (hK t n p) (c (hK t n p) + 1) k := fun k k0 k1 => by unfold upf; rw [h k k0 k1]
      rw [e, eR]
      by_cases m1 : c (hK t n p) < mostK (hK t n p)
      · have mm : 0 ≤ hK t n p ∧ c (hK t n p) < mostK (hK t n p) := ⟨m, m1⟩
        rw [if_pos mm, if_pos mm]
        by_cases m2 : (hR t n p c v).1 ≠ -1
        · rw [if_pos m2, if_pos m2]; exact ⟨rfl, rfl, eu, rfl⟩
        · rw [if_neg m2, if_neg m2]
          by_cases m3 : t (sk t n (hR t n p c v).2.1) = -1
          · rw [if_pos m3, if_pos m3]
            have eW : hWhole (upf c' (hK t n p) (c (hK t n p) + 1)) (hR t n p c v).2.2 = hWhole (upf c (hK t n p) (c (hK t n p) + 1)) (hR t n p c v).2.2 := by
              unfold hWhole; rw [eu 1 (by decide) (by decide), eu 2 (by decide) (by decide), eu 3 (by decide) (by decide)]
            refine ⟨?_, rfl, eu, rfl⟩
            by_cases w : hWhole (upf c (hK t n p) (c (hK t n p) + 1)) (hR t n p c v).2.2
            · rw [hfin_t w, hfin_t (by rw [eW]; exact w)]
            · rw [hfin_f w, hfin_f (by rw [eW]; exact w)]
          · rw [if_neg m3, if_neg m3]
            exact ih _ _ _ _ eu
      · rw [if_neg (fun z => m1 z.2), if_neg (fun z => m1 z.2)]; exact ⟨rfl, rfl, h, rfl⟩
    · rw [if_neg (fun z => m z.1), if_neg (fun z => m z.1)]; exact ⟨rfl, rfl, h, rfl⟩
/-! bounds of what is read -/
theorem kd_4 {k : Int} (k0 : 0 ≤ k) (k1 : k < 4) : k = 0 ∨ k = 1 ∨ k = 2 ∨ k = 3 := by omega
theorem row_in {k k' i i' : Int} (k0 : 0 ≤ k) (k1 : k < 4) (i0 : 0 ≤ i) (i1 : i < mostK k) (k0' : 0 ≤ k') (k1' : k' < 4) (i0' : 0 ≤ i') (i1' : i' < mostK k') (h : firstK k + i = firstK k' + i') : k = k' := by
  have m0 : mostK 0 = 1 := rfl
  have m1 : mostK 1 = 4 := rfl
  have m2 : mostK 2 = 6 := rfl
  have m3 : mostK 3 = 6 := rfl
  have f0 : firstK 0 = 0 := rfl
  have f1 : firstK 1 = 1 := rfl
  have f2 : firstK 2 = 5 := rfl
  have f3 : firstK 3 = 11 := rfl
  rcases kd_4 k0 k1 with rfl | rfl | rfl | rfl <;> rcases kd_4 k0' k1' with rfl | rfl | rfl | rfl <;> first | rfl | (exfalso; omega)
theorem rowS_u {v : Int → Int} {kind idx item val : Int} (i0 : 0 ≤ idx) (i1 : idx < mostK kind) (hf : fitF kind item val) (v0 : 0 ≤ val) (h : rowS v) : rowS (upf v ((firstK kind + idx) * 4 + item) val) := by
  intro k i w k0 k1 j0 j1 w0 w1
  obtain ⟨a0, a1, b0, b1, c0, c1⟩ := hf
  unfold upf
  by_cases e : (firstK k + i) * 4 + w = (firstK kind + idx) * 4 + item
  · rw [if_pos e]
    have ek := row_in k0 k1 j0 j1 a0 a1 i0 i1 (by omega)
    have ew : w = item := by omega
    rw [ek, ew]; exact ⟨v0, c1⟩
  · rw [if_neg e]; exact h k i w k0 k1 j0 j1 w0 w1
theorem sav_d0 : ∀ k : Nat, k < 16 → sav 21002 k ≤ sav 21001 k := by decide +kernel
theorem filv_S {v : Int → Int} (kind idx : Int) (h : rowS v) : rowS (filv v kind idx) := by
  intro k i w k0 k1 j0 j1 w0 w1
  unfold filv
  by_cases z : 0 ≤ kind ∧ kind < 4 ∧ 0 ≤ idx ∧ idx < mostK kind ∧ (firstK kind + idx) * 4 ≤ (firstK k + i) * 4 + w ∧ (firstK k + i) * 4 + w < (firstK kind + idx) * 4 + 4
  · rw [if_pos z]
    obtain ⟨a0, a1, i0, i1, z1, z2⟩ := z
    have ek := row_in k0 k1 j0 j1 a0 a1 i0 i1 (by omega)
    have e2 : kind * 4 + ((firstK k + i) * 4 + w - (firstK kind + idx) * 4) = k * 4 + w := by omega
    rw [e2]
    have b := (sav_b (i := k * 4 + w) (by omega) (by omega)).2.2
    have d := sav_d0 (k * 4 + w).toNat (by omega)
    rw [show (((k * 4 + w).toNat : Nat) : Int) = k * 4 + w by omega] at d
    exact ⟨b.1, d⟩
  · rw [if_neg z]; exact h k i w k0 k1 j0 j1 w0 w1
theorem hIt_S {t : Int → Int} {n kind idx : Int} (i0 : 0 ≤ idx) (i1 : idx < mostK kind) : ∀ (f : Nat) (told p : Int) (v : Int → Int), rowS v → rowS (hIt t n kind (firstK kind + idx) f told p v).2.2 := by
  intro f
  induction f with
  | zero => intro told p v h; unfold hIt; exact h
  | succ f ih =>
    intro told p v h
    unfold hIt
    split
    · exact h
    · split
      · exact h
      · split
        · exact h
        · split
          · rename_i hf
            exact ih _ _ _ (rowS_u i0 i1 hf (nval_nn t 2 _ 0 (by decide)) h)
          · exact h
theorem hCls_S {t : Int → Int} {n : Int} : ∀ (f : Nat) (p : Int) (c v : Int → Int), cntB c → rowS v → cntB (hCls t n f p c v).2.2.1 ∧ rowS (hCls t n f p c v).2.2.2 := by
  intro f
  induction f with
  | zero => intro p c v hc hv; unfold hCls; exact ⟨hc, hv⟩
  | succ f ih =>
    intro p c v hc hv
    unfold hCls
    have kb : hK t n p < 4 := (kindF_b (t (sk t n p))).2
    by_cases m : 0 ≤ hK t n p ∧ c (hK t n p) < mostK (hK t n p)
    · rw [if_pos m]
      have ck := hc _ m.1 kb
      have mb : mostK (hK t n p) ≤ 6 := by unfold mostK; (repeat' split) <;> omega
      have hc' : cntB (upf c (hK t n p) (c (hK t n p) + 1)) := fun k k0 k1 => by
        unfold upf; split
        · omega
        · exact hc k k0 k1
      have hv' : rowS (hR t n p c v).2.2 := hIt_S ck.1 m.2 5 0 _ _ (filv_S _ _ hv)
      split
      · exact ⟨hc', hv'⟩
      · split
        · exact ⟨hc', hv'⟩
        · exact ih _ _ _ hc' hv'
    · rw [if_neg m]; exact ⟨hc, hv⟩
theorem hCls_1 {t : Int → Int} {n : Int} (ht : ∀ i, n ≤ i → t i = -1) (hn : 0 ≤ n) : ∀ (f : Nat) (p : Int) (c v : Int → Int), 0 ≤ p → p ≤ n → rowB v → (-1 ≤ (hCls t n f p c v).1 ∧ (hCls t n f p c v).1 ≤ n) ∧ ((hCls t n f p c v).1 = -1 → hWhole (hCls t n f p c v).2.2.1 (hCls t n f p c v).2.2.2) := by
  intro f
  induction f with
  | zero => intro p c v p0 p1 hv; unfold hCls; exact ⟨⟨by omega, by omega⟩, fun z => absurd z (by omega)⟩
  | succ f ih =>
    intro p c v p0 p1 hv
    have s1 := sk_b t p1
    unfold hCls
    by_cases m : 0 ≤ hK t n p ∧ c (hK t n p) < mostK (hK t n p)
    · rw [if_pos m]
      have lt := sk_lt ht (kindF_n (s := t (sk t n p)) m.1)
      have b : -1 ≤ (hR t n p c v).1 ∧ (hR t n p c v).1 ≤ n ∧ sk t n p + 1 ≤ (hR t n p c v).2.1 ∧ (hR t n p c v).2.1 ≤ n ∧ rowB (hR t n p c v).2.2 := hIt_b ht hn 5 0 _ _ (by omega) (by omega) (filv_B hv _ _)
      have s2 := sk_b t b.2.2.2.1
      by_cases m2 : (hR t n p c v).1 ≠ -1
      · rw [if_pos m2]; exact ⟨⟨b.1, b.2.1⟩, fun z => absurd z m2⟩
      · rw [if_neg m2]
        by_cases m3 : t (sk t n (hR t n p c v).2.1) = -1
        · rw [if_pos m3]
          by_cases w : hWhole (upf c (hK t n p) (c (hK t n p) + 1)) (hR t n p c v).2.2
          · refine ⟨?_, fun _ => w⟩
            show -1 ≤ hfin _ _ _ ∧ hfin _ _ _ ≤ n
            rw [hfin_t w]; omega
          · constructor
            · show -1 ≤ hfin _ _ _ ∧ hfin _ _ _ ≤ n
              rw [hfin_f w]; omega
            · intro z
              have z' : hfin (upf c (hK t n p) (c (hK t n p) + 1)) (hR t n p c v).2.2 n = -1 := z
              rw [hfin_f w] at z'
              omega
        · rw [if_neg m3]
          have lt2 := sk_lt ht m3
          exact ih _ _ _ (by omega) (by omega) b.2.2.2.2
    · rw [if_neg m]
      refine ⟨⟨?_, ?_⟩, fun z => ?_⟩
      · show -1 ≤ sk t n p; omega
      · show sk t n p ≤ n; omega
      · have z' : sk t n p = -1 := z
        omega
theorem seasF_1 {t : Int → Int} {n : Int} (ht : ∀ i, n ≤ i → t i = -1) : ∀ (f : Nat) (i p : Int) (v : Int → Int), 0 ≤ p → p ≤ n → -1 ≤ (seasF t n f i p v).1 ∧ (seasF t n f i p v).1 ≤ n := by
  intro f
  induction f with
  | zero => intro i p v p0 p1; unfold seasF; exact ⟨by show -1 ≤ p; omega, p1⟩
  | succ f ih =>
    intro i p v p0 p1
    have b := stepF_b ht ⟨p0, p1⟩
    have s := sk_b t b.2.1
    unfold seasF
    by_cases m1 : (stepF t n p).1 = -1
    · rw [if_pos m1]; exact ⟨by show -1 ≤ (stepF t n p).2.1; omega, b.2.1⟩
    · rw [if_neg m1]
      by_cases m2 : t (sk t n (stepF t n p).2.1) = -1
      · rw [if_pos m2]; exact ⟨by show (-1 : Int) ≤ -1; omega, by show (-1 : Int) ≤ n; omega⟩
      · rw [if_neg m2]
        have lt := sk_lt ht m2
        by_cases m3 : t (sk t n (stepF t n p).2.1) ≠ 59 ∨ i + 1 = 16
        · rw [if_pos m3]; exact ⟨by show -1 ≤ sk t n (stepF t n p).2.1; omega, s.2⟩
        · rw [if_neg m3]; exact ih _ _ _ (by omega) (by omega)
/-- RR behind a TEXT read that is not taken -/
theorem RR_rd {σ μ : Mem} (h : RR σ) (hb : ∀ b, b ≠ 1 → b ≠ 4 → b ≠ 5 → ¬ (9 ≤ b ∧ b ≤ 11) → b ≠ 14 → b ≠ 15 → b ≠ 5000 → b ≠ 5006 → b ≠ 5008 → b ≠ 5010 → b ≠ 5012 → b ≠ 5013 → b ≠ 5014 → μ b = σ b) (h1 : μ 1 1 = σ 1 1) (hk : ∀ x, x = 6 ∨ x = 7 ∨ x = 28 ∨ x = 29 ∨ x = 30 ∨ x = 34 ∨ x = 38 ∨ x = 39 ∨ x = 48 ∨ x = 53 ∨ x = 56 → μ 5000 x = σ 5000 x) (c5 : ∀ k, 0 ≤ k → k < 4 → 0 ≤ μ 5 k ∧ μ 5 k ≤ 6) (c4 : rowS (μ 4)) (hv : rowB (vof μ)) (hs : seaR μ) : RR μ := by
  have n := RR_n h
  have q : ∀ b, b = -2 ∨ b = 0 ∨ b = 2 ∨ b = 3 ∨ (5 < b ∧ b < 9) ∨ b = 12 ∨ b = 13 ∨ (15 < b ∧ b < 5000) ∨ (5000 < b ∧ b < 5006) ∨ b = 5007 ∨ b = 5009 ∨ b = 5011 ∨ 5014 < b → μ b = σ b := fun b hb' => hb b (by omega) (by omega) (by omega) (by omega) (by omega) (by omega) (by omega) (by omega) (by omega) (by omega) (by omega) (by omega) (by omega)
  obtain ⟨h1', h2, h3, h4, h5, h6, h7, h8, h9, h10, h11⟩ := h
  refine ⟨tapeR_c h1 (q 2 (by decide)) (hk 6 (by decide)) (q 5001 (by decide)) h1', ?_, lawR_c (by rw [q 0 (by decide)]) (by rw [q 0 (by decide)]) (by rw [q 26 (by decide)]) (q 12 (by decide)) ⟨hk 7 (by decide), hk 38 (by decide)⟩ (q 5002 (by decide)) (q 5003 (by decide)) (fun l l0 l1 => q _ (by omega)) n.2.2.2.2 h3, hs, howR_c (by rw [q 41 (by decide)]) (q 42 (by decide)) (fun x hx => hk x (by omega)) (q 5024 (by decide)) h5, nowR_c n.2.1.2 (fun j _ _ => by rw [q 16 (by decide)]) (fun b b0 b1 => q b (by omega)) (q 32 (by decide)) (by rw [q 31 (by decide)]) ⟨hk 29 (by decide), hk 30 (by decide)⟩ (q 5015 (by decide)) h6, pastR_c (fun x _ => by rw [q 31 (by decide)]) (q 32 (by decide)) (q 33 (by decide)) (fun x hx => hk x (by omega)) (q 5023 (by decide)) h7, imR_c (fun x _ => by rw [q 31 (by decide)]) (q 34 (by decide)) (q 35 (by decide)) (fun x hx => hk x (by omega)) (q 5026 (by decide)) h8, livR_c (q (-2) (by decide)) (hk 7 (by decide)) h9, mskR_c (mOk_c (hk 7 (by decide)) (fun b hb' => q b (by omega)) h10.1) (by rw [q 0 (by decide)]) ⟨hk 39 (by decide), hk 28 (by decide), hk 30 (by decide)⟩ (q 5007 (by decide)) (q 5011 (by decide)) (q 5005 (by decide)) h10, ringR_c (q 32 (by decide)) (q 35 (by decide)) h11⟩
  obtain ⟨-, -, b3, b4, -, b6, b7, b8, b9, b10, b11, b12⟩ := h2
  unfold houR
  rw [q 7 (by decide), q 8 (by decide), hk 28 (by decide), hk 29 (by decide), hk 30 (by decide), q 5005 (by decide), q 5007 (by decide), q 5011 (by decide)]
  exact ⟨c5, c4, b3, b4, hv, b6, b7, b8, b9, b10, b11, b12⟩
