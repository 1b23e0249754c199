theorem E : True := True.intro
theorem K : True := True.intro
theorem O : True := True.intro
theorem S : True := True.intro
theorem a : True := True.intro
theorem a0 : True := True.intro
theorem a1 : True := True.intro
theorem b : True := True.intro
theorem c : True := True.intro
theorem c1 : True := True.intro
theorem c4 : True := True.intro
theorem c5 : True := True.intro
theorem d : True := True.intro
theorem e : True := True.intro
theorem e1 : True := True.intro
theorem e13 : True := True.intro
theorem e2 : True := True.intro
theorem e5 : True := True.intro
theorem e6 : True := True.intro
theorem f0 : True := True.intro
theorem f1 : True := True.intro
theorem f2 : True := True.intro
theorem f3 : True := True.intro
theorem first : True := True.intro
theorem hb : True := True.intro
theorem hc : True := True.intro
theorem hi : True := True.intro
theorem i : True := True.intro
theorem i0 : True := True.intro
theorem i1 : True := True.intro
theorem idx : True := True.intro
theorem item : True := True.intro
theorem j : True := True.intro
theorem k : True := True.intro
theorem k0 : True := True.intro
theorem k1 : True := True.intro
theorem m : True := True.intro
theorem m0 : True := True.intro
theorem m1 : True := True.intro
theorem m2 : True := True.intro
theorem m3 : True := True.intro
theorem n : True := True.intro
theorem p : True := True.intro
theorem p0 : True := True.intro
theorem p1 : True := True.intro
theorem q : True := True.intro
theorem r1 : True := True.intro
theorem s : True := True.intro
theorem s0 : True := True.intro
theorem s1 : True := True.intro
theorem s2 : True := True.intro
theorem t : True := True.intro
theorem t1 : True := True.intro
theorem told : True := True.intro
theorem v : True := True.intro
theorem v0 : True := True.intro
theorem w : True := True.intro
theorem w0 : True := True.intro
theorem w1 : True := True.intro
theorem x1 : True := True.intro
theorem y : True := True.intro
theorem z : True := True.intro
/-! TEXTS: what both sides read; FAULT side by side -/
theorem tx_eq {σ m : Mem} {n : Int} (h : tapeR σ) (h5 : m 5001 = σ 5001) (hn : n = σ 1 1) : txt m 5001 0 n = tsg σ := by
  obtain ⟨⟨t1, t2, t3⟩, t4, t5⟩ := h
  funext i
  unfold txt tsg
  rw [h5, hn]
  by_cases q : 0 ≤ i ∧ i < σ 1 1
  · rw [if_pos q, if_pos ⟨q.1, q.2, by omega⟩, Int.zero_add]; exact (t5 i q.1 q.2).2
  · rw [if_neg q, if_neg (fun z => q ⟨z.1, z.2.1⟩)]
theorem tx_ok {σ m : Mem} {n : Int} (h : tapeR σ) (h5 : m 5001 = σ 5001) (hn : n = σ 1 1) : txtOk m 5001 0 n := by
  obtain ⟨⟨t1, t2, t3⟩, t4, t5⟩ := h
  rw [hn]
  refine ⟨t1, t2, Or.inl ⟨rfl, rfl⟩, fun i i0 i1 => ?_⟩
  rw [h5, Int.zero_add]; exact (t5 i i0 i1).1
theorem hCls_cc {t : Int → Int} {n : Int} : ∀ (f : Nat) (p : Int) (c c' v : Int → Int), (∀ k, 0 ≤ k → k < 4 → c' k = c k) → (hCls t n f p c' v).1 = (hCls t n f p c v).1 ∧ (hCls t n f p c' v).2.1 = (hCls t n f p c v).2.1 ∧ (∀ k, 0 ≤ k → k < 4 → (hCls t n f p c' v).2.2.1 k = (hCls t n f p c v).2.2.1 k) ∧ (hCls t n f p c' v).2.2.2 = (hCls t n f p c v).2.2.2 := by
  intro f
  induction f with
  | zero => intro p c c' v h; unfold hCls; exact ⟨rfl, rfl, h, rfl⟩
  | succ f ih =>
    intro p c c' v h
    unfold hCls
    have kb : hK t n p < 4 := (kindF_b (t (sk t n p))).2
    by_cases m : 0 ≤ hK t n p
    · have e := h _ m kb
      have eR : hR t n p c' v = hR t n p c v := by unfold hR; rw [e]
      have eu : ∀ k, 0 ≤ k → k < 4 → upf c' (hK t n p) (c (hK t n p) + 1) k = upf c (hK t n p) (c (hK t n p) + 1) k := fun k k0 k1 => by unfold upf; rw [h k k0 k1]
      rw [e, eR]
      by_cases m1 : c (hK t n p) < mostK (hK t n p)
      · have mm : 0 ≤ hK t n p ∧ c (hK t n p) < mostK (hK t n p) := ⟨m, m1⟩
        rw [if_pos mm, if_pos mm]
        by_cases m2 : (hR t n p c v).1 ≠ -1
        · rw [if_pos m2, if_pos m2]; exact ⟨rfl, rfl, eu, rfl⟩
        · rw [if_neg m2, if_neg m2]
          by_cases m3 : t (sk t n (hR t n p c v).2.1) = -1
          · rw [if_pos m3, if_pos m3]
            have eW : hWhole (upf c' (hK t n p) (c (hK t n p) + 1)) (hR t n p c v).2.2 = hWhole (upf c (hK t n p) (c (hK t n p) + 1)) (hR t n p c v).2.2 := by
              unfold hWhole; rw [eu 1 (by decide) (by decide), eu 2 (by decide) (by decide), eu 3 (by decide) (by decide)]
            refine ⟨?_, rfl, eu, rfl⟩
            by_cases w : hWhole (upf c (hK t n p) (c (hK t n p) + 1)) (hR t n p c v).2.2
            · rw [hfin_t w, hfin_t (by rw [eW]; exact w)]
            · rw [hfin_f w, hfin_f (by rw [eW]; exact w)]
          · rw [if_neg m3, if_neg m3]
            exact ih _ _ _ _ eu
      · rw [if_neg (fun z => m1 z.2), if_neg (fun z => m1 z.2)]; exact ⟨rfl, rfl, h, rfl⟩
    · rw [if_neg (fun z => m z.1), if_neg (fun z => m z.1)]; exact ⟨rfl, rfl, h, rfl⟩
/-! bounds of what is read -/
theorem kd_4 {k : Int} (k0 : 0 ≤ k) (k1 : k < 4) : k = 0 ∨ k = 1 ∨ k = 2 ∨ k = 3 := by omega
theorem row_in {k k' i i' : Int} (k0 : 0 ≤ k) (k1 : k < 4) (i0 : 0 ≤ i) (i1 : i < mostK k) (k0' : 0 ≤ k') (k1' : k' < 4) (i0' : 0 ≤ i') (i1' : i' < mostK k') (h : firstK k + i = firstK k' + i') : k = k' := by
  have m0 : mostK 0 = 1 := rfl
  have m1 : mostK 1 = 4 := rfl
  have m2 : mostK 2 = 6 := rfl
  have m3 : mostK 3 = 6 := rfl
  have f0 : firstK 0 = 0 := rfl
  have f1 : firstK 1 = 1 := rfl
  have f2 : firstK 2 = 5 := rfl
  have f3 : firstK 3 = 11 := rfl
  rcases kd_4 k0 k1 with rfl | rfl | rfl | rfl <;> rcases kd_4 k0' k1' with rfl | rfl | rfl | rfl <;> first | rfl | (exfalso; omega)
theorem rowS_u {v : Int → Int} {kind idx item val : Int} (i0 : 0 ≤ idx) (i1 : idx < mostK kind) (hf : fitF kind item val) (v0 : 0 ≤ val) (h : rowS v) : rowS (upf v ((firstK kind + idx) * 4 + item) val) := by
  intro k i w k0 k1 j0 j1 w0 w1
  obtain ⟨a0, a1, b0, b1, c0, c1⟩ := hf
  unfold upf
  by_cases e : (firstK k + i) * 4 + w = (firstK kind + idx) * 4 + item
  · rw [if_pos e]
    have ek := row_in k0 k1 j0 j1 a0 a1 i0 i1 (by omega)
    have ew : w = item := by omega
    rw [ek, ew]; exact ⟨v0, c1⟩
  · rw [if_neg e]; exact h k i w k0 k1 j0 j1 w0 w1
theorem sav_d0 : ∀ k : Nat, k < 16 → sav 21002 k ≤ sav 21001 k := by decide +kernel
theorem filv_S {v : Int → Int} (kind idx : Int) (h : rowS v) : rowS (filv v kind idx) := by
  intro k i w k0 k1 j0 j1 w0 w1
  unfold filv
  by_cases z : 0 ≤ kind ∧ kind < 4 ∧ 0 ≤ idx ∧ idx < mostK kind ∧ (firstK kind + idx) * 4 ≤ (firstK k + i) * 4 + w ∧ (firstK k + i) * 4 + w < (firstK kind + idx) * 4 + 4
  · rw [if_pos z]
    obtain ⟨a0, a1, i0, i1, z1, z2⟩ := z
    have ek := row_in k0 k1 j0 j1 a0 a1 i0 i1 (by omega)
    have e2 : kind * 4 + ((firstK k + i) * 4 + w - (firstK kind + idx) * 4) = k * 4 + w := by omega
    rw [e2]
    have b := (sav_b (i := k * 4 + w) (by omega) (by omega)).2.2
    have d := sav_d0 (k * 4 + w).toNat (by omega)
    rw [show (((k * 4 + w).toNat : Nat) : Int) = k * 4 + w by omega] at d
    exact ⟨b.1, d⟩
  · rw [if_neg z]; exact h k i w k0 k1 j0 j1 w0 w1
theorem hIt_S {t : Int → Int} {n kind idx : Int} (i0 : 0 ≤ idx) (i1 : idx < mostK kind) : ∀ (f : Nat) (told p : Int) (v : Int → Int), rowS v → rowS (hIt t n kind (firstK kind + idx) f told p v).2.2 := by
  intro f
  induction f with
  | zero => intro told p v h; unfold hIt; exact h
  | succ f ih =>
    intro told p v h
    unfold hIt
    split
    · exact h
    · split
      · exact h
      · split
        · exact h
        · split
          · rename_i hf
            exact ih _ _ _ (rowS_u i0 i1 hf (nval_nn t 2 _ 0 (by decide)) h)
          · exact h
theorem hCls_S {t : Int → Int} {n : Int} : ∀ (f : Nat) (p : Int) (c v : Int → Int), cntB c → rowS v → cntB (hCls t n f p c v).2.2.1 ∧ rowS (hCls t n f p c v).2.2.2 := by
  intro f
  induction f with
  | zero => intro p c v hc hv; unfold hCls; exact ⟨hc, hv⟩
  | succ f ih =>
    intro p c v hc hv
    unfold hCls
    have kb : hK t n p < 4 := (kindF_b (t (sk t n p))).2
    by_cases m : 0 ≤ hK t n p ∧ c (hK t n p) < mostK (hK t n p)
    · rw [if_pos m]
      have ck := hc _ m.1 kb
      have mb : mostK (hK t n p) ≤ 6 := by unfold mostK; (repeat' split) <;> omega
      have hc' : cntB (upf c (hK t n p) (c (hK t n p) + 1)) := fun k k0 k1 => by
        unfold upf; split
        · omega
        · exact hc k k0 k1
      have hv' : rowS (hR t n p c v).2.2 := hIt_S ck.1 m.2 5 0 _ _ (filv_S _ _ hv)
      split
      · exact ⟨hc', hv'⟩
      · split
        · exact ⟨hc', hv'⟩
        · exact ih _ _ _ hc' hv'
    · rw [if_neg m]; exact ⟨hc, hv⟩
theorem hCls_1 {t : Int → Int} {n : Int} (ht : ∀ i, n ≤ i → t i = -1) (hn : 0 ≤ n) : ∀ (f : Nat) (p : Int) (c v : Int → Int), 0 ≤ p → p ≤ n → rowB v → (-1 ≤ (hCls t n f p c v).1 ∧ (hCls t n f p c v).1 ≤ n) ∧ ((hCls t n f p c v).1 = -1 → hWhole (hCls t n f p c v).2.2.1 (hCls t n f p c v).2.2.2) := by
  intro f
  induction f with
  | zero => intro p c v p0 p1 hv; unfold hCls; exact ⟨⟨by omega, by omega⟩, fun z => absurd z (by omega)⟩
  | succ f ih =>
    intro p c v p0 p1 hv
    have s1 := sk_b t p1
    unfold hCls
    by_cases m : 0 ≤ hK t n p ∧ c (hK t n p) < mostK (hK t n p)
    · rw [if_pos m]
      have lt := sk_lt ht (kindF_n (s := t (sk t n p)) m.1)
      have b : -1 ≤ (hR t n p c v).1 ∧ (hR t n p c v).1 ≤ n ∧ sk t n p + 1 ≤ (hR t n p c v).2.1 ∧ (hR t n p c v).2.1 ≤ n ∧ rowB (hR t n p c v).2.2 := hIt_b ht hn 5 0 _ _ (by omega) (by omega) (filv_B hv _ _)
      have s2 := sk_b t b.2.2.2.1
      by_cases m2 : (hR t n p c v).1 ≠ -1
      · rw [if_pos m2]; exact ⟨⟨b.1, b.2.1⟩, fun z => absurd z m2⟩
      · rw [if_neg m2]
        by_cases m3 : t (sk t n (hR t n p c v).2.1) = -1
        · rw [if_pos m3]
          by_cases w : hWhole (upf c (hK t n p) (c (hK t n p) + 1)) (hR t n p c v).2.2
          · refine ⟨?_, fun _ => w⟩
            show -1 ≤ hfin _ _ _ ∧ hfin _ _ _ ≤ n
            rw [hfin_t w]; omega
          · constructor
            · show -1 ≤ hfin _ _ _ ∧ hfin _ _ _ ≤ n
              rw [hfin_f w]; omega
            · intro z
              have z' : hfin (upf c (hK t n p) (c (hK t n p) + 1)) (hR t n p c v).2.2 n = -1 := z
              rw [hfin_f w] at z'
              omega
        · rw [if_neg m3]
          have lt2 := sk_lt ht m3
          exact ih _ _ _ (by omega) (by omega) b.2.2.2.2
    · rw [if_neg m]
      refine ⟨⟨?_, ?_⟩, fun z => ?_⟩
      · show -1 ≤ sk t n p; omega
      · show sk t n p ≤ n; omega
      · have z' : sk t n p = -1 := z
        omega
theorem seasF_1 {t : Int → Int} {n : Int} (ht : ∀ i, n ≤ i → t i = -1) : ∀ (f : Nat) (i p : Int) (v : Int → Int), 0 ≤ p → p ≤ n → -1 ≤ (seasF t n f i p v).1 ∧ (seasF t n f i p v).1 ≤ n := by
  intro f
  induction f with
  | zero => intro i p v p0 p1; unfold seasF; exact ⟨by show -1 ≤ p; omega, p1⟩
  | succ f ih =>
    intro i p v p0 p1
    have b := stepF_b ht ⟨p0, p1⟩
    have s := sk_b t b.2.1
    unfold seasF
    by_cases m1 : (stepF t n p).1 = -1
    · rw [if_pos m1]; exact ⟨by show -1 ≤ (stepF t n p).2.1; omega, b.2.1⟩
    · rw [if_neg m1]
      by_cases m2 : t (sk t n (stepF t n p).2.1) = -1
      · rw [if_pos m2]; exact ⟨by show (-1 : Int) ≤ -1; omega, by show (-1 : Int) ≤ n; omega⟩
      · rw [if_neg m2]
        have lt := sk_lt ht m2
        by_cases m3 : t (sk t n (stepF t n p).2.1) ≠ 59 ∨ i + 1 = 16
        · rw [if_pos m3]; exact ⟨by show -1 ≤ sk t n (stepF t n p).2.1; omega, s.2⟩
        · rw [if_neg m3]; exact ih _ _ _ (by omega) (by omega)
/-- RR behind a TEXT read that is not taken -/
theorem RR_rd {σ μ : Mem} (h : RR σ) (hb : ∀ b, b ≠ 1 → b ≠ 4 → b ≠ 5 → ¬ (9 ≤ b ∧ b ≤ 11) → b ≠ 14 → b ≠ 15 → b ≠ 5000 → b ≠ 5006 → b ≠ 5008 → b ≠ 5010 → b ≠ 5012 → b ≠ 5013 → b ≠ 5014 → μ b = σ b) (h1 : μ 1 1 = σ 1 1) (hk : ∀ x, x = 6 ∨ x = 7 ∨ x = 28 ∨ x = 29 ∨ x = 30 ∨ x = 34 ∨ x = 38 ∨ x = 39 ∨ x = 48 ∨ x = 53 ∨ x = 56 → μ 5000 x = σ 5000 x) (c5 : ∀ k, 0 ≤ k → k < 4 → 0 ≤ μ 5 k ∧ μ 5 k ≤ 6) (c4 : rowS (μ 4)) (hv : rowB (vof μ)) (hs : seaR μ) : RR μ := by
  have n := RR_n h
  have q : ∀ b, b = -2 ∨ b = 0 ∨ b = 2 ∨ b = 3 ∨ (5 < b ∧ b < 9) ∨ b = 12 ∨ b = 13 ∨ (15 < b ∧ b < 5000) ∨ (5000 < b ∧ b < 5006) ∨ b = 5007 ∨ b = 5009 ∨ b = 5011 ∨ 5014 < b → μ b = σ b := fun b hb' => hb b (by omega) (by omega) (by omega) (by omega) (by omega) (by omega) (by omega) (by omega) (by omega) (by omega) (by omega) (by omega) (by omega)
  obtain ⟨h1', h2, h3, h4, h5, h6, h7, h8, h9, h10, h11⟩ := h
  refine ⟨tapeR_c h1 (q 2 (by decide)) (hk 6 (by decide)) (q 5001 (by decide)) h1', ?_, lawR_c (by rw [q 0 (by decide)]) (by rw [q 0 (by decide)]) (by rw [q 26 (by decide)]) (q 12 (by decide)) ⟨hk 7 (by decide), hk 38 (by decide)⟩ (q 5002 (by decide)) (q 5003 (by decide)) (fun l l0 l1 => q _ (by omega)) n.2.2.2.2 h3, hs, howR_c (by rw [q 41 (by decide)]) (q 42 (by decide)) (fun x hx => hk x (by omega)) (q 5024 (by decide)) h5, nowR_c n.2.1.2 (fun j _ _ => by rw [q 16 (by decide)]) (fun b b0 b1 => q b (by omega)) (q 32 (by decide)) (by rw [q 31 (by decide)]) ⟨hk 29 (by decide), hk 30 (by decide)⟩ (q 5015 (by decide)) h6, pastR_c (fun x _ => by rw [q 31 (by decide)]) (q 32 (by decide)) (q 33 (by decide)) (fun x hx => hk x (by omega)) (q 5023 (by decide)) h7, imR_c (fun x _ => by rw [q 31 (by decide)]) (q 34 (by decide)) (q 35 (by decide)) (fun x hx => hk x (by omega)) (q 5026 (by decide)) h8, livR_c (q (-2) (by decide)) (hk 7 (by decide)) h9, mskR_c (mOk_c (hk 7 (by decide)) (fun b hb' => q b (by omega)) h10.1) (by rw [q 0 (by decide)]) (hk 39 (by decide)) (q 5007 (by decide)) (q 5011 (by decide)) (q 5005 (by decide)) h10, ringR_c (q 32 (by decide)) (q 35 (by decide)) h11⟩
  obtain ⟨-, -, b3, b4, -, b6, b7, b8, b9, b10, b11, b12⟩ := h2
  unfold houR
  rw [q 7 (by decide), q 8 (by decide), hk 28 (by decide), hk 29 (by decide), hk 30 (by decide), q 5005 (by decide), q 5007 (by decide), q 5011 (by decide)]
  exact ⟨c5, c4, b3, b4, hv, b6, b7, b8, b9, b10, b11, b12⟩
/-! FAULT side by side -/
theorem RR_tx {σ : Mem} (h : RR σ) : txtOk (th0 σ) 5001 0 (th0 σ 5000 6) ∧ rowB (vof (th0 σ)) ∧ lbd (mL (th0 σ)) ∧ txt (th0 σ) 5001 0 (th0 σ 5000 6) = tsg σ ∧ th0 σ 5000 6 = σ 1 1 := by
  have e6 : th0 σ 5000 6 = σ 1 1 := by rw [th_k σ (by decide)]; exact h.1.2.1
  have e5 : th0 σ 5001 = σ 5001 := th_o σ (by decide)
  refine ⟨tx_ok h.1 e5 e6, ?_, ?_, tx_eq h.1 e5 e6, e6⟩
  · rw [vof_c (th_o σ (by decide)) (th_o σ (by decide)) (th_o σ (by decide)) (th_o σ (by decide))]; exact h.2.1.2.2.2.2.1
  · have : mL (th0 σ) = mL σ := by funext j; unfold mL; rw [th_o σ (by decide)]
    rw [this]; exact h.2.2.2.2.2.2.2.2.2.1.1.2.2
theorem fillm_in (σ : Mem) (a n v : Int) {k : Int} (k0 : 0 ≤ k) (k1 : k < n) : fillm σ a n v a k = v := by unfold fillm; rw [if_pos ⟨rfl, k0, k1⟩]
theorem agR_0 (v v' : Int → Int) : agR (fun _ => 0) (filv v 0 0) (filv v' 0 0) := by
  refine ⟨fun s s0 s1 => ?_, fun k i _ _ i0 i1 => ?_⟩
  · have m0 : mostK 0 = 1 := rfl
    have f0 : firstK 0 = 0 := rfl
    have z : 0 ≤ (0 : Int) ∧ (0 : Int) < 4 ∧ 0 ≤ (0 : Int) ∧ (0 : Int) < mostK 0 ∧ (firstK 0 + 0) * 4 ≤ s ∧ s < (firstK 0 + 0) * 4 + 4 := ⟨by decide, by decide, by decide, by decide, by omega, by omega⟩
    unfold filv
    rw [if_pos z, if_pos z]
  · exact absurd i0 (by have i1' : i < 0 := i1; omega)
theorem hRd_eq {σ m : Mem} (ht : txt m 5001 0 (m 5000 6) = tsg σ) (hn : m 5000 6 = σ 1 1) : (hRd m).1 = (hoF σ).1 ∧ (∀ k, 0 ≤ k → k < 4 → (hRd m).2.2.1 k = (hoF σ).2.2.1 k) ∧ ((hoF σ).1 = -1 → agR (hoF σ).2.2.1 (hoF σ).2.2.2 (hRd m).2.2.2) := by
  unfold hRd hoF
  rw [ht, hn]
  obtain ⟨a1, a2, a3, a4⟩ := hCls_cc (t := tsg σ) (n := σ 1 1) 241 0 (fillm σ 5 4 0 5) (fun _ => 0) (filv (σ 4) 0 0) (fun k k0 k1 => by
    rw [fillm_in σ 5 4 0 k0 k1])
  obtain ⟨b1, b2, b3, b4⟩ := hCls_cg (t := tsg σ) (n := σ 1 1) 241 0 (fun _ => 0) (filv (σ 4) 0 0) (filv (vof m) 0 0) (fun _ _ _ => Int.le_refl 0) (agR_0 _ _)
  refine ⟨by rw [b1, a1], fun k k0 k1 => by rw [b3, a3 k k0 k1], fun z => ?_⟩
  rw [← a1] at z
  have g := b4 z
  rw [a4] at g
  exact ⟨g.1, fun k i k0 k1 i0 i1 => g.2 k i k0 k1 i0 (by rw [a3 k (by omega) k1]; exact i1)⟩
theorem hoF_b {σ : Mem} (h : RR σ) : cntB (hoF σ).2.2.1 ∧ rowS (hoF σ).2.2.2 ∧ (-1 ≤ (hoF σ).1 ∧ (hoF σ).1 ≤ 240) ∧ ((hoF σ).1 = -1 → hWhole (hoF σ).2.2.1 (hoF σ).2.2.2) := by
  have t := h.1.1
  have S := hCls_S (t := tsg σ) (n := σ 1 1) 241 0 (fillm σ 5 4 0 5) (filv (σ 4) 0 0) (fun k k0 k1 => by rw [fillm_in σ 5 4 0 k0 k1]; decide) (filv_S _ _ h.2.1.2.1)
  have O := hCls_1 (t := tsg σ) (n := σ 1 1) (fun i hi => (tsg_bd t i).2.2.2 hi) t.1 241 0 (fillm σ 5 4 0 5) (filv (σ 4) 0 0) (by decide) t.1 (rowS_B (filv_S _ _ h.2.1.2.1))
  exact ⟨S.1, S.2, ⟨O.1.1, by have h9 : (hoF σ).1 ≤ σ 1 1 := O.1.2; have := t.2.1; omega⟩, O.2⟩
theorem hst_r {σ : Mem} {c v : Int → Int} {p : Int} : (∀ b, b ≠ 1 → b ≠ 4 → b ≠ 5 → hst σ 3 c v p b = σ b) ∧ hst σ 3 c v p 4 = v ∧ hst σ 3 c v p 5 = c ∧ ∀ x, x ≠ 2 → hst σ 3 c v p 1 x = σ 1 x := by
  refine ⟨fun b h1 h4 h5 => ?_, hst_v ⟨by decide, by decide⟩ c v p, hst_c ⟨by decide, by decide⟩ c v p, fun x hx => ?_⟩
  · unfold hst; rw [up_na _ h1, setv_o _ _ (show b ≠ 3 + 1 by omega), setv_o _ _ (show b ≠ 3 + 2 by omega)]
  · unfold hst; rw [up_nj _ hx, setv_o _ _ (by decide), setv_o _ _ (by decide)]
theorem RR_hst {σ : Mem} (h : RR σ) {c v : Int → Int} (hc : cntB c) (hv : rowS v) (p : Int) : RR (hst σ 3 c v p) := by
  obtain ⟨o, r4, r5, r1⟩ := hst_r (σ := σ) (c := c) (v := v) (p := p)
  have q : ∀ b, 5 < b → hst σ 3 c v p b = σ b := fun b hb => o b (by omega) (by omega) (by omega)
  refine RR_rd h (fun b h1 h4 h5 _ _ _ _ _ _ _ _ _ _ => o b h1 h4 h5) (r1 1 (by decide)) (fun x _ => by rw [q 5000 (by decide)]) (by rw [r5]; exact hc) (by rw [r4]; exact hv) ?_ (seaR_c (by rw [q 13 (by decide)]) (q 14 (by decide)) (q 15 (by decide)) (by rw [q 5000 (by decide)]) (q 5013 (by decide)) (q 5014 (by decide)) h.2.2.2.1)
  rw [vof_c (q 5006 (by decide)) (q 5008 (by decide)) (q 5010 (by decide)) (q 5012 (by decide))]; exact h.2.1.2.2.2.2.1
theorem RR_hrf {σ υ : Mem} (h : RR σ) (hF : HRF (th0 σ) υ) (hv : rowB (vof υ)) : RR υ := by
  have q : ∀ b, b < 5000 ∨ b = 5013 ∨ b = 5014 → υ b = σ b := fun b hb => by rw [hF.1 b (by omega) (by omega) (by omega) (by omega) (by omega), th_o σ (by omega)]
  have k : ∀ x, x = 6 ∨ x = 7 ∨ x = 28 ∨ x = 29 ∨ x = 30 ∨ x = 34 ∨ x = 38 ∨ x = 39 ∨ x = 48 ∨ x = 53 ∨ x = 56 → υ 5000 x = σ 5000 x := fun x hx => by rw [hF.2 x (by omega) (by omega) (by omega) (by omega), th_k σ (by omega)]
  exact RR_rd h (fun b _ _ _ _ _ _ h0 h6 h8 h10 h12 _ _ => by rw [hF.1 b h0 h6 h8 h10 h12, th_o σ h0]) (by rw [q 1 (by decide)]) k (by rw [q 5 (by decide)]; exact h.2.1.1) (by rw [q 4 (by decide)]; exact h.2.1.2.1) hv (seaR_c (by rw [q 13 (by decide)]) (q 14 (by decide)) (q 15 (by decide)) (k 34 (by decide)) (q 5013 (by decide)) (q 5014 (by decide)) h.2.2.2.1)
theorem RR_rdx {σ τ : Mem} (h : RR σ) {p : Int} (hX : RdX σ τ p) : RR τ := by
  obtain ⟨o, r1, -⟩ := hX
  have q : ∀ b, 11 < b → τ b = σ b := fun b hb => o b (by omega) (by omega) (by omega) (by omega)
  refine RR_rd h (fun b h1 _ _ h9 _ _ _ _ _ _ _ _ _ => o b h1 (by omega) (by omega) (by omega)) (r1 1 (by decide)) (fun x _ => by rw [q 5000 (by decide)]) (by rw [o 5 (by decide) (by decide) (by decide) (by decide)]; exact h.2.1.1) (by rw [o 4 (by decide) (by decide) (by decide) (by decide)]; exact h.2.1.2.1) ?_ (seaR_c (by rw [q 13 (by decide)]) (q 14 (by decide)) (q 15 (by decide)) (by rw [q 5000 (by decide)]) (q 5013 (by decide)) (q 5014 (by decide)) h.2.2.2.1)
  rw [vof_c (q 5006 (by decide)) (q 5008 (by decide)) (q 5010 (by decide)) (q 5012 (by decide))]; exact h.2.1.2.2.2.2.1
theorem RR_gf {σ υ : Mem} (h : RR σ) (hF : GF (th0 σ) υ) : RR υ := by
  have q : ∀ b, b ≠ 5000 → υ b = σ b := fun b hb => by rw [hF.1 b hb, th_o σ hb]
  have k : ∀ x, x = 6 ∨ x = 7 ∨ x = 28 ∨ x = 29 ∨ x = 30 ∨ x = 34 ∨ x = 38 ∨ x = 39 ∨ x = 48 ∨ x = 53 ∨ x = 56 → υ 5000 x = σ 5000 x := fun x hx => by rw [hF.2 x (by omega) (by omega) (by omega), th_k σ (by omega)]
  refine RR_rd h (fun b _ _ _ _ _ _ h0 _ _ _ _ _ _ => q b h0) (by rw [q 1 (by decide)]) k (by rw [q 5 (by decide)]; exact h.2.1.1) (by rw [q 4 (by decide)]; exact h.2.1.2.1) ?_ (seaR_c (by rw [q 13 (by decide)]) (q 14 (by decide)) (q 15 (by decide)) (k 34 (by decide)) (q 5013 (by decide)) (q 5014 (by decide)) h.2.2.2.1)
  rw [vof_c (q 5006 (by decide)) (q 5008 (by decide)) (q 5010 (by decide)) (q 5012 (by decide))]; exact h.2.1.2.2.2.2.1
/-- the class has read a SEASON behind those that it keeps -/
theorem RR_sp {σ τ : Mem} (h : RR σ) (o : ∀ b, b ≠ 1 → b ≠ 14 → b ≠ 15 → τ b = σ b) (r1 : ∀ x, x ≠ 2 → τ 1 x = σ 1 x) (r14 : ∀ j, j < σ 13 3 * 48 → τ 14 j = σ 14 j) (r15 : ∀ j, j < σ 13 3 → τ 15 j = σ 15 j) : RR τ := by
  have q : ∀ b, 15 < b → τ b = σ b := fun b hb => o b (by omega) (by omega) (by omega)
  refine RR_rd h (fun b h1 _ _ _ h14 h15 _ _ _ _ _ _ _ => o b h1 h14 h15) (r1 1 (by decide)) (fun x _ => by rw [q 5000 (by decide)]) (by rw [o 5 (by decide) (by decide) (by decide)]; exact h.2.1.1) (by rw [o 4 (by decide) (by decide) (by decide)]; exact h.2.1.2.1) ?_ ?_
  · rw [vof_c (q 5006 (by decide)) (q 5008 (by decide)) (q 5010 (by decide)) (q 5012 (by decide))]; exact h.2.1.2.2.2.2.1
  · obtain ⟨⟨a1, a2⟩, b, c, d⟩ := h.2.2.2.1
    have e13 : τ 13 = σ 13 := o 13 (by decide) (by decide) (by decide)
    refine ⟨⟨by rw [e13]; exact a1, fun s s0 s1 => ?_⟩, ?_, by rw [e13, q 5000 (by decide)]; exact c, fun s s0 s1 => ?_⟩
    · rw [e13] at s1
      rw [r15 s s1]; exact a2 s s0 s1
    · unfold seOk; rw [q 5000 (by decide), q 5013 (by decide), q 5014 (by decide)]; exact b
    · rw [e13] at s1
      rw [r15 s s1, q 5014 (by decide), q 5013 (by decide)]
      refine ⟨(d s s0 s1).1, fun j j0 j1 => ?_⟩
      have := a2 s s0 s1
      rw [r14 _ (by omega)]; exact (d s s0 s1).2 j j0 j1
theorem seOk_S {σ υ : Mem} (k34 : υ 5000 34 = σ 5000 34) (h13 : ∀ j, j < 192 → υ 5013 j = σ 5013 j) (h14 : ∀ j, j ≠ 4 → υ 5014 j = σ 5014 j) (h : seOk σ) : seOk υ := by
  have b := h.1
  refine ⟨by rw [k34]; exact h.1, fun k k0 k1 => ?_, ?_⟩
  · rw [k34] at k1
    rw [h14 k (by omega)]; exact h.2.1 k k0 k1
  · first
      | (intro j j0 j1; rw [h13 j (by omega)]; exact h.2.2 j j0 j1)
      | (intro k j k0 k1 j0 j1
         rw [k34] at k1
         have := h.2.1 k k0 k1
         rw [h14 k (by omega)] at j1
         rw [h13 _ (by omega)]
         exact h.2.2 k j k0 k1 j0 j1)
theorem RR_sef {σ υ : Mem} (h : RR σ) (hF : SEF (th0 σ) υ) : RR υ := by
  obtain ⟨f1, f2, f3, f4⟩ := hF
  have q : ∀ b, b ≠ 5000 → b ≠ 5013 → b ≠ 5014 → υ b = σ b := fun b h1 h2 h3 => by rw [f1 b h1 h2 h3, th_o σ h1]
  have r : ∀ b, b < 5000 → υ b = σ b := fun b hb => q b (by omega) (by omega) (by omega)
  have k : ∀ x, x = 6 ∨ x = 7 ∨ x = 28 ∨ x = 29 ∨ x = 30 ∨ x = 34 ∨ x = 38 ∨ x = 39 ∨ x = 48 ∨ x = 53 ∨ x = 56 → υ 5000 x = σ 5000 x := fun x hx => by rw [f4 x (by omega) (by omega), th_k σ (by omega)]
  have g13 : ∀ j, j < 192 → υ 5013 j = σ 5013 j := fun j hj => by rw [f2 j hj, th_o σ (by decide)]
  have g14 : ∀ j, j ≠ 4 → υ 5014 j = σ 5014 j := fun j hj => by rw [f3 j hj, th_o σ (by decide)]
  refine RR_rd h (fun b _ _ _ _ _ _ h0 _ _ _ _ h13 h14 => q b h0 h13 h14) (by rw [r 1 (by decide)]) k (by rw [r 5 (by decide)]; exact h.2.1.1) (by rw [r 4 (by decide)]; exact h.2.1.2.1) ?_ ?_
  · rw [vof_c (q 5006 (by decide) (by decide) (by decide)) (q 5008 (by decide) (by decide) (by decide)) (q 5010 (by decide) (by decide) (by decide)) (q 5012 (by decide) (by decide) (by decide))]; exact h.2.1.2.2.2.2.1
  · obtain ⟨⟨a1, a2⟩, b, c, d⟩ := h.2.2.2.1
    have b34 := b.1
    refine ⟨⟨by rw [r 13 (by decide)]; exact a1, by rw [r 13 (by decide), r 15 (by decide)]; exact a2⟩, seOk_S (k 34 (by decide)) g13 g14 b, by rw [r 13 (by decide), k 34 (by decide)]; exact c, fun s s0 s1 => ?_⟩
    rw [r 13 (by decide)] at s1
    rw [r 15 (by decide), r 14 (by decide), g14 s (by omega)]
    refine ⟨(d s s0 s1).1, fun j j0 j1 => ?_⟩
    have := a2 s s0 s1
    rw [g13 _ (by omega)]; exact (d s s0 s1).2 j j0 j1
theorem sRd_eq {σ m : Mem} (ht : txt m 5001 0 (m 5000 6) = tsg σ) (hn : m 5000 6 = σ 1 1) : sRd m = seF σ := by
  unfold sRd seF; rw [ht, hn]
theorem sp_r {σ : Mem} {p c : Int} {v : Int → Int} : (∀ b, b ≠ 1 → b ≠ 14 → setP (up σ 1 2 p) c v b = σ b) ∧ (∀ x, x ≠ 2 → setP (up σ 1 2 p) c v 1 x = σ 1 x) ∧ ∀ j, j < c * 48 → setP (up σ 1 2 p) c v 14 j = σ 14 j := by
  refine ⟨fun b h1 h14 => by rw [setP_o _ _ h14, up_na _ h1], fun x hx => by rw [setP_o _ _ (by decide), up_nj _ hx], fun j hj => ?_⟩
  unfold setP
  rw [if_neg (by omega), up_na _ (by decide)]
theorem sim_fault {σ : Mem} (h : RR σ) {s : Int} (hs : InR s) : w_X11_fault [(27, 0), (0, s)] σ (fun r τ => w_X12_fault [(28, 5000), (0, s)] τ (sQ r)) := by
  have hth := RR_th h
  obtain ⟨x1, x2, x3, x4, x5⟩ := RR_tx h
  rw [w_X11_fault_e]
  refine ⟨hs, fun q => ?_, fun q => ?_, fun q => ?_, fun q => ?_⟩
  · rw [w_X12_fault_e]
    exact ⟨hs, x1, x2, x3, fun _ => ⟨rfl, hth⟩, fun z => absurd q (by omega), fun z => absurd q (by omega), fun z => absurd q (by omega)⟩
  · rw [w_X6_read_e]
    obtain ⟨c1, c2, c3, c4⟩ := hoF_b h
    refine ⟨rfl, Or.inl rfl, (RR_plan h).2, h.1.1, ?_⟩
    have hτ := RR_hst h c1 c2 (hoF σ).2.1
    obtain ⟨o, r4, r5, r1⟩ := hst_r (σ := σ) (c := (hoF σ).2.2.1) (v := (hoF σ).2.2.2) (p := (hoF σ).2.1)
    show w_X12_fault [(28, 5000), (0, s)] (hst σ 3 (hoF σ).2.2.1 (hoF σ).2.2.2 (hoF σ).2.1) (sQ (0, (hoF σ).1))
    generalize hst σ 3 (hoF σ).2.2.1 (hoF σ).2.2.2 (hoF σ).2.1 = τ at *
    obtain ⟨y1, y2, y3, y4, y5⟩ := RR_tx hτ
    have et : tsg τ = tsg σ := tsg_cong (r1 1 (by decide)) (o 2 (by decide) (by decide) (by decide))
    have E := hRd_eq (σ := σ) (m := th0 τ) (by rw [y4, et]) (by rw [y5]; exact r1 1 (by decide))
    rw [w_X12_fault_e]
    exact ⟨hs, y1, y2, y3, fun z => absurd z (by omega), fun _ υ hF hv _ => ⟨by rw [E.1], RR_hrf hτ hF hv⟩, fun z => absurd q (by omega), fun z => absurd q (by omega)⟩
  · rw [w_X3_read_e]
    refine ⟨h.1.1, fun τ p hX hg => ?_, fun τ p K hX hg _ _ _ => ?_⟩
    · have hτ := RR_rdx h hX
      obtain ⟨y1, y2, y3, y4, y5⟩ := RR_tx hτ
      have et : tsg τ = tsg σ := tsg_cong (hX.2.1 1 (by decide)) (hX.1 2 (by decide) (by decide) (by decide) (by decide))
      have e1 : τ 1 1 = σ 1 1 := hX.2.1 1 (by decide)
      rw [w_X12_fault_e]
      refine ⟨hs, y1, y2, y3, fun z => absurd z (by omega), fun z => absurd q (by omega), fun _ => ⟨fun υ f g _ _ hF => ?_, fun υ K g _ => ?_⟩, fun z => absurd q (by omega)⟩
      · rw [y4, y5, et, e1, hg] at g
        injection g with g
        exact ⟨by rw [g], RR_gf hτ hF⟩
      · rw [y4, y5, et, e1, hg] at g
        cases g
    · have hτ := RR_rdx h hX
      obtain ⟨y1, y2, y3, y4, y5⟩ := RR_tx hτ
      have et : tsg τ = tsg σ := tsg_cong (hX.2.1 1 (by decide)) (hX.1 2 (by decide) (by decide) (by decide) (by decide))
      have e1 : τ 1 1 = σ 1 1 := hX.2.1 1 (by decide)
      rw [w_X12_fault_e]
      refine ⟨hs, y1, y2, y3, fun z => absurd z (by omega), fun z => absurd q (by omega), fun _ => ⟨fun υ f g _ _ _ => ?_, fun υ K' g hF => ⟨rfl, RR_gf hτ hF⟩⟩, fun z => absurd q (by omega)⟩
      rw [y4, y5, et, e1, hg] at g
      cases g
  · rw [w_X7_read_e]
    have sea := h.2.2.2.1.1
    refine ⟨h.1.1, sea.1.1, sea.1.2, fun p v _ => ?_⟩
    obtain ⟨o, r1, r14⟩ := sp_r (σ := σ) (p := p) (c := σ 13 3) (v := v)
    have hτ : RR (if (seF σ).1 = -1 then up (setP (up σ 1 2 p) (σ 13 3) v) 15 (σ 13 3) (seF σ).2.1 else setP (up σ 1 2 p) (σ 13 3) v) ∧ (if (seF σ).1 = -1 then up (setP (up σ 1 2 p) (σ 13 3) v) 15 (σ 13 3) (seF σ).2.1 else setP (up σ 1 2 p) (σ 13 3) v) 1 1 = σ 1 1 ∧ (if (seF σ).1 = -1 then up (setP (up σ 1 2 p) (σ 13 3) v) 15 (σ 13 3) (seF σ).2.1 else setP (up σ 1 2 p) (σ 13 3) v) 2 = σ 2 := by
      by_cases y : (seF σ).1 = -1
      · rw [if_pos y]
        refine ⟨RR_sp h (fun b h1 h14 h15 => by rw [up_na _ h15]; exact o b h1 h14) (fun x hx => by rw [up_na _ (by decide)]; exact r1 x hx) (fun j hj => by rw [up_na _ (by decide)]; exact r14 j hj) (fun j hj => by rw [up_nj _ (by omega), o 15 (by decide) (by decide)]), ?_, ?_⟩
        · rw [up_na _ (by decide)]; exact r1 1 (by decide)
        · rw [up_na _ (by decide)]; exact o 2 (by decide) (by decide)
      · rw [if_neg y]
        exact ⟨RR_sp h (fun b h1 h14 _ => o b h1 h14) r1 r14 (fun j hj => by rw [o 15 (by decide) (by decide)]), r1 1 (by decide), o 2 (by decide) (by decide)⟩
    show w_X12_fault [(28, 5000), (0, s)] (if (seF σ).1 = -1 then up (setP (up σ 1 2 p) (σ 13 3) v) 15 (σ 13 3) (seF σ).2.1 else setP (up σ 1 2 p) (σ 13 3) v) (sQ (0, (seF σ).1))
    generalize (if (seF σ).1 = -1 then up (setP (up σ 1 2 p) (σ 13 3) v) 15 (σ 13 3) (seF σ).2.1 else setP (up σ 1 2 p) (σ 13 3) v) = τ at *
    obtain ⟨hτ, e1, e2⟩ := hτ
    obtain ⟨y1, y2, y3, y4, y5⟩ := RR_tx hτ
    have et : tsg τ = tsg σ := tsg_cong e1 e2
    have E := sRd_eq (σ := σ) (m := th0 τ) (by rw [y4, et]) (by rw [y5]; exact e1)
    rw [w_X12_fault_e]
    exact ⟨hs, y1, y2, y3, fun z => absurd z (by omega), fun z => absurd q (by omega), fun z => absurd q (by omega), fun _ υ hF _ => ⟨by rw [E], RR_sef hτ hF⟩⟩
