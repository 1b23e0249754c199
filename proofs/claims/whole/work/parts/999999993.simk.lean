/-! a HOUSE taken on both sides -/
theorem hCls_M {t : Int → Int} {n : Int} : ∀ (f : Nat) (p : Int) (c v : Int → Int), (∀ k, 0 ≤ k → k < 4 → 0 ≤ c k ∧ c k ≤ mostK k) → ∀ k, 0 ≤ k → k < 4 → 0 ≤ (hCls t n f p c v).2.2.1 k ∧ (hCls t n f p c v).2.2.1 k ≤ mostK k := by
  intro f
  induction f with
  | zero => intro p c v hc; unfold hCls; exact hc
  | succ f ih =>
    intro p c v hc
    unfold hCls
    have kb : hK t n p < 4 := (kindF_b (t (sk t n p))).2
    by_cases m : 0 ≤ hK t n p ∧ c (hK t n p) < mostK (hK t n p)
    · rw [if_pos m]
      have ck := hc _ m.1 kb
      have hc' : ∀ k, 0 ≤ k → k < 4 → 0 ≤ upf c (hK t n p) (c (hK t n p) + 1) k ∧ upf c (hK t n p) (c (hK t n p) + 1) k ≤ mostK k := fun k k0 k1 => by
        unfold upf
        by_cases e : k = hK t n p
        · rw [if_pos e, e]; omega
        · rw [if_neg e]; exact hc k k0 k1
      split
      · exact hc'
      · split
        · exact hc'
        · exact ih _ _ _ hc'
    · rw [if_neg m]; exact hc
theorem hoF_M (σ : Mem) : ∀ k, 0 ≤ k → k < 4 → 0 ≤ (hoF σ).2.2.1 k ∧ (hoF σ).2.2.1 k ≤ mostK k := hCls_M 241 0 _ _ (fun k k0 k1 => by
  rw [fillm_in σ 5 4 0 k0 k1]
  refine ⟨by decide, ?_⟩
  unfold mostK; (repeat' split) <;> omega)
theorem hTick_at {v : Int → Int} {m : Int} : ∀ {n : Nat}, hTick v m n → ∀ c : Int, 0 ≤ c → c < n → v ((5 + c) * 4 + 1) < m := by
  intro n
  induction n with
  | zero => intro _ c c0 c1; omega
  | succ n ih =>
    intro h c c0 c1
    by_cases e : c = n
    · rw [e]; exact h.2
    · exact ih h.1 c c0 (by omega)
theorem hoC_r (σ : Mem) : (∀ b, b ≠ 1 → b ≠ 4 → b ≠ 5 → b ≠ 7 → b ≠ 8 → hoC σ b = σ b) ∧ hoC σ 4 = (hoF σ).2.2.2 ∧ hoC σ 5 = (hoF σ).2.2.1 ∧ (∀ j, 0 ≤ j → j < 68 → hoC σ 7 j = (hoF σ).2.2.2 j) ∧ (∀ k, 0 ≤ k → k < 4 → hoC σ 8 k = (hoF σ).2.2.1 k) ∧ hoC σ 1 1 = σ 1 1 := by
  obtain ⟨o, r4, r5, r1⟩ := hst_r (σ := σ) (c := (hoF σ).2.2.1) (v := (hoF σ).2.2.2) (p := (hoF σ).2.1)
  unfold hoC hoM
  generalize hst σ 3 (hoF σ).2.2.1 (hoF σ).2.2.2 (hoF σ).2.1 = τ at *
  refine ⟨fun b h1 h4 h5 h7 h8 => by rw [cpy_oo _ _ _ _ _ _ h8, cpy_oo _ _ _ _ _ _ h7]; exact o b h1 h4 h5, by rw [cpy_oo _ _ _ _ _ _ (by decide), cpy_oo _ _ _ _ _ _ (by decide)]; exact r4, by rw [cpy_oo _ _ _ _ _ _ (by decide), cpy_oo _ _ _ _ _ _ (by decide)]; exact r5, fun j j0 j1 => ?_, fun k k0 k1 => ?_, by rw [cpy_oo _ _ _ _ _ _ (by decide), cpy_oo _ _ _ _ _ _ (by decide)]; exact r1 1 (by decide)⟩
  · rw [cpy_oo _ _ _ _ _ _ (by decide), cpy_in _ _ _ _ _ _ ⟨j0, by omega⟩, r4, show (0 : Int) + (j - 0) = j by omega]
  · rw [cpy_in _ _ _ _ _ _ ⟨k0, by omega⟩, cpy_oo _ _ _ _ _ _ (by decide), r5, show (0 : Int) + (k - 0) = k by omega]
theorem hoE_r (σ : Mem) : (∀ b, b ≠ 1 → b ≠ 4 → b ≠ 5 → b ≠ 7 → b ≠ 8 → ¬ (16 ≤ b ∧ b ≤ 20) → b ≠ 31 → b ≠ 41 → hoE σ b = σ b) ∧ hoE σ 4 = (hoF σ).2.2.2 ∧ hoE σ 5 = (hoF σ).2.2.1 ∧ (∀ j, 0 ≤ j → j < 68 → hoE σ 7 j = (hoF σ).2.2.2 j) ∧ (∀ k, 0 ≤ k → k < 4 → hoE σ 8 k = (hoF σ).2.2.1 k) ∧ (hoE σ 31 1 = 0 ∧ hoE σ 31 3 = 0 ∧ hoE σ 31 8 = 0 ∧ hoE σ 31 4 = σ 31 4) ∧ hoE σ 41 4 = 0 ∧ hoE σ 1 1 = 0 ∧ ∀ k, 0 ≤ k → k < 27 → aud (hoE σ) 16 k = entF (hoC σ) k := by
  obtain ⟨o, r4, r5, r7, r8, r1⟩ := hoC_r σ
  have s : ∀ b, b < 16 ∨ 20 < b → setAud (hoC σ) 16 (entF (hoC σ)) b = hoC σ b := fun b hb => setAud_o _ _ (by omega)
  have g : ∀ b, b ≠ 1 → b ≠ 31 → b ≠ 41 → hoE σ b = setAud (hoC σ) 16 (entF (hoC σ)) b := fun b h1 h2 h3 => by
    unfold hoE; rw [up_na _ h1, up_na _ h3, up_na _ h2, up_na _ h2, up_na _ h2]
  have g31 : ∀ x, hoE σ 31 x = up (up (up (setAud (hoC σ) 16 (entF (hoC σ))) 31 1 0) 31 3 0) 31 8 0 31 x := fun x => by unfold hoE; rw [up_na _ (by decide), up_na _ (by decide)]
  refine ⟨fun b h1 h4 h5 h7 h8 h16 h31 h41 => by rw [g b h1 h31 h41, s b (by omega)]; exact o b h1 h4 h5 h7 h8, by rw [g 4 (by decide) (by decide) (by decide), s 4 (by decide)]; exact r4, by rw [g 5 (by decide) (by decide) (by decide), s 5 (by decide)]; exact r5, fun j j0 j1 => by rw [g 7 (by decide) (by decide) (by decide), s 7 (by decide)]; exact r7 j j0 j1, fun k k0 k1 => by rw [g 8 (by decide) (by decide) (by decide), s 8 (by decide)]; exact r8 k k0 k1, ⟨?_, ?_, ?_, ?_⟩, by unfold hoE; rw [up_na _ (by decide), up_s], by unfold hoE; rw [up_s], fun k k0 k1 => ?_⟩
  · rw [g31, up_nj _ (by decide), up_nj _ (by decide), up_s]
  · rw [g31, up_nj _ (by decide), up_s]
  · rw [g31, up_s]
  · rw [g31, up_nj _ (by decide), up_nj _ (by decide), up_nj _ (by decide), s 31 (by decide), o 31 (by decide) (by decide) (by decide) (by decide) (by decide)]
  · rw [aud_c (σ := setAud (hoC σ) 16 (entF (hoC σ))) (fun j _ _ => by rw [g 16 (by decide) (by decide) (by decide)]) (fun b b0 b1 => g b (by omega) (by omega) (by omega)) k1, aud_set _ _ _ k0 k1]
theorem ent_v {σ : Mem} {c w : Int} (c0 : 0 ≤ c) (c1 : c < 6) (w0 : 0 ≤ w) (w1 : w < 4) : pval (hoC σ) 6 2 c w = (hoF σ).2.2.2 ((5 + c) * 4 + w) := by
  rw [pval_at (by decide) (by decide) c0 (show c < mostK 2 from c1) w0 w1, show firstK 2 = 5 from rfl]
  exact (hoC_r σ).2.2.2.1 _ (by omega) (by omega)
theorem ent_e (σ : Mem) : (∀ c, 0 ≤ c → c < 6 → entF (hoC σ) c = (hoF σ).2.2.2 ((5 + c) * 4) ∧ entF (hoC σ) (c + 6) = (hoF σ).2.2.2 ((5 + c) * 4 + 1) ∧ entF (hoC σ) (c + 12) = (hoF σ).2.2.2 ((5 + c) * 4 + 2) ∧ entF (hoC σ) (c + 18) = 0) ∧ entF (hoC σ) 24 = 0 ∧ entF (hoC σ) 25 = (hoF σ).2.2.2 1 ∧ entF (hoC σ) 26 = 0 := by
  refine ⟨fun c c0 c1 => ⟨?_, ?_, ?_, ?_⟩, ?_, ?_, ?_⟩
  · unfold entF; rw [if_pos c1, ent_v c0 c1 (by decide) (by decide), Int.add_zero]
  · unfold entF; rw [if_neg (by omega), if_pos (by omega), show c + 6 - 6 = c by omega, ent_v c0 c1 (by decide) (by decide)]
  · unfold entF; rw [if_neg (by omega), if_neg (by omega), if_pos (by omega), show c + 12 - 12 = c by omega, ent_v c0 c1 (by decide) (by decide)]
  · unfold entF; rw [if_neg (by omega), if_neg (by omega), if_neg (by omega), if_neg (by omega)]
  · rfl
  · unfold entF
    rw [if_neg (by decide), if_neg (by decide), if_neg (by decide), if_pos rfl, pval_at (by decide) (by decide) (by decide) (show (0 : Int) < mostK 0 by decide) (by decide) (by decide), show (firstK 0 + 0) * 4 + 1 = 1 from rfl]
    exact (hoC_r σ).2.2.2.1 1 (by decide) (by decide)
  · rfl
/-- the reference has taken a HOUSE -/
theorem txH_r {υ : Mem} (n0 : 0 ≤ υ 5000 32) (n6 : υ 5000 32 ≤ 6) : (∀ b, b ≠ 5000 → b ≠ 5005 → b ≠ 5007 → b ≠ 5009 → b ≠ 5011 → b ≠ 5015 → txH υ b = υ b) ∧ (∀ x, x ≠ 6 → x ≠ 28 → x ≠ 29 → x ≠ 30 → x ≠ 48 → x ≠ 53 → x ≠ 56 → txH υ 5000 x = υ 5000 x) ∧ (txH υ 5000 6 = 0 ∧ txH υ 5000 28 = υ 5000 31 ∧ txH υ 5000 29 = υ 5000 32 ∧ txH υ 5000 30 = υ 5000 33 ∧ txH υ 5000 48 = 0 ∧ txH υ 5000 53 = 0 ∧ txH υ 5000 56 = 0) ∧ (∀ j, 0 ≤ j → j < 2 → txH υ 5005 j = υ 5006 j) ∧ (∀ j, 0 ≤ j → j < 16 → txH υ 5007 j = υ 5008 j) ∧ (∀ j, 0 ≤ j → j < 6 → txH υ 5011 j = υ 5012 j) ∧ ∀ j, 0 ≤ j → j < 208 → txH υ 5015 j = if j = 25 then υ 5006 1 else if j < 4 * υ 5000 32 ∧ j % 4 ≠ 3 then υ 5010 (3 * (j / 4) + j % 4) else 0 := by
  have g : ∀ b, b ≠ 5000 → b ≠ 5015 → txH υ b = tx6 υ b := fun b h0 h15 => by unfold txH; rw [up_na _ h0, up_na _ h0, up_na _ h0, up_na _ h15, chN_o _ _ h15]
  have k : ∀ x, x ≠ 48 → x ≠ 53 → x ≠ 56 → txH υ 5000 x = tx1 υ 5000 x := fun x h1 h2 h3 => by unfold txH; rw [up_nj _ h3, up_nj _ h1, up_nj _ h2, up_na _ (by decide), chN_o _ _ (by decide), tx6_o υ (by decide)]
  have t5 : ∀ j, 0 ≤ j → j < 2 → tx6 υ 5005 j = υ 5006 j := fun j j0 j1 => by
    unfold tx6 tx5 tx4 tx3 tx2
    rw [fillm_o _ (by decide), cpy_oo _ _ _ _ _ _ (by decide), cpy_oo _ _ _ _ _ _ (by decide), cpy_oo _ _ _ _ _ _ (by decide), cpy_in _ _ _ _ _ _ ⟨j0, by omega⟩, tx1_o υ (by decide)]; congr 1; omega
  have t7 : ∀ j, 0 ≤ j → j < 16 → tx6 υ 5007 j = υ 5008 j := fun j j0 j1 => by
    unfold tx6 tx5 tx4 tx3 tx2
    rw [fillm_o _ (by decide), cpy_oo _ _ _ _ _ _ (by decide), cpy_oo _ _ _ _ _ _ (by decide), cpy_in _ _ _ _ _ _ ⟨j0, by omega⟩, cpy_oo _ _ _ _ _ _ (by decide), tx1_o υ (by decide)]; congr 1; omega
  have t9 : ∀ j, 0 ≤ j → j < 18 → tx6 υ 5009 j = υ 5010 j := fun j j0 j1 => by
    unfold tx6 tx5 tx4 tx3 tx2
    rw [fillm_o _ (by decide), cpy_oo _ _ _ _ _ _ (by decide), cpy_in _ _ _ _ _ _ ⟨j0, by omega⟩, cpy_oo _ _ _ _ _ _ (by decide), cpy_oo _ _ _ _ _ _ (by decide), tx1_o υ (by decide)]; congr 1; omega
  have t11 : ∀ j, 0 ≤ j → j < 6 → tx6 υ 5011 j = υ 5012 j := fun j j0 j1 => by
    unfold tx6 tx5 tx4 tx3 tx2
    rw [fillm_o _ (by decide), cpy_in _ _ _ _ _ _ ⟨j0, by omega⟩, cpy_oo _ _ _ _ _ _ (by decide), cpy_oo _ _ _ _ _ _ (by decide), cpy_oo _ _ _ _ _ _ (by decide), tx1_o υ (by decide)]; congr 1; omega
  refine ⟨fun b h0 h5 h7 h9 h11 h15 => ?_, fun x h6 h28 h29 h30 h48 h53 h56 => ?_, ⟨?_, ?_, ?_, ?_, ?_, ?_, ?_⟩, fun j j0 j1 => by rw [g 5005 (by decide) (by decide)]; exact t5 j j0 j1, fun j j0 j1 => by rw [g 5007 (by decide) (by decide)]; exact t7 j j0 j1, fun j j0 j1 => by rw [g 5011 (by decide) (by decide)]; exact t11 j j0 j1, fun j j0 j1 => ?_⟩
  · rw [g b h0 h15]
    unfold tx6 tx5 tx4 tx3 tx2
    rw [fillm_o _ h15, cpy_oo _ _ _ _ _ _ h11, cpy_oo _ _ _ _ _ _ h9, cpy_oo _ _ _ _ _ _ h7, cpy_oo _ _ _ _ _ _ h5, tx1_o υ h0]
  · rw [k x h48 h53 h56]; unfold tx1; rw [up_nj _ h30, up_nj _ h29, up_nj _ h28, up_nj _ h6]
  · rw [k 6 (by decide) (by decide) (by decide)]; unfold tx1; rw [up_nj _ (by decide), up_nj _ (by decide), up_nj _ (by decide), up_s]
  · rw [k 28 (by decide) (by decide) (by decide)]; unfold tx1; rw [up_nj _ (by decide), up_nj _ (by decide), up_s]
  · rw [k 29 (by decide) (by decide) (by decide)]; exact tx1_29 υ
  · rw [k 30 (by decide) (by decide) (by decide)]; unfold tx1; rw [up_s]
  · unfold txH; rw [up_nj _ (by decide), up_s]
  · unfold txH; rw [up_nj _ (by decide), up_nj _ (by decide), up_s]
  · unfold txH; rw [up_s]
  · unfold txH
    rw [up_na _ (by decide), up_na _ (by decide), up_na _ (by decide)]
    by_cases e : j = 25
    · rw [if_pos e, e, up_s]
    · rw [if_neg e, up_nj _ e]
      unfold chN
      by_cases q : j < 4 * υ 5000 32 ∧ j % 4 ≠ 3
      · rw [if_pos q, if_pos ⟨rfl, j0, q.1, q.2⟩, t9 _ (by omega) (by omega)]
      · rw [if_neg q, if_neg (fun z => q ⟨z.2.2.1, z.2.2.2⟩)]
        unfold tx6
        rw [fillm_in _ _ _ _ j0 j1]
