/-! RR behind a HOUSE taken -/
theorem slo_6 {j : Int} (j0 : 0 ≤ j) (j1 : j < 2) : slo 5006 j = j := by unfold slo; rw [if_pos ⟨rfl, j0, j1⟩]
theorem slo_8 {j : Int} (j0 : 0 ≤ j) (j1 : j < 16) : slo 5008 j = 4 + j := by unfold slo; rw [if_neg (by omega), if_pos ⟨rfl, j0, j1⟩]
theorem slo_10 {j : Int} (j0 : 0 ≤ j) (j1 : j < 18) : slo 5010 j = (5 + j / 3) * 4 + j % 3 := by unfold slo; rw [if_neg (by omega), if_neg (by omega), if_pos ⟨rfl, j0, j1⟩]
theorem slo_12 {j : Int} (j0 : 0 ≤ j) (j1 : j < 6) : slo 5012 j = (11 + j) * 4 := by unfold slo; rw [if_neg (by omega), if_neg (by omega), if_neg (by omega), if_pos ⟨rfl, j0, j1⟩]
theorem sav_9 {k : Int} (k0 : 0 ≤ k) (k1 : k < 4) : sav 21001 (4 + k) ≤ 9 := by
  have : k = 0 ∨ k = 1 ∨ k = 2 ∨ k = 3 := by omega
  rcases this with rfl | rfl | rfl | rfl <;> decide
theorem RR_house {σ υ : Mem} (h : RR σ) (z : (hoF σ).1 = -1) (hF : HRF (th0 (hoE σ)) υ) (hv : rowB (vof υ)) (ok : hRok (hRd (th0 (hoE σ))) υ) : υ 5000 32 = pcnt (hoE σ) 6 2 ∧ RR (txH υ) := by
  have nn := RR_n h
  obtain ⟨o, r4, r5, r7, r8, ⟨r31, r33, r38, r34⟩, r41, r11, ra⟩ := hoE_r σ
  obtain ⟨c1, c2, c3, c4⟩ := hoF_b h
  have W := c4 z
  have M := hoF_M σ
  obtain ⟨ent, en4, en5, en6⟩ := ent_e σ
  have q5 : ∀ b, 5000 ≤ b → hoE σ b = σ b := fun b hb' => o b (by omega) (by omega) (by omega) (by omega) (by omega) (by omega) (by omega) (by omega)
  have e6 : th0 (hoE σ) 5000 6 = σ 1 1 := by rw [th_k _ (by decide), q5 5000 (by decide)]; exact h.1.2.1
  have E := hRd_eq (σ := σ) (m := th0 (hoE σ)) (tx_eq h.1 (by rw [th_o _ (by decide), q5 5001 (by decide)]) e6) e6
  have A := E.2.2 z
  have EC := E.2.1
  have pc : pcnt (hoE σ) 6 2 = (hoF σ).2.2.1 2 := by unfold pcnt; rw [if_pos (by decide)]; exact r8 2 (by decide) (by decide)
  generalize hR : hRd (th0 (hoE σ)) = R at *
  generalize hC : (hoF σ).2.2.1 = C at *
  generalize hV : (hoF σ).2.2.2 = V at *
  have m1 : mostK 1 = 4 := rfl
  have m2 : mostK 2 = 6 := rfl
  have m3 : mostK 3 = 6 := rfl
  have M1 := M 1 (by decide) (by decide)
  have M2 := M 2 (by decide) (by decide)
  have M3 := M 3 (by decide) (by decide)
  have u31 : υ 5000 31 = C 1 := by rw [← EC 1 (by decide) (by decide)]; exact ok.1 1 (by decide) (by decide)
  have u32 : υ 5000 32 = C 2 := by rw [← EC 2 (by decide) (by decide)]; exact ok.1 2 (by decide) (by decide)
  have u33 : υ 5000 33 = C 3 := by rw [← EC 3 (by decide) (by decide)]; exact ok.1 3 (by decide) (by decide)
  obtain ⟨w1, w2, w3, wt⟩ := W
  have tick := hTick_at wt
  refine ⟨by rw [u32, pc], ?_⟩
  obtain ⟨t0, tk, ⟨k6, k28, k29, k30, k48, k53, k56⟩, t5, t7, t11, t15⟩ := txH_r (υ := υ) (by omega) (by omega)
  generalize hμ : txH υ = μ at *
  have ml : ∀ b, b < 5000 → μ b = hoE σ b := fun b hb' => by rw [t0 b (by omega) (by omega) (by omega) (by omega) (by omega) (by omega), hF.1 b (by omega) (by omega) (by omega) (by omega) (by omega), th_o _ (by omega)]
  have ms : ∀ b, b < 5000 → b ≠ 1 → b ≠ 4 → b ≠ 5 → b ≠ 7 → b ≠ 8 → ¬ (16 ≤ b ∧ b ≤ 20) → b ≠ 31 → b ≠ 41 → μ b = σ b := fun b hb' a1 a2 a3 a4 a5 a6 a7 a8 => by rw [ml b hb']; exact o b a1 a2 a3 a4 a5 a6 a7 a8
  have mq : ∀ b, b = -2 ∨ b = 0 ∨ b = 2 ∨ (8 < b ∧ b < 16) ∨ (20 < b ∧ b < 31) ∨ (31 < b ∧ b < 41) ∨ (41 < b ∧ b < 5000) → μ b = σ b := fun b hb' => ms b (by omega) (by omega) (by omega) (by omega) (by omega) (by omega) (by omega) (by omega) (by omega)
  have mr : ∀ b, (5000 < b ∧ b < 5005) ∨ (5012 < b ∧ b < 5015) ∨ 5015 < b → μ b = σ b := fun b hb' => by rw [t0 b (by omega) (by omega) (by omega) (by omega) (by omega) (by omega), hF.1 b (by omega) (by omega) (by omega) (by omega) (by omega), th_o _ (by omega), q5 b (by omega)]
  have mk : ∀ x, x = 7 ∨ x = 34 ∨ x = 38 ∨ x = 39 → μ 5000 x = σ 5000 x := fun x hx => by rw [tk x (by omega) (by omega) (by omega) (by omega) (by omega) (by omega) (by omega), hF.2 x (by omega) (by omega) (by omega) (by omega), th_k _ (by omega), q5 5000 (by decide)]
  have V5 : ∀ s, 0 ≤ s → s < 2 → μ 5005 s = V s := fun s s0 s1 => by rw [t5 s s0 s1, ok.2 5006 s (by rw [slo_6 s0 s1]; exact s0), slo_6 s0 s1]; exact A.1 s s0 (by omega)
  have V7 : ∀ p k, 0 ≤ p → p < C 1 → 0 ≤ k → k < 4 → μ 5007 (4 * p + k) = V ((1 + p) * 4 + k) := fun p k p0 p1 k0 k1 => by
    have := A.2 1 p (by decide) (by decide) p0 p1 k k0 k1
    rw [show firstK 1 = 1 from rfl] at this
    rw [t7 _ (by omega) (by omega), ok.2 5008 _ (by rw [slo_8 (by omega) (by omega)]; omega), slo_8 (by omega) (by omega), show 4 + (4 * p + k) = (1 + p) * 4 + k by omega]; exact this
  have V11 : ∀ t, 0 ≤ t → t < C 3 → μ 5011 t = V ((11 + t) * 4) := fun t t0' t1' => by
    have := A.2 3 t (by decide) (by decide) t0' t1' 0 (by decide) (by decide)
    rw [show firstK 3 = 11 from rfl, Int.add_zero] at this
    rw [t11 _ t0' (by omega), ok.2 5012 _ (by rw [slo_12 t0' (by omega)]; omega), slo_12 t0' (by omega)]; exact this
  have V15 : ∀ c w, 0 ≤ c → c < C 2 → 0 ≤ w → w < 3 → μ 5015 (4 * c + w) = V ((5 + c) * 4 + w) := fun c w c0 c1' w0 w1' => by
    have := A.2 2 c (by decide) (by decide) c0 c1' w w0 (by omega)
    rw [show firstK 2 = 5 from rfl] at this
    rw [t15 _ (by omega) (by omega), if_neg (by omega), if_pos ⟨by omega, by omega⟩, show 3 * ((4 * c + w) / 4) + (4 * c + w) % 4 = 3 * c + w by omega, ok.2 5010 _ (by rw [slo_10 (by omega) (by omega)]; omega), slo_10 (by omega) (by omega), show (5 + (3 * c + w) / 3) * 4 + (3 * c + w) % 3 = (5 + c) * 4 + w by omega]; exact this
  have z15 : ∀ j, 0 ≤ j → j < 208 → j ≠ 25 → (4 * C 2 ≤ j ∨ j % 4 = 3) → μ 5015 j = 0 := fun j j0 j1 e25 e => by rw [t15 j j0 j1, if_neg e25, if_neg (by omega)]
  have b25 : μ 5015 25 = V 1 := by rw [t15 25 (by decide) (by decide), if_pos rfl, ← t5 1 (by decide) (by decide)]; exact V5 1 (by decide) (by decide)
  have bS : ∀ k i w, 0 ≤ k → k < 4 → 0 ≤ i → i < mostK k → 0 ≤ w → w < 4 → 0 ≤ V ((firstK k + i) * 4 + w) ∧ V ((firstK k + i) * 4 + w) ≤ sav 21001 (k * 4 + w) := c2
  have s1 : sav 21001 1 = 30 := by decide
  have s8 : sav 21001 8 = 9 := by decide
  have s9 : sav 21001 9 = 5 := by decide
  have s10 : sav 21001 10 = 99 := by decide
  have ch : ∀ i, 0 ≤ i → i < 6 → (0 ≤ V ((5 + i) * 4) ∧ V ((5 + i) * 4) ≤ 9) ∧ (0 ≤ V ((5 + i) * 4 + 1) ∧ V ((5 + i) * 4 + 1) ≤ 5) ∧ 0 ≤ V ((5 + i) * 4 + 2) ∧ V ((5 + i) * 4 + 2) ≤ 99 := fun i i0 i1 => by
    have a0 := bS 2 i 0 (by decide) (by decide) i0 (by omega) (by decide) (by decide)
    have a1 := bS 2 i 1 (by decide) (by decide) i0 (by omega) (by decide) (by decide)
    have a2 := bS 2 i 2 (by decide) (by decide) i0 (by omega) (by decide) (by decide)
    rw [show firstK 2 = 5 from rfl, Int.add_zero, show (2 : Int) * 4 + 0 = 8 from rfl, s8] at a0
    rw [show firstK 2 = 5 from rfl, show (2 : Int) * 4 + 1 = 9 from rfl, s9] at a1
    rw [show firstK 2 = 5 from rfl, show (2 : Int) * 4 + 2 = 10 from rfl, s10] at a2
    exact ⟨a0, a1, a2⟩
  have pr : 0 ≤ V 1 ∧ V 1 ≤ 30 := by
    have a0 := bS 0 0 1 (by decide) (by decide) (by decide) (by decide) (by decide) (by decide)
    rw [show (firstK 0 + 0) * 4 + 1 = 1 from rfl, show (0 : Int) * 4 + 1 = 1 from rfl, s1] at a0
    exact a0
  have v0 : 0 ≤ V 0 ∧ V 0 ≤ 99 := rowS_B c2 0 (by decide) (by decide)
  have au : ∀ k, 0 ≤ k → k < 27 → aud μ 16 k = entF (hoC σ) k := fun k k0 k1 => by
    rw [aud_c (σ := hoE σ) (fun j _ _ => by rw [ml 16 (by decide)]) (fun b _ _ => ml b (by omega)) k1]; exact ra k k0 k1
  have m7 : ∀ j, 0 ≤ j → j < min 16 (4 * μ 5000 28) → 0 ≤ μ 5007 j ∧ μ 5007 j ≤ 9 := fun j j0 j1 => by
    rw [k28, u31] at j1
    have e := V7 (j / 4) (j % 4) (by omega) (by omega) (by omega) (by omega)
    rw [show 4 * (j / 4) + j % 4 = j by omega] at e
    have a0 := bS 1 (j / 4) (j % 4) (by decide) (by decide) (by omega) (by omega) (by omega) (by omega)
    have a1 := sav_9 (k := j % 4) (by omega) (by omega)
    rw [show firstK 1 = 1 from rfl, show (1 : Int) * 4 + j % 4 = 4 + j % 4 by omega] at a0
    rw [e]; omega
  have m11 : ∀ t, 0 ≤ t → t < min 6 (μ 5000 30) → 0 ≤ μ 5011 t ∧ μ 5011 t ≤ 9 := fun t t0' t1' => by
    rw [k30, u33] at t1'
    have e := V11 t t0' (by omega)
    have a0 := bS 3 t 0 (by decide) (by decide) t0' (by omega) (by decide) (by decide)
    rw [show firstK 3 = 11 from rfl, Int.add_zero, show (3 : Int) * 4 + 0 = 12 from rfl, show sav 21001 12 = 9 by decide] at a0
    rw [e]; exact a0
  have m31 : μ 31 = hoE σ 31 := ml 31 (by decide)
  refine ⟨⟨⟨by rw [ml 1 (by decide), r11]; decide, by rw [ml 1 (by decide), r11]; decide, fun i i0 i1 => ?_⟩, by rw [k6, ml 1 (by decide), r11], fun i i0 i1 => ?_⟩, ?_, lawR_c (by rw [mq 0 (by decide)]) (by rw [mq 0 (by decide)]) (by rw [mq 26 (by decide)]) (mq 12 (by decide)) ⟨mk 7 (by decide), mk 38 (by decide)⟩ (mr 5002 (by decide)) (mr 5003 (by decide)) (fun l l0 l1 => mq _ (by omega)) nn.2.2.2.2 h.2.2.1, seaR_c (by rw [mq 13 (by decide)]) (mq 14 (by decide)) (mq 15 (by decide)) (mk 34 (by decide)) (mr 5013 (by decide)) (mr 5014 (by decide)) h.2.2.2.1, ⟨⟨by rw [k53]; decide, fun j j0 j1 => ?_⟩, by rw [ml 41 (by decide), r41, k53], fun j j0 j1 => ?_, fun j j0 j1 => ?_⟩, ⟨?_, ?_⟩, ⟨by rw [m31, r33, k48], by rw [m31, r34]; exact h.2.2.2.2.2.2.1.2.1, by rw [k48]; decide, fun i j i0 ij j1 => ?_, fun j j0 j1 => ?_⟩, Or.inl ⟨by rw [m31, r38], k56⟩, livR_c (mq (-2) (by decide)) (mk 7 (by decide)) h.2.2.2.2.2.2.2.2.1, ⟨mOk_c (mk 7 (by decide)) (fun b hb' => mr b (by omega)) h.2.2.2.2.2.2.2.2.2.1.1, by rw [mq 0 (by decide), mk 39 (by decide)]; exact h.2.2.2.2.2.2.2.2.2.1.2.1, m7, m11, by rw [V5 0 (by decide) (by decide)]; exact v0⟩, ringR_c (mq 32 (by decide)) (mq 35 (by decide)) h.2.2.2.2.2.2.2.2.2.2⟩
  · rw [ml 1 (by decide), r11] at i1; omega
  · rw [ml 1 (by decide), r11] at i1; omega
  · unfold houR
    rw [ml 4 (by decide), ml 5 (by decide), ml 7 (by decide), ml 8 (by decide), r4, r5, k28, k29, k30, u31, u32, u33]
    refine ⟨c1, c2, fun k k0 k1 => by rw [r8 k k0 k1]; exact c1 k k0 k1, fun k i w k0 k1 i0 i1 w0 w1' => ?_, ?_, ⟨r8 1 (by decide) (by decide), r8 2 (by decide) (by decide), r8 3 (by decide) (by decide)⟩, by omega, fun _ => by omega, fun e => absurd e w2, ?_, fun p k p0 p1 k0 k1 => ?_, fun t t0' t1' => ?_⟩
    · have fb := firstK_b k
      rw [r7 _ (by omega) (by omega)]; exact c2 k i w k0 k1 i0 i1 w0 w1'
    · rw [vof_c (t0 5006 (by decide) (by decide) (by decide) (by decide) (by decide) (by decide)) (t0 5008 (by decide) (by decide) (by decide) (by decide) (by decide) (by decide)) (t0 5010 (by decide) (by decide) (by decide) (by decide) (by decide) (by decide)) (t0 5012 (by decide) (by decide) (by decide) (by decide) (by decide) (by decide))]; exact hv
    · rw [r7 0 (by decide) (by decide), V5 0 (by decide) (by decide)]
    · rw [r7 _ (by omega) (by omega), V7 p k p0 p1 k0 k1]
    · rw [r7 _ (by omega) (by omega), V11 t t0' t1']
  · rw [k53] at j1; omega
  · rw [k53] at j1; omega
  · rw [k53] at j1; omega
  · rw [k29, k30, u32, u33]
    refine ⟨fun c c0 c1' => ?_, ?_, ⟨fun c c0 c1' => ?_, ?_, ?_, ?_, ?_⟩, ?_, fun i i0 i1 => ?_⟩
    · have e := ent c c0 (by omega)
      have x0 := V15 c 0 c0 c1' (by decide) (by decide)
      rw [Int.add_zero, Int.add_zero] at x0
      rw [au c c0 (by omega), au _ (by omega) (by omega), au _ (by omega) (by omega), au _ (by omega) (by omega), e.1, e.2.1, e.2.2.1, e.2.2.2, x0, V15 c 1 c0 c1' (by decide) (by decide), V15 c 2 c0 c1' (by decide) (by decide), z15 (4 * c + 3) (by omega) (by omega) (by omega) (Or.inr (by omega))]
      exact ⟨rfl, rfl, rfl, rfl⟩
    · rw [au 24 (by decide) (by decide), au 25 (by decide) (by decide), au 26 (by decide) (by decide), en4, en5, en6, b25, z15 24 (by decide) (by decide) (by decide) (Or.inl (by omega)), z15 26 (by decide) (by decide) (by decide) (Or.inl (by omega))]
      exact ⟨rfl, rfl, rfl⟩
    · have e := ch c c0 (by omega)
      have tk' := tick c c0 (by omega)
      have x0 := V15 c 0 c0 c1' (by decide) (by decide)
      rw [Int.add_zero, Int.add_zero] at x0
      rw [x0, V15 c 1 c0 c1' (by decide) (by decide), V15 c 2 c0 c1' (by decide) (by decide), z15 (4 * c + 3) (by omega) (by omega) (by omega) (Or.inr (by omega))]
      exact ⟨e.1, ⟨e.2.1.1, tk'⟩, e.2.2, by decide, by decide⟩
    · rw [z15 24 (by decide) (by decide) (by decide) (Or.inl (by omega))]; decide
    · rw [b25]; exact pr
    · rw [z15 26 (by decide) (by decide) (by decide) (Or.inl (by omega))]; decide
    · rw [z15 27 (by decide) (by decide) (by decide) (Or.inl (by omega))]; decide
    · rw [z15 26 (by decide) (by decide) (by decide) (Or.inl (by omega))]; decide
    · have e := ent i i0 i1
      have c' := ch i i0 i1
      rw [au i i0 (by omega), au _ (by omega) (by omega), au _ (by omega) (by omega), au _ (by omega) (by omega), e.1, e.2.1, e.2.2.1, e.2.2.2]
      exact ⟨c'.1, c'.2.1, c'.2.2, by decide, by decide⟩
  · rw [m31, r31]
    refine ⟨by decide, ?_, ?_, fun i i0 i1 => absurd i1 (by omega)⟩
    · rw [z15 27 (by decide) (by decide) (by decide) (Or.inl (by omega))]; decide
    · rw [z15 26 (by decide) (by decide) (by decide) (Or.inl (by omega))]; decide
  · rw [k48] at j1
    have : i = j := by omega
    rw [this]; omega
  · rw [k48] at j1; omega
