/-! FAULT side by side -/
theorem RR_tx {σ : Mem} (h : RR σ) : txtOk (th0 σ) 5001 0 (th0 σ 5000 6) ∧ rowB (vof (th0 σ)) ∧ lbd (mL (th0 σ)) ∧ txt (th0 σ) 5001 0 (th0 σ 5000 6) = tsg σ ∧ th0 σ 5000 6 = σ 1 1 := by
  have e6 : th0 σ 5000 6 = σ 1 1 := by rw [th_k σ (by decide)]; exact h.1.2.1
  have e5 : th0 σ 5001 = σ 5001 := th_o σ (by decide)
  refine ⟨tx_ok h.1 e5 e6, ?_, ?_, tx_eq h.1 e5 e6, e6⟩
  · rw [vof_c (th_o σ (by decide)) (th_o σ (by decide)) (th_o σ (by decide)) (th_o σ (by decide))]; exact h.2.1.2.2.2.2.1
  · have : mL (th0 σ) = mL σ := by funext j; unfold mL; rw [th_o σ (by decide)]
    rw [this]; exact h.2.2.2.2.2.2.2.2.2.1.1.2.2
theorem fillm_in (σ : Mem) (a n v : Int) {k : Int} (k0 : 0 ≤ k) (k1 : k < n) : fillm σ a n v a k = v := by unfold fillm; rw [if_pos ⟨rfl, k0, k1⟩]
theorem agR_0 (v v' : Int → Int) : agR (fun _ => 0) (filv v 0 0) (filv v' 0 0) := by
  refine ⟨fun s s0 s1 => ?_, fun k i _ _ i0 i1 => ?_⟩
  · have m0 : mostK 0 = 1 := rfl
    have f0 : firstK 0 = 0 := rfl
    have z : 0 ≤ (0 : Int) ∧ (0 : Int) < 4 ∧ 0 ≤ (0 : Int) ∧ (0 : Int) < mostK 0 ∧ (firstK 0 + 0) * 4 ≤ s ∧ s < (firstK 0 + 0) * 4 + 4 := ⟨by decide, by decide, by decide, by decide, by omega, by omega⟩
    unfold filv
    rw [if_pos z, if_pos z]
  · exact absurd i0 (by have i1' : i < 0 := i1; omega)
theorem hRd_eq {σ m : Mem} (ht : txt m 5001 0 (m 5000 6) = tsg σ) (hn : m 5000 6 = σ 1 1) : (hRd m).1 = (hoF σ).1 ∧ (∀ k, 0 ≤ k → k < 4 → (hRd m).2.2.1 k = (hoF σ).2.2.1 k) ∧ ((hoF σ).1 = -1 → agR (hoF σ).2.2.1 (hoF σ).2.2.2 (hRd m).2.2.2) := by
  unfold hRd hoF
  rw [ht, hn]
  obtain ⟨a1, a2, a3, a4⟩ := hCls_cc (t := tsg σ) (n := σ 1 1) 241 0 (fillm σ 5 4 0 5) (fun _ => 0) (filv (σ 4) 0 0) (fun k k0 k1 => by
    rw [fillm_in σ 5 4 0 k0 k1])
  obtain ⟨b1, b2, b3, b4⟩ := hCls_cg (t := tsg σ) (n := σ 1 1) 241 0 (fun _ => 0) (filv (σ 4) 0 0) (filv (vof m) 0 0) (fun _ _ _ => Int.le_refl 0) (agR_0 _ _)
  refine ⟨by rw [b1, a1], fun k k0 k1 => by rw [b3, a3 k k0 k1], fun z => ?_⟩
  rw [← a1] at z
  have g := b4 z
  rw [a4] at g
  exact ⟨g.1, fun k i k0 k1 i0 i1 => g.2 k i k0 k1 i0 (by rw [a3 k (by omega) k1]; exact i1)⟩
theorem hoF_b {σ : Mem} (h : RR σ) : cntB (hoF σ).2.2.1 ∧ rowS (hoF σ).2.2.2 ∧ (-1 ≤ (hoF σ).1 ∧ (hoF σ).1 ≤ 240) ∧ ((hoF σ).1 = -1 → hWhole (hoF σ).2.2.1 (hoF σ).2.2.2) := by
  have t := h.1.1
  have S := hCls_S (t := tsg σ) (n := σ 1 1) 241 0 (fillm σ 5 4 0 5) (filv (σ 4) 0 0) (fun k k0 k1 => by rw [fillm_in σ 5 4 0 k0 k1]; decide) (filv_S _ _ h.2.1.2.1)
  have O := hCls_1 (t := tsg σ) (n := σ 1 1) (fun i hi => (tsg_bd t i).2.2.2 hi) t.1 241 0 (fillm σ 5 4 0 5) (filv (σ 4) 0 0) (by decide) t.1 (rowS_B (filv_S _ _ h.2.1.2.1))
  exact ⟨S.1, S.2, ⟨O.1.1, by have h9 : (hoF σ).1 ≤ σ 1 1 := O.1.2; have := t.2.1; omega⟩, O.2⟩
theorem hst_r {σ : Mem} {c v : Int → Int} {p : Int} : (∀ b, b ≠ 1 → b ≠ 4 → b ≠ 5 → hst σ 3 c v p b = σ b) ∧ hst σ 3 c v p 4 = v ∧ hst σ 3 c v p 5 = c ∧ ∀ x, x ≠ 2 → hst σ 3 c v p 1 x = σ 1 x := by
  refine ⟨fun b h1 h4 h5 => ?_, hst_v ⟨by decide, by decide⟩ c v p, hst_c ⟨by decide, by decide⟩ c v p, fun x hx => ?_⟩
  · unfold hst; rw [up_na _ h1, setv_o _ _ (show b ≠ 3 + 1 by omega), setv_o _ _ (show b ≠ 3 + 2 by omega)]
  · unfold hst; rw [up_nj _ hx, setv_o _ _ (by decide), setv_o _ _ (by decide)]
theorem RR_hst {σ : Mem} (h : RR σ) {c v : Int → Int} (hc : cntB c) (hv : rowS v) (p : Int) : RR (hst σ 3 c v p) := by
  obtain ⟨o, r4, r5, r1⟩ := hst_r (σ := σ) (c := c) (v := v) (p := p)
  have q : ∀ b, 5 < b → hst σ 3 c v p b = σ b := fun b hb => o b (by omega) (by omega) (by omega)
  refine RR_rd h (fun b h1 h4 h5 _ _ _ _ _ _ _ _ _ _ => o b h1 h4 h5) (r1 1 (by decide)) (fun x _ => by rw [q 5000 (by decide)]) (by rw [r5]; exact hc) (by rw [r4]; exact hv) ?_ (seaR_c (by rw [q 13 (by decide)]) (q 14 (by decide)) (q 15 (by decide)) (by rw [q 5000 (by decide)]) (q 5013 (by decide)) (q 5014 (by decide)) h.2.2.2.1)
  rw [vof_c (q 5006 (by decide)) (q 5008 (by decide)) (q 5010 (by decide)) (q 5012 (by decide))]; exact h.2.1.2.2.2.2.1
theorem RR_hrf {σ υ : Mem} (h : RR σ) (hF : HRF (th0 σ) υ) (hv : rowB (vof υ)) : RR υ := by
  have q : ∀ b, b < 5000 ∨ b = 5013 ∨ b = 5014 → υ b = σ b := fun b hb => by rw [hF.1 b (by omega) (by omega) (by omega) (by omega) (by omega), th_o σ (by omega)]
  have k : ∀ x, x = 6 ∨ x = 7 ∨ x = 28 ∨ x = 29 ∨ x = 30 ∨ x = 34 ∨ x = 38 ∨ x = 39 ∨ x = 48 ∨ x = 53 ∨ x = 56 → υ 5000 x = σ 5000 x := fun x hx => by rw [hF.2 x (by omega) (by omega) (by omega) (by omega), th_k σ (by omega)]
  exact RR_rd h (fun b _ _ _ _ _ _ h0 h6 h8 h10 h12 _ _ => by rw [hF.1 b h0 h6 h8 h10 h12, th_o σ h0]) (by rw [q 1 (by decide)]) k (by rw [q 5 (by decide)]; exact h.2.1.1) (by rw [q 4 (by decide)]; exact h.2.1.2.1) hv (seaR_c (by rw [q 13 (by decide)]) (q 14 (by decide)) (q 15 (by decide)) (k 34 (by decide)) (q 5013 (by decide)) (q 5014 (by decide)) h.2.2.2.1)
theorem RR_rdx {σ τ : Mem} (h : RR σ) {p : Int} (hX : RdX σ τ p) : RR τ := by
  obtain ⟨o, r1, -⟩ := hX
  have q : ∀ b, 11 < b → τ b = σ b := fun b hb => o b (by omega) (by omega) (by omega) (by omega)
  refine RR_rd h (fun b h1 _ _ h9 _ _ _ _ _ _ _ _ _ => o b h1 (by omega) (by omega) (by omega)) (r1 1 (by decide)) (fun x _ => by rw [q 5000 (by decide)]) (by rw [o 5 (by decide) (by decide) (by decide) (by decide)]; exact h.2.1.1) (by rw [o 4 (by decide) (by decide) (by decide) (by decide)]; exact h.2.1.2.1) ?_ (seaR_c (by rw [q 13 (by decide)]) (q 14 (by decide)) (q 15 (by decide)) (by rw [q 5000 (by decide)]) (q 5013 (by decide)) (q 5014 (by decide)) h.2.2.2.1)
  rw [vof_c (q 5006 (by decide)) (q 5008 (by decide)) (q 5010 (by decide)) (q 5012 (by decide))]; exact h.2.1.2.2.2.2.1
theorem RR_gf {σ υ : Mem} (h : RR σ) (hF : GF (th0 σ) υ) : RR υ := by
  have q : ∀ b, b ≠ 5000 → υ b = σ b := fun b hb => by rw [hF.1 b hb, th_o σ hb]
  have k : ∀ x, x = 6 ∨ x = 7 ∨ x = 28 ∨ x = 29 ∨ x = 30 ∨ x = 34 ∨ x = 38 ∨ x = 39 ∨ x = 48 ∨ x = 53 ∨ x = 56 → υ 5000 x = σ 5000 x := fun x hx => by rw [hF.2 x (by omega) (by omega) (by omega), th_k σ (by omega)]
  refine RR_rd h (fun b _ _ _ _ _ _ h0 _ _ _ _ _ _ => q b h0) (by rw [q 1 (by decide)]) k (by rw [q 5 (by decide)]; exact h.2.1.1) (by rw [q 4 (by decide)]; exact h.2.1.2.1) ?_ (seaR_c (by rw [q 13 (by decide)]) (q 14 (by decide)) (q 15 (by decide)) (k 34 (by decide)) (q 5013 (by decide)) (q 5014 (by decide)) h.2.2.2.1)
  rw [vof_c (q 5006 (by decide)) (q 5008 (by decide)) (q 5010 (by decide)) (q 5012 (by decide))]; exact h.2.1.2.2.2.2.1
/-- the class has read a SEASON behind those that it keeps -/
theorem RR_sp {σ τ : Mem} (h : RR σ) (o : ∀ b, b ≠ 1 → b ≠ 14 → b ≠ 15 → τ b = σ b) (r1 : ∀ x, x ≠ 2 → τ 1 x = σ 1 x) (r14 : ∀ j, j < σ 13 3 * 48 → τ 14 j = σ 14 j) (r15 : ∀ j, j < σ 13 3 → τ 15 j = σ 15 j) : RR τ := by
  have q : ∀ b, 15 < b → τ b = σ b := fun b hb => o b (by omega) (by omega) (by omega)
  refine RR_rd h (fun b h1 _ _ _ h14 h15 _ _ _ _ _ _ _ => o b h1 h14 h15) (r1 1 (by decide)) (fun x _ => by rw [q 5000 (by decide)]) (by rw [o 5 (by decide) (by decide) (by decide)]; exact h.2.1.1) (by rw [o 4 (by decide) (by decide) (by decide)]; exact h.2.1.2.1) ?_ ?_
  · rw [vof_c (q 5006 (by decide)) (q 5008 (by decide)) (q 5010 (by decide)) (q 5012 (by decide))]; exact h.2.1.2.2.2.2.1
  · obtain ⟨⟨a1, a2⟩, b, c, d⟩ := h.2.2.2.1
    have e13 : τ 13 = σ 13 := o 13 (by decide) (by decide) (by decide)
    refine ⟨⟨by rw [e13]; exact a1, fun s s0 s1 => ?_⟩, ?_, by rw [e13, q 5000 (by decide)]; exact c, fun s s0 s1 => ?_⟩
    · rw [e13] at s1
      rw [r15 s s1]; exact a2 s s0 s1
    · unfold seOk; rw [q 5000 (by decide), q 5013 (by decide), q 5014 (by decide)]; exact b
    · rw [e13] at s1
      rw [r15 s s1, q 5014 (by decide), q 5013 (by decide)]
      refine ⟨(d s s0 s1).1, fun j j0 j1 => ?_⟩
      have := a2 s s0 s1
      rw [r14 _ (by omega)]; exact (d s s0 s1).2 j j0 j1
theorem seOk_S {σ υ : Mem} (k34 : υ 5000 34 = σ 5000 34) (h13 : ∀ j, j < 192 → υ 5013 j = σ 5013 j) (h14 : ∀ j, j ≠ 4 → υ 5014 j = σ 5014 j) (h : seOk σ) : seOk υ := by
  have b := h.1
  refine ⟨by rw [k34]; exact h.1, fun k k0 k1 => ?_, ?_⟩
  · rw [k34] at k1
    rw [h14 k (by omega)]; exact h.2.1 k k0 k1
  · first
      | (intro j j0 j1; rw [h13 j (by omega)]; exact h.2.2 j j0 j1)
      | (intro k j k0 k1 j0 j1
         rw [k34] at k1
         have := h.2.1 k k0 k1
         rw [h14 k (by omega)] at j1
         rw [h13 _ (by omega)]
         exact h.2.2 k j k0 k1 j0 j1)
theorem RR_sef {σ υ : Mem} (h : RR σ) (hF : SEF (th0 σ) υ) : RR υ := by
  obtain ⟨f1, f2, f3, f4⟩ := hF
  have q : ∀ b, b ≠ 5000 → b ≠ 5013 → b ≠ 5014 → υ b = σ b := fun b h1 h2 h3 => by rw [f1 b h1 h2 h3, th_o σ h1]
  have r : ∀ b, b < 5000 → υ b = σ b := fun b hb => q b (by omega) (by omega) (by omega)
  have k : ∀ x, x = 6 ∨ x = 7 ∨ x = 28 ∨ x = 29 ∨ x = 30 ∨ x = 34 ∨ x = 38 ∨ x = 39 ∨ x = 48 ∨ x = 53 ∨ x = 56 → υ 5000 x = σ 5000 x := fun x hx => by rw [f4 x (by omega) (by omega), th_k σ (by omega)]
  have g13 : ∀ j, j < 192 → υ 5013 j = σ 5013 j := fun j hj => by rw [f2 j hj, th_o σ (by decide)]
  have g14 : ∀ j, j ≠ 4 → υ 5014 j = σ 5014 j := fun j hj => by rw [f3 j hj, th_o σ (by decide)]
  refine RR_rd h (fun b _ _ _ _ _ _ h0 _ _ _ _ h13 h14 => q b h0 h13 h14) (by rw [r 1 (by decide)]) k (by rw [r 5 (by decide)]; exact h.2.1.1) (by rw [r 4 (by decide)]; exact h.2.1.2.1) ?_ ?_
  · rw [vof_c (q 5006 (by decide) (by decide) (by decide)) (q 5008 (by decide) (by decide) (by decide)) (q 5010 (by decide) (by decide) (by decide)) (q 5012 (by decide) (by decide) (by decide))]; exact h.2.1.2.2.2.2.1
  · obtain ⟨⟨a1, a2⟩, b, c, d⟩ := h.2.2.2.1
    have b34 := b.1
    refine ⟨⟨by rw [r 13 (by decide)]; exact a1, by rw [r 13 (by decide), r 15 (by decide)]; exact a2⟩, seOk_S (k 34 (by decide)) g13 g14 b, by rw [r 13 (by decide), k 34 (by decide)]; exact c, fun s s0 s1 => ?_⟩
    rw [r 13 (by decide)] at s1
    rw [r 15 (by decide), r 14 (by decide), g14 s (by omega)]
    refine ⟨(d s s0 s1).1, fun j j0 j1 => ?_⟩
    have := a2 s s0 s1
    rw [g13 _ (by omega)]; exact (d s s0 s1).2 j j0 j1
theorem sRd_eq {σ m : Mem} (ht : txt m 5001 0 (m 5000 6) = tsg σ) (hn : m 5000 6 = σ 1 1) : sRd m = seF σ := by
  unfold sRd seF; rw [ht, hn]
theorem sp_r {σ : Mem} {p c : Int} {v : Int → Int} : (∀ b, b ≠ 1 → b ≠ 14 → setP (up σ 1 2 p) c v b = σ b) ∧ (∀ x, x ≠ 2 → setP (up σ 1 2 p) c v 1 x = σ 1 x) ∧ ∀ j, j < c * 48 → setP (up σ 1 2 p) c v 14 j = σ 14 j := by
  refine ⟨fun b h1 h14 => by rw [setP_o _ _ h14, up_na _ h1], fun x hx => by rw [setP_o _ _ (by decide), up_nj _ hx], fun j hj => ?_⟩
  unfold setP
  rw [if_neg (by omega), up_na _ (by decide)]
theorem sim_fault {σ : Mem} (h : RR σ) {s : Int} (hs : InR s) : w_X11_fault [(27, 0), (0, s)] σ (fun r τ => w_X12_fault [(28, 5000), (0, s)] τ (sQ r)) := by
  have hth := RR_th h
  obtain ⟨x1, x2, x3, x4, x5⟩ := RR_tx h
  rw [w_X11_fault_e]
  refine ⟨hs, fun q => ?_, fun q => ?_, fun q => ?_, fun q => ?_⟩
  · rw [w_X12_fault_e]
    exact ⟨hs, x1, x2, x3, fun _ => ⟨rfl, hth⟩, fun z => absurd q (by omega), fun z => absurd q (by omega), fun z => absurd q (by omega)⟩
  · rw [w_X6_read_e]
    obtain ⟨c1, c2, c3, c4⟩ := hoF_b h
    refine ⟨rfl, Or.inl rfl, (RR_plan h).2, h.1.1, ?_⟩
    have hτ := RR_hst h c1 c2 (hoF σ).2.1
    obtain ⟨o, r4, r5, r1⟩ := hst_r (σ := σ) (c := (hoF σ).2.2.1) (v := (hoF σ).2.2.2) (p := (hoF σ).2.1)
    show w_X12_fault [(28, 5000), (0, s)] (hst σ 3 (hoF σ).2.2.1 (hoF σ).2.2.2 (hoF σ).2.1) (sQ (0, (hoF σ).1))
    generalize hst σ 3 (hoF σ).2.2.1 (hoF σ).2.2.2 (hoF σ).2.1 = τ at *
    obtain ⟨y1, y2, y3, y4, y5⟩ := RR_tx hτ
    have et : tsg τ = tsg σ := tsg_cong (r1 1 (by decide)) (o 2 (by decide) (by decide) (by decide))
    have E := hRd_eq (σ := σ) (m := th0 τ) (by rw [y4, et]) (by rw [y5]; exact r1 1 (by decide))
    rw [w_X12_fault_e]
    exact ⟨hs, y1, y2, y3, fun z => absurd z (by omega), fun _ υ hF hv _ => ⟨by rw [E.1], RR_hrf hτ hF hv⟩, fun z => absurd q (by omega), fun z => absurd q (by omega)⟩
  · rw [w_X3_read_e]
    refine ⟨h.1.1, fun τ p hX hg => ?_, fun τ p K hX hg _ _ _ => ?_⟩
    · have hτ := RR_rdx h hX
      obtain ⟨y1, y2, y3, y4, y5⟩ := RR_tx hτ
      have et : tsg τ = tsg σ := tsg_cong (hX.2.1 1 (by decide)) (hX.1 2 (by decide) (by decide) (by decide) (by decide))
      have e1 : τ 1 1 = σ 1 1 := hX.2.1 1 (by decide)
      rw [w_X12_fault_e]
      refine ⟨hs, y1, y2, y3, fun z => absurd z (by omega), fun z => absurd q (by omega), fun _ => ⟨fun υ f g _ _ hF => ?_, fun υ K g _ => ?_⟩, fun z => absurd q (by omega)⟩
      · rw [y4, y5, et, e1, hg] at g
        injection g with g
        exact ⟨by rw [g], RR_gf hτ hF⟩
      · rw [y4, y5, et, e1, hg] at g
        cases g
    · have hτ := RR_rdx h hX
      obtain ⟨y1, y2, y3, y4, y5⟩ := RR_tx hτ
      have et : tsg τ = tsg σ := tsg_cong (hX.2.1 1 (by decide)) (hX.1 2 (by decide) (by decide) (by decide) (by decide))
      have e1 : τ 1 1 = σ 1 1 := hX.2.1 1 (by decide)
      rw [w_X12_fault_e]
      refine ⟨hs, y1, y2, y3, fun z => absurd z (by omega), fun z => absurd q (by omega), fun _ => ⟨fun υ f g _ _ _ => ?_, fun υ K' g hF => ⟨rfl, RR_gf hτ hF⟩⟩, fun z => absurd q (by omega)⟩
      rw [y4, y5, et, e1, hg] at g
      cases g
  · rw [w_X7_read_e]
    have sea := h.2.2.2.1.1
    refine ⟨h.1.1, sea.1.1, sea.1.2, fun p v _ => ?_⟩
    obtain ⟨o, r1, r14⟩ := sp_r (σ := σ) (p := p) (c := σ 13 3) (v := v)
    have hτ : RR (if (seF σ).1 = -1 then up (setP (up σ 1 2 p) (σ 13 3) v) 15 (σ 13 3) (seF σ).2.1 else setP (up σ 1 2 p) (σ 13 3) v) ∧ (if (seF σ).1 = -1 then up (setP (up σ 1 2 p) (σ 13 3) v) 15 (σ 13 3) (seF σ).2.1 else setP (up σ 1 2 p) (σ 13 3) v) 1 1 = σ 1 1 ∧ (if (seF σ).1 = -1 then up (setP (up σ 1 2 p) (σ 13 3) v) 15 (σ 13 3) (seF σ).2.1 else setP (up σ 1 2 p) (σ 13 3) v) 2 = σ 2 := by
      by_cases y : (seF σ).1 = -1
      · rw [if_pos y]
        refine ⟨RR_sp h (fun b h1 h14 h15 => by rw [up_na _ h15]; exact o b h1 h14) (fun x hx => by rw [up_na _ (by decide)]; exact r1 x hx) (fun j hj => by rw [up_na _ (by decide)]; exact r14 j hj) (fun j hj => by rw [up_nj _ (by omega), o 15 (by decide) (by decide)]), ?_, ?_⟩
        · rw [up_na _ (by decide)]; exact r1 1 (by decide)
        · rw [up_na _ (by decide)]; exact o 2 (by decide) (by decide)
      · rw [if_neg y]
        exact ⟨RR_sp h (fun b h1 h14 _ => o b h1 h14) r1 r14 (fun j hj => by rw [o 15 (by decide) (by decide)]), r1 1 (by decide), o 2 (by decide) (by decide)⟩
    show w_X12_fault [(28, 5000), (0, s)] (if (seF σ).1 = -1 then up (setP (up σ 1 2 p) (σ 13 3) v) 15 (σ 13 3) (seF σ).2.1 else setP (up σ 1 2 p) (σ 13 3) v) (sQ (0, (seF σ).1))
    generalize (if (seF σ).1 = -1 then up (setP (up σ 1 2 p) (σ 13 3) v) 15 (σ 13 3) (seF σ).2.1 else setP (up σ 1 2 p) (σ 13 3) v) = τ at *
    obtain ⟨hτ, e1, e2⟩ := hτ
    obtain ⟨y1, y2, y3, y4, y5⟩ := RR_tx hτ
    have et : tsg τ = tsg σ := tsg_cong e1 e2
    have E := sRd_eq (σ := σ) (m := th0 τ) (by rw [y4, et]) (by rw [y5]; exact e1)
    rw [w_X12_fault_e]
    exact ⟨hs, y1, y2, y3, fun z => absurd z (by omega), fun z => absurd q (by omega), fun z => absurd q (by omega), fun _ υ hF _ => ⟨by rw [E], RR_sef hτ hF⟩⟩
