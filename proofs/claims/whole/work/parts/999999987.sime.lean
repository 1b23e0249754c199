/-! FLU, LAW, HOWLED, END, FEED side by side -/
theorem RR_few {σ μ : Mem} (h : RR σ) (hb : ∀ b, b ≠ 0 → b ≠ 1 → b ≠ 2 → b ≠ 26 → b ≠ 41 → b ≠ 42 → b ≠ 5000 → b ≠ 5001 → b ≠ 5024 → μ b = σ b) (hk : ∀ x, x = 7 ∨ x = 28 ∨ x = 29 ∨ x = 30 ∨ x = 34 ∨ x = 48 ∨ x = 56 → μ 5000 x = σ 5000 x) (ht : tapeR μ) (hl : lawR μ) (hw : hwO μ ∧ eqW μ μ) (hf : μ 0 8 = μ 5000 39 ∧ 0 ≤ μ 0 8 ∧ μ 0 8 ≤ 9) : RR μ := by
  have n := RR_n h
  have q : ∀ b, b = -2 ∨ (2 < b ∧ b < 26) ∨ (26 < b ∧ b < 41) ∨ (5001 < b ∧ b < 5024) ∨ 5024 < b → μ b = σ b := fun b hb' => hb b (by omega) (by omega) (by omega) (by omega) (by omega) (by omega) (by omega) (by omega) (by omega)
  obtain ⟨h1, h2, h3, h4, h5, h6, h7, h8, h9, h10, h11⟩ := h
  refine ⟨ht, houR_c (q 4 (by decide)) (q 5 (by decide)) (q 7 (by decide)) (q 8 (by decide)) (fun x hx => hk x (by omega)) (fun b hb' => q b (by omega)) h2, hl, seaR_c (by rw [q 13 (by decide)]) (q 14 (by decide)) (q 15 (by decide)) (hk 34 (by decide)) (q 5013 (by decide)) (q 5014 (by decide)) h4, hw, nowR_c n.2.1.2 (fun j _ _ => by rw [q 16 (by decide)]) (fun b b0 b1 => q b (by omega)) (q 32 (by decide)) (by rw [q 31 (by decide)]) ⟨hk 29 (by decide), hk 30 (by decide)⟩ (q 5015 (by decide)) h6, pastR_c (fun x _ => by rw [q 31 (by decide)]) (q 32 (by decide)) (q 33 (by decide)) (fun x hx => hk x (by omega)) (q 5023 (by decide)) h7, imR_c (fun x _ => by rw [q 31 (by decide)]) (q 34 (by decide)) (q 35 (by decide)) (fun x hx => hk x (by omega)) (q 5026 (by decide)) h8, livR_c (q (-2) (by decide)) (hk 7 (by decide)) h9, ⟨mOk_c (hk 7 (by decide)) (fun b hb' => q b (by omega)) h10.1, hf, ?_⟩, ringR_c (q 32 (by decide)) (q 35 (by decide)) h11⟩
  rw [hk 28 (by decide), hk 30 (by decide), q 5007 (by decide), q 5011 (by decide), q 5005 (by decide)]; exact h10.2.2
theorem sim_flu {σ : Mem} (h : RR σ) {v : Int} (hv : InR v) : w_X11_flu [(27, 0), (0, v)] σ (fun r τ => w_X12_flu [(28, 5000), (0, v)] τ (sQ r)) := by
  have hth := RR_th h
  have nn := RR_n h
  have f := h.2.2.2.2.2.2.2.2.2.1.2.1
  rw [w_X11_flu_e]
  refine ⟨hv, ⟨by omega, by omega⟩, fun q => ?_, fun q0 q1 q2 => ?_⟩
  · rw [w_X12_flu_e]
    exact ⟨hv, ⟨by omega, by omega⟩, fun _ => ⟨rfl, hth⟩, fun a b c => absurd q (by omega)⟩
  · have e : up σ 0 8 v 5000 = σ 5000 := up_na _ (by decide)
    rw [w_X12_flu_e]
    refine ⟨hv, by rw [e]; exact ⟨by omega, by omega⟩, fun z => absurd z (by rw [e]; omega), fun _ _ _ => ⟨rfl, ?_⟩⟩
    generalize hμ : up (th0 (up σ 0 8 v)) 5000 39 v = μ
    have o : ∀ b, b ≠ 0 → b ≠ 5000 → μ b = σ b := fun b b0 b1 => by rw [← hμ, up_na _ b1, th_o _ b1, up_na _ b0]
    have k : ∀ x, x ≠ 0 → x ≠ 39 → μ 5000 x = σ 5000 x := fun x x0 x1 => by rw [← hμ, up_nj _ x1, th_k _ x0, e]
    have k9 : μ 5000 39 = v := by rw [← hμ, up_s]
    have z : ∀ x, x ≠ 8 → μ 0 x = σ 0 x := fun x x1 => by rw [← hμ, up_na _ (by decide), th_o _ (by decide), up_nj _ x1]
    have z8 : μ 0 8 = v := by rw [← hμ, up_na _ (by decide), th_o _ (by decide), up_s]
    exact RR_few h (fun b a0 a1 a2 a3 a4 a5 a6 a7 a8 => o b a0 a6) (fun x hx => k x (by omega) (by omega)) (tapeR_c (by rw [o 1 (by decide) (by decide)]) (o 2 (by decide) (by decide)) (k 6 (by decide) (by decide)) (o 5001 (by decide) (by decide)) h.1) (lawR_c (z 5 (by decide)) (z 6 (by decide)) (by rw [o 26 (by decide) (by decide)]) (o 12 (by decide) (by decide)) ⟨k 7 (by decide) (by decide), k 38 (by decide) (by decide)⟩ (o 5002 (by decide) (by decide)) (o 5003 (by decide) (by decide)) (fun l l0 l1 => o _ (by omega) (by omega)) nn.2.2.2.2 h.2.2.1) (howR_c (by rw [o 41 (by decide) (by decide)]) (o 42 (by decide) (by decide)) (fun x hx => k x (by omega) (by omega)) (o 5024 (by decide) (by decide)) h.2.2.2.2.1) ⟨by rw [z8, k9], by rw [z8]; exact q0, by rw [z8]; exact q1⟩
theorem law_RR {σ : Mem} (h : RR σ) {v w : Int} (hv : (v = -1 ∧ w = -1) ∨ (0 ≤ v ∧ v < σ 5000 7 ∧ w = σ 12 v)) : RR (up (th0 (up (up σ 0 6 v) 26 1 w)) 5000 38 v) := by
  have nn := RR_n h
  have e : up (up σ 0 6 v) 26 1 w 5000 = σ 5000 := by rw [up_na _ (by decide), up_na _ (by decide)]
  generalize hμ : up (th0 (up (up σ 0 6 v) 26 1 w)) 5000 38 v = μ
  have o : ∀ b, b ≠ 0 → b ≠ 26 → b ≠ 5000 → μ b = σ b := fun b b0 b1 b2 => by rw [← hμ, up_na _ b2, th_o _ b2, up_na _ b1, up_na _ b0]
  have k : ∀ x, x ≠ 0 → x ≠ 38 → μ 5000 x = σ 5000 x := fun x x0 x1 => by rw [← hμ, up_nj _ x1, th_k _ x0, e]
  have k9 : μ 5000 38 = v := by rw [← hμ, up_s]
  have z : ∀ x, x ≠ 6 → μ 0 x = σ 0 x := fun x x1 => by rw [← hμ, up_na _ (by decide), th_o _ (by decide), up_na _ (by decide), up_nj _ x1]
  have z6 : μ 0 6 = v := by rw [← hμ, up_na _ (by decide), th_o _ (by decide), up_na _ (by decide), up_s]
  have y : μ 26 1 = w := by rw [← hμ, up_na _ (by decide), th_o _ (by decide), up_s]
  obtain ⟨a1, a2, a3, a4, a5⟩ := h.2.2.1
  have o12 := o 12 (by decide) (by decide) (by decide)
  refine RR_few h (fun b a0 a1 a2 a3 a4 a5 a6 a7 a8 => o b a0 a3 a6) (fun x hx => k x (by omega) (by omega)) (tapeR_c (by rw [o 1 (by decide) (by decide) (by decide)]) (o 2 (by decide) (by decide) (by decide)) (k 6 (by decide) (by decide)) (o 5001 (by decide) (by decide) (by decide)) h.1) ⟨by rw [z 5 (by decide), k 7 (by decide) (by decide)]; exact a1, by rw [z6, k9], ?_, ?_, fun l l0 l1 => ?_⟩ (howR_c (by rw [o 41 (by decide) (by decide) (by decide)]) (o 42 (by decide) (by decide) (by decide)) (fun x hx => k x (by omega) (by omega)) (o 5024 (by decide) (by decide) (by decide)) h.2.2.2.2.1) (by rw [z 8 (by decide), k 39 (by decide) (by decide)]; exact h.2.2.2.2.2.2.2.2.2.1.2.1)
  · unfold lwIs
    rw [k9, k 7 (by decide) (by decide)]
    rcases hv with q | q
    · left; exact q.1
    · right; exact ⟨q.1, q.2.1⟩
  · rw [y, k9, o12]
    rcases hv with q | q
    · rw [if_pos q.1]; exact q.2
    · rw [if_neg (by omega)]; exact q.2.2
  · rw [k 7 (by decide) (by decide)] at l1
    rw [o12, o (101 + 3 * l) (by omega) (by omega) (by omega), lwK_c (o 5002 (by decide) (by decide) (by decide)) (o 5003 (by decide) (by decide) (by decide))]
    exact a5 l l0 l1
theorem sim_law {σ : Mem} (h : RR σ) {v : Int} (hv : InR v) : w_X11_law [(27, 0), (0, v)] σ (fun r τ => w_X12_law [(28, 5000), (0, v)] τ (sQ r)) := by
  have hth := RR_th h
  have nn := RR_n h
  obtain ⟨a1, a2, a3, a4, a5⟩ := h.2.2.1
  have e : ∀ w, up (up σ 0 6 v) 26 1 w 5000 = σ 5000 := fun w => by rw [up_na _ (by decide), up_na _ (by decide)]
  rw [w_X11_law_e]
  refine ⟨hv, by omega, by omega, fun i i0 i1 => ?_, fun q => ?_, fun q => ?_, fun q0 q1 => ?_⟩
  · have := (a5 i i0 (by omega)).1
    omega
  · rw [w_X12_law_e]
    exact ⟨hv, nn.2.2.2.1, nn.2.2.2.2, fun _ => ⟨rfl, hth⟩, fun x y => absurd q (by omega)⟩
  · rw [w_X12_law_e]
    refine ⟨hv, by rw [e]; exact nn.2.2.2.1, by rw [e]; exact nn.2.2.2.2, fun z => absurd z (by rw [e]; omega), fun _ _ => ⟨rfl, law_RR h (Or.inl ⟨q, rfl⟩)⟩⟩
  · rw [w_X12_law_e]
    refine ⟨hv, by rw [e]; exact nn.2.2.2.1, by rw [e]; exact nn.2.2.2.2, fun z => absurd z (by rw [e]; omega), fun _ _ => ⟨rfl, law_RR h (Or.inr ⟨q0, by omega, rfl⟩)⟩⟩
/-- five numbers written -/
def wr5 (f : Int → Int) (B c p k v u : Int) : Int → Int := fun j => if j = B + 4 then u else if j = B + 3 then v else if j = B + 2 then k else if j = B + 1 then p else if j = B then c else f j
theorem wr5_up (σ : Mem) (a B c p k v u : Int) : up (up (up (up (up σ a B c) a (B + 1) p) a (B + 2) k) a (B + 3) v) a (B + 4) u a = wr5 (σ a) B c p k v u := by
  rw [up_row, up_row, up_row, up_row, up_row]; rfl
theorem wr5_lo {f : Int → Int} {B c p k v u j : Int} (h : j < B) : wr5 f B c p k v u j = f j := by
  unfold wr5
  rw [if_neg (by omega), if_neg (by omega), if_neg (by omega), if_neg (by omega), if_neg (by omega)]
theorem wr5_hi {f g : Int → Int} {B c p k v u j : Int} (h : B ≤ j) (h1 : j < B + 5) : wr5 f B c p k v u j = wr5 g B c p k v u j := by
  unfold wr5
  by_cases e4 : j = B + 4
  · rw [if_pos e4, if_pos e4]
  · rw [if_neg e4, if_neg e4]
    by_cases e3 : j = B + 3
    · rw [if_pos e3, if_pos e3]
    · rw [if_neg e3, if_neg e3]
      by_cases e2 : j = B + 2
      · rw [if_pos e2, if_pos e2]
      · rw [if_neg e2, if_neg e2]
        by_cases e1 : j = B + 1
        · rw [if_pos e1, if_pos e1]
        · rw [if_neg e1, if_neg e1, if_pos (by omega), if_pos (by omega)]
theorem wr5_v (f : Int → Int) (B c p k v u : Int) : wr5 f B c p k v u B = c ∧ wr5 f B c p k v u (B + 1) = p ∧ wr5 f B c p k v u (B + 2) = k ∧ wr5 f B c p k v u (B + 3) = v ∧ wr5 f B c p k v u (B + 4) = u := by
  unfold wr5
  refine ⟨?_, ?_, ?_, ?_, ?_⟩
  · rw [if_neg (by omega), if_neg (by omega), if_neg (by omega), if_neg (by omega), if_pos rfl]
  · rw [if_neg (by omega), if_neg (by omega), if_neg (by omega), if_pos rfl]
  · rw [if_neg (by omega), if_neg (by omega), if_pos rfl]
  · rw [if_neg (by omega), if_pos rfl]
  · rw [if_pos rfl]
theorem sim_howled {σ : Mem} (h : RR σ) {c p k v u : Int} (hc : InR c) (hp : InR p) (hk : InR k) (hv : InR v) (hu : u = 0 ∨ u = 1) : w_X11_howled [(27, 0), (0, c), (0, p), (0, k), (0, v), (0, u)] σ (fun r τ => w_X12_howled [(28, 5000), (0, c), (0, p), (0, k), (0, v), (0, u)] τ (sQ r)) := by
  have hth := RR_th h
  have nn := RR_n h
  have n := RR_cnt h
  obtain ⟨⟨h1, h2⟩, w1, w2, w3⟩ := h.2.2.2.2.1
  have i29 : InR (σ 5000 29) := ⟨by omega, by omega⟩
  have i28 : InR (σ 5000 28) := ⟨by omega, by omega⟩
  rw [w_X11_howled_e, n.1, n.2.1, w1]
  refine ⟨hc, hp, hk, hv, hu, (RR_plan h).1, h1.1, h1.2, fun q => ?_, fun q => ?_⟩
  · rw [w_X12_howled_e]
    exact ⟨hc, hp, hk, hv, hu, i29, i28, h1.1, h1.2, fun _ => ⟨rfl, hth⟩, fun z => absurd z q⟩
  · rw [show σ 5000 53 * 5 = 5 * σ 5000 53 by omega]
    generalize hN : σ 5000 53 = N at *
    generalize hτ : up (up (up (up (up (up σ 42 (5 * N) c) 42 (5 * N + 1) p) 42 (5 * N + 2) k) 42 (5 * N + 3) v) 42 (5 * N + 4) u) 41 4 (N + 1) = τ
    have to : ∀ b, b ≠ 41 → b ≠ 42 → τ b = σ b := fun b b1 b2 => by rw [← hτ, up_na _ b1, up_na _ b2, up_na _ b2, up_na _ b2, up_na _ b2, up_na _ b2]
    have t42 : τ 42 = wr5 (σ 42) (5 * N) c p k v u := by rw [← hτ, up_na _ (by decide)]; exact wr5_up σ 42 (5 * N) c p k v u
    have t41 : τ 41 4 = N + 1 := by rw [← hτ, up_s]
    have e := to 5000 (by decide) (by decide)
    rw [w_X12_howled_e, e, hN]
    refine ⟨hc, hp, hk, hv, hu, i29, i28, h1.1, h1.2, fun z => absurd q z, fun _ => ⟨rfl, ?_⟩⟩
    generalize hμ : up (up (up (up (up (up (th0 τ) 5024 (5 * N) c) 5024 (5 * N + 1) p) 5024 (5 * N + 2) k) 5024 (5 * N + 3) v) 5024 (5 * N + 4) u) 5000 53 (N + 1) = μ
    have o : ∀ b, b ≠ 5000 → b ≠ 5024 → μ b = τ b := fun b b1 b2 => by rw [← hμ, up_na _ b1, up_na _ b2, up_na _ b2, up_na _ b2, up_na _ b2, up_na _ b2, th_o _ b1]
    have os : ∀ b, b ≠ 41 → b ≠ 42 → b ≠ 5000 → b ≠ 5024 → μ b = σ b := fun b b1 b2 b3 b4 => by rw [o b b3 b4, to b b1 b2]
    have kk : ∀ x, x ≠ 0 → x ≠ 53 → μ 5000 x = σ 5000 x := fun x x0 x1 => by rw [← hμ, up_nj _ x1, up_na _ (by decide), up_na _ (by decide), up_na _ (by decide), up_na _ (by decide), up_na _ (by decide), th_k _ x0, e]
    have k53 : μ 5000 53 = N + 1 := by rw [← hμ, up_s]
    have u24 : μ 5024 = wr5 (σ 5024) (5 * N) c p k v u := by rw [← hμ, up_na _ (by decide), wr5_up, th_o τ (by decide), to 5024 (by decide) (by decide)]
    have u42 : μ 42 = wr5 (σ 42) (5 * N) c p k v u := by rw [o 42 (by decide) (by decide), t42]
    have u41 : μ 41 4 = N + 1 := by rw [o 41 (by decide) (by decide), t41]
    obtain ⟨v0, v1, v2, v3, v4⟩ := wr5_v (σ 5024) (5 * N) c p k v u
    have q' := os
    refine RR_few h (fun b a0 a1 a2 a3 a4 a5 a6 a7 a8 => os b a4 a5 a6 a8) (fun x hx => kk x (by omega) (by omega)) (tapeR_c (by rw [os 1 (by decide) (by decide) (by decide) (by decide)]) (os 2 (by decide) (by decide) (by decide) (by decide)) (kk 6 (by decide) (by decide)) (os 5001 (by decide) (by decide) (by decide) (by decide)) h.1) (lawR_c (by rw [os 0 (by decide) (by decide) (by decide) (by decide)]) (by rw [os 0 (by decide) (by decide) (by decide) (by decide)]) (by rw [os 26 (by decide) (by decide) (by decide) (by decide)]) (os 12 (by decide) (by decide) (by decide) (by decide)) ⟨kk 7 (by decide) (by decide), kk 38 (by decide) (by decide)⟩ (os 5002 (by decide) (by decide) (by decide) (by decide)) (os 5003 (by decide) (by decide) (by decide) (by decide)) (fun l l0 l1 => os _ (by omega) (by omega) (by omega) (by omega)) nn.2.2.2.2 h.2.2.1) ⟨⟨by omega, fun j j0 j1 => ?_⟩, by rw [u41, k53], fun j j0 j1 => ?_, fun j j0 j1 => ?_⟩ (by rw [os 0 (by decide) (by decide) (by decide) (by decide), kk 39 (by decide) (by decide)]; exact h.2.2.2.2.2.2.2.2.2.1.2.1)
    · rw [k53] at j1
      have e28 := (RR_eqH h).2.1
      rw [u24, kk 28 (by decide) (by decide)]
      by_cases y : j = N
      · rw [y, v0, v1, v2, v3, v4]
        exact ⟨⟨q.1, by omega⟩, ⟨q.2.2.1, by omega, by omega⟩, ⟨q.2.2.2.2.1, q.2.2.2.2.2.1⟩, ⟨q.2.2.2.2.2.2.1, q.2.2.2.2.2.2.2.1⟩, hu⟩
      · rw [wr5_lo (by omega), wr5_lo (by omega), wr5_lo (by omega), wr5_lo (by omega), wr5_lo (by omega)]
        exact h2 j j0 (by omega)
    · rw [k53] at j1
      rw [u42, u24]
      by_cases y : j < 5 * N
      · rw [wr5_lo y, wr5_lo y]; exact w2 j j0 y
      · exact wr5_hi (by omega) (by omega)
    · rw [k53] at j1
      rw [u24, kk 28 (by decide) (by decide), kk 29 (by decide) (by decide)]
      by_cases y : j = N
      · rw [y, v0, v1]
        exact ⟨⟨q.1, q.2.1⟩, ⟨q.2.2.1, q.2.2.2.1⟩⟩
      · rw [wr5_lo (by omega), wr5_lo (by omega)]
        exact w3 j j0 (by omega)
theorem sim_end {σ : Mem} (h : RR σ) {n : Int} (hv : InR n) : w_X11_end [(27, 0), (0, n)] σ (fun r τ => w_X12_end [(28, 5000), (0, n)] τ (sQ r)) := by
  have hth := RR_th h
  have nn := RR_n h
  obtain ⟨⟨t1, t2, t3⟩, t4, t5⟩ := h.1
  have i6 : InR (σ 5000 6) := ⟨by omega, by omega⟩
  rw [w_X11_end_e]
  refine ⟨hv, ⟨t1, t2, t3⟩, fun q => ?_, fun q0 q1 => ?_⟩
  · rw [w_X12_end_e]
    exact ⟨hv, i6, fun _ => ⟨rfl, hth⟩, fun a b => absurd q (by omega)⟩
  · have e : up σ 1 1 n 5000 = σ 5000 := up_na _ (by decide)
    rw [w_X12_end_e]
    refine ⟨hv, by rw [e]; exact i6, fun z => absurd z (by rw [e]; omega), fun _ _ => ⟨rfl, ?_⟩⟩
    generalize hμ : up (th0 (up σ 1 1 n)) 5000 6 n = μ
    have o : ∀ b, b ≠ 1 → b ≠ 5000 → μ b = σ b := fun b b0 b1 => by rw [← hμ, up_na _ b1, th_o _ b1, up_na _ b0]
    have k : ∀ x, x ≠ 0 → x ≠ 6 → μ 5000 x = σ 5000 x := fun x x0 x1 => by rw [← hμ, up_nj _ x1, th_k _ x0, e]
    have k6 : μ 5000 6 = n := by rw [← hμ, up_s]
    have z1 : μ 1 1 = n := by rw [← hμ, up_na _ (by decide), th_o _ (by decide), up_s]
    refine RR_few h (fun b a0 a1 a2 a3 a4 a5 a6 a7 a8 => o b a1 a6) (fun x hx => k x (by omega) (by omega)) ⟨⟨by rw [z1]; exact q0, by rw [z1]; omega, fun i i0 i1 => ?_⟩, by rw [k6, z1], fun i i0 i1 => ?_⟩ (lawR_c (by rw [o 0 (by decide) (by decide)]) (by rw [o 0 (by decide) (by decide)]) (by rw [o 26 (by decide) (by decide)]) (o 12 (by decide) (by decide)) ⟨k 7 (by decide) (by decide), k 38 (by decide) (by decide)⟩ (o 5002 (by decide) (by decide)) (o 5003 (by decide) (by decide)) (fun l l0 l1 => o _ (by omega) (by omega)) nn.2.2.2.2 h.2.2.1) (howR_c (by rw [o 41 (by decide) (by decide)]) (o 42 (by decide) (by decide)) (fun x hx => k x (by omega) (by omega)) (o 5024 (by decide) (by decide)) h.2.2.2.2.1) (by rw [o 0 (by decide) (by decide), k 39 (by decide) (by decide)]; exact h.2.2.2.2.2.2.2.2.2.1.2.1)
    · rw [z1] at i1
      rw [o 2 (by decide) (by decide)]; exact t3 i i0 (by omega)
    · rw [z1] at i1
      rw [o 2 (by decide) (by decide), o 5001 (by decide) (by decide)]; exact t5 i i0 (by omega)
/-- the same tape in two memories -/
def tp2 (σ m : Mem) : Prop := tapeOk σ ∧ m 5000 6 = σ 1 1 ∧ ∀ i, 0 ≤ i → i < σ 1 1 → (-128 ≤ m 5001 i ∧ m 5001 i ≤ 127) ∧ m 5001 i % 256 = σ 2 i
def tpF (σ m : Mem) (L : Int) (τ μ : Mem) : Prop := tp2 τ μ ∧ τ 1 1 = σ 1 1 + L ∧ (∀ c, c ≠ 1 → c ≠ 2 → τ c = σ c) ∧ (∀ c, c ≠ 5000 → c ≠ 5001 → μ c = m c) ∧ ∀ x, x ≠ 6 → μ 5000 x = m 5000 x
theorem tpF_tr {σ m τ μ τ' μ' : Mem} {L L' : Int} (h : tpF σ m L τ μ) (g : tpF τ μ L' τ' μ') : tpF σ m (L + L') τ' μ' :=
  ⟨g.1, by have := h.2.1; have := g.2.1; omega, fun c c1 c2 => by rw [g.2.2.1 c c1 c2, h.2.2.1 c c1 c2], fun c c1 c2 => by rw [g.2.2.2.1 c c1 c2, h.2.2.2.1 c c1 c2], fun x hx => by rw [g.2.2.2.2 x hx, h.2.2.2.2 x hx]⟩
theorem addS_sim {σ m : Mem} {b : Int} (h : tp2 σ m) (b0 : 0 ≤ b) (b1 : b ≤ 255) (hl : σ 1 1 + min b 1 ≤ 240) : tpF σ m (min b 1) (addS σ b) (mPu m b) := by
  by_cases e : b = 0
  · rw [addS_neg (fun q => q.1 e), mPu_0 e]
    exact ⟨h, by omega, fun _ _ _ => rfl, fun _ _ _ => rfl, fun _ _ => rfl⟩
  · obtain ⟨⟨t1, t2, t3⟩, t4, t5⟩ := h
    have sb := sby_b (b := b) ⟨b0, by omega⟩
    rw [addS_pos ⟨e, t1, by omega⟩, mPu_1 e]
    refine ⟨⟨⟨by rw [up_s]; omega, by rw [up_s]; omega, fun i i0 i1 => ?_⟩, by rw [up_s, up_s, t4], fun i i0 i1 => ?_⟩, by rw [up_s]; omega, fun c c1 c2 => by rw [up_na _ c1, up_na _ c2], fun c c1 c2 => by rw [up_na _ c1, up_na _ c2], fun x hx => by rw [up_nj _ hx, up_na _ (by decide)]⟩
    · rw [up_s] at i1
      rw [up_na _ (by decide)]
      by_cases y : i = σ 1 1
      · rw [y, up_s]; omega
      · rw [up_nj _ y]; exact t3 i i0 (by omega)
    · rw [up_s] at i1
      rw [up_na _ (show (5001 : Int) ≠ 5000 by decide), up_na _ (show (2 : Int) ≠ 1 by decide), t4]
      by_cases y : i = σ 1 1
      · rw [y, up_s, up_s]; exact ⟨⟨sb.1, sb.2.1⟩, sb.2.2⟩
      · rw [up_nj _ y, up_nj _ y]; exact t5 i i0 (by omega)
theorem addF_sim {σ m : Mem} (x : Int) (h : tp2 σ m) (hl : σ 1 1 + nzc x ≤ 240) : tpF σ m (nzc x) (addF σ x) (mPf m x) := by
  have b1 := bte_bd x 16777216
  have b2 := bte_bd x 65536
  have b3 := bte_bd x 256
  have b4 := bte_bd x 1
  have nz : nzc x = min (bte x 16777216) 1 + min (bte x 65536) 1 + min (bte x 256) 1 + min (bte x 1) 1 := rfl
  have s1 := addS_sim h b1.1 (by omega) (by omega)
  have s2 := tpF_tr s1 (addS_sim s1.1 b2.1 (by omega) (by have := s1.2.1; omega))
  have s3 := tpF_tr s2 (addS_sim s2.1 b3.1 (by omega) (by have := s2.2.1; omega))
  have s4 := tpF_tr s3 (addS_sim s3.1 b4.1 (by omega) (by have := s3.2.1; omega))
  rw [nz]; exact s4
theorem fdM_sim {σ m : Mem} (a b c d e : Int) (h : tp2 σ m) (hl : σ 1 1 + (nzc a + nzc b + nzc c + nzc d + nzc e) ≤ 240) : tpF σ m (nzc a + nzc b + nzc c + nzc d + nzc e) (fdM σ a b c d e) (mFd m a b c d e) := by
  have n1 := nzc_b a
  have n2 := nzc_b b
  have n3 := nzc_b c
  have n4 := nzc_b d
  have n5 := nzc_b e
  have s1 := addF_sim a h (by omega)
  have s2 := tpF_tr s1 (addF_sim b s1.1 (by have := s1.2.1; omega))
  have s3 := tpF_tr s2 (addF_sim c s2.1 (by have := s2.2.1; omega))
  have s4 := tpF_tr s3 (addF_sim d s3.1 (by have := s3.2.1; omega))
  exact tpF_tr s4 (addF_sim e s4.1 (by have := s4.2.1; omega))
theorem sim_feed {σ : Mem} (h : RR σ) {a b c d e : Int} (ha : InR a) (hb : InR b) (hc : InR c) (hd : InR d) (he : InR e) : w_X11_feed [(27, 0), (0, a), (0, b), (0, c), (0, d), (0, e)] σ (fun r τ => w_X12_feed [(28, 5000), (0, a), (0, b), (0, c), (0, d), (0, e)] τ (sQ r)) := by
  have hth := RR_th h
  have nn := RR_n h
  have t := h.1
  have t0 := t.1
  have t4 := t.2.1
  rw [w_X11_feed_e]
  refine ⟨ha, hb, hc, hd, he, t0, fun q => ?_, fun q => ?_⟩
  · rw [w_X12_feed_e]
    refine ⟨ha, hb, hc, hd, he, by have := t0.1; omega, by have := t0.2.1; omega, fun _ => ⟨rfl, hth⟩, fun z => absurd z (by omega)⟩
  · have f1 := fdM_sim a b c d e (σ := σ) (m := σ) t q
    generalize hτ : fdM σ a b c d e = τ at *
    have k5 := f1.2.2.1 5000 (by decide) (by decide)
    have tp : tp2 σ (th0 τ) := by
      refine ⟨t0, by rw [th_k τ (by decide), k5]; exact t4, fun i i0 i1 => ?_⟩
      rw [th_o τ (by decide), f1.2.2.1 5001 (by decide) (by decide)]; exact t.2.2 i i0 i1
    have f2 := fdM_sim a b c d e tp q
    rw [hτ] at f2
    rw [w_X12_feed_e, k5]
    refine ⟨ha, hb, hc, hd, he, by have := t0.1; omega, by have := t0.2.1; omega, fun z => absurd z (by omega), fun _ => ?_⟩
    generalize hμ : mFd (th0 τ) a b c d e = μ at *
    obtain ⟨g1, g2, g3, g4, g5⟩ := f2
    refine ⟨by rw [g1.2.1], ?_⟩
    have o : ∀ b, b ≠ 1 → b ≠ 2 → b ≠ 5000 → b ≠ 5001 → μ b = σ b := fun b b1 b2 b3 b4 => by rw [g4 b b3 b4, th_o τ b3, g3 b b1 b2]
    have k : ∀ x, x ≠ 0 → x ≠ 6 → μ 5000 x = σ 5000 x := fun x x0 x1 => by rw [g5 x x1, th_k τ x0, k5]
    have r1 : μ 1 = τ 1 := by rw [g4 1 (by decide) (by decide), th_o τ (by decide)]
    have r2 : μ 2 = τ 2 := by rw [g4 2 (by decide) (by decide), th_o τ (by decide)]
    refine RR_few h (fun b a0 a1 a2 a3 a4 a5 a6 a7 a8 => o b a1 a2 a6 a7) (fun x hx => k x (by omega) (by omega)) ?_ (lawR_c (by rw [o 0 (by decide) (by decide) (by decide) (by decide)]) (by rw [o 0 (by decide) (by decide) (by decide) (by decide)]) (by rw [o 26 (by decide) (by decide) (by decide) (by decide)]) (o 12 (by decide) (by decide) (by decide) (by decide)) ⟨k 7 (by decide) (by decide), k 38 (by decide) (by decide)⟩ (o 5002 (by decide) (by decide) (by decide) (by decide)) (o 5003 (by decide) (by decide) (by decide) (by decide)) (fun l l0 l1 => o _ (by omega) (by omega) (by omega) (by omega)) nn.2.2.2.2 h.2.2.1) (howR_c (by rw [o 41 (by decide) (by decide) (by decide) (by decide)]) (o 42 (by decide) (by decide) (by decide) (by decide)) (fun x hx => k x (by omega) (by omega)) (o 5024 (by decide) (by decide) (by decide) (by decide)) h.2.2.2.2.1) (by rw [o 0 (by decide) (by decide) (by decide) (by decide), k 39 (by decide) (by decide)]; exact h.2.2.2.2.2.2.2.2.2.1.2.1)
    unfold tapeR tapeOk
    unfold tp2 tapeOk at g1
    rw [r1, r2]; exact g1
