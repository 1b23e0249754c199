/-! questions, the rest -/
theorem sim_tickets {σ : Mem} (h : RR σ) {p v w : Int} (hp : InR p) (hv : InR v) (hw : InR w) : w_X11_tickets [(27, 0), (0, p), (0, v), (0, w)] σ (fun r τ => w_X12_tickets (σ 5000 29).toNat [(28, 5000), (0, p), (0, v), (0, w)] τ (sQ r)) := by
  have ht := RR_th h
  have n := RR_cnt h
  have nn := RR_n h
  have hh := h.2.1.2.2.2.2.2.2.2
  rw [w_X11_tickets_e]
  refine ⟨hp, hv, hw, RR_xS h, fun z => ?_, fun q => ?_, fun q τ B hS hD => ?_⟩
  · rw [n.1] at z
    rw [n.2.1]
    refine Classical.byContradiction (fun y => ?_)
    have := hh.2.1 (by omega)
    omega
  · rw [n.1] at q
    rw [w_X12_tickets_e]
    exact ⟨hp, hv, hw, RR_mX h, by omega, fun _ => ⟨rfl, ht⟩, fun z => absurd z q⟩
  · rw [n.1] at q
    obtain ⟨hr, eH, eA, hx, o⟩ := RR_q h (SW_SA hS)
    have k5 : τ 5000 = σ 5000 := hS.1 5000 (by decide) (by decide) (by decide) (by decide) (by decide) (by decide) (by decide) (by decide) (by decide) (by decide) (by decide) (by decide)
    have t5 : ∀ x, x ≠ 0 → th0 τ 5000 x = σ 5000 x := fun x hx => by rw [th_k τ hx, k5]
    obtain ⟨N, hN⟩ : ∃ N : Nat, σ 5000 29 = N := ⟨(σ 5000 29).toNat, by omega⟩
    have N1 : 1 ≤ N := by
      refine Classical.byContradiction (fun y => ?_)
      have := hh.2.1 (by omega)
      omega
    rw [n.2.1, n.2.2, hN, Int.toNat_natCast] at hD
    obtain ⟨e1, e2⟩ := tick_eq eH eA hx (RR_plan h).1 q.1 (by rw [t5 28 (by decide)]; exact q.2.1) q.2.2.1 (n := N) (by rw [t5 29 (by decide)]; exact hN) N1 (by rw [t5 30 (by decide)]; exact hD)
    rw [n.2.1, hN, Int.toNat_natCast]
    refine ⟨e2, ?_⟩
    rw [w_X12_tickets_e]
    refine ⟨hp, hv, hw, RR_mX hr, by rw [k5]; exact hN, fun z => absurd (by rw [k5]; exact q) z, fun _ υ a b => ⟨?_, RR_QF a b hr⟩⟩
    rw [show τ 5015 = th0 τ 5015 from (th_o τ (by decide)).symm, e1]
    by_cases y : 1152921504606846976 ≤ B (2 ^ N - 1)
    · rw [if_pos y, if_pos y]; split <;> rfl
    · rw [if_neg y, if_neg y]
theorem sim_most {σ : Mem} (h : RR σ) {p w : Int} (hp : InR p) (hw : InR w) : w_X11_most [(27, 0), (0, p), (0, w)] σ (fun r τ => w_X12_most (σ 5000 29).toNat [(28, 5000), (0, p), (0, w)] τ (sQ r)) := by
  have ht := RR_th h
  have n := RR_cnt h
  have nn := RR_n h
  have hh := h.2.1.2.2.2.2.2.2.2
  rw [w_X11_most_e]
  refine ⟨hp, hw, RR_xS h, fun z => ?_, fun q => ?_, fun q τ B hS hD => ?_⟩
  · rw [n.1] at z
    rw [n.2.1]
    refine Classical.byContradiction (fun y => ?_)
    have := hh.2.1 (by omega)
    omega
  · rw [n.1] at q
    rw [w_X12_most_e]
    exact ⟨hp, hw, RR_mX h, by omega, fun _ => ⟨rfl, ht⟩, fun z => absurd z q⟩
  · rw [n.1] at q
    obtain ⟨hr, eH, eA, hx, o⟩ := RR_q h (SW_SA hS)
    have k5 : τ 5000 = σ 5000 := hS.1 5000 (by decide) (by decide) (by decide) (by decide) (by decide) (by decide) (by decide) (by decide) (by decide) (by decide) (by decide) (by decide)
    have t5 : ∀ x, x ≠ 0 → th0 τ 5000 x = σ 5000 x := fun x hx => by rw [th_k τ hx, k5]
    obtain ⟨N, hN⟩ : ∃ N : Nat, σ 5000 29 = N := ⟨(σ 5000 29).toNat, by omega⟩
    have N1 : 1 ≤ N := by
      refine Classical.byContradiction (fun y => ?_)
      have := hh.2.1 (by omega)
      omega
    have S1 := (hh.1 (by omega)).2
    rw [n.2.1, n.2.2, hN, Int.toNat_natCast] at hD
    obtain ⟨e1, e2, e3⟩ := most_eq eH eA hx (RR_plan h).1 q.1 (by rw [t5 28 (by decide)]; exact q.2.1) (n := N) (by rw [t5 29 (by decide)]; exact hN) N1 (by rw [t5 30 (by decide)]; exact S1) (by rw [t5 30 (by decide)]; exact hD)
    rw [n.2.1, hN, Int.toNat_natCast]
    refine ⟨⟨e2, e3⟩, ?_⟩
    rw [w_X12_most_e]
    refine ⟨hp, hw, RR_mX hr, by rw [k5]; exact hN, fun z => absurd (by rw [k5]; exact q) z, fun _ υ a b => ⟨?_, RR_QF a b hr⟩⟩
    rw [show τ 5015 = th0 τ 5015 from (th_o τ (by decide)).symm, e1]
theorem sim_borne {σ : Mem} (h : RR σ) {N w : Int} (hN : InR N) (hw : InR w) : w_X11_borne [(27, 0), (0, N), (0, w)] σ (fun r τ => w_X12_borne (max 0 (min 4 N)).toNat [(28, 5000), (0, N), (0, w)] τ (sQ r)) := by
  have ht := RR_th h
  have n := RR_cnt h
  have nn := RR_n h
  have a := RR_now h
  have e26 : σ 5015 26 ≤ 1000 := by have := a.2.2.2.1; omega
  rw [w_X11_borne_e]
  have key : ∀ τ, SA σ τ → RR τ ∧ τ 5000 = σ 5000 ∧ eqH σ (th0 τ) ∧ eqA σ (th0 τ) 16 5015 ∧ mX (th0 τ) 5015 ∧ th0 τ 5015 = σ 5015 ∧ τ 5015 = σ 5015 := fun τ hS => by
    obtain ⟨hr, eH, eA, hx, o⟩ := RR_q h hS
    exact ⟨hr, hS.1 5000 (by decide) (by decide) (by decide) (by decide) (by decide) (by decide) (by decide) (by decide), eH, eA, hx, o 5015 (by decide) (by decide), hS.1 5015 (by decide) (by decide) (by decide) (by decide) (by decide) (by decide) (by decide) (by decide)⟩
  refine ⟨hN, hw, RR_xA h, by rw [a.2.1.2.2]; exact e26, fun q => ?_, fun q => ⟨fun k r m υ β hk hb hn hF hS => ?_, fun r m τ hb hS => ?_⟩⟩ <;> rw [n.2.1] at q <;> rw [w_X12_borne_e]
  · exact ⟨hN, hw, RR_mX h, e26, fun _ _ => by omega, fun _ => ⟨rfl, ht⟩, fun z => absurd ⟨by omega, z.2.1.1, z.2.1.2, z.2.2.1, z.2.2.2⟩ q⟩
  · obtain ⟨hr, k5, eH, eA, hx, t15, k15⟩ := key β hS
    refine ⟨hN, hw, RR_mX hr, by rw [k15]; exact e26, fun _ _ => by omega, fun z => absurd (by rw [k5]; exact ⟨by omega, ⟨by omega, by omega⟩, by omega, by omega⟩) z, fun _ υ' a' b' => ⟨?_, RR_QF a' b' hr⟩⟩
    have := borne_n eH eA hx (RR_lawOk h) (by rw [t15]; exact e26) (N := (max 0 (min 4 N)).toNat) (k := k) (by omega) (by omega) hb hn
    rw [t15] at this
    rw [k15, this]
    split <;> rfl
  · obtain ⟨hr, k5, eH, eA, hx, t15, k15⟩ := key τ hS
    refine ⟨hN, hw, RR_mX hr, by rw [k15]; exact e26, fun _ _ => by omega, fun z => absurd (by rw [k5]; exact ⟨by omega, ⟨by omega, by omega⟩, by omega, by omega⟩) z, fun _ υ' a' b' => ⟨?_, RR_QF a' b' hr⟩⟩
    have eN : N.toNat = (max 0 (min 4 N)).toNat := by omega
    rw [eN] at hb
    have := borne_y eH eA hx (RR_lawOk h) (by rw [t15]; exact e26) (N := (max 0 (min 4 N)).toNat) (by omega) hb
    rw [t15] at this
    rw [k15, this]
theorem sim_peak {σ : Mem} (h : RR σ) {p w : Int} (hp : InR p) (hw : InR w) : w_X11_peak [(27, 0), (0, p), (0, w)] σ (fun r τ => w_X12_peak [(28, 5000), (0, p), (0, w)] τ (sQ r)) := by
  have ht := RR_th h
  have n := RR_cnt h
  have e := RR_eqH h
  have pe : 0 ≤ p → p < σ 5000 28 → pmin σ 6 p = σ 5007 (4 * p + 3) ∧ ∀ k : Int, pfeel σ 6 p k = mfe σ p k := fun p0 p1 => by
    refine ⟨e.2.2.2.2.1 p 3 p0 p1 (by decide) (by decide), fun k => ?_⟩
    unfold pfeel mfe
    exact e.2.2.2.2.1 p (k % 3) p0 p1 (by omega) (by omega)
  rw [w_X11_peak_e]
  refine ⟨hp, hw, (RR_plan h).1, fun q => ?_, fun q1 q2 => ?_, fun q1 q2 => ?_⟩ <;> rw [w_X12_peak_e]
  · rw [n.1] at q
    exact ⟨hp, hw, RR_mX h, fun _ => ⟨rfl, ht⟩, fun z => by exfalso; omega, fun z => by exfalso; omega⟩
  · rw [n.1] at q1
    obtain ⟨e1, e2⟩ := pe q1.1 q1.2
    have m9 := mMi_9 (RR_mX h) q1.1 q1.2
    refine ⟨hp, hw, RR_mX h, fun z => by exfalso; omega, fun _ => ⟨?_, ht⟩, fun z => by exfalso; omega⟩
    rw [fbest_m _ m9.1, e1, (fbest_c (fun i _ _ => e2 i)).1]
  · rw [n.1] at q1
    obtain ⟨e1, e2⟩ := pe q1.1 q1.2
    refine ⟨hp, hw, RR_mX h, fun z => by exfalso; omega, fun z => by exfalso; omega, fun _ => ⟨?_, ht⟩⟩
    rw [e1, fsum_c (fun i _ _ => e2 i)]
theorem RR_hb {σ : Mem} (h : RR σ) (t : Int) : hbits (σ 18) t (pcnt σ 6 2).toNat = hbits (tkN σ) t (σ 5000 29).toNat := by
  have n := RR_cnt h
  have a := RR_now h
  rw [n.2.1]
  exact hbits_c (fun c c0 c1 => by rw [(a.1 c c0 (by omega)).2.1])
theorem sim_house {σ : Mem} (h : RR σ) {t : Int} (hp : InR t) : w_X11_house [(27, 0), (0, t)] σ (fun r τ => w_X12_house [(28, 5000), (0, t)] τ (sQ r)) := by
  have ht := RR_th h
  have n := RR_cnt h
  have a := RR_now h
  rw [w_X11_house_e]
  refine ⟨hp, (RR_plan h).1, fun i i0 i1 => ?_, fun q => ?_, fun q => ?_⟩
  · have := (a.2.2.2.2 i i0 i1).2.1
    exact ⟨by omega, by omega⟩
  · rw [w_X12_house_e]
    rw [n.2.2] at q
    exact ⟨hp, RR_mX h, fun _ => ⟨rfl, ht⟩, fun z => absurd z q⟩
  · rw [w_X12_house_e]
    rw [n.2.2] at q
    exact ⟨hp, RR_mX h, fun z => absurd q z, fun _ => ⟨by rw [RR_hb h], ht⟩⟩
theorem sim_all {σ : Mem} (h : RR σ) {w : Int} (hw : InR w) : w_X11_all [(27, 0), (0, w)] σ (fun r τ => w_X12_all [(28, 5000), (0, w)] τ (sQ r)) := by
  have ht := RR_th h
  have n := RR_cnt h
  have nn := RR_n h
  have a := RR_now h
  have e := RR_eqH h
  have hh := h.2.1.2.2.2.2.2.2.2.1
  have p30 := a.2.2.1.2.2.1
  rw [w_X11_all_e]
  refine ⟨hw, (RR_plan h).1, by rw [a.2.1.2.1]; exact ⟨by omega, by omega⟩, fun i i0 i1 => ?_, fun i i0 i1 => ?_, fun i i0 i1 => ?_, fun i i0 i1 => ?_, fun q => ?_, fun q => ?_⟩
  · have := (a.2.2.2.2 i i0 i1).1
    exact ⟨by omega, by omega⟩
  · have := (a.2.2.2.2 i i0 i1).2.1
    exact ⟨by omega, by omega⟩
  · have := (a.2.2.2.2 i i0 i1).2.2.1
    exact ⟨by omega, by omega⟩
  · have := (a.2.2.2.2 i i0 i1).2.2.2
    exact ⟨by omega, by omega⟩
  · rw [w_X12_all_e]
    rw [n.2.1] at q
    exact ⟨hw, RR_mX h, fun _ => ⟨rfl, ht⟩, fun z => ⟨fun _ => by exfalso; omega, fun _ => by exfalso; omega, fun _ => by exfalso; omega, fun _ => by exfalso; omega, fun _ => by exfalso; omega, fun _ => by exfalso; omega, fun _ => by exfalso; omega, fun _ => by exfalso; omega⟩⟩
  · rw [n.2.1] at q
    have q0 := hh q
    have E : ∀ v, (0 ≤ w ∧ w ≤ 7) → (∀ x, x = v → True) → (w = 0 → (0, fbest (fun c => σ 5015 (4 * c + 0)) (max 1 (σ 5000 29)).toNat) = v) → (w = 1 → (0, fbest (fun c => σ 5015 (4 * c + 2)) (max 1 (σ 5000 29)).toNat) = v) → (w = 2 → (0, fbest (fun c => σ 5015 (4 * c + 3)) (max 1 (σ 5000 29)).toNat) = v) → (w = 3 → (0, fbest (σ 5011) (max 1 (σ 5000 30)).toNat) = v) → (w = 4 → (0, gb (sdB σ 0 0) (σ 5000 30).toNat) = v) → (w = 5 → (0, fbest (lnF σ) (max 1 (σ 5000 28)).toNat) = v) → (w = 6 → (0, gb (mnB σ) (σ 5000 29).toNat) = v) → (w = 7 → (0, gb (sdB σ 2 6) (σ 5000 30).toNat) = v) → w_X12_all [(28, 5000), (0, w)] σ (sQ v) := by
      intro v hr _ h0 h1 h2 h3 h4 h5 h6 h7
      rw [w_X12_all_e]
      exact ⟨hw, RR_mX h, fun z => by exfalso; omega, fun _ => ⟨fun z => ⟨h0 z, ht⟩, fun z => ⟨h1 z, ht⟩, fun z => ⟨h2 z, ht⟩, fun z => ⟨h3 z, ht⟩, fun z => ⟨h4 z, ht⟩, fun z => ⟨h5 z, ht⟩, fun z => ⟨h6 z, ht⟩, fun z => ⟨h7 z, ht⟩⟩⟩
    have sd : ∀ f g, gb (sdB σ f g) (σ 5000 30).toNat = gb (sldB (σ 18) (pcnt σ 6 2) f g) (pcnt σ 6 3).toNat := fun f g => by
      rw [n.2.2]
      refine gb_cong (fun t _ _ => ?_)
      unfold sdB sldB
      rw [RR_hb h]
    have bst : ∀ (f g : Int → Int), (∀ c, 0 ≤ c → c < σ 5000 29 → f c = g c) → fbest g (max 1 (σ 5000 29)).toNat = fbest f (pcnt σ 6 2).toNat := fun f g hfg => by
      rw [fbest_m _ nn.2.1.1, n.2.1, (fbest_c (fun i i0 i1 => hfg i i0 (by omega))).1]
    refine ⟨fun z => ?_, fun z => ?_, fun z => ?_, fun z => ?_, fun z => ?_, fun z => ?_, fun z => ?_, fun z => ?_⟩
    · refine E _ (by omega) (fun _ _ => trivial) (fun _ => ?_) (fun y => by omega) (fun y => by omega) (fun y => by omega) (fun y => by omega) (fun y => by omega) (fun y => by omega) (fun y => by omega)
      rw [bst (σ 17) _ (fun c c0 c1 => by rw [Int.add_zero]; exact (a.1 c c0 c1).1)]
    · refine E _ (by omega) (fun _ _ => trivial) (fun y => by omega) (fun _ => ?_) (fun y => by omega) (fun y => by omega) (fun y => by omega) (fun y => by omega) (fun y => by omega) (fun y => by omega)
      rw [bst (σ 19) _ (fun c c0 c1 => (a.1 c c0 c1).2.2.1)]
    · refine E _ (by omega) (fun _ _ => trivial) (fun y => by omega) (fun y => by omega) (fun _ => ?_) (fun y => by omega) (fun y => by omega) (fun y => by omega) (fun y => by omega) (fun y => by omega)
      rw [bst (σ 20) _ (fun c c0 c1 => (a.1 c c0 c1).2.2.2)]
    · refine E _ (by omega) (fun _ _ => trivial) (fun y => by omega) (fun y => by omega) (fun y => by omega) (fun _ => ?_) (fun y => by omega) (fun y => by omega) (fun y => by omega) (fun y => by omega)
      rw [n.2.2, (fbest_c (f := fun t => pval σ 6 3 t 0) (g := σ 5011) (n := (max 1 (σ 5000 30)).toNat) (fun i i0 i1 => e.2.2.2.2.2.1 i i0 (by omega))).1]
    · refine E _ (by omega) (fun _ _ => trivial) (fun y => by omega) (fun y => by omega) (fun y => by omega) (fun y => by omega) (fun _ => ?_) (fun y => by omega) (fun y => by omega) (fun y => by omega)
      rw [sd]
    · refine E _ (by omega) (fun _ _ => trivial) (fun y => by omega) (fun y => by omega) (fun y => by omega) (fun y => by omega) (fun y => by omega) (fun _ => ?_) (fun y => by omega) (fun y => by omega)
      have : fbest (lonF σ) (max 1 (σ 5000 28)).toNat = fbest (lnF σ) (max 1 (σ 5000 28)).toNat := (fbest_c (fun i i0 i1 => by
        have i2 : i < σ 5000 28 := by omega
        unfold lonF lnF
        rw [show pmin σ 6 i = σ 5007 (4 * i + 3) from e.2.2.2.2.1 i 3 i0 i2 (by decide) (by decide)]
        exact fsum_c (fun k _ _ => e.2.2.2.2.1 i (k % 3) i0 i2 (by omega) (by omega)))).1
      rw [n.1, this]
    · refine E _ (by omega) (fun _ _ => trivial) (fun y => by omega) (fun y => by omega) (fun y => by omega) (fun y => by omega) (fun y => by omega) (fun y => by omega) (fun _ => ?_) (fun y => by omega)
      have : gb (monB (σ 19) (σ 16 5)) (σ 5000 29).toNat = gb (mnB σ) (σ 5000 29).toNat := gb_cong (fun c c0 c1 => by
        unfold monB mnB
        rw [a.2.1.2.1, (a.1 c c0 (by omega)).2.2.1])
      rw [n.2.1, this]
    · refine E _ (by omega) (fun _ _ => trivial) (fun y => by omega) (fun y => by omega) (fun y => by omega) (fun y => by omega) (fun y => by omega) (fun y => by omega) (fun y => by omega) (fun _ => ?_)
      rw [sd]
theorem sim_count {σ : Mem} (h : RR σ) {w : Int} (hw : InR w) : w_X11_count [(27, 0), (0, w)] σ (fun r τ => w_X12_count [(28, 5000), (0, w)] τ (sQ r)) := by
  have ht := RR_th h
  have n := RR_cnt h
  have nn := RR_n h
  have a := RR_now h
  have W := RR_W h
  obtain ⟨⟨tt, t6, -⟩, -, ⟨l1, l2, -⟩, ⟨-, -, s3, -⟩, ⟨-, w1, -⟩, -, ⟨p1, -⟩, -, -, ⟨-, m2, -⟩, -⟩ := id h
  have E : ∀ v, (w = 0 → (0, σ 5000 29) = v) → (w = 1 → (0, σ 5000 30) = v) → (w = 2 → (0, σ 5000 28) = v) → (w = 3 → (0, σ 5000 7) = v) → (w = 4 → (0, σ 5000 34) = v) → (w = 5 → (0, σ 5000 6) = v) → (w = 6 → (0, σ 5000 38) = v) → (w = 7 → (0, σ 5015 26) = v) → (w = 8 → (0, sumC (fun c => σ 5015 (4 * c + 3)) (σ 5000 29).toNat) = v) → (w = 9 → (0, σ 5015 24) = v) → (w = 10 → (0, σ 5000 39) = v) → (w = 11 → (0, σ 5000 53) = v) → (w = 12 → (0, σ 5015 27) = v) → (w = 13 → (0, σ 5000 48) = v) → (w < 0 ∨ 13 < w → (0, -1000000) = v) → w_X12_count [(28, 5000), (0, w)] σ (sQ v) := by
    intro v h0 h1 h2 h3 h4 h5 h6 h7 h8 h9 h10 h11 h12 h13 h14
    rw [w_X12_count_e]
    exact ⟨hw, nn.2.1.1, nn.2.1.2, fun z => ⟨h0 z, ht⟩, fun z => ⟨h1 z, ht⟩, fun z => ⟨h2 z, ht⟩, fun z => ⟨h3 z, ht⟩, fun z => ⟨h4 z, ht⟩, fun z => ⟨h5 z, ht⟩, fun z => ⟨h6 z, ht⟩, fun z => ⟨h7 z, ht⟩, fun z => ⟨h8 z, ht⟩, fun z => ⟨h9 z, ht⟩, fun z => ⟨h10 z, ht⟩, fun z => ⟨h11 z, ht⟩, fun z => ⟨h12 z, ht⟩, fun z => ⟨h13 z, ht⟩, fun z => ⟨h14 z, ht⟩⟩
  have s8 : sumC (fun c => σ 5015 (4 * c + 3)) (σ 5000 29).toNat = sumC (σ 20) (pcnt σ 6 2).toNat := by
    rw [n.2.1]
    exact sumC_cong (fun c c0 c1 => ((a.1 c c0 (by omega)).2.2.2).symm)
  rw [w_X11_count_e]
  refine ⟨hw, (RR_plan h).1, ⟨by omega, by omega⟩, fun z => ?_, fun z => ?_, fun z => ?_, fun z => ?_, fun z => ?_, fun z => ?_, fun z => ?_, fun z => ?_, fun z => ?_, fun z => ?_, fun z => ?_, fun z => ?_, fun z => ?_, fun z => ?_, fun z => ?_⟩ <;> refine E _ (fun y => ?_) (fun y => ?_) (fun y => ?_) (fun y => ?_) (fun y => ?_) (fun y => ?_) (fun y => ?_) (fun y => ?_) (fun y => ?_) (fun y => ?_) (fun y => ?_) (fun y => ?_) (fun y => ?_) (fun y => ?_) (fun y => ?_)
  all_goals first | (exfalso; omega) | rw [s8] | rw [n.2.1] | rw [n.2.2] | rw [n.1] | rw [l1] | rw [s3] | rw [t6] | rw [l2] | rw [a.2.1.2.2] | rw [s8] | rw [a.2.1.1] | rw [m2.1] | rw [w1] | rw [W.2.2] | rw [p1] | rfl
