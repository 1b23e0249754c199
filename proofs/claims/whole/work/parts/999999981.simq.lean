/-! questions: the class's answer is the reference's -/
abbrev sQ (r : AV) : AV → Mem → Prop := fun r' υ => r' = r ∧ RR υ
theorem InR_s {x : Int} (h0 : -10000 ≤ x) (h1 : x ≤ 10000) : InR x := ⟨by omega, by omega⟩
theorem fbest_c {f g : Int → Int} : ∀ {n : Nat}, (∀ i : Int, 0 ≤ i → i < n → f i = g i) → fbest f n = fbest g n ∧ 0 ≤ fbest f n ∧ (fbest f n < n ∨ fbest f n = 0) := by
  intro n
  induction n with
  | zero => intro _; exact ⟨rfl, Int.le_refl _, Or.inr rfl⟩
  | succ n ih =>
    intro h
    obtain ⟨e, b0, b1⟩ := ih (fun i a b => h i a (by omega))
    rw [fbest_s, fbest_s, ← e, h n (by omega) (by omega)]
    have : f (fbest f n) = g (fbest f n) := h _ b0 (by omega)
    rw [this]
    refine ⟨rfl, ?_, ?_⟩ <;> split <;> omega
theorem fbest_m (f : Int → Int) {x : Int} (h : 0 ≤ x) : fbest f (max 1 x).toNat = fbest f x.toNat := by
  by_cases c : x = 0
  · rw [c]; exact fbest_1 f
  · rw [show max 1 x = x by omega]
theorem fsum_c {f g : Int → Int} : ∀ {n : Nat}, (∀ i : Int, 0 ≤ i → i < n → f i = g i) → fsum f n = fsum g n := by
  intro n
  induction n with
  | zero => intro _; rfl
  | succ n ih =>
    intro h
    show fsum f n + f n = fsum g n + g n
    rw [ih (fun i a b => h i a (by omega)), h n (by omega) (by omega)]
theorem fstO_c {f g : Int → Int} : ∀ {n : Nat}, (∀ i : Int, 0 ≤ i → i < n → f i = g i) → fstO f n = fstO g n := by
  intro n
  induction n with
  | zero => intro _; rfl
  | succ n ih =>
    intro h
    have e := ih (fun i a b => h i a (by omega))
    have b := fstO_b f n
    show (if f n ≠ -1 ∧ (fstO f n = -1 ∨ f n < f (fstO f n)) then (n : Int) else fstO f n) = if g n ≠ -1 ∧ (fstO g n = -1 ∨ g n < g (fstO g n)) then (n : Int) else fstO g n
    rw [← e, h n (by omega) (by omega)]
    by_cases c : fstO f n = -1
    · rw [c]; simp
    · rw [h _ (by omega) (by omega)]
theorem sim_rule {σ : Mem} (h : RR σ) {w : Int} (hw : InR w) : w_X11_rule [(27, 0), (0, w)] σ (fun r τ => w_X12_rule [(28, 5000), (0, w)] τ (sQ r)) := by
  have n := RR_n h
  have c := RR_cnt h
  have ht := RR_th h
  have a := RR_now h
  have e := RR_eqH h
  rw [w_X11_rule_e]
  refine ⟨hw, (RR_plan h).1, fun q => ?_, fun q1 q2 => ?_, fun q1 q2 => ?_⟩ <;> rw [w_X12_rule_e]
  · exact ⟨hw, ⟨by omega, by omega⟩, fun _ => ⟨rfl, ht⟩, fun z1 z2 => by exfalso; omega, fun z1 z2 => by exfalso; omega⟩
  · exact ⟨hw, ⟨by omega, by omega⟩, fun z => by exfalso; omega, fun _ _ => ⟨by rw [e.2.2.2.1], ht⟩, fun _ z => by exfalso; omega⟩
  · exact ⟨hw, ⟨by omega, by omega⟩, fun z => by exfalso; omega, fun _ z => by exfalso; omega, fun _ _ => ⟨by rw [a.2.1.2.1], ht⟩⟩
theorem sim_drama {σ : Mem} (h : RR σ) {p w : Int} (hp : InR p) (hw : InR w) : w_X11_drama [(27, 0), (0, p), (0, w)] σ (fun r τ => w_X12_drama [(28, 5000), (0, p), (0, w)] τ (sQ r)) := by
  have n := RR_n h
  have c := RR_cnt h
  have ht := RR_th h
  have e := RR_eqH h
  rw [w_X11_drama_e]
  refine ⟨hp, hw, (RR_plan h).1, fun q => ?_, fun q => ?_⟩ <;> rw [w_X12_drama_e] <;> rw [c.1] at q
  · exact ⟨hp, hw, n.1.1, n.1.2, fun _ => ⟨rfl, ht⟩, fun z => absurd z q⟩
  · exact ⟨hp, hw, n.1.1, n.1.2, fun z => absurd q z, fun _ => ⟨by rw [e.2.2.2.2.1 p w q.1 q.2.1 q.2.2.1 (by omega)], ht⟩⟩
theorem sim_sitter {σ : Mem} (h : RR σ) {t w : Int} (hp : InR t) (hw : InR w) : w_X11_sitter [(27, 0), (0, t), (0, w)] σ (fun r τ => w_X12_sitter [(28, 5000), (0, t), (0, w)] τ (sQ r)) := by
  have n := RR_n h
  have c := RR_cnt h
  have ht := RR_th h
  have e := RR_eqH h
  have a := RR_now h
  have i24 := a.2.2.1.2.1
  have i : InR (σ 5015 24) := ⟨by omega, by omega⟩
  rw [w_X11_sitter_e]
  refine ⟨hp, hw, (RR_plan h).1, by rw [a.2.1.1]; exact i, fun q => ?_, fun q1 q2 => ?_, fun q1 q2 => ?_⟩ <;> rw [w_X12_sitter_e]
  · rw [c.2.2] at q
    exact ⟨hp, hw, n.2.2.1.1, n.2.2.1.2, i, fun _ => ⟨rfl, ht⟩, fun z => by exfalso; omega, fun z => by exfalso; omega⟩
  · rw [c.2.2] at q1
    exact ⟨hp, hw, n.2.2.1.1, n.2.2.1.2, i, fun z => by exfalso; omega, fun z => ⟨by rw [e.2.2.2.2.2.1 t q1.1 q1.2], ht⟩, fun z => by exfalso; omega⟩
  · rw [c.2.2] at q1
    exact ⟨hp, hw, n.2.2.1.1, n.2.2.1.2, i, fun z => by exfalso; omega, fun z => by exfalso; omega, fun z => ⟨by rw [a.2.1.1], ht⟩⟩
theorem pck_0 {p m o : Int} (p0 : 0 ≤ p) (p3 : p ≤ 3) (o0 : 0 ≤ o) (o1 : o < 64) : pck p m o % 4 = p ∧ pck p m o / 256 = m ∧ pck p m o / 4 % 64 = o := by
  unfold pck; omega
theorem sim_log {σ : Mem} (h : RR σ) {i w : Int} (hi : InR i) (hw : InR w) : w_X11_log [(27, 0), (0, i), (0, w)] σ (fun r τ => w_X12_log [(28, 5000), (0, i), (0, w)] τ (sQ r)) := by
  have ht := RR_th h
  have W := RR_W h
  have l := h.2.2.2.2.2.1.2.2.2.2
  have b27 : 0 ≤ σ 5015 27 ∧ σ 5015 27 ≤ 60 := by omega
  rw [w_X11_log_e]
  refine ⟨hi, hw, RR_pastOk h, h.2.2.2.2.2.2.2.2.2.2.1, fun q => ?_, fun q => ?_⟩ <;> rw [w_X12_log_e] <;> rw [← W.2.2] at q
  · exact ⟨hi, hw, b27.1, b27.2, fun _ => ⟨rfl, ht⟩, fun z => absurd z q⟩
  · refine ⟨hi, hw, b27.1, b27.2, fun z => absurd q z, fun _ => ⟨?_, ht⟩⟩
    obtain ⟨l1, l2, l3, l4⟩ := l i q.1 (by rw [← W.2.2]; exact q.2.1)
    rw [← W.2.2] at l1 l2 l3 l4
    obtain ⟨k1, k2, k3⟩ := pck_0 (m := σ 5015 (28 + 3 * (σ 5015 27 - 1 - i) + 1)) l1.1 l1.2 l3.1 l3.2
    unfold logE
    rw [l4, k1, k2, k3]
    have : w = 0 ∨ w = 1 ∨ w = 2 := by omega
    rcases this with e | e | e <;> rw [e]
    · rw [if_pos rfl, Int.add_zero]
    · rw [if_neg (by decide), if_pos rfl]
    · rw [if_neg (by decide), if_neg (by decide)]
theorem sim_step {σ : Mem} (h : RR σ) {s i w : Int} (hs : InR s) (hi : InR i) (hw : InR w) : w_X11_step [(27, 0), (0, s), (0, i), (0, w)] σ (fun r τ => w_X12_step [(28, 5000), (0, s), (0, i), (0, w)] τ (sQ r)) := by
  have ht := RR_th h
  obtain ⟨s1, s2, s3, s4⟩ := h.2.2.2.1
  rw [w_X11_step_e]
  refine ⟨hs, hi, hw, s1, fun q => ?_, fun q => ?_⟩ <;> rw [w_X12_step_e]
  · refine ⟨hs, hi, hw, s2.1.1, s2.1.2, s2.2.1, fun _ => ⟨rfl, ht⟩, fun z => absurd ?_ q⟩
    have e := (s4 s z.1 (by omega)).1
    exact ⟨⟨z.1, by omega⟩, z.2.2.1, by rw [e]; exact z.2.2.2.1, z.2.2.2.2.1, z.2.2.2.2.2⟩
  · have e := s4 s q.1.1 q.1.2
    refine ⟨hs, hi, hw, s2.1.1, s2.1.2, s2.2.1, fun z => absurd ⟨q.1.1, by omega, q.2.1, by rw [← e.1]; exact q.2.2.1, q.2.2.2.1, q.2.2.2.2⟩ z, fun _ => ⟨?_, ht⟩⟩
    have := e.2 (i * 3 + w) (by omega) (by omega)
    rw [show s * 48 + i * 3 + w = s * 48 + (i * 3 + w) by omega, this, show 48 * s + (i * 3 + w) = 3 * (16 * s + i) + w by omega]
theorem sim_feels {σ : Mem} (h : RR σ) {c p w : Int} (hc : InR c) (hp : InR p) (hw : InR w) : w_X11_feels [(27, 0), (0, c), (0, p), (0, w)] σ (fun r τ => w_X12_feels [(28, 5000), (0, c), (0, p), (0, w)] τ (sQ r)) := by
  have ht := RR_th h
  have n := RR_cnt h
  rw [w_X11_feels_e]
  refine ⟨hc, hp, hw, RR_xS h, fun q => ?_, fun q τ hS => ?_⟩ <;> rw [n.1, n.2.1] at q <;> rw [w_X12_feels_e]
  · exact ⟨hc, hp, hw, RR_mX h, fun _ => ⟨rfl, ht⟩, fun z => absurd z q⟩
  · obtain ⟨hr, eH, eA, hx, o⟩ := RR_q h (SW_SA hS)
    have k5 : τ 5000 = σ 5000 := hS.1 5000 (by decide) (by decide) (by decide) (by decide) (by decide) (by decide) (by decide) (by decide) (by decide) (by decide) (by decide) (by decide)
    have t5 : ∀ x, x ≠ 0 → th0 τ 5000 x = σ 5000 x := fun x hx => by rw [th_k τ hx, k5]
    refine ⟨hc, hp, hw, RR_mX hr, fun z => absurd (by rw [k5]; exact q) z, fun _ υ a b => ⟨?_, RR_QF (QF_tr (QF_th τ) (QF_PF a)) b hr⟩⟩
    obtain ⟨e1, e2⟩ := play_eq eH eA hx q.2.2.1 (by rw [t5 28 (by decide)]; exact q.2.2.2.1) q.1 (by rw [t5 29 (by decide)]; exact q.2.1)
    rw [e1, e2]
theorem sim_odds {σ : Mem} (h : RR σ) {c p w : Int} (hc : InR c) (hp : InR p) (hw : InR w) : w_X11_odds [(27, 0), (0, c), (0, p), (0, w)] σ (fun r τ => w_X12_odds [(28, 5000), (0, c), (0, p), (0, w)] τ (sQ r)) := by
  have ht := RR_th h
  have n := RR_cnt h
  rw [w_X11_odds_e]
  refine ⟨hc, hp, hw, RR_xS h, fun q => ?_, fun q τ hS => ?_⟩ <;> rw [n.1, n.2.1] at q <;> rw [w_X12_odds_e]
  · exact ⟨hc, hp, hw, RR_mX h, fun _ => ⟨rfl, ht⟩, fun z => absurd z q⟩
  · obtain ⟨hr, eH, eA, hx, o⟩ := RR_q h (SW_SA hS)
    have k5 : τ 5000 = σ 5000 := hS.1 5000 (by decide) (by decide) (by decide) (by decide) (by decide) (by decide) (by decide) (by decide) (by decide) (by decide) (by decide) (by decide)
    have t5 : ∀ x, x ≠ 0 → th0 τ 5000 x = σ 5000 x := fun x hx => by rw [th_k τ hx, k5]
    refine ⟨hc, hp, hw, RR_mX hr, fun z => absurd (by rw [k5]; exact q) z, fun _ υ a b => ⟨?_, RR_QF (QF_tr (QF_th τ) (QF_PF a)) b hr⟩⟩
    obtain ⟨e1, e2⟩ := play_eq eH eA hx q.2.2.1 (by rw [t5 28 (by decide)]; exact q.2.2.2.1) q.1 (by rw [t5 29 (by decide)]; exact q.2.1)
    rw [e1, e2]
theorem sim_first {σ : Mem} (h : RR σ) {p : Int} (hp : InR p) : w_X11_first [(27, 0), (0, p)] σ (fun r τ => w_X12_first [(28, 5000), (0, p)] τ (sQ r)) := by
  have ht := RR_th h
  have n := RR_cnt h
  have nn := RR_n h
  rw [w_X11_first_e]
  refine ⟨hp, RR_xS h, fun q => ?_, fun q τ hS => ?_⟩ <;> rw [n.1] at q <;> rw [w_X12_first_e]
  · exact ⟨hp, RR_mX h, fun _ => ⟨rfl, ht⟩, fun z => absurd z q⟩
  · obtain ⟨hr, eH, eA, hx, o⟩ := RR_q h (SW_SA hS)
    have k5 : τ 5000 = σ 5000 := hS.1 5000 (by decide) (by decide) (by decide) (by decide) (by decide) (by decide) (by decide) (by decide) (by decide) (by decide) (by decide) (by decide)
    have t5 : ∀ x, x ≠ 0 → th0 τ 5000 x = σ 5000 x := fun x hx => by rw [th_k τ hx, k5]
    refine ⟨hp, RR_mX hr, fun z => absurd (by rw [k5]; exact q) z, fun _ υ a b => ⟨?_, RR_QF (QF_tr (QF_th τ) (QF_PF a)) b hr⟩⟩
    rw [k5, n.2.1, fstO_c (fun i i0 i1 => (play_eq eH eA hx q.1 (by rw [t5 28 (by decide)]; exact q.2) i0 (by rw [t5 29 (by decide)]; omega)).2)]
theorem sim_halves {σ : Mem} (h : RR σ) {p s i : Int} (hp : InR p) (hs : InR s) (hi : InR i) : w_X11_halves [(27, 0), (0, p), (0, s), (0, i)] σ (fun r τ => w_X12_halves [(28, 5000), (0, p), (0, s), (0, i)] τ (sQ r)) := by
  have ht := RR_th h
  have n := RR_cnt h
  have nn := RR_n h
  rw [w_X11_halves_e]
  refine ⟨hp, hs, hi, RR_xS h, fun q => ?_, fun q τ hS => ?_⟩ <;> rw [n.1] at q <;> rw [w_X12_halves_e]
  · exact ⟨hp, hs, hi, RR_mX h, fun _ => ⟨rfl, ht⟩, fun z => absurd z q⟩
  · obtain ⟨hr, eH, eA, hx, o⟩ := RR_q h (SW_SA hS)
    have k5 : τ 5000 = σ 5000 := hS.1 5000 (by decide) (by decide) (by decide) (by decide) (by decide) (by decide) (by decide) (by decide) (by decide) (by decide) (by decide) (by decide)
    have t5 : ∀ x, x ≠ 0 → th0 τ 5000 x = σ 5000 x := fun x hx => by rw [th_k τ hx, k5]
    refine ⟨hp, hs, hi, RR_mX hr, fun z => absurd (by rw [k5]; exact q) z, fun _ υ a b => ⟨?_, RR_QF (QF_tr (QF_th τ) (QF_PF a)) b hr⟩⟩
    have em : mMi τ p = mMi (th0 τ) p := by unfold mMi; rw [th_o τ (by decide)]
    rw [k5, n.2.1, em, halves_eq (n := (σ 5000 29).toNat) (by omega) (fun c c0 c1 => (play_eq eH eA hx q.1 (by rw [t5 28 (by decide)]; exact q.2.1) c0 (by rw [t5 29 (by decide)]; omega)).1)]
theorem sim_meant {σ : Mem} (h : RR σ) {p w : Int} (hp : InR p) (hw : InR w) : w_X11_meant [(27, 0), (0, p), (0, w)] σ (fun r τ => w_X12_meant [(28, 5000), (0, p), (0, w)] τ (sQ r)) := by
  have ht := RR_th h
  have n := RR_cnt h
  have nn := RR_n h
  have e := RR_eqH h
  rw [w_X11_meant_e]
  refine ⟨hp, hw, RR_xS h, fun q => ?_, fun q τ hS => ?_⟩ <;> rw [n.1] at q <;> rw [w_X12_meant_e]
  · refine ⟨hp, hw, RR_mX h, fun _ => ⟨rfl, ht⟩, fun z => absurd ⟨z.1, z.2.1, z.2.2.1, ?_⟩ q⟩
    rw [e.2.2.2.2.1 p 3 z.1 z.2.1 (by decide) (by decide)]; exact z.2.2.2
  · obtain ⟨hr, eH, eA, hx, o⟩ := RR_q h (SW_SA hS)
    have k5 : τ 5000 = σ 5000 := hS.1 5000 (by decide) (by decide) (by decide) (by decide) (by decide) (by decide) (by decide) (by decide) (by decide) (by decide) (by decide) (by decide)
    have k7 : τ 5007 = σ 5007 := hS.1 5007 (by decide) (by decide) (by decide) (by decide) (by decide) (by decide) (by decide) (by decide) (by decide) (by decide) (by decide) (by decide)
    have t5 : ∀ x, x ≠ 0 → th0 τ 5000 x = σ 5000 x := fun x hx => by rw [th_k τ hx, k5]
    have e3 := e.2.2.2.2.1 p 3 q.1 q.2.1 (by decide) (by decide)
    rw [e3] at q
    have hN : ∀ υ, NF (th0 τ) υ → QF τ υ := fun υ a => QF_tr (QF_th τ) ⟨fun b h1 h2 h3 h4 => a.1 b h1 h2 (by omega) (by omega) (by omega) (by omega), fun k a1 a2 a3 a4 a5 a6 a7 => a.2 k a2 a3 a4⟩
    refine ⟨hp, hw, RR_mX hr, fun z => absurd (by rw [k5, k7]; exact q) z, fun _ υ a b => ⟨?_, RR_QF (hN υ a) b hr⟩⟩
    have m9 := mMi_9 hx q.1 (by rw [t5 28 (by decide)]; exact q.2.1)
    rw [th_o τ (by decide), k7] at m9
    obtain ⟨N, hNn⟩ : ∃ N : Nat, σ 5000 29 = N := ⟨(σ 5000 29).toNat, by omega⟩
    have ev : ∀ c : Int, 0 ≤ c → c < N → mnV σ p w c = mMn (th0 τ) 5015 p w 0 c := by
      intro c c0 c1
      have ec := eA.1 c c0 (by rw [t5 29 (by decide)]; omega)
      have rx := hx.2.2.1 c c0 (by rw [t5 29 (by decide)]; omega)
      rw [t5 30 (by decide)] at rx
      have hb := hbits_64 (σ 18) (σ 18 c) (n := N) (by omega)
      have hbit : ∀ d : Int, 0 ≤ d → d < 6 → bt (hbits (σ 18) (σ 18 c) N) d = if d < N ∧ th0 τ 5015 (4 * d + 1) = th0 τ 5015 (4 * c + 1) ∧ bt 0 d = 0 then 1 else 0 := by
        intro d d0 d1
        rw [hbits_bit _ _ d0 d1 (by omega)]
        by_cases y : d < N
        · rw [(show σ 18 d = _ from (eA.1 d d0 (by rw [t5 29 (by decide)]; omega)).2), (show σ 18 c = _ from ec.2)]
          by_cases y2 : th0 τ 5015 (4 * d + 1) = th0 τ 5015 (4 * c + 1)
          · rw [if_pos ⟨y, y2⟩, if_pos ⟨y, y2, bt_0 d⟩]
          · rw [if_neg (fun z => y2 z.2), if_neg (fun z => y2 z.2.1)]
        · rw [if_neg (fun z => y z.1), if_neg (fun z => y z.1)]
      have hpc := pop_shC (s := th0 τ 5015) (o := 0) (t := th0 τ 5015 (4 * c + 1)) hb.1 hb.2 (n := N) (by omega) hbit
      have h1 := popc_bit hb.1 hb.2 c0 (by omega) (show bt (hbits (σ 18) (σ 18 c) N) c = 1 by rw [hbit c c0 (by omega), if_pos ⟨c1, rfl, bt_0 c⟩])
      have h6 := (popc_b (hbits (σ 18) (σ 18 c) N)).2
      have gm := gmv_mR (k := w.toNat) eH eA.2.1 eA.2.2 hx q.1 (by rw [t5 28 (by decide)]; exact q.2.1) (t := th0 τ 5015 (4 * c + 1)) (by omega) (by rw [t5 30 (by decide)]; omega) c0 (by rw [t5 29 (by decide)]; omega) ec.1 h1 h6 (by omega)
      rw [show ((w.toNat : Nat) : Int) = w by omega] at gm
      unfold mnV
      rw [n.2.1, hNn, Int.toNat_natCast]
      unfold mMn
      rw [t5 29 (by decide), hNn, Int.toNat_natCast, ← hpc, (show σ 18 c = _ from ec.2)] at *
      rw [gm]
      by_cases y : bt (th0 τ 5015 24) (th0 τ 5015 (4 * c + 1)) = 1
      · rw [if_pos y, if_pos (Or.inr y)]
      · rw [if_neg y, if_neg (fun z => z.elim (fun z => by rw [bt_0] at z; omega) y)]
    rw [k5, n.2.1, hNn, Int.toNat_natCast, sumC_cong (fun c c0 c1 => ev c c0 c1)]
    have sb : 0 ≤ sumC (mnV σ p w) N := (sumC_b (c := 99) (fun c c0 c1 => mnV_b (RR_plan h).1 c0 (by rw [n.2.1]; omega))).1
    rw [sumC_cong (fun c c0 c1 => ev c c0 c1)] at sb
    rw [meant_eq (n := N) (by omega) ev (by rw [sumC_cong (fun c c0 c1 => ev c c0 c1)]; omega)]
theorem sim_hardens {σ : Mem} (h : RR σ) {c p : Int} (hc : InR c) (hp : InR p) : w_X11_hardens [(27, 0), (0, c), (0, p)] σ (fun r τ => w_X12_hardens [(28, 5000), (0, c), (0, p)] τ (sQ r)) := by
  have ht := RR_th h
  have n := RR_cnt h
  rw [w_X11_hardens_e]
  refine ⟨hc, hp, RR_xS h, fun q => ?_, fun q τ hS => ?_⟩ <;> rw [n.1, n.2.1] at q <;> rw [w_X12_hardens_e]
  · exact ⟨hc, hp, RR_mX h, fun _ => ⟨rfl, ht⟩, fun z => absurd z q⟩
  · have hr := RR_SA hS h
    have qq : ∀ b, 111 < b → τ b = σ b := fun b hb => hS.1 b (by omega) (by omega) (by omega) (by omega) (by omega) (by omega) (by omega) (by omega)
    have k5 := qq 5000 (by decide)
    have eH : eqH σ τ := eqH_m (fun x _ => by rw [k5]) (fun b hb => qq b (by omega)) (RR_eqH h)
    have eA : eqA σ τ 16 5015 := by
      have := RR_eqA h
      unfold eqA at *
      rw [k5, qq 5015 (by decide)]; exact this
    refine ⟨hc, hp, RR_mX hr, fun z => absurd (by rw [k5]; exact q) z, fun _ υ a b => ⟨?_, RR_QF a b hr⟩⟩
    rw [hard_eq eH eA (RR_mX hr) (RR_lawOk h) q.1 (by rw [k5]; exact q.2.1) q.2.2.1 (by rw [k5]; exact q.2.2.2)]
theorem sim_whose {σ : Mem} (h : RR σ) {c : Int} (hc : InR c) : w_X11_whose [(27, 0), (0, c)] σ (fun r τ => w_X12_whose [(28, 5000), (0, c)] τ (sQ r)) := by
  have ht := RR_th h
  have n := RR_cnt h
  rw [w_X11_whose_e]
  refine ⟨hc, RR_xS h, RR_clu h, fun q => ?_, fun q τ hS => ?_⟩ <;> rw [n.2.1] at q <;> rw [w_X12_whose_e]
  · exact ⟨hc, RR_mX h, h.2.2.2.2.1.1, fun _ => ⟨rfl, ht⟩, fun z => absurd z q⟩
  · obtain ⟨hr, eH, eA, hx, o⟩ := RR_q h (SW_SA hS)
    have k5 : τ 5000 = σ 5000 := hS.1 5000 (by decide) (by decide) (by decide) (by decide) (by decide) (by decide) (by decide) (by decide) (by decide) (by decide) (by decide) (by decide)
    have t5 : ∀ x, x ≠ 0 → th0 τ 5000 x = σ 5000 x := fun x hx => by rw [th_k τ hx, k5]
    have hrt := RR_th hr
    have eW : eqW σ (th0 τ) := by
      have := h.2.2.2.2.1.2
      unfold eqW at *
      rw [t5 53 (by decide), t5 29 (by decide), t5 28 (by decide), o 5024 (by decide) (by decide)]; exact this
    have hWQ : ∀ υ, WF (th0 τ) υ → QF τ υ := fun υ a => QF_tr (QF_th τ) ⟨fun b h1 h2 h3 h4 => a.1 b h1 h2 (by omega) (by omega), fun k a1 a2 a3 a4 a5 a6 a7 => a.2 k a2 a3 a4⟩
    refine ⟨hc, RR_mX hr, hr.2.2.2.2.1.1, fun z => absurd (by rw [k5]; exact q) z, fun _ υ a b => ⟨?_, RR_QF (hWQ υ a) b hr⟩⟩
    rw [sus_eq eH eA hx eW hrt.2.2.2.2.1.1 q.1 (by rw [t5 29 (by decide)]; exact q.2), t5 30 (by decide), k5]
theorem sim_following {σ : Mem} (h : RR σ) {c v : Int} (hc : InR c) (hv : InR v) : w_X11_following [(27, 0), (0, c), (0, v)] σ (fun r τ => w_X12_following [(28, 5000), (0, c), (0, v)] τ (sQ r)) := by
  have ht := RR_th h
  have n := RR_cnt h
  have nn := RR_n h
  rw [w_X11_following_e]
  refine ⟨hc, hv, RR_xS h, RR_clu h, fun q => ?_, fun q τ hS => ?_⟩ <;> rw [n.2.1] at q <;> rw [w_X12_following_e]
  · exact ⟨hc, hv, RR_mX h, h.2.2.2.2.1.1, fun _ => ⟨rfl, ht⟩, fun z => absurd z q⟩
  · obtain ⟨hr, eH, eA, hx, o⟩ := RR_q h (SW_SA hS)
    have k5 : τ 5000 = σ 5000 := hS.1 5000 (by decide) (by decide) (by decide) (by decide) (by decide) (by decide) (by decide) (by decide) (by decide) (by decide) (by decide) (by decide)
    have t5 : ∀ x, x ≠ 0 → th0 τ 5000 x = σ 5000 x := fun x hx => by rw [th_k τ hx, k5]
    have hrt := RR_th hr
    have eW : eqW σ (th0 τ) := by
      have := h.2.2.2.2.1.2
      unfold eqW at *
      rw [t5 53 (by decide), t5 29 (by decide), t5 28 (by decide), o 5024 (by decide) (by decide)]; exact this
    have hWQ : ∀ υ, WF (th0 τ) υ → QF τ υ := fun υ a => QF_tr (QF_th τ) ⟨fun b h1 h2 h3 h4 => a.1 b h1 h2 (by omega) (by omega), fun k a1 a2 a3 a4 a5 a6 a7 => a.2 k a2 a3 a4⟩
    refine ⟨hc, hv, RR_mX hr, hr.2.2.2.2.1.1, fun z => absurd (by rw [k5]; exact q) z, fun _ υ a b => ⟨?_, RR_QF (hWQ υ a) b hr⟩⟩
    have es := sus_eq eH eA hx eW hrt.2.2.2.2.1.1 q.1 (by rw [t5 29 (by decide)]; exact q.2.1)
    have g6 := gb_64 (fiB (th0 τ) c) (n := (th0 τ 5000 30).toNat) (by rw [t5 30 (by decide)]; omega)
    have hz : ∀ i : Int, th0 τ 5000 30 ≤ i → i < 6 → bt (gb (fiB (th0 τ) c) (th0 τ 5000 30).toNat) i = 0 := fun i i0 i1 => by
      rw [t5 30 (by decide)] at i0 ⊢
      rw [gb_bit _ (by omega) i1 _ (by omega), if_neg (by omega)]
    rw [es, foll_eq eH eA hx q.1 (by rw [t5 29 (by decide)]; exact q.2.1) hz, t5 30 (by decide), t5 28 (by decide), k5]
theorem sim_game {σ : Mem} (h : RR σ) {o r p x y w : Int} (ho : InR o) (hr' : InR r) (hp : InR p) (hx' : InR x) (hy : InR y) (hw : InR w) : w_X11_game [(27, 0), (0, o), (0, r), (0, p), (0, x), (0, y), (0, w)] σ (fun a τ => w_X12_game [(28, 5000), (0, o), (0, r), (0, p), (0, x), (0, y), (0, w)] τ (sQ a)) := by
  have ht := RR_th h
  have n := RR_cnt h
  rw [w_X11_game_e]
  refine ⟨ho, hr', hp, hx', hy, hw, RR_xS h, fun q => ?_, fun q τ hS hg => ?_⟩ <;> rw [n.1, n.2.1, n.2.2] at q <;> rw [w_X12_game_e]
  · exact ⟨ho, hr', hp, hx', hy, hw, RR_mX h, fun _ => ⟨rfl, ht⟩, fun z => absurd z q⟩
  · obtain ⟨hr, eH, eA, hx, oo⟩ := RR_q h (SW_SA hS)
    have k5 : τ 5000 = σ 5000 := hS.1 5000 (by decide) (by decide) (by decide) (by decide) (by decide) (by decide) (by decide) (by decide) (by decide) (by decide) (by decide) (by decide)
    have t5 : ∀ x, x ≠ 0 → th0 τ 5000 x = σ 5000 x := fun x hx => by rw [th_k τ hx, k5]
    have a5 : σ 16 5 = th0 τ 5015 25 := by rw [oo 5015 (by decide) (by decide)]; exact (RR_now h).2.1.2.1
    rw [n.2.2, ← t5 30 (by decide)] at hg
    have q' := q
    rw [← t5 28 (by decide), ← t5 29 (by decide), ← t5 30 (by decide)] at q'
    refine ⟨ho, hr', hp, hx', hy, hw, RR_mX hr, fun z => absurd (by unfold gmP; rw [k5]; exact q) z, fun _ υ a b => ⟨?_, RR_QF a b hr⟩⟩
    obtain ⟨e1, e2⟩ := gnF_eq eH eA a5 hx q'.1.1 q'.1.2.1 q'.1.2.2.1 q'.1.2.2.2.1 q'.1.2.2.2.2 hg q'.2.1 q'.2.2.1
    have : w = 0 ∨ w = 1 := by omega
    rcases this with e | e <;> rw [e]
    · rw [if_pos rfl, e1]
    · rw [if_neg (by decide), e2]
theorem sim_rests {σ : Mem} (h : RR σ) {o r p i : Int} (ho : InR o) (hr' : InR r) (hp : InR p) (hi : InR i) : w_X11_rests [(27, 0), (0, o), (0, r), (0, p), (0, i)] σ (fun a τ => w_X12_rests [(28, 5000), (0, o), (0, r), (0, p), (0, i)] τ (sQ a)) := by
  have ht := RR_th h
  have n := RR_cnt h
  have nw := RR_now h
  have p30 := nw.2.2.1.2.2.1
  rw [w_X11_rests_e]
  refine ⟨ho, hr', hp, hi, RR_xS h, by rw [nw.2.1.2.1]; omega, fun q => ?_, fun q τ hS hg => ?_⟩ <;> rw [n.1, n.2.1] at q <;> rw [w_X12_rests_e]
  · exact ⟨ho, hr', hp, hi, RR_mX h, fun _ => ⟨rfl, ht⟩, fun z => absurd z q⟩
  · have hr := RR_SA (SW_SA hS) h
    have qq : ∀ b, 111 < b → τ b = σ b := fun b hb => hS.1 b (by omega) (by omega) (by omega) (by omega) (by omega) (by omega) (by omega) (by omega) (by omega) (by omega) (by omega) (by omega)
    have k5 := qq 5000 (by decide)
    have eH : eqH σ τ := eqH_m (fun x _ => by rw [k5]) (fun b hb => qq b (by omega)) (RR_eqH h)
    have eA : eqA σ τ 16 5015 := by
      have := RR_eqA h
      unfold eqA at *
      rw [k5, qq 5015 (by decide)]; exact this
    have a5 : σ 16 5 = τ 5015 25 := by rw [qq 5015 (by decide)]; exact nw.2.1.2.1
    have k30 : τ 5000 30 = σ 5000 30 := by rw [k5]
    rw [n.2.2, ← k30] at hg
    have q' := q
    rw [← k5] at q'
    refine ⟨ho, hr', hp, hi, RR_mX hr, fun z => absurd (by unfold gmP; exact q') z, fun _ υ a b => ⟨?_, RR_QF a b hr⟩⟩
    rw [n.2.2, ← k30, rests_eq eH eA a5 (RR_mX hr) q'.1.1 q'.1.2.1 q'.1.2.2.1 q'.1.2.2.2.1 q'.1.2.2.2.2 hg i]
