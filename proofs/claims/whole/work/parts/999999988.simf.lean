/-! PERFORM side by side -/
theorem AG_rkV {σ τ : Mem} (h : AG σ τ) (hl : lawOk σ) (a b c d e f : Int) : rkV τ a b c d e f = rkV σ a b c d e f := by
  unfold rkV lwV
  rw [h.2.1]
  rcases hl with hl | ⟨h1, -⟩
  · rw [if_pos hl, if_pos hl]
  · rw [show τ (σ 26 1 + 1) = σ (σ 26 1 + 1) from by unfold isLw at h1; exact h.1 _ (by omega) (by omega) (by omega) (by omega) (by omega) (by omega) (by omega) (by omega) (by omega) (by omega)]
theorem AG_eqH {σ τ m : Mem} (h : AG σ τ) (hl : lawOk σ) (hH : eqH σ m) : eqH τ m := eqH_c (fun k => pcnt_cong (h.1 (6 + 2) (by decide) (by decide) (by decide) (by decide) (by decide) (by decide) (by decide) (by decide) (by decide) (by decide)) k) (fun x y z => pval_cong (h.1 (6 + 1) (by decide) (by decide) (by decide) (by decide) (by decide) (by decide) (by decide) (by decide) (by decide) (by decide)) x y z) (AG_rkV h hl) hH
theorem MG_eqH {σ m μ : Mem} (h : MG m μ) (hH : eqH σ m) : eqH σ μ := eqH_m (fun k hk => h.2 k (by omega) (by omega) (by omega) (by omega) (by omega) (by omega) (by omega)) (fun b hb => h.1 b (by omega) (by omega) (by omega)) hH
theorem audg (σ : Mem) (a : Int) {c : Int} (c0 : 0 ≤ c) (c1 : c < 6) : aud σ a c = σ (a + 1) c ∧ aud σ a (c + 6) = σ (a + 2) c ∧ aud σ a (c + 12) = σ (a + 3) c ∧ aud σ a (c + 18) = σ (a + 4) c := ⟨aud_1 σ a c c1, aud_2 σ a c c0 c1, aud_3 σ a c c0 c1, aud_4 σ a c c0 c1⟩
theorem audgk (σ : Mem) (a : Int) : aud σ a 24 = σ a 4 ∧ aud σ a 25 = σ a 5 ∧ aud σ a 26 = σ a 6 := ⟨aud_5 σ a 4 (by decide), aud_5 σ a 5 (by decide), aud_5 σ a 6 (by decide)⟩
theorem auR_p {σ m : Mem} {a w n s : Int} (n6 : n ≤ 6) (h : auR n s (aud σ a) (m w)) : (∀ c, 0 ≤ c → c < n → σ (a + 1) c = m w (4 * c) ∧ σ (a + 2) c = m w (4 * c + 1) ∧ σ (a + 3) c = m w (4 * c + 2) ∧ σ (a + 4) c = m w (4 * c + 3)) ∧ σ a 4 = m w 24 ∧ σ a 5 = m w 25 ∧ σ a 6 = m w 26 := by
  obtain ⟨a1, a2, -⟩ := h
  have k := audgk σ a
  rw [k.1, k.2.1, k.2.2] at a2
  refine ⟨fun c c0 c1 => ?_, a2⟩
  have e := audg σ a c0 (show c < 6 by omega)
  rw [← e.1, ← e.2.1, ← e.2.2.1, ← e.2.2.2]; exact a1 c c0 c1
theorem okC_g {σ m : Mem} {a w : Int} (hH : eqH σ m) (hn : auR (m 5000 29) (m 5000 30) (aud σ a) (m w)) (n6 : m 5000 29 ≤ 6) (c t : Int) : okC σ a c t ↔ mCC m w c t := by
  obtain ⟨p1, p2, p3, p4⟩ := auR_p n6 hn
  unfold okC mCC
  rw [hH.1, hH.2.2.1]
  constructor
  · rintro ⟨⟨c0, c1⟩, ⟨t0, t1⟩, h1, h2⟩
    have e := p1 c c0 c1
    rw [e.2.1] at h1
    rw [e.2.2.1, p3] at h2
    exact ⟨c0, c1, t0, t1, h1, h2⟩
  · rintro ⟨c0, c1, t0, t1, h1, h2⟩
    have e := p1 c c0 c1
    refine ⟨⟨c0, c1⟩, ⟨t0, t1⟩, ?_, ?_⟩
    · rw [e.2.1]; exact h1
    · rw [e.2.2.1, p3]; exact h2
theorem cs_eq {σ m : Mem} {a w s i v : Int} (hH : eqH σ m) (hn : auR (m 5000 29) (m 5000 30) (aud σ a) (m w)) (n6 : m 5000 29 ≤ 6) (e0 : σ 14 (s * 48 + i * 3) = m 5013 v) (e1 : σ 14 (s * 48 + i * 3 + 1) = m 5013 (v + 1)) (e2 : σ 14 (s * 48 + i * 3 + 2) = m 5013 (v + 2)) : csP σ s i a ↔ mCs m w v := by
  have ok := okC_g hH hn n6 (m 5013 (v + 1)) (m 5013 (v + 2))
  obtain ⟨-, p2, -, p4⟩ := auR_p n6 hn
  unfold csP mCs
  rw [e0, e1, e2, p2, p4, hH.2.1, hH.2.2.1]
  by_cases c0 : m 5013 v = 0
  · rw [if_pos c0]
    constructor
    · rintro ⟨x, y, z⟩
      exact Or.inl ⟨c0, x, y, z⟩
    · rintro (⟨-, x, y, z⟩ | ⟨q, -⟩ | ⟨q, -⟩)
      · exact ⟨x, y, z⟩
      · omega
      · exact absurd c0 q
  · rw [if_neg c0]
    by_cases c1 : m 5013 v = 1
    · rw [if_pos c1]
      constructor
      · intro h
        exact Or.inr (Or.inl ⟨c1, ok.mp h⟩)
      · rintro (⟨q, -⟩ | ⟨-, q⟩ | ⟨-, q, -⟩)
        · exact absurd q c0
        · exact ok.mpr q
        · exact absurd c1 q
    · rw [if_neg c1]
      constructor
      · rintro ⟨x, y, z⟩
        exact Or.inr (Or.inr ⟨c0, c1, x, y, z⟩)
      · rintro (⟨q, -⟩ | ⟨q, -⟩ | ⟨-, -, x, y, z⟩)
        · exact absurd q c0
        · exact absurd q c1
        · exact ⟨x, y, z⟩
/-- what a quiet STEP makes of an audience -/
theorem ch_au {n s : Int} {f g r q : Int → Int} (n6 : n ≤ 6) (s6 : s ≤ 6) (h : auR n s f r) {c t : Int} (c0 : 0 ≤ c) (c1 : c < n) (t0 : 0 ≤ t) (t1 : t < s) (hp : r 25 ≤ r (4 * c + 2)) (hg : ∀ k, 0 ≤ k → k < 27 → g k = upf (upf f (c + 12) (r (4 * c + 2) - r 25)) (c + 6) t k) (hq : ∀ j, 0 ≤ j → j < 28 → q j = if j = 4 * c + 2 then r (4 * c + 2) - r 25 else if j = 4 * c + 1 then t else r j) : auR n s g q := by
  refine auR_c n6 hg (fun j j0 j1 => ?_) (auR_ch n6 s6 h c0 c1 t0 t1 hp)
  rw [hq j j0 j1]
  unfold upf
  by_cases y : j = 4 * c + 2
  · rw [if_pos y, if_neg (by omega), if_pos y]
  · rw [if_neg y]
    by_cases y2 : j = 4 * c + 1
    · rw [if_pos y2, if_pos y2]
    · rw [if_neg y2, if_neg y2, if_neg y]
theorem st_sim {σ m τ μ : Mem} {s i w v : Int} (hH : eqH σ m) (hn : nowR σ m) (hp : pastR σ m) (hx : mX m 5015) (hxa : xA σ) (hr : ringR σ) (e0 : σ 14 (s * 48 + i * 3) = m 5013 w) (e1 : σ 14 (s * 48 + i * 3 + 1) = m 5013 (w + 1)) (e2 : σ 14 (s * 48 + i * 3 + 2) = m 5013 (w + 2)) (hc : csP σ s i 16) (hS : stS σ s i τ) (hM : mSp (rmb m) 5015 w μ v) : nowR τ μ ∧ pastR τ μ ∧ ringR τ ∧ τ 31 7 = σ 31 7 ∧ τ 31 8 = σ 31 8 := by
  have n29 := hx.2.1.2.2.1
  have n30 := hx.2.1.2.2.2.1
  have hm := (cs_eq hH hn.1 n29.2 e0 e1 e2).mp hc
  have r13 : rmb m 5013 = m 5013 := rmb_o m (by decide) (by decide)
  have r15 := rmb_15 m
  have s14 : rmM σ 14 = σ 14 := rmM_o σ (by decide) (by decide)
  have ro : ∀ b, b ≠ 31 → b ≠ 33 → rmM σ b = σ b := fun b h1 h2 => rmM_o σ h1 h2
  have r31 := rmM_31 σ
  have rk : ∀ k, k ≠ 48 → rmb m 5000 k = m 5000 k := fun k hk => rmb_k m hk
  obtain ⟨P1, P2, P3, P4⟩ := auR_p n29.2 hn.1
  have hxs := hxa.1
  unfold stS at hS
  unfold csP at hc
  unfold mSp at hM
  rw [r13] at hM
  rw [e0, e1] at hS
  rw [e0, e1, e2] at hc
  unfold mCs at hm
  by_cases c0 : m 5013 w = 0
  · rw [if_pos c0] at hS hc
    rcases hm with ⟨-, g1, g2, g3⟩ | ⟨q, -⟩ | ⟨q, -⟩
    · rcases hM with ⟨-, hM, -⟩ | ⟨q, -⟩ | ⟨q, -⟩
      · obtain ⟨s1, s2, s3, s4⟩ := ev_sim hH hn hp hx hxs.1 (hxs.2.2.1 _) g1 g2 g3 hr hS hM
        exact ⟨s1, s2, s4, evS_7 hS⟩
      · omega
      · exact absurd c0 q
    · omega
    · exact absurd c0 q
  · rw [if_neg c0] at hS
    unfold qsM at hS
    rw [s14, e0, e1, e2] at hS
    by_cases c1 : m 5013 w = 1
    · rw [if_pos c1] at hS
      rcases hm with ⟨q, -⟩ | ⟨-, g⟩ | ⟨-, q, -⟩
      · exact absurd q c0
      · rcases hM with ⟨q, -⟩ | ⟨-, hM, -⟩ | ⟨-, q, -⟩
        · exact absurd q c0
        · obtain ⟨g1, g2, g3, g4, g5, g6⟩ := g
          generalize m 5013 (w + 1) = c at *
          generalize m 5013 (w + 2) = t at *
          have e := P1 c g1 g2
          rw [ro (16 + 3) (by decide) (by decide), ro 16 (by decide) (by decide), e.2.2.1, P3] at hS
          have tb : ∀ b, b < 16 ∨ 20 < b → τ b = rmM σ b := fun b hb => by rw [hS, up_na _ (by omega), up_na _ (by omega)]
          have ub : ∀ b, b ≠ 5015 → μ b = rmb m b := fun b hb => by rw [hM]; unfold chM; rw [up_na _ hb, up_na _ hb]
          have u15 : ∀ j, μ 5015 j = if j = 4 * c + 2 then m 5015 (4 * c + 2) - m 5015 25 else if j = 4 * c + 1 then t else m 5015 j := fun j => by
            rw [hM]; unfold chM
            rw [r15]
            by_cases y : j = 4 * c + 2
            · rw [if_pos y, y, up_s]
            · rw [if_neg y, up_nj _ y]
              by_cases y2 : j = 4 * c + 1
              · rw [if_pos y2, y2, up_s]
              · rw [if_neg y2, up_nj _ y2, r15]
          have ta : ∀ k, 0 ≤ k → k < 27 → aud τ 16 k = upf (upf (aud σ 16) (c + 12) (m 5015 (4 * c + 2) - m 5015 25)) (c + 6) t k := fun k k0 k1 => by
            rw [hS, aud_u (a := 16 + 2) ⟨by decide, by decide⟩ g1 (by omega) k0 k1, show ((16 : Int) + 2 - 17) * 6 + c = c + 6 by omega]
            unfold upf
            by_cases y : k = c + 6
            · rw [if_pos y, if_pos y]
            · rw [if_neg y, if_neg y, aud_u (a := 16 + 3) ⟨by decide, by decide⟩ g1 (by omega) k0 k1, show ((16 : Int) + 3 - 17) * 6 + c = c + 12 by omega]
              unfold upf
              rw [aud_rm σ k1]
          obtain ⟨q1, q2⟩ := act_q (τ := τ) (μ := μ) hn hp n29.2 (fun k _ => by rw [tb 31 (by decide)]) (by rw [tb 32 (by decide), ro 32 (by decide) (by decide)]) (tb 33 (by decide)) ⟨by rw [ub 5000 (by decide), rk 29 (by decide)], by rw [ub 5000 (by decide), rk 30 (by decide)]⟩ (by rw [ub 5000 (by decide)]) (ub 5023 (by decide)) (fun j j0 j1 => by rw [u15 j, if_neg (by omega), if_neg (by omega)]) (ch_au n29.2 n30.2 hn.1 g1 g2 g3 g4 g6 ta (fun j _ _ => u15 j))
          exact ⟨q1, q2, ringR_c (by rw [tb 32 (by decide), ro 32 (by decide) (by decide)]) (by rw [tb 35 (by decide), ro 35 (by decide) (by decide)]) hr, by rw [tb 31 (by decide)]; exact r31.2.2.2.1, by rw [tb 31 (by decide)]; exact r31.2.2.2.2⟩
        · exact absurd c1 q
      · exact absurd c1 q
    · rw [if_neg c1] at hS
      rcases hm with ⟨q, -⟩ | ⟨q, -⟩ | ⟨-, -, g1, g2, g3⟩
      · exact absurd q c0
      · exact absurd q c1
      · rcases hM with ⟨q, -⟩ | ⟨q, -⟩ | ⟨-, -, hM, -⟩
        · exact absurd q c0
        · exact absurd q c1
        · generalize m 5013 (w + 1) = t at *
          have i64 := hx.2.2.2.1
          have io := ill_or i64.1 i64.2 g1 (by omega) g3
          rw [ro 16 (by decide) (by decide), P2, io.1] at hS
          rw [r15, io.1] at hM
          have tb : ∀ b, b < 16 ∨ 20 < b → τ b = rmM σ b := fun b hb => by rw [hS, up_na _ (by omega)]
          have ub : ∀ b, b ≠ 5015 → μ b = rmb m b := fun b hb => by rw [hM, up_na _ hb]
          have u15 : μ 5015 = upf (m 5015) 24 (m 5015 24 + 2 ^ t.toNat) := by rw [hM, up_row, r15]
          have ta : ∀ k, 0 ≤ k → k < 27 → aud τ 16 k = upf (aud σ 16) 24 (m 5015 24 + 2 ^ t.toNat) k := fun k k0 k1 => by
            rw [hS, aud_u16 (by decide) (by decide) k1]
            unfold upf
            rw [aud_rm σ k1]; rfl
          obtain ⟨q1, q2⟩ := act_q (τ := τ) (μ := μ) hn hp n29.2 (fun k _ => by rw [tb 31 (by decide)]) (by rw [tb 32 (by decide), ro 32 (by decide) (by decide)]) (tb 33 (by decide)) ⟨by rw [ub 5000 (by decide), rk 29 (by decide)], by rw [ub 5000 (by decide), rk 30 (by decide)]⟩ (by rw [ub 5000 (by decide)]) (ub 5023 (by decide)) (fun j j0 j1 => by rw [u15, upf_n2 _ (by omega)]) (auR_c n29.2 ta (fun j _ _ => by rw [u15]) (auR_k n29.2 hn.1 (Or.inl ⟨rfl, io.2.1, io.2.2⟩)))
          exact ⟨q1, q2, ringR_c (by rw [tb 32 (by decide), ro 32 (by decide) (by decide)]) (by rw [tb 35 (by decide), ro 35 (by decide) (by decide)]) hr, by rw [tb 31 (by decide)]; exact r31.2.2.2.1, by rw [tb 31 (by decide)]; exact r31.2.2.2.2⟩
theorem pfM_pre {s : Int} {σ : Mem} {k : Nat} : ∀ (d : Nat) (τ : Mem), pfM s (k + 1 + d) σ τ → ∃ u, pfM s k σ u ∧ mCs u 5015 (rwI s k) := by
  intro d
  induction d with
  | zero => rintro τ ⟨u, v, h1, h2, -⟩; exact ⟨u, h1, h2⟩
  | succ d ih => rintro τ ⟨u, v, h1, -, -⟩; exact ih u h1
theorem pfX_pre {s : Int} {σ : Mem} {k : Nat} : ∀ (d : Nat) (τ : Mem), pfX s (k + 1 + d) σ τ → ∃ u, pfX s k σ u ∧ csP u s k 16 := by
  intro d
  induction d with
  | zero => rintro τ ⟨u, h1, h2, -⟩; exact ⟨u, h1, h2⟩
  | succ d ih => rintro τ ⟨u, h1, -, -⟩; exact ih u h1
theorem sea_e {σ m : Mem} {s N : Int} (h : ∀ j, 0 ≤ j → j < 3 * N → σ 14 (s * 48 + j) = m 5013 (48 * s + j)) {k : Int} (k0 : 0 ≤ k) (k1 : k < N) : σ 14 (s * 48 + k * 3) = m 5013 (rwI s k) ∧ σ 14 (s * 48 + k * 3 + 1) = m 5013 (rwI s k + 1) ∧ σ 14 (s * 48 + k * 3 + 2) = m 5013 (rwI s k + 2) := by
  have a0 := h (k * 3) (by omega) (by omega)
  have a1 := h (k * 3 + 1) (by omega) (by omega)
  have a2 := h (k * 3 + 2) (by omega) (by omega)
  rw [show 48 * s + k * 3 = 3 * (16 * s + k) by omega] at a0
  rw [show 48 * s + (k * 3 + 1) = 3 * (16 * s + k) + 1 by omega, ← Int.add_assoc] at a1
  rw [show 48 * s + (k * 3 + 2) = 3 * (16 * s + k) + 2 by omega, ← Int.add_assoc] at a2
  exact ⟨a0, a1, a2⟩
theorem pf_sim {σ m : Mem} {s N : Int} (hH : eqH σ m) (hn : nowR σ m) (hp : pastR σ m) (hx : mX m 5015) (hxa : xA σ) (hr : ringR σ) (hse : ∀ j, 0 ≤ j → j < 3 * N → σ 14 (s * 48 + j) = m 5013 (48 * s + j)) : ∀ (k : Nat), (k : Int) ≤ N → ∀ τ μ, pfX s k σ τ → pfM s k m μ → (nowR τ μ ∧ pastR τ μ ∧ ringR τ ∧ τ 31 7 = σ 31 7 ∧ τ 31 8 = σ 31 8) ∧ eqH τ μ ∧ (xA τ ∧ AF σ τ) ∧ mX μ 5015 ∧ MG m μ ∧ ((k : Int) < N → (csP τ s k 16 ↔ mCs μ 5015 (rwI s k))) := by
  have fin : ∀ (k : Nat) (τ μ : Mem), eqH τ μ → nowR τ μ → mX μ 5015 → AF σ τ → MG m μ → (k : Int) < N → (csP τ s k 16 ↔ mCs μ 5015 (rwI s k)) := by
    intro k τ μ f1 f2 f3 f4 f5 f6
    have se := sea_e hse (k := k) (by omega) f6
    have r14 : τ 14 = σ 14 := AF_r f4 (by omega)
    have r13 : μ 5013 = m 5013 := f5.1 5013 (by decide) (by decide) (by decide)
    exact cs_eq f1 f2.1 f3.2.1.2.2.1.2 (by rw [r14, r13]; exact se.1) (by rw [r14, r13]; exact se.2.1) (by rw [r14, r13]; exact se.2.2)
  intro k
  induction k with
  | zero =>
    intro _ τ μ h1 h2
    have h1' : τ = σ := h1
    have h2' : μ = m := h2
    subst h1'; subst h2'
    exact ⟨⟨hn, hp, hr, rfl, rfl⟩, hH, ⟨hxa, AF_rf _⟩, hx, MG_rf _, fin 0 _ _ hH hn hx (AF_rf _) (MG_rf _)⟩
  | succ k ih =>
    rintro hk τ μ ⟨υ, p1, c1, s1⟩ ⟨u, v, q1, d1, m1⟩
    obtain ⟨⟨i1, i2, i3, i4, i5⟩, i6, ⟨i7, i8⟩, i9, i10, -⟩ := ih (by omega) υ u p1 q1
    have se := sea_e hse (k := k) (by omega) (by omega)
    have r14 : υ 14 = σ 14 := AF_r i8 (by omega)
    have r13 : u 5013 = m 5013 := i10.1 5013 (by decide) (by decide) (by decide)
    obtain ⟨t1, t2, t3, t4, t5⟩ := st_sim i6 i1 i2 i9 i7 i3 (by rw [r14, r13]; exact se.1) (by rw [r14, r13]; exact se.2.1) (by rw [r14, r13]; exact se.2.2) c1 s1 m1
    have W : υ 31 1 ≤ 999 := by
      have := i1.2.2.2.1
      have := i1.1.2.2.2.1
      omega
    have X := stS_x i7 (by omega) c1 s1
    have M := mSp_x (mX_rmb i9) (by rw [rmb_15]; exact i1.1.2.2.2.1) (by rw [mCs_rmb]; exact d1) m1
    have A := AF_tr i8 X.2.1
    have G := MG_tr i10 (MG_tr (MG_rmb u) M.2.1)
    have H : eqH τ μ := MG_eqH (MG_tr (MG_rmb u) M.2.1) (AG_eqH (AF_AG X.2.1) i7.1.1.2.2.1 i6)
    exact ⟨⟨t1, t2, t3, by rw [t4, i4], by rw [t5, i5]⟩, H, ⟨X.1, A⟩, M.1, G, fin (k + 1) _ _ H t1 M.1 A G⟩
theorem sim_perform {σ : Mem} (h : RR σ) {s : Int} (hs : InR s) : w_X11_perform [(27, 0), (0, s)] σ (fun r τ => w_X12_perform [(28, 5000), (0, s)] τ (sQ r)) := by
  have hth := RR_th h
  have n := RR_cnt h
  have nn := RR_n h
  have a := RR_now h
  have W := RR_W h
  obtain ⟨sea, seo, s3, s4⟩ := h.2.2.2.1
  rw [w_X11_perform_e]
  refine ⟨hs, RR_xA h, sea, fun j s0 s1 j0 j1 => ?_, by omega, fun q => ?_, fun q k τ hP hA hxt hst => ?_⟩
  · have b15 := sea.2 s s0 s1
    have s5 := sea.1.2
    have b := seo.2.2 s j s0 (by rw [← s3]; exact s1) j0 (by rw [← (s4 s s0 s1).1]; exact j1)
    rw [(s4 s s0 s1).2 j j0 j1]
    exact ⟨by omega, by omega⟩
  · rw [n.2.1, s3] at q
    rw [w_X12_perform_e]
    exact ⟨hs, RR_mX h, a.2.2.2.1, seo, fun _ => ⟨rfl, hth⟩, fun z => absurd ⟨⟨z.1, z.2.1⟩, by omega⟩ q⟩
  · rw [n.2.1] at q
    have hAG := AF_AG hA
    obtain ⟨m1, m2, m3, m4, m5, o, kk, k5, mo⟩ := RR_m h hAG
    have t : ∀ b, 5000 < b → b < 6000 → τ b = σ b := fun b b0 b1 => by rw [← th_o τ (show b ≠ 5000 by omega)]; exact o b b0 b1
    have s4' := s4 s q.1.1 q.1.2
    have P := pf_sim m5 m3 m4 m1 (RR_xA h) h.2.2.2.2.2.2.2.2.2.2 (s := s) (N := σ 15 s) (fun j j0 j1 => by rw [o 5013 (by decide) (by decide)]; exact s4'.2 j j0 j1)
    rw [w_X12_perform_e]
    refine ⟨hs, m2, by rw [t 5015 (by decide) (by decide)]; exact a.2.2.2.1, by unfold seOk; rw [k5, t 5013 (by decide) (by decide), t 5014 (by decide) (by decide)]; exact seo, fun z => absurd ⟨q.1.1, by rw [k5, ← s3]; exact q.1.2, by rw [k5]; omega⟩ z, fun _ n_i μ hM hle hend => ?_⟩
    rw [t 5014 (by decide) (by decide), ← s4'.1] at hle hend
    have kle : (k : Int) ≤ σ 15 s := by rcases hst with ⟨y, -⟩ | y <;> omega
    have ek : k = n_i := by
      rcases Nat.lt_trichotomy k n_i with y | y | y
      · exfalso
        obtain ⟨d, hd⟩ : ∃ d, n_i = k + 1 + d := ⟨n_i - k - 1, by omega⟩
        rw [hd] at hM
        obtain ⟨u, hu, hcu⟩ := pfM_pre d μ hM
        have R := (P k kle τ u hP hu).2.2.2.2.2 (by omega)
        rcases hst with ⟨-, z⟩ | z
        · exact z (R.mpr hcu)
        · omega
      · exact y
      · exfalso
        obtain ⟨d, hd⟩ : ∃ d, k = n_i + 1 + d := ⟨k - n_i - 1, by omega⟩
        have hP' := hP
        rw [hd] at hP'
        obtain ⟨u, hu, hcu⟩ := pfX_pre d τ hP'
        have R := (P n_i hle u μ hu hM).2.2.2.2.2 (by omega)
        rcases hend with z | z
        · omega
        · exact z (R.mp hcu)
    subst ek
    obtain ⟨⟨t1, t2, t3, t4, t5⟩, H, X, M, G, -⟩ := P k kle τ μ hP hM
    exact ⟨rfl, RR_act h hAG ⟨t4, t5⟩ (MG_tr (MG_th τ) G) M.2.1.1 t1 t2 t3⟩
