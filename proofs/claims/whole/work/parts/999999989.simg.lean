/-! RUN side by side -/
theorem aud_g {σ : Mem} {A x c v : Int} (hx : 1 ≤ x ∧ x ≤ 4) (c0 : 0 ≤ c) (c1 : c < 6) {k : Int} (k0 : 0 ≤ k) (k1 : k < 27) : aud (up σ (A + x) c v) A k = upf (aud σ A) ((x - 1) * 6 + c) v k := by
  unfold upf aud
  by_cases x1 : k < 6
  · rw [if_pos x1, if_pos x1]
    by_cases y : x = 1 ∧ k = c
    · rw [if_pos (by omega), y.1, y.2, up_s]
    · rw [if_neg (by omega)]
      by_cases z : x = 1
      · rw [z, up_nj _ (by omega)]
      · rw [up_na _ (by omega)]
  · rw [if_neg x1, if_neg x1]
    by_cases x2 : k < 12
    · rw [if_pos x2, if_pos x2]
      by_cases y : x = 2 ∧ k - 6 = c
      · rw [if_pos (by omega), y.1, y.2, up_s]
      · rw [if_neg (by omega)]
        by_cases z : x = 2
        · rw [z, up_nj _ (by omega)]
        · rw [up_na _ (by omega)]
    · rw [if_neg x2, if_neg x2]
      by_cases x3 : k < 18
      · rw [if_pos x3, if_pos x3]
        by_cases y : x = 3 ∧ k - 12 = c
        · rw [if_pos (by omega), y.1, y.2, up_s]
        · rw [if_neg (by omega)]
          by_cases z : x = 3
          · rw [z, up_nj _ (by omega)]
          · rw [up_na _ (by omega)]
      · rw [if_neg x3, if_neg x3]
        by_cases x4 : k < 24
        · rw [if_pos x4, if_pos x4]
          by_cases y : x = 4 ∧ k - 18 = c
          · rw [if_pos (by omega), y.1, y.2, up_s]
          · rw [if_neg (by omega)]
            by_cases z : x = 4
            · rw [z, up_nj _ (by omega)]
            · rw [up_na _ (by omega)]
        · rw [if_neg x4, if_neg x4, if_neg (by omega), up_na _ (by omega)]
theorem aud_gk {σ : Mem} {A x v : Int} (h4 : 4 ≤ x) (h6 : x ≤ 6) {k : Int} (k1 : k < 27) : aud (up σ A x v) A k = upf (aud σ A) (x + 20) v k := by
  unfold upf aud
  rw [up_na _ (show A + 1 ≠ A by omega), up_na _ (show A + 2 ≠ A by omega), up_na _ (show A + 3 ≠ A by omega), up_na _ (show A + 4 ≠ A by omega)]
  by_cases e : k = x + 20
  · rw [if_pos e, if_neg (by omega), if_neg (by omega), if_neg (by omega), if_neg (by omega), show k - 20 = x by omega, up_s]
  · rw [if_neg e, up_nj _ (by omega)]
theorem sh_au {σ m τ μ : Mem} {a w p : Int} (ha : a = 16 ∨ a = 21) (hH : eqH σ m) (hn : auR (m 5000 29) (m 5000 30) (aud σ a) (m w)) (hx : mX m w) (hB : planB σ 6) (h9 : pval σ 6 1 p 3 ≤ 9) (p0 : 0 ≤ p) (p1 : p < m 5000 28) (he : m w 26 < 999) (hS : shP σ τ a p) (hM : mEv m w p μ) : auR (m 5000 29) (m 5000 30) (aud τ a) (μ w) ∧ sumC (pFl σ a p) (pcnt σ 6 2).toNat = mEm m w p := by
  have hex := mEv_x hx (by omega) hM
  have n29 := hx.2.1.2.2.1
  have l27 := hx.2.2.2.2.2.2
  obtain ⟨P1, P2, P3, P4⟩ := auR_p n29.2 hn
  have hA : eqA σ m a w := ⟨fun c c0 c1 => ⟨(P1 c c0 c1).1, (P1 c c0 c1).2.1⟩, P2, P4⟩
  obtain ⟨υ', hP, hok, hμ⟩ := hM
  obtain ⟨q1, q2, q3, q4, q5, q6⟩ := hS
  have fl : ∀ c, 0 ≤ c → c < m 5000 29 → mFl m w p (m 5007 (4 * p + 3)).toNat c = pFl σ a p c := fun c c0 c1 => ((play_eq hH hA hx p0 p1 c0 c1).1).symm
  have ob : ∀ c, 0 ≤ c → c < m 5000 29 → (bt (mOu m w p (m 5007 (4 * p + 3)).toNat) c = 1 ↔ pOa σ a p c ≠ -1) := fun c c0 c1 => by
    rw [mOu_oa n29.2 c0 c1, (play_eq hH hA hx p0 p1 c0 c1).2]
  have r2 : τ (a + 2) = σ (a + 2) := q1 _ (by omega) (by omega) (by omega) (by omega) (by omega) (by omega) (by omega) (by omega) (by omega) (by omega) (by omega) (by omega)
  have r3 : τ (a + 3) = σ (a + 3) := q1 _ (by omega) (by omega) (by omega) (by omega) (by omega) (by omega) (by omega) (by omega) (by omega) (by omega) (by omega) (by omega)
  have uw : μ w = mER (m w) (mFl m w p (m 5007 (4 * p + 3)).toNat) (mOu m w p (m 5007 (4 * p + 3)).toNat) (m 5000 29) (sumC (mFl m w p (m 5007 (4 * p + 3)).toNat) (m 5000 29).toNat) p := by rw [hμ, setv_s]
  have g29 := MG_29 hex.2.1
  have hexr := hex.1.2.2
  rw [g29.1, g29.2.1] at hexr
  refine ⟨⟨fun c c0 c1 => ?_, ?_, hexr, by rw [hex.2.2.2.2]; omega, fun i i0 i1 => ?_⟩, play_sum hH hA hx p0 p1⟩
  · have e := audg τ a c0 (show c < 6 by omega)
    have b := P1 c c0 c1
    obtain ⟨k1, k2, k3, k4⟩ := mER_c (r := m w) (fl := mFl m w p (m 5007 (4 * p + 3)).toNat) (o := mOu m w p (m 5007 (4 * p + 3)).toNat) (A := sumC (mFl m w p (m 5007 (4 * p + 3)).toNat) (m 5000 29).toNat) (p := p) n29.2 l27.1 l27.2 c0 c1
    rw [e.1, e.2.1, e.2.2.1, e.2.2.2, uw, k1, k2, k3, k4, r2, r3, q4 c, q5 c, hH.1, fl c c0 c1, if_pos (show 0 ≤ c ∧ c < m 5000 29 from ⟨c0, c1⟩), b.1, b.2.1, b.2.2.1, b.2.2.2]
    refine ⟨?_, rfl, rfl, rfl⟩
    have := ob c c0 c1
    by_cases y : pOa σ a p c ≠ -1
    · rw [if_pos ⟨c0, c1, y⟩, if_pos (this.mpr y)]
    · rw [if_neg (fun z => y z.2.2), if_neg (fun z => y (this.mp z))]
  · have k := audgk τ a
    have K := mER_k (r := m w) (fl := mFl m w p (m 5007 (4 * p + 3)).toNat) (o := mOu m w p (m 5007 (4 * p + 3)).toNat) (A := sumC (mFl m w p (m 5007 (4 * p + 3)).toNat) (m 5000 29).toNat) (p := p) n29.2 l27.1 l27.2
    rw [k.1, k.2.1, k.2.2, uw, K.1, K.2.1, K.2.2, q3 4, q3 5, q3 6, if_pos rfl, if_neg (show ¬ (5 : Int) = 4 by decide), if_neg (show ¬ (5 : Int) = 6 by decide), if_neg (show ¬ (6 : Int) = 4 by decide), if_pos rfl, P3, P4]
    exact ⟨rfl, rfl, rfl⟩
  · have e := audg τ a i0 i1
    have e0 := audg σ a i0 i1
    have b := hn.2.2.2.2 i i0 i1
    rw [e0.1, e0.2.1, e0.2.2.1, e0.2.2.2] at b
    have pb := pFl_b (a := a) hB h9 i0 i1
    rw [e.1, e.2.1, e.2.2.1, e.2.2.2, r2, r3, q4 i, q5 i]
    refine ⟨?_, b.2.1, b.2.2.1, ?_⟩
    · split <;> omega
    · split <;> omega
theorem mSp_Q {σ τ : Mem} {w v : Int} (h : mSp σ 5016 w τ v) : QF σ τ := by
  rcases h with ⟨-, ⟨υ, h1, h2, rfl⟩, -⟩ | ⟨-, rfl, -⟩ | ⟨-, -, rfl, -⟩
  · have q := QF_PF h1
    exact ⟨fun b a1 a2 a3 a4 => by rw [setv_o _ _ (by omega)]; exact q.1 b a1 a2 a3 a4, fun k a1 a2 a3 a4 a5 a6 a7 => by rw [setv_o _ _ (by decide)]; exact q.2 k a1 a2 a3 a4 a5 a6 a7⟩
  · unfold chM
    exact QF_up (QF_up (QF_rf σ) (Or.inl rfl)) (Or.inl rfl)
  · exact QF_up (QF_rf σ) (Or.inl rfl)
theorem QF_eqH {σ m μ : Mem} (h : QF m μ) (hH : eqH σ m) : eqH σ μ := eqH_m (fun k hk => h.2 k (by omega) (by omega) (by omega) (by omega) (by omega) (by omega) (by omega)) (fun b hb => h.1 b (by omega) (by omega) (by omega) (by omega)) hH
theorem sr_sim {σ m τ μ : Mem} {s i d w y : Int} (hH : eqH σ m) (hn : auR (m 5000 29) (m 5000 30) (aud σ 21) (m 5016)) (hx : mX m 5016) (hxp : xP σ) (e0 : σ 14 (s * 48 + i * 3) = m 5013 w) (e1 : σ 14 (s * 48 + i * 3 + 1) = m 5013 (w + 1)) (e2 : σ 14 (s * 48 + i * 3 + 2) = m 5013 (w + 2)) (hm : mCs m 5016 w) (hS : stR σ s i d τ) (hM : mSp m 5016 w μ y) : auR (m 5000 29) (m 5000 30) (aud τ 21) (μ 5016) ∧ d = y := by
  have n29 := hx.2.1.2.2.1
  have n30 := hx.2.1.2.2.2.1
  obtain ⟨P1, P2, P3, P4⟩ := auR_p n29.2 hn
  unfold stR at hS
  unfold mSp at hM
  rw [e0, e1] at hS
  unfold mCs at hm
  by_cases c0 : m 5013 w = 0
  · rw [if_pos c0] at hS
    rcases hm with ⟨-, g1, g2, g3⟩ | ⟨q, -⟩ | ⟨q, -⟩
    · rcases hM with ⟨-, hM, hy⟩ | ⟨q, -⟩ | ⟨q, -⟩
      · obtain ⟨s1, s2⟩ := sh_au (Or.inr rfl) hH hn hx hxp.1.2.1 (hxp.2.2.1 _) g1 g2 g3 hS.1 hM
        exact ⟨s1, by rw [hS.2, hy]; exact s2⟩
      · omega
      · exact absurd c0 q
    · omega
    · exact absurd c0 q
  · rw [if_neg c0] at hS
    obtain ⟨hS, hd⟩ := hS
    unfold qsM at hS
    rw [e0, e1, e2] at hS
    by_cases c1 : m 5013 w = 1
    · rw [if_pos c1] at hS
      rcases hm with ⟨q, -⟩ | ⟨-, g⟩ | ⟨-, q, -⟩
      · exact absurd q c0
      · rcases hM with ⟨q, -⟩ | ⟨-, hM, hy⟩ | ⟨-, q, -⟩
        · exact absurd q c0
        · obtain ⟨g1, g2, g3, g4, g5, g6⟩ := g
          generalize m 5013 (w + 1) = c at *
          generalize m 5013 (w + 2) = t at *
          have e := P1 c g1 g2
          rw [e.2.2.1, P3] at hS
          have u15 : ∀ j, μ 5016 j = if j = 4 * c + 2 then m 5016 (4 * c + 2) - m 5016 25 else if j = 4 * c + 1 then t else m 5016 j := fun j => by
            rw [hM]; unfold chM
            by_cases z : j = 4 * c + 2
            · rw [if_pos z, z, up_s]
            · rw [if_neg z, up_nj _ z]
              by_cases z2 : j = 4 * c + 1
              · rw [if_pos z2, z2, up_s]
              · rw [if_neg z2, up_nj _ z2]
          have ta : ∀ k, 0 ≤ k → k < 27 → aud τ 21 k = upf (upf (aud σ 21) (c + 12) (m 5016 (4 * c + 2) - m 5016 25)) (c + 6) t k := fun k k0 k1 => by
            rw [hS, aud_g (A := 21) (x := 2) ⟨by decide, by decide⟩ g1 (by omega) k0 k1, show ((2 : Int) - 1) * 6 + c = c + 6 by omega]
            unfold upf
            by_cases z : k = c + 6
            · rw [if_pos z, if_pos z]
            · rw [if_neg z, if_neg z, aud_g (A := 21) (x := 3) ⟨by decide, by decide⟩ g1 (by omega) k0 k1, show ((3 : Int) - 1) * 6 + c = c + 12 by omega]
              rfl
          exact ⟨ch_au n29.2 n30.2 hn g1 g2 g3 g4 g6 ta (fun j _ _ => u15 j), by rw [hd, hy]⟩
        · exact absurd c1 q
      · exact absurd c1 q
    · rw [if_neg c1] at hS
      rcases hm with ⟨q, -⟩ | ⟨q, -⟩ | ⟨-, -, g1, g2, g3⟩
      · exact absurd q c0
      · exact absurd q c1
      · rcases hM with ⟨q, -⟩ | ⟨q, -⟩ | ⟨-, -, hM, hy⟩
        · exact absurd q c0
        · exact absurd q c1
        · generalize m 5013 (w + 1) = t at *
          have i64 := hx.2.2.2.1
          have io := ill_or i64.1 i64.2 g1 (by omega) g3
          rw [P2, io.1] at hS
          rw [io.1] at hM
          have u15 : μ 5016 = upf (m 5016) 24 (m 5016 24 + 2 ^ t.toNat) := by rw [hM, up_row]
          have ta : ∀ k, 0 ≤ k → k < 27 → aud τ 21 k = upf (aud σ 21) 24 (m 5016 24 + 2 ^ t.toNat) k := fun k k0 k1 => by
            rw [hS, aud_gk (by decide) (by decide) k1]; rfl
          exact ⟨auR_c n29.2 ta (fun j _ _ => by rw [u15]) (auR_k n29.2 hn (Or.inl ⟨rfl, io.2.1, io.2.2⟩)), by rw [hd, hy]⟩
theorem rnM_pre {s : Int} {σ : Mem} {k : Nat} : ∀ (d : Nat) (τ : Mem) (v : Int), rnM s (k + 1 + d) σ τ v → ∃ u x, rnM s k σ u x ∧ mCs u 5016 (rwI s k) := by
  intro d
  induction d with
  | zero => rintro τ v ⟨u, x, y, h1, h2, -⟩; exact ⟨u, x, h1, h2⟩
  | succ d ih => rintro τ v ⟨u, x, y, h1, -⟩; exact ih u x h1
theorem rnX_pre {s : Int} {σ : Mem} {k : Nat} : ∀ (d : Nat) (τ : Mem) (v : Int), rnX s (k + 1 + d) σ v τ → ∃ u x, rnX s k σ x u ∧ csP u s k 21 := by
  intro d
  induction d with
  | zero => rintro τ v ⟨u, x, y, h1, h2, -⟩; exact ⟨u, x, h1, h2⟩
  | succ d ih => rintro τ v ⟨u, x, y, h1, -⟩; exact ih u x h1
theorem rn_sim {σ m : Mem} {s N : Int} (hH : eqH (apM σ) m) (hn : auR (m 5000 29) (m 5000 30) (aud (apM σ) 21) (m 5016)) (hx : mX m 5016) (hxp : xP (apM σ)) (hA : SA σ (apM σ)) (hse : ∀ j, 0 ≤ j → j < 3 * N → σ 14 (s * 48 + j) = m 5013 (48 * s + j)) : ∀ (k : Nat), (k : Int) ≤ N → ∀ τ μ M V, rnX s k σ M τ → rnM s k m μ V → auR (μ 5000 29) (μ 5000 30) (aud τ 21) (μ 5016) ∧ eqH τ μ ∧ (xP τ ∧ SA σ τ) ∧ mX μ 5016 ∧ QF m μ ∧ M = V ∧ ((k : Int) < N → (csP τ s k 21 ↔ mCs μ 5016 (rwI s k))) := by
  have fin : ∀ (k : Nat) (τ μ : Mem), eqH τ μ → auR (μ 5000 29) (μ 5000 30) (aud τ 21) (μ 5016) → mX μ 5016 → SA σ τ → QF m μ → (k : Int) < N → (csP τ s k 21 ↔ mCs μ 5016 (rwI s k)) := by
    intro k τ μ f1 f2 f3 f4 f5 f6
    have se := sea_e hse (k := k) (by omega) f6
    have r14 : τ 14 = σ 14 := SA_r f4 (by omega)
    have r13 : μ 5013 = m 5013 := f5.1 5013 (by decide) (by decide) (by decide) (by decide)
    exact cs_eq f1 f2 f3.2.1.2.2.1.2 (by rw [r14, r13]; exact se.1) (by rw [r14, r13]; exact se.2.1) (by rw [r14, r13]; exact se.2.2)
  intro k
  induction k with
  | zero =>
    rintro _ τ μ M V ⟨h1, h1'⟩ ⟨h2, h2'⟩
    subst h1; subst h2
    exact ⟨hn, hH, ⟨hxp, hA⟩, hx, QF_rf _, by rw [h1', h2'], fin 0 _ _ hH hn hx hA (QF_rf _)⟩
  | succ k ih =>
    rintro hk τ μ M V ⟨υ, x, d, p1, c1, s1, eM⟩ ⟨u, x', y, q1, d1, m1, eV⟩
    obtain ⟨i1, i2, ⟨i3, i4⟩, i5, i6, i7, -⟩ := ih (by omega) υ u x x' p1 q1
    have se := sea_e hse (k := k) (by omega) (by omega)
    have r14 : υ 14 = σ 14 := SA_r i4 (by omega)
    have r13 : u 5013 = m 5013 := i6.1 5013 (by decide) (by decide) (by decide) (by decide)
    obtain ⟨t1, t2⟩ := sr_sim i2 i1 i5 i3 (by rw [r14, r13]; exact se.1) (by rw [r14, r13]; exact se.2.1) (by rw [r14, r13]; exact se.2.2) d1 s1 m1
    have X := stR_x i3 c1 s1
    have Q := mSp_Q m1
    have M' := mSp_x i5 i1.2.2.2.1 d1 m1
    have A := SA_tr i4 X.2
    have H : eqH τ μ := QF_eqH Q (eqH_SA X.2 i3.1.2.2.1 i2)
    have k29 := Q.2 29 (by decide) (by decide) (by decide) (by decide) (by decide) (by decide) (by decide)
    have k30 := Q.2 30 (by decide) (by decide) (by decide) (by decide) (by decide) (by decide) (by decide)
    have t1' : auR (μ 5000 29) (μ 5000 30) (aud τ 21) (μ 5016) := by rw [k29, k30]; exact t1
    exact ⟨t1', H, ⟨X.1, A⟩, M'.1, QF_tr i6 Q, by rw [eM, eV, i7, t2], fin (k + 1) _ _ H t1' M'.1 A (QF_tr i6 Q)⟩
theorem run_fin {σ τ : Mem} (h : RR σ) {s w : Int} (hs : InR s) (hw : InR w) (q : (0 ≤ s ∧ s < σ 13 3) ∧ 0 < σ 5000 29 ∧ 0 ≤ w ∧ w ≤ 1) {k : Nat} {M val : Int} (hP : rnX s k σ M τ) (hA : SA σ τ) (hst : ((k : Int) < σ 15 s ∧ ¬ csP τ s k 21) ∨ (k : Int) = σ 15 s) (hval : val = if w = 1 then M else if (k : Int) = σ 15 s then -1 else (k : Int)) : w_X12_run [(28, 5000), (0, s), (0, w)] τ (sQ (0, val)) := by
  have nn := RR_n h
  have a := RR_now h
  obtain ⟨sea, seo, s3, s4⟩ := h.2.2.2.1
  obtain ⟨hr, m5, -, m1, o⟩ := RR_q h hA
  have t : ∀ b, 111 < b → τ b = σ b := fun b hb => hA.1 b (by omega) (by omega) (by omega) (by omega) (by omega) (by omega) (by omega) (by omega)
  have k5 := t 5000 (by decide)
  have s4' := s4 s q.1.1 q.1.2
  obtain ⟨ax1, ax2⟩ := ap_x (RR_xA h)
  have mxr := RR_mX hr
  have l27 := mxr.2.2.2.2.2.2
  have tc : ∀ b, b ≠ 5016 → trC τ b = th0 τ b := fun b hb => trC_o τ hb
  have tk : ∀ x, x ≠ 0 → trC τ 5000 x = σ 5000 x := fun x hx => by rw [tc 5000 (by decide), th_k τ hx, k5]
  have mok : mOk (trC τ) := mOk_c (by rw [tc 5000 (by decide)]) (fun b hb => by rw [tc b (by omega)]) m1.2.1.1
  have hx16 : mX (trC τ) 5016 := QF_mX (QF_tC τ) mok mxr mxr.2.2 (fun j j0 j1 => trC_j l27.1 j0 j1)
  have eH : eqH (apM σ) (trC τ) := eqH_SA ax2 (RR_lawOk h) (eqH_m (fun x hx => by rw [tc 5000 (by decide)]) (fun b hb => by rw [tc b (by omega)]) m5)
  have hau : auR (trC τ 5000 29) (trC τ 5000 30) (aud (apM σ) 21) (trC τ 5016) := by
    rw [tk 29 (by decide), tk 30 (by decide)]
    refine auR_c nn.2.1.2 (fun x x0 x1 => ?_) (fun j j0 j1 => ?_) h.2.2.2.2.2.1.1
    · unfold apM; rw [aud_set _ _ _ x0 x1]
    · rw [trC_j l27.1 j0 j1, t 5015 (by decide)]
  have P := rn_sim eH hau hx16 ax1 ax2 (s := s) (N := σ 15 s) (fun j j0 j1 => by rw [tc 5013 (by decide), th_o τ (by decide), t 5013 (by decide)]; exact s4'.2 j j0 j1)
  rw [w_X12_run_e]
  refine ⟨hs, hw, mxr, by rw [t 5015 (by decide)]; exact a.2.2.2.1, by unfold seOk; rw [k5, t 5013 (by decide), t 5014 (by decide)]; exact seo, fun z => absurd ⟨q.1.1, by rw [k5, ← s3]; exact q.1.2, by rw [k5]; omega, q.2.2.1, q.2.2.2⟩ z, fun _ n_i μ V hM hle hend => ?_⟩
  rw [t 5014 (by decide), ← s4'.1] at hle hend ⊢
  have kle : (k : Int) ≤ σ 15 s := by rcases hst with ⟨y, -⟩ | y <;> omega
  have ek : k = n_i := by
    rcases Nat.lt_trichotomy k n_i with y | y | y
    · exfalso
      obtain ⟨d, hd⟩ : ∃ d, n_i = k + 1 + d := ⟨n_i - k - 1, by omega⟩
      rw [hd] at hM
      obtain ⟨u, x, hu, hcu⟩ := rnM_pre d μ V hM
      have R := (P k kle τ u M x hP hu).2.2.2.2.2.2 (by omega)
      rcases hst with ⟨-, z⟩ | z
      · exact z (R.mpr hcu)
      · omega
    · exact y
    · exfalso
      obtain ⟨d, hd⟩ : ∃ d, k = n_i + 1 + d := ⟨k - n_i - 1, by omega⟩
      have hP' := hP
      rw [hd] at hP'
      obtain ⟨u, x, hu, hcu⟩ := rnX_pre d τ M hP'
      have R := (P n_i hle u μ x V hu hM).2.2.2.2.2.2 (by omega)
      rcases hend with z | z
      · omega
      · exact z (R.mp hcu)
  subst ek
  obtain ⟨t1, H, X, MX, G, eV, -⟩ := P k kle τ μ M V hP hM
  exact ⟨by rw [hval, eV], RR_QF (QF_tr (QF_tC τ) G) MX.2.1.1 hr⟩
theorem sim_run {σ : Mem} (h : RR σ) {s w : Int} (hs : InR s) (hw : InR w) : w_X11_run [(27, 0), (0, s), (0, w)] σ (fun r τ => w_X12_run [(28, 5000), (0, s), (0, w)] τ (sQ r)) := by
  have hth := RR_th h
  have n := RR_cnt h
  have nn := RR_n h
  have a := RR_now h
  obtain ⟨sea, seo, s3, s4⟩ := id h.2.2.2.1
  rw [w_X11_run_e]
  refine ⟨hs, hw, RR_xA h, sea, fun j s0 s1 j0 j1 => ?_, fun q => ?_, fun q k M τ hP hA => ⟨fun y1 y2 => ?_, fun y => ?_⟩⟩
  · have b15 := sea.2 s s0 s1
    have s5 := sea.1.2
    have b := seo.2.2 s j s0 (by rw [← s3]; exact s1) j0 (by rw [← (s4 s s0 s1).1]; exact j1)
    rw [(s4 s s0 s1).2 j j0 j1]
    exact ⟨by omega, by omega⟩
  · rw [n.2.1, s3] at q
    rw [w_X12_run_e]
    exact ⟨hs, hw, RR_mX h, a.2.2.2.1, seo, fun _ => ⟨rfl, hth⟩, fun z => absurd ⟨⟨z.1, z.2.1⟩, by omega, z.2.2.2.1, z.2.2.2.2⟩ q⟩
  · rw [n.2.1] at q
    refine run_fin h hs hw q hP hA (Or.inl ⟨y1, y2⟩) ?_
    by_cases w0 : w = 0
    · rw [if_pos w0, if_neg (by omega), if_neg (by omega)]
    · rw [if_neg w0, if_pos (by omega)]
  · rw [n.2.1] at q
    refine run_fin h hs hw q hP hA (Or.inr y) ?_
    by_cases w0 : w = 0
    · rw [if_pos w0, if_neg (by omega), if_pos y]
    · rw [if_neg w0, if_pos (by omega)]
