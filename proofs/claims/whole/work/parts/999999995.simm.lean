/-! a SEASON taken on both sides -/
theorem stepF_v {t : Int → Int} {n p : Int} (ht : ∀ i, n ≤ i → t i = -1) (hp : 0 ≤ p ∧ p ≤ n) (h : (stepF t n p).1 ≠ -1) : (-1 ≤ (stepF t n p).1 ∧ (stepF t n p).1 ≤ 9) ∧ (-1 ≤ (stepF t n p).2.2.1 ∧ (stepF t n p).2.2.1 ≤ 9) ∧ -1 ≤ (stepF t n p).2.2.2 ∧ (stepF t n p).2.2.2 ≤ 9 := by
  have b := stepF_b ht hp
  refine ⟨⟨by omega, by omega⟩, ?_⟩
  clear b
  revert h
  unfold stepF
  by_cases c1 : t (sk t n p) = -1 ∨ fidx (stv 20103) (t (sk t n p)) 0 3 = -1
  · rw [if_pos c1]; intro h; exact absurd rfl h
  · rw [if_neg c1]
    by_cases c2 : ¬ (48 ≤ t (sk t n (sk t n p + 1)) ∧ t (sk t n (sk t n p + 1)) ≤ 57)
    · rw [if_pos c2]; intro h; exact absurd rfl h
    · rw [if_neg c2]
      by_cases c3 : fidx (stv 20103) (t (sk t n p)) 0 3 ≠ 1
      · rw [if_pos c3]; intro _
        refine ⟨⟨?_, ?_⟩, ?_, ?_⟩
        · show -1 ≤ t (sk t n (sk t n p + 1)) - 48; omega
        · show t (sk t n (sk t n p + 1)) - 48 ≤ 9; omega
        · show (-1 : Int) ≤ -1; omega
        · show (-1 : Int) ≤ 9; omega
      · rw [if_neg c3]
        by_cases c4 : ¬ (48 ≤ t (sk t n (sk t n (sk t n p + 1) + 1)) ∧ t (sk t n (sk t n (sk t n p + 1) + 1)) ≤ 57)
        · rw [if_pos c4]; intro h; exact absurd rfl h
        · rw [if_neg c4]; intro _
          refine ⟨⟨?_, ?_⟩, ?_, ?_⟩
          · show -1 ≤ t (sk t n (sk t n p + 1)) - 48; omega
          · show t (sk t n (sk t n p + 1)) - 48 ≤ 9; omega
          · show -1 ≤ t (sk t n (sk t n (sk t n p + 1) + 1)) - 48; omega
          · show t (sk t n (sk t n (sk t n p + 1) + 1)) - 48 ≤ 9; omega
theorem seasF_v {t : Int → Int} {n : Int} (ht : ∀ i, n ≤ i → t i = -1) (n0 : 0 ≤ n) : ∀ (f : Nat) (i p : Int) (v : Int → Int), 0 ≤ i → i + f = 16 → 0 ≤ p → p ≤ n → (∀ k, 0 ≤ k → k < 3 * i → -1 ≤ v k ∧ v k ≤ 9) → (seasF t n f i p v).1 = -1 → (1 ≤ (seasF t n f i p v).2.1 ∧ (seasF t n f i p v).2.1 ≤ 16) ∧ ∀ k, 0 ≤ k → k < 3 * (seasF t n f i p v).2.1 → -1 ≤ (seasF t n f i p v).2.2 k ∧ (seasF t n f i p v).2.2 k ≤ 9 := by
  intro f
  induction f with
  | zero =>
    intro i p v i0 i1 p0 p1 hv
    unfold seasF
    intro z
    have z' : p = -1 := z
    omega
  | succ f ih =>
    intro i p v i0 i1 p0 p1 hv
    have b := stepF_b ht ⟨p0, p1⟩
    have s := sk_b t b.2.1
    unfold seasF
    by_cases m1 : (stepF t n p).1 = -1
    · rw [if_pos m1]; intro z
      have z' : (stepF t n p).2.1 = -1 := z
      omega
    · rw [if_neg m1]
      have sv := stepF_v ht ⟨p0, p1⟩ m1
      have hv' : ∀ k, 0 ≤ k → k < 3 * (i + 1) → -1 ≤ upf (upf (upf v (i * 3) (stepF t n p).1) (i * 3 + 1) (stepF t n p).2.2.1) (i * 3 + 2) (stepF t n p).2.2.2 k ∧ upf (upf (upf v (i * 3) (stepF t n p).1) (i * 3 + 1) (stepF t n p).2.2.1) (i * 3 + 2) (stepF t n p).2.2.2 k ≤ 9 := fun k k0 k1 => by
        by_cases e2 : k = i * 3 + 2
        · rw [e2, upf_s2]; exact sv.2.2
        · rw [upf_n2 _ e2]
          by_cases e1 : k = i * 3 + 1
          · rw [e1, upf_s2]; exact sv.2.1
          · rw [upf_n2 _ e1]
            by_cases e0 : k = i * 3
            · rw [e0, upf_s2]; exact sv.1
            · rw [upf_n2 _ e0]; exact hv k k0 (by omega)
      by_cases m2 : t (sk t n (stepF t n p).2.1) = -1
      · rw [if_pos m2]; intro _
        refine ⟨⟨?_, ?_⟩, hv'⟩
        · show 1 ≤ i + 1; omega
        · show i + 1 ≤ 16; omega
      · rw [if_neg m2]
        have lt := sk_lt ht m2
        by_cases m3 : t (sk t n (stepF t n p).2.1) ≠ 59 ∨ i + 1 = 16
        · rw [if_pos m3]; intro z
          have z' : sk t n (stepF t n p).2.1 = -1 := z
          omega
        · rw [if_neg m3]; exact ih _ _ _ (by omega) (by omega) (by omega) (by omega) hv'
theorem seF_v {σ : Mem} (h : tapeOk σ) (z : (seF σ).1 = -1) : (1 ≤ (seF σ).2.1 ∧ (seF σ).2.1 ≤ 16) ∧ ∀ k, 0 ≤ k → k < 3 * (seF σ).2.1 → -1 ≤ (seF σ).2.2 k ∧ (seF σ).2.2 k ≤ 9 := seasF_v (fun i hi => (tsg_bd h i).2.2.2 hi) h.1 16 0 0 _ (by decide) (by decide) (by decide) h.1 (fun k k0 k1 => by omega) z
theorem txS_r {υ : Mem} : (∀ b, b ≠ 5000 → b ≠ 5013 → b ≠ 5014 → txS υ b = υ b) ∧ (∀ x, x ≠ 6 → x ≠ 34 → txS υ 5000 x = υ 5000 x) ∧ txS υ 5000 6 = 0 ∧ txS υ 5000 34 = υ 5000 34 + 1 ∧ (∀ j, txS υ 5013 j = if 48 * υ 5000 34 ≤ j ∧ j < 48 * υ 5000 34 + 48 then υ 5013 (192 + (j - 48 * υ 5000 34)) else υ 5013 j) ∧ ∀ s, txS υ 5014 s = if s = υ 5000 34 then υ 5014 4 else υ 5014 s := by
  unfold txS
  refine ⟨fun b h0 h13 h14 => by rw [up_na _ h0, up_na _ h14, cpy_oo _ _ _ _ _ _ h13, up_na _ h0], fun x h6 h34 => by rw [up_nj _ h34, up_na _ (by decide), cpy_oo _ _ _ _ _ _ (by decide), up_nj _ h6], by rw [up_nj _ (by decide), up_na _ (by decide), cpy_oo _ _ _ _ _ _ (by decide), up_s], by rw [up_s], fun j => ?_, fun s => ?_⟩
  · rw [up_na _ (by decide), up_na _ (by decide)]
    by_cases c : 48 * υ 5000 34 ≤ j ∧ j < 48 * υ 5000 34 + 48
    · rw [if_pos c, cpy_in _ _ _ _ _ _ c, up_na _ (by decide)]
    · rw [if_neg c, cpy_at _ _ _ _ _ _ (by omega), up_na _ (by decide)]
  · rw [up_na _ (by decide)]
    by_cases c : s = υ 5000 34
    · rw [if_pos c, c, up_s]
    · rw [if_neg c, up_nj _ c, cpy_oo _ _ _ _ _ _ (by decide), up_na _ (by decide)]
/-- the STEPS told are as they should be -/
def seT (σ : Mem) : Prop := ∀ k j, 0 ≤ k → k < σ 5000 34 → 0 ≤ j → j < 3 * σ 5014 k → -1 ≤ σ 5013 (48 * k + j) ∧ σ 5013 (48 * k + j) ≤ 9
theorem RR_season {σ τ υ : Mem} (h : RR σ) (z : (seF σ).1 = -1) (c4 : σ 13 3 < 4) {p : Int} {v : Int → Int} (hv : ∀ k, 0 ≤ k → k < (seF σ).2.1 * 3 → v k = (seF σ).2.2 k) (hτ : τ = up (up (up (setP (up σ 1 2 p) (σ 13 3) v) 15 (σ 13 3) (seF σ).2.1) 13 3 (σ 13 3 + 1)) 1 1 0) (hF : SEF (th0 τ) υ) (ok : sRok (sRd (th0 τ)) υ) (hs0 : seT σ) : υ 5000 34 = σ 13 3 ∧ seT (txS υ) ∧ ((seOk (txS υ)) → RR (txS υ)) := by
  have nn := RR_n h
  obtain ⟨⟨a1, a2⟩, sb, s3, s4⟩ := h.2.2.2.1
  have sv := seF_v h.1.1 z
  obtain ⟨o, r1, r14⟩ := sp_r (σ := σ) (p := p) (c := σ 13 3) (v := v)
  have tb : ∀ b, b ≠ 1 → b ≠ 13 → b ≠ 14 → b ≠ 15 → τ b = σ b := fun b h1 h13 h14 h15 => by rw [hτ, up_na _ h1, up_na _ h13, up_na _ h15]; exact o b h1 h14
  have t13 : τ 13 3 = σ 13 3 + 1 := by rw [hτ, up_na _ (by decide), up_s]
  have t11 : τ 1 1 = 0 := by rw [hτ, up_s]
  have t15 : ∀ j, τ 15 j = if j = σ 13 3 then (seF σ).2.1 else σ 15 j := fun j => by
    rw [hτ, up_na _ (by decide), up_na _ (by decide)]
    by_cases c : j = σ 13 3
    · rw [if_pos c, c, up_s]
    · rw [if_neg c, up_nj _ c, o 15 (by decide) (by decide)]
  have t14 : ∀ j, τ 14 j = setP (up σ 1 2 p) (σ 13 3) v 14 j := fun j => by rw [hτ, up_na _ (by decide), up_na _ (by decide), up_na _ (by decide)]
  have t14n : ∀ j, 0 ≤ j → j < 48 → τ 14 (σ 13 3 * 48 + j) = v j := fun j j0 j1 => by
    rw [t14]; unfold setP; rw [if_pos ⟨rfl, by omega, by omega⟩]; congr 1; omega
  have q5 : ∀ b, 5000 ≤ b → τ b = σ b := fun b hb => tb b (by omega) (by omega) (by omega) (by omega)
  have e6 : th0 τ 5000 6 = σ 1 1 := by rw [th_k _ (by decide), q5 5000 (by decide)]; exact h.1.2.1
  have E := sRd_eq (σ := σ) (m := th0 τ) (tx_eq h.1 (by rw [th_o _ (by decide), q5 5001 (by decide)]) e6) e6
  rw [E] at ok
  obtain ⟨ok1, ok2⟩ := ok
  generalize hS : seF σ = S at *
  obtain ⟨f1, f2, f3, f4⟩ := hF
  have ub : ∀ b, b ≠ 5000 → b ≠ 5013 → b ≠ 5014 → υ b = τ b := fun b h1 h2 h3 => by rw [f1 b h1 h2 h3, th_o _ h1]
  have uk : ∀ x, x ≠ 0 → x ≠ 5 → (x < 8 ∨ 12 < x) → υ 5000 x = σ 5000 x := fun x x0 x5 x8 => by rw [f4 x x5 x8, th_k _ x0, q5 5000 (by decide)]
  have u34 : υ 5000 34 = σ 13 3 := by rw [uk 34 (by decide) (by decide) (by decide)]; exact s3.symm
  obtain ⟨g0, gk, g6, g34, g13, g14⟩ := txS_r (υ := υ)
  rw [u34] at g13 g14 g34
  generalize txS υ = μ at *
  have m13o : ∀ j, j < 192 → ¬ (48 * σ 13 3 ≤ j ∧ j < 48 * σ 13 3 + 48) → μ 5013 j = σ 5013 j := fun j j1 c => by rw [g13, if_neg c, f2 j j1, th_o _ (by decide), q5 5013 (by decide)]
  have m13n : ∀ j, 0 ≤ j → j < 48 → μ 5013 (48 * σ 13 3 + j) = υ 5013 (192 + j) := fun j j0 j1 => by rw [g13, if_pos ⟨by omega, by omega⟩]; congr 1; omega
  have m14o : ∀ s, s ≠ σ 13 3 → s ≠ 4 → μ 5014 s = σ 5014 s := fun s e e4 => by rw [g14, if_neg e, f3 s e4, th_o _ (by decide), q5 5014 (by decide)]
  have m14n : μ 5014 (σ 13 3) = S.2.1 := by rw [g14, if_pos rfl]; exact ok1
  refine ⟨u34, fun k j k0 k1 j0 j1 => ?_, fun hse => ?_⟩
  · rw [g34] at k1
    by_cases e : k = σ 13 3
    · rw [e, m14n] at j1
      rw [e, m13n j j0 (by omega), ok2 j j0 (by omega)]
      exact sv.2 j j0 j1
    · rw [m14o k e (by omega)] at j1
      have := a2 k k0 (by omega)
      have := (s4 k k0 (by omega)).1
      rw [m13o _ (by omega) (by omega)]
      exact hs0 k j k0 (by omega) j0 j1
  · have ml : ∀ b, b ≠ 1 → b ≠ 13 → b ≠ 14 → b ≠ 15 → b ≠ 5000 → b ≠ 5013 → b ≠ 5014 → μ b = σ b := fun b h1 h13 h14 h15 h0 h2 h3 => by rw [g0 b h0 h2 h3, ub b h0 h2 h3]; exact tb b h1 h13 h14 h15
    have mt : ∀ b, b < 5000 → μ b = τ b := fun b hb => by rw [g0 b (by omega) (by omega) (by omega), ub b (by omega) (by omega) (by omega)]
    have q : ∀ b, b = -2 ∨ b = 0 ∨ (1 < b ∧ b < 13) ∨ (15 < b ∧ b < 5000) ∨ (5000 < b ∧ b < 5013) ∨ 5014 < b → μ b = σ b := fun b hb => ml b (by omega) (by omega) (by omega) (by omega) (by omega) (by omega) (by omega)
    have k : ∀ x, x = 7 ∨ x = 28 ∨ x = 29 ∨ x = 30 ∨ x = 38 ∨ x = 39 ∨ x = 48 ∨ x = 53 ∨ x = 56 → μ 5000 x = σ 5000 x := fun x hx => by rw [gk x (by omega) (by omega)]; exact uk x (by omega) (by omega) (by omega)
    obtain ⟨h1, h2, h3, h4, h5, h6, h7, h8, h9, h10, h11⟩ := h
    refine ⟨⟨⟨by rw [mt 1 (by decide), t11]; decide, by rw [mt 1 (by decide), t11]; decide, fun i i0 i1 => ?_⟩, by rw [g6, mt 1 (by decide), t11], fun i i0 i1 => ?_⟩, houR_c (q 4 (by decide)) (q 5 (by decide)) (q 7 (by decide)) (q 8 (by decide)) (fun x hx => k x (by omega)) (fun b hb => q b (by omega)) h2, lawR_c (by rw [q 0 (by decide)]) (by rw [q 0 (by decide)]) (by rw [q 26 (by decide)]) (q 12 (by decide)) ⟨k 7 (by decide), k 38 (by decide)⟩ (q 5002 (by decide)) (q 5003 (by decide)) (fun l l0 l1 => q _ (by omega)) nn.2.2.2.2 h3, ⟨⟨by rw [mt 13 (by decide), t13]; omega, fun s s0 s1 => ?_⟩, hse, by rw [mt 13 (by decide), t13, g34], fun s s0 s1 => ?_⟩, howR_c (by rw [q 41 (by decide)]) (q 42 (by decide)) (fun x hx => k x (by omega)) (q 5024 (by decide)) h5, nowR_c nn.2.1.2 (fun j _ _ => by rw [q 16 (by decide)]) (fun b b0 b1 => q b (by omega)) (q 32 (by decide)) (by rw [q 31 (by decide)]) ⟨k 29 (by decide), k 30 (by decide)⟩ (q 5015 (by decide)) h6, pastR_c (fun x _ => by rw [q 31 (by decide)]) (q 32 (by decide)) (q 33 (by decide)) (fun x hx => k x (by omega)) (q 5023 (by decide)) h7, imR_c (fun x _ => by rw [q 31 (by decide)]) (q 34 (by decide)) (q 35 (by decide)) (fun x hx => k x (by omega)) (q 5026 (by decide)) h8, livR_c (q (-2) (by decide)) (k 7 (by decide)) h9, mskR_c (mOk_c (k 7 (by decide)) (fun b hb => q b (by omega)) h10.1) (by rw [q 0 (by decide)]) ⟨k 39 (by decide), k 28 (by decide), k 30 (by decide)⟩ (q 5007 (by decide)) (q 5011 (by decide)) (q 5005 (by decide)) h10, ringR_c (q 32 (by decide)) (q 35 (by decide)) h11⟩
    · rw [mt 1 (by decide), t11] at i1; omega
    · rw [mt 1 (by decide), t11] at i1; omega
    · rw [mt 13 (by decide), t13] at s1
      rw [mt 15 (by decide), t15]
      by_cases e : s = σ 13 3
      · rw [if_pos e]; exact sv.1
      · rw [if_neg e]; exact a2 s s0 (by omega)
    · rw [mt 13 (by decide), t13] at s1
      rw [mt 15 (by decide), t15, mt 14 (by decide)]
      by_cases e : s = σ 13 3
      · rw [if_pos e, e, m14n]
        refine ⟨rfl, fun j j0 j1 => ?_⟩
        rw [t14n j j0 (by omega), m13n j j0 (by omega), ok2 j j0 (by omega)]
        exact hv j j0 (by omega)
      · have b := a2 s s0 (by omega)
        rw [if_neg e, m14o s e (by omega)]
        refine ⟨(s4 s s0 (by omega)).1, fun j j0 j1 => ?_⟩
        rw [t14, r14 _ (by omega), m13o _ (by omega) (by omega)]
        exact (s4 s s0 (by omega)).2 j j0 j1
