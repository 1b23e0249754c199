/-! sets of CHAIRS, SITTER by SITTER: no row is cheaper than the best, and the best is some row's -/
theorem sumC_add (f g : Int → Int) : ∀ n : Nat, sumC (fun i => f i + g i) n = sumC f n + sumC g n := by
  intro n
  induction n with
  | zero => rfl
  | succ n ih => rw [sumC_s, sumC_s, sumC_s, ih]; omega
theorem sumC_mul (a : Int) (f : Int → Int) : ∀ n : Nat, sumC (fun i => a * f i) n = a * sumC f n := by
  intro n
  induction n with
  | zero => show (0 : Int) = a * 0; rw [Int.mul_zero]
  | succ n ih => rw [sumC_s, sumC_s, ih, Int.mul_add]
theorem sumC_0 {f : Int → Int} : ∀ n : Nat, (∀ i : Int, 0 ≤ i → i < n → f i = 0) → sumC f n = 0 := by
  intro n
  induction n with
  | zero => intro _; rfl
  | succ n ih => intro h; rw [sumC_s, ih (fun i a b => h i a (by omega)), h n (by omega) (by omega)]; rfl
theorem sumC_swap (X : Int → Int → Int) (K : Nat) : ∀ n : Nat, sumC (fun t => sumC (fun c => X t c) n) K = sumC (fun c => sumC (fun t => X t c) K) n := by
  intro n
  induction n with
  | zero => exact sumC_0 K (fun _ _ _ => rfl)
  | succ n ih =>
    rw [sumC_s, ← ih, ← sumC_add]
    exact sumC_cong (fun i _ _ => rfl)
theorem sumC_pick (h : Int → Int) {a : Int} (a0 : 0 ≤ a) : ∀ K : Nat, sumC (fun t => if a = t then h t else 0) K = if a < K then h a else 0 := by
  intro K
  induction K with
  | zero => rw [if_neg (by omega)]; rfl
  | succ K ih =>
    rw [sumC_s, ih]
    by_cases e : a = K
    · rw [if_neg (by omega), if_pos e, if_pos (by omega), e]; omega
    · by_cases l : a < K
      · rw [if_pos l, if_neg e, if_pos (by omega)]; omega
      · rw [if_neg l, if_neg e, if_neg (by omega)]; rfl
theorem sumC_ge {f : Int → Int} {M : Int} {a : Int} (M0 : 0 ≤ M) (a0 : 0 ≤ a) (ha : M ≤ f a) : ∀ K : Nat, (∀ i : Int, 0 ≤ i → i < K → 0 ≤ f i) → 0 ≤ sumC f K ∧ (a < K → M ≤ sumC f K) := by
  intro K
  induction K with
  | zero => intro _; exact ⟨Int.le_refl _, fun h => by omega⟩
  | succ K ih =>
    intro h
    obtain ⟨h1, h2⟩ := ih (fun i x y => h i x (by omega))
    have h3 := h K (by omega) (by omega)
    rw [sumC_s]
    refine ⟨by omega, fun hl => ?_⟩
    by_cases e : a = K
    · rw [e] at ha; omega
    · have := h2 (by omega); omega
theorem hbits_c {f g : Int → Int} {t : Int} {n : Nat} (h : ∀ c : Int, 0 ≤ c → c < n → (f c = t ↔ g c = t)) : hbits f t n = hbits g t n := by
  rw [hbits_gb, hbits_gb]
  exact gb_cong (fun i a b => decide_eq_decide.mpr (h i a b))
theorem dp_lb {σ : Mem} {p w : Int} {n : Nat} (n6 : n ≤ 6) {f : Int → Int} : ∀ (k : Nat) (B : Int → Int), dpC σ p w (2 ^ n - 1) k B → (∀ c : Int, 0 ≤ c → c < n → 0 ≤ f c) → B (gb (fun c => decide (f c < (k : Int))) n) ≤ sumC (fun t => if hbits f t n = 0 then 0 else tkF σ p w t (hbits f t n)) k := by
  intro k
  induction k with
  | zero =>
    intro B hB hf
    have e : gb (fun c => decide (f c < ((0 : Nat) : Int))) n = 0 := by
      have g6 := gb_64 (fun c => decide (f c < ((0 : Nat) : Int))) n6
      refine bt_ext g6.1 g6.2 (by decide) (by decide) (fun i i0 i1 => ?_)
      rw [gb_bit _ i0 i1 n n6, bt_0, if_neg (fun q => by
        have := of_decide_eq_true q.2
        have := hf i i0 q.1
        omega)]
    rw [e, hB 0 (by decide) (by decide), if_pos rfl]
    exact Int.le_refl _
  | succ k ih =>
    rintro B ⟨B1, T, h1, h2, h3, h4⟩ hf
    have i1 := ih B1 h1 hf
    have hp := p2_64 n6
    have g1 := gb_64 (fun c => decide (f c < ((k + 1 : Nat) : Int))) n6
    have g1n := gb_n1 (fun c => decide (f c < ((k + 1 : Nat) : Int))) n
    have g2 := gb_64 (fun c => decide (f c < (k : Int))) n6
    have g3 := hbits_64 f k n6
    have b1 := fun (i : Int) (i0 : 0 ≤ i) (i1 : i < 6) => gb_bit (fun c => decide (f c < ((k + 1 : Nat) : Int))) i0 i1 n n6
    have b2 := fun (i : Int) (i0 : 0 ≤ i) (i1 : i < 6) => gb_bit (fun c => decide (f c < (k : Int))) i0 i1 n n6
    have b3 := fun (i : Int) (i0 : 0 ≤ i) (i1 : i < 6) => hbits_bit f k i0 i1 n6
    have g3n : hbits f k n ≤ 2 ^ n - 1 := by have := hbits_b f k n; omega
    simp only [decide_eq_true_eq] at b1 b2
    generalize gb (fun c => decide (f c < ((k + 1 : Nat) : Int))) n = x at *
    generalize gb (fun c => decide (f c < (k : Int))) n = y at *
    rw [sumC_s]
    generalize hbits f k n = q at *
    by_cases z : q = 0
    · rw [if_pos z]
      have e : x = y := bt_ext g1.1 g1.2 g2.1 g2.2 (fun i i0 i1 => by
        rw [b1 i i0 i1, b2 i i0 i1]
        have := b3 i i0 i1
        rw [z, bt_0] at this
        by_cases c : i < n ∧ f i < k
        · rw [if_pos c, if_pos ⟨c.1, by omega⟩]
        · rw [if_neg c, if_neg (fun d => by
            by_cases e : f i = k
            · rw [if_pos ⟨d.1, e⟩] at this; omega
            · exact c ⟨d.1, by omega⟩)])
      have : B x ≤ B1 x := by
        by_cases x0 : x = 0
        · rw [h4 x (Or.inl (by omega))]; exact Int.le_refl _
        · have := (h3 x.toNat (by omega) (by omega)).1
          rw [show ((x.toNat : Nat) : Int) = x by omega] at this; exact this
      rw [e] at this ⊢; omega
    · rw [if_neg z]
      have hq : q.toNat &&& x.toNat = q.toNat := by
        refine bt_ext0 _ (by have := Nat.and_le_left (n := q.toNat) (m := x.toNat); omega) _ (by omega) (fun i hi => ?_)
        rw [bt_and0 _ (by omega) _ (by omega) i hi, show ((q.toNat : Nat) : Int) = q by omega, show ((x.toNat : Nat) : Int) = x by omega, b3 i (by omega) (by omega), b1 i (by omega) (by omega)]
        by_cases c : (i : Int) < n ∧ f i = k
        · rw [if_pos c, if_pos ⟨c.1, by omega⟩]; rfl
        · rw [if_neg c, Int.zero_mul]
      have hx : x.toNat ^^^ q.toNat = y.toNat := by
        refine bt_ext0 _ (xor_64 (by omega) (by omega)) _ (by omega) (fun i hi => ?_)
        rw [bt_xor0 _ (by omega) _ (by omega) i hi, show ((q.toNat : Nat) : Int) = q by omega, show ((x.toNat : Nat) : Int) = x by omega, show ((y.toNat : Nat) : Int) = y by omega, b3 i (by omega) (by omega), b1 i (by omega) (by omega), b2 i (by omega) (by omega)]
        by_cases cn : (i : Int) < n
        · by_cases c : f i = k
          · rw [if_pos ⟨cn, by omega⟩, if_pos ⟨cn, c⟩, if_neg (by omega)]; rfl
          · by_cases c2 : f i < k
            · rw [if_pos ⟨cn, by omega⟩, if_neg (fun d => c d.2), if_pos ⟨cn, c2⟩]; rfl
            · rw [if_neg (by omega), if_neg (fun d => c d.2), if_neg (by omega)]; rfl
        · rw [if_neg (fun d => cn d.1), if_neg (fun d => cn d.1), if_neg (fun d => cn d.1)]; rfl
      have x1 : 1 ≤ x.toNat := by
        have := Nat.and_le_right (n := q.toNat) (m := x.toNat)
        omega
      have h5 := (h3 x.toNat x1 (by omega)).2.1 q.toNat (by omega) hq
      rw [hx, h2 q.toNat (by omega) (by omega), show ((q.toNat : Nat) : Int) = q by omega, show ((x.toNat : Nat) : Int) = x by omega, show ((y.toNat : Nat) : Int) = y by omega] at h5
      omega
theorem dp_att {σ : Mem} {p w : Int} {n : Nat} (n6 : n ≤ 6) {lo : Int} (lo0 : 0 ≤ lo) {K : Nat} (K9 : K ≤ 9) (hlo : ∀ t S : Nat, t < K → 1 ≤ S → (S : Int) ≤ 2 ^ n - 1 → -lo ≤ tkF σ p w t S) : ∀ (k : Nat) (B : Int → Int), k ≤ K → dpC σ p w (2 ^ n - 1) k B → ∀ S : Nat, (S : Int) ≤ 2 ^ n - 1 → 1152921504606846976 - lo * k ≤ B S ∨ ∃ f : Int → Int, (∀ c : Int, 0 ≤ c → c < n → (0 ≤ f c ∧ f c < k ∧ bt S c = 1) ∨ (f c = 99 ∧ bt S c = 0)) ∧ B S = sumC (fun t => if hbits f t n = 0 then 0 else tkF σ p w t (hbits f t n)) k := by
  have hp := p2_64 n6
  intro k
  induction k with
  | zero =>
    intro B _ hB S hS
    have hb := hB S (by omega) (by omega)
    by_cases z : (S : Int) = 0
    · rw [if_pos z] at hb
      exact Or.inr ⟨fun _ => 99, fun c _ _ => Or.inr ⟨rfl, by rw [z]; exact bt_0 c⟩, by rw [hb]; rfl⟩
    · rw [if_neg z] at hb
      left; rw [hb]; simp
  | succ k ih =>
    rintro B hk ⟨B1, T, h1, h2, h3, h4⟩ S hS
    have ek : lo * ((k + 1 : Nat) : Int) = lo * k + lo := by rw [show ((k + 1 : Nat) : Int) = (k : Int) + 1 by omega, Int.mul_add, Int.mul_one]
    have same : B S = B1 S → 1152921504606846976 - lo * ((k + 1 : Nat) : Int) ≤ B S ∨ ∃ f : Int → Int, (∀ c : Int, 0 ≤ c → c < n → (0 ≤ f c ∧ f c < ((k + 1 : Nat) : Int) ∧ bt S c = 1) ∨ (f c = 99 ∧ bt S c = 0)) ∧ B S = sumC (fun t => if hbits f t n = 0 then 0 else tkF σ p w t (hbits f t n)) (k + 1) := by
      intro e
      rcases ih B1 (by omega) h1 S hS with h | ⟨f, hf, hv⟩
      · left; omega
      · refine Or.inr ⟨f, fun c c0 c1 => ?_, ?_⟩
        · rcases hf c c0 c1 with h | h
          · exact Or.inl ⟨h.1, by omega, h.2.2⟩
          · exact Or.inr h
        · have z : hbits f k n = 0 := by
            have g3 := hbits_64 f k n6
            refine bt_ext g3.1 g3.2 (by decide) (by decide) (fun i i0 i1 => ?_)
            rw [hbits_bit f k i0 i1 n6, bt_0, if_neg (fun q => by
              rcases hf i i0 q.1 with h | h <;> omega)]
          rw [sumC_s, z, if_pos rfl, e, hv]; omega
    by_cases s0 : S = 0
    · exact same (h4 S (Or.inl (by omega)))
    · rcases (h3 S (by omega) hS).2.2 with e | ⟨q, q0, hq, e⟩
      · exact same e
      · have qS : q ≤ S := by
          have := Nat.and_le_right (n := q) (m := S)
          omega
        have x64 : S ^^^ q < 2 ^ n := Nat.xor_lt_two_pow (by
          have : ((S : Nat) : Int) < ((2 ^ n : Nat) : Int) := by rw [Int.natCast_pow]; show (S : Int) < 2 ^ n; omega
          omega) (by
          have : ((q : Nat) : Int) < ((2 ^ n : Nat) : Int) := by rw [Int.natCast_pow]; show (q : Int) < 2 ^ n; omega
          omega)
        have xi : ((S ^^^ q : Nat) : Int) ≤ 2 ^ n - 1 := by
          have : ((S ^^^ q : Nat) : Int) < ((2 ^ n : Nat) : Int) := by omega
          rw [Int.natCast_pow] at this
          have : ((S ^^^ q : Nat) : Int) < 2 ^ n := this
          omega
        have hT := h2 q (by omega) (by omega)
        have hl := hlo k q (by omega) (by omega) (by omega)
        have bq : ∀ c : Int, 0 ≤ c → c < 6 → bt q c = 1 → bt S c = 1 := by
          intro c c0 c1 hc
          have := bt_and0 q (by omega) S (by omega) c.toNat (by omega)
          rw [hq, show ((c.toNat : Nat) : Int) = c by omega, hc] at this
          omega
        have bx : ∀ c : Int, 0 ≤ c → c < 6 → bt ((S ^^^ q : Nat) : Int) c = (bt S c + bt q c) % 2 := by
          intro c c0 c1
          have := bt_xor0 S (by omega) q (by omega) c.toNat (by omega)
          rw [show ((c.toNat : Nat) : Int) = c by omega] at this
          exact this
        rcases ih B1 (by omega) h1 (S ^^^ q) xi with h | ⟨f, hf, hv⟩
        · left; rw [e, hT]; omega
        · right
          have key : ∀ c : Int, 0 ≤ c → c < n → bt q c = 1 → f c = 99 := by
            intro c c0 c1 hc
            rcases hf c c0 c1 with h | h
            · have := bx c c0 (by omega)
              rw [hc, bq c c0 (by omega) hc] at this
              omega
            · exact h.1
          refine ⟨fun c => if bt q c = 1 then (k : Int) else f c, fun c c0 c1 => ?_, ?_⟩
          · by_cases hc : bt q c = 1
            · simp only [if_pos hc]
              exact Or.inl ⟨by omega, by omega, bq c c0 (by omega) hc⟩
            · simp only [if_neg hc]
              have b0 := bt_b q c
              have b1 := bt_b S c
              have := bx c c0 (by omega)
              rcases hf c c0 c1 with h | h
              · exact Or.inl ⟨h.1, by omega, by omega⟩
              · exact Or.inr ⟨h.1, by omega⟩
          · have eq : hbits (fun c => if bt q c = 1 then (k : Int) else f c) k n = q := by
              have g3 := hbits_64 (fun c => if bt q c = 1 then (k : Int) else f c) k n6
              refine bt_ext g3.1 g3.2 (by omega) (by omega) (fun i i0 i1 => ?_)
              rw [hbits_bit _ _ i0 i1 n6]
              have b0 := bt_b q i
              by_cases hc : bt q i = 1
              · have hin : i < n := by
                  have l := bt_lt n6 (show (0 : Int) ≤ q by omega) (show (q : Int) < 2 ^ n by omega) i0 i1 hc
                  exact l
                rw [if_pos ⟨hin, if_pos hc⟩, hc]
              · rw [if_neg (fun d => by
                  obtain ⟨d1, d2⟩ := d
                  rw [if_neg hc] at d2
                  rcases hf i i0 d1 with h | h <;> omega)]
                omega
            rw [sumC_s, eq, if_neg (by omega), e, hT, hv]
            congr 1
            refine sumC_cong (fun t t0 t1 => ?_)
            have et : hbits (fun c => if bt q c = 1 then (k : Int) else f c) t n = hbits f t n := by
              refine hbits_c (fun c c0 c1 => ?_)
              by_cases hc : bt q c = 1
              · have := key c c0 c1 hc
                constructor
                · intro d; simp only [if_pos hc] at d; omega
                · intro d; omega
              · simp only [if_neg hc]
            rw [et]
