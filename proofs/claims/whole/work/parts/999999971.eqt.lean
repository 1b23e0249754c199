/-! TICKETS and MOST: rows tried one by one against sets of CHAIRS, SITTER by SITTER -/
theorem bt_and0 : ∀ x : Nat, x < 64 → ∀ y : Nat, y < 64 → ∀ i : Nat, i < 6 → bt ((x &&& y : Nat) : Int) (i : Int) = bt (x : Int) (i : Int) * bt (y : Int) (i : Int) := by decide +kernel
theorem bt_xor0 : ∀ x : Nat, x < 64 → ∀ y : Nat, y < 64 → ∀ i : Nat, i < 6 → bt ((x ^^^ y : Nat) : Int) (i : Int) = (bt (x : Int) (i : Int) + bt (y : Int) (i : Int)) % 2 := by decide +kernel
theorem bt_ext0 : ∀ x : Nat, x < 64 → ∀ y : Nat, y < 64 → (∀ i : Nat, i < 6 → bt (x : Int) (i : Int) = bt (y : Int) (i : Int)) → x = y := by decide +kernel
theorem bt_ext {x y : Int} (x0 : 0 ≤ x) (x1 : x < 64) (y0 : 0 ≤ y) (y1 : y < 64) (h : ∀ i : Int, 0 ≤ i → i < 6 → bt x i = bt y i) : x = y := by
  have := bt_ext0 x.toNat (by omega) y.toNat (by omega) (fun i hi => by
    rw [show ((x.toNat : Nat) : Int) = x by omega, show ((y.toNat : Nat) : Int) = y by omega]
    exact h i (by omega) (by omega))
  omega
theorem xor_64 {x y : Nat} (hx : x < 64) (hy : y < 64) : x ^^^ y < 64 := Nat.xor_lt_two_pow (n := 6) hx hy
theorem gb_n1 (P : Int → Bool) (n : Nat) : gb P n ≤ 2 ^ n - 1 := by
  have := gb_b P n
  omega
theorem p2_64 {n : Nat} (h : n ≤ 6) : (2 : Int) ^ n - 1 < 64 := (full_64 h).2
/-- a search: what comes out is what was there or one that is found, and none that can be found is better -/
def srch (cd : Int × Int → Int) (ok : (Int → Int) → Prop) (vl : (Int → Int) → Int × Int) (X : (Int → Int) → Prop) (s s' : Int × Int) : Prop := (s' = s ∨ ∃ r, X r ∧ ok r ∧ s' = vl r) ∧ (∀ r, X r → ok r → cd s' ≤ cd (vl r)) ∧ cd s' ≤ cd s
theorem mstI_s (g : Int → Int × Int → Int × Int) (t : Nat) (s : Int × Int) : mstI g (t + 1) s = g t (mstI g t s) := rfl
theorem srch_I {cd : Int × Int → Int} {ok : (Int → Int) → Prop} {vl : (Int → Int) → Int × Int} {X : Nat → (Int → Int) → Prop} {g : Int → Int × Int → Int × Int} {s : Int × Int} : ∀ S : Nat, (∀ t : Nat, t < S → ∀ s0, (s0 = s ∨ ∃ t' : Nat, t' < t ∧ ∃ r, X t' r ∧ ok r ∧ s0 = vl r) → srch cd ok vl (X t) s0 (g t s0)) → srch cd ok vl (fun r => ∃ t : Nat, t < S ∧ X t r) s (mstI g S s) := by
  intro S
  induction S with
  | zero =>
    intro _
    exact ⟨Or.inl rfl, fun r h => by obtain ⟨t, ht, _⟩ := h; omega, Int.le_refl _⟩
  | succ S ih =>
    intro h
    obtain ⟨a1, a2, a3⟩ := ih (fun t ht => h t (by omega))
    have hs : mstI g S s = s ∨ ∃ t' : Nat, t' < S ∧ ∃ r, X t' r ∧ ok r ∧ mstI g S s = vl r := by
      rcases a1 with e | ⟨r, ⟨t', ht', hX⟩, hk, e⟩
      · exact Or.inl e
      · exact Or.inr ⟨t', ht', r, hX, hk, e⟩
    obtain ⟨b1, b2, b3⟩ := h S (by omega) _ hs
    rw [mstI_s]
    refine ⟨?_, ?_, by omega⟩
    · rcases b1 with e | ⟨r, hX, hk, e⟩
      · rw [e]
        rcases hs with e' | ⟨t', ht', r, hX, hk, e'⟩
        · exact Or.inl e'
        · exact Or.inr ⟨r, ⟨t', by omega, hX⟩, hk, e'⟩
      · exact Or.inr ⟨r, ⟨S, by omega, hX⟩, hk, e⟩
    · rintro r ⟨t, ht, hX⟩ hk
      by_cases e : t = S
      · rw [e] at hX; exact b2 r hX hk
      · have := a2 r ⟨t, by omega, hX⟩ hk
        omega
/-- the rows with d TICKETS from CHAIR c on as one likes -/
def xt (S : Nat) : Nat → Int → (Int → Int) → (Int → Int) → Prop
  | 0, _, r, r' => r' = r
  | d + 1, c, r, r' => ∃ t : Nat, t < S ∧ xt S d (c + 1) (upf r (4 * c + 1) t) r'
theorem xt_s (S d : Nat) (c : Int) (r : Int → Int) : xt S (d + 1) c r = fun r' => ∃ t : Nat, t < S ∧ xt S d (c + 1) (upf r (4 * c + 1) t) r' := rfl
theorem xt_pre {S : Nat} : ∀ {d : Nat} {c : Int} {r r' : Int → Int}, xt S d c r r' → ∀ j, (∀ e, c ≤ e → e < c + d → j ≠ 4 * e + 1) → r' j = r j := by
  intro d
  induction d with
  | zero => intro c r r' h j _; rw [show r' = r from h]
  | succ d ih =>
    intro c r r' h j hj
    obtain ⟨t, ht, h⟩ := h
    rw [ih h j (fun e e0 e1 => hj e (by omega) (by omega)), upf_n2 _ (hj c (by omega) (by omega))]
theorem xt_in {S : Nat} : ∀ {d : Nat} {c : Int} {r r' : Int → Int}, xt S d c r r' → ∀ e, c ≤ e → e < c + d → 0 ≤ r' (4 * e + 1) ∧ r' (4 * e + 1) < S := by
  intro d
  induction d with
  | zero => intro c r r' _ e e0 e1; omega
  | succ d ih =>
    intro c r r' h e e0 e1
    obtain ⟨t, ht, h⟩ := h
    by_cases q : e = c
    · rw [xt_pre h (4 * e + 1) (fun e' a b => by omega), q, upf_s2]; omega
    · exact ih h e (by omega) (by omega)
theorem xt_mk {S : Nat} (f : Int → Int) : ∀ (d : Nat) (c : Int) (r : Int → Int), (∀ e, c ≤ e → e < c + d → 0 ≤ f e ∧ f e < S) → ∃ r', xt S d c r r' ∧ ∀ e, c ≤ e → e < c + d → r' (4 * e + 1) = f e := by
  intro d
  induction d with
  | zero => intro c r _; exact ⟨r, rfl, fun e a b => by omega⟩
  | succ d ih =>
    intro c r h
    have hc := h c (by omega) (by omega)
    obtain ⟨r', h1, h2⟩ := ih (c + 1) (upf r (4 * c + 1) (f c)) (fun e a b => h e (by omega) (by omega))
    refine ⟨r', ⟨(f c).toNat, by omega, ?_⟩, fun e a b => ?_⟩
    · rw [show (((f c).toNat : Nat) : Int) = f c by omega]; exact h1
    · by_cases q : e = c
      · rw [xt_pre h1 (4 * e + 1) (fun e' a b => by omega), q, upf_s2]
      · exact h2 e (by omega) (by omega)
theorem rwF_s (r : Int → Int) (c : Nat) : rwF r (c + 1) = 10 * rwF r c + r (4 * c + 1) := rfl
theorem rwF_u (r : Int → Int) (c : Nat) (t : Int) : rwF (upf r (4 * c + 1) t) (c + 1) = 10 * rwF r c + t := by
  rw [rwF_s, upf_s2, rwF_c (r := r) (r' := upf r (4 * c + 1) t) (fun e e0 e1 => upf_n2 _ (by omega))]
theorem xt_row {S : Nat} (hS : S ≤ 10) : ∀ (d c : Nat) (r r' : Int → Int), xt S d c r r' → rwF r c * 10 ^ d ≤ rwF r' (c + d) ∧ rwF r' (c + d) ≤ rwF r c * 10 ^ d + (10 ^ d - 1) := by
  intro d
  induction d with
  | zero => intro c r r' h; rw [show r' = r from h]; simp
  | succ d ih =>
    intro c r r' h
    obtain ⟨t, ht, h⟩ := h
    have := ih (c + 1) (upf r (4 * c + 1) t) r' (by
      rw [show ((c + 1 : Nat) : Int) = (c : Int) + 1 by omega]; exact h)
    rw [rwF_u, show c + 1 + d = c + (d + 1) by omega] at this
    have p0 : (0 : Int) < 10 ^ d := Int.pow_pos (by decide)
    rw [Int.pow_succ]
    generalize (10 : Int) ^ d = P at *
    generalize rwF r c = a at *
    have e1 : (10 * a + (t : Int)) * P = 10 * (a * P) + t * P := by rw [Int.add_mul, Int.mul_assoc]
    have e2 : a * (P * 10) = 10 * (a * P) := by rw [← Int.mul_assoc, Int.mul_comm]
    have e3 : 0 ≤ (t : Int) * P := Int.mul_nonneg (by omega) (by omega)
    have e4 : (t : Int) * P ≤ 9 * P := Int.mul_le_mul_of_nonneg_right (by omega) (by omega)
    rw [e1] at this
    rw [e2]
    omega
theorem xt_lt {S : Nat} (hS : S ≤ 10) {d c t1 t2 : Nat} {r r1 r2 : Int → Int} (h : t1 < t2) (h1 : xt S d ((c : Int) + 1) (upf r (4 * c + 1) t1) r1) (h2 : xt S d ((c : Int) + 1) (upf r (4 * c + 1) t2) r2) : rwF r1 (c + 1 + d) < rwF r2 (c + 1 + d) := by
  have a1 := xt_row hS d (c + 1) _ r1 (by rw [show ((c + 1 : Nat) : Int) = (c : Int) + 1 by omega]; exact h1)
  have a2 := xt_row hS d (c + 1) _ r2 (by rw [show ((c + 1 : Nat) : Int) = (c : Int) + 1 by omega]; exact h2)
  rw [rwF_u] at a1 a2
  have p0 : (0 : Int) < 10 ^ d := Int.pow_pos (by decide)
  generalize (10 : Int) ^ d = P at *
  generalize rwF r c = a at *
  have e1 : (10 * a + (t1 : Int)) * P = 10 * (a * P) + t1 * P := by rw [Int.add_mul, Int.mul_assoc]
  have e2 : (10 * a + (t2 : Int)) * P = 10 * (a * P) + t2 * P := by rw [Int.add_mul, Int.mul_assoc]
  have e4 : ((t1 : Int) + 1) * P ≤ t2 * P := Int.mul_le_mul_of_nonneg_right (by omega) (by omega)
  rw [Int.add_mul] at e4
  omega
theorem xt_6 {S : Nat} (hS : S ≤ 10) {N : Nat} (hN : N ≤ 6) {r r' : Int → Int} (h : xt S N 0 r r') : 0 ≤ rwF r' N ∧ rwF r' N < 1000000 := by
  have := xt_row hS N 0 r r' h
  have p := p10_6 hN
  rw [show rwF r 0 = 0 from rfl, Int.zero_mul, Nat.zero_add] at this
  omega
/-- how many of the first CHAIRS have another TICKET -/
def oc (q r : Int → Int) : Nat → Int
  | 0 => 0
  | k + 1 => oc q r k + if r (4 * k + 1) = q (4 * k + 1) then 0 else 1
theorem oc_b (q r : Int → Int) : ∀ k : Nat, 0 ≤ oc q r k ∧ oc q r k ≤ k := by
  intro k
  induction k with
  | zero => unfold oc; omega
  | succ k ih => unfold oc; split <;> omega
theorem oc_c (q : Int → Int) {r r' : Int → Int} : ∀ {k : Nat}, (∀ e : Int, 0 ≤ e → e < k → r' (4 * e + 1) = r (4 * e + 1)) → oc q r' k = oc q r k := by
  intro k
  induction k with
  | zero => intro _; rfl
  | succ k ih =>
    intro h
    unfold oc
    rw [ih (fun e a b => h e a (by omega)), h k (by omega) (by omega)]
theorem oc_m (q r : Int → Int) {c : Nat} : ∀ d : Nat, oc q r c ≤ oc q r (c + d) := by
  intro d
  induction d with
  | zero => exact Int.le_refl _
  | succ d ih =>
    rw [← Nat.add_assoc]
    show _ ≤ oc q r (c + d) + _
    split <;> omega
def tcd (s : Int × Int) : Int := if s.2 = -1 then 1000000000000000 else 1000000 * s.2 + s.1
theorem tcd_n {s : Int × Int} (h : s.2 ≠ -1) : tcd s = 1000000 * s.2 + s.1 := if_neg h
theorem tkG_ok {m : Mem} {p w : Int} {N S : Nat} (hN : m 5000 29 = N) (N6 : N ≤ 6) (hS : m 5000 30 = S) (S9 : S ≤ 10) : ∀ (d c : Nat) (r : Int → Int) (o : Int) (s : Int × Int), c + d = N → o = oc (m 5015) r c → (∀ r', xt S d c r r' → 0 ≤ rwF r' N ∧ rwF r' N < 1000000) → (s.2 = -1 ∨ (0 ≤ s.2 ∧ 0 ≤ s.1 ∧ ∀ r', xt S d c r r' → s.1 < rwF r' N)) → srch tcd (tkO m p w) (fun r' => (rwF r' N, oc (m 5015) r' N)) (xt S d c r) s (tkG m p w d r c o s) := by
  intro d
  induction d with
  | zero =>
    intro c r o s hc ho hb hs
    have cN : c = N := by omega
    subst cN
    have ob := oc_b (m 5015) r c
    have rb := hb r rfl
    have e2 : tcd (rwF r c, oc (m 5015) r c) = 1000000 * oc (m 5015) r c + rwF r c := tcd_n (show oc (m 5015) r c ≠ -1 by omega)
    rw [tkG_0]
    by_cases z : s.2 ≠ -1 ∧ s.2 ≤ o
    · rw [if_pos z]
      refine ⟨Or.inl rfl, fun r' h _ => ?_, Int.le_refl _⟩
      rw [show r' = r from h, tcd_n z.1, e2]
      rcases hs with h | ⟨h1, h2, h3⟩
      · exact absurd h z.1
      · have := h3 r rfl
        omega
    · rw [if_neg z]
      by_cases k : tkO m p w r
      · rw [tkL_t k, hN, Int.toNat_natCast, ho]
        refine ⟨Or.inr ⟨r, rfl, k, rfl⟩, fun r' h _ => by rw [show r' = r from h]; exact Int.le_refl _, ?_⟩
        rw [e2]
        rcases hs with h | ⟨h1, h2, h3⟩
        · unfold tcd; rw [if_pos h]; omega
        · have : s.2 ≠ -1 := by omega
          rw [tcd_n this]
          have : ¬ s.2 ≤ o := fun q => z ⟨this, q⟩
          omega
      · rw [tkL_f k]
        exact ⟨Or.inl rfl, fun r' h h' => absurd (show tkO m p w r from (show r' = r from h) ▸ h') k, Int.le_refl _⟩
  | succ d ih =>
    intro c r o s hc ho hb hs
    rw [tkG_s]
    by_cases z : s.2 ≠ -1 ∧ s.2 ≤ o
    · rw [if_pos z]
      refine ⟨Or.inl rfl, fun r' h _ => ?_, Int.le_refl _⟩
      have o1 : oc (m 5015) r' c = oc (m 5015) r c := oc_c _ (fun e e0 e1 => xt_pre h _ (fun e' a b => by omega))
      have o2 := oc_m (m 5015) r' (c := c) (d + 1)
      rw [hc] at o2
      have ob := oc_b (m 5015) r' N
      rw [tcd_n z.1, tcd_n (show ((rwF r' N, oc (m 5015) r' N) : Int × Int).2 ≠ -1 by show oc (m 5015) r' N ≠ -1; omega)]
      show 1000000 * s.2 + s.1 ≤ 1000000 * oc (m 5015) r' N + rwF r' N
      rcases hs with h0 | ⟨h1, h2, h3⟩
      · exact absurd h0 z.1
      · have := h3 r' h
        omega
    · rw [if_neg z, hS, Int.toNat_natCast, xt_s]
      refine srch_I (X := fun t => xt S d ((c : Int) + 1) (upf r (4 * c + 1) t)) S (fun t ht s0 h0 => ?_)
      have := ih (c + 1) (upf r (4 * c + 1) t) (tkN1 m c t o) s0 (by omega) ?_ ?_ ?_
      · rw [show ((c + 1 : Nat) : Int) = (c : Int) + 1 by omega] at this; exact this
      · unfold tkN1
        have e : oc (m 5015) (upf r (4 * c + 1) t) (c + 1) = oc (m 5015) (upf r (4 * c + 1) t) c + if upf r (4 * c + 1) t (4 * c + 1) = m 5015 (4 * c + 1) then 0 else 1 := rfl
        rw [e, upf_s2, oc_c (m 5015) (r := r) (fun e e0 e1 => upf_n2 _ (by omega)), ← ho]
        split <;> omega
      · intro r' h'
        exact hb r' ⟨t, ht, by rw [show ((c + 1 : Nat) : Int) = (c : Int) + 1 by omega] at h'; exact h'⟩
      · rw [show ((c + 1 : Nat) : Int) = (c : Int) + 1 by omega]
        rcases h0 with e | ⟨t', ht', r1, hX, hk, e⟩
        · rw [e]
          rcases hs with h | ⟨h1, h2, h3⟩
          · exact Or.inl h
          · exact Or.inr ⟨h1, h2, fun r' h' => h3 r' ⟨t, ht, h'⟩⟩
        · rw [e]
          have ob := oc_b (m 5015) r1 N
          have rb := hb r1 ⟨t', by omega, hX⟩
          refine Or.inr ⟨ob.1, rb.1, fun r' h' => ?_⟩
          have := xt_lt S9 ht' hX h'
          rw [show c + 1 + d = N by omega] at this
          exact this
/-- MOST: the greater is better, then the first -/
def ycd (s : Int × Int) : Int := -1000000 * s.2 + s.1
theorem mstF_s (m : Mem) (p : Int) (d : Nat) (r : Int → Int) (c : Int) (s : Int × Int) : mstF m p (d + 1) r c s = mstI (fun t s => mstF m p d (upf r (4 * c + 1) t) (c + 1) s) (m 5000 30).toNat s := rfl
theorem mstF_ok {m : Mem} {p : Int} {N S : Nat} (hN : m 5000 29 = N) (hS : m 5000 30 = S) (S9 : S ≤ 10) : ∀ (d c : Nat) (r : Int → Int) (s : Int × Int), c + d = N → (∀ r', xt S d c r r' → 0 ≤ rwF r' N ∧ rwF r' N < 1000000) → -1 ≤ s.1 → (∀ r', xt S d c r r' → s.1 < rwF r' N) → srch ycd (fun _ => True) (fun r' => (rwF r' N, rMv m p r')) (xt S d c r) s (mstF m p d r c s) := by
  intro d
  induction d with
  | zero =>
    intro c r s hc hb h1 hs
    have rb := hb r rfl
    have h3 := hs r rfl
    show srch _ _ _ _ s (mstL m p r s)
    unfold mstL
    by_cases z : rMv m p r ≤ s.2
    · rw [if_pos z]
      refine ⟨Or.inl rfl, fun r' h _ => ?_, Int.le_refl _⟩
      rw [show r' = r from h]
      unfold ycd
      show -1000000 * s.2 + s.1 ≤ -1000000 * rMv m p r + rwF r N
      omega
    · rw [if_neg z, hN, Int.toNat_natCast]
      refine ⟨Or.inr ⟨r, rfl, trivial, rfl⟩, fun r' h _ => by rw [show r' = r from h]; exact Int.le_refl _, ?_⟩
      unfold ycd
      show -1000000 * rMv m p r + rwF r N ≤ -1000000 * s.2 + s.1
      omega
  | succ d ih =>
    intro c r s hc hb h1 hs
    rw [mstF_s, hS, Int.toNat_natCast, xt_s]
    refine srch_I (X := fun t => xt S d ((c : Int) + 1) (upf r (4 * c + 1) t)) S (fun t ht s0 h0 => ?_)
    have := ih (c + 1) (upf r (4 * c + 1) t) s0 (by omega) ?_ ?_ ?_
    · rw [show ((c + 1 : Nat) : Int) = (c : Int) + 1 by omega] at this; exact this
    · intro r' h'
      exact hb r' ⟨t, ht, by rw [show ((c + 1 : Nat) : Int) = (c : Int) + 1 by omega] at h'; exact h'⟩
    · rcases h0 with e | ⟨t', ht', r1, hX, hk, e⟩
      · rw [e]; exact h1
      · rw [e]
        have rb := hb r1 ⟨t', by omega, hX⟩
        show -1 ≤ rwF r1 N
        omega
    · rw [show ((c + 1 : Nat) : Int) = (c : Int) + 1 by omega]
      rcases h0 with e | ⟨t', ht', r1, hX, hk, e⟩
      · rw [e]; exact fun r' h' => hs r' ⟨t, ht, h'⟩
      · rw [e]
        intro r' h'
        have := xt_lt S9 ht' hX h'
        rw [show c + 1 + d = N by omega] at this
        exact this
