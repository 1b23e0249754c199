/-! Match: cell 39, gains 40 -/
/-- all as in σ but the cells in which the class only reckons -/
def SW (σ τ : Mem) : Prop := (∀ b, b ≠ 26 → b ≠ 27 → b ≠ 28 → b ≠ 29 → b ≠ 30 → b ≠ 37 → b ≠ 38 → b ≠ 40 → b ≠ 102 → b ≠ 105 → b ≠ 108 → b ≠ 111 → τ b = σ b) ∧ τ 26 1 = σ 26 1
theorem SF_SW {σ τ : Mem} (h : SF σ τ) : SW σ τ := ⟨fun b h1 h2 h3 h4 h5 _ _ _ h6 h7 h8 h9 => h.1 b h1 h2 h3 h4 h5 h6 h7 h8 h9, h.2⟩
theorem SW_rf (σ : Mem) : SW σ σ := SF_SW (SF_rf σ)
theorem SW_tr {σ τ υ : Mem} (h : SW σ τ) (h' : SW τ υ) : SW σ υ := ⟨fun b h1 h2 h3 h4 h5 h6 h7 h8 h9 h10 h11 h12 => by rw [h'.1 b h1 h2 h3 h4 h5 h6 h7 h8 h9 h10 h11 h12]; exact h.1 b h1 h2 h3 h4 h5 h6 h7 h8 h9 h10 h11 h12, by rw [h'.2]; exact h.2⟩
theorem SW_r {σ τ : Mem} (h : SW σ τ) {b : Int} (hb : b < 26 ∨ (30 < b ∧ b < 37) ∨ b = 39 ∨ (40 < b ∧ b < 100)) : τ b = σ b := h.1 b (by omega) (by omega) (by omega) (by omega) (by omega) (by omega) (by omega) (by omega) (by omega) (by omega) (by omega) (by omega)
theorem SW_set {σ : Mem} {b : Int} (hb : b = 37 ∨ b = 38 ∨ b = 40) (g : Int → Int) : SW σ (setv σ b g) := ⟨fun c _ _ _ _ _ h6 h7 h8 _ _ _ _ => setv_o _ _ (by omega), by rw [setv_o _ _ (by omega)]⟩
theorem SW_l {σ τ : Mem} (h : SW σ τ) {a : Int} (ha : isLw a) : τ (a + 1) = σ (a + 1) := by
  unfold isLw at ha
  exact h.1 _ (by omega) (by omega) (by omega) (by omega) (by omega) (by omega) (by omega) (by omega) (by omega) (by omega) (by omega) (by omega)
theorem SW_lawOk {σ τ : Mem} (h : SW σ τ) (hl : lawOk σ) : lawOk τ := by
  unfold lawOk
  rw [h.2]
  rcases hl with hl | ⟨h1, h2⟩
  · exact Or.inl hl
  · refine Or.inr ⟨h1, ?_⟩
    rw [SW_l h h1]; exact h2
theorem SW_rkV {σ τ : Mem} (h : SW σ τ) (hl : lawOk σ) (a b c d e f : Int) : rkV τ a b c d e f = rkV σ a b c d e f := by
  unfold rkV lwV
  rw [h.2]
  rcases hl with hl | ⟨h1, h2⟩
  · rw [if_pos hl, if_pos hl]
  · rw [SW_l h h1]
theorem SW_planB {σ τ : Mem} (h : SW σ τ) (hp : planB σ 6) : planB τ 6 := by
  unfold planB; rw [SW_r h (b := 6 + 2) (by omega), SW_r h (b := 6 + 1) (by omega)]; exact hp
theorem SW_pval {σ τ : Mem} (h : SW σ τ) (x y z : Int) : pval τ 6 x y z = pval σ 6 x y z := pval_cong (SW_r h (b := 6 + 1) (by omega)) x y z
theorem SW_pcnt {σ τ : Mem} (h : SW σ τ) (x : Int) : pcnt τ 6 x = pcnt σ 6 x := pcnt_cong (SW_r h (b := 6 + 2) (by omega)) x
theorem SW_a {σ τ : Mem} (h : SW σ τ) {a : Int} (ha : isA a) : τ a = σ a ∧ τ (a + 1) = σ (a + 1) ∧ τ (a + 2) = σ (a + 2) ∧ τ (a + 3) = σ (a + 3) ∧ τ (a + 4) = σ (a + 4) := by
  have := isA_b ha
  exact ⟨SW_r h (by omega), SW_r h (by omega), SW_r h (by omega), SW_r h (by omega), SW_r h (by rcases ha with rfl | rfl <;> omega)⟩
theorem SW_stOk {σ τ : Mem} (h : SW σ τ) {a : Int} (hs : stOk σ a) : stOk τ a := by
  obtain ⟨ha, hB, hl, h1, h2, h3⟩ := hs
  obtain ⟨ra, ra1, -, -, -⟩ := SW_a h ha
  exact ⟨ha, SW_planB h hB, SW_lawOk h hl, by rw [ra1]; exact h1, by rw [ra]; exact h2, by rw [ra]; exact h3⟩
theorem SW_gmv {σ τ : Mem} (h : SW σ τ) {a : Int} (hs : stOk σ a) (t p : Int) : gmv τ a t p = gmv σ a t p := by
  obtain ⟨ha, hB, hl, h1, h2, h3⟩ := hs
  obtain ⟨ra, ra1, -, -, -⟩ := SW_a h ha
  funext i n k
  unfold gmv
  rw [ra, ra1, SW_pval h, SW_pval h, SW_rkV h hl]
theorem SW_pFl {σ τ : Mem} (h : SW σ τ) {a : Int} (hs : stOk σ a) (p i : Int) : pFl τ a p i = pFl σ a p i ∧ pOa τ a p i = pOa σ a p i := by
  unfold pFl pOa
  rw [(SW_a h hs.1).2.2.1, SW_gmv h hs, SW_pval h, SW_pval h, SW_pcnt h]
  exact ⟨rfl, rfl⟩
/-! sets as bits -/
theorem mA0 : ∀ o : Nat, o < 6 → ∀ r : Nat, r < 6 → o ≠ r → amIxor (amIor (amIshl 1 (o : Int)) (amIshl 1 (r : Int))) (-1) = -1 - 2 ^ o - 2 ^ r ∧ amIor (amIshl 1 (o : Int)) (amIshl 1 (r : Int)) = 2 ^ o + 2 ^ r := by decide +kernel
theorem mB0 : ∀ o : Nat, o < 6 → ∀ r : Nat, r < 6 → o ≠ r → ∀ x : Nat, x < 64 → amIand (x : Int) (-1 - 2 ^ o - 2 ^ r) = (x : Int) - bt (x : Int) (o : Int) * 2 ^ o - bt (x : Int) (r : Int) * 2 ^ r := by decide +kernel
theorem mC0 : ∀ o : Nat, o < 6 → ∀ x : Nat, x < 64 → amIor (x : Int) (amIshl 1 (o : Int)) = (x : Int) + (1 - bt (x : Int) (o : Int)) * 2 ^ o := by decide +kernel
theorem mD0 : ∀ o : Nat, o < 6 → ∀ x : Nat, x < 64 → ∀ i : Nat, i < 6 → bt ((x : Int) + (1 - bt (x : Int) (o : Int)) * 2 ^ o) (i : Int) = (if i = o then 1 else bt (x : Int) (i : Int)) ∧ (x : Int) + (1 - bt (x : Int) (o : Int)) * 2 ^ o < 64 := by decide +kernel
theorem mE0 : ∀ o : Nat, o < 6 → ∀ x : Nat, x < 64 → ∀ i : Nat, i < 6 → bt ((x : Int) - bt (x : Int) (o : Int) * 2 ^ o) (i : Int) = (if i = o then 0 else bt (x : Int) (i : Int)) ∧ 0 ≤ (x : Int) - bt (x : Int) (o : Int) * 2 ^ o := by decide +kernel
theorem mask_ext {x y : Int} (hx0 : 0 ≤ x) (hx1 : x < 64) (hy0 : 0 ≤ y) (hy1 : y < 64) (h : ∀ i : Int, 0 ≤ i → i < 6 → bt x i = bt y i) : x = y := by
  have h0 := h 0 (by omega) (by omega)
  have h1 := h 1 (by omega) (by omega)
  have h2 := h 2 (by omega) (by omega)
  have h3 := h 3 (by omega) (by omega)
  have h4 := h 4 (by omega) (by omega)
  have h5 := h 5 (by omega) (by omega)
  have e : ∀ z : Int, bt z 0 = z % 2 ∧ bt z 1 = z / 2 % 2 ∧ bt z 2 = z / 4 % 2 ∧ bt z 3 = z / 8 % 2 ∧ bt z 4 = z / 16 % 2 ∧ bt z 5 = z / 32 % 2 := fun z => ⟨by show z / 1 % 2 = _; rw [Int.ediv_one], rfl, rfl, rfl, rfl, rfl⟩
  have ex := e x
  have ey := e y
  omega
theorem amIor_nat {x o : Int} (h0 : 0 ≤ x) (h1 : x < 64) (o0 : 0 ≤ o) (o1 : o < 6) : (0 ≤ amIor x (amIshl 1 o) ∧ amIor x (amIshl 1 o) < 64) ∧ ∀ i, 0 ≤ i → i < 6 → bt (amIor x (amIshl 1 o)) i = if i = o then 1 else bt x i := by
  have hc := mC0 o.toNat (by omega) x.toNat (by omega)
  rw [show ((x.toNat : Nat) : Int) = x by omega, show ((o.toNat : Nat) : Int) = o by omega] at hc
  have hb := bt_b x o
  have hp : (0 : Int) < 2 ^ o.toNat := Int.pow_pos (by decide)
  have hd := fun (i : Int) (i0 : 0 ≤ i) (i1 : i < 6) => mD0 o.toNat (by omega) x.toNat (by omega) i.toNat (by omega)
  simp only [show ((x.toNat : Nat) : Int) = x by omega, show ((o.toNat : Nat) : Int) = o by omega] at hd
  rw [hc]
  refine ⟨⟨?_, (hd 0 (by omega) (by omega)).2⟩, fun i i0 i1 => ?_⟩
  · have : 0 ≤ (1 - bt x o) * 2 ^ o.toNat := Int.mul_nonneg (by omega) (by omega)
    omega
  · have := (hd i i0 i1).1
    rw [show ((i.toNat : Nat) : Int) = i by omega] at this
    rw [this]
    by_cases e : i = o
    · rw [if_pos e, if_pos (by omega)]
    · rw [if_neg e, if_neg (by omega)]
theorem clr2 {x o r : Int} (h0 : 0 ≤ x) (h1 : x < 64) (o0 : 0 ≤ o) (o1 : o < 6) (r0 : 0 ≤ r) (r1 : r < 6) (ne : o ≠ r) : (0 ≤ amIand x (amIxor (amIor (amIshl 1 o) (amIshl 1 r)) (-1)) ∧ amIand x (amIxor (amIor (amIshl 1 o) (amIshl 1 r)) (-1)) < 64) ∧ ∀ i, 0 ≤ i → i < 6 → bt (amIand x (amIxor (amIor (amIshl 1 o) (amIshl 1 r)) (-1))) i = if i = o ∨ i = r then 0 else bt x i := by
  have ha := (mA0 o.toNat (by omega) r.toNat (by omega) (by omega)).1
  have hb := mB0 o.toNat (by omega) r.toNat (by omega) (by omega) x.toNat (by omega)
  rw [show ((o.toNat : Nat) : Int) = o by omega, show ((r.toNat : Nat) : Int) = r by omega] at ha
  rw [show ((o.toNat : Nat) : Int) = o by omega, show ((r.toNat : Nat) : Int) = r by omega, show ((x.toNat : Nat) : Int) = x by omega] at hb
  rw [ha, hb]
  have e1 := fun (y : Int) (y0 : 0 ≤ y) (y1 : y < 64) (q i : Int) (q0 : 0 ≤ q) (q1 : q < 6) (i0 : 0 ≤ i) (i1 : i < 6) => mE0 q.toNat (by omega) y.toNat (by omega) i.toNat (by omega)
  have e2 : ∀ y : Int, 0 ≤ y → y < 64 → ∀ q i : Int, 0 ≤ q → q < 6 → 0 ≤ i → i < 6 → bt (y - bt y q * 2 ^ q.toNat) i = (if i = q then 0 else bt y i) ∧ 0 ≤ y - bt y q * 2 ^ q.toNat := fun y y0 y1 q i q0 q1 i0 i1 => by
    have := e1 y y0 y1 q i q0 q1 i0 i1
    rw [show ((y.toNat : Nat) : Int) = y by omega, show ((q.toNat : Nat) : Int) = q by omega, show ((i.toNat : Nat) : Int) = i by omega] at this
    refine ⟨?_, this.2⟩
    rw [this.1]
    by_cases e : i = q
    · rw [if_pos e, if_pos (by omega)]
    · rw [if_neg e, if_neg (by omega)]
  have f1 := e2 x h0 h1 o r o0 o1 r0 r1
  rw [if_neg (show ¬ r = o by omega)] at f1
  have le1 : 0 ≤ bt x o * 2 ^ o.toNat := Int.mul_nonneg (bt_b x o).1 (Int.le_of_lt (Int.pow_pos (by decide)))
  have le2 : 0 ≤ bt x r * 2 ^ r.toNat := Int.mul_nonneg (bt_b x r).1 (Int.le_of_lt (Int.pow_pos (by decide)))
  have g := fun i i0 i1 => e2 (x - bt x o * 2 ^ o.toNat) f1.2 (by omega) r i r0 r1 i0 i1
  rw [f1.1] at g
  refine ⟨⟨(g 0 (by omega) (by omega)).2, by omega⟩, fun i i0 i1 => ?_⟩
  rw [(g i i0 i1).1, (e2 x h0 h1 o i o0 o1 i0 i1).1]
  by_cases c1 : i = o
  · rw [if_pos c1, if_pos (Or.inl c1), ite_self]
  · by_cases c2 : i = r
    · rw [if_pos c2, if_pos (Or.inr c2)]
    · rw [if_neg c1, if_neg c2, if_neg (by omega)]
theorem amIor_as (a b c : Int) : amIor a (amIor b c) = amIor (amIor a b) c := by
  unfold amIor
  rw [Int32.ofInt_toInt, Int32.ofInt_toInt, Int32.or_assoc]
/-- the TICKETS, if CHAIR o has one of x and CHAIR r one of y -/
def sXY (s : Int → Int) (o r x y : Int) : Int → Int := fun i => if i = o then x else if i = r then y else s i
theorem mAe {s : Int → Int} {t o r : Int} {n : Nat} (hn : n ≤ 6) (ht : 0 ≤ t) (o0 : 0 ≤ o) (o1 : o < n) (r0 : 0 ≤ r) (r1 : r < n) (ne : o ≠ r) :
    amIor (amIand (hbits s t n) (amIxor (amIor (amIshl 1 o) (amIshl 1 r)) (-1))) (amIshl 1 o) = hbits (sXY s o r t (-1)) t n ∧
    amIor (amIand (hbits s t n) (amIxor (amIor (amIshl 1 o) (amIshl 1 r)) (-1))) (amIshl 1 r) = hbits (sXY s o r (-1) t) t n ∧
    amIor (amIand (hbits s t n) (amIxor (amIor (amIshl 1 o) (amIshl 1 r)) (-1))) (amIor (amIshl 1 o) (amIshl 1 r)) = hbits (sXY s o r t t) t n := by
  have hb := hbits_64 s t hn
  obtain ⟨c1, c2⟩ := clr2 hb.1 hb.2 o0 (by omega) r0 (by omega) ne
  generalize amIand (hbits s t n) (amIxor (amIor (amIshl 1 o) (amIshl 1 r)) (-1)) = z at *
  obtain ⟨a1, a2⟩ := amIor_nat c1.1 c1.2 o0 (by omega)
  obtain ⟨b1, b2⟩ := amIor_nat c1.1 c1.2 r0 (by omega)
  obtain ⟨d1, d2⟩ := amIor_nat a1.1 a1.2 r0 (by omega)
  have key : ∀ (z' x y : Int), 0 ≤ z' → z' < 64 → (∀ i : Int, 0 ≤ i → i < 6 → bt z' i = if i = o then (if x = t then 1 else 0) else if i = r then (if y = t then 1 else 0) else if i < n ∧ s i = t then 1 else 0) → z' = hbits (sXY s o r x y) t n := fun z' x y z0 z1 hz => by
    have h6 := hbits_64 (sXY s o r x y) t hn
    refine mask_ext z0 z1 h6.1 h6.2 (fun i i0 i1 => ?_)
    rw [hz i i0 i1, hbits_bit _ _ i0 i1 hn]
    unfold sXY
    by_cases e1 : i = o
    · rw [if_pos e1, if_pos e1]
      by_cases e3 : x = t
      · rw [if_pos e3, if_pos ⟨by omega, e3⟩]
      · rw [if_neg e3, if_neg (fun q => e3 q.2)]
    · rw [if_neg e1, if_neg e1]
      by_cases e2 : i = r
      · rw [if_pos e2, if_pos e2]
        by_cases e3 : y = t
        · rw [if_pos e3, if_pos ⟨by omega, e3⟩]
        · rw [if_neg e3, if_neg (fun q => e3 q.2)]
      · rw [if_neg e2, if_neg e2]
  have hz : ∀ i, 0 ≤ i → i < 6 → bt z i = if i = o ∨ i = r then 0 else if i < n ∧ s i = t then 1 else 0 := fun i i0 i1 => by rw [c2 i i0 i1, hbits_bit _ _ i0 i1 hn]
  refine ⟨key _ t (-1) a1.1 a1.2 (fun i i0 i1 => ?_), key _ (-1) t b1.1 b1.2 (fun i i0 i1 => ?_), ?_⟩
  · rw [a2 i i0 i1, hz i i0 i1, if_pos (rfl : t = t), if_neg (show ¬ (-1 = t) by omega)]
    by_cases e1 : i = o
    · rw [if_pos e1, if_pos e1]
    · rw [if_neg e1, if_neg e1]
      by_cases e2 : i = r
      · rw [if_pos (Or.inr e2), if_pos e2]
      · rw [if_neg (by omega), if_neg e2]
  · rw [b2 i i0 i1, hz i i0 i1, if_pos (rfl : t = t), if_neg (show ¬ (-1 = t) by omega)]
    by_cases e2 : i = r
    · rw [if_pos e2, if_neg (by omega), if_pos e2]
    · rw [if_neg e2, if_neg e2]
      by_cases e1 : i = o
      · rw [if_pos (Or.inl e1), if_pos e1]
      · rw [if_neg (by omega), if_neg e1]
  · rw [amIor_as]
    refine key _ t t d1.1 d1.2 (fun i i0 i1 => ?_)
    rw [d2 i i0 i1, a2 i i0 i1, hz i i0 i1, if_pos (rfl : t = t)]
    by_cases e2 : i = r
    · rw [if_pos e2, if_neg (by omega), if_pos e2]
    · rw [if_neg e2, if_neg e2]
      by_cases e1 : i = o
      · rw [if_pos e1, if_pos e1]
      · rw [if_neg e1, if_neg e1, if_neg (by omega)]
