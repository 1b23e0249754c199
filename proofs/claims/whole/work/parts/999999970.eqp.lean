/-! the class's PLAYS against the reference's -/
theorem popc_sum {x : Int} (h0 : 0 ≤ x) (h1 : x < 64) : popc x = sumC (bt x) 6 := by
  have key : ∀ y : Nat, y < 64 → popc (y : Int) = sumC (bt (y : Int)) 6 := by decide +kernel
  have h := key x.toNat (by omega)
  rw [show ((x.toNat : Nat) : Int) = x by omega] at h; exact h
theorem sumC_s (f : Int → Int) (n : Nat) : sumC f (n + 1) = sumC f n + f n := rfl
theorem sumC_tail {f : Int → Int} {n : Nat} : ∀ d : Nat, (∀ i : Int, n ≤ i → i < n + d → f i = 0) → sumC f (n + d) = sumC f n := by
  intro d
  induction d with
  | zero => intro _; rfl
  | succ d ih =>
    intro h
    rw [← Nat.add_assoc, sumC_s, ih (fun i a b => h i a (by omega)), h _ (by omega) (by omega)]; omega
theorem shC_sum (s : Int → Int) (o t : Int) : ∀ n : Nat, shC s o t n = sumC (fun c => if bt o c = 0 ∧ s (4 * c + 1) = t then 1 else 0) n := by
  intro n
  induction n with
  | zero => rfl
  | succ n ih => rw [sumC_s, ← ih]; rfl
theorem pop_shC {x : Int} (h0 : 0 ≤ x) (h1 : x < 64) {s : Int → Int} {o t : Int} {n : Nat} (hn : n ≤ 6) (hb : ∀ c : Int, 0 ≤ c → c < 6 → bt x c = if c < n ∧ s (4 * c + 1) = t ∧ bt o c = 0 then 1 else 0) : popc x = shC s o t n := by
  obtain ⟨d, hd⟩ : ∃ d, n + d = 6 := ⟨6 - n, by omega⟩
  have e1 := sumC_tail (f := bt x) (n := n) d (fun i a b => by rw [hb i (by omega) (by omega), if_neg (by omega)])
  rw [hd] at e1
  rw [popc_sum h0 h1, e1, shC_sum]
  refine sumC_cong (fun i i0 i1 => ?_)
  rw [hb i i0 (by omega)]
  by_cases c : bt o i = 0 ∧ s (4 * i + 1) = t
  · rw [if_pos c, if_pos ⟨i1, c.2, c.1⟩]
  · rw [if_neg c, if_neg (fun q => c ⟨q.2.2, q.2.1⟩)]
theorem mOu_bit {m : Mem} {w p : Int} {n : Nat} (hn : m 5000 29 = n) (n6 : n ≤ 6) (k : Nat) {c : Int} (c0 : 0 ≤ c) (c1 : c < 6) : bt (mOu m w p (k + 1)) c = if c < n ∧ (bt (mOu m w p k) c = 1 ∨ m 5005 0 ≤ mMn m w p k (mOu m w p k) c) then 1 else 0 := by
  have := gb_bit (fun c => decide (bt (mOu m w p k) c = 1 ∨ m 5005 0 ≤ mMn m w p k (mOu m w p k) c)) c0 c1 (m 5000 29).toNat (by omega)
  rw [show mOu m w p (k + 1) = gb (fun c => decide (bt (mOu m w p k) c = 1 ∨ m 5005 0 ≤ mMn m w p k (mOu m w p k) c)) (m 5000 29).toNat from rfl, this]
  simp only [decide_eq_true_eq, hn, Int.toNat_natCast]
/-- a group of CHAIRS with the TICKET t, MINUTE by MINUTE -/
theorem grp {g : GM} {S : Int} {m : Mem} {w p t : Int} {n K : Nat} (hn : m 5000 29 = n) (n6 : n ≤ 6) (S0 : 0 ≤ S) (S1 : S < 64) (hS : ∀ c : Int, 0 ≤ c → c < 6 → bt S c = if c < n ∧ m w (4 * c + 1) = t then 1 else 0)
    (hg : ∀ (c N : Int) (k : Nat), 0 ≤ c → c < n → m w (4 * c + 1) = t → 1 ≤ N → N ≤ 6 → k < K → g c N k = if bt (m w 24) t = 1 then 0 else mRk m (m 5007 (4 * p + (k : Int) % 3)) (m w (4 * c)) (m 5011 t) N k (m w 26)) :
    ∀ k : Nat, k ≤ K → (∀ c : Int, 0 ≤ c → c < 6 → bt (stM g (m 5005 0) S k) c = if c < n ∧ m w (4 * c + 1) = t ∧ bt (mOu m w p k) c = 0 then 1 else 0) ∧ ∀ c : Int, 0 ≤ c → c < n → m w (4 * c + 1) = t → flM g (m 5005 0) S k c = mFl m w p k c ∧ oaM g (m 5005 0) S k c = mOa m w p k c := by
  intro k
  induction k with
  | zero =>
    intro _
    refine ⟨fun c c0 c1 => ?_, fun c c0 c1 ht => ⟨rfl, rfl⟩⟩
    show bt S c = if c < n ∧ m w (4 * c + 1) = t ∧ bt 0 c = 0 then 1 else 0
    rw [hS c c0 c1]
    by_cases q : c < n ∧ m w (4 * c + 1) = t
    · rw [if_pos q, if_pos ⟨q.1, q.2, bt_0 c⟩]
    · rw [if_neg q, if_neg (fun z => q ⟨z.1, z.2.1⟩)]
  | succ k ih =>
    intro hk
    obtain ⟨hb, hf⟩ := ih (by omega)
    have sb := stM_b g (m 5005 0) S0 S1 k
    have hp : popc (stM g (m 5005 0) S k) = shC (m w) (mOu m w p k) t n := pop_shC sb.1 sb.2 n6 hb
    have key : ∀ c : Int, 0 ≤ c → c < n → m w (4 * c + 1) = t → bt (mOu m w p k) c = 0 → g c (popc (stM g (m 5005 0) S k)) k = mMn m w p k (mOu m w p k) c := by
      intro c c0 c1 ht hz
      have hc1 : bt (stM g (m 5005 0) S k) c = 1 := by rw [hb c c0 (by omega), if_pos ⟨c1, ht, hz⟩]
      have p1 := popc_bit sb.1 sb.2 c0 (by omega) hc1
      have p6 := (popc_b (stM g (m 5005 0) S k)).2
      rw [hg c _ k c0 c1 ht p1 p6 (by omega), hp]
      unfold mMn
      rw [ht, hn, Int.toNat_natCast]
      by_cases q : bt (m w 24) t = 1
      · rw [if_pos q, if_pos (Or.inr q)]
      · rw [if_neg q, if_neg (fun z => z.elim (fun z => by omega) q)]
    refine ⟨fun c c0 c1 => ?_, fun c c0 c1 ht => ?_⟩
    · have em := mOu_bit (w := w) (p := p) hn n6 k c0 c1
      have hbc := hb c c0 c1
      have b01 := bt_b (mOu m w p k) c
      rw [stM_bit g (m 5005 0) S0 S1 k c0 c1]
      by_cases q1 : c < n ∧ m w (4 * c + 1) = t
      · by_cases q2 : bt (mOu m w p k) c = 0
        · rw [if_pos ⟨q1.1, q1.2, q2⟩] at hbc
          rw [hbc, key c c0 q1.1 q1.2 q2]
          by_cases q3 : m 5005 0 ≤ mMn m w p k (mOu m w p k) c
          · rw [if_pos ⟨q1.1, Or.inr q3⟩] at em
            rw [if_pos ⟨rfl, q3⟩, em, if_neg (fun z => absurd z.2.2 (by decide))]
          · rw [if_neg (fun z => z.2.elim (fun z => by omega) q3)] at em
            rw [if_neg (fun z => q3 z.2), em, if_pos ⟨q1.1, q1.2, rfl⟩]
        · rw [if_neg (fun z => q2 z.2.2)] at hbc
          rw [if_pos ⟨q1.1, Or.inl (by omega)⟩] at em
          rw [hbc, em, if_neg (fun z => absurd z.1 (by decide)), if_neg (fun z => absurd z.2.2 (by decide))]
      · rw [if_neg (fun z => q1 ⟨z.1, z.2.1⟩)] at hbc
        rw [hbc, if_neg (fun z => absurd z.1 (by decide)), if_neg (fun z => q1 ⟨z.1, z.2.1⟩)]
    · obtain ⟨f1, f2⟩ := hf c c0 c1 ht
      have hbc := hb c c0 (by omega)
      have b01 := bt_b (mOu m w p k) c
      show flM g (m 5005 0) S k c + (if bt (stM g (m 5005 0) S k) c = 1 then g c (popc (stM g (m 5005 0) S k)) k else 0) = mFl m w p k c + mMn m w p k (mOu m w p k) c ∧ (if bt (stM g (m 5005 0) S k) c = 1 ∧ m 5005 0 ≤ g c (popc (stM g (m 5005 0) S k)) k then (k : Int) else oaM g (m 5005 0) S k c) = (if bt (mOu m w p k) c = 0 ∧ m 5005 0 ≤ mMn m w p k (mOu m w p k) c then (k : Int) else mOa m w p k c)
      rw [f1, f2]
      by_cases q2 : bt (mOu m w p k) c = 0
      · have e1 : bt (stM g (m 5005 0) S k) c = 1 := by rw [hbc, if_pos ⟨c1, ht, q2⟩]
        rw [e1, q2, key c c0 c1 ht q2, if_pos rfl]
        refine ⟨rfl, ?_⟩
        by_cases q3 : m 5005 0 ≤ mMn m w p k (mOu m w p k) c
        · rw [if_pos ⟨rfl, q3⟩, if_pos ⟨rfl, q3⟩]
        · rw [if_neg (fun z => q3 z.2), if_neg (fun z => q3 z.2)]
      · have e1 : bt (stM g (m 5005 0) S k) c = 0 := by rw [hbc, if_neg (fun z => q2 z.2.2)]
        rw [e1, mMn_out (show bt (mOu m w p k) c = 1 by omega), if_neg (by decide), if_neg (fun z => absurd z.1 (by decide)), if_neg (fun z => q2 z.1)]
        exact ⟨rfl, rfl⟩
/-- the same HOUSE and the same LAW -/
def eqH (σ m : Mem) : Prop := pcnt σ 6 2 = m 5000 29 ∧ pcnt σ 6 1 = m 5000 28 ∧ pcnt σ 6 3 = m 5000 30 ∧ pval σ 6 0 0 0 = m 5005 0 ∧ (∀ p k, 0 ≤ p → p < m 5000 28 → 0 ≤ k → k < 4 → pval σ 6 1 p k = m 5007 (4 * p + k)) ∧ (∀ t, 0 ≤ t → t < m 5000 30 → pval σ 6 3 t 0 = m 5011 t) ∧ ∀ f h d n k e, mdg f h d n k e → 1 ≤ n → rkV σ f h d n k e = mRk m f h d n k e
/-- the same audience, as far as PLAYS ask -/
def eqA (σ m : Mem) (a w : Int) : Prop := (∀ c, 0 ≤ c → c < m 5000 29 → σ (a + 1) c = m w (4 * c) ∧ σ (a + 2) c = m w (4 * c + 1)) ∧ σ a 4 = m w 24 ∧ σ a 6 = m w 26
theorem gmv_mR {σ m : Mem} {a w p : Int} (hH : eqH σ m) (hI : σ a 4 = m w 24) (hE : σ a 6 = m w 26) (hx : mX m w) (p0 : 0 ≤ p) (p1 : p < m 5000 28) {t : Int} (t0 : 0 ≤ t) (t1 : t < m 5000 30) {c N : Int} {k : Nat} (c0 : 0 ≤ c) (c1 : c < m 5000 29) (hc : σ (a + 1) c = m w (4 * c)) (N1 : 1 ≤ N) (N6 : N ≤ 6) (hk : (k : Int) ≤ 9) : gmv σ a t p c N k = if bt (m w 24) t = 1 then 0 else mRk m (m 5007 (4 * p + (k : Int) % 3)) (m w (4 * c)) (m 5011 t) N k (m w 26) := by
  obtain ⟨e2, e1, e3, eL, eP, eD, eR⟩ := hH
  obtain ⟨hw, ⟨hmo, hlw, n29, n30, n28, b7, b11, b5, -⟩, r1, r24, r25, r26, r27⟩ := hx
  have rd := r1 c c0 c1
  have k3 : 0 ≤ (k : Int) % 3 ∧ (k : Int) % 3 < 3 := by omega
  have f9 := b7 (4 * p + (k : Int) % 3) (by omega) (by omega)
  have d9 := b11 t t0 (by omega)
  unfold gmv
  rw [hI, hE, hc]
  by_cases q : bt (m w 24) t = 1
  · rw [if_pos ⟨t0, by omega, q⟩, if_pos q]
  · rw [if_neg (fun z => q z.2.2), if_neg q, eP p _ p0 p1 k3.1 (by omega), eD _ t0 t1]
    exact eR _ _ _ _ _ _ ⟨f9.1, f9.2, rd.1.1, rd.1.2, d9.1, d9.2, by omega, by omega, by omega, by omega, by omega, by omega⟩ N1
theorem mMi_9 {m : Mem} {w p : Int} (hx : mX m w) (p0 : 0 ≤ p) (p1 : p < m 5000 28) : 0 ≤ m 5007 (4 * p + 3) ∧ m 5007 (4 * p + 3) ≤ 9 := by
  obtain ⟨hw, ⟨hmo, hlw, n29, n30, n28, b7, b11, b5, -⟩, -⟩ := hx
  exact b7 (4 * p + 3) (by omega) (by omega)
theorem play_eq {σ m : Mem} {a w p : Int} (hH : eqH σ m) (hA : eqA σ m a w) (hx : mX m w) (p0 : 0 ≤ p) (p1 : p < m 5000 28) {c : Int} (c0 : 0 ≤ c) (c1 : c < m 5000 29) : pFl σ a p c = mFl m w p (mMi m p) c ∧ pOa σ a p c = mOa m w p (mMi m p) c := by
  obtain ⟨e2, e1, e3, eL, eP, eD, eR⟩ := id hH
  obtain ⟨aC, aI, aE⟩ := hA
  have m9 := mMi_9 hx p0 p1
  obtain ⟨hw, ⟨hmo, hlw, n29, n30, n28, b7, b11, b5, -⟩, r1, r24, r25, r26, r27⟩ := id hx
  have hs : σ (a + 2) c = m w (4 * c + 1) := (aC c c0 c1).2
  have rc := r1 c c0 c1
  obtain ⟨n, hn⟩ : ∃ n : Nat, m 5000 29 = n := ⟨(m 5000 29).toNat, by omega⟩
  have eMi : pval σ 6 1 p 3 = m 5007 (4 * p + 3) := eP p 3 p0 p1 (by decide) (by decide)
  have hb := hbits_64 (σ (a + 2)) (σ (a + 2) c) (n := n) (by omega)
  have hS : ∀ d : Int, 0 ≤ d → d < 6 → bt (hbits (σ (a + 2)) (σ (a + 2) c) n) d = if d < n ∧ m w (4 * d + 1) = m w (4 * c + 1) then 1 else 0 := by
    intro d d0 d1
    rw [hbits_bit _ _ d0 d1 (by omega)]
    by_cases q : d < n
    · rw [(aC d d0 (by omega)).2, hs]
    · rw [if_neg (fun z => q z.1), if_neg (fun z => q z.1)]
  have hg : ∀ (d N : Int) (k : Nat), 0 ≤ d → d < n → m w (4 * d + 1) = m w (4 * c + 1) → 1 ≤ N → N ≤ 6 → k < mMi m p → gmv σ a (σ (a + 2) c) p d N k = if bt (m w 24) (m w (4 * c + 1)) = 1 then 0 else mRk m (m 5007 (4 * p + (k : Int) % 3)) (m w (4 * d)) (m 5011 (m w (4 * c + 1))) N k (m w 26) := by
    intro d N k d0 d1 dt N1 N6 hk
    have hk' : (k : Int) < m 5007 (4 * p + 3) := by unfold mMi at hk; omega
    rw [hs]
    exact gmv_mR hH aI aE hx p0 p1 (by omega) (by omega) d0 (by omega) (aC d d0 (by omega)).1 N1 N6 (by omega)
  have G := grp (g := gmv σ a (σ (a + 2) c) p) (S := hbits (σ (a + 2)) (σ (a + 2) c) n) (p := p) (K := mMi m p) hn (by omega) hb.1 hb.2 hS hg (mMi m p) (Nat.le_refl _)
  unfold pFl pOa
  rw [e2, hn, eMi, eL, Int.toNat_natCast]
  exact G.2 c c0 (by omega) rfl
theorem play_sum {σ m : Mem} {a w p : Int} (hH : eqH σ m) (hA : eqA σ m a w) (hx : mX m w) (p0 : 0 ≤ p) (p1 : p < m 5000 28) : sumC (pFl σ a p) (pcnt σ 6 2).toNat = sumC (mFl m w p (mMi m p)) (m 5000 29).toNat := by
  rw [hH.1]
  refine sumC_cong (fun i i0 i1 => (play_eq hH hA hx p0 p1 i0 (by omega)).1)
theorem mOu_gb {m : Mem} {w p : Int} (h0 : 0 ≤ m 5000 29) (h6 : m 5000 29 ≤ 6) (k : Nat) : outB (mOa m w p k) (m 5000 29).toNat = mOu m w p k := by
  obtain ⟨n, hn⟩ : ∃ n : Nat, m 5000 29 = n := ⟨(m 5000 29).toNat, by omega⟩
  have ob := mOu_b m w p h6 k
  have e1 := gb_all0 (mOu m w p k).toNat (by omega)
  rw [show (((mOu m w p k).toNat : Nat) : Int) = mOu m w p k by omega] at e1
  have z : ∀ i : Int, n ≤ i → i < 6 → bt (mOu m w p k) i = 0 := by
    intro i i0 i1
    cases k with
    | zero => exact bt_0 i
    | succ k => rw [mOu_bit hn (by omega) k (by omega) i1, if_neg (by omega)]
  have e2 : ∀ d : Nat, n + d ≤ 6 → gb (fun c => decide (bt (mOu m w p k) c = 1)) (n + d) = gb (fun c => decide (bt (mOu m w p k) c = 1)) n := by
    intro d
    induction d with
    | zero => intro _; rfl
    | succ d ih =>
      intro hd
      show gb (fun c => decide (bt (mOu m w p k) c = 1)) (n + d) + (if decide (bt (mOu m w p k) ((n + d : Nat) : Int) = 1) = true then 2 ^ (n + d) else 0) = _
      rw [ih (by omega), z _ (by omega) (by omega), if_neg (by decide), Int.add_zero]
  obtain ⟨d, hd⟩ : ∃ d, n + d = 6 := ⟨6 - n, by omega⟩
  have e3 := e2 d (by omega)
  rw [hd, e1] at e3
  unfold outB
  rw [hn, Int.toNat_natCast, e3]
  refine gb_cong (fun i i0 i1 => ?_)
  have := mOu_oa (w := w) (p := p) h6 i0 (by omega) k
  exact decide_eq_decide.mpr this.symm
theorem play_out {σ m : Mem} {a w p : Int} (hH : eqH σ m) (hA : eqA σ m a w) (hx : mX m w) (p0 : 0 ≤ p) (p1 : p < m 5000 28) : outB (pOa σ a p) (pcnt σ 6 2).toNat = mOu m w p (mMi m p) := by
  have n29 := hx.2.1.2.2.1
  rw [hH.1, ← mOu_gb n29.1 n29.2]
  unfold outB
  refine gb_cong (fun i i0 i1 => ?_)
  rw [(play_eq hH hA hx p0 p1 i0 (by omega)).2]
