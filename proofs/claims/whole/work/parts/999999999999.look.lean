theorem A : True := True.intro
theorem B : True := True.intro
theorem E : True := True.intro
theorem G : True := True.intro
theorem G2 : True := True.intro
theorem K : True := True.intro
theorem L : True := True.intro
theorem M : True := True.intro
theorem N : True := True.intro
theorem N4 : True := True.intro
theorem P : True := True.intro
theorem P' : True := True.intro
theorem S : True := True.intro
theorem S0 : True := True.intro
theorem X : True := True.intro
theorem a : True := True.intro
theorem a0 : True := True.intro
theorem a1 : True := True.intro
theorem b : True := True.intro
theorem c : True := True.intro
theorem c0 : True := True.intro
theorem c1 : True := True.intro
theorem c2 : True := True.intro
theorem c27 : True := True.intro
theorem c3 : True := True.intro
theorem c4 : True := True.intro
theorem cN : True := True.intro
theorem cost : True := True.intro
theorem d : True := True.intro
theorem d0 : True := True.intro
theorem d1 : True := True.intro
theorem d9 : True := True.intro
theorem e : True := True.intro
theorem e0 : True := True.intro
theorem e1 : True := True.intro
theorem e15 : True := True.intro
theorem e2 : True := True.intro
theorem e22 : True := True.intro
theorem e23 : True := True.intro
theorem e26 : True := True.intro
theorem e27 : True := True.intro
theorem e3 : True := True.intro
theorem e4 : True := True.intro
theorem e7 : True := True.intro
theorem e9 : True := True.intro
theorem eA : True := True.intro
theorem eN : True := True.intro
theorem ev : True := True.intro
theorem ex : True := True.intro
theorem f0 : True := True.intro
theorem f1 : True := True.intro
theorem f2 : True := True.intro
theorem f3 : True := True.intro
theorem f6 : True := True.intro
theorem f9 : True := True.intro
theorem fl : True := True.intro
theorem found : True := True.intro
theorem g3 : True := True.intro
theorem g5 : True := True.intro
theorem gm : True := True.intro
theorem h16 : True := True.intro
theorem hB : True := True.intro
theorem hM : True := True.intro
theorem hN : True := True.intro
theorem hS : True := True.intro
theorem hT : True := True.intro
theorem ha : True := True.intro
theorem hb : True := True.intro
theorem hc : True := True.intro
theorem hd : True := True.intro
theorem hex : True := True.intro
theorem hi : True := True.intro
theorem hm : True := True.intro
theorem i : True := True.intro
theorem i0 : True := True.intro
theorem i1 : True := True.intro
theorem i2 : True := True.intro
theorem i3 : True := True.intro
theorem i9 : True := True.intro
theorem ih : True := True.intro
theorem j : True := True.intro
theorem k : True := True.intro
theorem k0 : True := True.intro
theorem k1 : True := True.intro
theorem k3 : True := True.intro
theorem k5 : True := True.intro
theorem k7 : True := True.intro
theorem k8 : True := True.intro
theorem key : True := True.intro
theorem lo : True := True.intro
theorem m : True := True.intro
theorem m0 : True := True.intro
theorem m1 : True := True.intro
theorem m2 : True := True.intro
theorem m3 : True := True.intro
theorem m4 : True := True.intro
theorem m9 : True := True.intro
theorem mv : True := True.intro
theorem n : True := True.intro
theorem n1 : True := True.intro
theorem n28 : True := True.intro
theorem n30 : True := True.intro
theorem n6 : True := True.intro
theorem o0 : True := True.intro
theorem ob : True := True.intro
theorem only : True := True.intro
theorem p : True := True.intro
theorem p0 : True := True.intro
theorem p1 : True := True.intro
theorem p3 : True := True.intro
theorem p30 : True := True.intro
theorem p5 : True := True.intro
theorem p6 : True := True.intro
theorem q : True := True.intro
theorem q1 : True := True.intro
theorem q2 : True := True.intro
theorem q3 : True := True.intro
theorem r1 : True := True.intro
theorem rd : True := True.intro
theorem row : True := True.intro
theorem rx : True := True.intro
theorem s : True := True.intro
theorem s0 : True := True.intro
theorem s1 : True := True.intro
theorem s2 : True := True.intro
theorem s6 : True := True.intro
theorem same : True := True.intro
theorem sb : True := True.intro
theorem sd : True := True.intro
theorem sm : True := True.intro
theorem t : True := True.intro
theorem t0 : True := True.intro
theorem t1 : True := True.intro
theorem t2 : True := True.intro
theorem t5 : True := True.intro
theorem tb : True := True.intro
theorem toN : True := True.intro
theorem u : True := True.intro
theorem u1 : True := True.intro
theorem u4 : True := True.intro
theorem v : True := True.intro
theorem v0 : True := True.intro
theorem v1 : True := True.intro
theorem w : True := True.intro
theorem w0 : True := True.intro
theorem w1 : True := True.intro
theorem x0 : True := True.intro
theorem x1 : True := True.intro
theorem x2 : True := True.intro
theorem x4 : True := True.intro
theorem xi : True := True.intro
theorem y : True := True.intro
theorem z : True := True.intro
/-! the class's PLAYS against the reference's -/
theorem popc_sum {x : Int} (h0 : 0 ≤ x) (h1 : x < 64) : popc x = sumC (bt x) 6 := by
  have key : ∀ y : Nat, y < 64 → popc (y : Int) = sumC (bt (y : Int)) 6 := by decide +kernel
  have h := key x.toNat (by omega)
  rw [show ((x.toNat : Nat) : Int) = x by omega] at h; exact h
theorem sumC_s (f : Int → Int) (n : Nat) : sumC f (n + 1) = sumC f n + f n := rfl
theorem sumC_tail {f : Int → Int} {n : Nat} : ∀ d : Nat, (∀ i : Int, n ≤ i → i < n + d → f i = 0) → sumC f (n + d) = sumC f n := by
  intro d
  induction d with
  | zero => intro _; rfl
  | succ d ih =>
    intro h
    rw [← Nat.add_assoc, sumC_s, ih (fun i a b => h i a (by omega)), h _ (by omega) (by omega)]; omega
theorem shC_sum (s : Int → Int) (o t : Int) : ∀ n : Nat, shC s o t n = sumC (fun c => if bt o c = 0 ∧ s (4 * c + 1) = t then 1 else 0) n := by
  intro n
  induction n with
  | zero => rfl
  | succ n ih => rw [sumC_s, ← ih]; rfl
theorem pop_shC {x : Int} (h0 : 0 ≤ x) (h1 : x < 64) {s : Int → Int} {o t : Int} {n : Nat} (hn : n ≤ 6) (hb : ∀ c : Int, 0 ≤ c → c < 6 → bt x c = if c < n ∧ s (4 * c + 1) = t ∧ bt o c = 0 then 1 else 0) : popc x = shC s o t n := by
  obtain ⟨d, hd⟩ : ∃ d, n + d = 6 := ⟨6 - n, by omega⟩
  have e1 := sumC_tail (f := bt x) (n := n) d (fun i a b => by rw [hb i (by omega) (by omega), if_neg (by omega)])
  rw [hd] at e1
  rw [popc_sum h0 h1, e1, shC_sum]
  refine sumC_cong (fun i i0 i1 => ?_)
  rw [hb i i0 (by omega)]
  by_cases c : bt o i = 0 ∧ s (4 * i + 1) = t
  · rw [if_pos c, if_pos ⟨i1, c.2, c.1⟩]
  · rw [if_neg c, if_neg (fun q => c ⟨q.2.2, q.2.1⟩)]
theorem mOu_bit {m : Mem} {w p : Int} {n : Nat} (hn : m 5000 29 = n) (n6 : n ≤ 6) (k : Nat) {c : Int} (c0 : 0 ≤ c) (c1 : c < 6) : bt (mOu m w p (k + 1)) c = if c < n ∧ (bt (mOu m w p k) c = 1 ∨ m 5005 0 ≤ mMn m w p k (mOu m w p k) c) then 1 else 0 := by
  have := gb_bit (fun c => decide (bt (mOu m w p k) c = 1 ∨ m 5005 0 ≤ mMn m w p k (mOu m w p k) c)) c0 c1 (m 5000 29).toNat (by omega)
  rw [show mOu m w p (k + 1) = gb (fun c => decide (bt (mOu m w p k) c = 1 ∨ m 5005 0 ≤ mMn m w p k (mOu m w p k) c)) (m 5000 29).toNat from rfl, this]
  simp only [decide_eq_true_eq, hn, Int.toNat_natCast]
/-- a group of CHAIRS with the TICKET t, MINUTE by MINUTE -/
theorem grp {g : GM} {S : Int} {m : Mem} {w p t : Int} {n K : Nat} (hn : m 5000 29 = n) (n6 : n ≤ 6) (S0 : 0 ≤ S) (S1 : S < 64) (hS : ∀ c : Int, 0 ≤ c → c < 6 → bt S c = if c < n ∧ m w (4 * c + 1) = t then 1 else 0)
    (hg : ∀ (c N : Int) (k : Nat), 0 ≤ c → c < n → m w (4 * c + 1) = t → 1 ≤ N → N ≤ 6 → k < K → g c N k = if bt (m w 24) t = 1 then 0 else mRk m (m 5007 (4 * p + (k : Int) % 3)) (m w (4 * c)) (m 5011 t) N k (m w 26)) :
    ∀ k : Nat, k ≤ K → (∀ c : Int, 0 ≤ c → c < 6 → bt (stM g (m 5005 0) S k) c = if c < n ∧ m w (4 * c + 1) = t ∧ bt (mOu m w p k) c = 0 then 1 else 0) ∧ ∀ c : Int, 0 ≤ c → c < n → m w (4 * c + 1) = t → flM g (m 5005 0) S k c = mFl m w p k c ∧ oaM g (m 5005 0) S k c = mOa m w p k c := by
  intro k
  induction k with
  | zero =>
    intro _
    refine ⟨fun c c0 c1 => ?_, fun c c0 c1 ht => ⟨rfl, rfl⟩⟩
    show bt S c = if c < n ∧ m w (4 * c + 1) = t ∧ bt 0 c = 0 then 1 else 0
    rw [hS c c0 c1]
    by_cases q : c < n ∧ m w (4 * c + 1) = t
    · rw [if_pos q, if_pos ⟨q.1, q.2, bt_0 c⟩]
    · rw [if_neg q, if_neg (fun z => q ⟨z.1, z.2.1⟩)]
  | succ k ih =>
    intro hk
    obtain ⟨hb, hf⟩ := ih (by omega)
    have sb := stM_b g (m 5005 0) S0 S1 k
    have hp : popc (stM g (m 5005 0) S k) = shC (m w) (mOu m w p k) t n := pop_shC sb.1 sb.2 n6 hb
    have key : ∀ c : Int, 0 ≤ c → c < n → m w (4 * c + 1) = t → bt (mOu m w p k) c = 0 → g c (popc (stM g (m 5005 0) S k)) k = mMn m w p k (mOu m w p k) c := by
      intro c c0 c1 ht hz
      have hc1 : bt (stM g (m 5005 0) S k) c = 1 := by rw [hb c c0 (by omega), if_pos ⟨c1, ht, hz⟩]
      have p1 := popc_bit sb.1 sb.2 c0 (by omega) hc1
      have p6 := (popc_b (stM g (m 5005 0) S k)).2
      rw [hg c _ k c0 c1 ht p1 p6 (by omega), hp]
      unfold mMn
      rw [ht, hn, Int.toNat_natCast]
      by_cases q : bt (m w 24) t = 1
      · rw [if_pos q, if_pos (Or.inr q)]
      · rw [if_neg q, if_neg (fun z => z.elim (fun z => by omega) q)]
    refine ⟨fun c c0 c1 => ?_, fun c c0 c1 ht => ?_⟩
    · have em := mOu_bit (w := w) (p := p) hn n6 k c0 c1
      have hbc := hb c c0 c1
      have b01 := bt_b (mOu m w p k) c
      rw [stM_bit g (m 5005 0) S0 S1 k c0 c1]
      by_cases q1 : c < n ∧ m w (4 * c + 1) = t
      · by_cases q2 : bt (mOu m w p k) c = 0
        · rw [if_pos ⟨q1.1, q1.2, q2⟩] at hbc
          rw [hbc, key c c0 q1.1 q1.2 q2]
          by_cases q3 : m 5005 0 ≤ mMn m w p k (mOu m w p k) c
          · rw [if_pos ⟨q1.1, Or.inr q3⟩] at em
            rw [if_pos ⟨rfl, q3⟩, em, if_neg (fun z => absurd z.2.2 (by decide))]
          · rw [if_neg (fun z => z.2.elim (fun z => by omega) q3)] at em
            rw [if_neg (fun z => q3 z.2), em, if_pos ⟨q1.1, q1.2, rfl⟩]
        · rw [if_neg (fun z => q2 z.2.2)] at hbc
          rw [if_pos ⟨q1.1, Or.inl (by omega)⟩] at em
          rw [hbc, em, if_neg (fun z => absurd z.1 (by decide)), if_neg (fun z => absurd z.2.2 (by decide))]
      · rw [if_neg (fun z => q1 ⟨z.1, z.2.1⟩)] at hbc
        rw [hbc, if_neg (fun z => absurd z.1 (by decide)), if_neg (fun z => q1 ⟨z.1, z.2.1⟩)]
    · obtain ⟨f1, f2⟩ := hf c c0 c1 ht
      have hbc := hb c c0 (by omega)
      have b01 := bt_b (mOu m w p k) c
      show flM g (m 5005 0) S k c + (if bt (stM g (m 5005 0) S k) c = 1 then g c (popc (stM g (m 5005 0) S k)) k else 0) = mFl m w p k c + mMn m w p k (mOu m w p k) c ∧ (if bt (stM g (m 5005 0) S k) c = 1 ∧ m 5005 0 ≤ g c (popc (stM g (m 5005 0) S k)) k then (k : Int) else oaM g (m 5005 0) S k c) = (if bt (mOu m w p k) c = 0 ∧ m 5005 0 ≤ mMn m w p k (mOu m w p k) c then (k : Int) else mOa m w p k c)
      rw [f1, f2]
      by_cases q2 : bt (mOu m w p k) c = 0
      · have e1 : bt (stM g (m 5005 0) S k) c = 1 := by rw [hbc, if_pos ⟨c1, ht, q2⟩]
        rw [e1, q2, key c c0 c1 ht q2, if_pos rfl]
        refine ⟨rfl, ?_⟩
        by_cases q3 : m 5005 0 ≤ mMn m w p k (mOu m w p k) c
        · rw [if_pos ⟨rfl, q3⟩, if_pos ⟨rfl, q3⟩]
        · rw [if_neg (fun z => q3 z.2), if_neg (fun z => q3 z.2)]
      · have e1 : bt (stM g (m 5005 0) S k) c = 0 := by rw [hbc, if_neg (fun z => q2 z.2.2)]
        rw [e1, mMn_out (show bt (mOu m w p k) c = 1 by omega), if_neg (by decide), if_neg (fun z => absurd z.1 (by decide)), if_neg (fun z => q2 z.1)]
        exact ⟨rfl, rfl⟩
/-- the same HOUSE and the same LAW -/
def eqH (σ m : Mem) : Prop := pcnt σ 6 2 = m 5000 29 ∧ pcnt σ 6 1 = m 5000 28 ∧ pcnt σ 6 3 = m 5000 30 ∧ pval σ 6 0 0 0 = m 5005 0 ∧ (∀ p k, 0 ≤ p → p < m 5000 28 → 0 ≤ k → k < 4 → pval σ 6 1 p k = m 5007 (4 * p + k)) ∧ (∀ t, 0 ≤ t → t < m 5000 30 → pval σ 6 3 t 0 = m 5011 t) ∧ ∀ f h d n k e, mdg f h d n k e → 1 ≤ n → rkV σ f h d n k e = mRk m f h d n k e
/-- the same audience, as far as PLAYS ask -/
def eqA (σ m : Mem) (a w : Int) : Prop := (∀ c, 0 ≤ c → c < m 5000 29 → σ (a + 1) c = m w (4 * c) ∧ σ (a + 2) c = m w (4 * c + 1)) ∧ σ a 4 = m w 24 ∧ σ a 6 = m w 26
theorem gmv_mR {σ m : Mem} {a w p : Int} (hH : eqH σ m) (hI : σ a 4 = m w 24) (hE : σ a 6 = m w 26) (hx : mX m w) (p0 : 0 ≤ p) (p1 : p < m 5000 28) {t : Int} (t0 : 0 ≤ t) (t1 : t < m 5000 30) {c N : Int} {k : Nat} (c0 : 0 ≤ c) (c1 : c < m 5000 29) (hc : σ (a + 1) c = m w (4 * c)) (N1 : 1 ≤ N) (N6 : N ≤ 6) (hk : (k : Int) ≤ 9) : gmv σ a t p c N k = if bt (m w 24) t = 1 then 0 else mRk m (m 5007 (4 * p + (k : Int) % 3)) (m w (4 * c)) (m 5011 t) N k (m w 26) := by
  obtain ⟨e2, e1, e3, eL, eP, eD, eR⟩ := hH
  obtain ⟨hw, ⟨hmo, hlw, n29, n30, n28, b7, b11, b5, -⟩, r1, r24, r25, r26, r27⟩ := hx
  have rd := r1 c c0 c1
  have k3 : 0 ≤ (k : Int) % 3 ∧ (k : Int) % 3 < 3 := by omega
  have f9 := b7 (4 * p + (k : Int) % 3) (by omega) (by omega)
  have d9 := b11 t t0 (by omega)
  unfold gmv
  rw [hI, hE, hc]
  by_cases q : bt (m w 24) t = 1
  · rw [if_pos ⟨t0, by omega, q⟩, if_pos q]
  · rw [if_neg (fun z => q z.2.2), if_neg q, eP p _ p0 p1 k3.1 (by omega), eD _ t0 t1]
    exact eR _ _ _ _ _ _ ⟨f9.1, f9.2, rd.1.1, rd.1.2, d9.1, d9.2, by omega, by omega, by omega, by omega, by omega, by omega⟩ N1
theorem mMi_9 {m : Mem} {w p : Int} (hx : mX m w) (p0 : 0 ≤ p) (p1 : p < m 5000 28) : 0 ≤ m 5007 (4 * p + 3) ∧ m 5007 (4 * p + 3) ≤ 9 := by
  obtain ⟨hw, ⟨hmo, hlw, n29, n30, n28, b7, b11, b5, -⟩, -⟩ := hx
  exact b7 (4 * p + 3) (by omega) (by omega)
theorem play_eq {σ m : Mem} {a w p : Int} (hH : eqH σ m) (hA : eqA σ m a w) (hx : mX m w) (p0 : 0 ≤ p) (p1 : p < m 5000 28) {c : Int} (c0 : 0 ≤ c) (c1 : c < m 5000 29) : pFl σ a p c = mFl m w p (mMi m p) c ∧ pOa σ a p c = mOa m w p (mMi m p) c := by
  obtain ⟨e2, e1, e3, eL, eP, eD, eR⟩ := id hH
  obtain ⟨aC, aI, aE⟩ := hA
  have m9 := mMi_9 hx p0 p1
  obtain ⟨hw, ⟨hmo, hlw, n29, n30, n28, b7, b11, b5, -⟩, r1, r24, r25, r26, r27⟩ := id hx
  have hs : σ (a + 2) c = m w (4 * c + 1) := (aC c c0 c1).2
  have rc := r1 c c0 c1
  obtain ⟨n, hn⟩ : ∃ n : Nat, m 5000 29 = n := ⟨(m 5000 29).toNat, by omega⟩
  have eMi : pval σ 6 1 p 3 = m 5007 (4 * p + 3) := eP p 3 p0 p1 (by decide) (by decide)
  have hb := hbits_64 (σ (a + 2)) (σ (a + 2) c) (n := n) (by omega)
  have hS : ∀ d : Int, 0 ≤ d → d < 6 → bt (hbits (σ (a + 2)) (σ (a + 2) c) n) d = if d < n ∧ m w (4 * d + 1) = m w (4 * c + 1) then 1 else 0 := by
    intro d d0 d1
    rw [hbits_bit _ _ d0 d1 (by omega)]
    by_cases q : d < n
    · rw [(aC d d0 (by omega)).2, hs]
    · rw [if_neg (fun z => q z.1), if_neg (fun z => q z.1)]
  have hg : ∀ (d N : Int) (k : Nat), 0 ≤ d → d < n → m w (4 * d + 1) = m w (4 * c + 1) → 1 ≤ N → N ≤ 6 → k < mMi m p → gmv σ a (σ (a + 2) c) p d N k = if bt (m w 24) (m w (4 * c + 1)) = 1 then 0 else mRk m (m 5007 (4 * p + (k : Int) % 3)) (m w (4 * d)) (m 5011 (m w (4 * c + 1))) N k (m w 26) := by
    intro d N k d0 d1 dt N1 N6 hk
    have hk' : (k : Int) < m 5007 (4 * p + 3) := by unfold mMi at hk; omega
    rw [hs]
    exact gmv_mR hH aI aE hx p0 p1 (by omega) (by omega) d0 (by omega) (aC d d0 (by omega)).1 N1 N6 (by omega)
  have G := grp (g := gmv σ a (σ (a + 2) c) p) (S := hbits (σ (a + 2)) (σ (a + 2) c) n) (p := p) (K := mMi m p) hn (by omega) hb.1 hb.2 hS hg (mMi m p) (Nat.le_refl _)
  unfold pFl pOa
  rw [e2, hn, eMi, eL, Int.toNat_natCast]
  exact G.2 c c0 (by omega) rfl
theorem play_sum {σ m : Mem} {a w p : Int} (hH : eqH σ m) (hA : eqA σ m a w) (hx : mX m w) (p0 : 0 ≤ p) (p1 : p < m 5000 28) : sumC (pFl σ a p) (pcnt σ 6 2).toNat = sumC (mFl m w p (mMi m p)) (m 5000 29).toNat := by
  rw [hH.1]
  refine sumC_cong (fun i i0 i1 => (play_eq hH hA hx p0 p1 i0 (by omega)).1)
theorem mOu_gb {m : Mem} {w p : Int} (h0 : 0 ≤ m 5000 29) (h6 : m 5000 29 ≤ 6) (k : Nat) : outB (mOa m w p k) (m 5000 29).toNat = mOu m w p k := by
  obtain ⟨n, hn⟩ : ∃ n : Nat, m 5000 29 = n := ⟨(m 5000 29).toNat, by omega⟩
  have ob := mOu_b m w p h6 k
  have e1 := gb_all0 (mOu m w p k).toNat (by omega)
  rw [show (((mOu m w p k).toNat : Nat) : Int) = mOu m w p k by omega] at e1
  have z : ∀ i : Int, n ≤ i → i < 6 → bt (mOu m w p k) i = 0 := by
    intro i i0 i1
    cases k with
    | zero => exact bt_0 i
    | succ k => rw [mOu_bit hn (by omega) k (by omega) i1, if_neg (by omega)]
  have e2 : ∀ d : Nat, n + d ≤ 6 → gb (fun c => decide (bt (mOu m w p k) c = 1)) (n + d) = gb (fun c => decide (bt (mOu m w p k) c = 1)) n := by
    intro d
    induction d with
    | zero => intro _; rfl
    | succ d ih =>
      intro hd
      show gb (fun c => decide (bt (mOu m w p k) c = 1)) (n + d) + (if decide (bt (mOu m w p k) ((n + d : Nat) : Int) = 1) = true then 2 ^ (n + d) else 0) = _
      rw [ih (by omega), z _ (by omega) (by omega), if_neg (by decide), Int.add_zero]
  obtain ⟨d, hd⟩ : ∃ d, n + d = 6 := ⟨6 - n, by omega⟩
  have e3 := e2 d (by omega)
  rw [hd, e1] at e3
  unfold outB
  rw [hn, Int.toNat_natCast, e3]
  refine gb_cong (fun i i0 i1 => ?_)
  have := mOu_oa (w := w) (p := p) h6 i0 (by omega) k
  exact decide_eq_decide.mpr this.symm
theorem play_out {σ m : Mem} {a w p : Int} (hH : eqH σ m) (hA : eqA σ m a w) (hx : mX m w) (p0 : 0 ≤ p) (p1 : p < m 5000 28) : outB (pOa σ a p) (pcnt σ 6 2).toNat = mOu m w p (mMi m p) := by
  have n29 := hx.2.1.2.2.1
  rw [hH.1, ← mOu_gb n29.1 n29.2]
  unfold outB
  refine gb_cong (fun i i0 i1 => ?_)
  rw [(play_eq hH hA hx p0 p1 i0 (by omega)).2]
/-! TICKETS and MOST: rows tried one by one against sets of CHAIRS, SITTER by SITTER -/
theorem bt_and0 : ∀ x : Nat, x < 64 → ∀ y : Nat, y < 64 → ∀ i : Nat, i < 6 → bt ((x &&& y : Nat) : Int) (i : Int) = bt (x : Int) (i : Int) * bt (y : Int) (i : Int) := by decide +kernel
theorem bt_xor0 : ∀ x : Nat, x < 64 → ∀ y : Nat, y < 64 → ∀ i : Nat, i < 6 → bt ((x ^^^ y : Nat) : Int) (i : Int) = (bt (x : Int) (i : Int) + bt (y : Int) (i : Int)) % 2 := by decide +kernel
theorem bt_ext0 : ∀ x : Nat, x < 64 → ∀ y : Nat, y < 64 → (∀ i : Nat, i < 6 → bt (x : Int) (i : Int) = bt (y : Int) (i : Int)) → x = y := by decide +kernel
theorem bt_ext {x y : Int} (x0 : 0 ≤ x) (x1 : x < 64) (y0 : 0 ≤ y) (y1 : y < 64) (h : ∀ i : Int, 0 ≤ i → i < 6 → bt x i = bt y i) : x = y := by
  have := bt_ext0 x.toNat (by omega) y.toNat (by omega) (fun i hi => by
    rw [show ((x.toNat : Nat) : Int) = x by omega, show ((y.toNat : Nat) : Int) = y by omega]
    exact h i (by omega) (by omega))
  omega
theorem xor_64 {x y : Nat} (hx : x < 64) (hy : y < 64) : x ^^^ y < 64 := Nat.xor_lt_two_pow (n := 6) hx hy
theorem gb_n1 (P : Int → Bool) (n : Nat) : gb P n ≤ 2 ^ n - 1 := by
  have := gb_b P n
  omega
theorem p2_64 {n : Nat} (h : n ≤ 6) : (2 : Int) ^ n - 1 < 64 := (full_64 h).2
/-- a search: what comes out is what was there or one that is found, and none that can be found is better -/
def srch (cd : Int × Int → Int) (ok : (Int → Int) → Prop) (vl : (Int → Int) → Int × Int) (X : (Int → Int) → Prop) (s s' : Int × Int) : Prop := (s' = s ∨ ∃ r, X r ∧ ok r ∧ s' = vl r) ∧ (∀ r, X r → ok r → cd s' ≤ cd (vl r)) ∧ cd s' ≤ cd s
theorem mstI_s (g : Int → Int × Int → Int × Int) (t : Nat) (s : Int × Int) : mstI g (t + 1) s = g t (mstI g t s) := rfl
theorem srch_I {cd : Int × Int → Int} {ok : (Int → Int) → Prop} {vl : (Int → Int) → Int × Int} {X : Nat → (Int → Int) → Prop} {g : Int → Int × Int → Int × Int} {s : Int × Int} : ∀ S : Nat, (∀ t : Nat, t < S → ∀ s0, (s0 = s ∨ ∃ t' : Nat, t' < t ∧ ∃ r, X t' r ∧ ok r ∧ s0 = vl r) → srch cd ok vl (X t) s0 (g t s0)) → srch cd ok vl (fun r => ∃ t : Nat, t < S ∧ X t r) s (mstI g S s) := by
  intro S
  induction S with
  | zero =>
    intro _
    exact ⟨Or.inl rfl, fun r h => by obtain ⟨t, ht, _⟩ := h; omega, Int.le_refl _⟩
  | succ S ih =>
    intro h
    obtain ⟨a1, a2, a3⟩ := ih (fun t ht => h t (by omega))
    have hs : mstI g S s = s ∨ ∃ t' : Nat, t' < S ∧ ∃ r, X t' r ∧ ok r ∧ mstI g S s = vl r := by
      rcases a1 with e | ⟨r, ⟨t', ht', hX⟩, hk, e⟩
      · exact Or.inl e
      · exact Or.inr ⟨t', ht', r, hX, hk, e⟩
    obtain ⟨b1, b2, b3⟩ := h S (by omega) _ hs
    rw [mstI_s]
    refine ⟨?_, ?_, by omega⟩
    · rcases b1 with e | ⟨r, hX, hk, e⟩
      · rw [e]
        rcases hs with e' | ⟨t', ht', r, hX, hk, e'⟩
        · exact Or.inl e'
        · exact Or.inr ⟨r, ⟨t', by omega, hX⟩, hk, e'⟩
      · exact Or.inr ⟨r, ⟨S, by omega, hX⟩, hk, e⟩
    · rintro r ⟨t, ht, hX⟩ hk
      by_cases e : t = S
      · rw [e] at hX; exact b2 r hX hk
      · have := a2 r ⟨t, by omega, hX⟩ hk
        omega
/-- the rows with d TICKETS from CHAIR c on as one likes -/
def xt (S : Nat) : Nat → Int → (Int → Int) → (Int → Int) → Prop
  | 0, _, r, r' => r' = r
  | d + 1, c, r, r' => ∃ t : Nat, t < S ∧ xt S d (c + 1) (upf r (4 * c + 1) t) r'
theorem xt_s (S d : Nat) (c : Int) (r : Int → Int) : xt S (d + 1) c r = fun r' => ∃ t : Nat, t < S ∧ xt S d (c + 1) (upf r (4 * c + 1) t) r' := rfl
theorem xt_pre {S : Nat} : ∀ {d : Nat} {c : Int} {r r' : Int → Int}, xt S d c r r' → ∀ j, (∀ e, c ≤ e → e < c + d → j ≠ 4 * e + 1) → r' j = r j := by
  intro d
  induction d with
  | zero => intro c r r' h j _; rw [show r' = r from h]
  | succ d ih =>
    intro c r r' h j hj
    obtain ⟨t, ht, h⟩ := h
    rw [ih h j (fun e e0 e1 => hj e (by omega) (by omega)), upf_n2 _ (hj c (by omega) (by omega))]
theorem xt_in {S : Nat} : ∀ {d : Nat} {c : Int} {r r' : Int → Int}, xt S d c r r' → ∀ e, c ≤ e → e < c + d → 0 ≤ r' (4 * e + 1) ∧ r' (4 * e + 1) < S := by
  intro d
  induction d with
  | zero => intro c r r' _ e e0 e1; omega
  | succ d ih =>
    intro c r r' h e e0 e1
    obtain ⟨t, ht, h⟩ := h
    by_cases q : e = c
    · rw [xt_pre h (4 * e + 1) (fun e' a b => by omega), q, upf_s2]; omega
    · exact ih h e (by omega) (by omega)
theorem xt_mk {S : Nat} (f : Int → Int) : ∀ (d : Nat) (c : Int) (r : Int → Int), (∀ e, c ≤ e → e < c + d → 0 ≤ f e ∧ f e < S) → ∃ r', xt S d c r r' ∧ ∀ e, c ≤ e → e < c + d → r' (4 * e + 1) = f e := by
  intro d
  induction d with
  | zero => intro c r _; exact ⟨r, rfl, fun e a b => by omega⟩
  | succ d ih =>
    intro c r h
    have hc := h c (by omega) (by omega)
    obtain ⟨r', h1, h2⟩ := ih (c + 1) (upf r (4 * c + 1) (f c)) (fun e a b => h e (by omega) (by omega))
    refine ⟨r', ⟨(f c).toNat, by omega, ?_⟩, fun e a b => ?_⟩
    · rw [show (((f c).toNat : Nat) : Int) = f c by omega]; exact h1
    · by_cases q : e = c
      · rw [xt_pre h1 (4 * e + 1) (fun e' a b => by omega), q, upf_s2]
      · exact h2 e (by omega) (by omega)
theorem rwF_s (r : Int → Int) (c : Nat) : rwF r (c + 1) = 10 * rwF r c + r (4 * c + 1) := rfl
theorem rwF_u (r : Int → Int) (c : Nat) (t : Int) : rwF (upf r (4 * c + 1) t) (c + 1) = 10 * rwF r c + t := by
  rw [rwF_s, upf_s2, rwF_c (r := r) (r' := upf r (4 * c + 1) t) (fun e e0 e1 => upf_n2 _ (by omega))]
theorem xt_row {S : Nat} (hS : S ≤ 10) : ∀ (d c : Nat) (r r' : Int → Int), xt S d c r r' → rwF r c * 10 ^ d ≤ rwF r' (c + d) ∧ rwF r' (c + d) ≤ rwF r c * 10 ^ d + (10 ^ d - 1) := by
  intro d
  induction d with
  | zero => intro c r r' h; rw [show r' = r from h]; simp
  | succ d ih =>
    intro c r r' h
    obtain ⟨t, ht, h⟩ := h
    have := ih (c + 1) (upf r (4 * c + 1) t) r' (by
      rw [show ((c + 1 : Nat) : Int) = (c : Int) + 1 by omega]; exact h)
    rw [rwF_u, show c + 1 + d = c + (d + 1) by omega] at this
    have p0 : (0 : Int) < 10 ^ d := Int.pow_pos (by decide)
    rw [Int.pow_succ]
    generalize (10 : Int) ^ d = P at *
    generalize rwF r c = a at *
    have e1 : (10 * a + (t : Int)) * P = 10 * (a * P) + t * P := by rw [Int.add_mul, Int.mul_assoc]
    have e2 : a * (P * 10) = 10 * (a * P) := by rw [← Int.mul_assoc, Int.mul_comm]
    have e3 : 0 ≤ (t : Int) * P := Int.mul_nonneg (by omega) (by omega)
    have e4 : (t : Int) * P ≤ 9 * P := Int.mul_le_mul_of_nonneg_right (by omega) (by omega)
    rw [e1] at this
    rw [e2]
    omega
theorem xt_lt {S : Nat} (hS : S ≤ 10) {d c t1 t2 : Nat} {r r1 r2 : Int → Int} (h : t1 < t2) (h1 : xt S d ((c : Int) + 1) (upf r (4 * c + 1) t1) r1) (h2 : xt S d ((c : Int) + 1) (upf r (4 * c + 1) t2) r2) : rwF r1 (c + 1 + d) < rwF r2 (c + 1 + d) := by
  have a1 := xt_row hS d (c + 1) _ r1 (by rw [show ((c + 1 : Nat) : Int) = (c : Int) + 1 by omega]; exact h1)
  have a2 := xt_row hS d (c + 1) _ r2 (by rw [show ((c + 1 : Nat) : Int) = (c : Int) + 1 by omega]; exact h2)
  rw [rwF_u] at a1 a2
  have p0 : (0 : Int) < 10 ^ d := Int.pow_pos (by decide)
  generalize (10 : Int) ^ d = P at *
  generalize rwF r c = a at *
  have e1 : (10 * a + (t1 : Int)) * P = 10 * (a * P) + t1 * P := by rw [Int.add_mul, Int.mul_assoc]
  have e2 : (10 * a + (t2 : Int)) * P = 10 * (a * P) + t2 * P := by rw [Int.add_mul, Int.mul_assoc]
  have e4 : ((t1 : Int) + 1) * P ≤ t2 * P := Int.mul_le_mul_of_nonneg_right (by omega) (by omega)
  rw [Int.add_mul] at e4
  omega
theorem xt_6 {S : Nat} (hS : S ≤ 10) {N : Nat} (hN : N ≤ 6) {r r' : Int → Int} (h : xt S N 0 r r') : 0 ≤ rwF r' N ∧ rwF r' N < 1000000 := by
  have := xt_row hS N 0 r r' h
  have p := p10_6 hN
  rw [show rwF r 0 = 0 from rfl, Int.zero_mul, Nat.zero_add] at this
  omega
/-- how many of the first CHAIRS have another TICKET -/
def oc (q r : Int → Int) : Nat → Int
  | 0 => 0
  | k + 1 => oc q r k + if r (4 * k + 1) = q (4 * k + 1) then 0 else 1
theorem oc_b (q r : Int → Int) : ∀ k : Nat, 0 ≤ oc q r k ∧ oc q r k ≤ k := by
  intro k
  induction k with
  | zero => unfold oc; omega
  | succ k ih => unfold oc; split <;> omega
theorem oc_c (q : Int → Int) {r r' : Int → Int} : ∀ {k : Nat}, (∀ e : Int, 0 ≤ e → e < k → r' (4 * e + 1) = r (4 * e + 1)) → oc q r' k = oc q r k := by
  intro k
  induction k with
  | zero => intro _; rfl
  | succ k ih =>
    intro h
    unfold oc
    rw [ih (fun e a b => h e a (by omega)), h k (by omega) (by omega)]
theorem oc_m (q r : Int → Int) {c : Nat} : ∀ d : Nat, oc q r c ≤ oc q r (c + d) := by
  intro d
  induction d with
  | zero => exact Int.le_refl _
  | succ d ih =>
    rw [← Nat.add_assoc]
    show _ ≤ oc q r (c + d) + _
    split <;> omega
def tcd (s : Int × Int) : Int := if s.2 = -1 then 1000000000000000 else 1000000 * s.2 + s.1
theorem tcd_n {s : Int × Int} (h : s.2 ≠ -1) : tcd s = 1000000 * s.2 + s.1 := if_neg h
theorem tkG_ok {m : Mem} {p w : Int} {N S : Nat} (hN : m 5000 29 = N) (N6 : N ≤ 6) (hS : m 5000 30 = S) (S9 : S ≤ 10) : ∀ (d c : Nat) (r : Int → Int) (o : Int) (s : Int × Int), c + d = N → o = oc (m 5015) r c → (∀ r', xt S d c r r' → 0 ≤ rwF r' N ∧ rwF r' N < 1000000) → (s.2 = -1 ∨ (0 ≤ s.2 ∧ 0 ≤ s.1 ∧ ∀ r', xt S d c r r' → s.1 < rwF r' N)) → srch tcd (tkO m p w) (fun r' => (rwF r' N, oc (m 5015) r' N)) (xt S d c r) s (tkG m p w d r c o s) := by
  intro d
  induction d with
  | zero =>
    intro c r o s hc ho hb hs
    have cN : c = N := by omega
    subst cN
    have ob := oc_b (m 5015) r c
    have rb := hb r rfl
    have e2 : tcd (rwF r c, oc (m 5015) r c) = 1000000 * oc (m 5015) r c + rwF r c := tcd_n (show oc (m 5015) r c ≠ -1 by omega)
    rw [tkG_0]
    by_cases z : s.2 ≠ -1 ∧ s.2 ≤ o
    · rw [if_pos z]
      refine ⟨Or.inl rfl, fun r' h _ => ?_, Int.le_refl _⟩
      rw [show r' = r from h, tcd_n z.1, e2]
      rcases hs with h | ⟨h1, h2, h3⟩
      · exact absurd h z.1
      · have := h3 r rfl
        omega
    · rw [if_neg z]
      by_cases k : tkO m p w r
      · rw [tkL_t k, hN, Int.toNat_natCast, ho]
        refine ⟨Or.inr ⟨r, rfl, k, rfl⟩, fun r' h _ => by rw [show r' = r from h]; exact Int.le_refl _, ?_⟩
        rw [e2]
        rcases hs with h | ⟨h1, h2, h3⟩
        · unfold tcd; rw [if_pos h]; omega
        · have : s.2 ≠ -1 := by omega
          rw [tcd_n this]
          have : ¬ s.2 ≤ o := fun q => z ⟨this, q⟩
          omega
      · rw [tkL_f k]
        exact ⟨Or.inl rfl, fun r' h h' => absurd (show tkO m p w r from (show r' = r from h) ▸ h') k, Int.le_refl _⟩
  | succ d ih =>
    intro c r o s hc ho hb hs
    rw [tkG_s]
    by_cases z : s.2 ≠ -1 ∧ s.2 ≤ o
    · rw [if_pos z]
      refine ⟨Or.inl rfl, fun r' h _ => ?_, Int.le_refl _⟩
      have o1 : oc (m 5015) r' c = oc (m 5015) r c := oc_c _ (fun e e0 e1 => xt_pre h _ (fun e' a b => by omega))
      have o2 := oc_m (m 5015) r' (c := c) (d + 1)
      rw [hc] at o2
      have ob := oc_b (m 5015) r' N
      rw [tcd_n z.1, tcd_n (show ((rwF r' N, oc (m 5015) r' N) : Int × Int).2 ≠ -1 by show oc (m 5015) r' N ≠ -1; omega)]
      show 1000000 * s.2 + s.1 ≤ 1000000 * oc (m 5015) r' N + rwF r' N
      rcases hs with h0 | ⟨h1, h2, h3⟩
      · exact absurd h0 z.1
      · have := h3 r' h
        omega
    · rw [if_neg z, hS, Int.toNat_natCast, xt_s]
      refine srch_I (X := fun t => xt S d ((c : Int) + 1) (upf r (4 * c + 1) t)) S (fun t ht s0 h0 => ?_)
      have := ih (c + 1) (upf r (4 * c + 1) t) (tkN1 m c t o) s0 (by omega) ?_ ?_ ?_
      · rw [show ((c + 1 : Nat) : Int) = (c : Int) + 1 by omega] at this; exact this
      · unfold tkN1
        have e : oc (m 5015) (upf r (4 * c + 1) t) (c + 1) = oc (m 5015) (upf r (4 * c + 1) t) c + if upf r (4 * c + 1) t (4 * c + 1) = m 5015 (4 * c + 1) then 0 else 1 := rfl
        rw [e, upf_s2, oc_c (m 5015) (r := r) (fun e e0 e1 => upf_n2 _ (by omega)), ← ho]
        split <;> omega
      · intro r' h'
        exact hb r' ⟨t, ht, by rw [show ((c + 1 : Nat) : Int) = (c : Int) + 1 by omega] at h'; exact h'⟩
      · rw [show ((c + 1 : Nat) : Int) = (c : Int) + 1 by omega]
        rcases h0 with e | ⟨t', ht', r1, hX, hk, e⟩
        · rw [e]
          rcases hs with h | ⟨h1, h2, h3⟩
          · exact Or.inl h
          · exact Or.inr ⟨h1, h2, fun r' h' => h3 r' ⟨t, ht, h'⟩⟩
        · rw [e]
          have ob := oc_b (m 5015) r1 N
          have rb := hb r1 ⟨t', by omega, hX⟩
          refine Or.inr ⟨ob.1, rb.1, fun r' h' => ?_⟩
          have := xt_lt S9 ht' hX h'
          rw [show c + 1 + d = N by omega] at this
          exact this
/-- MOST: the greater is better, then the first -/
def ycd (s : Int × Int) : Int := -1000000 * s.2 + s.1
theorem mstF_s (m : Mem) (p : Int) (d : Nat) (r : Int → Int) (c : Int) (s : Int × Int) : mstF m p (d + 1) r c s = mstI (fun t s => mstF m p d (upf r (4 * c + 1) t) (c + 1) s) (m 5000 30).toNat s := rfl
theorem mstF_ok {m : Mem} {p : Int} {N S : Nat} (hN : m 5000 29 = N) (hS : m 5000 30 = S) (S9 : S ≤ 10) : ∀ (d c : Nat) (r : Int → Int) (s : Int × Int), c + d = N → (∀ r', xt S d c r r' → 0 ≤ rwF r' N ∧ rwF r' N < 1000000) → -1 ≤ s.1 → (∀ r', xt S d c r r' → s.1 < rwF r' N) → srch ycd (fun _ => True) (fun r' => (rwF r' N, rMv m p r')) (xt S d c r) s (mstF m p d r c s) := by
  intro d
  induction d with
  | zero =>
    intro c r s hc hb h1 hs
    have rb := hb r rfl
    have h3 := hs r rfl
    show srch _ _ _ _ s (mstL m p r s)
    unfold mstL
    by_cases z : rMv m p r ≤ s.2
    · rw [if_pos z]
      refine ⟨Or.inl rfl, fun r' h _ => ?_, Int.le_refl _⟩
      rw [show r' = r from h]
      unfold ycd
      show -1000000 * s.2 + s.1 ≤ -1000000 * rMv m p r + rwF r N
      omega
    · rw [if_neg z, hN, Int.toNat_natCast]
      refine ⟨Or.inr ⟨r, rfl, trivial, rfl⟩, fun r' h _ => by rw [show r' = r from h]; exact Int.le_refl _, ?_⟩
      unfold ycd
      show -1000000 * rMv m p r + rwF r N ≤ -1000000 * s.2 + s.1
      omega
  | succ d ih =>
    intro c r s hc hb h1 hs
    rw [mstF_s, hS, Int.toNat_natCast, xt_s]
    refine srch_I (X := fun t => xt S d ((c : Int) + 1) (upf r (4 * c + 1) t)) S (fun t ht s0 h0 => ?_)
    have := ih (c + 1) (upf r (4 * c + 1) t) s0 (by omega) ?_ ?_ ?_
    · rw [show ((c + 1 : Nat) : Int) = (c : Int) + 1 by omega] at this; exact this
    · intro r' h'
      exact hb r' ⟨t, ht, by rw [show ((c + 1 : Nat) : Int) = (c : Int) + 1 by omega] at h'; exact h'⟩
    · rcases h0 with e | ⟨t', ht', r1, hX, hk, e⟩
      · rw [e]; exact h1
      · rw [e]
        have rb := hb r1 ⟨t', by omega, hX⟩
        show -1 ≤ rwF r1 N
        omega
    · rw [show ((c + 1 : Nat) : Int) = (c : Int) + 1 by omega]
      rcases h0 with e | ⟨t', ht', r1, hX, hk, e⟩
      · rw [e]; exact fun r' h' => hs r' ⟨t, ht, h'⟩
      · rw [e]
        intro r' h'
        have := xt_lt S9 ht' hX h'
        rw [show c + 1 + d = N by omega] at this
        exact this
/-! sets of CHAIRS, SITTER by SITTER: no row is cheaper than the best, and the best is some row's -/
theorem sumC_add (f g : Int → Int) : ∀ n : Nat, sumC (fun i => f i + g i) n = sumC f n + sumC g n := by
  intro n
  induction n with
  | zero => rfl
  | succ n ih => rw [sumC_s, sumC_s, sumC_s, ih]; omega
theorem sumC_mul (a : Int) (f : Int → Int) : ∀ n : Nat, sumC (fun i => a * f i) n = a * sumC f n := by
  intro n
  induction n with
  | zero => show (0 : Int) = a * 0; rw [Int.mul_zero]
  | succ n ih => rw [sumC_s, sumC_s, ih, Int.mul_add]
theorem sumC_0 {f : Int → Int} : ∀ n : Nat, (∀ i : Int, 0 ≤ i → i < n → f i = 0) → sumC f n = 0 := by
  intro n
  induction n with
  | zero => intro _; rfl
  | succ n ih => intro h; rw [sumC_s, ih (fun i a b => h i a (by omega)), h n (by omega) (by omega)]; rfl
theorem sumC_swap (X : Int → Int → Int) (K : Nat) : ∀ n : Nat, sumC (fun t => sumC (fun c => X t c) n) K = sumC (fun c => sumC (fun t => X t c) K) n := by
  intro n
  induction n with
  | zero => exact sumC_0 K (fun _ _ _ => rfl)
  | succ n ih =>
    rw [sumC_s, ← ih, ← sumC_add]
    exact sumC_cong (fun i _ _ => rfl)
theorem sumC_pick (h : Int → Int) {a : Int} (a0 : 0 ≤ a) : ∀ K : Nat, sumC (fun t => if a = t then h t else 0) K = if a < K then h a else 0 := by
  intro K
  induction K with
  | zero => rw [if_neg (by omega)]; rfl
  | succ K ih =>
    rw [sumC_s, ih]
    by_cases e : a = K
    · rw [if_neg (by omega), if_pos e, if_pos (by omega), e]; omega
    · by_cases l : a < K
      · rw [if_pos l, if_neg e, if_pos (by omega)]; omega
      · rw [if_neg l, if_neg e, if_neg (by omega)]; rfl
theorem sumC_ge {f : Int → Int} {M : Int} {a : Int} (M0 : 0 ≤ M) (a0 : 0 ≤ a) (ha : M ≤ f a) : ∀ K : Nat, (∀ i : Int, 0 ≤ i → i < K → 0 ≤ f i) → 0 ≤ sumC f K ∧ (a < K → M ≤ sumC f K) := by
  intro K
  induction K with
  | zero => intro _; exact ⟨Int.le_refl _, fun h => by omega⟩
  | succ K ih =>
    intro h
    obtain ⟨h1, h2⟩ := ih (fun i x y => h i x (by omega))
    have h3 := h K (by omega) (by omega)
    rw [sumC_s]
    refine ⟨by omega, fun hl => ?_⟩
    by_cases e : a = K
    · rw [e] at ha; omega
    · have := h2 (by omega); omega
theorem hbits_c {f g : Int → Int} {t : Int} {n : Nat} (h : ∀ c : Int, 0 ≤ c → c < n → (f c = t ↔ g c = t)) : hbits f t n = hbits g t n := by
  rw [hbits_gb, hbits_gb]
  exact gb_cong (fun i a b => decide_eq_decide.mpr (h i a b))
theorem dp_lb {σ : Mem} {p w : Int} {n : Nat} (n6 : n ≤ 6) {f : Int → Int} : ∀ (k : Nat) (B : Int → Int), dpC σ p w (2 ^ n - 1) k B → (∀ c : Int, 0 ≤ c → c < n → 0 ≤ f c) → B (gb (fun c => decide (f c < (k : Int))) n) ≤ sumC (fun t => if hbits f t n = 0 then 0 else tkF σ p w t (hbits f t n)) k := by
  intro k
  induction k with
  | zero =>
    intro B hB hf
    have e : gb (fun c => decide (f c < ((0 : Nat) : Int))) n = 0 := by
      have g6 := gb_64 (fun c => decide (f c < ((0 : Nat) : Int))) n6
      refine bt_ext g6.1 g6.2 (by decide) (by decide) (fun i i0 i1 => ?_)
      rw [gb_bit _ i0 i1 n n6, bt_0, if_neg (fun q => by
        have := of_decide_eq_true q.2
        have := hf i i0 q.1
        omega)]
    rw [e, hB 0 (by decide) (by decide), if_pos rfl]
    exact Int.le_refl _
  | succ k ih =>
    rintro B ⟨B1, T, h1, h2, h3, h4⟩ hf
    have i1 := ih B1 h1 hf
    have hp := p2_64 n6
    have g1 := gb_64 (fun c => decide (f c < ((k + 1 : Nat) : Int))) n6
    have g1n := gb_n1 (fun c => decide (f c < ((k + 1 : Nat) : Int))) n
    have g2 := gb_64 (fun c => decide (f c < (k : Int))) n6
    have g3 := hbits_64 f k n6
    have b1 := fun (i : Int) (i0 : 0 ≤ i) (i1 : i < 6) => gb_bit (fun c => decide (f c < ((k + 1 : Nat) : Int))) i0 i1 n n6
    have b2 := fun (i : Int) (i0 : 0 ≤ i) (i1 : i < 6) => gb_bit (fun c => decide (f c < (k : Int))) i0 i1 n n6
    have b3 := fun (i : Int) (i0 : 0 ≤ i) (i1 : i < 6) => hbits_bit f k i0 i1 n6
    have g3n : hbits f k n ≤ 2 ^ n - 1 := by have := hbits_b f k n; omega
    simp only [decide_eq_true_eq] at b1 b2
    generalize gb (fun c => decide (f c < ((k + 1 : Nat) : Int))) n = x at *
    generalize gb (fun c => decide (f c < (k : Int))) n = y at *
    rw [sumC_s]
    generalize hbits f k n = q at *
    by_cases z : q = 0
    · rw [if_pos z]
      have e : x = y := bt_ext g1.1 g1.2 g2.1 g2.2 (fun i i0 i1 => by
        rw [b1 i i0 i1, b2 i i0 i1]
        have := b3 i i0 i1
        rw [z, bt_0] at this
        by_cases c : i < n ∧ f i < k
        · rw [if_pos c, if_pos ⟨c.1, by omega⟩]
        · rw [if_neg c, if_neg (fun d => by
            by_cases e : f i = k
            · rw [if_pos ⟨d.1, e⟩] at this; omega
            · exact c ⟨d.1, by omega⟩)])
      have : B x ≤ B1 x := by
        by_cases x0 : x = 0
        · rw [h4 x (Or.inl (by omega))]; exact Int.le_refl _
        · have := (h3 x.toNat (by omega) (by omega)).1
          rw [show ((x.toNat : Nat) : Int) = x by omega] at this; exact this
      rw [e] at this ⊢; omega
    · rw [if_neg z]
      have hq : q.toNat &&& x.toNat = q.toNat := by
        refine bt_ext0 _ (by have := Nat.and_le_left (n := q.toNat) (m := x.toNat); omega) _ (by omega) (fun i hi => ?_)
        rw [bt_and0 _ (by omega) _ (by omega) i hi, show ((q.toNat : Nat) : Int) = q by omega, show ((x.toNat : Nat) : Int) = x by omega, b3 i (by omega) (by omega), b1 i (by omega) (by omega)]
        by_cases c : (i : Int) < n ∧ f i = k
        · rw [if_pos c, if_pos ⟨c.1, by omega⟩]; rfl
        · rw [if_neg c, Int.zero_mul]
      have hx : x.toNat ^^^ q.toNat = y.toNat := by
        refine bt_ext0 _ (xor_64 (by omega) (by omega)) _ (by omega) (fun i hi => ?_)
        rw [bt_xor0 _ (by omega) _ (by omega) i hi, show ((q.toNat : Nat) : Int) = q by omega, show ((x.toNat : Nat) : Int) = x by omega, show ((y.toNat : Nat) : Int) = y by omega, b3 i (by omega) (by omega), b1 i (by omega) (by omega), b2 i (by omega) (by omega)]
        by_cases cn : (i : Int) < n
        · by_cases c : f i = k
          · rw [if_pos ⟨cn, by omega⟩, if_pos ⟨cn, c⟩, if_neg (by omega)]; rfl
          · by_cases c2 : f i < k
            · rw [if_pos ⟨cn, by omega⟩, if_neg (fun d => c d.2), if_pos ⟨cn, c2⟩]; rfl
            · rw [if_neg (by omega), if_neg (fun d => c d.2), if_neg (by omega)]; rfl
        · rw [if_neg (fun d => cn d.1), if_neg (fun d => cn d.1), if_neg (fun d => cn d.1)]; rfl
      have x1 : 1 ≤ x.toNat := by
        have := Nat.and_le_right (n := q.toNat) (m := x.toNat)
        omega
      have h5 := (h3 x.toNat x1 (by omega)).2.1 q.toNat (by omega) hq
      rw [hx, h2 q.toNat (by omega) (by omega), show ((q.toNat : Nat) : Int) = q by omega, show ((x.toNat : Nat) : Int) = x by omega, show ((y.toNat : Nat) : Int) = y by omega] at h5
      omega
theorem dp_att {σ : Mem} {p w : Int} {n : Nat} (n6 : n ≤ 6) {lo : Int} (lo0 : 0 ≤ lo) {K : Nat} (K9 : K ≤ 9) (hlo : ∀ t S : Nat, t < K → 1 ≤ S → (S : Int) ≤ 2 ^ n - 1 → -lo ≤ tkF σ p w t S) : ∀ (k : Nat) (B : Int → Int), k ≤ K → dpC σ p w (2 ^ n - 1) k B → ∀ S : Nat, (S : Int) ≤ 2 ^ n - 1 → 1152921504606846976 - lo * k ≤ B S ∨ ∃ f : Int → Int, (∀ c : Int, 0 ≤ c → c < n → (0 ≤ f c ∧ f c < k ∧ bt S c = 1) ∨ (f c = 99 ∧ bt S c = 0)) ∧ B S = sumC (fun t => if hbits f t n = 0 then 0 else tkF σ p w t (hbits f t n)) k := by
  have hp := p2_64 n6
  intro k
  induction k with
  | zero =>
    intro B _ hB S hS
    have hb := hB S (by omega) (by omega)
    by_cases z : (S : Int) = 0
    · rw [if_pos z] at hb
      exact Or.inr ⟨fun _ => 99, fun c _ _ => Or.inr ⟨rfl, by rw [z]; exact bt_0 c⟩, by rw [hb]; rfl⟩
    · rw [if_neg z] at hb
      left; rw [hb]; simp
  | succ k ih =>
    rintro B hk ⟨B1, T, h1, h2, h3, h4⟩ S hS
    have ek : lo * ((k + 1 : Nat) : Int) = lo * k + lo := by rw [show ((k + 1 : Nat) : Int) = (k : Int) + 1 by omega, Int.mul_add, Int.mul_one]
    have same : B S = B1 S → 1152921504606846976 - lo * ((k + 1 : Nat) : Int) ≤ B S ∨ ∃ f : Int → Int, (∀ c : Int, 0 ≤ c → c < n → (0 ≤ f c ∧ f c < ((k + 1 : Nat) : Int) ∧ bt S c = 1) ∨ (f c = 99 ∧ bt S c = 0)) ∧ B S = sumC (fun t => if hbits f t n = 0 then 0 else tkF σ p w t (hbits f t n)) (k + 1) := by
      intro e
      rcases ih B1 (by omega) h1 S hS with h | ⟨f, hf, hv⟩
      · left; omega
      · refine Or.inr ⟨f, fun c c0 c1 => ?_, ?_⟩
        · rcases hf c c0 c1 with h | h
          · exact Or.inl ⟨h.1, by omega, h.2.2⟩
          · exact Or.inr h
        · have z : hbits f k n = 0 := by
            have g3 := hbits_64 f k n6
            refine bt_ext g3.1 g3.2 (by decide) (by decide) (fun i i0 i1 => ?_)
            rw [hbits_bit f k i0 i1 n6, bt_0, if_neg (fun q => by
              rcases hf i i0 q.1 with h | h <;> omega)]
          rw [sumC_s, z, if_pos rfl, e, hv]; omega
    by_cases s0 : S = 0
    · exact same (h4 S (Or.inl (by omega)))
    · rcases (h3 S (by omega) hS).2.2 with e | ⟨q, q0, hq, e⟩
      · exact same e
      · have qS : q ≤ S := by
          have := Nat.and_le_right (n := q) (m := S)
          omega
        have x64 : S ^^^ q < 2 ^ n := Nat.xor_lt_two_pow (by
          have : ((S : Nat) : Int) < ((2 ^ n : Nat) : Int) := by rw [Int.natCast_pow]; show (S : Int) < 2 ^ n; omega
          omega) (by
          have : ((q : Nat) : Int) < ((2 ^ n : Nat) : Int) := by rw [Int.natCast_pow]; show (q : Int) < 2 ^ n; omega
          omega)
        have xi : ((S ^^^ q : Nat) : Int) ≤ 2 ^ n - 1 := by
          have : ((S ^^^ q : Nat) : Int) < ((2 ^ n : Nat) : Int) := by omega
          rw [Int.natCast_pow] at this
          have : ((S ^^^ q : Nat) : Int) < 2 ^ n := this
          omega
        have hT := h2 q (by omega) (by omega)
        have hl := hlo k q (by omega) (by omega) (by omega)
        have bq : ∀ c : Int, 0 ≤ c → c < 6 → bt q c = 1 → bt S c = 1 := by
          intro c c0 c1 hc
          have := bt_and0 q (by omega) S (by omega) c.toNat (by omega)
          rw [hq, show ((c.toNat : Nat) : Int) = c by omega, hc] at this
          omega
        have bx : ∀ c : Int, 0 ≤ c → c < 6 → bt ((S ^^^ q : Nat) : Int) c = (bt S c + bt q c) % 2 := by
          intro c c0 c1
          have := bt_xor0 S (by omega) q (by omega) c.toNat (by omega)
          rw [show ((c.toNat : Nat) : Int) = c by omega] at this
          exact this
        rcases ih B1 (by omega) h1 (S ^^^ q) xi with h | ⟨f, hf, hv⟩
        · left; rw [e, hT]; omega
        · right
          have key : ∀ c : Int, 0 ≤ c → c < n → bt q c = 1 → f c = 99 := by
            intro c c0 c1 hc
            rcases hf c c0 c1 with h | h
            · have := bx c c0 (by omega)
              rw [hc, bq c c0 (by omega) hc] at this
              omega
            · exact h.1
          refine ⟨fun c => if bt q c = 1 then (k : Int) else f c, fun c c0 c1 => ?_, ?_⟩
          · by_cases hc : bt q c = 1
            · simp only [if_pos hc]
              exact Or.inl ⟨by omega, by omega, bq c c0 (by omega) hc⟩
            · simp only [if_neg hc]
              have b0 := bt_b q c
              have b1 := bt_b S c
              have := bx c c0 (by omega)
              rcases hf c c0 c1 with h | h
              · exact Or.inl ⟨h.1, by omega, by omega⟩
              · exact Or.inr ⟨h.1, by omega⟩
          · have eq : hbits (fun c => if bt q c = 1 then (k : Int) else f c) k n = q := by
              have g3 := hbits_64 (fun c => if bt q c = 1 then (k : Int) else f c) k n6
              refine bt_ext g3.1 g3.2 (by omega) (by omega) (fun i i0 i1 => ?_)
              rw [hbits_bit _ _ i0 i1 n6]
              have b0 := bt_b q i
              by_cases hc : bt q i = 1
              · have hin : i < n := by
                  have l := bt_lt n6 (show (0 : Int) ≤ q by omega) (show (q : Int) < 2 ^ n by omega) i0 i1 hc
                  exact l
                rw [if_pos ⟨hin, if_pos hc⟩, hc]
              · rw [if_neg (fun d => by
                  obtain ⟨d1, d2⟩ := d
                  rw [if_neg hc] at d2
                  rcases hf i i0 d1 with h | h <;> omega)]
                omega
            rw [sumC_s, eq, if_neg (by omega), e, hT, hv]
            congr 1
            refine sumC_cong (fun t t0 t1 => ?_)
            have et : hbits (fun c => if bt q c = 1 then (k : Int) else f c) t n = hbits f t n := by
              refine hbits_c (fun c c0 c1 => ?_)
              by_cases hc : bt q c = 1
              · have := key c c0 c1 hc
                constructor
                · intro d; simp only [if_pos hc] at d; omega
                · intro d; omega
              · simp only [if_neg hc]
            rw [et]
/-! what a row of TICKETS costs, by sets and by CHAIRS; TICKETS and MOST are the same -/
theorem sOv_sum (g : Int → Int) (S : Int) : ∀ k : Nat, sOv g S k = sumC (fun c => if bt S c = 1 then g c else 0) k := by
  intro k
  induction k with
  | zero => rfl
  | succ k ih => rw [sumC_s, ← ih]; rfl
theorem csF_sum (s : Int → Int) (t S : Int) : ∀ k : Nat, csF s t S k = sumC (fun c => if bt S c = 1 then (if s c = t then 0 else 1000000) else 0) k := by
  intro k
  induction k with
  | zero => rfl
  | succ k ih => rw [sumC_s, ← ih]; rfl
theorem G_sum (h f : Int → Int) (t : Int) {n : Nat} (n6 : n ≤ 6) : sumC (fun c => if bt (hbits f t n) c = 1 then h c else 0) 6 = sumC (fun c => if f c = t then h c else 0) n := by
  obtain ⟨d, hd⟩ : ∃ d, n + d = 6 := ⟨6 - n, by omega⟩
  have e := sumC_tail (f := fun c => if bt (hbits f t n) c = 1 then h c else 0) (n := n) d (fun i a b => by
    show (if bt (hbits f t n) i = 1 then h i else 0) = 0
    have hb := hbits_bit f t (i := i) (by omega) (by omega) n6
    rw [if_neg (fun q => by omega)] at hb
    rw [hb, if_neg (by decide)])
  rw [hd] at e
  rw [e]
  refine sumC_cong (fun i i0 i1 => ?_)
  have hb := hbits_bit f t i0 (show i < 6 by omega) n6
  by_cases q : f i = t
  · rw [if_pos ⟨i1, q⟩] at hb
    rw [hb, if_pos rfl, if_pos q]
  · rw [if_neg (fun z => q z.2)] at hb
    rw [hb, if_neg (by decide), if_neg q]
theorem rpF_s (t S : Int) (i : Nat) : rpF t S (i + 1) = 10 * rpF t S i + if bt S i = 1 then t else 0 := rfl
theorem rpF_z (t : Int) : ∀ i : Nat, rpF t 0 i = 0 := by
  intro i
  induction i with
  | zero => rfl
  | succ i ih => rw [rpF_s, ih, bt_0, if_neg (by decide)]; rfl
theorem rp_sum {r : Int → Int} {n K : Nat} (n6 : n ≤ 6) (hf : ∀ c : Int, 0 ≤ c → c < n → 0 ≤ r (4 * c + 1) ∧ r (4 * c + 1) < K) : ∀ i : Nat, i ≤ n → sumC (fun t => rpF t (hbits (fun c => r (4 * c + 1)) t n) i) K = rwF r i := by
  intro i
  induction i with
  | zero => intro _; exact sumC_0 K (fun _ _ _ => rfl)
  | succ i ih =>
    intro hi
    have hc := hf i (by omega) (by omega)
    have e : sumC (fun t => rpF t (hbits (fun c => r (4 * c + 1)) t n) (i + 1)) K = sumC (fun t => 10 * rpF t (hbits (fun c => r (4 * c + 1)) t n) i + if r (4 * (i : Int) + 1) = t then t else 0) K := by
      refine sumC_cong (fun t _ _ => ?_)
      have hb := hbits_bit (fun c => r (4 * c + 1)) t (i := (i : Int)) (by omega) (by omega) n6
      rw [rpF_s]
      by_cases q : r (4 * (i : Int) + 1) = t
      · rw [if_pos ⟨by omega, q⟩] at hb
        rw [hb, if_pos rfl, if_pos q]
      · rw [if_neg (fun z => q z.2)] at hb
        rw [hb, if_neg (by decide), if_neg q]
    rw [e, sumC_add (fun t => 10 * rpF t (hbits (fun c => r (4 * c + 1)) t n) i) (fun t => if r (4 * (i : Int) + 1) = t then t else 0), sumC_mul, ih (by omega), sumC_pick (fun t => t) hc.1, if_pos hc.2, rwF_s]
theorem G_no {f : Int → Int} {t : Int} {n : Nat} (n6 : n ≤ 6) (z : hbits f t n = 0) {c : Int} (c0 : 0 ≤ c) (c1 : c < n) : f c ≠ t := by
  intro e
  have := hbits_bit f t c0 (by omega) n6
  rw [z, bt_0, if_pos ⟨c1, e⟩] at this
  omega
/-- a sum over groups, CHAIR by CHAIR -/
theorem tot_G {f : Int → Int} {n K : Nat} {V : Int → Int → Int} (hf : ∀ c : Int, 0 ≤ c → c < n → 0 ≤ f c ∧ f c < K) : sumC (fun t => sumC (fun c => if f c = t then V t c else 0) n) K = sumC (fun c => V (f c) c) n := by
  rw [sumC_swap (fun t c => if f c = t then V t c else 0)]
  refine sumC_cong (fun c c0 c1 => ?_)
  have h := hf c c0 c1
  rw [sumC_pick (fun t => V t c) h.1, if_pos h.2]
theorem tot_most {σ : Mem} {p : Int} {r : Int → Int} {n K : Nat} (n6 : n ≤ 6) (hn : (pcnt σ 6 2).toNat = n) (hf : ∀ c : Int, 0 ≤ c → c < n → 0 ≤ r (4 * c + 1) ∧ r (4 * c + 1) < K) : sumC (fun t => if hbits (fun c => r (4 * c + 1)) t n = 0 then 0 else tkF σ p (-1) t (hbits (fun c => r (4 * c + 1)) t n)) K = -1000000 * sumC (fun c => sFl σ p (r (4 * c + 1)) (hbits (fun c => r (4 * c + 1)) (r (4 * c + 1)) n) c) n + rwF r n := by
  have e : sumC (fun t => if hbits (fun c => r (4 * c + 1)) t n = 0 then 0 else tkF σ p (-1) t (hbits (fun c => r (4 * c + 1)) t n)) K = sumC (fun t => -1000000 * sumC (fun c => if r (4 * c + 1) = t then sFl σ p t (hbits (fun c => r (4 * c + 1)) t n) c else 0) n + rpF t (hbits (fun c => r (4 * c + 1)) t n) n) K := by
    refine sumC_cong (fun t _ _ => ?_)
    by_cases z : hbits (fun c => r (4 * c + 1)) t n = 0
    · rw [if_pos z, sumC_0 n (fun c c0 c1 => if_neg (G_no n6 z c0 c1)), z, rpF_z]; rfl
    · rw [if_neg z]
      unfold tkF
      rw [if_pos rfl, hn, sOv_sum, G_sum (sFl σ p t (hbits (fun c => r (4 * c + 1)) t n)) (fun c => r (4 * c + 1)) t n6]
  rw [e, sumC_add (fun t => -1000000 * sumC (fun c => if r (4 * c + 1) = t then sFl σ p t (hbits (fun c => r (4 * c + 1)) t n) c else 0) n) (fun t => rpF t (hbits (fun c => r (4 * c + 1)) t n) n), sumC_mul, rp_sum n6 hf n (Nat.le_refl _), tot_G (f := fun c => r (4 * c + 1)) (V := fun t c => sFl σ p t (hbits (fun c => r (4 * c + 1)) t n) c) hf]
theorem oc_sum (q r : Int → Int) : ∀ n : Nat, oc q r n = sumC (fun c => if r (4 * c + 1) = q (4 * c + 1) then 0 else 1) n := by
  intro n
  induction n with
  | zero => rfl
  | succ n ih => rw [sumC_s, ← ih]; rfl
theorem tot_tick {σ : Mem} {p w : Int} {q r : Int → Int} {n K : Nat} (hw : w ≠ -1) (n6 : n ≤ 6) (hn : (pcnt σ 6 2).toNat = n) (hf : ∀ c : Int, 0 ≤ c → c < n → 0 ≤ r (4 * c + 1) ∧ r (4 * c + 1) < K) (hq : ∀ c : Int, 0 ≤ c → c < n → σ 18 c = q (4 * c + 1))
    (hok : ∀ c : Int, 0 ≤ c → c < n → w ≤ sFl σ p (r (4 * c + 1)) (hbits (fun c => r (4 * c + 1)) (r (4 * c + 1)) n) c ∧ sOa σ p (r (4 * c + 1)) (hbits (fun c => r (4 * c + 1)) (r (4 * c + 1)) n) c = -1) :
    sumC (fun t => if hbits (fun c => r (4 * c + 1)) t n = 0 then 0 else tkF σ p w t (hbits (fun c => r (4 * c + 1)) t n)) K = 1000000 * oc q r n + rwF r n := by
  have e : sumC (fun t => if hbits (fun c => r (4 * c + 1)) t n = 0 then 0 else tkF σ p w t (hbits (fun c => r (4 * c + 1)) t n)) K = sumC (fun t => sumC (fun c => if r (4 * c + 1) = t then (if σ 18 c = t then 0 else 1000000) else 0) n + rpF t (hbits (fun c => r (4 * c + 1)) t n) n) K := by
    refine sumC_cong (fun t _ _ => ?_)
    by_cases z : hbits (fun c => r (4 * c + 1)) t n = 0
    · rw [if_pos z, sumC_0 n (fun c c0 c1 => if_neg (G_no n6 z c0 c1)), z, rpF_z]; rfl
    · rw [if_neg z]
      have nb : ¬ badP (sFl σ p t (hbits (fun c => r (4 * c + 1)) t n)) (sOa σ p t (hbits (fun c => r (4 * c + 1)) t n)) w (hbits (fun c => r (4 * c + 1)) t n) 6 := by
        rintro ⟨i, i0, i1, hb, h⟩
        rw [hbits_bit _ _ i0 i1 n6] at hb
        by_cases y : i < n ∧ r (4 * i + 1) = t
        · have := hok i i0 y.1
          rw [y.2] at this
          rcases h with h | h
          · omega
          · exact h this.2
        · rw [if_neg y] at hb; omega
      unfold tkF
      rw [if_neg hw, chF_f nb, hn, csF_sum, G_sum (fun c => if σ 18 c = t then 0 else 1000000) (fun c => r (4 * c + 1)) t n6]
  rw [e, sumC_add (fun t => sumC (fun c => if r (4 * c + 1) = t then (if σ 18 c = t then 0 else 1000000) else 0) n) (fun t => rpF t (hbits (fun c => r (4 * c + 1)) t n) n), rp_sum n6 hf n (Nat.le_refl _), tot_G (f := fun c => r (4 * c + 1)) (V := fun t c => if σ 18 c = t then 0 else 1000000) hf, oc_sum, ← sumC_mul]
  congr 1
  refine sumC_cong (fun c c0 c1 => ?_)
  rw [hq c c0 c1]
  by_cases y : q (4 * c + 1) = r (4 * c + 1)
  · rw [if_pos y, if_pos y.symm]; rfl
  · rw [if_neg y, if_neg (fun z => y z.symm)]; rfl
theorem tot_bad {σ : Mem} {p w : Int} {r : Int → Int} {n K : Nat} (hB : planB σ 6) (h9 : pval σ 6 1 p 3 ≤ 9) (hw : w ≠ -1) (n6 : n ≤ 6) (hn : (pcnt σ 6 2).toNat = n) (K6 : K ≤ 6) (hf : ∀ c : Int, 0 ≤ c → c < n → 0 ≤ r (4 * c + 1) ∧ r (4 * c + 1) < K)
    {c : Int} (c0 : 0 ≤ c) (c1 : c < n) (hbad : sFl σ p (r (4 * c + 1)) (hbits (fun c => r (4 * c + 1)) (r (4 * c + 1)) n) c < w ∨ sOa σ p (r (4 * c + 1)) (hbits (fun c => r (4 * c + 1)) (r (4 * c + 1)) n) c ≠ -1) :
    1152921504606846976 ≤ sumC (fun t => if hbits (fun c => r (4 * c + 1)) t n = 0 then 0 else tkF σ p w t (hbits (fun c => r (4 * c + 1)) t n)) K := by
  have hc := hf c c0 c1
  have hbit : bt (hbits (fun c => r (4 * c + 1)) (r (4 * c + 1)) n) c = 1 := by rw [hbits_bit _ _ c0 (by omega) n6, if_pos ⟨c1, rfl⟩]
  refine (sumC_ge (a := r (4 * c + 1)) (by decide) hc.1 ?_ K (fun t t0 t1 => ?_)).2 hc.2
  · have g := hbits_64 (fun c => r (4 * c + 1)) (r (4 * c + 1)) n6
    have nz : hbits (fun c => r (4 * c + 1)) (r (4 * c + 1)) n ≠ 0 := fun z => by rw [z, bt_0] at hbit; omega
    show _ ≤ if hbits (fun c => r (4 * c + 1)) (r (4 * c + 1)) n = 0 then 0 else _
    rw [if_neg nz]
    have bd : badP (sFl σ p (r (4 * c + 1)) (hbits (fun c => r (4 * c + 1)) (r (4 * c + 1)) n)) (sOa σ p (r (4 * c + 1)) (hbits (fun c => r (4 * c + 1)) (r (4 * c + 1)) n)) w (hbits (fun c => r (4 * c + 1)) (r (4 * c + 1)) n) 6 := ⟨c, c0, by omega, hbit, hbad⟩
    have rb := rpF_b (t := r (4 * c + 1)) (hbits (fun c => r (4 * c + 1)) (r (4 * c + 1)) n) hc.1 (by omega) n
    unfold tkF
    rw [if_neg hw, chF_t bd, hn]
    omega
  · by_cases z : hbits (fun c => r (4 * c + 1)) t n = 0
    · rw [if_pos z]; exact Int.le_refl _
    · rw [if_neg z]
      have g := hbits_64 (fun c => r (4 * c + 1)) t n6
      have := tkF_b (w := w) hB h9 g.1 g.2 t0 (by omega)
      rw [if_neg hw] at this
      exact this.1
/-- a row of TICKETS apart: what a CHAIR feels in the reference and in its group -/
theorem grp_row {σ m : Mem} {p : Int} (hH : eqH σ m) (hA : eqA σ m 16 5015) (hx : mX m 5015) (p0 : 0 ≤ p) (p1 : p < m 5000 28) {r : Int → Int} {n : Nat} (hn : m 5000 29 = n) (hr : ∀ j, (∀ d, 0 ≤ d → d < (n : Int) → j ≠ 4 * d + 1) → r j = m 5015 j) (hf : ∀ c : Int, 0 ≤ c → c < n → 0 ≤ r (4 * c + 1) ∧ r (4 * c + 1) < m 5000 30) {c : Int} (c0 : 0 ≤ c) (c1 : c < n) :
    sFl σ p (r (4 * c + 1)) (hbits (fun c => r (4 * c + 1)) (r (4 * c + 1)) n) c = mFl (setv m 5016 r) 5016 p (mMi m p) c ∧ sOa σ p (r (4 * c + 1)) (hbits (fun c => r (4 * c + 1)) (r (4 * c + 1)) n) c = mOa (setv m 5016 r) 5016 p (mMi m p) c := by
  obtain ⟨e2, e1, e3, eL, eP, eD, eR⟩ := id hH
  obtain ⟨aC, aI, aE⟩ := hA
  have m9 := mMi_9 hx p0 p1
  have n29 := hx.2.1.2.2.1
  have s16 : setv m 5016 r 5016 = r := setv_s _ _ _
  have so : ∀ b, b ≠ 5016 → setv m 5016 r b = m b := fun b h => setv_o _ _ h
  have hc := hf c c0 c1
  have eMi : pval σ 6 1 p 3 = m 5007 (4 * p + 3) := eP p 3 p0 p1 (by decide) (by decide)
  have hb := hbits_64 (fun c => r (4 * c + 1)) (r (4 * c + 1)) (n := n) (by omega)
  have hS : ∀ d : Int, 0 ≤ d → d < 6 → bt (hbits (fun c => r (4 * c + 1)) (r (4 * c + 1)) n) d = if d < n ∧ setv m 5016 r 5016 (4 * d + 1) = r (4 * c + 1) then 1 else 0 := by
    intro d d0 d1
    rw [hbits_bit _ _ d0 d1 (by omega), s16]
  have r24 : r 24 = m 5015 24 := hr 24 (fun d _ _ => by omega)
  have r26 : r 26 = m 5015 26 := hr 26 (fun d _ _ => by omega)
  have hg : ∀ (d N : Int) (k : Nat), 0 ≤ d → d < n → setv m 5016 r 5016 (4 * d + 1) = r (4 * c + 1) → 1 ≤ N → N ≤ 6 → k < mMi m p → gmv σ 16 (r (4 * c + 1)) p d N k = if bt (setv m 5016 r 5016 24) (r (4 * c + 1)) = 1 then 0 else mRk (setv m 5016 r) (setv m 5016 r 5007 (4 * p + (k : Int) % 3)) (setv m 5016 r 5016 (4 * d)) (setv m 5016 r 5011 (r (4 * c + 1))) N k (setv m 5016 r 5016 26) := by
    intro d N k d0 d1 dt N1 N6 hk
    have hk' : (k : Int) < m 5007 (4 * p + 3) := by unfold mMi at hk; omega
    have eK : mRk (setv m 5016 r) (m 5007 (4 * p + (k : Int) % 3)) (m 5015 (4 * d)) (m 5011 (r (4 * c + 1))) N k (m 5015 26) = mRk m (m 5007 (4 * p + (k : Int) % 3)) (m 5015 (4 * d)) (m 5011 (r (4 * c + 1))) N k (m 5015 26) := by
      unfold mRk
      rw [mwo_c (so 5002 (by decide)) (so 5003 (by decide)), so 5000 (by decide)]
    rw [s16, so 5007 (by decide), so 5011 (by decide), r24, r26, hr (4 * d) (fun e _ _ => by omega), eK]
    exact gmv_mR hH aI aE hx p0 p1 hc.1 hc.2 d0 (by omega) (aC d d0 (by omega)).1 N1 N6 (by omega)
  have G := grp (g := gmv σ 16 (r (4 * c + 1)) p) (S := hbits (fun c => r (4 * c + 1)) (r (4 * c + 1)) n) (m := setv m 5016 r) (w := 5016) (t := r (4 * c + 1)) (p := p) (K := mMi m p) (by rw [so 5000 (by decide)]; exact hn) (by omega) hb.1 hb.2 hS hg (mMi m p) (Nat.le_refl _)
  have := G.2 c c0 c1 (by rw [s16])
  rw [so 5005 (by decide)] at this
  unfold sFl sOa
  rw [eMi, eL]
  exact this
theorem xt_5 {S : Nat} (hS : S ≤ 6) {d : Nat} (hd : d ≤ 5) {r r' : Int → Int} (h : xt S (d + 1) 0 r r') : rwF r' (d + 1) < 600000 := by
  obtain ⟨t, ht, h⟩ := h
  have a := xt_row (show S ≤ 10 by omega) d 1 (upf r (4 * ((0 : Nat) : Int) + 1) t) r' h
  rw [rwF_u, show rwF r 0 = 0 from rfl, show 1 + d = d + 1 by omega] at a
  have p5 : (10 : Int) ^ d ≤ 100000 := by
    have key : ∀ n : Nat, n < 6 → (10 : Int) ^ n ≤ 100000 := by decide +kernel
    exact key d (by omega)
  have p0 : (0 : Int) < 10 ^ d := Int.pow_pos (by decide)
  generalize (10 : Int) ^ d = P at *
  have e4 : (10 * 0 + (t : Int)) * P ≤ 5 * P := Int.mul_le_mul_of_nonneg_right (by omega) (by omega)
  omega
theorem xt_all {m : Mem} {n S : Nat} (hn : m 5000 29 = n) {r : Int → Int} (h : xt S n 0 (m 5015) r) : (∀ j, (∀ d, 0 ≤ d → d < (n : Int) → j ≠ 4 * d + 1) → r j = m 5015 j) ∧ ∀ c : Int, 0 ≤ c → c < n → 0 ≤ r (4 * c + 1) ∧ r (4 * c + 1) < S :=
  ⟨fun j hj => xt_pre h j (fun e a b => hj e a (by omega)), fun c c0 c1 => xt_in h c c0 (by omega)⟩
theorem tick_eq {σ m : Mem} {p w : Int} (hH : eqH σ m) (hA : eqA σ m 16 5015) (hx : mX m 5015) (hB : planB σ 6) (p0 : 0 ≤ p) (p1 : p < m 5000 28) (w0 : 0 ≤ w) {n : Nat} (hn : m 5000 29 = n) (n1 : 1 ≤ n) {B : Int → Int} (hD : dpC σ p w (2 ^ n - 1) (m 5000 30).toNat B) :
    (tkG m p w n (m 5015) 0 0 (-1, -1) = if 1152921504606846976 ≤ B (2 ^ n - 1) then (-1, -1) else (B (2 ^ n - 1) % 1000000, B (2 ^ n - 1) / 1000000)) ∧ (B (2 ^ n - 1) < 1152921504606846976 → 0 ≤ B (2 ^ n - 1) ∧ B (2 ^ n - 1) ≤ 1000000000000) := by
  have n29 := hx.2.1.2.2.1
  have n30 := hx.2.1.2.2.2.1
  have m9 := mMi_9 hx p0 p1
  obtain ⟨S, hS⟩ : ∃ S : Nat, m 5000 30 = S := ⟨(m 5000 30).toNat, by omega⟩
  rw [hS, Int.toNat_natCast] at hD
  have e2 : (pcnt σ 6 2).toNat = n := by rw [hH.1, hn, Int.toNat_natCast]
  have e9 : pval σ 6 1 p 3 ≤ 9 := by rw [hH.2.2.2.2.1 p 3 p0 p1 (by decide) (by decide)]; exact m9.2
  have hw : w ≠ -1 := by omega
  have n6 : n ≤ 6 := by omega
  have hq : ∀ c : Int, 0 ≤ c → c < n → σ 18 c = m 5015 (4 * c + 1) := fun c c0 c1 => (hA.1 c c0 (by omega)).2
  have cost : ∀ r, xt S n 0 (m 5015) r → (tkO m p w r → sumC (fun t => if hbits (fun c => r (4 * c + 1)) t n = 0 then 0 else tkF σ p w t (hbits (fun c => r (4 * c + 1)) t n)) S = 1000000 * oc (m 5015) r n + rwF r n) ∧ (¬ tkO m p w r → 1152921504606846976 ≤ sumC (fun t => if hbits (fun c => r (4 * c + 1)) t n = 0 then 0 else tkF σ p w t (hbits (fun c => r (4 * c + 1)) t n)) S) := by
    intro r hr
    obtain ⟨a1, a2⟩ := xt_all hn hr
    have a3 : ∀ c : Int, 0 ≤ c → c < n → 0 ≤ r (4 * c + 1) ∧ r (4 * c + 1) < m 5000 30 := by rw [hS]; exact a2
    have g := fun (c : Int) (c0 : 0 ≤ c) (c1 : c < n) => grp_row hH hA hx p0 p1 hn a1 a3 c0 c1
    have so5 : setv m 5016 r 5000 = m 5000 := setv_o _ _ (by decide)
    have ob := mOu_b (setv m 5016 r) 5016 p (by rw [so5]; omega) (mMi m p)
    refine ⟨fun hk => tot_tick hw n6 e2 a2 hq (fun c c0 c1 => ?_), fun hk => ?_⟩
    · rw [(g c c0 c1).1, (g c c0 c1).2]
      refine ⟨hk.2 c c0 (by omega), ?_⟩
      have := mOu_oa (σ := setv m 5016 r) (w := 5016) (p := p) (by rw [so5]; omega) c0 (by rw [so5]; omega) (mMi m p)
      rw [hk.1, bt_0] at this
      exact Classical.byContradiction (fun q => absurd (this.mpr q) (by decide))
    · have ex : ∃ c : Int, 0 ≤ c ∧ c < n ∧ (mFl (setv m 5016 r) 5016 p (mMi m p) c < w ∨ mOa (setv m 5016 r) 5016 p (mMi m p) c ≠ -1) := by
        refine Classical.byContradiction (fun q => hk ⟨?_, fun c c0 c1 => ?_⟩)
        · refine bt_ext ob.1 ob.2 (by decide) (by decide) (fun i i0 i1 => ?_)
          rw [bt_0]
          have b01 := bt_b (mOu (setv m 5016 r) 5016 p (mMi m p)) i
          by_cases l : i < n
          · have := mOu_oa (σ := setv m 5016 r) (w := 5016) (p := p) (by rw [so5]; omega) i0 (by rw [so5]; omega) (mMi m p)
            by_cases y : bt (mOu (setv m 5016 r) 5016 p (mMi m p)) i = 1
            · exact absurd ⟨i, i0, l, Or.inr (this.mp y)⟩ q
            · omega
          · rw [← mOu_gb (by rw [so5]; omega) (by rw [so5]; omega)]
            unfold outB
            rw [gb_bit _ i0 i1 _ (by rw [so5]; omega), if_neg (fun y => by rw [so5] at y; omega)]
        · refine Classical.byContradiction (fun y => q ⟨c, c0, by omega, Or.inl (by omega)⟩)
      obtain ⟨c, c0, c1, hc⟩ := ex
      rw [← (g c c0 c1).1, ← (g c c0 c1).2] at hc
      exact tot_bad hB e9 hw n6 e2 (by omega) a2 c0 c1 hc
  have sr := tkG_ok (p := p) (w := w) hn n6 hS (by omega) n 0 (m 5015) 0 (-1, -1) (by omega) rfl (fun r' h => xt_6 (by omega) n6 h) (Or.inl rfl)
  rw [show ((0 : Nat) : Int) = 0 from rfl] at sr
  have lb : ∀ r, xt S n 0 (m 5015) r → B (2 ^ n - 1) ≤ sumC (fun t => if hbits (fun c => r (4 * c + 1)) t n = 0 then 0 else tkF σ p w t (hbits (fun c => r (4 * c + 1)) t n)) S := by
    intro r hr
    obtain ⟨a1, a2⟩ := xt_all hn hr
    have := dp_lb (f := fun c => r (4 * c + 1)) n6 S B hD (fun c c0 c1 => (a2 c c0 c1).1)
    have g := gb_64 (fun c => decide (r (4 * c + 1) < (S : Int))) n6
    have f6 := full_64 n6
    have e : gb (fun c => decide (r (4 * c + 1) < (S : Int))) n = 2 ^ n - 1 := by
      refine bt_ext g.1 g.2 f6.1 f6.2 (fun i i0 i1 => ?_)
      rw [gb_bit _ i0 i1 n n6]
      have bf := bt_full0 n n6 i.toNat (by omega)
      rw [show ((i.toNat : Nat) : Int) = i by omega] at bf
      rw [bf]
      by_cases l : i < n
      · rw [if_pos ⟨l, decide_eq_true (a2 i i0 l).2⟩, if_pos (by omega)]
      · rw [if_neg (fun y => l y.1), if_neg (by omega)]
    rw [e] at this
    exact this
  have att : B (2 ^ n - 1) < 1152921504606846976 → ∃ r, xt S n 0 (m 5015) r ∧ B (2 ^ n - 1) = sumC (fun t => if hbits (fun c => r (4 * c + 1)) t n = 0 then 0 else tkF σ p w t (hbits (fun c => r (4 * c + 1)) t n)) S := by
    intro hlt
    have f6 := full_64 n6
    have hat := dp_att (σ := σ) (p := p) (w := w) n6 (lo := 0) (by decide) (K := S) (by omega) (fun t T ht T1 T2 => by
      have := tkF_b (w := w) hB e9 (show (0 : Int) ≤ T by omega) (show (T : Int) < 64 by omega) (show (0 : Int) ≤ t by omega) (by omega)
      rw [if_neg hw] at this
      omega) S B (Nat.le_refl _) hD ((2 : Int) ^ n - 1).toNat (by omega)
    rw [show ((((2 : Int) ^ n - 1).toNat : Nat) : Int) = 2 ^ n - 1 by omega] at hat
    rcases hat with h | ⟨f, hf, hv⟩
    · rw [Int.zero_mul] at h; omega
    · have hin : ∀ e : Int, 0 ≤ e → e < 0 + (n : Int) → 0 ≤ f e ∧ f e < S := by
        intro e e0 e1
        rcases hf e e0 (by omega) with h | h
        · exact ⟨h.1, h.2.1⟩
        · have bf := bt_full0 n n6 e.toNat (by omega)
          rw [show ((e.toNat : Nat) : Int) = e by omega, if_pos (by omega)] at bf
          omega
      obtain ⟨r, hr, hrf⟩ := xt_mk f n 0 (m 5015) hin
      refine ⟨r, hr, ?_⟩
      rw [hv]
      refine sumC_cong (fun t _ _ => ?_)
      rw [hbits_c (f := f) (g := fun c => r (4 * c + 1)) (fun c c0 c1 => by rw [hrf c c0 (by omega)])]
  obtain ⟨s1, s2, s3⟩ := sr
  have vb : ∀ r, xt S n 0 (m 5015) r → tcd (rwF r n, oc (m 5015) r n) = 1000000 * oc (m 5015) r n + rwF r n := fun r _ => by
    have := oc_b (m 5015) r n
    exact tcd_n (show oc (m 5015) r n ≠ -1 by omega)
  rcases s1 with e | ⟨r, hr, hk, e⟩
  · have hnone : ∀ r, xt S n 0 (m 5015) r → ¬ tkO m p w r := by
      intro r hr hk
      have := s2 r hr hk
      have v := vb r hr
      have b1 := oc_b (m 5015) r n
      have b2 := xt_6 (by omega) n6 hr
      rw [e] at this
      have t0 : tcd (-1, -1) = 1000000000000000 := rfl
      rw [t0] at this
      have : (1000000000000000 : Int) ≤ 1000000 * oc (m 5015) r n + rwF r n := by rw [← v]; exact this
      omega
    have : 1152921504606846976 ≤ B (2 ^ n - 1) := by
      refine Classical.byContradiction (fun q => ?_)
      obtain ⟨r, hr, hv⟩ := att (by omega)
      have := (cost r hr).2 (hnone r hr)
      omega
    exact ⟨by rw [e, if_pos this], fun q => by omega⟩
  · have v := vb r hr
    have b1 := oc_b (m 5015) r n
    have b2 := xt_6 (by omega) n6 hr
    have l1 := lb r hr
    rw [(cost r hr).1 hk] at l1
    have hlt : B (2 ^ n - 1) < 1152921504606846976 := by omega
    obtain ⟨r2, hr2, hv⟩ := att hlt
    have hk2 : tkO m p w r2 := Classical.byContradiction (fun q => by have := (cost r2 hr2).2 q; omega)
    rw [(cost r2 hr2).1 hk2] at hv
    have l2 := s2 r2 hr2 hk2
    rw [e] at l2
    have l2 : tcd (rwF r n, oc (m 5015) r n) ≤ tcd (rwF r2 n, oc (m 5015) r2 n) := l2
    rw [v, vb r2 hr2] at l2
    have eB : B (2 ^ n - 1) = 1000000 * oc (m 5015) r n + rwF r n := by omega
    refine ⟨?_, fun _ => by omega⟩
    rw [e, if_neg (by omega), eB]
    show (rwF r n, oc (m 5015) r n) = _
    rw [show (1000000 * oc (m 5015) r n + rwF r n) % 1000000 = rwF r n by omega, show (1000000 * oc (m 5015) r n + rwF r n) / 1000000 = oc (m 5015) r n by omega]
theorem most_eq {σ m : Mem} {p : Int} (hH : eqH σ m) (hA : eqA σ m 16 5015) (hx : mX m 5015) (hB : planB σ 6) (p0 : 0 ≤ p) (p1 : p < m 5000 28) {n : Nat} (hn : m 5000 29 = n) (n1 : 1 ≤ n) (s1 : 1 ≤ m 5000 30) {B : Int → Int} (hD : dpC σ p (-1) (2 ^ n - 1) (m 5000 30).toNat B) :
    mstF m p n (m 5015) 0 (-1, -1) = (B (2 ^ n - 1) % 1000000, -(B (2 ^ n - 1) / 1000000)) ∧ -1000000000000 ≤ B (2 ^ n - 1) ∧ B (2 ^ n - 1) ≤ 1000000000000 := by
  have n29 := hx.2.1.2.2.1
  have n30 := hx.2.1.2.2.2.1
  have n28 := hx.2.1.2.2.2.2.1
  have m9 := mMi_9 hx p0 p1
  obtain ⟨S, hS⟩ : ∃ S : Nat, m 5000 30 = S := ⟨(m 5000 30).toNat, by omega⟩
  rw [hS, Int.toNat_natCast] at hD
  have e2 : (pcnt σ 6 2).toNat = n := by rw [hH.1, hn, Int.toNat_natCast]
  have e9 : pval σ 6 1 p 3 ≤ 9 := by rw [hH.2.2.2.2.1 p 3 p0 p1 (by decide) (by decide)]; exact m9.2
  have n6 : n ≤ 6 := by omega
  have cost : ∀ r, xt S n 0 (m 5015) r → sumC (fun t => if hbits (fun c => r (4 * c + 1)) t n = 0 then 0 else tkF σ p (-1) t (hbits (fun c => r (4 * c + 1)) t n)) S = -1000000 * rMv m p r + rwF r n := by
    intro r hr
    obtain ⟨a1, a2⟩ := xt_all hn hr
    have a3 : ∀ c : Int, 0 ≤ c → c < n → 0 ≤ r (4 * c + 1) ∧ r (4 * c + 1) < m 5000 30 := by rw [hS]; exact a2
    rw [tot_most n6 e2 a2]
    unfold rMv
    rw [hn, Int.toNat_natCast, sumC_cong (fun c c0 c1 => (grp_row hH hA hx p0 p1 hn a1 a3 c0 c1).1)]
  have mvb : ∀ r, 0 ≤ rMv m p r ∧ rMv m p r ≤ 10000 := fun r => rMv_b hx ⟨by omega, by omega⟩
  have sr := mstF_ok (p := p) hn hS (by omega) n 0 (m 5015) (-1, -1) (by omega) (fun r' h => xt_6 (by omega) n6 h) (by decide) (fun r' h => by
    have := xt_6 (by omega) n6 h
    show (-1 : Int) < _
    omega)
  rw [show ((0 : Nat) : Int) = 0 from rfl] at sr
  have lb : ∀ r, xt S n 0 (m 5015) r → B (2 ^ n - 1) ≤ sumC (fun t => if hbits (fun c => r (4 * c + 1)) t n = 0 then 0 else tkF σ p (-1) t (hbits (fun c => r (4 * c + 1)) t n)) S := by
    intro r hr
    obtain ⟨a1, a2⟩ := xt_all hn hr
    have := dp_lb (f := fun c => r (4 * c + 1)) n6 S B hD (fun c c0 c1 => (a2 c c0 c1).1)
    have g := gb_64 (fun c => decide (r (4 * c + 1) < (S : Int))) n6
    have f6 := full_64 n6
    have e : gb (fun c => decide (r (4 * c + 1) < (S : Int))) n = 2 ^ n - 1 := by
      refine bt_ext g.1 g.2 f6.1 f6.2 (fun i i0 i1 => ?_)
      rw [gb_bit _ i0 i1 n n6]
      have bf := bt_full0 n n6 i.toNat (by omega)
      rw [show ((i.toNat : Nat) : Int) = i by omega] at bf
      rw [bf]
      by_cases l : i < n
      · rw [if_pos ⟨l, decide_eq_true (a2 i i0 l).2⟩, if_pos (by omega)]
      · rw [if_neg (fun y => l y.1), if_neg (by omega)]
    rw [e] at this
    exact this
  obtain ⟨r0, hr0, -⟩ := xt_mk (S := S) (fun _ => 0) n 0 (m 5015) (fun e _ _ => ⟨Int.le_refl _, by omega⟩)
  have l0 := lb r0 hr0
  rw [cost r0 hr0] at l0
  have b0 := xt_6 (by omega) n6 hr0
  have v0 := mvb r0
  have att : ∃ r, xt S n 0 (m 5015) r ∧ B (2 ^ n - 1) = sumC (fun t => if hbits (fun c => r (4 * c + 1)) t n = 0 then 0 else tkF σ p (-1) t (hbits (fun c => r (4 * c + 1)) t n)) S := by
    have f6 := full_64 n6
    have hat := dp_att (σ := σ) (p := p) (w := -1) n6 (lo := 6000000000) (by decide) (K := S) (by omega) (fun t T ht T1 T2 => by
      have := tkF_b (w := -1) hB e9 (show (0 : Int) ≤ T by omega) (show (T : Int) < 64 by omega) (show (0 : Int) ≤ t by omega) (by omega)
      rw [if_pos rfl] at this
      omega) S B (Nat.le_refl _) hD ((2 : Int) ^ n - 1).toNat (by omega)
    rw [show ((((2 : Int) ^ n - 1).toNat : Nat) : Int) = 2 ^ n - 1 by omega] at hat
    rcases hat with h | ⟨f, hf, hv⟩
    · omega
    · have hin : ∀ e : Int, 0 ≤ e → e < 0 + (n : Int) → 0 ≤ f e ∧ f e < S := by
        intro e e0 e1
        rcases hf e e0 (by omega) with h | h
        · exact ⟨h.1, h.2.1⟩
        · have bf := bt_full0 n n6 e.toNat (by omega)
          rw [show ((e.toNat : Nat) : Int) = e by omega, if_pos (by omega)] at bf
          omega
      obtain ⟨r, hr, hrf⟩ := xt_mk f n 0 (m 5015) hin
      refine ⟨r, hr, ?_⟩
      rw [hv]
      refine sumC_cong (fun t _ _ => ?_)
      rw [hbits_c (f := f) (g := fun c => r (4 * c + 1)) (fun c c0 c1 => by rw [hrf c c0 (by omega)])]
  obtain ⟨s1', s2, s3⟩ := sr
  have found : ∃ r, xt S n 0 (m 5015) r ∧ mstF m p n (m 5015) 0 (-1, -1) = (rwF r n, rMv m p r) := by
    rcases s1' with e | ⟨r, hr, _, e⟩
    · have := s2 r0 hr0 trivial
      have : ycd (mstF m p n (m 5015) 0 (-1, -1)) ≤ ycd (rwF r0 n, rMv m p r0) := this
      rw [e] at this
      unfold ycd at this
      have : (-1000000 * (-1) + (-1) : Int) ≤ -1000000 * rMv m p r0 + rwF r0 n := this
      obtain ⟨d, hd⟩ : ∃ d, n = d + 1 := ⟨n - 1, by omega⟩
      rw [hd] at hr0 this
      have := xt_5 (by omega) (by omega) hr0
      omega
    · exact ⟨r, hr, e⟩
  obtain ⟨r, hr, e⟩ := found
  obtain ⟨r2, hr2, hv⟩ := att
  have l1 := lb r hr
  rw [cost r hr] at l1
  rw [cost r2 hr2] at hv
  have l2 := s2 r2 hr2 trivial
  have l2 : ycd (mstF m p n (m 5015) 0 (-1, -1)) ≤ ycd (rwF r2 n, rMv m p r2) := l2
  rw [e] at l2
  unfold ycd at l2
  have l2 : -1000000 * rMv m p r + rwF r n ≤ -1000000 * rMv m p r2 + rwF r2 n := l2
  have b2 := xt_6 (by omega) n6 hr
  have eB : B (2 ^ n - 1) = -1000000 * rMv m p r + rwF r n := by omega
  have v9 := mvb r
  refine ⟨?_, by omega, by omega⟩
  rw [e, eB, show (-1000000 * rMv m p r + rwF r n) % 1000000 = rwF r n by omega, show (-1000000 * rMv m p r + rwF r n) / 1000000 = -rMv m p r by omega, Int.neg_neg]
/-! BORNE: rows of PLAYS tried one by one against the best of each EVENING -/
abbrev bMV (m : Mem) (i e p : Int) : Int := rMv m p (bnR m i e)
abbrev bOB (m : Mem) (i e p : Int) : Int := mOu (setv m 5016 (bnR m i e)) 5016 p (mMi m p)
/-- the best PLAY of each of k EVENINGS: the row and how much all are moved -/
def grd (mv ob : Int → Int → Int → Int) (P : Nat) : Nat → Int → Int → Option (Int × Int)
  | 0, _, _ => some (0, 0)
  | k + 1, i, e => if (bbR (mv i e) (ob i e) P).1 = -1 then none else match grd mv ob P k 0 (e + 1) with
    | none => none
    | some x => some ((bbR (mv i e) (ob i e) P).1 * 10 ^ k + x.1, (bbR (mv i e) (ob i e) P).2 + x.2)
theorem grd_n {mv ob : Int → Int → Int → Int} {P k : Nat} {i e : Int} (h : (bbR (mv i e) (ob i e) P).1 = -1) : grd mv ob P (k + 1) i e = none := by
  show (if (bbR (mv i e) (ob i e) P).1 = -1 then none else _) = none
  rw [if_pos h]
theorem grd_m {mv ob : Int → Int → Int → Int} {P k : Nat} {i e : Int} (h : grd mv ob P k 0 (e + 1) = none) : grd mv ob P (k + 1) i e = none := by
  unfold grd
  rw [h]
  split <;> rfl
theorem grd_y {mv ob : Int → Int → Int → Int} {P k : Nat} {i e : Int} {x : Int × Int} (h : (bbR (mv i e) (ob i e) P).1 ≠ -1) (hx : grd mv ob P k 0 (e + 1) = some x) : grd mv ob P (k + 1) i e = some ((bbR (mv i e) (ob i e) P).1 * 10 ^ k + x.1, (bbR (mv i e) (ob i e) P).2 + x.2) := by
  unfold grd
  rw [hx, if_neg h]
def grA (w u : Int) (k : Nat) (s : Int × Int) (o : Option (Int × Int)) : Int × Int := match o with
  | none => s
  | some x => if u + x.2 ≤ s.2 then s else (w * 10 ^ k + x.1, u + x.2)
theorem grA_s (w u : Int) (k : Nat) (s x : Int × Int) : grA w u k s (some x) = if u + x.2 ≤ s.2 then s else (w * 10 ^ k + x.1, u + x.2) := rfl
theorem bbR_s (mv ob : Int → Int) (t : Nat) : bbR mv ob (t + 1) = if ob t = 0 ∧ (bbR mv ob t).2 < mv t then ((t : Int), mv t) else bbR mv ob t := rfl
theorem bbR_n {mv ob : Int → Int} : ∀ t : Nat, (∀ p : Int, 0 ≤ p → p < t → 0 ≤ mv p) → ((bbR mv ob t).1 = -1 ∧ (bbR mv ob t).2 = -1) ∨ (0 ≤ (bbR mv ob t).1 ∧ (bbR mv ob t).1 < t ∧ ob (bbR mv ob t).1 = 0 ∧ (bbR mv ob t).2 = mv (bbR mv ob t).1 ∧ 0 ≤ (bbR mv ob t).2) := by
  intro t
  induction t with
  | zero => intro _; exact Or.inl ⟨rfl, rfl⟩
  | succ t ih =>
    intro h
    have i9 := ih (fun p a b => h p a (by omega))
    have v0 := h t (by omega) (by omega)
    rw [bbR_s]
    by_cases c : ob t = 0 ∧ (bbR mv ob t).2 < mv t
    · rw [if_pos c]
      exact Or.inr ⟨by show (0 : Int) ≤ t; omega, by show (t : Int) < ((t + 1 : Nat) : Int); omega, c.1, rfl, v0⟩
    · rw [if_neg c]
      rcases i9 with i9 | i9
      · exact Or.inl i9
      · exact Or.inr ⟨i9.1, by omega, i9.2.2⟩
theorem bbR_cong {mv ob mv' ob' : Int → Int} : ∀ t : Nat, (∀ p : Int, 0 ≤ p → p < t → mv p = mv' p ∧ ob p = ob' p) → bbR mv ob t = bbR mv' ob' t := by
  intro t
  induction t with
  | zero => intro _; rfl
  | succ t ih =>
    intro h
    rw [bbR_s, bbR_s, ih (fun p a b => h p a (by omega)), (h t (by omega) (by omega)).1, (h t (by omega) (by omega)).2]
theorem bnF_s (m : Mem) (k : Nat) (i e u w : Int) (s : Int × Int) : bnF m (k + 1) i e u w s = mstI (fun p s => if bOB m i e p = 0 then bnF m k 0 (e + 1) (u + bMV m i e p) (10 * w + p) s else s) (m 5000 28).toNat s := rfl
theorem bnF_gr {m : Mem} (hx : mX m 5015) : ∀ (k : Nat) (i e u w : Int) (s : Int × Int), bnF m k i e u w s = grA w u k s (grd (bMV m) (bOB m) (m 5000 28).toNat k i e) := by
  have n28 := hx.2.1.2.2.2.2.1
  intro k
  induction k with
  | zero =>
    intro i e u w s
    show (if u ≤ s.2 then s else (w, u)) = if u + 0 ≤ s.2 then s else (w * 10 ^ 0 + 0, u + 0)
    simp
  | succ k ih =>
    intro i e u w s
    have mv0 : ∀ p : Int, 0 ≤ p → p < m 5000 28 → 0 ≤ bMV m i e p := fun p a b => (rMv_b hx ⟨a, by omega⟩).1
    have fe : (fun (p : Int) (s : Int × Int) => if bOB m i e p = 0 then bnF m k 0 (e + 1) (u + bMV m i e p) (10 * w + p) s else s) = fun p s => if bOB m i e p = 0 then grA (10 * w + p) (u + bMV m i e p) k s (grd (bMV m) (bOB m) (m 5000 28).toNat k 0 (e + 1)) else s := by
      funext p s
      rw [ih]
    rw [bnF_s, fe]
    cases hg : grd (bMV m) (bOB m) (m 5000 28).toNat k 0 (e + 1) with
    | none =>
      have idl : ∀ t : Nat, mstI (fun p s => if bOB m i e p = 0 then grA (10 * w + p) (u + bMV m i e p) k s none else s) t s = s := by
        intro t
        induction t with
        | zero => rfl
        | succ t iht => rw [mstI_s, iht]; split <;> rfl
      rw [idl, grd_m hg]
      rfl
    | some x =>
      have lp : ∀ t : Nat, (t : Int) ≤ m 5000 28 → mstI (fun p s => if bOB m i e p = 0 then grA (10 * w + p) (u + bMV m i e p) k s (some x) else s) t s = if (bbR (bMV m i e) (bOB m i e) t).1 = -1 then s else grA (10 * w + (bbR (bMV m i e) (bOB m i e) t).1) (u + (bbR (bMV m i e) (bOB m i e) t).2) k s (some x) := by
        intro t
        induction t with
        | zero => intro _; exact (if_pos rfl).symm
        | succ t iht =>
          intro ht
          have b := bbR_n (mv := bMV m i e) (ob := bOB m i e) t (fun p a c => mv0 p a (by omega))
          have v0 := mv0 t (by omega) (by omega)
          rw [mstI_s, iht (by omega), bbR_s]
          generalize hb : bbR (bMV m i e) (bOB m i e) t = B at *
          generalize hv : bMV m i e t = V at *
          by_cases o : bOB m i e t = 0
          · rw [if_pos o]
            by_cases l : B.2 < V
            · have eb : (if bOB m i e t = 0 ∧ B.2 < V then ((t : Int), V) else B) = ((t : Int), V) := if_pos ⟨o, l⟩
              rw [eb, if_neg (show ¬ ((t : Int), V).1 = -1 by show ¬ (t : Int) = -1; omega)]
              by_cases z : B.1 = -1
              · rw [if_pos z]
              · rw [if_neg z, grA_s, grA_s, grA_s]
                show (if u + V + x.2 ≤ (if u + B.2 + x.2 ≤ s.2 then s else ((10 * w + B.1) * 10 ^ k + x.1, u + B.2 + x.2)).2 then (if u + B.2 + x.2 ≤ s.2 then s else ((10 * w + B.1) * 10 ^ k + x.1, u + B.2 + x.2)) else ((10 * w + (t : Int)) * 10 ^ k + x.1, u + V + x.2)) = (if u + V + x.2 ≤ s.2 then s else ((10 * w + (t : Int)) * 10 ^ k + x.1, u + V + x.2))
                by_cases y : u + B.2 + x.2 ≤ s.2
                · rw [if_pos y]
                · rw [if_neg y, if_neg (show ¬ u + V + x.2 ≤ u + B.2 + x.2 by omega), if_neg (by omega)]
            · have eb : (if bOB m i e t = 0 ∧ B.2 < V then ((t : Int), V) else B) = B := if_neg (fun q => l q.2)
              rw [eb]
              have z : B.1 ≠ -1 := by omega
              rw [if_neg z, grA_s, grA_s]
              by_cases y : u + B.2 + x.2 ≤ s.2
              · rw [if_pos y, if_pos (by omega)]
              · rw [if_neg y, if_pos (show u + V + x.2 ≤ u + B.2 + x.2 by omega)]
          · have eb : (if bOB m i e t = 0 ∧ B.2 < V then ((t : Int), V) else B) = B := if_neg (fun q => o q.1)
            rw [if_neg o, eb]
      rw [lp _ (by omega)]
      by_cases z : (bbR (bMV m i e) (bOB m i e) (m 5000 28).toNat).1 = -1
      · rw [if_pos z, grd_n z]; rfl
      · rw [if_neg z, grd_y z hg, grA_s, grA_s]
        generalize bbR (bMV m i e) (bOB m i e) (m 5000 28).toNat = B
        show (if u + B.2 + x.2 ≤ s.2 then s else ((10 * w + B.1) * 10 ^ k + x.1, u + B.2 + x.2)) = if u + (B.2 + x.2) ≤ s.2 then s else (w * 10 ^ (k + 1) + (B.1 * 10 ^ k + x.1), u + (B.2 + x.2))
        have e1 : (10 * w + B.1) * 10 ^ k + x.1 = w * 10 ^ (k + 1) + (B.1 * 10 ^ k + x.1) := by
          rw [Int.pow_succ]
          generalize (10 : Int) ^ k = P
          have a1 : (10 * w + B.1) * P = 10 * (w * P) + B.1 * P := by rw [Int.add_mul, Int.mul_assoc]
          have a2 : w * (P * 10) = 10 * (w * P) := by rw [← Int.mul_assoc, Int.mul_comm]
          omega
        rw [e1, Int.add_assoc u]
theorem SA_rkV {σ τ : Mem} (h : SA σ τ) (hl : lawOk σ) (a b c d e f : Int) : rkV τ a b c d e f = rkV σ a b c d e f := by
  have hS : SP σ τ 16 := ⟨SA_r h (by omega), SA_r h (by omega), SA_r h (by omega), SA_r h (by omega), SA_r h (by omega), h.2, fun hw => h.1 _ (by unfold isLw at hw; omega) (by unfold isLw at hw; omega) (by unfold isLw at hw; omega) (by unfold isLw at hw; omega) (by unfold isLw at hw; omega) (by unfold isLw at hw; omega) (by unfold isLw at hw; omega) (by unfold isLw at hw; omega)⟩
  exact SP_rkV hS hl a b c d e f
theorem eqH_c {σ τ m : Mem} (h1 : ∀ k, pcnt τ 6 k = pcnt σ 6 k) (h2 : ∀ x y z, pval τ 6 x y z = pval σ 6 x y z) (h3 : ∀ a b c d e f, rkV τ a b c d e f = rkV σ a b c d e f) (h : eqH σ m) : eqH τ m := by
  obtain ⟨a1, a2, a3, a4, a5, a6, a7⟩ := h
  exact ⟨by rw [h1]; exact a1, by rw [h1]; exact a2, by rw [h1]; exact a3, by rw [h2]; exact a4, fun p k p0 p1 k0 k1 => by rw [h2]; exact a5 p k p0 p1 k0 k1, fun t t0 t1 => by rw [h2]; exact a6 t t0 t1, fun f g d n k e hd hn => by rw [h3]; exact a7 f g d n k e hd hn⟩
theorem eqH_m {σ m m' : Mem} (h5 : ∀ k, k = 28 ∨ k = 29 ∨ k = 30 ∨ k = 38 → m' 5000 k = m 5000 k) (h0 : ∀ b, b = 5002 ∨ b = 5003 ∨ b = 5005 ∨ b = 5007 ∨ b = 5011 → m' b = m b) (h : eqH σ m) : eqH σ m' := by
  obtain ⟨a1, a2, a3, a4, a5, a6, a7⟩ := h
  unfold eqH
  rw [h5 28 (by decide), h5 29 (by decide), h5 30 (by decide), h0 5005 (by decide), h0 5007 (by decide), h0 5011 (by decide)]
  refine ⟨a1, a2, a3, a4, a5, a6, fun f g d n k e hd hn => ?_⟩
  rw [a7 f g d n k e hd hn]
  unfold mRk
  rw [mwo_c (h0 5002 (by decide)) (h0 5003 (by decide)), h5 38 (by decide)]
theorem eqH_SA {σ τ m : Mem} (h : SA σ τ) (hl : lawOk σ) (hH : eqH σ m) : eqH τ m := eqH_c (SA_pcnt h) (SA_pval h) (SA_rkV h hl) hH
theorem mX_sv {m : Mem} (hx : mX m 5015) {r : Int → Int} (hr : aR (m 5000 29) (m 5000 30) r) : mX (setv m 5016 r) 5016 := by
  have hQ : QF m (setv m 5016 r) := ⟨fun b h1 h2 h3 h4 => setv_o _ _ (by omega), fun k _ _ _ _ _ _ _ => by rw [setv_o _ _ (by decide)]⟩
  exact QF_mX hQ (mOk_sv hx.2.1.1 (Or.inr rfl) r) hx hr (fun j _ _ => by rw [setv_s])
/-- who is ILL before EVENING k -/
def illA (i : Int) (k : Nat) : Int := if k = 0 then i else 0
theorem SF_SA {σ τ : Mem} (h : SF σ τ) : SA σ τ := SW_SA (SF_SW h)
theorem shP_SA {σ τ : Mem} {p : Int} (h : shP σ τ 21 p) : SA σ τ := ⟨fun b h0 h1 h2 h3 h4 h5 h6 h7 => h.1 b (by omega) (by omega) (by omega) (by omega) (by omega) (by omega) (by omega) (by omega) h4 h5 h6 h7, h.2.1⟩
/-- the audience apart is the reference's row with i and e -/
def eqB (τ m : Mem) (i e : Int) : Prop := (∀ c, 0 ≤ c → c < m 5000 29 → τ 22 c = m 5015 (4 * c) ∧ τ 23 c = m 5015 (4 * c + 1)) ∧ τ 21 4 = i ∧ τ 21 6 = e
theorem eqB_A {τ m : Mem} {i e : Int} (n6 : m 5000 29 ≤ 6) (h : eqB τ m i e) : eqA τ (setv m 5016 (bnR m i e)) 21 5016 := by
  have so5 : setv m 5016 (bnR m i e) 5000 = m 5000 := setv_o _ _ (by decide)
  unfold eqA
  rw [so5, setv_s]
  refine ⟨fun c c0 c1 => ?_, ?_, ?_⟩
  · unfold bnR
    rw [upf_n2 _ (by omega), upf_n2 _ (by omega), upf_n2 _ (by omega), upf_n2 _ (by omega)]
    exact h.1 c c0 c1
  · unfold bnR; rw [upf_n2 _ (by decide), upf_s2]; exact h.2.1
  · unfold bnR; rw [upf_s2]; exact h.2.2
theorem eqB_bb {τ m : Mem} {i e : Int} (hx : mX m 5015) (hH : eqH τ m) (h : eqB τ m i e) (i0 : 0 ≤ i) (i1 : i < 64) (e0 : 0 ≤ e) (e1 : e ≤ 2000) {p : Int} (p0 : 0 ≤ p) (p1 : p < m 5000 28) : bMv τ p = bMV m i e p ∧ bOb τ p = bOB m i e p := by
  have n29 := hx.2.1.2.2.1
  have so : ∀ b, b ≠ 5016 → setv m 5016 (bnR m i e) b = m b := fun b hb => setv_o _ _ hb
  have hA := eqB_A n29.2 h
  have hH' : eqH τ (setv m 5016 (bnR m i e)) := eqH_m (fun k _ => by rw [so 5000 (by decide)]) (fun b hb => so b (by omega)) hH
  have hx' := mX_sv hx (aR_bn n29.2 hx.2.2 i0 i1 e0 e1)
  have p1' : p < setv m 5016 (bnR m i e) 5000 28 := by rw [so 5000 (by decide)]; exact p1
  have s1 := play_sum hH' hA hx' p0 p1'
  have s2 := play_out hH' hA hx' p0 p1'
  unfold mMi at s1 s2
  rw [so 5007 (by decide)] at s1 s2
  rw [so 5000 (by decide)] at s1
  exact ⟨s1, s2⟩
theorem bn_fwd {σ m : Mem} (hH : eqH σ m) (hA : eqA σ m 16 5015) (hx : mX m 5015) (hl : lawOk σ) (he : m 5015 26 ≤ 1000) : ∀ (k : Nat) (r q : Int) (τ : Mem), k ≤ 4 → bnX k σ r q τ → SA σ τ ∧ eqB τ m (illA (m 5015 24) k) (m 5015 26 + k) ∧ 0 ≤ q ∧ ∀ K : Nat, grd (bMV m) (bOB m) (m 5000 28).toNat (k + K) (m 5015 24) (m 5015 26) = match grd (bMV m) (bOB m) (m 5000 28).toNat K (illA (m 5015 24) k) (m 5015 26 + k) with
      | none => none
      | some x => some (r * 10 ^ K + x.1, q + x.2) := by
  have n29 := hx.2.1.2.2.1
  have n28 := hx.2.1.2.2.2.2.1
  have r24 := hx.2.2.2.1
  have r26 := hx.2.2.2.2.2.1
  intro k
  induction k with
  | zero =>
    rintro r q τ _ ⟨rfl, rfl, rfl⟩
    have ha := apM_r σ
    refine ⟨SA_set _ _, ⟨fun c c0 c1 => ?_, ?_, ?_⟩, Int.le_refl _, fun K => ?_⟩
    · have h1 := ha.1 c c0 (by omega)
      rw [h1.1, h1.2.1]; exact hA.1 c c0 c1
    · rw [ha.2.1]; exact hA.2.1
    · rw [ha.2.2.2]
      have := hA.2.2
      show σ 16 6 = m 5015 26 + ((0 : Nat) : Int)
      omega
    · rw [Nat.zero_add]
      show _ = match grd (bMV m) (bOB m) (m 5000 28).toNat K (m 5015 24) (m 5015 26 + ((0 : Nat) : Int)) with
        | none => none
        | some x => some (0 * 10 ^ K + x.1, 0 + x.2)
      rw [show m 5015 26 + ((0 : Nat) : Int) = m 5015 26 by omega]
      cases grd (bMV m) (bOB m) (m 5000 28).toNat K (m 5015 24) (m 5015 26) with
      | none => rfl
      | some x => simp
  | succ k ih =>
    rintro r q τ hk ⟨υ, r0, q0, β, h1, h2, h3, h4, rfl, rfl⟩
    obtain ⟨g1, g2, g3, g4⟩ := ih r0 q0 υ (by omega) h1
    have hHu := eqH_SA g1 hl hH
    have ib : 0 ≤ illA (m 5015 24) k ∧ illA (m 5015 24) k < 64 := by unfold illA; split <;> omega
    have bb := fun (p : Int) (p0 : 0 ≤ p) (p1 : p < m 5000 28) => eqB_bb hx hHu g2 ib.1 ib.2 (by omega) (by omega) p0 p1
    have ebb : bbR (bMv υ) (bOb υ) (pcnt υ 6 1).toNat = bbR (bMV m (illA (m 5015 24) k) (m 5015 26 + k)) (bOB m (illA (m 5015 24) k) (m 5015 26 + k)) (m 5000 28).toNat := by
      rw [hHu.2.1]
      exact bbR_cong _ (fun p a b => bb p a (by omega))
    have bn := bbR_n (mv := bMv υ) (ob := bOb υ) (pcnt υ 6 1).toNat (fun p a b => by
      rw [hHu.2.1] at b
      rw [(bb p a (by omega)).1]
      exact (rMv_b hx ⟨a, by omega⟩).1)
    have h3' : (bbR (bMv υ) (bOb υ) (pcnt υ 6 1).toNat).1 ≠ -1 := h3
    rcases bn with bn | ⟨b0, b1, b2, b3, b4⟩
    · exact absurd bn.1 h3'
    rw [hHu.2.1] at b1
    have hlu : lawOk υ := SA_lawOk g1 hl
    have pe : ∀ i, pFl β 21 (bst υ) i = pFl υ 21 (bst υ) i ∧ pOa β 21 (bst υ) i = pOa υ 21 (bst υ) i := fun i => by
      have e1 := SF_a h2 (a := 21) (Or.inr rfl)
      have gm : gmv β 21 = gmv υ 21 := by
        funext t p i n k
        unfold gmv
        rw [e1.1, e1.2.1, SF_pval h2, SF_pval h2, SF_rkV h2 hlu]
      unfold pFl pOa
      rw [gm, e1.2.2.1, SF_pval h2, SF_pval h2, SF_pcnt h2]
      exact ⟨rfl, rfl⟩
    have qe : sumC (pFl β 21 (bst υ)) (pcnt β 6 2).toNat = (bbR (bMv υ) (bOb υ) (pcnt υ 6 1).toNat).2 := by
      rw [b3, SF_pcnt h2]
      exact sumC_cong (fun i _ _ => (pe i).1)
    have hSA : SA σ τ := SA_tr g1 (SA_tr (SF_SA h2) (shP_SA h4))
    have c2 : pcnt υ 6 2 = m 5000 29 := hHu.1
    refine ⟨hSA, ⟨fun c c0 c1 => ?_, ?_, ?_⟩, by rw [qe]; omega, fun K => ?_⟩
    · have e1 := SF_a h2 (a := 21) (Or.inr rfl)
      have oa : pOa β 21 (bst υ) c = -1 := by
        rw [(pe c).2]
        have b2' : outB (pOa υ 21 (bst υ)) (pcnt υ 6 2).toNat = 0 := b2
        have gbt := gb_bit (fun i => decide (pOa υ 21 (bst υ) i ≠ -1)) c0 (by omega) (pcnt υ 6 2).toNat (by omega)
        rw [show gb (fun i => decide (pOa υ 21 (bst υ) i ≠ -1)) (pcnt υ 6 2).toNat = 0 from b2', bt_0] at gbt
        refine Classical.byContradiction (fun y => ?_)
        rw [if_pos ⟨by omega, decide_eq_true y⟩] at gbt
        omega
      have t22 := h4.2.2.2.1 c
      rw [if_neg (fun y => y.2.2 oa)] at t22
      have t23 : τ 23 = β 23 := h4.1 23 (by decide) (by decide) (by decide) (by decide) (by decide) (by decide) (by decide) (by decide) (by decide) (by decide) (by decide) (by decide)
      have e22 : β 22 = υ 22 := e1.2.1
      have e23 : β 23 = υ 23 := e1.2.2.1
      have t22' : τ 22 c = β 22 c := t22
      rw [t22', t23, e22, e23]
      exact g2.1 c c0 c1
    · have := h4.2.2.1 4
      rw [if_pos rfl] at this
      rw [this]; rfl
    · have := h4.2.2.1 6
      rw [if_neg (by decide), if_pos rfl] at this
      have e1 := SF_a h2 (a := 21) (Or.inr rfl)
      rw [this, e1.1, g2.2.2]
      omega
    · have g9 := g4 (K + 1)
      rw [show k + (K + 1) = k + 1 + K by omega] at g9
      have ez : illA (m 5015 24) (k + 1) = 0 := rfl
      rw [g9, ez, show m 5015 26 + ((k + 1 : Nat) : Int) = m 5015 26 + k + 1 by omega]
      cases hg : grd (bMV m) (bOB m) (m 5000 28).toNat K 0 (m 5015 26 + k + 1) with
      | none => rw [grd_m hg]
      | some x =>
        rw [ebb] at h3'
        rw [grd_y h3' hg, qe]
        have ebs : bst υ = (bbR (bMV m (illA (m 5015 24) k) (m 5015 26 + k)) (bOB m (illA (m 5015 24) k) (m 5015 26 + k)) (m 5000 28).toNat).1 := by
          show (bbR (bMv υ) (bOb υ) (pcnt υ 6 1).toNat).1 = _
          rw [ebb]
        rw [ebs, ebb]
        generalize bbR (bMV m (illA (m 5015 24) k) (m 5015 26 + k)) (bOB m (illA (m 5015 24) k) (m 5015 26 + k)) (m 5000 28).toNat = Y
        show some (r0 * 10 ^ (K + 1) + (Y.1 * 10 ^ K + x.1), q0 + (Y.2 + x.2)) = some ((10 * r0 + Y.1) * 10 ^ K + x.1, q0 + Y.2 + x.2)
        have a1 : (10 * r0 + Y.1) * 10 ^ K + x.1 = r0 * 10 ^ (K + 1) + (Y.1 * 10 ^ K + x.1) := by
          rw [Int.pow_succ]
          generalize (10 : Int) ^ K = P
          have a1 : (10 * r0 + Y.1) * P = 10 * (r0 * P) + Y.1 * P := by rw [Int.add_mul, Int.mul_assoc]
          have a2 : r0 * (P * 10) = 10 * (r0 * P) := by rw [← Int.mul_assoc, Int.mul_comm]
          omega
        rw [a1, Int.add_assoc q0]
/-- BORNE, when a PLAY is found for each EVENING -/
theorem borne_y {σ m : Mem} (hH : eqH σ m) (hA : eqA σ m 16 5015) (hx : mX m 5015) (hl : lawOk σ) (he : m 5015 26 ≤ 1000) {N : Nat} (N4 : N ≤ 4) {r q : Int} {τ : Mem} (h : bnX N σ r q τ) : bnF m N (m 5015 24) (m 5015 26) 0 0 (-1, -1) = (r, q) := by
  obtain ⟨g1, g2, g3, g4⟩ := bn_fwd hH hA hx hl he N r q τ N4 h
  have g5 := g4 0
  rw [Nat.add_zero] at g5
  have : grd (bMV m) (bOB m) (m 5000 28).toNat N (m 5015 24) (m 5015 26) = some (r, q) := by
    rw [g5]
    show some (r * 10 ^ 0 + 0, q + 0) = some (r, q)
    simp
  rw [bnF_gr hx, this, grA_s, if_neg (show ¬ (0 : Int) + q ≤ -1 by omega)]
  simp
/-- BORNE, when none is found for some EVENING -/
theorem borne_n {σ m : Mem} (hH : eqH σ m) (hA : eqA σ m 16 5015) (hx : mX m 5015) (hl : lawOk σ) (he : m 5015 26 ≤ 1000) {N k : Nat} (N4 : N ≤ 4) (hk : k < N) {r q : Int} {υ : Mem} (h : bnX k σ r q υ) (hb : bst υ = -1) : bnF m N (m 5015 24) (m 5015 26) 0 0 (-1, -1) = (-1, -1) := by
  obtain ⟨g1, g2, g3, g4⟩ := bn_fwd hH hA hx hl he k r q υ (by omega) h
  have n28 := hx.2.1.2.2.2.2.1
  have r24 := hx.2.2.2.1
  have r26 := hx.2.2.2.2.2.1
  have hHu := eqH_SA g1 hl hH
  have ib : 0 ≤ illA (m 5015 24) k ∧ illA (m 5015 24) k < 64 := by unfold illA; split <;> omega
  have ebb : bbR (bMv υ) (bOb υ) (pcnt υ 6 1).toNat = bbR (bMV m (illA (m 5015 24) k) (m 5015 26 + k)) (bOB m (illA (m 5015 24) k) (m 5015 26 + k)) (m 5000 28).toNat := by
    rw [hHu.2.1]
    exact bbR_cong _ (fun p a b => eqB_bb hx hHu g2 ib.1 ib.2 (by omega) (by omega) a (by omega))
  have hb' : (bbR (bMv υ) (bOb υ) (pcnt υ 6 1).toNat).1 = -1 := hb
  rw [ebb] at hb'
  have g5 := g4 (N - k - 1 + 1)
  rw [show k + (N - k - 1 + 1) = N by omega, grd_n hb'] at g5
  rw [bnF_gr hx, g5]
  rfl
/-! HALVES, MEANT, HARDENS, WHOSE, FOLLOWING, GAME, RESTS are the same -/
theorem srR_c {P P' : Int → Prop} {val : Int → Int} {i : Int} : ∀ (n : Nat) (k c : Int), (∀ x, k ≤ x → x < k + n → (P x ↔ P' x)) → srR P val i n k c = srR P' val i n k c := by
  intro n
  induction n with
  | zero => intro k c _; rw [srR, srR]
  | succ n ih =>
    intro k c h
    have hk := h k (by omega) (by omega)
    by_cases q : P k
    · rw [srR_t q, srR_t (hk.mp q), ih (k + 1) (c + 1) (fun x a b => h x (by omega) (by omega))]
    · rw [srR_f q, srR_f (fun y => q (hk.mpr y)), ih (k + 1) c (fun x a b => h x (by omega) (by omega))]
theorem sOv_n {f g : Int → Int} {x : Int} {n : Nat} (n6 : n ≤ 6) (x0 : 0 ≤ x) (x1 : x < 2 ^ n) (h : ∀ c : Int, 0 ≤ c → c < n → f c = g c) : sOv f x 6 = sOv g x n := by
  obtain ⟨d, hd⟩ : ∃ d, n + d = 6 := ⟨6 - n, by omega⟩
  have e := sumC_tail (f := fun c => if bt x c = 1 then f c else 0) (n := n) d (fun i a b => by
    show (if bt x i = 1 then f i else 0) = 0
    rw [if_neg (fun q => by have := bt_lt n6 x0 x1 (by omega) (by omega) q; omega)])
  rw [hd] at e
  rw [sOv_sum, sOv_sum, e]
  refine sumC_cong (fun i i0 i1 => ?_)
  rw [h i i0 i1]
theorem halves_eq {f g : Int → Int} {n : Nat} (n6 : n ≤ 6) (h : ∀ c : Int, 0 ≤ c → c < n → f c = g c) (s i : Int) : srR (fun k => sOv f k 6 = s) id i (2 ^ n) 0 0 = srR (fun x => sOv g x n = s) id i (2 ^ n) 0 0 := by
  refine srR_c _ _ _ (fun x x0 x1 => ?_)
  have x2 : x < 2 ^ n := by
    have : ((2 ^ n : Nat) : Int) = (2 : Int) ^ n := Int.natCast_pow 2 n
    omega
  rw [sOv_n n6 x0 x2 h]
theorem mnU_s (f : Int → Int) (h : Int) (n k : Nat) : mnU f h n (k + 1) = if h ≤ sOv f k n ∧ (mnU f h n k = -1 ∨ popc k < popc (mnU f h n k)) then (k : Int) else mnU f h n k := rfl
theorem mnR_s (f : Int → Int) (h : Int) (k : Nat) (b : Int) : mnR f h (k + 1) b = mnR f h k (if h ≤ sOv f k 6 ∧ popc k ≤ popc b then k else b) := rfl
theorem mnU_c {f : Int → Int} {h : Int} {n : Nat} : ∀ K : Nat, (mnU f h n K = -1 ∧ ∀ x : Int, 0 ≤ x → x < K → ¬ h ≤ sOv f x n) ∨ (0 ≤ mnU f h n K ∧ mnU f h n K < K ∧ h ≤ sOv f (mnU f h n K) n ∧ ∀ x : Int, 0 ≤ x → x < K → h ≤ sOv f x n → popc (mnU f h n K) ≤ popc x ∧ (popc x = popc (mnU f h n K) → mnU f h n K ≤ x)) := by
  intro K
  induction K with
  | zero => exact Or.inl ⟨rfl, fun x a b => by omega⟩
  | succ K ih =>
    rw [mnU_s]
    by_cases c : h ≤ sOv f K n ∧ (mnU f h n K = -1 ∨ popc K < popc (mnU f h n K))
    · rw [if_pos c]
      refine Or.inr ⟨by omega, by omega, c.1, fun x x0 x1 hx => ?_⟩
      by_cases e : x = K
      · rw [e]; exact ⟨Int.le_refl _, fun _ => Int.le_refl _⟩
      · rcases ih with ⟨a1, a2⟩ | ⟨a1, a2, a3, a4⟩
        · exact absurd hx (a2 x x0 (by omega))
        · have := a4 x x0 (by omega) hx
          rcases c.2 with c2 | c2
          · omega
          · exact ⟨by omega, fun q => by omega⟩
    · rw [if_neg c]
      rcases ih with ⟨a1, a2⟩ | ⟨a1, a2, a3, a4⟩
      · refine Or.inl ⟨a1, fun x x0 x1 hx => ?_⟩
        by_cases e : x = K
        · rw [e] at hx; exact c ⟨hx, Or.inl a1⟩
        · exact a2 x x0 (by omega) hx
      · refine Or.inr ⟨a1, by omega, a3, fun x x0 x1 hx => ?_⟩
        by_cases e : x = K
        · rw [e] at hx ⊢
          have : ¬ popc K < popc (mnU f h n K) := fun q => c ⟨hx, Or.inr q⟩
          exact ⟨by omega, fun _ => by omega⟩
        · exact a4 x x0 (by omega) hx
theorem mnR_c {f : Int → Int} {h : Int} : ∀ (K : Nat) (b : Int), (K : Int) ≤ b → h ≤ sOv f b 6 → h ≤ sOv f (mnR f h K b) 6 ∧ (mnR f h K b = b ∨ (0 ≤ mnR f h K b ∧ mnR f h K b < K)) ∧ popc (mnR f h K b) ≤ popc b ∧ ∀ x : Int, 0 ≤ x → x < K → h ≤ sOv f x 6 → popc (mnR f h K b) ≤ popc x ∧ (popc x = popc (mnR f h K b) → mnR f h K b ≤ x) := by
  intro K
  induction K with
  | zero => intro b hb hv; exact ⟨hv, Or.inl rfl, Int.le_refl _, fun x a b => by omega⟩
  | succ K ih =>
    intro b hb hv
    rw [mnR_s]
    by_cases c : h ≤ sOv f K 6 ∧ popc K ≤ popc b
    · rw [if_pos c]
      obtain ⟨a1, a2, a3, a4⟩ := ih K (Int.le_refl _) c.1
      refine ⟨a1, ?_, by omega, fun x x0 x1 hx => ?_⟩
      · rcases a2 with e | e
        · exact Or.inr ⟨by omega, by omega⟩
        · exact Or.inr ⟨e.1, by omega⟩
      · by_cases e : x = K
        · rw [e]; exact ⟨a3, fun _ => by rcases a2 with e | e <;> omega⟩
        · exact a4 x x0 (by omega) hx
    · rw [if_neg c]
      obtain ⟨a1, a2, a3, a4⟩ := ih b (by omega) hv
      refine ⟨a1, ?_, a3, fun x x0 x1 hx => ?_⟩
      · rcases a2 with e | e
        · exact Or.inl e
        · exact Or.inr ⟨e.1, by omega⟩
      · by_cases e : x = K
        · rw [e] at hx ⊢
          have : ¬ popc K ≤ popc b := fun q => c ⟨hx, q⟩
          exact ⟨by omega, fun _ => by omega⟩
        · exact a4 x x0 (by omega) hx
theorem meant_eq {f g : Int → Int} {n : Nat} (n6 : n ≤ 6) (h : ∀ c : Int, 0 ≤ c → c < n → f c = g c) {v : Int} (hv : v ≤ sumC f n) : mnR f v (2 ^ n) (2 ^ n - 1) = mnU g v n (2 ^ n) := by
  have pn : ((2 ^ n : Nat) : Int) = (2 : Int) ^ n := Int.natCast_pow 2 n
  have f6 := full_64 n6
  have es : ∀ x : Int, 0 ≤ x → x < 2 ^ n → sOv f x 6 = sOv g x n := fun x x0 x1 => sOv_n n6 x0 x1 h
  have hf : v ≤ sOv f (2 ^ n - 1) 6 := by
    rw [sOv_full f n6 6 (Nat.le_refl _), show min 6 n = n by omega]; exact hv
  have p1 : (0 : Int) < 2 ^ n := Int.pow_pos (by decide)
  obtain ⟨k, hk⟩ : ∃ k : Nat, 2 ^ n = k + 1 := ⟨2 ^ n - 1, by omega⟩
  have ek : (2 : Int) ^ n - 1 = k := by omega
  have r1 : mnR f v (2 ^ n) (2 ^ n - 1) = mnR f v k k := by
    rw [hk, mnR_s, ek, if_pos ⟨by rw [← ek]; exact hf, Int.le_refl _⟩]
  obtain ⟨a1, a2, a3, a4⟩ := mnR_c (f := f) (h := v) k k (Int.le_refl _) (by rw [← ek]; exact hf)
  rw [r1]
  have ay : 0 ≤ mnR f v k k ∧ mnR f v k k < 2 ^ n := by rcases a2 with e | e <;> omega
  rcases mnU_c (f := g) (h := v) (n := n) (2 ^ n) with ⟨b1, b2⟩ | ⟨b1, b2, b3, b4⟩
  · exact absurd (by rw [← es _ (by omega) (by omega)]; rw [← ek]; exact hf) (b2 k (by omega) (by omega))
  · have c1 := b4 (mnR f v k k) ay.1 (by omega) (by rw [← es _ ay.1 ay.2]; exact a1)
    have b3' : v ≤ sOv f (mnU g v n (2 ^ n)) 6 := by rw [es _ b1 (by omega)]; exact b3
    have c2 : popc (mnR f v k k) ≤ popc (mnU g v n (2 ^ n)) ∧ (popc (mnU g v n (2 ^ n)) = popc (mnR f v k k) → mnR f v k k ≤ mnU g v n (2 ^ n)) := by
      by_cases e : mnU g v n (2 ^ n) = k
      · rw [e]; exact ⟨a3, fun _ => by omega⟩
      · exact a4 _ b1 (by omega) b3'
    have e1 := c1.2 (by omega)
    have e2 := c2.2 (by omega)
    omega
theorem hdR_c {f g : Int → Int} : ∀ n : Nat, (∀ v : Int, 0 ≤ v → v < n → f v = g v) → hdR f n = hdR g n := by
  intro n
  induction n with
  | zero => intro _; rfl
  | succ n ih =>
    intro h
    show (if f n = -1 then (n : Int) else hdR f n) = if g n = -1 then (n : Int) else hdR g n
    rw [ih (fun v a b => h v a (by omega)), h n (by omega) (by omega)]
theorem hard_eq {σ m : Mem} (hH : eqH σ m) (hA : eqA σ m 16 5015) (hx : mX m 5015) (hl : lawOk σ) {c p : Int} (c0 : 0 ≤ c) (c1 : c < m 5000 29) (p0 : 0 ≤ p) (p1 : p < m 5000 28) : hdR (hdO σ c p) 10 = hdR (hdM m c p) 10 := by
  have n29 := hx.2.1.2.2.1
  have l27 := hx.2.2.2.2.2.2
  refine hdR_c 10 (fun v v0 v1 => ?_)
  have hxt := mX_trC hx
  have k5 : ∀ k, k ≠ 0 → trC m 5000 k = m 5000 k := fun k hk => by rw [trC_o m (by decide)]; exact th_k m hk
  have so : ∀ b, b ≠ 5016 → b ≠ 5000 → up (trC m) 5016 (4 * c) v b = m b := fun b h1 h2 => by rw [up_na _ h1, trC_o m h1]; exact th_o m h2
  have so5 : ∀ k, k ≠ 0 → up (trC m) 5016 (4 * c) v 5000 k = m 5000 k := fun k hk => by rw [up_na _ (by decide)]; exact k5 k hk
  have hx' : mX (up (trC m) 5016 (4 * c) v) 5016 := mX_r16 hxt (by
    have hrr := hxt.2.2
    rw [k5 29 (by decide), k5 30 (by decide)] at hrr ⊢
    exact aR_he n29.2 hrr c0 c1 v0 (by omega))
  have hS : SA σ (up (apM σ) 22 c v) := SA_up (SA_set _ _) ⟨by decide, by decide⟩
  have hH' : eqH (up (apM σ) 22 c v) (up (trC m) 5016 (4 * c) v) := eqH_m (fun k hk => so5 k (by omega)) (fun b hb => so b (by omega) (by omega)) (eqH_SA hS hl hH)
  have ha := apM_r σ
  have hA' : eqA (up (apM σ) 22 c v) (up (trC m) 5016 (4 * c) v) 21 5016 := by
    unfold eqA
    rw [so5 29 (by decide)]
    refine ⟨fun d d0 d1 => ?_, ?_, ?_⟩
    · have h1 := ha.1 d d0 (by omega)
      have h2 := hA.1 d d0 d1
      have t1 : trC m 5016 (4 * d) = m 5015 (4 * d) := trC_j l27.1 (by omega) (by omega)
      have t2 : trC m 5016 (4 * d + 1) = m 5015 (4 * d + 1) := trC_j l27.1 (by omega) (by omega)
      refine ⟨?_, ?_⟩
      · show up (apM σ) 22 c v 22 d = _
        by_cases e : d = c
        · rw [e, up_s, up_s]
        · rw [up_nj _ e, up_nj _ (by omega), h1.1, t1]; exact h2.1
      · show up (apM σ) 22 c v 23 d = _
        rw [up_na _ (by decide), up_nj _ (by omega), h1.2.1, t2]; exact h2.2
    · rw [up_na _ (by decide), up_nj _ (by omega), ha.2.1, trC_j l27.1 (by decide) (by decide)]; exact hA.2.1
    · rw [up_na _ (by decide), up_nj _ (by omega), ha.2.2.2, trC_j l27.1 (by decide) (by decide)]; exact hA.2.2
  have e := (play_eq hH' hA' hx' p0 (by rw [so5 28 (by decide)]; exact p1) c0 (by rw [so5 29 (by decide)]; exact c1)).2
  unfold mMi at e
  rw [so 5007 (by decide) (by decide)] at e
  exact e
theorem cn_eq {s r : Int → Int} {c t : Int} {n : Nat} (n6 : n ≤ 6) (hs : ∀ d : Int, 0 ≤ d → d < n → s d = r (4 * d + 1)) (c0 : 0 ≤ c) (c1 : c < n) : popc (hbits s t n) - bt (hbits s t n) c + 1 = cnR r c t n := by
  have g := hbits_64 s t n6
  have e1 : popc (hbits s t n) = sumC (fun d => if s d = t then 1 else 0) n := by
    rw [popc_sum g.1 g.2]
    have := G_sum (fun _ => 1) s t n6
    rw [← this]
    refine sumC_cong (fun i i0 i1 => ?_)
    have := bt_b (hbits s t n) i
    by_cases y : bt (hbits s t n) i = 1
    · rw [if_pos y, y]
    · rw [if_neg y]; omega
  have e2 : bt (hbits s t n) c = if s c = t then 1 else 0 := by
    rw [hbits_bit s t c0 (by omega) n6]
    by_cases y : s c = t
    · rw [if_pos ⟨c1, y⟩, if_pos y]
    · rw [if_neg (fun z => y z.2), if_neg y]
  have e3 : ∀ k : Nat, k ≤ n → cnR r c t k = 1 + sumC (fun d => if s d = t then 1 else 0) k - if c < k ∧ s c = t then 1 else 0 := by
    intro k
    induction k with
    | zero => intro _; rw [if_neg (by omega)]; rfl
    | succ k ih =>
      intro hk
      have hsk := hs k (by omega) (by omega)
      show cnR r c t k + (if (k : Int) ≠ c ∧ r (4 * k + 1) = t then 1 else 0) = _
      rw [ih (by omega), sumC_s, ← hsk]
      by_cases e : (k : Int) = c
      · have i1 : (if (k : Int) ≠ c ∧ s k = t then (1 : Int) else 0) = 0 := if_neg (fun z => z.1 e)
        have i2 : (if c < (k : Int) ∧ s c = t then (1 : Int) else 0) = 0 := if_neg (by omega)
        have i3 : (if c < ((k + 1 : Nat) : Int) ∧ s c = t then (1 : Int) else 0) = if s k = t then 1 else 0 := by
          rw [e]
          by_cases y : s c = t
          · rw [if_pos y, if_pos ⟨by omega, y⟩]
          · rw [if_neg y, if_neg (fun z => y z.2)]
        rw [i1, i2, i3]
        generalize (if s k = t then (1 : Int) else 0) = A
        omega
      · have i1 : (if (k : Int) ≠ c ∧ s k = t then (1 : Int) else 0) = if s k = t then 1 else 0 := by
          by_cases y : s k = t
          · rw [if_pos y, if_pos ⟨e, y⟩]
          · rw [if_neg y, if_neg (fun z => y z.2)]
        have i3 : (if c < ((k + 1 : Nat) : Int) ∧ s c = t then (1 : Int) else 0) = if c < (k : Int) ∧ s c = t then 1 else 0 := by
          by_cases y : c < (k : Int) ∧ s c = t
          · rw [if_pos y, if_pos ⟨by omega, y.2⟩]
          · rw [if_neg y, if_neg (fun z => y ⟨by omega, z.2⟩)]
        rw [i1, i3]
        generalize (if s k = t then (1 : Int) else 0) = A
        generalize (if c < (k : Int) ∧ s c = t then (1 : Int) else 0) = B
        omega
  rw [e1, e2, e3 n (Nat.le_refl _)]
  by_cases y : s c = t
  · rw [if_pos y, if_pos ⟨c1, y⟩]; omega
  · rw [if_neg y, if_neg (fun z => y z.2)]; omega
theorem whF_eq {σ m : Mem} (hH : eqH σ m) (hA : eqA σ m 16 5015) (hx : mX m 5015) {c t p k v : Int} (c0 : 0 ≤ c) (c1 : c < m 5000 29) (t0 : 0 ≤ t) (t1 : t < m 5000 30) (p0 : 0 ≤ p) (p1 : p < m 5000 28) (k0 : 0 ≤ k) (k8 : k ≤ 8) : whF σ c t p k v = if v ≤ mvW m c t p k then 1 else 0 := by
  obtain ⟨e2, e1, e3, eL, eP, eD, eR⟩ := hH
  obtain ⟨hw, ⟨hmo, hlw, n29, n30, n28, b7, b11, b5, -⟩, r1, r24, r25, r26, r27⟩ := hx
  obtain ⟨n, hn⟩ : ∃ n : Nat, m 5000 29 = n := ⟨(m 5000 29).toNat, by omega⟩
  have rd := r1 c c0 c1
  have f9 := b7 (4 * p + k % 3) (by omega) (by omega)
  have d9 := b11 t t0 (by omega)
  have ec : cnO σ c t = cnR (m 5015) c t n := by
    unfold cnO
    rw [e2, hn, Int.toNat_natCast]
    exact cn_eq (by omega) (fun d d0 d1 => (hA.1 d d0 (by omega)).2) c0 (by omega)
  have cb := cnR_b (m 5015) c t n
  unfold whF mvW
  rw [eP p 3 p0 p1 (by decide) (by decide), hn, Int.toNat_natCast]
  by_cases q : m 5007 (4 * p + 3) ≤ k
  · rw [if_pos q, if_pos q]
  · rw [if_neg q, if_neg q, eP p (k % 3) p0 p1 (by omega) (by omega), eD t t0 t1, (show σ 17 c = m 5015 (4 * c) from (hA.1 c c0 c1).1), ec, eR _ _ _ _ _ _ ⟨f9.1, f9.2, rd.1.1, rd.1.2, d9.1, d9.2, by omega, by omega, k0, by omega, by decide, by decide⟩ cb.1]
/-- the same howls -/
def eqW (σ m : Mem) : Prop := σ 41 4 = m 5000 53 ∧ (∀ j, 0 ≤ j → j < 5 * m 5000 53 → σ 42 j = m 5024 j) ∧ ∀ j, 0 ≤ j → j < m 5000 53 → (0 ≤ m 5024 (5 * j) ∧ m 5024 (5 * j) < m 5000 29) ∧ (0 ≤ m 5024 (5 * j + 1) ∧ m 5024 (5 * j + 1) < m 5000 28)
theorem fit_eq {σ m : Mem} (hH : eqH σ m) (hA : eqA σ m 16 5015) (hx : mX m 5015) (hW : eqW σ m) (hw : hwO m) {c t : Int} (c0 : 0 ≤ c) (c1 : c < m 5000 29) (t0 : 0 ≤ t) (t1 : t < m 5000 30) : fitP σ c t (σ 41 4) ↔ fiP m c t (m 5000 53) := by
  obtain ⟨w1, w2, w3⟩ := hW
  unfold fitP fiP
  rw [w1]
  have key : ∀ j : Int, 0 ≤ j → j < m 5000 53 → ((whF σ c t (m 5024 (5 * j + 1)) (m 5024 (5 * j + 2)) (m 5024 (5 * j + 3)) = if m 5024 (5 * j + 4) = 1 then 1 else 0) ↔ (m 5024 (5 * j + 3) ≤ mvW m c t (m 5024 (5 * j + 1)) (m 5024 (5 * j + 2)) ↔ m 5024 (5 * j + 4) = 1)) := by
    intro j j0 j1
    have b := hw.2 j j0 j1
    have b2 := w3 j j0 j1
    rw [whF_eq hH hA hx c0 c1 t0 t1 b2.2.1 b2.2.2 b.2.2.1.1 b.2.2.1.2]
    by_cases q : m 5024 (5 * j + 3) ≤ mvW m c t (m 5024 (5 * j + 1)) (m 5024 (5 * j + 2))
    · rw [if_pos q]
      by_cases y : m 5024 (5 * j + 4) = 1
      · rw [if_pos y]; exact ⟨fun _ => ⟨fun _ => y, fun _ => q⟩, fun _ => rfl⟩
      · rw [if_neg y]; exact ⟨fun z => absurd z (by decide), fun z => absurd (z.mp q) y⟩
    · rw [if_neg q]
      by_cases y : m 5024 (5 * j + 4) = 1
      · rw [if_pos y]; exact ⟨fun z => absurd z (by decide), fun z => absurd (z.mpr y) q⟩
      · rw [if_neg y]; exact ⟨fun _ => ⟨fun z => absurd z q, fun z => absurd z y⟩, fun _ => rfl⟩
  constructor
  · intro h j j0 j1 hc
    have := h j j0 j1 (by rw [w2 _ (by omega) (by omega)]; exact hc)
    rw [w2 _ (by omega) (by omega), w2 _ (by omega) (by omega), w2 _ (by omega) (by omega), w2 _ (by omega) (by omega)] at this
    exact (key j j0 j1).mp this
  · intro h j j0 j1 hc
    rw [w2 _ (by omega) (by omega)] at hc
    rw [w2 _ (by omega) (by omega), w2 _ (by omega) (by omega), w2 _ (by omega) (by omega), w2 _ (by omega) (by omega)]
    exact (key j j0 j1).mpr (h j j0 j1 hc)
theorem sus_eq {σ m : Mem} (hH : eqH σ m) (hA : eqA σ m 16 5015) (hx : mX m 5015) (hW : eqW σ m) (hw : hwO m) {c : Int} (c0 : 0 ≤ c) (c1 : c < m 5000 29) : susS σ c = gb (fiB m c) (m 5000 30).toNat := by
  unfold susS
  rw [hH.2.2.1]
  refine gb_cong (fun t t0 t1 => ?_)
  have k := fit_eq hH hA hx hW hw c0 c1 t0 (show t < m 5000 30 by omega)
  by_cases q : fitP σ c t (σ 41 4)
  · rw [fitB_t.mpr q, fiB_t (k.mp q)]
  · rw [fiB_f (fun z => q (k.mpr z))]
    cases hh : fitB σ c t with
    | false => rfl
    | true => exact absurd (fitB_t.mp hh) q
theorem gap_eq {σ m : Mem} (hH : eqH σ m) (hA : eqA σ m 16 5015) (hx : mX m 5015) {c S p k v : Int} (c0 : 0 ≤ c) (c1 : c < m 5000 29) (p0 : 0 ≤ p) (p1 : p < m 5000 28) (k0 : 0 ≤ k) (k8 : k ≤ 8) (hS : ∀ i : Int, m 5000 30 ≤ i → i < 6 → bt S i = 0) : gpA σ c S p k v = lnA m c S p k v := by
  have n30 := hx.2.1.2.2.2.1
  have e1 : ∀ j : Nat, (j : Int) ≤ m 5000 30 → gpF σ c S p k v j = lnG m c S p k v j := by
    intro j
    induction j with
    | zero => intro _; rfl
    | succ j ih =>
      intro hj
      show gpF σ c S p k v j + (if bt S j = 1 then (if whF σ c j p k v = 1 then 1 else -1) else 0) = lnG m c S p k v j + (if bt S j = 1 then (if v ≤ mvW m c j p k then 1 else -1) else 0)
      rw [ih (by omega), whF_eq hH hA hx c0 c1 (by omega) (by omega) p0 p1 k0 k8]
      by_cases q : v ≤ mvW m c j p k
      · rw [if_pos q, if_pos rfl, if_pos q]
      · rw [if_neg q, if_neg (show ¬ (0 : Int) = 1 by decide), if_neg q]
  have e2 : ∀ d : Nat, (m 5000 30).toNat + d ≤ 6 → gpF σ c S p k v ((m 5000 30).toNat + d) = gpF σ c S p k v (m 5000 30).toNat := by
    intro d
    induction d with
    | zero => intro _; rfl
    | succ d ih =>
      intro hd
      rw [← Nat.add_assoc]
      show gpF σ c S p k v ((m 5000 30).toNat + d) + (if bt S (((m 5000 30).toNat + d : Nat) : Int) = 1 then _ else 0) = _
      rw [ih (by omega), hS _ (by omega) (by omega), if_neg (by decide), Int.add_zero]
  have e3 := e2 (6 - (m 5000 30).toNat) (by omega)
  rw [show (m 5000 30).toNat + (6 - (m 5000 30).toNat) = 6 by omega, e1 (m 5000 30).toNat (by omega)] at e3
  unfold gpA lnA
  rw [e3]
/-- the questions: the same so far -/
def qSt (s u : Int × Int) : Prop := s.1 = u.1 ∧ ((s.1 = -1 ∧ s.2 = 7) ∨ (s.1 ≠ -1 ∧ s.2 = u.2))
theorem qSt_s {s u : Int × Int} {g x : Int} (h : qSt s u) (g0 : g ≤ 6) (x0 : 0 ≤ x) : qSt (nqS g x s) (msS g x u) := by
  obtain ⟨h1, h2⟩ := h
  unfold nqS msS
  rcases h2 with h2 | h2
  · rw [if_pos (by omega), if_pos (Or.inl (by omega))]
    exact ⟨rfl, Or.inr ⟨by show x ≠ -1; omega, rfl⟩⟩
  · by_cases c : g < s.2
    · rw [if_pos c, if_pos (Or.inr (by omega))]
      exact ⟨rfl, Or.inr ⟨by show x ≠ -1; omega, rfl⟩⟩
    · rw [if_neg c, if_neg (by omega)]
      exact ⟨h1, Or.inr h2⟩
theorem foll_eq {σ m : Mem} (hH : eqH σ m) (hA : eqA σ m 16 5015) (hx : mX m 5015) {c S v : Int} (c0 : 0 ≤ c) (c1 : c < m 5000 29) (hS : ∀ i : Int, m 5000 30 ≤ i → i < 6 → bt S i = 0) : (nqO σ c S v (pcnt σ 6 1).toNat).1 = (msO m c S v (m 5000 28).toNat).1 := by
  have n30 := hx.2.1.2.2.2.1
  have key : ∀ p : Nat, (p : Int) ≤ m 5000 28 → qSt (nqO σ c S v p) (msO m c S v p) := by
    intro p
    induction p with
    | zero => intro _; exact ⟨rfl, Or.inl ⟨rfl, rfl⟩⟩
    | succ p ih =>
      intro hp
      have m9 := mMi_9 hx (p := p) (by omega) (by omega)
      have em : pval σ 6 1 p 3 = m 5007 (4 * p + 3) := hH.2.2.2.2.1 p 3 (by omega) (by omega) (by decide) (by decide)
      have inn : ∀ k : Nat, (k : Int) ≤ m 5007 (4 * p + 3) → qSt (nqI σ c S v p (nqO σ c S v p) k) (msI m c S v p (msO m c S v p) k) := by
        intro k
        induction k with
        | zero => intro _; exact ih (by omega)
        | succ k ihk =>
          intro hk
          show qSt (nqS (gpA σ c S p k v) (10 * p + k) (nqI σ c S v p (nqO σ c S v p) k)) (msS (lnA m c S p k v) (10 * p + k) (msI m c S v p (msO m c S v p) k))
          rw [gap_eq hH hA hx c0 c1 (by omega) (by omega) (by omega) (by omega) hS]
          exact qSt_s (ihk (by omega)) (lnA_b m c S p k v n30.2).2 (by omega)
      show qSt (nqI σ c S v p (nqO σ c S v p) (pval σ 6 1 p 3).toNat) (msI m c S v p (msO m c S v p) (mMi m p))
      rw [em]
      exact inn _ (by omega)
  rw [hH.2.1]
  exact (key _ (by have := hx.2.1.2.2.2.2.1; omega)).1
/-- GAMES -/
theorem game_eq {σ m : Mem} (hH : eqH σ m) (hA : eqA σ m 16 5015) (h5 : σ 16 5 = m 5015 25) (hx : mX m 5015) {o r p x y c t X Y : Int} (ho : 0 ≤ o ∧ o < m 5000 29) (hr : 0 ≤ r ∧ r < m 5000 29) (hor : o ≠ r) (p0 : 0 ≤ p) (p1 : p < m 5000 28) (hX : 0 ≤ x ∧ x < m 5000 30) (hY : 0 ≤ y ∧ y < m 5000 30) (hc : (c = o ∧ t = x) ∨ (c = r ∧ t = y)) (eX : X = t ↔ x = t) (eY : Y = t ↔ y = t) : gvF σ o r p c t X Y = gmV m o r p x y c t := by
  obtain ⟨e2, e1, e3, eL, eP, eD, eR⟩ := id hH
  have n29 := hx.2.1.2.2.1
  have l27 := hx.2.2.2.2.2.2
  have m9 := mMi_9 hx p0 p1
  have hx' := gmM_x hx ho hr hX hY
  have so : ∀ b, b ≠ 5016 → gmM m o r x y b = m b := fun b h => gmM_o m o r x y h
  obtain ⟨n, hn⟩ : ∃ n : Nat, m 5000 29 = n := ⟨(m 5000 29).toNat, by omega⟩
  have cb : 0 ≤ c ∧ c < n := by omega
  have tb : 0 ≤ t ∧ t < m 5000 30 := by omega
  have row : ∀ j, 0 ≤ j → j < 28 → gmM m o r x y 5016 j = if j = 4 * r + 1 then y else if j = 4 * o + 1 then x else m 5015 j := by
    intro j j0 j1
    unfold gmM
    by_cases q : j = 4 * r + 1
    · rw [if_pos q, q, up_s]
    · rw [if_neg q, up_nj _ q]
      by_cases q2 : j = 4 * o + 1
      · rw [if_pos q2, q2, up_s]
      · rw [if_neg q2, up_nj _ q2, trK_j l27.1 j0 j1]
  have hS : ∀ d : Int, 0 ≤ d → d < 6 → bt (hbits (sXY (σ 18) o r X Y) t n) d = if d < n ∧ gmM m o r x y 5016 (4 * d + 1) = t then 1 else 0 := by
    intro d d0 d1
    rw [hbits_bit _ _ d0 d1 (by omega)]
    by_cases q : d < n
    · have : (sXY (σ 18) o r X Y d = t) ↔ (gmM m o r x y 5016 (4 * d + 1) = t) := by
        rw [row _ (by omega) (by omega)]
        unfold sXY
        by_cases q1 : d = o
        · rw [if_pos q1, if_neg (by omega), if_pos (by omega)]; exact eX
        · rw [if_neg q1]
          by_cases q2 : d = r
          · rw [if_pos q2, if_pos (by omega)]; exact eY
          · rw [if_neg q2, if_neg (by omega), if_neg (by omega), (show σ 18 d = m 5015 (4 * d + 1) from (hA.1 d d0 (by omega)).2)]
      by_cases z : sXY (σ 18) o r X Y d = t
      · rw [if_pos ⟨q, z⟩, if_pos ⟨q, this.mp z⟩]
      · rw [if_neg (fun u => z u.2), if_neg (fun u => z (this.mpr u.2))]
    · rw [if_neg (fun z => q z.1), if_neg (fun z => q z.1)]
  have hb := hbits_64 (sXY (σ 18) o r X Y) t (n := n) (by omega)
  have hg : ∀ (d N : Int) (k : Nat), 0 ≤ d → d < n → gmM m o r x y 5016 (4 * d + 1) = t → 1 ≤ N → N ≤ 6 → k < mMi m p → gmv σ 16 t p d N k = if bt (gmM m o r x y 5016 24) t = 1 then 0 else mRk (gmM m o r x y) (gmM m o r x y 5007 (4 * p + (k : Int) % 3)) (gmM m o r x y 5016 (4 * d)) (gmM m o r x y 5011 t) N k (gmM m o r x y 5016 26) := by
    intro d N k d0 d1 dt N1 N6 hk
    have hk' : (k : Int) < m 5007 (4 * p + 3) := by unfold mMi at hk; omega
    have eK : ∀ a b c d e f, mRk (gmM m o r x y) a b c d e f = mRk m a b c d e f := by
      intro a b c d e f
      unfold mRk
      rw [mwo_c (so 5002 (by decide)) (so 5003 (by decide)), so 5000 (by decide)]
    have r24 := row 24 (by decide) (by decide)
    rw [if_neg (by omega), if_neg (by omega)] at r24
    have r26 := row 26 (by decide) (by decide)
    rw [if_neg (by omega), if_neg (by omega)] at r26
    have r4d := row (4 * d) (by omega) (by omega)
    rw [if_neg (by omega), if_neg (by omega)] at r4d
    rw [so 5007 (by decide), so 5011 (by decide), r24, r26, r4d, eK]
    exact gmv_mR hH hA.2.1 hA.2.2 hx p0 p1 tb.1 tb.2 d0 (by omega) (hA.1 d d0 (by omega)).1 N1 N6 (by omega)
  have G := grp (g := gmv σ 16 t p) (S := hbits (sXY (σ 18) o r X Y) t n) (m := gmM m o r x y) (w := 5016) (t := t) (p := p) (K := mMi m p) (by rw [so 5000 (by decide)]; exact hn) (by omega) hb.1 hb.2 hS hg (mMi m p) (Nat.le_refl _)
  have ht : gmM m o r x y 5016 (4 * c + 1) = t := by
    rw [row _ (by omega) (by omega)]
    rcases hc with ⟨h1, h2⟩ | ⟨h1, h2⟩
    · rw [if_neg (by omega), if_pos (by omega), h2]
    · rw [if_pos (by omega), h2]
  have G2 := G.2 c cb.1 cb.2 ht
  rw [so 5005 (by decide)] at G2
  have eMi : pval σ 6 1 p 3 = m 5007 (4 * p + 3) := eP p 3 p0 p1 (by decide) (by decide)
  unfold gvF gmV
  rw [e2, hn, Int.toNat_natCast, eMi, eL, show (m 5007 (4 * p + 3)).toNat = mMi m p from rfl, G2.1, G2.2, (show σ 18 c = m 5015 (4 * c + 1) from (hA.1 c cb.1 (by omega)).2), h5]
  by_cases q : m 5015 (4 * c + 1) = t
  · rw [if_pos q, if_pos q.symm]
  · rw [if_neg q, if_neg (show ¬ t = m 5015 (4 * c + 1) from fun z => q z.symm)]
theorem gnF_eq {σ m : Mem} (hH : eqH σ m) (hA : eqA σ m 16 5015) (h5 : σ 16 5 = m 5015 25) (hx : mX m 5015) {o r p : Int} {g : Int → Int} (ho : 0 ≤ o ∧ o < m 5000 29) (hr : 0 ≤ r ∧ r < m 5000 29) (hor : o ≠ r) (p0 : 0 ≤ p) (p1 : p < m 5000 28) (hg : gnOk σ g o r p (m 5000 30)) {x y : Int} (hX : 0 ≤ x ∧ x < m 5000 30) (hY : 0 ≤ y ∧ y < m 5000 30) : gnF g 0 x y = gmV m o r p x y o x ∧ gnF g 1 x y = gmV m o r p x y r y := by
  obtain ⟨a1, a2, -, -⟩ := hg x hX.1 hX.2
  obtain ⟨-, -, b3, b4⟩ := hg y hY.1 hY.2
  unfold gnF
  rw [if_pos rfl, if_neg (show ¬ (1 : Int) = 0 by decide)]
  by_cases q : x = y
  · rw [if_pos q, show 4 * x + 2 * 0 + 1 = 4 * x + 1 by omega, show 4 * y + 2 * 1 + 1 = 4 * y + 3 by omega, a2, b4]
    exact ⟨game_eq hH hA h5 hx ho hr hor p0 p1 hX hY (Or.inl ⟨rfl, rfl⟩) Iff.rfl (by rw [q]), game_eq hH hA h5 hx ho hr hor p0 p1 hX hY (Or.inr ⟨rfl, rfl⟩) (by rw [q]) Iff.rfl⟩
  · rw [if_neg q, show 4 * x + 2 * 0 + 0 = 4 * x by omega, show 4 * y + 2 * 1 + 0 = 4 * y + 2 by omega, a1, b3]
    exact ⟨game_eq hH hA h5 hx ho hr hor p0 p1 hX hY (Or.inl ⟨rfl, rfl⟩) Iff.rfl ⟨fun z => by omega, fun z => absurd z.symm q⟩, game_eq hH hA h5 hx ho hr hor p0 p1 hX hY (Or.inr ⟨rfl, rfl⟩) ⟨fun z => by omega, fun z => absurd z q⟩ Iff.rfl⟩
theorem rsO_c {P P' : Int → Int → Prop} {i : Int} {S : Nat} (h : ∀ x y : Int, 0 ≤ x → x < S → 0 ≤ y → y < S → (P x y ↔ P' x y)) : ∀ (a : Nat) (x c : Int), 0 ≤ x → x + a ≤ S → rsO P i S a x c = rsO P' i S a x c := by
  intro a
  induction a with
  | zero => intro x c _ _; rw [rsO, rsO]
  | succ a ih =>
    intro x c x0 x1
    have inn : ∀ (b : Nat) (y c : Int), 0 ≤ y → y + b ≤ S → rsI P i x (rsO P i S a (x + 1)) b y c = rsI P' i x (rsO P' i S a (x + 1)) b y c := by
      intro b
      induction b with
      | zero => intro y c _ _; rw [rsI, rsI]; exact ih (x + 1) c (by omega) (by omega)
      | succ b ihb =>
        intro y c y0 y1
        have hk := h x y x0 (by omega) y0 (by omega)
        by_cases q : P x y
        · rw [rsI_t q, rsI_t (hk.mp q), ihb (y + 1) (c + 1) (by omega) (by omega)]
        · rw [rsI_f q, rsI_f (fun z => q (hk.mpr z)), ihb (y + 1) c (by omega) (by omega)]
    rw [rsO, rsO]
    exact inn S 0 c (by omega) (by omega)
theorem rests_eq {σ m : Mem} (hH : eqH σ m) (hA : eqA σ m 16 5015) (h5 : σ 16 5 = m 5015 25) (hx : mX m 5015) {o r p : Int} {g : Int → Int} (ho : 0 ≤ o ∧ o < m 5000 29) (hr : 0 ≤ r ∧ r < m 5000 29) (hor : o ≠ r) (p0 : 0 ≤ p) (p1 : p < m 5000 28) (hg : gnOk σ g o r p (m 5000 30)) (i : Int) : rsV g (m 5000 30) i = rsO (mrP (fun a b => gmV m o r p a b o a) (fun a b => gmV m o r p a b r b) (m 5000 30)) i (m 5000 30).toNat (m 5000 30).toNat 0 0 := by
  have n30 := hx.2.1.2.2.2.1
  unfold rsV
  refine rsO_c (fun x y x0 x1 y0 y1 => ?_) _ 0 0 (by omega) (by omega)
  have X1 : 0 ≤ x ∧ x < m 5000 30 := ⟨x0, by omega⟩
  have Y1 : 0 ≤ y ∧ y < m 5000 30 := ⟨y0, by omega⟩
  have e := gnF_eq hH hA h5 hx ho hr hor p0 p1 hg X1 Y1
  unfold rsP rstP mrP
  constructor
  · intro h k k0 k1
    have := h k k0 k1
    rw [(gnF_eq hH hA h5 hx ho hr hor p0 p1 hg ⟨k0, k1⟩ Y1).1, (gnF_eq hH hA h5 hx ho hr hor p0 p1 hg X1 ⟨k0, k1⟩).2, e.1, e.2] at this
    exact this
  · intro h k k0 k1
    have := h k k0 k1
    rw [(gnF_eq hH hA h5 hx ho hr hor p0 p1 hg ⟨k0, k1⟩ Y1).1, (gnF_eq hH hA h5 hx ho hr hor p0 p1 hg X1 ⟨k0, k1⟩).2, e.1, e.2]
    exact this
/-! class and reference side by side: what holds between calls -/
/-- the same audience: the class's row of 27, the reference's row -/
def auR (n s : Int) (f r : Int → Int) : Prop := (∀ c, 0 ≤ c → c < n → f c = r (4 * c) ∧ f (c + 6) = r (4 * c + 1) ∧ f (c + 12) = r (4 * c + 2) ∧ f (c + 18) = r (4 * c + 3)) ∧ (f 24 = r 24 ∧ f 25 = r 25 ∧ f 26 = r 26) ∧ aR n s r ∧ r 26 ≤ 999 ∧ ∀ i, 0 ≤ i → i < 6 → (0 ≤ f i ∧ f i ≤ 9) ∧ (0 ≤ f (i + 6) ∧ f (i + 6) ≤ 5) ∧ (0 ≤ f (i + 12) ∧ f (i + 12) ≤ 99) ∧ 0 ≤ f (i + 18) ∧ f (i + 18) ≤ 9999
/-- the same log: the class's ring, how many were written, the reference's row -/
def lgR (l : Int → Int) (W : Int) (r : Int → Int) : Prop := 0 ≤ W ∧ r 27 = min 60 W ∧ W ≤ r 26 ∧ ∀ i, 0 ≤ i → i < min 60 W → (0 ≤ r (28 + 3 * (min 60 W - 1 - i)) ∧ r (28 + 3 * (min 60 W - 1 - i)) ≤ 3) ∧ (0 ≤ r (28 + 3 * (min 60 W - 1 - i) + 1) ∧ r (28 + 3 * (min 60 W - 1 - i) + 1) ≤ 8000000) ∧ (0 ≤ r (28 + 3 * (min 60 W - 1 - i) + 2) ∧ r (28 + 3 * (min 60 W - 1 - i) + 2) < 64) ∧ l ((W - 1 - i) % 128) = pck (r (28 + 3 * (min 60 W - 1 - i))) (r (28 + 3 * (min 60 W - 1 - i) + 1)) (r (28 + 3 * (min 60 W - 1 - i) + 2))
/-- how many were written: now, and at each ACT that is remembered -/
def wrS (σ : Mem) (j : Int) : Int := if j = 0 then σ 31 1 else σ 33 ((σ 31 4 - j) % 40 * 28 + 27)
abbrev acF (σ : Mem) (j : Int) : Int → Int := fun k => σ 33 ((σ 31 4 - j) % 40 * 28 + k)
abbrev acM (m : Mem) (j : Int) : Int → Int := fun q => m 5023 (208 * (m 5000 48 - j) + q)
def pastR (σ m : Mem) : Prop := σ 31 3 = m 5000 48 ∧ (0 ≤ σ 31 4 ∧ σ 31 4 < 40) ∧ (0 ≤ m 5000 48 ∧ m 5000 48 ≤ 40) ∧ (∀ i j, 0 ≤ i → i ≤ j → j ≤ m 5000 48 → 0 ≤ wrS σ i - wrS σ j ∧ wrS σ i - wrS σ j ≤ j - i) ∧ ∀ j, 1 ≤ j → j ≤ m 5000 48 → auR (m 5000 29) (m 5000 30) (acF σ j) (acM m j) ∧ lgR (σ 32) (wrS σ j) (acM m j)
def imR (σ : Mem) : Prop := (σ 31 8 = 0 ∧ σ 5000 56 = 0) ∨ (σ 31 8 = 1 ∧ σ 5000 56 = 1 ∧ auR (σ 5000 29) (σ 5000 30) (σ 34) (σ 5026) ∧ σ 31 7 ≤ 60 ∧ lgR (σ 35) (σ 31 7) (σ 5026))
def tapeR (σ : Mem) : Prop := tapeOk σ ∧ σ 5000 6 = σ 1 1 ∧ ∀ i, 0 ≤ i → i < σ 1 1 → (-128 ≤ σ 5001 i ∧ σ 5001 i ≤ 127) ∧ σ 5001 i % 256 = σ 2 i
/-- the rows of a HOUSE within their bounds -/
def rowS (v : Int → Int) : Prop := ∀ k i w, 0 ≤ k → k < 4 → 0 ≤ i → i < mostK k → 0 ≤ w → w < 4 → 0 ≤ v ((firstK k + i) * 4 + w) ∧ v ((firstK k + i) * 4 + w) ≤ sav 21001 (k * 4 + w)
def houR (σ : Mem) : Prop := (∀ k, 0 ≤ k → k < 4 → 0 ≤ σ 5 k ∧ σ 5 k ≤ 6) ∧ rowS (σ 4) ∧ (∀ k, 0 ≤ k → k < 4 → 0 ≤ σ 8 k ∧ σ 8 k ≤ 6) ∧ rowS (σ 7) ∧ rowB (vof σ) ∧ (σ 8 1 = σ 5000 28 ∧ σ 8 2 = σ 5000 29 ∧ σ 8 3 = σ 5000 30) ∧ σ 5000 28 ≤ 4 ∧ (0 < σ 5000 29 → 1 ≤ σ 5000 28 ∧ 1 ≤ σ 5000 30) ∧ (σ 5000 29 = 0 → σ 5000 28 = 0 ∧ σ 5000 30 = 0) ∧ σ 7 0 = σ 5005 0 ∧ (∀ p k, 0 ≤ p → p < σ 5000 28 → 0 ≤ k → k < 4 → σ 7 ((1 + p) * 4 + k) = σ 5007 (4 * p + k)) ∧ ∀ t, 0 ≤ t → t < σ 5000 30 → σ 7 ((11 + t) * 4) = σ 5011 t
def lawR (σ : Mem) : Prop := σ 0 5 = σ 5000 7 ∧ σ 0 6 = σ 5000 38 ∧ lwIs σ ∧ σ 26 1 = (if σ 5000 38 = -1 then -1 else σ 12 (σ 5000 38)) ∧ ∀ l, 0 ≤ l → l < σ 5000 7 → σ 12 l = 100 + 3 * l ∧ (0 ≤ σ (101 + 3 * l) (-1) ∧ σ (101 + 3 * l) (-1) ≤ 241) ∧ ∀ L, lbd L → bnd (kval L (lwK σ l)) ∧ wx (σ (101 + 3 * l)) (σ (101 + 3 * l) (-1)) L 300 0 [] = some (kval L (lwK σ l))
def seaR (σ : Mem) : Prop := seaOk σ ∧ seOk σ ∧ σ 13 3 = σ 5000 34 ∧ ∀ s, 0 ≤ s → s < σ 13 3 → σ 15 s = σ 5014 s ∧ ∀ j, 0 ≤ j → j < 3 * σ 15 s → σ 14 (s * 48 + j) = σ 5013 (48 * s + j)
def nowR (σ m : Mem) : Prop := auR (m 5000 29) (m 5000 30) (aud σ 16) (m 5015) ∧ lgR (σ 32) (σ 31 1) (m 5015)
def livR (σ : Mem) : Prop := ∀ a, σ (-2) a = 1 ↔ (0 ≤ a ∧ a < 43) ∨ (100 ≤ a ∧ a < 100 + 3 * σ 5000 7) ∨ (5000 ≤ a ∧ a < 5027) ∨ a = 9000
def mskR (σ : Mem) : Prop := mOk σ ∧ (σ 0 8 = σ 5000 39 ∧ 0 ≤ σ 0 8 ∧ σ 0 8 ≤ 9) ∧ (∀ j, 0 ≤ j → j < 16 → 0 ≤ σ 5007 j ∧ σ 5007 j ≤ 9) ∧ (∀ t, 0 ≤ t → t < 6 → 0 ≤ σ 5011 t ∧ σ 5011 t ≤ 9) ∧ 0 ≤ σ 5005 0 ∧ σ 5005 0 ≤ 99
def ringR (σ : Mem) : Prop := (∀ j, 0 ≤ j → j < 128 → 0 ≤ σ 32 j ∧ σ 32 j ≤ 2147483647) ∧ ∀ j, 0 ≤ j → j < 60 → 0 ≤ σ 35 j ∧ σ 35 j ≤ 2147483647
def RR (σ : Mem) : Prop := tapeR σ ∧ houR σ ∧ lawR σ ∧ seaR σ ∧ (hwO σ ∧ eqW σ σ) ∧ nowR σ σ ∧ pastR σ σ ∧ imR σ ∧ livR σ ∧ mskR σ ∧ ringR σ
/-! each piece hangs on some rows alone -/
theorem tapeR_c {σ τ : Mem} (h1 : τ 1 1 = σ 1 1) (h2 : τ 2 = σ 2) (h6 : τ 5000 6 = σ 5000 6) (h5 : τ 5001 = σ 5001) (h : tapeR σ) : tapeR τ := by
  unfold tapeR tapeOk at *
  rw [h1, h2, h6, h5]; exact h
theorem houR_c {σ τ : Mem} (h4 : τ 4 = σ 4) (h5 : τ 5 = σ 5) (h7 : τ 7 = σ 7) (h8 : τ 8 = σ 8) (hk : ∀ k, k = 28 ∨ k = 29 ∨ k = 30 → τ 5000 k = σ 5000 k) (hb : ∀ b, b = 5005 ∨ b = 5006 ∨ b = 5007 ∨ b = 5008 ∨ b = 5010 ∨ b = 5011 ∨ b = 5012 → τ b = σ b) (h : houR σ) : houR τ := by
  unfold houR at *
  rw [h4, h5, h7, h8, hk 28 (by decide), hk 29 (by decide), hk 30 (by decide), hb 5005 (by decide), hb 5007 (by decide), hb 5011 (by decide), vof_c (hb 5006 (by decide)) (hb 5008 (by decide)) (hb 5010 (by decide)) (hb 5012 (by decide))]; exact h
theorem lawR_c {σ τ : Mem} (h5 : τ 0 5 = σ 0 5) (h6 : τ 0 6 = σ 0 6) (h26 : τ 26 1 = σ 26 1) (h12 : τ 12 = σ 12) (hk : τ 5000 7 = σ 5000 7 ∧ τ 5000 38 = σ 5000 38) (h2 : τ 5002 = σ 5002) (h3 : τ 5003 = σ 5003) (hl : ∀ l, 0 ≤ l → l < 4 → τ (101 + 3 * l) = σ (101 + 3 * l)) (h4 : σ 5000 7 ≤ 4) (h : lawR σ) : lawR τ := by
  obtain ⟨a1, a2, a3, a4, a5⟩ := h
  refine ⟨by rw [h5, hk.1]; exact a1, by rw [h6, hk.2]; exact a2, lwIs_c hk.1 hk.2 a3, by rw [h26, hk.2, h12]; exact a4, fun l l0 l1 => ?_⟩
  rw [hk.1] at l1
  rw [h12, hl l l0 (by omega), lwK_c h2 h3]
  exact a5 l l0 l1
theorem seaR_c {σ τ : Mem} (h13 : τ 13 3 = σ 13 3) (h14 : τ 14 = σ 14) (h15 : τ 15 = σ 15) (hk : τ 5000 34 = σ 5000 34) (h5 : τ 5013 = σ 5013) (h6 : τ 5014 = σ 5014) (h : seaR σ) : seaR τ := by
  unfold seaR seaOk seOk at *
  rw [h13, h14, h15, hk, h5, h6]; exact h
theorem howR_c {σ τ : Mem} (h4 : τ 41 4 = σ 41 4) (h42 : τ 42 = σ 42) (hk : ∀ k, k = 28 ∨ k = 29 ∨ k = 53 → τ 5000 k = σ 5000 k) (h5 : τ 5024 = σ 5024) (h : hwO σ ∧ eqW σ σ) : hwO τ ∧ eqW τ τ := by
  unfold hwO eqW at *
  rw [h4, h42, hk 28 (by decide), hk 29 (by decide), hk 53 (by decide), h5]; exact h
theorem aud_c {σ τ : Mem} (h16 : ∀ j, 4 ≤ j → j ≤ 6 → τ 16 j = σ 16 j) (h : ∀ b, 17 ≤ b → b ≤ 20 → τ b = σ b) {k : Int} (k1 : k < 27) : aud τ 16 k = aud σ 16 k := by
  unfold aud
  rw [h (16 + 1) (by decide) (by decide), h (16 + 2) (by decide) (by decide), h (16 + 3) (by decide) (by decide), h (16 + 4) (by decide) (by decide)]
  by_cases c1 : k < 6
  · rw [if_pos c1, if_pos c1]
  · rw [if_neg c1, if_neg c1]
    by_cases c2 : k < 12
    · rw [if_pos c2, if_pos c2]
    · rw [if_neg c2, if_neg c2]
      by_cases c3 : k < 18
      · rw [if_pos c3, if_pos c3]
      · rw [if_neg c3, if_neg c3]
        by_cases c4 : k < 24
        · rw [if_pos c4, if_pos c4]
        · rw [if_neg c4, if_neg c4, h16 _ (by omega) (by omega)]
theorem auR_c {n s : Int} {f g r q : Int → Int} (n6 : n ≤ 6) (hf : ∀ k, 0 ≤ k → k < 27 → g k = f k) (hr : ∀ j, 0 ≤ j → j < 28 → q j = r j) (h : auR n s f r) : auR n s g q := by
  obtain ⟨a1, a2, a3, a4, a5⟩ := h
  refine ⟨fun c c0 c1 => ?_, ?_, aR_c n6 hr a3, by rw [hr 26 (by decide) (by decide)]; exact a4, fun i i0 i1 => ?_⟩
  · rw [hf c c0 (by omega), hf _ (by omega) (by omega), hf _ (by omega) (by omega), hf _ (by omega) (by omega), hr _ (by omega) (by omega), hr _ (by omega) (by omega), hr _ (by omega) (by omega), hr _ (by omega) (by omega)]
    exact a1 c c0 c1
  · rw [hf 24 (by decide) (by decide), hf 25 (by decide) (by decide), hf 26 (by decide) (by decide), hr 24 (by decide) (by decide), hr 25 (by decide) (by decide), hr 26 (by decide) (by decide)]; exact a2
  · rw [hf i i0 (by omega), hf _ (by omega) (by omega), hf _ (by omega) (by omega), hf _ (by omega) (by omega)]
    exact a5 i i0 i1
theorem lgR_c {l l' r q : Int → Int} {W : Int} (hl : ∀ j, 0 ≤ j → j < 128 → l' j = l j) (hr : ∀ j, 26 ≤ j → j < 208 → q j = r j) (h : lgR l W r) : lgR l' W q := by
  obtain ⟨a1, a2, a3, a4⟩ := h
  refine ⟨a1, by rw [hr 27 (by decide) (by decide)]; exact a2, by rw [hr 26 (by decide) (by decide)]; exact a3, fun i i0 i1 => ?_⟩
  have := a4 i i0 i1
  rw [hr _ (by omega) (by omega), hr _ (by omega) (by omega), hr _ (by omega) (by omega), hl _ (by omega) (by omega)]
  exact this
theorem nowR_c {σ τ m m' : Mem} (n6 : m 5000 29 ≤ 6) (h16 : ∀ j, 4 ≤ j → j ≤ 6 → τ 16 j = σ 16 j) (ha : ∀ b, 17 ≤ b → b ≤ 20 → τ b = σ b) (h32 : τ 32 = σ 32) (h31 : τ 31 1 = σ 31 1) (hk : m' 5000 29 = m 5000 29 ∧ m' 5000 30 = m 5000 30) (h5 : m' 5015 = m 5015) (h : nowR σ m) : nowR τ m' := by
  unfold nowR
  rw [h32, h31, hk.1, hk.2, h5]
  exact ⟨auR_c n6 (fun k _ k1 => aud_c h16 ha k1) (fun _ _ _ => rfl) h.1, h.2⟩
theorem wrS_c {σ τ : Mem} (h1 : τ 31 1 = σ 31 1) (h4 : τ 31 4 = σ 31 4) (h33 : τ 33 = σ 33) (j : Int) : wrS τ j = wrS σ j := by unfold wrS; rw [h1, h4, h33]
theorem pastR_c {σ τ m m' : Mem} (h31 : ∀ k, k = 1 ∨ k = 3 ∨ k = 4 → τ 31 k = σ 31 k) (h32 : τ 32 = σ 32) (h33 : τ 33 = σ 33) (hk : ∀ k, k = 29 ∨ k = 30 ∨ k = 48 → m' 5000 k = m 5000 k) (h5 : m' 5023 = m 5023) (h : pastR σ m) : pastR τ m' := by
  have w := wrS_c (h31 1 (by decide)) (h31 4 (by decide)) h33
  unfold pastR acF acM at *
  rw [h31 3 (by decide), h31 4 (by decide), h32, h33, hk 29 (by decide), hk 30 (by decide), hk 48 (by decide), h5]
  simp only [w]
  exact h
theorem imR_c {σ τ : Mem} (h31 : ∀ k, k = 7 ∨ k = 8 → τ 31 k = σ 31 k) (h34 : τ 34 = σ 34) (h35 : τ 35 = σ 35) (hk : ∀ k, k = 29 ∨ k = 30 ∨ k = 56 → τ 5000 k = σ 5000 k) (h5 : τ 5026 = σ 5026) (h : imR σ) : imR τ := by
  unfold imR at *
  rw [h31 7 (by decide), h31 8 (by decide), h34, h35, hk 29 (by decide), hk 30 (by decide), hk 56 (by decide), h5]; exact h
theorem livR_c {σ τ : Mem} (h2 : τ (-2) = σ (-2)) (h7 : τ 5000 7 = σ 5000 7) (h : livR σ) : livR τ := by
  unfold livR at *
  rw [h2, h7]; exact h
theorem mskR_c {σ τ : Mem} (hm : mOk τ) (h8 : τ 0 8 = σ 0 8) (hk : τ 5000 39 = σ 5000 39) (h7 : τ 5007 = σ 5007) (h11 : τ 5011 = σ 5011) (h5 : τ 5005 = σ 5005) (h : mskR σ) : mskR τ := by
  unfold mskR at *
  rw [h8, hk, h7, h11, h5]; exact ⟨hm, h.2⟩
theorem ringR_c {σ τ : Mem} (h32 : τ 32 = σ 32) (h35 : τ 35 = σ 35) (h : ringR σ) : ringR τ := by
  unfold ringR at *
  rw [h32, h35]; exact h
/-! what follows -/
theorem RR_n {σ : Mem} (h : RR σ) : (0 ≤ σ 5000 28 ∧ σ 5000 28 ≤ 4) ∧ (0 ≤ σ 5000 29 ∧ σ 5000 29 ≤ 6) ∧ (0 ≤ σ 5000 30 ∧ σ 5000 30 ≤ 6) ∧ (0 ≤ σ 5000 7 ∧ σ 5000 7 ≤ 4) := by
  obtain ⟨-, ⟨-, -, b3, -, -, b6, b7, -⟩, -, -, -, -, -, -, -, ⟨⟨⟨b8, b9, -⟩, -⟩, -⟩, -⟩ := h
  have c1 := b3 1 (by decide) (by decide)
  have c2 := b3 2 (by decide) (by decide)
  have c3 := b3 3 (by decide) (by decide)
  omega
theorem slotF_k {k i w : Int} (k0 : 0 ≤ k) (k1 : k < 4) (i0 : 0 ≤ i) (i1 : i < mostK k) (w0 : 0 ≤ w) (w1 : w < 4) : slotF k i w = (firstK k + i) * 4 + w := by
  unfold slotF; rw [if_pos ⟨k0, k1, i0, i1, w0, w1⟩]
theorem pval_at {σ : Mem} {p k i w : Int} (k0 : 0 ≤ k) (k1 : k < 4) (i0 : 0 ≤ i) (i1 : i < mostK k) (w0 : 0 ≤ w) (w1 : w < 4) : pval σ p k i w = σ (p + 1) ((firstK k + i) * 4 + w) := by
  have := firstK_b k
  unfold pval; rw [slotF_k k0 k1 i0 i1 w0 w1, if_neg (by omega)]
theorem rowS_B {v : Int → Int} (h : rowS v) : rowB v := by
  intro j j0 j1
  have key : ∀ k i, 0 ≤ k → k < 4 → 0 ≤ i → i < mostK k → j / 4 = firstK k + i → 0 ≤ v j ∧ v j ≤ 99 := by
    intro k i k0 k1 i0 i1 e
    have := h k i (j % 4) k0 k1 i0 i1 (by omega) (by omega)
    have sb := sav_b (i := k * 4 + j % 4) (by omega) (by omega)
    rw [show (firstK k + i) * 4 + j % 4 = j by omega] at this
    omega
  have m0 : mostK 0 = 1 := rfl
  have m1 : mostK 1 = 4 := rfl
  have m2 : mostK 2 = 6 := rfl
  have m3 : mostK 3 = 6 := rfl
  have f0 : firstK 0 = 0 := rfl
  have f1 : firstK 1 = 1 := rfl
  have f2 : firstK 2 = 5 := rfl
  have f3 : firstK 3 = 11 := rfl
  by_cases c0 : j / 4 < 1
  · exact key 0 (j / 4) (by decide) (by decide) (by omega) (by omega) (by omega)
  · by_cases c1 : j / 4 < 5
    · exact key 1 (j / 4 - 1) (by decide) (by decide) (by omega) (by omega) (by omega)
    · by_cases c2 : j / 4 < 11
      · exact key 2 (j / 4 - 5) (by decide) (by decide) (by omega) (by omega) (by omega)
      · exact key 3 (j / 4 - 11) (by decide) (by decide) (by omega) (by omega) (by omega)
theorem RR_plan {σ : Mem} (h : RR σ) : planB σ 6 ∧ planB σ 3 := by
  obtain ⟨-, ⟨b1, b2, b3, b4, -⟩, -⟩ := h
  exact ⟨⟨b3, rowS_B b4⟩, ⟨b1, rowS_B b2⟩⟩
theorem RR_cnt {σ : Mem} (h : RR σ) : pcnt σ 6 1 = σ 5000 28 ∧ pcnt σ 6 2 = σ 5000 29 ∧ pcnt σ 6 3 = σ 5000 30 := by
  obtain ⟨-, ⟨-, -, -, -, -, b6, -⟩, -⟩ := h
  unfold pcnt
  rw [if_pos (by decide), if_pos (by decide), if_pos (by decide)]
  exact b6
theorem RR_lawOk {σ : Mem} (h : RR σ) : lawOk σ := by
  have n := RR_n h
  obtain ⟨-, -, ⟨a1, a2, a3, a4, a5⟩, -⟩ := h
  unfold lawOk
  by_cases c : σ 5000 38 = -1
  · left; rw [a4, if_pos c]; decide
  · right
    rw [if_neg c] at a4
    rcases a3 with a3 | a3
    · exact absurd a3 c
    obtain ⟨b1, b2, b3⟩ := a5 _ a3.1 a3.2
    rw [a4, b1, show 100 + 3 * σ 5000 38 + 1 = 101 + 3 * σ 5000 38 by omega]
    refine ⟨?_, b2.1, b2.2, fun L hL => ⟨_, b3 L hL⟩⟩
    unfold isLw; omega
theorem ltr_bd {f h d n k e : Int} (hd : mdg f h d n k e) : lbd (ltr f h d n k e) := by
  intro j j0 j1
  unfold ltr
  (repeat' split) <;> exact ⟨by omega, by omega⟩
theorem RR_rk {σ : Mem} (h : RR σ) {f g d n k e : Int} (hd : mdg f g d n k e) : rkV σ f g d n k e = mRk σ f g d n k e := by
  have nn := RR_n h
  obtain ⟨-, -, ⟨a1, a2, a3, a4, a5⟩, -⟩ := h
  unfold rkV mRk lwV
  by_cases c : σ 5000 38 = -1
  · rw [if_pos c] at a4
    rw [a4, if_pos (by decide), if_pos c]
    rfl
  · rw [if_neg c] at a4
    rcases a3 with a3 | a3
    · exact absurd a3 c
    obtain ⟨b1, b2, b3⟩ := a5 _ a3.1 a3.2
    rw [a4, b1, if_neg (by omega), if_neg c, show 100 + 3 * σ 5000 38 + 1 = 101 + 3 * σ 5000 38 by omega, (b3 _ (ltr_bd hd)).2]
    rfl
theorem RR_eqH {σ : Mem} (h : RR σ) : eqH σ σ := by
  have c := RR_cnt h
  have n := RR_n h
  have hh := h.2.1
  obtain ⟨-, -, -, b4, -, -, -, -, -, b10, b11, b12⟩ := hh
  refine ⟨c.2.1, c.1, c.2.2, ?_, fun p k p0 p1 k0 k1 => ?_, fun t t0 t1 => ?_, fun f g d n k e hd _ => RR_rk h hd⟩
  · rw [pval_at (by decide) (by decide) (by decide) (by decide) (by decide) (by decide)]; exact b10
  · rw [pval_at (by decide) (by decide) p0 (show p < mostK 1 by show p < 4; omega) k0 k1]; exact b11 p k p0 p1 k0 k1
  · rw [pval_at (by decide) (by decide) t0 (show t < mostK 3 by show t < 6; omega) (by decide) (by decide), show (firstK 3 + t) * 4 + 0 = (11 + t) * 4 by rw [show firstK 3 = 11 from rfl]; omega]; exact b12 t t0 t1
theorem aud16 (σ : Mem) {c : Int} (c0 : 0 ≤ c) (c1 : c < 6) : aud σ 16 c = σ 17 c ∧ aud σ 16 (c + 6) = σ 18 c ∧ aud σ 16 (c + 12) = σ 19 c ∧ aud σ 16 (c + 18) = σ 20 c := ⟨aud_1 σ 16 c c1, aud_2 σ 16 c c0 c1, aud_3 σ 16 c c0 c1, aud_4 σ 16 c c0 c1⟩
theorem audk (σ : Mem) : aud σ 16 24 = σ 16 4 ∧ aud σ 16 25 = σ 16 5 ∧ aud σ 16 26 = σ 16 6 := ⟨aud_5 σ 16 4 (by decide), aud_5 σ 16 5 (by decide), aud_5 σ 16 6 (by decide)⟩
theorem RR_now {σ : Mem} (h : RR σ) : (∀ c, 0 ≤ c → c < σ 5000 29 → σ 17 c = σ 5015 (4 * c) ∧ σ 18 c = σ 5015 (4 * c + 1) ∧ σ 19 c = σ 5015 (4 * c + 2) ∧ σ 20 c = σ 5015 (4 * c + 3)) ∧ (σ 16 4 = σ 5015 24 ∧ σ 16 5 = σ 5015 25 ∧ σ 16 6 = σ 5015 26) ∧ aR (σ 5000 29) (σ 5000 30) (σ 5015) ∧ σ 5015 26 ≤ 999 ∧ ∀ i, 0 ≤ i → i < 6 → (0 ≤ σ 17 i ∧ σ 17 i ≤ 9) ∧ (0 ≤ σ 18 i ∧ σ 18 i ≤ 5) ∧ (0 ≤ σ 19 i ∧ σ 19 i ≤ 99) ∧ 0 ≤ σ 20 i ∧ σ 20 i ≤ 9999 := by
  have n := RR_n h
  obtain ⟨-, -, -, -, -, ⟨⟨a1, a2, a3, a4, a5⟩, -⟩, -⟩ := h
  have k := audk σ
  refine ⟨fun c c0 c1 => ?_, by rw [← k.1, ← k.2.1, ← k.2.2]; exact a2, a3, a4, fun i i0 i1 => ?_⟩
  · have e := aud16 σ c0 (by omega)
    rw [← e.1, ← e.2.1, ← e.2.2.1, ← e.2.2.2]; exact a1 c c0 c1
  · have e := aud16 σ i0 i1
    rw [← e.1, ← e.2.1, ← e.2.2.1, ← e.2.2.2]; exact a5 i i0 i1
theorem RR_eqA {σ : Mem} (h : RR σ) : eqA σ σ 16 5015 := by
  obtain ⟨a1, a2, -⟩ := RR_now h
  exact ⟨fun c c0 c1 => ⟨(a1 c c0 c1).1, (a1 c c0 c1).2.1⟩, a2.1, a2.2.2⟩
theorem RR_mX {σ : Mem} (h : RR σ) : mX σ 5015 := by
  have n := RR_n h
  have a := RR_now h
  obtain ⟨-, -, ⟨-, -, l3, -⟩, -, -, -, ⟨-, -, p3, -⟩, -, -, ⟨m1, -, m3, m4, m5⟩, -⟩ := h
  exact ⟨Or.inl rfl, ⟨m1, l3, n.2.1, n.2.2.1, n.1, m3, m4, m5, p3⟩, a.2.2.1⟩
theorem RR_min {σ : Mem} (h : RR σ) (p : Int) : pval σ 6 1 p 3 ≤ 9 := by
  have b4 := h.2.1.2.2.2.1
  by_cases c : 0 ≤ p ∧ p < 4
  · rw [pval_at (by decide) (by decide) c.1 (show p < mostK 1 from c.2) (by decide) (by decide)]
    have := (b4 1 p 3 (by decide) (by decide) c.1 (show p < mostK 1 from c.2) (by decide) (by decide)).2
    rw [show sav 21001 (1 * 4 + 3) = 9 by decide] at this
    exact this
  · unfold pval slotF
    rw [if_neg (show ¬ (0 ≤ (1 : Int) ∧ (1 : Int) < 4 ∧ 0 ≤ p ∧ p < mostK 1 ∧ 0 ≤ (3 : Int) ∧ (3 : Int) < 4) from fun q => c ⟨q.2.2.1, q.2.2.2.1⟩), if_pos rfl]; decide
theorem RR_xS {σ : Mem} (h : RR σ) : xS σ := by
  have n := RR_n h
  have c := RR_cnt h
  obtain ⟨a1, a2, ⟨r1, r2, r3, r4, r5⟩, a4, a5⟩ := RR_now h
  refine ⟨⟨Or.inl rfl, (RR_plan h).1, RR_lawOk h, fun i i0 i1 => (a5 i i0 i1).1, by omega, ⟨by omega, by omega⟩⟩, fun i i0 i1 => ?_, RR_min h, fun i i0 i1 => ?_⟩
  · have := (a5 i i0 i1).2.1
    exact ⟨by omega, by omega⟩
  · rw [c.2.1] at i1
    rw [c.2.2, (a1 i i0 i1).2.1]
    exact (r1 i i0 i1).2.1
theorem RR_W {σ : Mem} (h : RR σ) : 0 ≤ σ 31 1 ∧ σ 31 1 ≤ 999 ∧ σ 5015 27 = min 60 (σ 31 1) := by
  obtain ⟨-, -, -, a4, -⟩ := RR_now h
  obtain ⟨-, -, -, -, -, ⟨-, l1, l2, l3, -⟩, -⟩ := h
  exact ⟨l1, by omega, l2⟩
theorem RR_pastOk {σ : Mem} (h : RR σ) : pastOk σ := by
  have w := RR_W h
  obtain ⟨-, -, -, -, -, -, ⟨p1, p2, p3, -⟩, -⟩ := h
  exact ⟨p2, by rw [p1]; exact p3, by omega, by omega⟩
theorem RR_auS {σ : Mem} (h : RR σ) : auS σ 16 := by
  obtain ⟨a1, a2, ⟨r1, r2, r3, r4, r5⟩, a4, a5⟩ := RR_now h
  refine ⟨fun i i0 i1 => ?_, fun i i0 i1 => ?_, ⟨by omega, by omega⟩⟩
  · have := (a5 i i0 i1).2.1
    exact ⟨show -2147483648 ≤ σ 18 i by omega, show σ 18 i ≤ 2147483647 by omega⟩
  · have := (a5 i i0 i1).2.2.1
    exact ⟨show -2147483648 ≤ σ 19 i by omega, show σ 19 i ≤ 2147483647 by omega⟩
theorem RR_xA {σ : Mem} (h : RR σ) : xA σ := by
  have n := RR_n h
  have c := RR_cnt h
  obtain ⟨a1, a2, ⟨r1, r2, r3, r4, r5⟩, a4, a5⟩ := RR_now h
  refine ⟨RR_xS h, RR_pastOk h, RR_auS h, fun i i0 i1 => ?_, by omega, by omega, fun i i0 i1 => ?_⟩
  · exact (a5 i i0 (by omega)).2.2.2
  · exact (a5 i i0 (by omega)).2.2.1
theorem RR_clu {σ : Mem} (h : RR σ) : cluOk σ := by
  obtain ⟨-, -, -, -, ⟨⟨h1, h2⟩, w1, w2, w3⟩, -⟩ := h
  refine ⟨by rw [w1]; exact h1, fun j j0 j1 => ?_⟩
  rw [w1] at j1
  obtain ⟨b1, b2, b3, b4, b5⟩ := h2 j j0 j1
  rw [w2 _ (by omega) (by omega), w2 _ (by omega) (by omega), w2 _ (by omega) (by omega), w2 _ (by omega) (by omega), w2 _ (by omega) (by omega)]
  exact ⟨⟨by omega, by omega⟩, ⟨by omega, by omega⟩, b3, ⟨by omega, by omega⟩, ⟨by omega, by omega⟩⟩
/-- what PLAYS tried by the class may change doesn't matter -/
theorem RR_SA {σ τ : Mem} (hS : SA σ τ) (h : RR σ) : RR τ := by
  have n := RR_n h
  have r : ∀ b, (b < 21 ∨ 30 < b) → b ≠ 37 → b ≠ 38 → b ≠ 40 → b ≠ 102 → b ≠ 105 → b ≠ 108 → b ≠ 111 → τ b = σ b := hS.1
  have q : ∀ b, b < 21 ∨ (30 < b ∧ b < 37) ∨ (40 < b ∧ b < 100) ∨ 111 < b → τ b = σ b := fun b hb => r b (by omega) (by omega) (by omega) (by omega) (by omega) (by omega) (by omega) (by omega)
  have k : ∀ x, τ 5000 x = σ 5000 x := fun x => by rw [q 5000 (by decide)]
  obtain ⟨h1, h2, h3, h4, h5, h6, h7, h8, h9, h10, h11⟩ := h
  refine ⟨tapeR_c (by rw [q 1 (by decide)]) (q 2 (by decide)) (k 6) (q 5001 (by decide)) h1, houR_c (q 4 (by decide)) (q 5 (by decide)) (q 7 (by decide)) (q 8 (by decide)) (fun x _ => k x) (fun b hb => q b (by omega)) h2, lawR_c (by rw [q 0 (by decide)]) (by rw [q 0 (by decide)]) hS.2 (q 12 (by decide)) ⟨k 7, k 38⟩ (q 5002 (by decide)) (q 5003 (by decide)) (fun l l0 l1 => r _ (by omega) (by omega) (by omega) (by omega) (by omega) (by omega) (by omega) (by omega)) n.2.2.2.2 h3, seaR_c (by rw [q 13 (by decide)]) (q 14 (by decide)) (q 15 (by decide)) (k 34) (q 5013 (by decide)) (q 5014 (by decide)) h4, howR_c (by rw [q 41 (by decide)]) (q 42 (by decide)) (fun x _ => k x) (q 5024 (by decide)) h5, nowR_c n.2.1.2 (fun j _ _ => by rw [q 16 (by decide)]) (fun b b0 b1 => q b (by omega)) (q 32 (by decide)) (by rw [q 31 (by decide)]) ⟨k 29, k 30⟩ (q 5015 (by decide)) h6, pastR_c (fun x _ => by rw [q 31 (by decide)]) (q 32 (by decide)) (q 33 (by decide)) (fun x _ => k x) (q 5023 (by decide)) h7, imR_c (fun x _ => by rw [q 31 (by decide)]) (q 34 (by decide)) (q 35 (by decide)) (fun x _ => k x) (q 5026 (by decide)) h8, livR_c (q (-2) (by decide)) (k 7) h9, mskR_c (mOk_c (k 7) (fun b hb => q b (by omega)) h10.1) (by rw [q 0 (by decide)]) (k 39) (q 5007 (by decide)) (q 5011 (by decide)) (q 5005 (by decide)) h10, ringR_c (q 32 (by decide)) (q 35 (by decide)) h11⟩
/-- nor what the reference's questions may change -/
theorem RR_QF {σ τ : Mem} (hQ : QF σ τ) (hm : mOk τ) (h : RR σ) : RR τ := by
  have n := RR_n h
  have q : ∀ b, b < 5000 ∨ (5000 < b ∧ b < 5004) ∨ (5004 < b ∧ b < 5016) ∨ b = 5023 ∨ b = 5024 ∨ b = 5026 → τ b = σ b := fun b hb => hQ.1 b (by omega) (by omega) (by omega) (by omega)
  have k : ∀ x, x = 6 ∨ x = 7 ∨ x = 28 ∨ x = 29 ∨ x = 30 ∨ x = 34 ∨ x = 38 ∨ x = 39 ∨ x = 48 ∨ x = 53 ∨ x = 56 → τ 5000 x = σ 5000 x := fun x hx => hQ.2 x (by omega) (by omega) (by omega) (by omega) (by omega) (by omega) (by omega)
  obtain ⟨h1, h2, h3, h4, h5, h6, h7, h8, h9, h10, h11⟩ := h
  refine ⟨tapeR_c (by rw [q 1 (by decide)]) (q 2 (by decide)) (k 6 (by decide)) (q 5001 (by decide)) h1, houR_c (q 4 (by decide)) (q 5 (by decide)) (q 7 (by decide)) (q 8 (by decide)) (fun x hx => k x (by omega)) (fun b hb => q b (by omega)) h2, lawR_c (by rw [q 0 (by decide)]) (by rw [q 0 (by decide)]) (by rw [q 26 (by decide)]) (q 12 (by decide)) ⟨k 7 (by decide), k 38 (by decide)⟩ (q 5002 (by decide)) (q 5003 (by decide)) (fun l l0 l1 => q _ (by omega)) n.2.2.2.2 h3, seaR_c (by rw [q 13 (by decide)]) (q 14 (by decide)) (q 15 (by decide)) (k 34 (by decide)) (q 5013 (by decide)) (q 5014 (by decide)) h4, howR_c (by rw [q 41 (by decide)]) (q 42 (by decide)) (fun x hx => k x (by omega)) (q 5024 (by decide)) h5, nowR_c n.2.1.2 (fun j _ _ => by rw [q 16 (by decide)]) (fun b b0 b1 => q b (by omega)) (q 32 (by decide)) (by rw [q 31 (by decide)]) ⟨k 29 (by decide), k 30 (by decide)⟩ (q 5015 (by decide)) h6, pastR_c (fun x _ => by rw [q 31 (by decide)]) (q 32 (by decide)) (q 33 (by decide)) (fun x hx => k x (by omega)) (q 5023 (by decide)) h7, imR_c (fun x _ => by rw [q 31 (by decide)]) (q 34 (by decide)) (q 35 (by decide)) (fun x hx => k x (by omega)) (q 5026 (by decide)) h8, livR_c (q (-2) (by decide)) (k 7 (by decide)) h9, mskR_c hm (by rw [q 0 (by decide)]) (k 39 (by decide)) (q 5007 (by decide)) (q 5011 (by decide)) (q 5005 (by decide)) h10, ringR_c (q 32 (by decide)) (q 35 (by decide)) h11⟩
theorem RR_th {σ : Mem} (h : RR σ) : RR (th0 σ) := RR_QF (QF_th σ) (mOk_th h.2.2.2.2.2.2.2.2.2.1.1) h
/-- a question: the class has tried PLAYS, the reference begins -/
theorem RR_q {σ τ : Mem} (h : RR σ) (hS : SA σ τ) : RR τ ∧ eqH σ (th0 τ) ∧ eqA σ (th0 τ) 16 5015 ∧ mX (th0 τ) 5015 ∧ ∀ b, b ≠ 5000 → 5000 < b → th0 τ b = σ b := by
  have hr := RR_SA hS h
  have q : ∀ b, 111 < b → τ b = σ b := fun b hb => hS.1 b (by omega) (by omega) (by omega) (by omega) (by omega) (by omega) (by omega) (by omega)
  have o : ∀ b, b ≠ 5000 → 5000 < b → th0 τ b = σ b := fun b h1 h2 => by rw [th_o τ h1]; exact q b (by omega)
  have k : ∀ x, x ≠ 0 → th0 τ 5000 x = σ 5000 x := fun x hx => by rw [th_k τ hx, q 5000 (by decide)]
  refine ⟨hr, eqH_m (fun x hx => k x (by omega)) (fun b hb => o b (by omega) (by omega)) (RR_eqH h), ?_, mX_th (RR_mX hr), o⟩
  have := RR_eqA h
  unfold eqA at *
  rw [k 29 (by decide), o 5015 (by decide) (by decide)]
  exact this
/-! questions: the class's answer is the reference's -/
abbrev sQ (r : AV) : AV → Mem → Prop := fun r' υ => r' = r ∧ RR υ
theorem InR_s {x : Int} (h0 : -10000 ≤ x) (h1 : x ≤ 10000) : InR x := ⟨by omega, by omega⟩
theorem fbest_c {f g : Int → Int} : ∀ {n : Nat}, (∀ i : Int, 0 ≤ i → i < n → f i = g i) → fbest f n = fbest g n ∧ 0 ≤ fbest f n ∧ (fbest f n < n ∨ fbest f n = 0) := by
  intro n
  induction n with
  | zero => intro _; exact ⟨rfl, Int.le_refl _, Or.inr rfl⟩
  | succ n ih =>
    intro h
    obtain ⟨e, b0, b1⟩ := ih (fun i a b => h i a (by omega))
    rw [fbest_s, fbest_s, ← e, h n (by omega) (by omega)]
    have : f (fbest f n) = g (fbest f n) := h _ b0 (by omega)
    rw [this]
    refine ⟨rfl, ?_, ?_⟩ <;> split <;> omega
theorem fbest_m (f : Int → Int) {x : Int} (h : 0 ≤ x) : fbest f (max 1 x).toNat = fbest f x.toNat := by
  by_cases c : x = 0
  · rw [c]; exact fbest_1 f
  · rw [show max 1 x = x by omega]
theorem fsum_c {f g : Int → Int} : ∀ {n : Nat}, (∀ i : Int, 0 ≤ i → i < n → f i = g i) → fsum f n = fsum g n := by
  intro n
  induction n with
  | zero => intro _; rfl
  | succ n ih =>
    intro h
    show fsum f n + f n = fsum g n + g n
    rw [ih (fun i a b => h i a (by omega)), h n (by omega) (by omega)]
theorem fstO_c {f g : Int → Int} : ∀ {n : Nat}, (∀ i : Int, 0 ≤ i → i < n → f i = g i) → fstO f n = fstO g n := by
  intro n
  induction n with
  | zero => intro _; rfl
  | succ n ih =>
    intro h
    have e := ih (fun i a b => h i a (by omega))
    have b := fstO_b f n
    show (if f n ≠ -1 ∧ (fstO f n = -1 ∨ f n < f (fstO f n)) then (n : Int) else fstO f n) = if g n ≠ -1 ∧ (fstO g n = -1 ∨ g n < g (fstO g n)) then (n : Int) else fstO g n
    rw [← e, h n (by omega) (by omega)]
    by_cases c : fstO f n = -1
    · rw [c]; simp
    · rw [h _ (by omega) (by omega)]
theorem sim_rule {σ : Mem} (h : RR σ) {w : Int} (hw : InR w) : w_X11_rule [(27, 0), (0, w)] σ (fun r τ => w_X12_rule [(28, 5000), (0, w)] τ (sQ r)) := by
  have n := RR_n h
  have c := RR_cnt h
  have ht := RR_th h
  have a := RR_now h
  have e := RR_eqH h
  rw [w_X11_rule_e]
  refine ⟨hw, (RR_plan h).1, fun q => ?_, fun q1 q2 => ?_, fun q1 q2 => ?_⟩ <;> rw [w_X12_rule_e]
  · exact ⟨hw, ⟨by omega, by omega⟩, fun _ => ⟨rfl, ht⟩, fun z1 z2 => by exfalso; omega, fun z1 z2 => by exfalso; omega⟩
  · exact ⟨hw, ⟨by omega, by omega⟩, fun z => by exfalso; omega, fun _ _ => ⟨by rw [e.2.2.2.1], ht⟩, fun _ z => by exfalso; omega⟩
  · exact ⟨hw, ⟨by omega, by omega⟩, fun z => by exfalso; omega, fun _ z => by exfalso; omega, fun _ _ => ⟨by rw [a.2.1.2.1], ht⟩⟩
theorem sim_drama {σ : Mem} (h : RR σ) {p w : Int} (hp : InR p) (hw : InR w) : w_X11_drama [(27, 0), (0, p), (0, w)] σ (fun r τ => w_X12_drama [(28, 5000), (0, p), (0, w)] τ (sQ r)) := by
  have n := RR_n h
  have c := RR_cnt h
  have ht := RR_th h
  have e := RR_eqH h
  rw [w_X11_drama_e]
  refine ⟨hp, hw, (RR_plan h).1, fun q => ?_, fun q => ?_⟩ <;> rw [w_X12_drama_e] <;> rw [c.1] at q
  · exact ⟨hp, hw, n.1.1, n.1.2, fun _ => ⟨rfl, ht⟩, fun z => absurd z q⟩
  · exact ⟨hp, hw, n.1.1, n.1.2, fun z => absurd q z, fun _ => ⟨by rw [e.2.2.2.2.1 p w q.1 q.2.1 q.2.2.1 (by omega)], ht⟩⟩
theorem sim_sitter {σ : Mem} (h : RR σ) {t w : Int} (hp : InR t) (hw : InR w) : w_X11_sitter [(27, 0), (0, t), (0, w)] σ (fun r τ => w_X12_sitter [(28, 5000), (0, t), (0, w)] τ (sQ r)) := by
  have n := RR_n h
  have c := RR_cnt h
  have ht := RR_th h
  have e := RR_eqH h
  have a := RR_now h
  have i24 := a.2.2.1.2.1
  have i : InR (σ 5015 24) := ⟨by omega, by omega⟩
  rw [w_X11_sitter_e]
  refine ⟨hp, hw, (RR_plan h).1, by rw [a.2.1.1]; exact i, fun q => ?_, fun q1 q2 => ?_, fun q1 q2 => ?_⟩ <;> rw [w_X12_sitter_e]
  · rw [c.2.2] at q
    exact ⟨hp, hw, n.2.2.1.1, n.2.2.1.2, i, fun _ => ⟨rfl, ht⟩, fun z => by exfalso; omega, fun z => by exfalso; omega⟩
  · rw [c.2.2] at q1
    exact ⟨hp, hw, n.2.2.1.1, n.2.2.1.2, i, fun z => by exfalso; omega, fun z => ⟨by rw [e.2.2.2.2.2.1 t q1.1 q1.2], ht⟩, fun z => by exfalso; omega⟩
  · rw [c.2.2] at q1
    exact ⟨hp, hw, n.2.2.1.1, n.2.2.1.2, i, fun z => by exfalso; omega, fun z => by exfalso; omega, fun z => ⟨by rw [a.2.1.1], ht⟩⟩
theorem pck_0 {p m o : Int} (p0 : 0 ≤ p) (p3 : p ≤ 3) (o0 : 0 ≤ o) (o1 : o < 64) : pck p m o % 4 = p ∧ pck p m o / 256 = m ∧ pck p m o / 4 % 64 = o := by
  unfold pck; omega
theorem sim_log {σ : Mem} (h : RR σ) {i w : Int} (hi : InR i) (hw : InR w) : w_X11_log [(27, 0), (0, i), (0, w)] σ (fun r τ => w_X12_log [(28, 5000), (0, i), (0, w)] τ (sQ r)) := by
  have ht := RR_th h
  have W := RR_W h
  have l := h.2.2.2.2.2.1.2.2.2.2
  have b27 : 0 ≤ σ 5015 27 ∧ σ 5015 27 ≤ 60 := by omega
  rw [w_X11_log_e]
  refine ⟨hi, hw, RR_pastOk h, h.2.2.2.2.2.2.2.2.2.2.1, fun q => ?_, fun q => ?_⟩ <;> rw [w_X12_log_e] <;> rw [← W.2.2] at q
  · exact ⟨hi, hw, b27.1, b27.2, fun _ => ⟨rfl, ht⟩, fun z => absurd z q⟩
  · refine ⟨hi, hw, b27.1, b27.2, fun z => absurd q z, fun _ => ⟨?_, ht⟩⟩
    obtain ⟨l1, l2, l3, l4⟩ := l i q.1 (by rw [← W.2.2]; exact q.2.1)
    rw [← W.2.2] at l1 l2 l3 l4
    obtain ⟨k1, k2, k3⟩ := pck_0 (m := σ 5015 (28 + 3 * (σ 5015 27 - 1 - i) + 1)) l1.1 l1.2 l3.1 l3.2
    unfold logE
    rw [l4, k1, k2, k3]
    have : w = 0 ∨ w = 1 ∨ w = 2 := by omega
    rcases this with e | e | e <;> rw [e]
    · rw [if_pos rfl, Int.add_zero]
    · rw [if_neg (by decide), if_pos rfl]
    · rw [if_neg (by decide), if_neg (by decide)]
theorem sim_step {σ : Mem} (h : RR σ) {s i w : Int} (hs : InR s) (hi : InR i) (hw : InR w) : w_X11_step [(27, 0), (0, s), (0, i), (0, w)] σ (fun r τ => w_X12_step [(28, 5000), (0, s), (0, i), (0, w)] τ (sQ r)) := by
  have ht := RR_th h
  obtain ⟨s1, s2, s3, s4⟩ := h.2.2.2.1
  rw [w_X11_step_e]
  refine ⟨hs, hi, hw, s1, fun q => ?_, fun q => ?_⟩ <;> rw [w_X12_step_e]
  · refine ⟨hs, hi, hw, s2.1.1, s2.1.2, s2.2.1, fun _ => ⟨rfl, ht⟩, fun z => absurd ?_ q⟩
    have e := (s4 s z.1 (by omega)).1
    exact ⟨⟨z.1, by omega⟩, z.2.2.1, by rw [e]; exact z.2.2.2.1, z.2.2.2.2.1, z.2.2.2.2.2⟩
  · have e := s4 s q.1.1 q.1.2
    refine ⟨hs, hi, hw, s2.1.1, s2.1.2, s2.2.1, fun z => absurd ⟨q.1.1, by omega, q.2.1, by rw [← e.1]; exact q.2.2.1, q.2.2.2.1, q.2.2.2.2⟩ z, fun _ => ⟨?_, ht⟩⟩
    have := e.2 (i * 3 + w) (by omega) (by omega)
    rw [show s * 48 + i * 3 + w = s * 48 + (i * 3 + w) by omega, this, show 48 * s + (i * 3 + w) = 3 * (16 * s + i) + w by omega]
theorem sim_feels {σ : Mem} (h : RR σ) {c p w : Int} (hc : InR c) (hp : InR p) (hw : InR w) : w_X11_feels [(27, 0), (0, c), (0, p), (0, w)] σ (fun r τ => w_X12_feels [(28, 5000), (0, c), (0, p), (0, w)] τ (sQ r)) := by
  have ht := RR_th h
  have n := RR_cnt h
  rw [w_X11_feels_e]
  refine ⟨hc, hp, hw, RR_xS h, fun q => ?_, fun q τ hS => ?_⟩ <;> rw [n.1, n.2.1] at q <;> rw [w_X12_feels_e]
  · exact ⟨hc, hp, hw, RR_mX h, fun _ => ⟨rfl, ht⟩, fun z => absurd z q⟩
  · obtain ⟨hr, eH, eA, hx, o⟩ := RR_q h (SW_SA hS)
    have k5 : τ 5000 = σ 5000 := hS.1 5000 (by decide) (by decide) (by decide) (by decide) (by decide) (by decide) (by decide) (by decide) (by decide) (by decide) (by decide) (by decide)
    have t5 : ∀ x, x ≠ 0 → th0 τ 5000 x = σ 5000 x := fun x hx => by rw [th_k τ hx, k5]
    refine ⟨hc, hp, hw, RR_mX hr, fun z => absurd (by rw [k5]; exact q) z, fun _ υ a b => ⟨?_, RR_QF (QF_tr (QF_th τ) (QF_PF a)) b hr⟩⟩
    obtain ⟨e1, e2⟩ := play_eq eH eA hx q.2.2.1 (by rw [t5 28 (by decide)]; exact q.2.2.2.1) q.1 (by rw [t5 29 (by decide)]; exact q.2.1)
    rw [e1, e2]
theorem sim_odds {σ : Mem} (h : RR σ) {c p w : Int} (hc : InR c) (hp : InR p) (hw : InR w) : w_X11_odds [(27, 0), (0, c), (0, p), (0, w)] σ (fun r τ => w_X12_odds [(28, 5000), (0, c), (0, p), (0, w)] τ (sQ r)) := by
  have ht := RR_th h
  have n := RR_cnt h
  rw [w_X11_odds_e]
  refine ⟨hc, hp, hw, RR_xS h, fun q => ?_, fun q τ hS => ?_⟩ <;> rw [n.1, n.2.1] at q <;> rw [w_X12_odds_e]
  · exact ⟨hc, hp, hw, RR_mX h, fun _ => ⟨rfl, ht⟩, fun z => absurd z q⟩
  · obtain ⟨hr, eH, eA, hx, o⟩ := RR_q h (SW_SA hS)
    have k5 : τ 5000 = σ 5000 := hS.1 5000 (by decide) (by decide) (by decide) (by decide) (by decide) (by decide) (by decide) (by decide) (by decide) (by decide) (by decide) (by decide)
    have t5 : ∀ x, x ≠ 0 → th0 τ 5000 x = σ 5000 x := fun x hx => by rw [th_k τ hx, k5]
    refine ⟨hc, hp, hw, RR_mX hr, fun z => absurd (by rw [k5]; exact q) z, fun _ υ a b => ⟨?_, RR_QF (QF_tr (QF_th τ) (QF_PF a)) b hr⟩⟩
    obtain ⟨e1, e2⟩ := play_eq eH eA hx q.2.2.1 (by rw [t5 28 (by decide)]; exact q.2.2.2.1) q.1 (by rw [t5 29 (by decide)]; exact q.2.1)
    rw [e1, e2]
theorem sim_first {σ : Mem} (h : RR σ) {p : Int} (hp : InR p) : w_X11_first [(27, 0), (0, p)] σ (fun r τ => w_X12_first [(28, 5000), (0, p)] τ (sQ r)) := by
  have ht := RR_th h
  have n := RR_cnt h
  have nn := RR_n h
  rw [w_X11_first_e]
  refine ⟨hp, RR_xS h, fun q => ?_, fun q τ hS => ?_⟩ <;> rw [n.1] at q <;> rw [w_X12_first_e]
  · exact ⟨hp, RR_mX h, fun _ => ⟨rfl, ht⟩, fun z => absurd z q⟩
  · obtain ⟨hr, eH, eA, hx, o⟩ := RR_q h (SW_SA hS)
    have k5 : τ 5000 = σ 5000 := hS.1 5000 (by decide) (by decide) (by decide) (by decide) (by decide) (by decide) (by decide) (by decide) (by decide) (by decide) (by decide) (by decide)
    have t5 : ∀ x, x ≠ 0 → th0 τ 5000 x = σ 5000 x := fun x hx => by rw [th_k τ hx, k5]
    refine ⟨hp, RR_mX hr, fun z => absurd (by rw [k5]; exact q) z, fun _ υ a b => ⟨?_, RR_QF (QF_tr (QF_th τ) (QF_PF a)) b hr⟩⟩
    rw [k5, n.2.1, fstO_c (fun i i0 i1 => (play_eq eH eA hx q.1 (by rw [t5 28 (by decide)]; exact q.2) i0 (by rw [t5 29 (by decide)]; omega)).2)]
theorem sim_halves {σ : Mem} (h : RR σ) {p s i : Int} (hp : InR p) (hs : InR s) (hi : InR i) : w_X11_halves [(27, 0), (0, p), (0, s), (0, i)] σ (fun r τ => w_X12_halves [(28, 5000), (0, p), (0, s), (0, i)] τ (sQ r)) := by
  have ht := RR_th h
  have n := RR_cnt h
  have nn := RR_n h
  rw [w_X11_halves_e]
  refine ⟨hp, hs, hi, RR_xS h, fun q => ?_, fun q τ hS => ?_⟩ <;> rw [n.1] at q <;> rw [w_X12_halves_e]
  · exact ⟨hp, hs, hi, RR_mX h, fun _ => ⟨rfl, ht⟩, fun z => absurd z q⟩
  · obtain ⟨hr, eH, eA, hx, o⟩ := RR_q h (SW_SA hS)
    have k5 : τ 5000 = σ 5000 := hS.1 5000 (by decide) (by decide) (by decide) (by decide) (by decide) (by decide) (by decide) (by decide) (by decide) (by decide) (by decide) (by decide)
    have t5 : ∀ x, x ≠ 0 → th0 τ 5000 x = σ 5000 x := fun x hx => by rw [th_k τ hx, k5]
    refine ⟨hp, hs, hi, RR_mX hr, fun z => absurd (by rw [k5]; exact q) z, fun _ υ a b => ⟨?_, RR_QF (QF_tr (QF_th τ) (QF_PF a)) b hr⟩⟩
    have em : mMi τ p = mMi (th0 τ) p := by unfold mMi; rw [th_o τ (by decide)]
    rw [k5, n.2.1, em, halves_eq (n := (σ 5000 29).toNat) (by omega) (fun c c0 c1 => (play_eq eH eA hx q.1 (by rw [t5 28 (by decide)]; exact q.2.1) c0 (by rw [t5 29 (by decide)]; omega)).1)]
theorem sim_meant {σ : Mem} (h : RR σ) {p w : Int} (hp : InR p) (hw : InR w) : w_X11_meant [(27, 0), (0, p), (0, w)] σ (fun r τ => w_X12_meant [(28, 5000), (0, p), (0, w)] τ (sQ r)) := by
  have ht := RR_th h
  have n := RR_cnt h
  have nn := RR_n h
  have e := RR_eqH h
  rw [w_X11_meant_e]
  refine ⟨hp, hw, RR_xS h, fun q => ?_, fun q τ hS => ?_⟩ <;> rw [n.1] at q <;> rw [w_X12_meant_e]
  · refine ⟨hp, hw, RR_mX h, fun _ => ⟨rfl, ht⟩, fun z => absurd ⟨z.1, z.2.1, z.2.2.1, ?_⟩ q⟩
    rw [e.2.2.2.2.1 p 3 z.1 z.2.1 (by decide) (by decide)]; exact z.2.2.2
  · obtain ⟨hr, eH, eA, hx, o⟩ := RR_q h (SW_SA hS)
    have k5 : τ 5000 = σ 5000 := hS.1 5000 (by decide) (by decide) (by decide) (by decide) (by decide) (by decide) (by decide) (by decide) (by decide) (by decide) (by decide) (by decide)
    have k7 : τ 5007 = σ 5007 := hS.1 5007 (by decide) (by decide) (by decide) (by decide) (by decide) (by decide) (by decide) (by decide) (by decide) (by decide) (by decide) (by decide)
    have t5 : ∀ x, x ≠ 0 → th0 τ 5000 x = σ 5000 x := fun x hx => by rw [th_k τ hx, k5]
    have e3 := e.2.2.2.2.1 p 3 q.1 q.2.1 (by decide) (by decide)
    rw [e3] at q
    have hN : ∀ υ, NF (th0 τ) υ → QF τ υ := fun υ a => QF_tr (QF_th τ) ⟨fun b h1 h2 h3 h4 => a.1 b h1 h2 (by omega) (by omega) (by omega) (by omega), fun k a1 a2 a3 a4 a5 a6 a7 => a.2 k a2 a3 a4⟩
    refine ⟨hp, hw, RR_mX hr, fun z => absurd (by rw [k5, k7]; exact q) z, fun _ υ a b => ⟨?_, RR_QF (hN υ a) b hr⟩⟩
    have m9 := mMi_9 hx q.1 (by rw [t5 28 (by decide)]; exact q.2.1)
    rw [th_o τ (by decide), k7] at m9
    obtain ⟨N, hNn⟩ : ∃ N : Nat, σ 5000 29 = N := ⟨(σ 5000 29).toNat, by omega⟩
    have ev : ∀ c : Int, 0 ≤ c → c < N → mnV σ p w c = mMn (th0 τ) 5015 p w 0 c := by
      intro c c0 c1
      have ec := eA.1 c c0 (by rw [t5 29 (by decide)]; omega)
      have rx := hx.2.2.1 c c0 (by rw [t5 29 (by decide)]; omega)
      rw [t5 30 (by decide)] at rx
      have hb := hbits_64 (σ 18) (σ 18 c) (n := N) (by omega)
      have hbit : ∀ d : Int, 0 ≤ d → d < 6 → bt (hbits (σ 18) (σ 18 c) N) d = if d < N ∧ th0 τ 5015 (4 * d + 1) = th0 τ 5015 (4 * c + 1) ∧ bt 0 d = 0 then 1 else 0 := by
        intro d d0 d1
        rw [hbits_bit _ _ d0 d1 (by omega)]
        by_cases y : d < N
        · rw [(show σ 18 d = _ from (eA.1 d d0 (by rw [t5 29 (by decide)]; omega)).2), (show σ 18 c = _ from ec.2)]
          by_cases y2 : th0 τ 5015 (4 * d + 1) = th0 τ 5015 (4 * c + 1)
          · rw [if_pos ⟨y, y2⟩, if_pos ⟨y, y2, bt_0 d⟩]
          · rw [if_neg (fun z => y2 z.2), if_neg (fun z => y2 z.2.1)]
        · rw [if_neg (fun z => y z.1), if_neg (fun z => y z.1)]
      have hpc := pop_shC (s := th0 τ 5015) (o := 0) (t := th0 τ 5015 (4 * c + 1)) hb.1 hb.2 (n := N) (by omega) hbit
      have h1 := popc_bit hb.1 hb.2 c0 (by omega) (show bt (hbits (σ 18) (σ 18 c) N) c = 1 by rw [hbit c c0 (by omega), if_pos ⟨c1, rfl, bt_0 c⟩])
      have h6 := (popc_b (hbits (σ 18) (σ 18 c) N)).2
      have gm := gmv_mR (k := w.toNat) eH eA.2.1 eA.2.2 hx q.1 (by rw [t5 28 (by decide)]; exact q.2.1) (t := th0 τ 5015 (4 * c + 1)) (by omega) (by rw [t5 30 (by decide)]; omega) c0 (by rw [t5 29 (by decide)]; omega) ec.1 h1 h6 (by omega)
      rw [show ((w.toNat : Nat) : Int) = w by omega] at gm
      unfold mnV
      rw [n.2.1, hNn, Int.toNat_natCast]
      unfold mMn
      rw [t5 29 (by decide), hNn, Int.toNat_natCast, ← hpc, (show σ 18 c = _ from ec.2)] at *
      rw [gm]
      by_cases y : bt (th0 τ 5015 24) (th0 τ 5015 (4 * c + 1)) = 1
      · rw [if_pos y, if_pos (Or.inr y)]
      · rw [if_neg y, if_neg (fun z => z.elim (fun z => by rw [bt_0] at z; omega) y)]
    rw [k5, n.2.1, hNn, Int.toNat_natCast, sumC_cong (fun c c0 c1 => ev c c0 c1)]
    have sb : 0 ≤ sumC (mnV σ p w) N := (sumC_b (c := 99) (fun c c0 c1 => mnV_b (RR_plan h).1 c0 (by rw [n.2.1]; omega))).1
    rw [sumC_cong (fun c c0 c1 => ev c c0 c1)] at sb
    rw [meant_eq (n := N) (by omega) ev (by rw [sumC_cong (fun c c0 c1 => ev c c0 c1)]; omega)]
theorem sim_hardens {σ : Mem} (h : RR σ) {c p : Int} (hc : InR c) (hp : InR p) : w_X11_hardens [(27, 0), (0, c), (0, p)] σ (fun r τ => w_X12_hardens [(28, 5000), (0, c), (0, p)] τ (sQ r)) := by
  have ht := RR_th h
  have n := RR_cnt h
  rw [w_X11_hardens_e]
  refine ⟨hc, hp, RR_xS h, fun q => ?_, fun q τ hS => ?_⟩ <;> rw [n.1, n.2.1] at q <;> rw [w_X12_hardens_e]
  · exact ⟨hc, hp, RR_mX h, fun _ => ⟨rfl, ht⟩, fun z => absurd z q⟩
  · have hr := RR_SA hS h
    have qq : ∀ b, 111 < b → τ b = σ b := fun b hb => hS.1 b (by omega) (by omega) (by omega) (by omega) (by omega) (by omega) (by omega) (by omega)
    have k5 := qq 5000 (by decide)
    have eH : eqH σ τ := eqH_m (fun x _ => by rw [k5]) (fun b hb => qq b (by omega)) (RR_eqH h)
    have eA : eqA σ τ 16 5015 := by
      have := RR_eqA h
      unfold eqA at *
      rw [k5, qq 5015 (by decide)]; exact this
    refine ⟨hc, hp, RR_mX hr, fun z => absurd (by rw [k5]; exact q) z, fun _ υ a b => ⟨?_, RR_QF a b hr⟩⟩
    rw [hard_eq eH eA (RR_mX hr) (RR_lawOk h) q.1 (by rw [k5]; exact q.2.1) q.2.2.1 (by rw [k5]; exact q.2.2.2)]
theorem sim_whose {σ : Mem} (h : RR σ) {c : Int} (hc : InR c) : w_X11_whose [(27, 0), (0, c)] σ (fun r τ => w_X12_whose [(28, 5000), (0, c)] τ (sQ r)) := by
  have ht := RR_th h
  have n := RR_cnt h
  rw [w_X11_whose_e]
  refine ⟨hc, RR_xS h, RR_clu h, fun q => ?_, fun q τ hS => ?_⟩ <;> rw [n.2.1] at q <;> rw [w_X12_whose_e]
  · exact ⟨hc, RR_mX h, h.2.2.2.2.1.1, fun _ => ⟨rfl, ht⟩, fun z => absurd z q⟩
  · obtain ⟨hr, eH, eA, hx, o⟩ := RR_q h (SW_SA hS)
    have k5 : τ 5000 = σ 5000 := hS.1 5000 (by decide) (by decide) (by decide) (by decide) (by decide) (by decide) (by decide) (by decide) (by decide) (by decide) (by decide) (by decide)
    have t5 : ∀ x, x ≠ 0 → th0 τ 5000 x = σ 5000 x := fun x hx => by rw [th_k τ hx, k5]
    have hrt := RR_th hr
    have eW : eqW σ (th0 τ) := by
      have := h.2.2.2.2.1.2
      unfold eqW at *
      rw [t5 53 (by decide), t5 29 (by decide), t5 28 (by decide), o 5024 (by decide) (by decide)]; exact this
    have hWQ : ∀ υ, WF (th0 τ) υ → QF τ υ := fun υ a => QF_tr (QF_th τ) ⟨fun b h1 h2 h3 h4 => a.1 b h1 h2 (by omega) (by omega), fun k a1 a2 a3 a4 a5 a6 a7 => a.2 k a2 a3 a4⟩
    refine ⟨hc, RR_mX hr, hr.2.2.2.2.1.1, fun z => absurd (by rw [k5]; exact q) z, fun _ υ a b => ⟨?_, RR_QF (hWQ υ a) b hr⟩⟩
    rw [sus_eq eH eA hx eW hrt.2.2.2.2.1.1 q.1 (by rw [t5 29 (by decide)]; exact q.2), t5 30 (by decide), k5]
theorem sim_following {σ : Mem} (h : RR σ) {c v : Int} (hc : InR c) (hv : InR v) : w_X11_following [(27, 0), (0, c), (0, v)] σ (fun r τ => w_X12_following [(28, 5000), (0, c), (0, v)] τ (sQ r)) := by
  have ht := RR_th h
  have n := RR_cnt h
  have nn := RR_n h
  rw [w_X11_following_e]
  refine ⟨hc, hv, RR_xS h, RR_clu h, fun q => ?_, fun q τ hS => ?_⟩ <;> rw [n.2.1] at q <;> rw [w_X12_following_e]
  · exact ⟨hc, hv, RR_mX h, h.2.2.2.2.1.1, fun _ => ⟨rfl, ht⟩, fun z => absurd z q⟩
  · obtain ⟨hr, eH, eA, hx, o⟩ := RR_q h (SW_SA hS)
    have k5 : τ 5000 = σ 5000 := hS.1 5000 (by decide) (by decide) (by decide) (by decide) (by decide) (by decide) (by decide) (by decide) (by decide) (by decide) (by decide) (by decide)
    have t5 : ∀ x, x ≠ 0 → th0 τ 5000 x = σ 5000 x := fun x hx => by rw [th_k τ hx, k5]
    have hrt := RR_th hr
    have eW : eqW σ (th0 τ) := by
      have := h.2.2.2.2.1.2
      unfold eqW at *
      rw [t5 53 (by decide), t5 29 (by decide), t5 28 (by decide), o 5024 (by decide) (by decide)]; exact this
    have hWQ : ∀ υ, WF (th0 τ) υ → QF τ υ := fun υ a => QF_tr (QF_th τ) ⟨fun b h1 h2 h3 h4 => a.1 b h1 h2 (by omega) (by omega), fun k a1 a2 a3 a4 a5 a6 a7 => a.2 k a2 a3 a4⟩
    refine ⟨hc, hv, RR_mX hr, hr.2.2.2.2.1.1, fun z => absurd (by rw [k5]; exact q) z, fun _ υ a b => ⟨?_, RR_QF (hWQ υ a) b hr⟩⟩
    have es := sus_eq eH eA hx eW hrt.2.2.2.2.1.1 q.1 (by rw [t5 29 (by decide)]; exact q.2.1)
    have g6 := gb_64 (fiB (th0 τ) c) (n := (th0 τ 5000 30).toNat) (by rw [t5 30 (by decide)]; omega)
    have hz : ∀ i : Int, th0 τ 5000 30 ≤ i → i < 6 → bt (gb (fiB (th0 τ) c) (th0 τ 5000 30).toNat) i = 0 := fun i i0 i1 => by
      rw [t5 30 (by decide)] at i0 ⊢
      rw [gb_bit _ (by omega) i1 _ (by omega), if_neg (by omega)]
    rw [es, foll_eq eH eA hx q.1 (by rw [t5 29 (by decide)]; exact q.2.1) hz, t5 30 (by decide), t5 28 (by decide), k5]
theorem sim_game {σ : Mem} (h : RR σ) {o r p x y w : Int} (ho : InR o) (hr' : InR r) (hp : InR p) (hx' : InR x) (hy : InR y) (hw : InR w) : w_X11_game [(27, 0), (0, o), (0, r), (0, p), (0, x), (0, y), (0, w)] σ (fun a τ => w_X12_game [(28, 5000), (0, o), (0, r), (0, p), (0, x), (0, y), (0, w)] τ (sQ a)) := by
  have ht := RR_th h
  have n := RR_cnt h
  rw [w_X11_game_e]
  refine ⟨ho, hr', hp, hx', hy, hw, RR_xS h, fun q => ?_, fun q τ hS hg => ?_⟩ <;> rw [n.1, n.2.1, n.2.2] at q <;> rw [w_X12_game_e]
  · exact ⟨ho, hr', hp, hx', hy, hw, RR_mX h, fun _ => ⟨rfl, ht⟩, fun z => absurd z q⟩
  · obtain ⟨hr, eH, eA, hx, oo⟩ := RR_q h (SW_SA hS)
    have k5 : τ 5000 = σ 5000 := hS.1 5000 (by decide) (by decide) (by decide) (by decide) (by decide) (by decide) (by decide) (by decide) (by decide) (by decide) (by decide) (by decide)
    have t5 : ∀ x, x ≠ 0 → th0 τ 5000 x = σ 5000 x := fun x hx => by rw [th_k τ hx, k5]
    have a5 : σ 16 5 = th0 τ 5015 25 := by rw [oo 5015 (by decide) (by decide)]; exact (RR_now h).2.1.2.1
    rw [n.2.2, ← t5 30 (by decide)] at hg
    have q' := q
    rw [← t5 28 (by decide), ← t5 29 (by decide), ← t5 30 (by decide)] at q'
    refine ⟨ho, hr', hp, hx', hy, hw, RR_mX hr, fun z => absurd (by unfold gmP; rw [k5]; exact q) z, fun _ υ a b => ⟨?_, RR_QF a b hr⟩⟩
    obtain ⟨e1, e2⟩ := gnF_eq eH eA a5 hx q'.1.1 q'.1.2.1 q'.1.2.2.1 q'.1.2.2.2.1 q'.1.2.2.2.2 hg q'.2.1 q'.2.2.1
    have : w = 0 ∨ w = 1 := by omega
    rcases this with e | e <;> rw [e]
    · rw [if_pos rfl, e1]
    · rw [if_neg (by decide), e2]
theorem sim_rests {σ : Mem} (h : RR σ) {o r p i : Int} (ho : InR o) (hr' : InR r) (hp : InR p) (hi : InR i) : w_X11_rests [(27, 0), (0, o), (0, r), (0, p), (0, i)] σ (fun a τ => w_X12_rests [(28, 5000), (0, o), (0, r), (0, p), (0, i)] τ (sQ a)) := by
  have ht := RR_th h
  have n := RR_cnt h
  have nw := RR_now h
  have p30 := nw.2.2.1.2.2.1
  rw [w_X11_rests_e]
  refine ⟨ho, hr', hp, hi, RR_xS h, by rw [nw.2.1.2.1]; omega, fun q => ?_, fun q τ hS hg => ?_⟩ <;> rw [n.1, n.2.1] at q <;> rw [w_X12_rests_e]
  · exact ⟨ho, hr', hp, hi, RR_mX h, fun _ => ⟨rfl, ht⟩, fun z => absurd z q⟩
  · have hr := RR_SA (SW_SA hS) h
    have qq : ∀ b, 111 < b → τ b = σ b := fun b hb => hS.1 b (by omega) (by omega) (by omega) (by omega) (by omega) (by omega) (by omega) (by omega) (by omega) (by omega) (by omega) (by omega)
    have k5 := qq 5000 (by decide)
    have eH : eqH σ τ := eqH_m (fun x _ => by rw [k5]) (fun b hb => qq b (by omega)) (RR_eqH h)
    have eA : eqA σ τ 16 5015 := by
      have := RR_eqA h
      unfold eqA at *
      rw [k5, qq 5015 (by decide)]; exact this
    have a5 : σ 16 5 = τ 5015 25 := by rw [qq 5015 (by decide)]; exact nw.2.1.2.1
    have k30 : τ 5000 30 = σ 5000 30 := by rw [k5]
    rw [n.2.2, ← k30] at hg
    have q' := q
    rw [← k5] at q'
    refine ⟨ho, hr', hp, hi, RR_mX hr, fun z => absurd (by unfold gmP; exact q') z, fun _ υ a b => ⟨?_, RR_QF a b hr⟩⟩
    rw [n.2.2, ← k30, rests_eq eH eA a5 (RR_mX hr) q'.1.1 q'.1.2.1 q'.1.2.2.1 q'.1.2.2.2.1 q'.1.2.2.2.2 hg i]
/-! questions, the rest -/
theorem sim_tickets {σ : Mem} (h : RR σ) {p v w : Int} (hp : InR p) (hv : InR v) (hw : InR w) : w_X11_tickets [(27, 0), (0, p), (0, v), (0, w)] σ (fun r τ => w_X12_tickets (σ 5000 29).toNat [(28, 5000), (0, p), (0, v), (0, w)] τ (sQ r)) := by
  have ht := RR_th h
  have n := RR_cnt h
  have nn := RR_n h
  have hh := h.2.1.2.2.2.2.2.2.2
  rw [w_X11_tickets_e]
  refine ⟨hp, hv, hw, RR_xS h, fun z => ?_, fun q => ?_, fun q τ B hS hD => ?_⟩
  · rw [n.1] at z
    rw [n.2.1]
    refine Classical.byContradiction (fun y => ?_)
    have := hh.2.1 (by omega)
    omega
  · rw [n.1] at q
    rw [w_X12_tickets_e]
    exact ⟨hp, hv, hw, RR_mX h, by omega, fun _ => ⟨rfl, ht⟩, fun z => absurd z q⟩
  · rw [n.1] at q
    obtain ⟨hr, eH, eA, hx, o⟩ := RR_q h (SW_SA hS)
    have k5 : τ 5000 = σ 5000 := hS.1 5000 (by decide) (by decide) (by decide) (by decide) (by decide) (by decide) (by decide) (by decide) (by decide) (by decide) (by decide) (by decide)
    have t5 : ∀ x, x ≠ 0 → th0 τ 5000 x = σ 5000 x := fun x hx => by rw [th_k τ hx, k5]
    obtain ⟨N, hN⟩ : ∃ N : Nat, σ 5000 29 = N := ⟨(σ 5000 29).toNat, by omega⟩
    have N1 : 1 ≤ N := by
      refine Classical.byContradiction (fun y => ?_)
      have := hh.2.1 (by omega)
      omega
    rw [n.2.1, n.2.2, hN, Int.toNat_natCast] at hD
    obtain ⟨e1, e2⟩ := tick_eq eH eA hx (RR_plan h).1 q.1 (by rw [t5 28 (by decide)]; exact q.2.1) q.2.2.1 (n := N) (by rw [t5 29 (by decide)]; exact hN) N1 (by rw [t5 30 (by decide)]; exact hD)
    rw [n.2.1, hN, Int.toNat_natCast]
    refine ⟨e2, ?_⟩
    rw [w_X12_tickets_e]
    refine ⟨hp, hv, hw, RR_mX hr, by rw [k5]; exact hN, fun z => absurd (by rw [k5]; exact q) z, fun _ υ a b => ⟨?_, RR_QF a b hr⟩⟩
    rw [show τ 5015 = th0 τ 5015 from (th_o τ (by decide)).symm, e1]
    by_cases y : 1152921504606846976 ≤ B (2 ^ N - 1)
    · rw [if_pos y, if_pos y]; split <;> rfl
    · rw [if_neg y, if_neg y]
theorem sim_most {σ : Mem} (h : RR σ) {p w : Int} (hp : InR p) (hw : InR w) : w_X11_most [(27, 0), (0, p), (0, w)] σ (fun r τ => w_X12_most (σ 5000 29).toNat [(28, 5000), (0, p), (0, w)] τ (sQ r)) := by
  have ht := RR_th h
  have n := RR_cnt h
  have nn := RR_n h
  have hh := h.2.1.2.2.2.2.2.2.2
  rw [w_X11_most_e]
  refine ⟨hp, hw, RR_xS h, fun z => ?_, fun q => ?_, fun q τ B hS hD => ?_⟩
  · rw [n.1] at z
    rw [n.2.1]
    refine Classical.byContradiction (fun y => ?_)
    have := hh.2.1 (by omega)
    omega
  · rw [n.1] at q
    rw [w_X12_most_e]
    exact ⟨hp, hw, RR_mX h, by omega, fun _ => ⟨rfl, ht⟩, fun z => absurd z q⟩
  · rw [n.1] at q
    obtain ⟨hr, eH, eA, hx, o⟩ := RR_q h (SW_SA hS)
    have k5 : τ 5000 = σ 5000 := hS.1 5000 (by decide) (by decide) (by decide) (by decide) (by decide) (by decide) (by decide) (by decide) (by decide) (by decide) (by decide) (by decide)
    have t5 : ∀ x, x ≠ 0 → th0 τ 5000 x = σ 5000 x := fun x hx => by rw [th_k τ hx, k5]
    obtain ⟨N, hN⟩ : ∃ N : Nat, σ 5000 29 = N := ⟨(σ 5000 29).toNat, by omega⟩
    have N1 : 1 ≤ N := by
      refine Classical.byContradiction (fun y => ?_)
      have := hh.2.1 (by omega)
      omega
    have S1 := (hh.1 (by omega)).2
    rw [n.2.1, n.2.2, hN, Int.toNat_natCast] at hD
    obtain ⟨e1, e2, e3⟩ := most_eq eH eA hx (RR_plan h).1 q.1 (by rw [t5 28 (by decide)]; exact q.2.1) (n := N) (by rw [t5 29 (by decide)]; exact hN) N1 (by rw [t5 30 (by decide)]; exact S1) (by rw [t5 30 (by decide)]; exact hD)
    rw [n.2.1, hN, Int.toNat_natCast]
    refine ⟨⟨e2, e3⟩, ?_⟩
    rw [w_X12_most_e]
    refine ⟨hp, hw, RR_mX hr, by rw [k5]; exact hN, fun z => absurd (by rw [k5]; exact q) z, fun _ υ a b => ⟨?_, RR_QF a b hr⟩⟩
    rw [show τ 5015 = th0 τ 5015 from (th_o τ (by decide)).symm, e1]
theorem sim_borne {σ : Mem} (h : RR σ) {N w : Int} (hN : InR N) (hw : InR w) : w_X11_borne [(27, 0), (0, N), (0, w)] σ (fun r τ => w_X12_borne (max 0 (min 4 N)).toNat [(28, 5000), (0, N), (0, w)] τ (sQ r)) := by
  have ht := RR_th h
  have n := RR_cnt h
  have nn := RR_n h
  have a := RR_now h
  have e26 : σ 5015 26 ≤ 1000 := by have := a.2.2.2.1; omega
  rw [w_X11_borne_e]
  have key : ∀ τ, SA σ τ → RR τ ∧ τ 5000 = σ 5000 ∧ eqH σ (th0 τ) ∧ eqA σ (th0 τ) 16 5015 ∧ mX (th0 τ) 5015 ∧ th0 τ 5015 = σ 5015 ∧ τ 5015 = σ 5015 := fun τ hS => by
    obtain ⟨hr, eH, eA, hx, o⟩ := RR_q h hS
    exact ⟨hr, hS.1 5000 (by decide) (by decide) (by decide) (by decide) (by decide) (by decide) (by decide) (by decide), eH, eA, hx, o 5015 (by decide) (by decide), hS.1 5015 (by decide) (by decide) (by decide) (by decide) (by decide) (by decide) (by decide) (by decide)⟩
  refine ⟨hN, hw, RR_xA h, by rw [a.2.1.2.2]; exact e26, fun q => ?_, fun q => ⟨fun k r m υ β hk hb hn hF hS => ?_, fun r m τ hb hS => ?_⟩⟩ <;> rw [n.2.1] at q <;> rw [w_X12_borne_e]
  · exact ⟨hN, hw, RR_mX h, e26, fun _ _ => by omega, fun _ => ⟨rfl, ht⟩, fun z => absurd ⟨by omega, z.2.1.1, z.2.1.2, z.2.2.1, z.2.2.2⟩ q⟩
  · obtain ⟨hr, k5, eH, eA, hx, t15, k15⟩ := key β hS
    refine ⟨hN, hw, RR_mX hr, by rw [k15]; exact e26, fun _ _ => by omega, fun z => absurd (by rw [k5]; exact ⟨by omega, ⟨by omega, by omega⟩, by omega, by omega⟩) z, fun _ υ' a' b' => ⟨?_, RR_QF a' b' hr⟩⟩
    have := borne_n eH eA hx (RR_lawOk h) (by rw [t15]; exact e26) (N := (max 0 (min 4 N)).toNat) (k := k) (by omega) (by omega) hb hn
    rw [t15] at this
    rw [k15, this]
    split <;> rfl
  · obtain ⟨hr, k5, eH, eA, hx, t15, k15⟩ := key τ hS
    refine ⟨hN, hw, RR_mX hr, by rw [k15]; exact e26, fun _ _ => by omega, fun z => absurd (by rw [k5]; exact ⟨by omega, ⟨by omega, by omega⟩, by omega, by omega⟩) z, fun _ υ' a' b' => ⟨?_, RR_QF a' b' hr⟩⟩
    have eN : N.toNat = (max 0 (min 4 N)).toNat := by omega
    rw [eN] at hb
    have := borne_y eH eA hx (RR_lawOk h) (by rw [t15]; exact e26) (N := (max 0 (min 4 N)).toNat) (by omega) hb
    rw [t15] at this
    rw [k15, this]
theorem sim_peak {σ : Mem} (h : RR σ) {p w : Int} (hp : InR p) (hw : InR w) : w_X11_peak [(27, 0), (0, p), (0, w)] σ (fun r τ => w_X12_peak [(28, 5000), (0, p), (0, w)] τ (sQ r)) := by
  have ht := RR_th h
  have n := RR_cnt h
  have e := RR_eqH h
  have pe : 0 ≤ p → p < σ 5000 28 → pmin σ 6 p = σ 5007 (4 * p + 3) ∧ ∀ k : Int, pfeel σ 6 p k = mfe σ p k := fun p0 p1 => by
    refine ⟨e.2.2.2.2.1 p 3 p0 p1 (by decide) (by decide), fun k => ?_⟩
    unfold pfeel mfe
    exact e.2.2.2.2.1 p (k % 3) p0 p1 (by omega) (by omega)
  rw [w_X11_peak_e]
  refine ⟨hp, hw, (RR_plan h).1, fun q => ?_, fun q1 q2 => ?_, fun q1 q2 => ?_⟩ <;> rw [w_X12_peak_e]
  · rw [n.1] at q
    exact ⟨hp, hw, RR_mX h, fun _ => ⟨rfl, ht⟩, fun z => by exfalso; omega, fun z => by exfalso; omega⟩
  · rw [n.1] at q1
    obtain ⟨e1, e2⟩ := pe q1.1 q1.2
    have m9 := mMi_9 (RR_mX h) q1.1 q1.2
    refine ⟨hp, hw, RR_mX h, fun z => by exfalso; omega, fun _ => ⟨?_, ht⟩, fun z => by exfalso; omega⟩
    rw [fbest_m _ m9.1, e1, (fbest_c (fun i _ _ => e2 i)).1]
  · rw [n.1] at q1
    obtain ⟨e1, e2⟩ := pe q1.1 q1.2
    refine ⟨hp, hw, RR_mX h, fun z => by exfalso; omega, fun z => by exfalso; omega, fun _ => ⟨?_, ht⟩⟩
    rw [e1, fsum_c (fun i _ _ => e2 i)]
theorem RR_hb {σ : Mem} (h : RR σ) (t : Int) : hbits (σ 18) t (pcnt σ 6 2).toNat = hbits (tkN σ) t (σ 5000 29).toNat := by
  have n := RR_cnt h
  have a := RR_now h
  rw [n.2.1]
  exact hbits_c (fun c c0 c1 => by rw [(a.1 c c0 (by omega)).2.1])
theorem sim_house {σ : Mem} (h : RR σ) {t : Int} (hp : InR t) : w_X11_house [(27, 0), (0, t)] σ (fun r τ => w_X12_house [(28, 5000), (0, t)] τ (sQ r)) := by
  have ht := RR_th h
  have n := RR_cnt h
  have a := RR_now h
  rw [w_X11_house_e]
  refine ⟨hp, (RR_plan h).1, fun i i0 i1 => ?_, fun q => ?_, fun q => ?_⟩
  · have := (a.2.2.2.2 i i0 i1).2.1
    exact ⟨by omega, by omega⟩
  · rw [w_X12_house_e]
    rw [n.2.2] at q
    exact ⟨hp, RR_mX h, fun _ => ⟨rfl, ht⟩, fun z => absurd z q⟩
  · rw [w_X12_house_e]
    rw [n.2.2] at q
    exact ⟨hp, RR_mX h, fun z => absurd q z, fun _ => ⟨by rw [RR_hb h], ht⟩⟩
theorem sim_all {σ : Mem} (h : RR σ) {w : Int} (hw : InR w) : w_X11_all [(27, 0), (0, w)] σ (fun r τ => w_X12_all [(28, 5000), (0, w)] τ (sQ r)) := by
  have ht := RR_th h
  have n := RR_cnt h
  have nn := RR_n h
  have a := RR_now h
  have e := RR_eqH h
  have hh := h.2.1.2.2.2.2.2.2.2.1
  have p30 := a.2.2.1.2.2.1
  rw [w_X11_all_e]
  refine ⟨hw, (RR_plan h).1, by rw [a.2.1.2.1]; exact ⟨by omega, by omega⟩, fun i i0 i1 => ?_, fun i i0 i1 => ?_, fun i i0 i1 => ?_, fun i i0 i1 => ?_, fun q => ?_, fun q => ?_⟩
  · have := (a.2.2.2.2 i i0 i1).1
    exact ⟨by omega, by omega⟩
  · have := (a.2.2.2.2 i i0 i1).2.1
    exact ⟨by omega, by omega⟩
  · have := (a.2.2.2.2 i i0 i1).2.2.1
    exact ⟨by omega, by omega⟩
  · have := (a.2.2.2.2 i i0 i1).2.2.2
    exact ⟨by omega, by omega⟩
  · rw [w_X12_all_e]
    rw [n.2.1] at q
    exact ⟨hw, RR_mX h, fun _ => ⟨rfl, ht⟩, fun z => ⟨fun _ => by exfalso; omega, fun _ => by exfalso; omega, fun _ => by exfalso; omega, fun _ => by exfalso; omega, fun _ => by exfalso; omega, fun _ => by exfalso; omega, fun _ => by exfalso; omega, fun _ => by exfalso; omega⟩⟩
  · rw [n.2.1] at q
    have q0 := hh q
    have E : ∀ v, (0 ≤ w ∧ w ≤ 7) → (∀ x, x = v → True) → (w = 0 → (0, fbest (fun c => σ 5015 (4 * c + 0)) (max 1 (σ 5000 29)).toNat) = v) → (w = 1 → (0, fbest (fun c => σ 5015 (4 * c + 2)) (max 1 (σ 5000 29)).toNat) = v) → (w = 2 → (0, fbest (fun c => σ 5015 (4 * c + 3)) (max 1 (σ 5000 29)).toNat) = v) → (w = 3 → (0, fbest (σ 5011) (max 1 (σ 5000 30)).toNat) = v) → (w = 4 → (0, gb (sdB σ 0 0) (σ 5000 30).toNat) = v) → (w = 5 → (0, fbest (lnF σ) (max 1 (σ 5000 28)).toNat) = v) → (w = 6 → (0, gb (mnB σ) (σ 5000 29).toNat) = v) → (w = 7 → (0, gb (sdB σ 2 6) (σ 5000 30).toNat) = v) → w_X12_all [(28, 5000), (0, w)] σ (sQ v) := by
      intro v hr _ h0 h1 h2 h3 h4 h5 h6 h7
      rw [w_X12_all_e]
      exact ⟨hw, RR_mX h, fun z => by exfalso; omega, fun _ => ⟨fun z => ⟨h0 z, ht⟩, fun z => ⟨h1 z, ht⟩, fun z => ⟨h2 z, ht⟩, fun z => ⟨h3 z, ht⟩, fun z => ⟨h4 z, ht⟩, fun z => ⟨h5 z, ht⟩, fun z => ⟨h6 z, ht⟩, fun z => ⟨h7 z, ht⟩⟩⟩
    have sd : ∀ f g, gb (sdB σ f g) (σ 5000 30).toNat = gb (sldB (σ 18) (pcnt σ 6 2) f g) (pcnt σ 6 3).toNat := fun f g => by
      rw [n.2.2]
      refine gb_cong (fun t _ _ => ?_)
      unfold sdB sldB
      rw [RR_hb h]
    have bst : ∀ (f g : Int → Int), (∀ c, 0 ≤ c → c < σ 5000 29 → f c = g c) → fbest g (max 1 (σ 5000 29)).toNat = fbest f (pcnt σ 6 2).toNat := fun f g hfg => by
      rw [fbest_m _ nn.2.1.1, n.2.1, (fbest_c (fun i i0 i1 => hfg i i0 (by omega))).1]
    refine ⟨fun z => ?_, fun z => ?_, fun z => ?_, fun z => ?_, fun z => ?_, fun z => ?_, fun z => ?_, fun z => ?_⟩
    · refine E _ (by omega) (fun _ _ => trivial) (fun _ => ?_) (fun y => by omega) (fun y => by omega) (fun y => by omega) (fun y => by omega) (fun y => by omega) (fun y => by omega) (fun y => by omega)
      rw [bst (σ 17) _ (fun c c0 c1 => by rw [Int.add_zero]; exact (a.1 c c0 c1).1)]
    · refine E _ (by omega) (fun _ _ => trivial) (fun y => by omega) (fun _ => ?_) (fun y => by omega) (fun y => by omega) (fun y => by omega) (fun y => by omega) (fun y => by omega) (fun y => by omega)
      rw [bst (σ 19) _ (fun c c0 c1 => (a.1 c c0 c1).2.2.1)]
    · refine E _ (by omega) (fun _ _ => trivial) (fun y => by omega) (fun y => by omega) (fun _ => ?_) (fun y => by omega) (fun y => by omega) (fun y => by omega) (fun y => by omega) (fun y => by omega)
      rw [bst (σ 20) _ (fun c c0 c1 => (a.1 c c0 c1).2.2.2)]
    · refine E _ (by omega) (fun _ _ => trivial) (fun y => by omega) (fun y => by omega) (fun y => by omega) (fun _ => ?_) (fun y => by omega) (fun y => by omega) (fun y => by omega) (fun y => by omega)
      rw [n.2.2, (fbest_c (f := fun t => pval σ 6 3 t 0) (g := σ 5011) (n := (max 1 (σ 5000 30)).toNat) (fun i i0 i1 => e.2.2.2.2.2.1 i i0 (by omega))).1]
    · refine E _ (by omega) (fun _ _ => trivial) (fun y => by omega) (fun y => by omega) (fun y => by omega) (fun y => by omega) (fun _ => ?_) (fun y => by omega) (fun y => by omega) (fun y => by omega)
      rw [sd]
    · refine E _ (by omega) (fun _ _ => trivial) (fun y => by omega) (fun y => by omega) (fun y => by omega) (fun y => by omega) (fun y => by omega) (fun _ => ?_) (fun y => by omega) (fun y => by omega)
      have : fbest (lonF σ) (max 1 (σ 5000 28)).toNat = fbest (lnF σ) (max 1 (σ 5000 28)).toNat := (fbest_c (fun i i0 i1 => by
        have i2 : i < σ 5000 28 := by omega
        unfold lonF lnF
        rw [show pmin σ 6 i = σ 5007 (4 * i + 3) from e.2.2.2.2.1 i 3 i0 i2 (by decide) (by decide)]
        exact fsum_c (fun k _ _ => e.2.2.2.2.1 i (k % 3) i0 i2 (by omega) (by omega)))).1
      rw [n.1, this]
    · refine E _ (by omega) (fun _ _ => trivial) (fun y => by omega) (fun y => by omega) (fun y => by omega) (fun y => by omega) (fun y => by omega) (fun y => by omega) (fun _ => ?_) (fun y => by omega)
      have : gb (monB (σ 19) (σ 16 5)) (σ 5000 29).toNat = gb (mnB σ) (σ 5000 29).toNat := gb_cong (fun c c0 c1 => by
        unfold monB mnB
        rw [a.2.1.2.1, (a.1 c c0 (by omega)).2.2.1])
      rw [n.2.1, this]
    · refine E _ (by omega) (fun _ _ => trivial) (fun y => by omega) (fun y => by omega) (fun y => by omega) (fun y => by omega) (fun y => by omega) (fun y => by omega) (fun y => by omega) (fun _ => ?_)
      rw [sd]
theorem sim_count {σ : Mem} (h : RR σ) {w : Int} (hw : InR w) : w_X11_count [(27, 0), (0, w)] σ (fun r τ => w_X12_count [(28, 5000), (0, w)] τ (sQ r)) := by
  have ht := RR_th h
  have n := RR_cnt h
  have nn := RR_n h
  have a := RR_now h
  have W := RR_W h
  obtain ⟨⟨tt, t6, -⟩, -, ⟨l1, l2, -⟩, ⟨-, -, s3, -⟩, ⟨-, w1, -⟩, -, ⟨p1, -⟩, -, -, ⟨-, m2, -⟩, -⟩ := id h
  have E : ∀ v, (w = 0 → (0, σ 5000 29) = v) → (w = 1 → (0, σ 5000 30) = v) → (w = 2 → (0, σ 5000 28) = v) → (w = 3 → (0, σ 5000 7) = v) → (w = 4 → (0, σ 5000 34) = v) → (w = 5 → (0, σ 5000 6) = v) → (w = 6 → (0, σ 5000 38) = v) → (w = 7 → (0, σ 5015 26) = v) → (w = 8 → (0, sumC (fun c => σ 5015 (4 * c + 3)) (σ 5000 29).toNat) = v) → (w = 9 → (0, σ 5015 24) = v) → (w = 10 → (0, σ 5000 39) = v) → (w = 11 → (0, σ 5000 53) = v) → (w = 12 → (0, σ 5015 27) = v) → (w = 13 → (0, σ 5000 48) = v) → (w < 0 ∨ 13 < w → (0, -1000000) = v) → w_X12_count [(28, 5000), (0, w)] σ (sQ v) := by
    intro v h0 h1 h2 h3 h4 h5 h6 h7 h8 h9 h10 h11 h12 h13 h14
    rw [w_X12_count_e]
    exact ⟨hw, nn.2.1.1, nn.2.1.2, fun z => ⟨h0 z, ht⟩, fun z => ⟨h1 z, ht⟩, fun z => ⟨h2 z, ht⟩, fun z => ⟨h3 z, ht⟩, fun z => ⟨h4 z, ht⟩, fun z => ⟨h5 z, ht⟩, fun z => ⟨h6 z, ht⟩, fun z => ⟨h7 z, ht⟩, fun z => ⟨h8 z, ht⟩, fun z => ⟨h9 z, ht⟩, fun z => ⟨h10 z, ht⟩, fun z => ⟨h11 z, ht⟩, fun z => ⟨h12 z, ht⟩, fun z => ⟨h13 z, ht⟩, fun z => ⟨h14 z, ht⟩⟩
  have s8 : sumC (fun c => σ 5015 (4 * c + 3)) (σ 5000 29).toNat = sumC (σ 20) (pcnt σ 6 2).toNat := by
    rw [n.2.1]
    exact sumC_cong (fun c c0 c1 => ((a.1 c c0 (by omega)).2.2.2).symm)
  rw [w_X11_count_e]
  refine ⟨hw, (RR_plan h).1, ⟨by omega, by omega⟩, fun z => ?_, fun z => ?_, fun z => ?_, fun z => ?_, fun z => ?_, fun z => ?_, fun z => ?_, fun z => ?_, fun z => ?_, fun z => ?_, fun z => ?_, fun z => ?_, fun z => ?_, fun z => ?_, fun z => ?_⟩ <;> refine E _ (fun y => ?_) (fun y => ?_) (fun y => ?_) (fun y => ?_) (fun y => ?_) (fun y => ?_) (fun y => ?_) (fun y => ?_) (fun y => ?_) (fun y => ?_) (fun y => ?_) (fun y => ?_) (fun y => ?_) (fun y => ?_) (fun y => ?_)
  all_goals first | (exfalso; omega) | rw [n.2.1] | rw [n.2.2] | rw [n.1] | rw [l1] | rw [s3] | rw [t6] | rw [l2] | rw [a.2.1.2.2] | rw [s8] | rw [a.2.1.1] | rw [m2.1] | rw [w1] | rw [W.2.2] | rw [p1] | rfl
/-! ACTS side by side: what is remembered, EVENINGS -/
theorem rmM_33 (σ : Mem) (x : Int) : rmM σ 33 x = if x = σ 31 4 * 28 + 27 then σ 31 1 else if σ 31 4 * 28 ≤ x ∧ x < σ 31 4 * 28 + 27 then aud σ 16 (x - σ 31 4 * 28) else σ 33 x := by
  unfold rmM
  rw [up_na _ (by decide), up_na _ (by decide)]
  by_cases c : x = σ 31 4 * 28 + 27
  · rw [if_pos c, c, up_s]
  · rw [if_neg c, up_nj _ c]
    unfold savR
    by_cases d : σ 31 4 * 28 ≤ x ∧ x < σ 31 4 * 28 + 27
    · rw [if_pos d, if_pos ⟨rfl, d⟩]
    · rw [if_neg d, if_neg (fun z => d z.2)]
theorem rmM_31 (σ : Mem) : rmM σ 31 1 = σ 31 1 ∧ rmM σ 31 3 = min 40 (σ 31 3 + 1) ∧ rmM σ 31 4 = (σ 31 4 + 1) % 40 ∧ rmM σ 31 7 = σ 31 7 ∧ rmM σ 31 8 = σ 31 8 := by
  have s31 : ∀ x, savR σ 33 (σ 31 4 * 28) 31 x = σ 31 x := fun x => by unfold savR; rw [if_neg (fun z => absurd z.1 (by decide))]
  unfold rmM
  refine ⟨?_, ?_, ?_, ?_, ?_⟩
  · rw [up_nj _ (by decide), up_nj _ (by decide), up_na _ (by decide), s31]
  · rw [up_s]
  · rw [up_nj _ (by decide), up_s]
  · rw [up_nj _ (by decide), up_nj _ (by decide), up_na _ (by decide), s31]
  · rw [up_nj _ (by decide), up_nj _ (by decide), up_na _ (by decide), s31]
theorem rmb_48e {m : Mem} : rmb m 5000 48 = if m 5000 48 = 40 then 40 else m 5000 48 + 1 := by
  unfold rmb
  rw [up_s]
  unfold rm1
  by_cases c : m 5000 48 = 40
  · rw [if_pos c, if_pos c, up_s]; rfl
  · rw [if_neg c, if_neg c]
theorem rmb_23 {m : Mem} (h0 : 0 ≤ m 5000 48) (h1 : m 5000 48 ≤ 40) (x : Int) : rmb m 5023 x = if 208 * (rmb m 5000 48 - 1) ≤ x ∧ x < 208 * rmb m 5000 48 then m 5015 (x - 208 * (rmb m 5000 48 - 1)) else if m 5000 48 = 40 ∧ 0 ≤ x ∧ x < 8112 then m 5023 (208 + x) else m 5023 x := by
  rw [rmb_48e]
  unfold rmb
  rw [up_na _ (by decide)]
  unfold rm1
  by_cases c : m 5000 48 = 40
  · rw [if_pos c, if_pos c, up_s]
    unfold cpy
    by_cases d : 208 * (40 - 1) ≤ x ∧ x < 208 * 40
    · rw [if_pos d, if_pos ⟨rfl, by omega, by omega⟩, up_na _ (by decide), if_neg (fun z => absurd z.1 (by decide))]
      congr 1
      omega
    · rw [if_neg d, if_neg (fun z => d ⟨by omega, by omega⟩), up_na _ (by decide)]
      by_cases e : 0 ≤ x ∧ x < 8112
      · rw [if_pos ⟨rfl, by omega, by omega⟩, if_pos ⟨c, e⟩]
        congr 1
        omega
      · rw [if_neg (fun z => e ⟨by omega, by omega⟩), if_neg (fun z => e z.2)]
  · rw [if_neg c, if_neg c]
    unfold cpy
    by_cases d : 208 * (m 5000 48 + 1 - 1) ≤ x ∧ x < 208 * (m 5000 48 + 1)
    · rw [if_pos d, if_pos ⟨rfl, by omega, by omega⟩]
      congr 1
      omega
    · rw [if_neg d, if_neg (fun z => d ⟨by omega, by omega⟩), if_neg (fun z => c z.1)]
/-- an ACT is remembered -/
theorem past_push {σ m υ μ : Mem} (hn : nowR σ m) (hp : pastR σ m) (n6 : m 5000 29 ≤ 6) (h31 : ∀ k, k = 1 ∨ k = 3 ∨ k = 4 → υ 31 k = rmM σ 31 k) (h32 : υ 32 = σ 32) (h33 : υ 33 = rmM σ 33) (hk : μ 5000 29 = m 5000 29 ∧ μ 5000 30 = m 5000 30) (h48 : μ 5000 48 = rmb m 5000 48) (h23 : μ 5023 = rmb m 5023) : pastR υ μ ∧ wrS υ 1 = υ 31 1 := by
  obtain ⟨p1, p2, p3, p4, p5⟩ := hp
  have r31 := rmM_31 σ
  have e48 := rmb_48e (m := m)
  have u1 : υ 31 1 = σ 31 1 := by rw [h31 1 (by decide)]; exact r31.1
  have u3 : υ 31 3 = min 40 (σ 31 3 + 1) := by rw [h31 3 (by decide)]; exact r31.2.1
  have u4 : υ 31 4 = (σ 31 4 + 1) % 40 := by rw [h31 4 (by decide)]; exact r31.2.2.1
  have A1 : (m 5000 48 = 40 ∧ μ 5000 48 = 40) ∨ (m 5000 48 < 40 ∧ μ 5000 48 = m 5000 48 + 1) := by
    rw [h48, e48]
    by_cases c : m 5000 48 = 40
    · left; exact ⟨c, if_pos c⟩
    · right; exact ⟨by omega, if_neg c⟩
  have f1 : ∀ k, 0 ≤ k → k < 27 → acF υ 1 k = aud σ 16 k := fun k k0 k1 => by
    show υ 33 ((υ 31 4 - 1) % 40 * 28 + k) = _
    rw [u4, h33, rmM_33, show ((σ 31 4 + 1) % 40 - 1) % 40 = σ 31 4 by omega, if_neg (by omega), if_pos (by omega)]
    congr 1
    omega
  have fw : υ 33 ((υ 31 4 - 1) % 40 * 28 + 27) = σ 31 1 := by
    rw [u4, h33, rmM_33, show ((σ 31 4 + 1) % 40 - 1) % 40 = σ 31 4 by omega, if_pos rfl]
  have m1 : ∀ q, 0 ≤ q → q < 208 → acM μ 1 q = m 5015 q := fun q q0 q1 => by
    show μ 5023 (208 * (μ 5000 48 - 1) + q) = _
    rw [h23, rmb_23 p3.1 p3.2, ← h48, if_pos (by omega)]
    congr 1
    omega
  have fj : ∀ j, 2 ≤ j → j ≤ μ 5000 48 → ∀ k, 0 ≤ k → k < 28 → acF υ j k = acF σ (j - 1) k := fun j j0 j1 k k0 k1 => by
    show υ 33 ((υ 31 4 - j) % 40 * 28 + k) = σ 33 ((σ 31 4 - (j - 1)) % 40 * 28 + k)
    rw [u4, h33, rmM_33, show ((σ 31 4 + 1) % 40 - j) % 40 = (σ 31 4 - (j - 1)) % 40 by omega, if_neg (by omega), if_neg (by omega)]
  have mj : ∀ j, 2 ≤ j → j ≤ μ 5000 48 → ∀ q, 0 ≤ q → q < 208 → acM μ j q = acM m (j - 1) q := fun j j0 j1 q q0 q1 => by
    show μ 5023 (208 * (μ 5000 48 - j) + q) = m 5023 (208 * (m 5000 48 - (j - 1)) + q)
    rw [h23, rmb_23 p3.1 p3.2, ← h48, if_neg (by omega)]
    rcases A1 with a | a
    · rw [if_pos ⟨a.1, by omega, by omega⟩]; congr 1; omega
    · rw [if_neg (fun z => by omega)]; congr 1; omega
  have w1 : wrS υ 1 = σ 31 1 := by unfold wrS; rw [if_neg (by decide)]; exact fw
  have w0 : wrS υ 0 = σ 31 1 := by unfold wrS; rw [if_pos rfl]; exact u1
  have wj : ∀ j, 0 ≤ j → j ≤ μ 5000 48 → wrS υ j = wrS σ (max 0 (j - 1)) := fun j j0 j1 => by
    by_cases c0 : j = 0
    · rw [c0, w0]; unfold wrS; rw [if_pos (by omega)]
    · by_cases c1 : j = 1
      · rw [c1, w1]; unfold wrS; rw [if_pos (by omega)]
      · have := fj j (by omega) j1 27 (by decide) (by decide)
        unfold wrS
        rw [if_neg c0, if_neg (by omega), show max 0 (j - 1) = j - 1 by omega]
        exact this
  refine ⟨⟨by omega, by omega, by omega, fun i j i0 ij j1 => ?_, fun j j0 j1 => ?_⟩, by rw [w1, u1]⟩
  · rw [wj i i0 (by omega), wj j (by omega) j1]
    have := p4 (max 0 (i - 1)) (max 0 (j - 1)) (by omega) (by omega) (by omega)
    omega
  · rw [hk.1, hk.2, h32]
    by_cases c1 : j = 1
    · rw [c1, w1]
      exact ⟨auR_c n6 f1 (fun q q0 q1 => m1 q q0 (by omega)) hn.1, lgR_c (fun _ _ _ => rfl) (fun q q0 q1 => m1 q (by omega) q1) hn.2⟩
    · rw [wj j (by omega) j1, show max 0 (j - 1) = j - 1 by omega]
      obtain ⟨a, b⟩ := p5 (j - 1) (by omega) (by omega)
      exact ⟨auR_c n6 (fun k k0 k1 => fj j (by omega) j1 k k0 (by omega)) (fun q q0 q1 => mj j (by omega) j1 q q0 (by omega)) a, lgR_c (fun _ _ _ => rfl) (fun q q0 q1 => mj j (by omega) j1 q (by omega) q1) b⟩
/-- a line is written: those of old stay -/
theorem lg_keep {l l' r : Int → Int} {w W : Int} (hl : ∀ j, 0 ≤ j → j < 128 → j ≠ W % 128 → l' j = l j) (h0 : W - 41 ≤ w) (h1 : w ≤ W) (h : lgR l w r) : lgR l' w r := by
  obtain ⟨a1, a2, a3, a4⟩ := h
  refine ⟨a1, a2, a3, fun i i0 i1 => ?_⟩
  have := a4 i i0 i1
  rw [hl _ (by omega) (by omega) (by omega)]
  exact this
theorem past_write {υ τ μ μ' : Mem} (hp : pastR υ μ) (hw : wrS υ 1 = υ 31 1 ∨ μ 5000 48 = 0) (h1 : τ 31 1 = υ 31 1 + 1) (h31 : ∀ k, k = 3 ∨ k = 4 → τ 31 k = υ 31 k) (h33 : τ 33 = υ 33) (hl : ∀ j, 0 ≤ j → j < 128 → j ≠ υ 31 1 % 128 → τ 32 j = υ 32 j) (hk : ∀ k, k = 29 ∨ k = 30 ∨ k = 48 → μ' 5000 k = μ 5000 k) (h23 : μ' 5023 = μ 5023) : pastR τ μ' := by
  obtain ⟨p1, p2, p3, p4, p5⟩ := hp
  have wj : ∀ j, 1 ≤ j → wrS τ j = wrS υ j := fun j j0 => by unfold wrS; rw [if_neg (by omega), if_neg (by omega), h33, h31 4 (by decide)]
  have w0 : wrS τ 0 = υ 31 1 + 1 := by unfold wrS; rw [if_pos rfl, h1]
  have v0 : wrS υ 0 = υ 31 1 := by unfold wrS; rw [if_pos rfl]
  unfold pastR
  rw [h31 3 (by decide), h31 4 (by decide), hk 29 (by decide), hk 30 (by decide), hk 48 (by decide)]
  refine ⟨p1, p2, p3, fun i j i0 ij j1 => ?_, fun j j0 j1 => ?_⟩
  · by_cases c : i = 0
    · by_cases d : j = 0
      · rw [c, d]; omega
      · rw [c, w0, wj j (by omega)]
        rcases hw with hw | hw
        · have := p4 1 j (by decide) (by omega) j1
          omega
        · omega
    · rw [wj i (by omega), wj j (by omega)]
      exact p4 i j i0 ij j1
  · have := p4 0 j (by decide) (by omega) j1
    obtain ⟨a, b⟩ := p5 j j0 j1
    rw [wj j j0]
    refine ⟨?_, ?_⟩
    · show auR _ _ (fun k => τ 33 ((τ 31 4 - j) % 40 * 28 + k)) (fun q => μ' 5023 (208 * (μ' 5000 48 - j) + q))
      rw [h33, h31 4 (by decide), h23, hk 48 (by decide)]; exact a
    · show lgR (τ 32) (wrS υ j) (fun q => μ' 5023 (208 * (μ' 5000 48 - j) + q))
      rw [h23, hk 48 (by decide)]
      exact lg_keep hl (by omega) (by omega) b
/-- the reference's lines behind an EVENING -/
theorem mER_ln {n : Int} {r fl : Int → Int} {o A p : Int} (n6 : n ≤ 6) (h0 : 0 ≤ r 27) (h1 : r 27 ≤ 60) : (mER r fl o n A p (28 + 3 * (min 60 (r 27 + 1) - 1)) = p ∧ mER r fl o n A p (28 + 3 * (min 60 (r 27 + 1) - 1) + 1) = A ∧ mER r fl o n A p (28 + 3 * (min 60 (r 27 + 1) - 1) + 2) = o) ∧ ∀ i k, 1 ≤ i → i < min 60 (r 27 + 1) → 0 ≤ k → k ≤ 2 → mER r fl o n A p (28 + 3 * (min 60 (r 27 + 1) - 1 - i) + k) = r (28 + 3 * (r 27 - i) + k) := by
  have c27 : ∀ j, 27 ≤ j → eR2 (cR r fl o n) j = r j := fun j hj => by
    unfold eR2
    rw [upf_n2 _ (by omega), upf_n2 _ (by omega)]; exact cR_ge _ _ _ (by omega)
  have l3 : eR3 (eR2 (cR r fl o n)) 27 = min 60 (r 27 + 1) - 1 := by
    unfold eR3; rw [c27 27 (by decide)]; split
    · rw [upf_s2]; omega
    · rw [c27 27 (by decide)]; omega
  have x3 : ∀ j, 28 ≤ j → j < 28 + 3 * (min 60 (r 27 + 1) - 1) → eR3 (eR2 (cR r fl o n)) j = if r 27 = 60 then r (j + 3) else r j := fun j j0 j1 => by
    unfold eR3; rw [c27 27 (by decide)]
    by_cases c : r 27 = 60
    · rw [if_pos c, if_pos c, upf_n2 _ (by omega)]
      unfold sR
      rw [if_pos (by omega), c27 _ (by omega)]
    · rw [if_neg c, if_neg c, c27 _ (by omega)]
  have m4 : ∀ j, mER r fl o n A p j = upf (upf (upf (upf (eR3 (eR2 (cR r fl o n))) (28 + 3 * (min 60 (r 27 + 1) - 1)) p) (28 + 3 * (min 60 (r 27 + 1) - 1) + 1) A) (28 + 3 * (min 60 (r 27 + 1) - 1) + 2) o) 27 (min 60 (r 27 + 1) - 1 + 1) j := fun j => by
    unfold mER eR4; rw [l3]
  refine ⟨⟨?_, ?_, ?_⟩, fun i k i0 i1 k0 k1 => ?_⟩
  · rw [m4, upf_n2 _ (by omega), upf_n2 _ (by omega), upf_n2 _ (by omega), upf_s2]
  · rw [m4, upf_n2 _ (by omega), upf_n2 _ (by omega), upf_s2]
  · rw [m4, upf_n2 _ (by omega), upf_s2]
  · rw [m4, upf_n2 _ (by omega), upf_n2 _ (by omega), upf_n2 _ (by omega), upf_n2 _ (by omega), x3 _ (by omega) (by omega)]
    by_cases c : r 27 = 60
    · rw [if_pos c]; congr 1; omega
    · rw [if_neg c]; congr 1; omega
/-- the log behind an EVENING -/
theorem lg_ev {l l' r fl : Int → Int} {W n o A p : Int} (n6 : n ≤ 6) (h : lgR l W r) (hl : ∀ j, 0 ≤ j → j < 128 → j ≠ W % 128 → l' j = l j) (h9 : l' (W % 128) = pck p A o) (hp : 0 ≤ p ∧ p ≤ 3) (hA : 0 ≤ A ∧ A ≤ 8000000) (ho : 0 ≤ o ∧ o < 64) : lgR l' (W + 1) (mER r fl o n A p) := by
  obtain ⟨a1, a2, a3, a4⟩ := h
  have b27 : 0 ≤ r 27 ∧ r 27 ≤ 60 := by omega
  have e27 := (mER_lt (fl := fl) (o := o) (A := A) (p := p) n6 b27.1 b27.2).2
  have e26 := mER_26 (fl := fl) (o := o) (A := A) (p := p) n6 b27.1 b27.2
  obtain ⟨⟨f1, f2, f3⟩, fi⟩ := mER_ln (fl := fl) (o := o) (A := A) (p := p) n6 b27.1 b27.2
  have eN : min 60 (r 27 + 1) = min 60 (W + 1) := by omega
  rw [eN] at e27 f1 f2 f3 fi
  refine ⟨by omega, e27, by rw [e26]; omega, fun i i0 i1 => ?_⟩
  by_cases c : i = 0
  · rw [c, show min 60 (W + 1) - 1 - 0 = min 60 (W + 1) - 1 by omega, f1, f2, f3, show W + 1 - 1 - 0 = W by omega]
    exact ⟨hp, hA, ho, h9⟩
  · have g0 := fi i 0 (by omega) i1 (by decide) (by decide)
    have g1 := fi i 1 (by omega) i1 (by decide) (by decide)
    have g2 := fi i 2 (by omega) i1 (by decide) (by decide)
    rw [Int.add_zero, Int.add_zero] at g0
    have q := a4 (i - 1) (by omega) (by omega)
    rw [← a2, show r 27 - 1 - (i - 1) = r 27 - i by omega, show W - 1 - (i - 1) = W - i by omega] at q
    rw [g0, g1, g2, show W + 1 - 1 - i = W - i by omega, hl _ (by omega) (by omega) (by omega)]
    exact q
theorem mER_c {n : Int} {r fl : Int → Int} {o A p c : Int} (n6 : n ≤ 6) (h0 : 0 ≤ r 27) (h1 : r 27 ≤ 60) (c0 : 0 ≤ c) (c1 : c < n) : mER r fl o n A p (4 * c) = (if bt o c = 1 then max 0 (r (4 * c) - 1) else r (4 * c)) ∧ mER r fl o n A p (4 * c + 1) = r (4 * c + 1) ∧ mER r fl o n A p (4 * c + 2) = r (4 * c + 2) ∧ mER r fl o n A p (4 * c + 3) = min 9999 (r (4 * c + 3) + fl c) := by
  have e := (mER_lt (fl := fl) (o := o) (A := A) (p := p) n6 h0 h1).1
  rw [e _ (by omega), e _ (by omega), e _ (by omega), e _ (by omega)]
  unfold eR2
  rw [upf_n2 _ (by omega), upf_n2 _ (by omega), upf_n2 _ (by omega), upf_n2 _ (by omega), upf_n2 _ (by omega), upf_n2 _ (by omega), upf_n2 _ (by omega), upf_n2 _ (by omega)]
  unfold cR
  rw [show (4 * c) / 4 = c by omega, show (4 * c + 3) / 4 = c by omega]
  refine ⟨?_, ?_, ?_, ?_⟩
  · rw [if_neg (by omega)]
    by_cases b : bt o c = 1
    · rw [if_pos ⟨by omega, by omega, by omega, b⟩, if_pos b]
    · rw [if_neg (fun z => b z.2.2.2), if_neg b]
  · rw [if_neg (by omega), if_neg (by omega)]
  · rw [if_neg (by omega), if_neg (by omega)]
  · rw [if_pos ⟨by omega, by omega, by omega⟩]
theorem mER_k {n : Int} {r fl : Int → Int} {o A p : Int} (n6 : n ≤ 6) (h0 : 0 ≤ r 27) (h1 : r 27 ≤ 60) : mER r fl o n A p 24 = 0 ∧ mER r fl o n A p 25 = r 25 ∧ mER r fl o n A p 26 = r 26 + 1 := by
  have e := (mER_lt (fl := fl) (o := o) (A := A) (p := p) n6 h0 h1).1
  refine ⟨?_, ?_, mER_26 n6 h0 h1⟩
  · rw [e _ (by decide)]; unfold eR2; rw [upf_n2 _ (by decide), upf_s2]
  · rw [e _ (by decide)]; unfold eR2; rw [upf_n2 _ (by decide), upf_n2 _ (by decide), cR_ge _ _ _ (by omega)]
/-- an EVENING on both sides -/
theorem ev_sim {σ m τ μ : Mem} {p : Int} (hH : eqH σ m) (hn : nowR σ m) (hp : pastR σ m) (hx : mX m 5015) (hs : stOk σ 16) (h9 : pval σ 6 1 p 3 ≤ 9) (p0 : 0 ≤ p) (p1 : p < m 5000 28) (he : m 5015 26 < 999) (hr : ringR σ) (hS : evS σ p τ) (hM : mEv (rmb m) 5015 p μ) : nowR τ μ ∧ pastR τ μ ∧ evMv σ p = mEm (rmb m) 5015 p ∧ ringR τ := by
  obtain ⟨υ, h1, rfl⟩ := hS
  have hxr := mX_rmb hx
  have e15 := rmb_15 m
  have ek : ∀ k, k ≠ 48 → rmb m 5000 k = m 5000 k := fun k hk => rmb_k m hk
  have hex := mEv_x hxr (by rw [e15]; omega) hM
  obtain ⟨υ', hP, hok, rfl⟩ := hM
  have n29 := hx.2.1.2.2.1
  have n28 := hx.2.1.2.2.2.2.1
  have l27 := hx.2.2.2.2.2.2
  have hB := hs.2.1
  have hA : eqA σ m 16 5015 := by
    obtain ⟨⟨a1, a2, -⟩, -⟩ := hn
    refine ⟨fun c c0 c1 => ?_, ?_, ?_⟩
    · have := a1 c c0 c1
      have e := aud16 σ c0 (by omega)
      exact ⟨e.1 ▸ this.1, e.2.1 ▸ this.2.1⟩
    · exact (audk σ).1 ▸ a2.1
    · exact (audk σ).2.2 ▸ a2.2.2
  have hsp : sP m (rmb m) 5015 5015 := ⟨fun j _ _ => by rw [e15], rmb_o m (by decide) (by decide), rmb_o m (by decide) (by decide), rmb_o m (by decide) (by decide), rmb_o m (by decide) (by decide), rmb_o m (by decide) (by decide), ek 29 (by decide), ek 38 (by decide)⟩
  have e7 : rmb m 5007 = m 5007 := rmb_o m (by decide) (by decide)
  have fl : ∀ c, 0 ≤ c → c < m 5000 29 → mFl (rmb m) 5015 p (rmb m 5007 (4 * p + 3)).toNat c = pFl σ 16 p c := fun c c0 c1 => by
    rw [e7, sP_mFl hsp n29.2 p c0 c1, (play_eq hH hA hx p0 p1 c0 c1).1]
  have ou : mOu (rmb m) 5015 p (rmb m 5007 (4 * p + 3)).toNat = evOb σ p := by
    rw [e7, sP_mOu hsp n29.2 p, ← play_out hH hA hx p0 p1]
  have sm : mEm (rmb m) 5015 p = evMv σ p := by
    show sumC _ _ = sumC _ _
    rw [hH.1, ek 29 (by decide)]
    exact sumC_cong (fun c c0 c1 => fl c c0 (by omega))
  have sm' : sumC (mFl (rmb m) 5015 p (rmb m 5007 (4 * p + 3)).toNat) (rmb m 5000 29).toNat = evMv σ p := sm
  have ob : ∀ c, 0 ≤ c → c < m 5000 29 → (bt (evOb σ p) c = 1 ↔ pOa σ 16 p c ≠ -1) := fun c c0 c1 => by
    rw [show evOb σ p = mOu m 5015 p (mMi m p) from play_out hH hA hx p0 p1, mOu_oa n29.2 c0 c1, (play_eq hH hA hx p0 p1 c0 c1).2]
  have ob64 : 0 ≤ evOb σ p ∧ evOb σ p < 64 := by
    rw [show evOb σ p = mOu m 5015 p (mMi m p) from play_out hH hA hx p0 p1]; exact mOu_b m 5015 p n29.2 _
  have Ab : 0 ≤ evMv σ p ∧ evMv σ p ≤ 8000000 := by
    have := sumC_b (f := pFl σ 16 p) (c := 891) (n := (pcnt σ 6 2).toNat) (fun i i0 i1 => pFl_b hB h9 i0 (by rw [hH.1] at i1; omega))
    rw [hH.1] at this
    show 0 ≤ sumC (pFl σ 16 p) (pcnt σ 6 2).toNat ∧ _
    rw [hH.1]
    omega
  rw [ou, sm', e15, ek 29 (by decide)]
  have pl := SP_pFl (rmM_SP σ) hs p
  obtain ⟨q1, q2, q3, q4, q5, q6⟩ := h1
  rw [pl.1, pl.2, pcnt_cong (rmM_o σ (b := 6 + 2) (by decide) (by decide))] at *
  have ro : ∀ b, b ≠ 31 → b ≠ 33 → rmM σ b = σ b := fun b h1 h2 => rmM_o σ h1 h2
  have u18 : υ 18 = σ 18 := by rw [q1 18 (by decide) (by decide) (by decide) (by decide) (by decide) (by decide) (by decide) (by decide) (by decide) (by decide) (by decide) (by decide), ro 18 (by decide) (by decide)]
  have u19 : υ 19 = σ 19 := by rw [q1 19 (by decide) (by decide) (by decide) (by decide) (by decide) (by decide) (by decide) (by decide) (by decide) (by decide) (by decide) (by decide), ro 19 (by decide) (by decide)]
  have u31 : υ 31 = rmM σ 31 := q1 31 (by decide) (by decide) (by decide) (by decide) (by decide) (by decide) (by decide) (by decide) (by decide) (by decide) (by decide) (by decide)
  have u33 : υ 33 = rmM σ 33 := q1 33 (by decide) (by decide) (by decide) (by decide) (by decide) (by decide) (by decide) (by decide) (by decide) (by decide) (by decide) (by decide)
  have u32 : υ 32 = σ 32 := by rw [q1 32 (by decide) (by decide) (by decide) (by decide) (by decide) (by decide) (by decide) (by decide) (by decide) (by decide) (by decide) (by decide), ro 32 (by decide) (by decide)]
  have uW : υ 31 1 = σ 31 1 := by rw [u31]; exact (rmM_31 σ).1
  have u17 : ∀ j, υ 17 j = if 0 ≤ j ∧ j < pcnt σ 6 2 ∧ pOa σ 16 p j ≠ -1 then max 0 (σ 17 j - 1) else σ 17 j := fun j => by
    have := q4 j
    rw [ro (16 + 1) (by decide) (by decide)] at this; exact this
  have u20 : ∀ j, υ 20 j = if 0 ≤ j ∧ j < pcnt σ 6 2 then min 9999 (σ 20 j + pFl σ 16 p j) else σ 20 j := fun j => by
    have := q5 j
    rw [ro (16 + 4) (by decide) (by decide)] at this; exact this
  have u16 : ∀ j, υ 16 j = if j = 4 then 0 else if j = 6 then σ 16 6 + 1 else σ 16 j := fun j => by
    have := q3 j
    rw [ro 16 (by decide) (by decide)] at this; exact this
  have tw : ∀ b, b ≠ 31 → b ≠ 32 → wrM υ p (evMv σ p) (evOb σ p) b = υ b := fun b h1 h2 => by unfold wrM; rw [up_na _ h1, up_na _ h2]
  have t32 : ∀ j, j ≠ σ 31 1 % 128 → wrM υ p (evMv σ p) (evOb σ p) 32 j = σ 32 j := fun j hj => by unfold wrM; rw [up_na _ (by decide), uW, up_nj _ hj, u32]
  have t32e : wrM υ p (evMv σ p) (evOb σ p) 32 (σ 31 1 % 128) = pck p (evMv σ p) (evOb σ p) := by unfold wrM; rw [up_na _ (by decide), uW, up_s]
  have tW : wrM υ p (evMv σ p) (evOb σ p) 31 1 = σ 31 1 + 1 := by unfold wrM; rw [up_s, uW]
  have tk : ∀ k, k ≠ 1 → wrM υ p (evMv σ p) (evOb σ p) 31 k = υ 31 k := fun k hk => by unfold wrM; rw [up_nj _ hk, up_na _ (by decide)]
  have m29 : ∀ f, setv υ' 5015 f 5000 29 = m 5000 29 ∧ setv υ' 5015 f 5000 30 = m 5000 30 ∧ setv υ' 5015 f 5000 48 = rmb m 5000 48 := fun f => by
    rw [setv_o _ _ (by decide), hP.2 29 (by decide) (by decide) (by decide) (by decide), hP.2 30 (by decide) (by decide) (by decide) (by decide), hP.2 48 (by decide) (by decide) (by decide) (by decide), ek 29 (by decide), ek 30 (by decide)]
    exact ⟨rfl, rfl, rfl⟩
  have m23 : ∀ f, setv υ' 5015 f 5023 = rmb m 5023 := fun f => by rw [setv_o _ _ (by decide)]; exact PF_r hP (by decide)
  obtain ⟨pu, pw⟩ := past_push (υ := υ) (μ := setv υ' 5015 (mER (m 5015) (mFl (rmb m) 5015 p (rmb m 5007 (4 * p + 3)).toNat) (evOb σ p) (m 5000 29) (evMv σ p) p)) hn hp n29.2 (fun k _ => by rw [u31]) u32 u33 ⟨(m29 _).1, (m29 _).2.1⟩ (m29 _).2.2 (m23 _)
  have nn := hn
  obtain ⟨⟨a1, a2, a3, a4, a5⟩, lg⟩ := nn
  refine ⟨⟨?_, ?_⟩, past_write pu (Or.inl pw) (by rw [tW, uW]) (fun k hk => tk k (by omega)) (tw 33 (by decide) (by decide)) (fun j _ _ hj => by rw [uW] at hj; rw [t32 j hj, u32]) (fun _ _ => rfl) rfl, sm.symm, ?_⟩
  · rw [(m29 _).1, (m29 _).2.1, setv_s]
    have hex1 := hex.1.2.2
    rw [ou, sm', e15, ek 29 (by decide), (m29 _).1, (m29 _).2.1, setv_s] at hex1
    have K := mER_k (r := m 5015) (fl := mFl (rmb m) 5015 p (rmb m 5007 (4 * p + 3)).toNat) (o := evOb σ p) (A := evMv σ p) (p := p) n29.2 l27.1 l27.2
    refine ⟨fun c c0 c1 => ?_, ?_, hex1, by rw [K.2.2]; omega, fun i i0 i1 => ?_⟩
    · have e := aud16 (wrM υ p (evMv σ p) (evOb σ p)) c0 (show c < 6 by omega)
      have e0 := aud16 σ c0 (show c < 6 by omega)
      have b := a1 c c0 c1
      rw [e0.1, e0.2.1, e0.2.2.1, e0.2.2.2] at b
      obtain ⟨k1, k2, k3, k4⟩ := mER_c (r := m 5015) (fl := mFl (rmb m) 5015 p (rmb m 5007 (4 * p + 3)).toNat) (o := evOb σ p) (A := evMv σ p) (p := p) n29.2 l27.1 l27.2 c0 c1
      rw [e.1, e.2.1, e.2.2.1, e.2.2.2, k1, k2, k3, k4, tw 17 (by decide) (by decide), tw 18 (by decide) (by decide), tw 19 (by decide) (by decide), tw 20 (by decide) (by decide), u17, u18, u19, u20, hH.1, fl c c0 c1, if_pos ⟨c0, c1⟩, b.1, b.2.1, b.2.2.1, b.2.2.2]
      refine ⟨?_, rfl, rfl, rfl⟩
      have := ob c c0 c1
      by_cases y : pOa σ 16 p c ≠ -1
      · rw [if_pos ⟨c0, c1, y⟩, if_pos (this.mpr y)]
      · rw [if_neg (fun z => y z.2.2), if_neg (fun z => y (this.mp z))]
    · have k := audk (wrM υ p (evMv σ p) (evOb σ p))
      have k0 := audk σ
      rw [k0.1, k0.2.1, k0.2.2] at a2
      rw [k.1, k.2.1, k.2.2, tw 16 (by decide) (by decide), u16, u16, u16, K.1, K.2.1, K.2.2, if_pos rfl, if_neg (by decide), if_neg (by decide), if_neg (by decide), if_pos rfl, a2.2.1, a2.2.2]
      exact ⟨rfl, rfl, rfl⟩
    · have e := aud16 (wrM υ p (evMv σ p) (evOb σ p)) i0 i1
      have e0 := aud16 σ i0 i1
      have b := a5 i i0 i1
      rw [e0.1, e0.2.1, e0.2.2.1, e0.2.2.2] at b
      have pb := pFl_b (a := 16) hB h9 i0 i1
      rw [e.1, e.2.1, e.2.2.1, e.2.2.2, tw 17 (by decide) (by decide), tw 18 (by decide) (by decide), tw 19 (by decide) (by decide), tw 20 (by decide) (by decide), u17, u18, u19, u20]
      refine ⟨?_, b.2.1, b.2.2.1, ?_⟩
      · split <;> omega
      · split <;> omega
  · rw [setv_s, tW]
    exact lg_ev n29.2 lg (fun j _ _ hj => t32 j hj) t32e ⟨p0, by omega⟩ Ab ob64
  · refine ⟨fun j j0 j1 => ?_, ?_⟩
    · by_cases c : j = σ 31 1 % 128
      · rw [c, t32e]; unfold pck; omega
      · rw [t32 j c]; exact hr.1 j j0 j1
    · have u35 : υ 35 = σ 35 := by rw [q1 35 (by decide) (by decide) (by decide) (by decide) (by decide) (by decide) (by decide) (by decide) (by decide) (by decide) (by decide) (by decide), ro 35 (by decide) (by decide)]
      rw [tw 35 (by decide) (by decide), u35]; exact hr.2
/-! ACTS by hand side by side -/
theorem act_q {σ m τ μ : Mem} (hn : nowR σ m) (hp : pastR σ m) (n6 : m 5000 29 ≤ 6) (h31 : ∀ k, k = 1 ∨ k = 3 ∨ k = 4 → τ 31 k = rmM σ 31 k) (h32 : τ 32 = σ 32) (h33 : τ 33 = rmM σ 33) (hk : μ 5000 29 = m 5000 29 ∧ μ 5000 30 = m 5000 30) (h48 : μ 5000 48 = rmb m 5000 48) (h23 : μ 5023 = rmb m 5023) (h15 : ∀ j, 26 ≤ j → j < 208 → μ 5015 j = m 5015 j) (ha : auR (m 5000 29) (m 5000 30) (aud τ 16) (μ 5015)) : nowR τ μ ∧ pastR τ μ := by
  refine ⟨⟨by rw [hk.1, hk.2]; exact ha, ?_⟩, (past_push hn hp n6 h31 h32 h33 hk h48 h23).1⟩
  rw [h32, h31 1 (by decide), (rmM_31 σ).1]
  exact lgR_c (fun _ _ _ => rfl) h15 hn.2
/-- RR behind an ACT -/
theorem RR_act {σ τ μ : Mem} (h : RR σ) (hA : AG σ τ) (h78 : τ 31 7 = σ 31 7 ∧ τ 31 8 = σ 31 8) (hG : MG τ μ) (hm : mOk μ) (hn : nowR τ μ) (hp : pastR τ μ) (hr : ringR τ) : RR μ := by
  have n := RR_n h
  have q : ∀ b, b ≠ 0 → (b < 16 ∨ 20 < b) → (b < 26 ∨ 33 < b) → b ≠ 37 → b ≠ 38 → b ≠ 40 → b ≠ 102 → b ≠ 105 → b ≠ 108 → b ≠ 111 → τ b = σ b := hA.1
  have g : ∀ b, b ≠ 5000 → b ≠ 5004 → ¬ (5015 ≤ b ∧ b ≤ 5023) → μ b = τ b := hG.1
  have r : ∀ b, b = -2 ∨ (0 < b ∧ b < 16) ∨ (33 < b ∧ b < 37) ∨ (40 < b ∧ b < 100) ∨ (5000 < b ∧ b < 5004) ∨ (5004 < b ∧ b < 5015) ∨ (5023 < b ∧ b < 5030) → μ b = σ b := fun b hb => by
    rw [g b (by omega) (by omega) (by omega)]; exact q b (by omega) (by omega) (by omega) (by omega) (by omega) (by omega) (by omega) (by omega) (by omega) (by omega)
  have s : ∀ b, b < 5000 → μ b = τ b := fun b hb => g b (by omega) (by omega) (by omega)
  have k5 : τ 5000 = σ 5000 := q 5000 (by decide) (by decide) (by decide) (by decide) (by decide) (by decide) (by decide) (by decide) (by decide) (by decide)
  have k : ∀ x, x = 6 ∨ x = 7 ∨ x = 28 ∨ x = 29 ∨ x = 30 ∨ x = 34 ∨ x = 38 ∨ x = 39 ∨ x = 53 ∨ x = 56 → μ 5000 x = σ 5000 x := fun x hx => by
    rw [hG.2 x (by omega) (by omega) (by omega) (by omega) (by omega) (by omega) (by omega), k5]
  have z0 : ∀ x, x ≠ 9 → μ 0 x = σ 0 x := fun x hx => by rw [s 0 (by decide)]; exact hA.2.2 x hx
  obtain ⟨h1, h2, h3, h4, h5, h6, h7, h8, h9, h10, h11⟩ := h
  refine ⟨tapeR_c (by rw [r 1 (by decide)]) (r 2 (by decide)) (k 6 (by decide)) (r 5001 (by decide)) h1, houR_c (r 4 (by decide)) (r 5 (by decide)) (r 7 (by decide)) (r 8 (by decide)) (fun x hx => k x (by omega)) (fun b hb => r b (by omega)) h2, lawR_c (z0 5 (by decide)) (z0 6 (by decide)) (by rw [s 26 (by decide)]; exact hA.2.1) (r 12 (by decide)) ⟨k 7 (by decide), k 38 (by decide)⟩ (r 5002 (by decide)) (r 5003 (by decide)) (fun l l0 l1 => by rw [s _ (by omega)]; exact q _ (by omega) (by omega) (by omega) (by omega) (by omega) (by omega) (by omega) (by omega) (by omega) (by omega)) n.2.2.2.2 h3, seaR_c (by rw [r 13 (by decide)]) (r 14 (by decide)) (r 15 (by decide)) (k 34 (by decide)) (r 5013 (by decide)) (r 5014 (by decide)) h4, howR_c (by rw [r 41 (by decide)]) (r 42 (by decide)) (fun x hx => k x (by omega)) (r 5024 (by decide)) h5, nowR_c (by rw [k 29 (by decide)]; exact n.2.1.2) (fun j _ _ => by rw [s 16 (by decide)]) (fun b b0 b1 => s b (by omega)) (s 32 (by decide)) (by rw [s 31 (by decide)]) ⟨rfl, rfl⟩ rfl hn, pastR_c (fun x _ => by rw [s 31 (by decide)]) (s 32 (by decide)) (s 33 (by decide)) (fun _ _ => rfl) rfl hp, imR_c (fun x hx => ?_) (r 34 (by decide)) (r 35 (by decide)) (fun x hx => k x (by omega)) (r 5026 (by decide)) h8, livR_c (r (-2) (by decide)) (k 7 (by decide)) h9, mskR_c hm (z0 8 (by decide)) (k 39 (by decide)) (r 5007 (by decide)) (r 5011 (by decide)) (r 5005 (by decide)) h10, ringR_c (s 32 (by decide)) (s 35 (by decide)) hr⟩
  rw [s 31 (by decide)]
  rcases hx with e | e <;> rw [e]
  · exact h78.1
  · exact h78.2
/-- the reference begins where the class has ended -/
theorem RR_m {σ τ : Mem} (h : RR σ) (hA : AG σ τ) : mX (th0 τ) 5015 ∧ mX τ 5015 ∧ nowR σ (th0 τ) ∧ pastR σ (th0 τ) ∧ eqH σ (th0 τ) ∧ (∀ b, 5000 < b → b < 6000 → th0 τ b = σ b) ∧ (∀ x, x ≠ 0 → th0 τ 5000 x = σ 5000 x) ∧ τ 5000 = σ 5000 ∧ mOk (th0 τ) := by
  have n := RR_n h
  have q : ∀ b, 4999 < b → b < 6000 → τ b = σ b := fun b h1 h2 => hA.1 b (by omega) (by omega) (by omega) (by omega) (by omega) (by omega) (by omega) (by omega) (by omega) (by omega)
  have k5 := q 5000 (by decide) (by decide)
  have o : ∀ b, 5000 < b → b < 6000 → th0 τ b = σ b := fun b h1 h2 => by rw [th_o τ (by omega)]; exact q b (by omega) h2
  have k : ∀ x, x ≠ 0 → th0 τ 5000 x = σ 5000 x := fun x hx => by rw [th_k τ hx, k5]
  have hx := RR_mX h
  have hm : mOk τ := mOk_c (by rw [k5]) (fun b hb => q b (by omega) (by omega)) hx.2.1.1
  have hxt : mX τ 5015 := by
    have hG : MG σ τ ∨ True := Or.inr trivial
    obtain ⟨w, ⟨g1, g2, g3, g4, g5, g6, g7, g8, g9⟩, g10⟩ := hx
    refine ⟨w, ⟨hm, lwIs_c (by rw [k5]) (by rw [k5]) g2, by rw [k5]; exact g3, by rw [k5]; exact g4, by rw [k5]; exact g5, by rw [q 5007 (by decide) (by decide)]; exact g6, by rw [q 5011 (by decide) (by decide)]; exact g7, by rw [q 5005 (by decide) (by decide)]; exact g8, by rw [k5]; exact g9⟩, by rw [k5, q 5015 (by decide) (by decide)]; exact g10⟩
  refine ⟨mX_th hxt, hxt, nowR_c n.2.1.2 (fun _ _ _ => rfl) (fun _ _ _ => rfl) rfl rfl ⟨k 29 (by decide), k 30 (by decide)⟩ (o 5015 (by decide) (by decide)) h.2.2.2.2.2.1, pastR_c (fun _ _ => rfl) rfl rfl (fun x hx => k x (by omega)) (o 5023 (by decide) (by decide)) h.2.2.2.2.2.2.1, eqH_m (fun x hx => k x (by omega)) (fun b hb => o b (by omega) (by omega)) (RR_eqH h), o, k, k5, mOk_th hm⟩
theorem AG_rm (σ : Mem) : AG σ (rmM σ) := AF_AG (AF_rm σ)
theorem AG_up {σ τ : Mem} (h : AG σ τ) {a k v : Int} (ha : 16 ≤ a ∧ a ≤ 20) : AG σ (up τ a k v) := ⟨fun b h9 h0 h1 h2 h3 h4 h5 h6 h7 h8 => by rw [up_na _ (by omega)]; exact h.1 b h9 h0 h1 h2 h3 h4 h5 h6 h7 h8, by rw [up_na _ (by omega)]; exact h.2.1, fun k hk => by rw [up_na _ (by omega)]; exact h.2.2 k hk⟩
theorem aud_rm (σ : Mem) {k : Int} (k1 : k < 27) : aud (rmM σ) 16 k = aud σ 16 k := aud_c (fun j _ _ => by rw [rmM_o σ (by decide) (by decide)]) (fun b b0 b1 => rmM_o σ (by omega) (by omega)) k1
theorem aud_u {σ : Mem} {a c v : Int} (ha : 17 ≤ a ∧ a ≤ 20) (c0 : 0 ≤ c) (c1 : c < 6) {k : Int} (k0 : 0 ≤ k) (k1 : k < 27) : aud (up σ a c v) 16 k = upf (aud σ 16) ((a - 17) * 6 + c) v k := by
  unfold upf aud
  have e : a = 17 ∨ a = 18 ∨ a = 19 ∨ a = 20 := by omega
  rw [show (16 : Int) + 1 = 17 from rfl, show (16 : Int) + 2 = 18 from rfl, show (16 : Int) + 3 = 19 from rfl, show (16 : Int) + 4 = 20 from rfl]
  by_cases x1 : k < 6
  · rw [if_pos x1, if_pos x1]
    rcases e with rfl | rfl | rfl | rfl
    · by_cases y : k = c
      · rw [if_pos (by omega), y, up_s]
      · rw [if_neg (by omega), up_nj _ y]
    · rw [if_neg (by omega), up_na _ (by decide)]
    · rw [if_neg (by omega), up_na _ (by decide)]
    · rw [if_neg (by omega), up_na _ (by decide)]
  · rw [if_neg x1, if_neg x1]
    by_cases x2 : k < 12
    · rw [if_pos x2, if_pos x2]
      rcases e with rfl | rfl | rfl | rfl
      · rw [if_neg (by omega), up_na _ (by decide)]
      · by_cases y : k - 6 = c
        · rw [if_pos (by omega), y, up_s]
        · rw [if_neg (by omega), up_nj _ y]
      · rw [if_neg (by omega), up_na _ (by decide)]
      · rw [if_neg (by omega), up_na _ (by decide)]
    · rw [if_neg x2, if_neg x2]
      by_cases x3 : k < 18
      · rw [if_pos x3, if_pos x3]
        rcases e with rfl | rfl | rfl | rfl
        · rw [if_neg (by omega), up_na _ (by decide)]
        · rw [if_neg (by omega), up_na _ (by decide)]
        · by_cases y : k - 12 = c
          · rw [if_pos (by omega), y, up_s]
          · rw [if_neg (by omega), up_nj _ y]
        · rw [if_neg (by omega), up_na _ (by decide)]
      · rw [if_neg x3, if_neg x3]
        by_cases x4 : k < 24
        · rw [if_pos x4, if_pos x4]
          rcases e with rfl | rfl | rfl | rfl
          · rw [if_neg (by omega), up_na _ (by decide)]
          · rw [if_neg (by omega), up_na _ (by decide)]
          · rw [if_neg (by omega), up_na _ (by decide)]
          · by_cases y : k - 18 = c
            · rw [if_pos (by omega), y, up_s]
            · rw [if_neg (by omega), up_nj _ y]
        · rw [if_neg x4, if_neg x4, if_neg (by omega), up_na _ (by omega)]
theorem aud_u16 {σ : Mem} {x v : Int} (h4 : 4 ≤ x) (h6 : x ≤ 6) {k : Int} (k1 : k < 27) : aud (up σ 16 x v) 16 k = upf (aud σ 16) (x + 20) v k := by
  unfold upf aud
  rw [up_na _ (show (16 : Int) + 1 ≠ 16 by decide), up_na _ (show (16 : Int) + 2 ≠ 16 by decide), up_na _ (show (16 : Int) + 3 ≠ 16 by decide), up_na _ (show (16 : Int) + 4 ≠ 16 by decide)]
  by_cases e : k = x + 20
  · rw [if_pos e, if_neg (by omega), if_neg (by omega), if_neg (by omega), if_neg (by omega), show k - 20 = x by omega, up_s]
  · rw [if_neg e, up_nj _ (by omega)]
/-- one place of the audience changes -/
theorem auR_h {n s : Int} {f r : Int → Int} (n6 : n ≤ 6) (h : auR n s f r) {c v : Int} (c0 : 0 ≤ c) (c1 : c < n) (v0 : 0 ≤ v) (v1 : v ≤ 9) : auR n s (upf f c v) (upf r (4 * c) v) := by
  obtain ⟨a1, a2, a3, a4, a5⟩ := h
  refine ⟨fun d d0 d1 => ?_, ?_, aR_he n6 a3 c0 c1 v0 v1, by rw [upf_n2 _ (by omega)]; exact a4, fun i i0 i1 => ?_⟩
  · rw [upf_n2 f (show d + 6 ≠ c by omega), upf_n2 f (show d + 12 ≠ c by omega), upf_n2 f (show d + 18 ≠ c by omega), upf_n2 r (show 4 * d + 1 ≠ 4 * c by omega), upf_n2 r (show 4 * d + 2 ≠ 4 * c by omega), upf_n2 r (show 4 * d + 3 ≠ 4 * c by omega)]
    have b := a1 d d0 d1
    refine ⟨?_, b.2⟩
    by_cases e : d = c
    · rw [e, upf_s2, upf_s2]
    · rw [upf_n2 _ e, upf_n2 _ (by omega)]; exact b.1
  · rw [upf_n2 _ (by omega), upf_n2 _ (by omega), upf_n2 _ (by omega), upf_n2 _ (by omega), upf_n2 _ (by omega), upf_n2 _ (by omega)]; exact a2
  · have b := a5 i i0 i1
    rw [upf_n2 f (show i + 6 ≠ c by omega), upf_n2 f (show i + 12 ≠ c by omega), upf_n2 f (show i + 18 ≠ c by omega)]
    refine ⟨?_, b.2⟩
    by_cases e : i = c
    · rw [e, upf_s2]; exact ⟨v0, v1⟩
    · rw [upf_n2 _ e]; exact b.1
theorem auR_m {n s : Int} {f r : Int → Int} (n6 : n ≤ 6) (h : auR n s f r) {c v : Int} (c0 : 0 ≤ c) (c1 : c < n) (v0 : 0 ≤ v) (v1 : v ≤ 99) : auR n s (upf f (c + 12) v) (upf r (4 * c + 2) v) := by
  obtain ⟨a1, a2, a3, a4, a5⟩ := h
  have a3' : aR n s (upf r (4 * c + 2) v) := by
    obtain ⟨g1, g2, g3, g4, g5⟩ := a3
    refine ⟨fun d d0 d1 => ?_, by rw [upf_n2 _ (by omega)]; exact g2, by rw [upf_n2 _ (by omega)]; exact g3, by rw [upf_n2 _ (by omega)]; exact g4, by rw [upf_n2 _ (by omega)]; exact g5⟩
    rw [upf_n2 r (show 4 * d ≠ 4 * c + 2 by omega), upf_n2 r (show 4 * d + 1 ≠ 4 * c + 2 by omega), upf_n2 r (show 4 * d + 3 ≠ 4 * c + 2 by omega)]
    have b := g1 d d0 d1
    refine ⟨b.1, b.2.1, ?_, b.2.2.2⟩
    by_cases e : d = c
    · rw [e, upf_s2]; exact ⟨v0, v1⟩
    · rw [upf_n2 _ (by omega)]; exact b.2.2.1
  refine ⟨fun d d0 d1 => ?_, ?_, a3', by rw [upf_n2 _ (by omega)]; exact a4, fun i i0 i1 => ?_⟩
  · rw [upf_n2 f (show d ≠ c + 12 by omega), upf_n2 f (show d + 6 ≠ c + 12 by omega), upf_n2 f (show d + 18 ≠ c + 12 by omega), upf_n2 r (show 4 * d ≠ 4 * c + 2 by omega), upf_n2 r (show 4 * d + 1 ≠ 4 * c + 2 by omega), upf_n2 r (show 4 * d + 3 ≠ 4 * c + 2 by omega)]
    have b := a1 d d0 d1
    refine ⟨b.1, b.2.1, ?_, b.2.2.2⟩
    by_cases e : d = c
    · rw [e, upf_s2, upf_s2]
    · rw [upf_n2 _ (by omega), upf_n2 _ (by omega)]; exact b.2.2.1
  · rw [upf_n2 _ (by omega), upf_n2 _ (by omega), upf_n2 _ (by omega), upf_n2 _ (by omega), upf_n2 _ (by omega), upf_n2 _ (by omega)]; exact a2
  · have b := a5 i i0 i1
    rw [upf_n2 f (show i ≠ c + 12 by omega), upf_n2 f (show i + 6 ≠ c + 12 by omega), upf_n2 f (show i + 18 ≠ c + 12 by omega)]
    refine ⟨b.1, b.2.1, ?_, b.2.2.2⟩
    by_cases e : i = c
    · rw [e, upf_s2]; exact ⟨v0, v1⟩
    · rw [upf_n2 _ (by omega)]; exact b.2.2.1
theorem auR_t {n s : Int} {f r : Int → Int} (n6 : n ≤ 6) (s6 : s ≤ 6) (h : auR n s f r) {c v : Int} (c0 : 0 ≤ c) (c1 : c < n) (v0 : 0 ≤ v) (v1 : v < s) : auR n s (upf f (c + 6) v) (upf r (4 * c + 1) v) := by
  obtain ⟨a1, a2, a3, a4, a5⟩ := h
  refine ⟨fun d d0 d1 => ?_, ?_, aR_ti n6 a3 c0 c1 v0 v1, by rw [upf_n2 _ (by omega)]; exact a4, fun i i0 i1 => ?_⟩
  · rw [upf_n2 f (show d ≠ c + 6 by omega), upf_n2 f (show d + 12 ≠ c + 6 by omega), upf_n2 f (show d + 18 ≠ c + 6 by omega), upf_n2 r (show 4 * d ≠ 4 * c + 1 by omega), upf_n2 r (show 4 * d + 2 ≠ 4 * c + 1 by omega), upf_n2 r (show 4 * d + 3 ≠ 4 * c + 1 by omega)]
    have b := a1 d d0 d1
    refine ⟨b.1, ?_, b.2.2⟩
    by_cases e : d = c
    · rw [e, upf_s2, upf_s2]
    · rw [upf_n2 _ (by omega), upf_n2 _ (by omega)]; exact b.2.1
  · rw [upf_n2 _ (by omega), upf_n2 _ (by omega), upf_n2 _ (by omega), upf_n2 _ (by omega), upf_n2 _ (by omega), upf_n2 _ (by omega)]; exact a2
  · have b := a5 i i0 i1
    rw [upf_n2 f (show i ≠ c + 6 by omega), upf_n2 f (show i + 12 ≠ c + 6 by omega), upf_n2 f (show i + 18 ≠ c + 6 by omega)]
    refine ⟨b.1, ?_, b.2.2⟩
    by_cases e : i = c
    · rw [e, upf_s2]; omega
    · rw [upf_n2 _ (by omega)]; exact b.2.1
/-- who is ILL, the PRICE -/
theorem auR_k {n s : Int} {f r : Int → Int} (n6 : n ≤ 6) (h : auR n s f r) {k v : Int} (hk : (k = 24 ∧ 0 ≤ v ∧ v < 64) ∨ (k = 25 ∧ 0 ≤ v ∧ v ≤ 30)) : auR n s (upf f k v) (upf r k v) := by
  obtain ⟨a1, a2, a3, a4, a5⟩ := h
  have a3' : aR n s (upf r k v) := by
    obtain ⟨g1, g2, g3, g4, g5⟩ := a3
    refine ⟨fun d d0 d1 => ?_, ?_, ?_, by rw [upf_n2 _ (by omega)]; exact g4, by rw [upf_n2 _ (by omega)]; exact g5⟩
    · rw [upf_n2 r (show 4 * d ≠ k by omega), upf_n2 r (show 4 * d + 1 ≠ k by omega), upf_n2 r (show 4 * d + 2 ≠ k by omega), upf_n2 r (show 4 * d + 3 ≠ k by omega)]
      exact g1 d d0 d1
    · rcases hk with e | e
      · rw [e.1, upf_s2]; exact e.2
      · rw [upf_n2 _ (by omega)]; exact g2
    · rcases hk with e | e
      · rw [upf_n2 _ (by omega)]; exact g3
      · rw [e.1, upf_s2]; exact e.2
  refine ⟨fun d d0 d1 => ?_, ?_, a3', by rw [upf_n2 _ (by omega)]; exact a4, fun i i0 i1 => ?_⟩
  · rw [upf_n2 f (show d ≠ k by omega), upf_n2 f (show d + 6 ≠ k by omega), upf_n2 f (show d + 12 ≠ k by omega), upf_n2 f (show d + 18 ≠ k by omega), upf_n2 r (show 4 * d ≠ k by omega), upf_n2 r (show 4 * d + 1 ≠ k by omega), upf_n2 r (show 4 * d + 2 ≠ k by omega), upf_n2 r (show 4 * d + 3 ≠ k by omega)]
    exact a1 d d0 d1
  · rcases hk with e | e <;> rw [e.1]
    · rw [upf_s2, upf_s2, upf_n2 _ (by decide), upf_n2 _ (by decide), upf_n2 _ (by decide), upf_n2 _ (by decide)]; exact ⟨rfl, a2.2⟩
    · rw [upf_s2, upf_s2, upf_n2 _ (by decide), upf_n2 _ (by decide), upf_n2 _ (by decide), upf_n2 _ (by decide)]; exact ⟨a2.1, rfl, a2.2.2⟩
  · rw [upf_n2 f (show i ≠ k by omega), upf_n2 f (show i + 6 ≠ k by omega), upf_n2 f (show i + 12 ≠ k by omega), upf_n2 f (show i + 18 ≠ k by omega)]
    exact a5 i i0 i1
/-- a quiet ACT: the places that changed are the same on both sides -/
theorem RR_quiet {σ τ μ : Mem} (h : RR σ) (hA : AG σ τ) (h31 : τ 31 = rmM σ 31) (h32 : τ 32 = σ 32) (h33 : τ 33 = rmM σ 33) (h35 : τ 35 = σ 35) (hk : ∀ x, x ≠ 0 → x ≠ 48 → μ 5000 x = σ 5000 x) (hb : ∀ b, b < 5000 ∨ (5000 < b ∧ b < 5015) ∨ (5015 < b ∧ b < 5023) ∨ 5023 < b → μ b = τ b) (h48 : μ 5000 48 = rmb (th0 τ) 5000 48) (h23 : μ 5023 = rmb (th0 τ) 5023) (h15 : ∀ j, 26 ≤ j → j < 208 → μ 5015 j = σ 5015 j) (ha : auR (σ 5000 29) (σ 5000 30) (aud τ 16) (μ 5015)) : RR μ := by
  obtain ⟨m1, m2, m3, m4, m5, o, k, k5, mo⟩ := RR_m h hA
  have n := RR_n h
  have r31 := rmM_31 σ
  obtain ⟨q1, q2⟩ := act_q (τ := τ) (μ := μ) m3 m4 (by rw [k 29 (by decide)]; exact n.2.1.2) (fun x _ => by rw [h31]) h32 h33 ⟨by rw [hk 29 (by decide) (by decide), k 29 (by decide)], by rw [hk 30 (by decide) (by decide), k 30 (by decide)]⟩ h48 h23 (fun j j0 j1 => by rw [h15 j j0 j1, o 5015 (by decide) (by decide)]) (by rw [k 29 (by decide), k 30 (by decide)]; exact ha)
  have hG : MG τ μ := by
    refine ⟨fun b b1 b2 b3 => ?_, fun x a1 a2 a3 a4 a5 a6 a7 => by rw [hk x a1 a6, k5]⟩
    exact hb b (by omega)
  exact RR_act h hA ⟨by rw [h31]; exact r31.2.2.2.1, by rw [h31]; exact r31.2.2.2.2⟩ hG (mOk_c (by rw [hk 7 (by decide) (by decide), k 7 (by decide)]) (fun b hb' => by rw [hb b (by omega), th_o τ (by omega)]) mo) q1 q2 (ringR_c h32 h35 h.2.2.2.2.2.2.2.2.2.2)
