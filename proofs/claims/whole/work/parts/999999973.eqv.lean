/-! what a row of TICKETS costs, by sets and by CHAIRS; TICKETS and MOST are the same -/
theorem sOv_sum (g : Int → Int) (S : Int) : ∀ k : Nat, sOv g S k = sumC (fun c => if bt S c = 1 then g c else 0) k := by
  intro k
  induction k with
  | zero => rfl
  | succ k ih => rw [sumC_s, ← ih]; rfl
theorem csF_sum (s : Int → Int) (t S : Int) : ∀ k : Nat, csF s t S k = sumC (fun c => if bt S c = 1 then (if s c = t then 0 else 1000000) else 0) k := by
  intro k
  induction k with
  | zero => rfl
  | succ k ih => rw [sumC_s, ← ih]; rfl
theorem G_sum (h f : Int → Int) (t : Int) {n : Nat} (n6 : n ≤ 6) : sumC (fun c => if bt (hbits f t n) c = 1 then h c else 0) 6 = sumC (fun c => if f c = t then h c else 0) n := by
  obtain ⟨d, hd⟩ : ∃ d, n + d = 6 := ⟨6 - n, by omega⟩
  have e := sumC_tail (f := fun c => if bt (hbits f t n) c = 1 then h c else 0) (n := n) d (fun i a b => by
    show (if bt (hbits f t n) i = 1 then h i else 0) = 0
    have hb := hbits_bit f t (i := i) (by omega) (by omega) n6
    rw [if_neg (fun q => by omega)] at hb
    rw [hb, if_neg (by decide)])
  rw [hd] at e
  rw [e]
  refine sumC_cong (fun i i0 i1 => ?_)
  have hb := hbits_bit f t i0 (show i < 6 by omega) n6
  by_cases q : f i = t
  · rw [if_pos ⟨i1, q⟩] at hb
    rw [hb, if_pos rfl, if_pos q]
  · rw [if_neg (fun z => q z.2)] at hb
    rw [hb, if_neg (by decide), if_neg q]
theorem rpF_s (t S : Int) (i : Nat) : rpF t S (i + 1) = 10 * rpF t S i + if bt S i = 1 then t else 0 := rfl
theorem rpF_z (t : Int) : ∀ i : Nat, rpF t 0 i = 0 := by
  intro i
  induction i with
  | zero => rfl
  | succ i ih => rw [rpF_s, ih, bt_0, if_neg (by decide)]; rfl
theorem rp_sum {r : Int → Int} {n K : Nat} (n6 : n ≤ 6) (hf : ∀ c : Int, 0 ≤ c → c < n → 0 ≤ r (4 * c + 1) ∧ r (4 * c + 1) < K) : ∀ i : Nat, i ≤ n → sumC (fun t => rpF t (hbits (fun c => r (4 * c + 1)) t n) i) K = rwF r i := by
  intro i
  induction i with
  | zero => intro _; exact sumC_0 K (fun _ _ _ => rfl)
  | succ i ih =>
    intro hi
    have hc := hf i (by omega) (by omega)
    have e : sumC (fun t => rpF t (hbits (fun c => r (4 * c + 1)) t n) (i + 1)) K = sumC (fun t => 10 * rpF t (hbits (fun c => r (4 * c + 1)) t n) i + if r (4 * (i : Int) + 1) = t then t else 0) K := by
      refine sumC_cong (fun t _ _ => ?_)
      have hb := hbits_bit (fun c => r (4 * c + 1)) t (i := (i : Int)) (by omega) (by omega) n6
      rw [rpF_s]
      by_cases q : r (4 * (i : Int) + 1) = t
      · rw [if_pos ⟨by omega, q⟩] at hb
        rw [hb, if_pos rfl, if_pos q]
      · rw [if_neg (fun z => q z.2)] at hb
        rw [hb, if_neg (by decide), if_neg q]
    rw [e, sumC_add (fun t => 10 * rpF t (hbits (fun c => r (4 * c + 1)) t n) i) (fun t => if r (4 * (i : Int) + 1) = t then t else 0), sumC_mul, ih (by omega), sumC_pick (fun t => t) hc.1, if_pos hc.2, rwF_s]
theorem G_no {f : Int → Int} {t : Int} {n : Nat} (n6 : n ≤ 6) (z : hbits f t n = 0) {c : Int} (c0 : 0 ≤ c) (c1 : c < n) : f c ≠ t := by
  intro e
  have := hbits_bit f t c0 (by omega) n6
  rw [z, bt_0, if_pos ⟨c1, e⟩] at this
  omega
/-- a sum over groups, CHAIR by CHAIR -/
theorem tot_G {f : Int → Int} {n K : Nat} {V : Int → Int → Int} (hf : ∀ c : Int, 0 ≤ c → c < n → 0 ≤ f c ∧ f c < K) : sumC (fun t => sumC (fun c => if f c = t then V t c else 0) n) K = sumC (fun c => V (f c) c) n := by
  rw [sumC_swap (fun t c => if f c = t then V t c else 0)]
  refine sumC_cong (fun c c0 c1 => ?_)
  have h := hf c c0 c1
  rw [sumC_pick (fun t => V t c) h.1, if_pos h.2]
theorem tot_most {σ : Mem} {p : Int} {r : Int → Int} {n K : Nat} (n6 : n ≤ 6) (hn : (pcnt σ 6 2).toNat = n) (hf : ∀ c : Int, 0 ≤ c → c < n → 0 ≤ r (4 * c + 1) ∧ r (4 * c + 1) < K) : sumC (fun t => if hbits (fun c => r (4 * c + 1)) t n = 0 then 0 else tkF σ p (-1) t (hbits (fun c => r (4 * c + 1)) t n)) K = -1000000 * sumC (fun c => sFl σ p (r (4 * c + 1)) (hbits (fun c => r (4 * c + 1)) (r (4 * c + 1)) n) c) n + rwF r n := by
  have e : sumC (fun t => if hbits (fun c => r (4 * c + 1)) t n = 0 then 0 else tkF σ p (-1) t (hbits (fun c => r (4 * c + 1)) t n)) K = sumC (fun t => -1000000 * sumC (fun c => if r (4 * c + 1) = t then sFl σ p t (hbits (fun c => r (4 * c + 1)) t n) c else 0) n + rpF t (hbits (fun c => r (4 * c + 1)) t n) n) K := by
    refine sumC_cong (fun t _ _ => ?_)
    by_cases z : hbits (fun c => r (4 * c + 1)) t n = 0
    · rw [if_pos z, sumC_0 n (fun c c0 c1 => if_neg (G_no n6 z c0 c1)), z, rpF_z]; rfl
    · rw [if_neg z]
      unfold tkF
      rw [if_pos rfl, hn, sOv_sum, G_sum (sFl σ p t (hbits (fun c => r (4 * c + 1)) t n)) (fun c => r (4 * c + 1)) t n6]
  rw [e, sumC_add (fun t => -1000000 * sumC (fun c => if r (4 * c + 1) = t then sFl σ p t (hbits (fun c => r (4 * c + 1)) t n) c else 0) n) (fun t => rpF t (hbits (fun c => r (4 * c + 1)) t n) n), sumC_mul, rp_sum n6 hf n (Nat.le_refl _), tot_G (f := fun c => r (4 * c + 1)) (V := fun t c => sFl σ p t (hbits (fun c => r (4 * c + 1)) t n) c) hf]
theorem oc_sum (q r : Int → Int) : ∀ n : Nat, oc q r n = sumC (fun c => if r (4 * c + 1) = q (4 * c + 1) then 0 else 1) n := by
  intro n
  induction n with
  | zero => rfl
  | succ n ih => rw [sumC_s, ← ih]; rfl
theorem tot_tick {σ : Mem} {p w : Int} {q r : Int → Int} {n K : Nat} (hw : w ≠ -1) (n6 : n ≤ 6) (hn : (pcnt σ 6 2).toNat = n) (hf : ∀ c : Int, 0 ≤ c → c < n → 0 ≤ r (4 * c + 1) ∧ r (4 * c + 1) < K) (hq : ∀ c : Int, 0 ≤ c → c < n → σ 18 c = q (4 * c + 1))
    (hok : ∀ c : Int, 0 ≤ c → c < n → w ≤ sFl σ p (r (4 * c + 1)) (hbits (fun c => r (4 * c + 1)) (r (4 * c + 1)) n) c ∧ sOa σ p (r (4 * c + 1)) (hbits (fun c => r (4 * c + 1)) (r (4 * c + 1)) n) c = -1) :
    sumC (fun t => if hbits (fun c => r (4 * c + 1)) t n = 0 then 0 else tkF σ p w t (hbits (fun c => r (4 * c + 1)) t n)) K = 1000000 * oc q r n + rwF r n := by
  have e : sumC (fun t => if hbits (fun c => r (4 * c + 1)) t n = 0 then 0 else tkF σ p w t (hbits (fun c => r (4 * c + 1)) t n)) K = sumC (fun t => sumC (fun c => if r (4 * c + 1) = t then (if σ 18 c = t then 0 else 1000000) else 0) n + rpF t (hbits (fun c => r (4 * c + 1)) t n) n) K := by
    refine sumC_cong (fun t _ _ => ?_)
    by_cases z : hbits (fun c => r (4 * c + 1)) t n = 0
    · rw [if_pos z, sumC_0 n (fun c c0 c1 => if_neg (G_no n6 z c0 c1)), z, rpF_z]; rfl
    · rw [if_neg z]
      have nb : ¬ badP (sFl σ p t (hbits (fun c => r (4 * c + 1)) t n)) (sOa σ p t (hbits (fun c => r (4 * c + 1)) t n)) w (hbits (fun c => r (4 * c + 1)) t n) 6 := by
        rintro ⟨i, i0, i1, hb, h⟩
        rw [hbits_bit _ _ i0 i1 n6] at hb
        by_cases y : i < n ∧ r (4 * i + 1) = t
        · have := hok i i0 y.1
          rw [y.2] at this
          rcases h with h | h
          · omega
          · exact h this.2
        · rw [if_neg y] at hb; omega
      unfold tkF
      rw [if_neg hw, chF_f nb, hn, csF_sum, G_sum (fun c => if σ 18 c = t then 0 else 1000000) (fun c => r (4 * c + 1)) t n6]
  rw [e, sumC_add (fun t => sumC (fun c => if r (4 * c + 1) = t then (if σ 18 c = t then 0 else 1000000) else 0) n) (fun t => rpF t (hbits (fun c => r (4 * c + 1)) t n) n), rp_sum n6 hf n (Nat.le_refl _), tot_G (f := fun c => r (4 * c + 1)) (V := fun t c => if σ 18 c = t then 0 else 1000000) hf, oc_sum, ← sumC_mul]
  congr 1
  refine sumC_cong (fun c c0 c1 => ?_)
  rw [hq c c0 c1]
  by_cases y : q (4 * c + 1) = r (4 * c + 1)
  · rw [if_pos y, if_pos y.symm]; rfl
  · rw [if_neg y, if_neg (fun z => y z.symm)]; rfl
theorem tot_bad {σ : Mem} {p w : Int} {r : Int → Int} {n K : Nat} (hB : planB σ 6) (h9 : pval σ 6 1 p 3 ≤ 9) (hw : w ≠ -1) (n6 : n ≤ 6) (hn : (pcnt σ 6 2).toNat = n) (K6 : K ≤ 6) (hf : ∀ c : Int, 0 ≤ c → c < n → 0 ≤ r (4 * c + 1) ∧ r (4 * c + 1) < K)
    {c : Int} (c0 : 0 ≤ c) (c1 : c < n) (hbad : sFl σ p (r (4 * c + 1)) (hbits (fun c => r (4 * c + 1)) (r (4 * c + 1)) n) c < w ∨ sOa σ p (r (4 * c + 1)) (hbits (fun c => r (4 * c + 1)) (r (4 * c + 1)) n) c ≠ -1) :
    1152921504606846976 ≤ sumC (fun t => if hbits (fun c => r (4 * c + 1)) t n = 0 then 0 else tkF σ p w t (hbits (fun c => r (4 * c + 1)) t n)) K := by
  have hc := hf c c0 c1
  have hbit : bt (hbits (fun c => r (4 * c + 1)) (r (4 * c + 1)) n) c = 1 := by rw [hbits_bit _ _ c0 (by omega) n6, if_pos ⟨c1, rfl⟩]
  refine (sumC_ge (a := r (4 * c + 1)) (by decide) hc.1 ?_ K (fun t t0 t1 => ?_)).2 hc.2
  · have g := hbits_64 (fun c => r (4 * c + 1)) (r (4 * c + 1)) n6
    have nz : hbits (fun c => r (4 * c + 1)) (r (4 * c + 1)) n ≠ 0 := fun z => by rw [z, bt_0] at hbit; omega
    show _ ≤ if hbits (fun c => r (4 * c + 1)) (r (4 * c + 1)) n = 0 then 0 else _
    rw [if_neg nz]
    have bd : badP (sFl σ p (r (4 * c + 1)) (hbits (fun c => r (4 * c + 1)) (r (4 * c + 1)) n)) (sOa σ p (r (4 * c + 1)) (hbits (fun c => r (4 * c + 1)) (r (4 * c + 1)) n)) w (hbits (fun c => r (4 * c + 1)) (r (4 * c + 1)) n) 6 := ⟨c, c0, by omega, hbit, hbad⟩
    have rb := rpF_b (t := r (4 * c + 1)) (hbits (fun c => r (4 * c + 1)) (r (4 * c + 1)) n) hc.1 (by omega) n
    unfold tkF
    rw [if_neg hw, chF_t bd, hn]
    omega
  · by_cases z : hbits (fun c => r (4 * c + 1)) t n = 0
    · rw [if_pos z]; exact Int.le_refl _
    · rw [if_neg z]
      have g := hbits_64 (fun c => r (4 * c + 1)) t n6
      have := tkF_b (w := w) hB h9 g.1 g.2 t0 (by omega)
      rw [if_neg hw] at this
      exact this.1
/-- a row of TICKETS apart: what a CHAIR feels in the reference and in its group -/
theorem grp_row {σ m : Mem} {p : Int} (hH : eqH σ m) (hA : eqA σ m 16 5015) (hx : mX m 5015) (p0 : 0 ≤ p) (p1 : p < m 5000 28) {r : Int → Int} {n : Nat} (hn : m 5000 29 = n) (hr : ∀ j, (∀ d, 0 ≤ d → d < (n : Int) → j ≠ 4 * d + 1) → r j = m 5015 j) (hf : ∀ c : Int, 0 ≤ c → c < n → 0 ≤ r (4 * c + 1) ∧ r (4 * c + 1) < m 5000 30) {c : Int} (c0 : 0 ≤ c) (c1 : c < n) :
    sFl σ p (r (4 * c + 1)) (hbits (fun c => r (4 * c + 1)) (r (4 * c + 1)) n) c = mFl (setv m 5016 r) 5016 p (mMi m p) c ∧ sOa σ p (r (4 * c + 1)) (hbits (fun c => r (4 * c + 1)) (r (4 * c + 1)) n) c = mOa (setv m 5016 r) 5016 p (mMi m p) c := by
  obtain ⟨e2, e1, e3, eL, eP, eD, eR⟩ := id hH
  obtain ⟨aC, aI, aE⟩ := hA
  have m9 := mMi_9 hx p0 p1
  have n29 := hx.2.1.2.2.1
  have s16 : setv m 5016 r 5016 = r := setv_s _ _ _
  have so : ∀ b, b ≠ 5016 → setv m 5016 r b = m b := fun b h => setv_o _ _ h
  have hc := hf c c0 c1
  have eMi : pval σ 6 1 p 3 = m 5007 (4 * p + 3) := eP p 3 p0 p1 (by decide) (by decide)
  have hb := hbits_64 (fun c => r (4 * c + 1)) (r (4 * c + 1)) (n := n) (by omega)
  have hS : ∀ d : Int, 0 ≤ d → d < 6 → bt (hbits (fun c => r (4 * c + 1)) (r (4 * c + 1)) n) d = if d < n ∧ setv m 5016 r 5016 (4 * d + 1) = r (4 * c + 1) then 1 else 0 := by
    intro d d0 d1
    rw [hbits_bit _ _ d0 d1 (by omega), s16]
  have r24 : r 24 = m 5015 24 := hr 24 (fun d _ _ => by omega)
  have r26 : r 26 = m 5015 26 := hr 26 (fun d _ _ => by omega)
  have hg : ∀ (d N : Int) (k : Nat), 0 ≤ d → d < n → setv m 5016 r 5016 (4 * d + 1) = r (4 * c + 1) → 1 ≤ N → N ≤ 6 → k < mMi m p → gmv σ 16 (r (4 * c + 1)) p d N k = if bt (setv m 5016 r 5016 24) (r (4 * c + 1)) = 1 then 0 else mRk (setv m 5016 r) (setv m 5016 r 5007 (4 * p + (k : Int) % 3)) (setv m 5016 r 5016 (4 * d)) (setv m 5016 r 5011 (r (4 * c + 1))) N k (setv m 5016 r 5016 26) := by
    intro d N k d0 d1 dt N1 N6 hk
    have hk' : (k : Int) < m 5007 (4 * p + 3) := by unfold mMi at hk; omega
    have eK : mRk (setv m 5016 r) (m 5007 (4 * p + (k : Int) % 3)) (m 5015 (4 * d)) (m 5011 (r (4 * c + 1))) N k (m 5015 26) = mRk m (m 5007 (4 * p + (k : Int) % 3)) (m 5015 (4 * d)) (m 5011 (r (4 * c + 1))) N k (m 5015 26) := by
      unfold mRk
      rw [mwo_c (so 5002 (by decide)) (so 5003 (by decide)), so 5000 (by decide)]
    rw [s16, so 5007 (by decide), so 5011 (by decide), r24, r26, hr (4 * d) (fun e _ _ => by omega), eK]
    exact gmv_mR hH aI aE hx p0 p1 hc.1 hc.2 d0 (by omega) (aC d d0 (by omega)).1 N1 N6 (by omega)
  have G := grp (g := gmv σ 16 (r (4 * c + 1)) p) (S := hbits (fun c => r (4 * c + 1)) (r (4 * c + 1)) n) (m := setv m 5016 r) (w := 5016) (t := r (4 * c + 1)) (p := p) (K := mMi m p) (by rw [so 5000 (by decide)]; exact hn) (by omega) hb.1 hb.2 hS hg (mMi m p) (Nat.le_refl _)
  have := G.2 c c0 c1 (by rw [s16])
  rw [so 5005 (by decide)] at this
  unfold sFl sOa
  rw [eMi, eL]
  exact this
theorem xt_5 {S : Nat} (hS : S ≤ 6) {d : Nat} (hd : d ≤ 5) {r r' : Int → Int} (h : xt S (d + 1) 0 r r') : rwF r' (d + 1) < 600000 := by
  obtain ⟨t, ht, h⟩ := h
  have a := xt_row (show S ≤ 10 by omega) d 1 (upf r (4 * ((0 : Nat) : Int) + 1) t) r' h
  rw [rwF_u, show rwF r 0 = 0 from rfl, show 1 + d = d + 1 by omega] at a
  have p5 : (10 : Int) ^ d ≤ 100000 := by
    have key : ∀ n : Nat, n < 6 → (10 : Int) ^ n ≤ 100000 := by decide +kernel
    exact key d (by omega)
  have p0 : (0 : Int) < 10 ^ d := Int.pow_pos (by decide)
  generalize (10 : Int) ^ d = P at *
  have e4 : (10 * 0 + (t : Int)) * P ≤ 5 * P := Int.mul_le_mul_of_nonneg_right (by omega) (by omega)
  omega
theorem xt_all {m : Mem} {n S : Nat} (hn : m 5000 29 = n) {r : Int → Int} (h : xt S n 0 (m 5015) r) : (∀ j, (∀ d, 0 ≤ d → d < (n : Int) → j ≠ 4 * d + 1) → r j = m 5015 j) ∧ ∀ c : Int, 0 ≤ c → c < n → 0 ≤ r (4 * c + 1) ∧ r (4 * c + 1) < S :=
  ⟨fun j hj => xt_pre h j (fun e a b => hj e a (by omega)), fun c c0 c1 => xt_in h c c0 (by omega)⟩
theorem tick_eq {σ m : Mem} {p w : Int} (hH : eqH σ m) (hA : eqA σ m 16 5015) (hx : mX m 5015) (hB : planB σ 6) (p0 : 0 ≤ p) (p1 : p < m 5000 28) (w0 : 0 ≤ w) {n : Nat} (hn : m 5000 29 = n) (n1 : 1 ≤ n) {B : Int → Int} (hD : dpC σ p w (2 ^ n - 1) (m 5000 30).toNat B) :
    (tkG m p w n (m 5015) 0 0 (-1, -1) = if 1152921504606846976 ≤ B (2 ^ n - 1) then (-1, -1) else (B (2 ^ n - 1) % 1000000, B (2 ^ n - 1) / 1000000)) ∧ (B (2 ^ n - 1) < 1152921504606846976 → 0 ≤ B (2 ^ n - 1) ∧ B (2 ^ n - 1) ≤ 1000000000000) := by
  have n29 := hx.2.1.2.2.1
  have n30 := hx.2.1.2.2.2.1
  have m9 := mMi_9 hx p0 p1
  obtain ⟨S, hS⟩ : ∃ S : Nat, m 5000 30 = S := ⟨(m 5000 30).toNat, by omega⟩
  rw [hS, Int.toNat_natCast] at hD
  have e2 : (pcnt σ 6 2).toNat = n := by rw [hH.1, hn, Int.toNat_natCast]
  have e9 : pval σ 6 1 p 3 ≤ 9 := by rw [hH.2.2.2.2.1 p 3 p0 p1 (by decide) (by decide)]; exact m9.2
  have hw : w ≠ -1 := by omega
  have n6 : n ≤ 6 := by omega
  have hq : ∀ c : Int, 0 ≤ c → c < n → σ 18 c = m 5015 (4 * c + 1) := fun c c0 c1 => (hA.1 c c0 (by omega)).2
  have cost : ∀ r, xt S n 0 (m 5015) r → (tkO m p w r → sumC (fun t => if hbits (fun c => r (4 * c + 1)) t n = 0 then 0 else tkF σ p w t (hbits (fun c => r (4 * c + 1)) t n)) S = 1000000 * oc (m 5015) r n + rwF r n) ∧ (¬ tkO m p w r → 1152921504606846976 ≤ sumC (fun t => if hbits (fun c => r (4 * c + 1)) t n = 0 then 0 else tkF σ p w t (hbits (fun c => r (4 * c + 1)) t n)) S) := by
    intro r hr
    obtain ⟨a1, a2⟩ := xt_all hn hr
    have a3 : ∀ c : Int, 0 ≤ c → c < n → 0 ≤ r (4 * c + 1) ∧ r (4 * c + 1) < m 5000 30 := by rw [hS]; exact a2
    have g := fun (c : Int) (c0 : 0 ≤ c) (c1 : c < n) => grp_row hH hA hx p0 p1 hn a1 a3 c0 c1
    have so5 : setv m 5016 r 5000 = m 5000 := setv_o _ _ (by decide)
    have ob := mOu_b (setv m 5016 r) 5016 p (by rw [so5]; omega) (mMi m p)
    refine ⟨fun hk => tot_tick hw n6 e2 a2 hq (fun c c0 c1 => ?_), fun hk => ?_⟩
    · rw [(g c c0 c1).1, (g c c0 c1).2]
      refine ⟨hk.2 c c0 (by omega), ?_⟩
      have := mOu_oa (σ := setv m 5016 r) (w := 5016) (p := p) (by rw [so5]; omega) c0 (by rw [so5]; omega) (mMi m p)
      rw [hk.1, bt_0] at this
      exact Classical.byContradiction (fun q => absurd (this.mpr q) (by decide))
    · have ex : ∃ c : Int, 0 ≤ c ∧ c < n ∧ (mFl (setv m 5016 r) 5016 p (mMi m p) c < w ∨ mOa (setv m 5016 r) 5016 p (mMi m p) c ≠ -1) := by
        refine Classical.byContradiction (fun q => hk ⟨?_, fun c c0 c1 => ?_⟩)
        · refine bt_ext ob.1 ob.2 (by decide) (by decide) (fun i i0 i1 => ?_)
          rw [bt_0]
          have b01 := bt_b (mOu (setv m 5016 r) 5016 p (mMi m p)) i
          by_cases l : i < n
          · have := mOu_oa (σ := setv m 5016 r) (w := 5016) (p := p) (by rw [so5]; omega) i0 (by rw [so5]; omega) (mMi m p)
            by_cases y : bt (mOu (setv m 5016 r) 5016 p (mMi m p)) i = 1
            · exact absurd ⟨i, i0, l, Or.inr (this.mp y)⟩ q
            · omega
          · rw [← mOu_gb (by rw [so5]; omega) (by rw [so5]; omega)]
            unfold outB
            rw [gb_bit _ i0 i1 _ (by rw [so5]; omega), if_neg (fun y => by rw [so5] at y; omega)]
        · refine Classical.byContradiction (fun y => q ⟨c, c0, by omega, Or.inl (by omega)⟩)
      obtain ⟨c, c0, c1, hc⟩ := ex
      rw [← (g c c0 c1).1, ← (g c c0 c1).2] at hc
      exact tot_bad hB e9 hw n6 e2 (by omega) a2 c0 c1 hc
  have sr := tkG_ok (p := p) (w := w) hn n6 hS (by omega) n 0 (m 5015) 0 (-1, -1) (by omega) rfl (fun r' h => xt_6 (by omega) n6 h) (Or.inl rfl)
  rw [show ((0 : Nat) : Int) = 0 from rfl] at sr
  have lb : ∀ r, xt S n 0 (m 5015) r → B (2 ^ n - 1) ≤ sumC (fun t => if hbits (fun c => r (4 * c + 1)) t n = 0 then 0 else tkF σ p w t (hbits (fun c => r (4 * c + 1)) t n)) S := by
    intro r hr
    obtain ⟨a1, a2⟩ := xt_all hn hr
    have := dp_lb (f := fun c => r (4 * c + 1)) n6 S B hD (fun c c0 c1 => (a2 c c0 c1).1)
    have g := gb_64 (fun c => decide (r (4 * c + 1) < (S : Int))) n6
    have f6 := full_64 n6
    have e : gb (fun c => decide (r (4 * c + 1) < (S : Int))) n = 2 ^ n - 1 := by
      refine bt_ext g.1 g.2 f6.1 f6.2 (fun i i0 i1 => ?_)
      rw [gb_bit _ i0 i1 n n6]
      have bf := bt_full0 n n6 i.toNat (by omega)
      rw [show ((i.toNat : Nat) : Int) = i by omega] at bf
      rw [bf]
      by_cases l : i < n
      · rw [if_pos ⟨l, decide_eq_true (a2 i i0 l).2⟩, if_pos (by omega)]
      · rw [if_neg (fun y => l y.1), if_neg (by omega)]
    rw [e] at this
    exact this
  have att : B (2 ^ n - 1) < 1152921504606846976 → ∃ r, xt S n 0 (m 5015) r ∧ B (2 ^ n - 1) = sumC (fun t => if hbits (fun c => r (4 * c + 1)) t n = 0 then 0 else tkF σ p w t (hbits (fun c => r (4 * c + 1)) t n)) S := by
    intro hlt
    have f6 := full_64 n6
    have hat := dp_att (σ := σ) (p := p) (w := w) n6 (lo := 0) (by decide) (K := S) (by omega) (fun t T ht T1 T2 => by
      have := tkF_b (w := w) hB e9 (show (0 : Int) ≤ T by omega) (show (T : Int) < 64 by omega) (show (0 : Int) ≤ t by omega) (by omega)
      rw [if_neg hw] at this
      omega) S B (Nat.le_refl _) hD ((2 : Int) ^ n - 1).toNat (by omega)
    rw [show ((((2 : Int) ^ n - 1).toNat : Nat) : Int) = 2 ^ n - 1 by omega] at hat
    rcases hat with h | ⟨f, hf, hv⟩
    · rw [Int.zero_mul] at h; omega
    · have hin : ∀ e : Int, 0 ≤ e → e < 0 + (n : Int) → 0 ≤ f e ∧ f e < S := by
        intro e e0 e1
        rcases hf e e0 (by omega) with h | h
        · exact ⟨h.1, h.2.1⟩
        · have bf := bt_full0 n n6 e.toNat (by omega)
          rw [show ((e.toNat : Nat) : Int) = e by omega, if_pos (by omega)] at bf
          omega
      obtain ⟨r, hr, hrf⟩ := xt_mk f n 0 (m 5015) hin
      refine ⟨r, hr, ?_⟩
      rw [hv]
      refine sumC_cong (fun t _ _ => ?_)
      rw [hbits_c (f := f) (g := fun c => r (4 * c + 1)) (fun c c0 c1 => by rw [hrf c c0 (by omega)])]
  obtain ⟨s1, s2, s3⟩ := sr
  have vb : ∀ r, xt S n 0 (m 5015) r → tcd (rwF r n, oc (m 5015) r n) = 1000000 * oc (m 5015) r n + rwF r n := fun r _ => by
    have := oc_b (m 5015) r n
    exact tcd_n (show oc (m 5015) r n ≠ -1 by omega)
  rcases s1 with e | ⟨r, hr, hk, e⟩
  · have hnone : ∀ r, xt S n 0 (m 5015) r → ¬ tkO m p w r := by
      intro r hr hk
      have := s2 r hr hk
      have v := vb r hr
      have b1 := oc_b (m 5015) r n
      have b2 := xt_6 (by omega) n6 hr
      rw [e] at this
      have t0 : tcd (-1, -1) = 1000000000000000 := rfl
      rw [t0] at this
      have : (1000000000000000 : Int) ≤ 1000000 * oc (m 5015) r n + rwF r n := by rw [← v]; exact this
      omega
    have : 1152921504606846976 ≤ B (2 ^ n - 1) := by
      refine Classical.byContradiction (fun q => ?_)
      obtain ⟨r, hr, hv⟩ := att (by omega)
      have := (cost r hr).2 (hnone r hr)
      omega
    exact ⟨by rw [e, if_pos this], fun q => by omega⟩
  · have v := vb r hr
    have b1 := oc_b (m 5015) r n
    have b2 := xt_6 (by omega) n6 hr
    have l1 := lb r hr
    rw [(cost r hr).1 hk] at l1
    have hlt : B (2 ^ n - 1) < 1152921504606846976 := by omega
    obtain ⟨r2, hr2, hv⟩ := att hlt
    have hk2 : tkO m p w r2 := Classical.byContradiction (fun q => by have := (cost r2 hr2).2 q; omega)
    rw [(cost r2 hr2).1 hk2] at hv
    have l2 := s2 r2 hr2 hk2
    rw [e] at l2
    have l2 : tcd (rwF r n, oc (m 5015) r n) ≤ tcd (rwF r2 n, oc (m 5015) r2 n) := l2
    rw [v, vb r2 hr2] at l2
    have eB : B (2 ^ n - 1) = 1000000 * oc (m 5015) r n + rwF r n := by omega
    refine ⟨?_, fun _ => by omega⟩
    rw [e, if_neg (by omega), eB]
    show (rwF r n, oc (m 5015) r n) = _
    rw [show (1000000 * oc (m 5015) r n + rwF r n) % 1000000 = rwF r n by omega, show (1000000 * oc (m 5015) r n + rwF r n) / 1000000 = oc (m 5015) r n by omega]
theorem most_eq {σ m : Mem} {p : Int} (hH : eqH σ m) (hA : eqA σ m 16 5015) (hx : mX m 5015) (hB : planB σ 6) (p0 : 0 ≤ p) (p1 : p < m 5000 28) {n : Nat} (hn : m 5000 29 = n) (n1 : 1 ≤ n) (s1 : 1 ≤ m 5000 30) {B : Int → Int} (hD : dpC σ p (-1) (2 ^ n - 1) (m 5000 30).toNat B) :
    mstF m p n (m 5015) 0 (-1, -1) = (B (2 ^ n - 1) % 1000000, -(B (2 ^ n - 1) / 1000000)) ∧ -1000000000000 ≤ B (2 ^ n - 1) ∧ B (2 ^ n - 1) ≤ 1000000000000 := by
  have n29 := hx.2.1.2.2.1
  have n30 := hx.2.1.2.2.2.1
  have n28 := hx.2.1.2.2.2.2.1
  have m9 := mMi_9 hx p0 p1
  obtain ⟨S, hS⟩ : ∃ S : Nat, m 5000 30 = S := ⟨(m 5000 30).toNat, by omega⟩
  rw [hS, Int.toNat_natCast] at hD
  have e2 : (pcnt σ 6 2).toNat = n := by rw [hH.1, hn, Int.toNat_natCast]
  have e9 : pval σ 6 1 p 3 ≤ 9 := by rw [hH.2.2.2.2.1 p 3 p0 p1 (by decide) (by decide)]; exact m9.2
  have n6 : n ≤ 6 := by omega
  have cost : ∀ r, xt S n 0 (m 5015) r → sumC (fun t => if hbits (fun c => r (4 * c + 1)) t n = 0 then 0 else tkF σ p (-1) t (hbits (fun c => r (4 * c + 1)) t n)) S = -1000000 * rMv m p r + rwF r n := by
    intro r hr
    obtain ⟨a1, a2⟩ := xt_all hn hr
    have a3 : ∀ c : Int, 0 ≤ c → c < n → 0 ≤ r (4 * c + 1) ∧ r (4 * c + 1) < m 5000 30 := by rw [hS]; exact a2
    rw [tot_most n6 e2 a2]
    unfold rMv
    rw [hn, Int.toNat_natCast, sumC_cong (fun c c0 c1 => (grp_row hH hA hx p0 p1 hn a1 a3 c0 c1).1)]
  have mvb : ∀ r, 0 ≤ rMv m p r ∧ rMv m p r ≤ 10000 := fun r => rMv_b hx ⟨by omega, by omega⟩
  have sr := mstF_ok (p := p) hn hS (by omega) n 0 (m 5015) (-1, -1) (by omega) (fun r' h => xt_6 (by omega) n6 h) (by decide) (fun r' h => by
    have := xt_6 (by omega) n6 h
    show (-1 : Int) < _
    omega)
  rw [show ((0 : Nat) : Int) = 0 from rfl] at sr
  have lb : ∀ r, xt S n 0 (m 5015) r → B (2 ^ n - 1) ≤ sumC (fun t => if hbits (fun c => r (4 * c + 1)) t n = 0 then 0 else tkF σ p (-1) t (hbits (fun c => r (4 * c + 1)) t n)) S := by
    intro r hr
    obtain ⟨a1, a2⟩ := xt_all hn hr
    have := dp_lb (f := fun c => r (4 * c + 1)) n6 S B hD (fun c c0 c1 => (a2 c c0 c1).1)
    have g := gb_64 (fun c => decide (r (4 * c + 1) < (S : Int))) n6
    have f6 := full_64 n6
    have e : gb (fun c => decide (r (4 * c + 1) < (S : Int))) n = 2 ^ n - 1 := by
      refine bt_ext g.1 g.2 f6.1 f6.2 (fun i i0 i1 => ?_)
      rw [gb_bit _ i0 i1 n n6]
      have bf := bt_full0 n n6 i.toNat (by omega)
      rw [show ((i.toNat : Nat) : Int) = i by omega] at bf
      rw [bf]
      by_cases l : i < n
      · rw [if_pos ⟨l, decide_eq_true (a2 i i0 l).2⟩, if_pos (by omega)]
      · rw [if_neg (fun y => l y.1), if_neg (by omega)]
    rw [e] at this
    exact this
  obtain ⟨r0, hr0, -⟩ := xt_mk (S := S) (fun _ => 0) n 0 (m 5015) (fun e _ _ => ⟨Int.le_refl _, by omega⟩)
  have l0 := lb r0 hr0
  rw [cost r0 hr0] at l0
  have b0 := xt_6 (by omega) n6 hr0
  have v0 := mvb r0
  have att : ∃ r, xt S n 0 (m 5015) r ∧ B (2 ^ n - 1) = sumC (fun t => if hbits (fun c => r (4 * c + 1)) t n = 0 then 0 else tkF σ p (-1) t (hbits (fun c => r (4 * c + 1)) t n)) S := by
    have f6 := full_64 n6
    have hat := dp_att (σ := σ) (p := p) (w := -1) n6 (lo := 6000000000) (by decide) (K := S) (by omega) (fun t T ht T1 T2 => by
      have := tkF_b (w := -1) hB e9 (show (0 : Int) ≤ T by omega) (show (T : Int) < 64 by omega) (show (0 : Int) ≤ t by omega) (by omega)
      rw [if_pos rfl] at this
      omega) S B (Nat.le_refl _) hD ((2 : Int) ^ n - 1).toNat (by omega)
    rw [show ((((2 : Int) ^ n - 1).toNat : Nat) : Int) = 2 ^ n - 1 by omega] at hat
    rcases hat with h | ⟨f, hf, hv⟩
    · omega
    · have hin : ∀ e : Int, 0 ≤ e → e < 0 + (n : Int) → 0 ≤ f e ∧ f e < S := by
        intro e e0 e1
        rcases hf e e0 (by omega) with h | h
        · exact ⟨h.1, h.2.1⟩
        · have bf := bt_full0 n n6 e.toNat (by omega)
          rw [show ((e.toNat : Nat) : Int) = e by omega, if_pos (by omega)] at bf
          omega
      obtain ⟨r, hr, hrf⟩ := xt_mk f n 0 (m 5015) hin
      refine ⟨r, hr, ?_⟩
      rw [hv]
      refine sumC_cong (fun t _ _ => ?_)
      rw [hbits_c (f := f) (g := fun c => r (4 * c + 1)) (fun c c0 c1 => by rw [hrf c c0 (by omega)])]
  obtain ⟨s1', s2, s3⟩ := sr
  have found : ∃ r, xt S n 0 (m 5015) r ∧ mstF m p n (m 5015) 0 (-1, -1) = (rwF r n, rMv m p r) := by
    rcases s1' with e | ⟨r, hr, _, e⟩
    · have := s2 r0 hr0 trivial
      have : ycd (mstF m p n (m 5015) 0 (-1, -1)) ≤ ycd (rwF r0 n, rMv m p r0) := this
      rw [e] at this
      unfold ycd at this
      have : (-1000000 * (-1) + (-1) : Int) ≤ -1000000 * rMv m p r0 + rwF r0 n := this
      obtain ⟨d, hd⟩ : ∃ d, n = d + 1 := ⟨n - 1, by omega⟩
      rw [hd] at hr0 this
      have := xt_5 (by omega) (by omega) hr0
      omega
    · exact ⟨r, hr, e⟩
  obtain ⟨r, hr, e⟩ := found
  obtain ⟨r2, hr2, hv⟩ := att
  have l1 := lb r hr
  rw [cost r hr] at l1
  rw [cost r2 hr2] at hv
  have l2 := s2 r2 hr2 trivial
  have l2 : ycd (mstF m p n (m 5015) 0 (-1, -1)) ≤ ycd (rwF r2 n, rMv m p r2) := l2
  rw [e] at l2
  unfold ycd at l2
  have l2 : -1000000 * rMv m p r + rwF r n ≤ -1000000 * rMv m p r2 + rwF r2 n := l2
  have b2 := xt_6 (by omega) n6 hr
  have eB : B (2 ^ n - 1) = -1000000 * rMv m p r + rwF r n := by omega
  have v9 := mvb r
  refine ⟨?_, by omega, by omega⟩
  rw [e, eB, show (-1000000 * rMv m p r + rwF r n) % 1000000 = rwF r n by omega, show (-1000000 * rMv m p r + rwF r n) / 1000000 = -rMv m p r by omega, Int.neg_neg]
