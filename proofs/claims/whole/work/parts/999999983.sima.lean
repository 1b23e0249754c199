/-! ACTS side by side: what is remembered, EVENINGS -/
theorem rmM_33 (σ : Mem) (x : Int) : rmM σ 33 x = if x = σ 31 4 * 28 + 27 then σ 31 1 else if σ 31 4 * 28 ≤ x ∧ x < σ 31 4 * 28 + 27 then aud σ 16 (x - σ 31 4 * 28) else σ 33 x := by
  unfold rmM
  rw [up_na _ (by decide), up_na _ (by decide)]
  by_cases c : x = σ 31 4 * 28 + 27
  · rw [if_pos c, c, up_s]
  · rw [if_neg c, up_nj _ c]
    unfold savR
    by_cases d : σ 31 4 * 28 ≤ x ∧ x < σ 31 4 * 28 + 27
    · rw [if_pos d, if_pos ⟨rfl, d⟩]
    · rw [if_neg d, if_neg (fun z => d z.2)]
theorem rmM_31 (σ : Mem) : rmM σ 31 1 = σ 31 1 ∧ rmM σ 31 3 = min 40 (σ 31 3 + 1) ∧ rmM σ 31 4 = (σ 31 4 + 1) % 40 ∧ rmM σ 31 7 = σ 31 7 ∧ rmM σ 31 8 = σ 31 8 := by
  have s31 : ∀ x, savR σ 33 (σ 31 4 * 28) 31 x = σ 31 x := fun x => by unfold savR; rw [if_neg (fun z => absurd z.1 (by decide))]
  unfold rmM
  refine ⟨?_, ?_, ?_, ?_, ?_⟩
  · rw [up_nj _ (by decide), up_nj _ (by decide), up_na _ (by decide), s31]
  · rw [up_s]
  · rw [up_nj _ (by decide), up_s]
  · rw [up_nj _ (by decide), up_nj _ (by decide), up_na _ (by decide), s31]
  · rw [up_nj _ (by decide), up_nj _ (by decide), up_na _ (by decide), s31]
theorem rmb_48e {m : Mem} : rmb m 5000 48 = if m 5000 48 = 40 then 40 else m 5000 48 + 1 := by
  unfold rmb
  rw [up_s]
  unfold rm1
  by_cases c : m 5000 48 = 40
  · rw [if_pos c, if_pos c, up_s]; rfl
  · rw [if_neg c, if_neg c]
theorem rmb_23 {m : Mem} (h0 : 0 ≤ m 5000 48) (h1 : m 5000 48 ≤ 40) (x : Int) : rmb m 5023 x = if 208 * (rmb m 5000 48 - 1) ≤ x ∧ x < 208 * rmb m 5000 48 then m 5015 (x - 208 * (rmb m 5000 48 - 1)) else if m 5000 48 = 40 ∧ 0 ≤ x ∧ x < 8112 then m 5023 (208 + x) else m 5023 x := by
  rw [rmb_48e]
  unfold rmb
  rw [up_na _ (by decide)]
  unfold rm1
  by_cases c : m 5000 48 = 40
  · rw [if_pos c, if_pos c, up_s]
    unfold cpy
    by_cases d : 208 * (40 - 1) ≤ x ∧ x < 208 * 40
    · rw [if_pos d, if_pos ⟨rfl, by omega, by omega⟩, up_na _ (by decide), if_neg (fun z => absurd z.1 (by decide))]
      congr 1
      omega
    · rw [if_neg d, if_neg (fun z => d ⟨by omega, by omega⟩), up_na _ (by decide)]
      by_cases e : 0 ≤ x ∧ x < 8112
      · rw [if_pos ⟨rfl, by omega, by omega⟩, if_pos ⟨c, e⟩]
        congr 1
        omega
      · rw [if_neg (fun z => e ⟨by omega, by omega⟩), if_neg (fun z => e z.2)]
  · rw [if_neg c, if_neg c]
    unfold cpy
    by_cases d : 208 * (m 5000 48 + 1 - 1) ≤ x ∧ x < 208 * (m 5000 48 + 1)
    · rw [if_pos d, if_pos ⟨rfl, by omega, by omega⟩]
      congr 1
      omega
    · rw [if_neg d, if_neg (fun z => d ⟨by omega, by omega⟩), if_neg (fun z => c z.1)]
/-- an ACT is remembered -/
theorem past_push {σ m υ μ : Mem} (hn : nowR σ m) (hp : pastR σ m) (n6 : m 5000 29 ≤ 6) (h31 : ∀ k, k = 1 ∨ k = 3 ∨ k = 4 → υ 31 k = rmM σ 31 k) (h32 : υ 32 = σ 32) (h33 : υ 33 = rmM σ 33) (hk : μ 5000 29 = m 5000 29 ∧ μ 5000 30 = m 5000 30) (h48 : μ 5000 48 = rmb m 5000 48) (h23 : μ 5023 = rmb m 5023) : pastR υ μ ∧ wrS υ 1 = υ 31 1 := by
  obtain ⟨p1, p2, p3, p4, p5⟩ := hp
  have r31 := rmM_31 σ
  have e48 := rmb_48e (m := m)
  have u1 : υ 31 1 = σ 31 1 := by rw [h31 1 (by decide)]; exact r31.1
  have u3 : υ 31 3 = min 40 (σ 31 3 + 1) := by rw [h31 3 (by decide)]; exact r31.2.1
  have u4 : υ 31 4 = (σ 31 4 + 1) % 40 := by rw [h31 4 (by decide)]; exact r31.2.2.1
  have A1 : (m 5000 48 = 40 ∧ μ 5000 48 = 40) ∨ (m 5000 48 < 40 ∧ μ 5000 48 = m 5000 48 + 1) := by
    rw [h48, e48]
    by_cases c : m 5000 48 = 40
    · left; exact ⟨c, if_pos c⟩
    · right; exact ⟨by omega, if_neg c⟩
  have f1 : ∀ k, 0 ≤ k → k < 27 → acF υ 1 k = aud σ 16 k := fun k k0 k1 => by
    show υ 33 ((υ 31 4 - 1) % 40 * 28 + k) = _
    rw [u4, h33, rmM_33, show ((σ 31 4 + 1) % 40 - 1) % 40 = σ 31 4 by omega, if_neg (by omega), if_pos (by omega)]
    congr 1
    omega
  have fw : υ 33 ((υ 31 4 - 1) % 40 * 28 + 27) = σ 31 1 := by
    rw [u4, h33, rmM_33, show ((σ 31 4 + 1) % 40 - 1) % 40 = σ 31 4 by omega, if_pos rfl]
  have m1 : ∀ q, 0 ≤ q → q < 208 → acM μ 1 q = m 5015 q := fun q q0 q1 => by
    show μ 5023 (208 * (μ 5000 48 - 1) + q) = _
    rw [h23, rmb_23 p3.1 p3.2, ← h48, if_pos (by omega)]
    congr 1
    omega
  have fj : ∀ j, 2 ≤ j → j ≤ μ 5000 48 → ∀ k, 0 ≤ k → k < 28 → acF υ j k = acF σ (j - 1) k := fun j j0 j1 k k0 k1 => by
    show υ 33 ((υ 31 4 - j) % 40 * 28 + k) = σ 33 ((σ 31 4 - (j - 1)) % 40 * 28 + k)
    rw [u4, h33, rmM_33, show ((σ 31 4 + 1) % 40 - j) % 40 = (σ 31 4 - (j - 1)) % 40 by omega, if_neg (by omega), if_neg (by omega)]
  have mj : ∀ j, 2 ≤ j → j ≤ μ 5000 48 → ∀ q, 0 ≤ q → q < 208 → acM μ j q = acM m (j - 1) q := fun j j0 j1 q q0 q1 => by
    show μ 5023 (208 * (μ 5000 48 - j) + q) = m 5023 (208 * (m 5000 48 - (j - 1)) + q)
    rw [h23, rmb_23 p3.1 p3.2, ← h48, if_neg (by omega)]
    rcases A1 with a | a
    · rw [if_pos ⟨a.1, by omega, by omega⟩]; congr 1; omega
    · rw [if_neg (fun z => by omega)]; congr 1; omega
  have w1 : wrS υ 1 = σ 31 1 := by unfold wrS; rw [if_neg (by decide)]; exact fw
  have w0 : wrS υ 0 = σ 31 1 := by unfold wrS; rw [if_pos rfl]; exact u1
  have wj : ∀ j, 0 ≤ j → j ≤ μ 5000 48 → wrS υ j = wrS σ (max 0 (j - 1)) := fun j j0 j1 => by
    by_cases c0 : j = 0
    · rw [c0, w0]; unfold wrS; rw [if_pos (by omega)]
    · by_cases c1 : j = 1
      · rw [c1, w1]; unfold wrS; rw [if_pos (by omega)]
      · have := fj j (by omega) j1 27 (by decide) (by decide)
        unfold wrS
        rw [if_neg c0, if_neg (by omega), show max 0 (j - 1) = j - 1 by omega]
        exact this
  refine ⟨⟨by omega, by omega, by omega, fun i j i0 ij j1 => ?_, fun j j0 j1 => ?_⟩, by rw [w1, u1]⟩
  · rw [wj i i0 (by omega), wj j (by omega) j1]
    have := p4 (max 0 (i - 1)) (max 0 (j - 1)) (by omega) (by omega) (by omega)
    omega
  · rw [hk.1, hk.2, h32]
    by_cases c1 : j = 1
    · rw [c1, w1]
      exact ⟨auR_c n6 f1 (fun q q0 q1 => m1 q q0 (by omega)) hn.1, lgR_c (fun _ _ _ => rfl) (fun q q0 q1 => m1 q (by omega) q1) hn.2⟩
    · rw [wj j (by omega) j1, show max 0 (j - 1) = j - 1 by omega]
      obtain ⟨a, b⟩ := p5 (j - 1) (by omega) (by omega)
      exact ⟨auR_c n6 (fun k k0 k1 => fj j (by omega) j1 k k0 (by omega)) (fun q q0 q1 => mj j (by omega) j1 q q0 (by omega)) a, lgR_c (fun _ _ _ => rfl) (fun q q0 q1 => mj j (by omega) j1 q (by omega) q1) b⟩
/-- a line is written: those of old stay -/
theorem lg_keep {l l' r : Int → Int} {w W : Int} (hl : ∀ j, 0 ≤ j → j < 128 → j ≠ W % 128 → l' j = l j) (h0 : W - 41 ≤ w) (h1 : w ≤ W) (h : lgR l w r) : lgR l' w r := by
  obtain ⟨a1, a2, a3, a4⟩ := h
  refine ⟨a1, a2, a3, fun i i0 i1 => ?_⟩
  have := a4 i i0 i1
  rw [hl _ (by omega) (by omega) (by omega)]
  exact this
theorem past_write {υ τ μ μ' : Mem} (hp : pastR υ μ) (hw : wrS υ 1 = υ 31 1 ∨ μ 5000 48 = 0) (h1 : τ 31 1 = υ 31 1 + 1) (h31 : ∀ k, k = 3 ∨ k = 4 → τ 31 k = υ 31 k) (h33 : τ 33 = υ 33) (hl : ∀ j, 0 ≤ j → j < 128 → j ≠ υ 31 1 % 128 → τ 32 j = υ 32 j) (hk : ∀ k, k = 29 ∨ k = 30 ∨ k = 48 → μ' 5000 k = μ 5000 k) (h23 : μ' 5023 = μ 5023) : pastR τ μ' := by
  obtain ⟨p1, p2, p3, p4, p5⟩ := hp
  have wj : ∀ j, 1 ≤ j → wrS τ j = wrS υ j := fun j j0 => by unfold wrS; rw [if_neg (by omega), if_neg (by omega), h33, h31 4 (by decide)]
  have w0 : wrS τ 0 = υ 31 1 + 1 := by unfold wrS; rw [if_pos rfl, h1]
  have v0 : wrS υ 0 = υ 31 1 := by unfold wrS; rw [if_pos rfl]
  unfold pastR
  rw [h31 3 (by decide), h31 4 (by decide), hk 29 (by decide), hk 30 (by decide), hk 48 (by decide)]
  refine ⟨p1, p2, p3, fun i j i0 ij j1 => ?_, fun j j0 j1 => ?_⟩
  · by_cases c : i = 0
    · by_cases d : j = 0
      · rw [c, d]; omega
      · rw [c, w0, wj j (by omega)]
        rcases hw with hw | hw
        · have := p4 1 j (by decide) (by omega) j1
          omega
        · omega
    · rw [wj i (by omega), wj j (by omega)]
      exact p4 i j i0 ij j1
  · have := p4 0 j (by decide) (by omega) j1
    obtain ⟨a, b⟩ := p5 j j0 j1
    rw [wj j j0]
    refine ⟨?_, ?_⟩
    · show auR _ _ (fun k => τ 33 ((τ 31 4 - j) % 40 * 28 + k)) (fun q => μ' 5023 (208 * (μ' 5000 48 - j) + q))
      rw [h33, h31 4 (by decide), h23, hk 48 (by decide)]; exact a
    · show lgR (τ 32) (wrS υ j) (fun q => μ' 5023 (208 * (μ' 5000 48 - j) + q))
      rw [h23, hk 48 (by decide)]
      exact lg_keep hl (by omega) (by omega) b
/-- the reference's lines behind an EVENING -/
theorem mER_ln {n : Int} {r fl : Int → Int} {o A p : Int} (n6 : n ≤ 6) (h0 : 0 ≤ r 27) (h1 : r 27 ≤ 60) : (mER r fl o n A p (28 + 3 * (min 60 (r 27 + 1) - 1)) = p ∧ mER r fl o n A p (28 + 3 * (min 60 (r 27 + 1) - 1) + 1) = A ∧ mER r fl o n A p (28 + 3 * (min 60 (r 27 + 1) - 1) + 2) = o) ∧ ∀ i k, 1 ≤ i → i < min 60 (r 27 + 1) → 0 ≤ k → k ≤ 2 → mER r fl o n A p (28 + 3 * (min 60 (r 27 + 1) - 1 - i) + k) = r (28 + 3 * (r 27 - i) + k) := by
  have c27 : ∀ j, 27 ≤ j → eR2 (cR r fl o n) j = r j := fun j hj => by
    unfold eR2
    rw [upf_n2 _ (by omega), upf_n2 _ (by omega)]; exact cR_ge _ _ _ (by omega)
  have l3 : eR3 (eR2 (cR r fl o n)) 27 = min 60 (r 27 + 1) - 1 := by
    unfold eR3; rw [c27 27 (by decide)]; split
    · rw [upf_s2]; omega
    · rw [c27 27 (by decide)]; omega
  have x3 : ∀ j, 28 ≤ j → j < 28 + 3 * (min 60 (r 27 + 1) - 1) → eR3 (eR2 (cR r fl o n)) j = if r 27 = 60 then r (j + 3) else r j := fun j j0 j1 => by
    unfold eR3; rw [c27 27 (by decide)]
    by_cases c : r 27 = 60
    · rw [if_pos c, if_pos c, upf_n2 _ (by omega)]
      unfold sR
      rw [if_pos (by omega), c27 _ (by omega)]
    · rw [if_neg c, if_neg c, c27 _ (by omega)]
  have m4 : ∀ j, mER r fl o n A p j = upf (upf (upf (upf (eR3 (eR2 (cR r fl o n))) (28 + 3 * (min 60 (r 27 + 1) - 1)) p) (28 + 3 * (min 60 (r 27 + 1) - 1) + 1) A) (28 + 3 * (min 60 (r 27 + 1) - 1) + 2) o) 27 (min 60 (r 27 + 1) - 1 + 1) j := fun j => by
    unfold mER eR4; rw [l3]
  refine ⟨⟨?_, ?_, ?_⟩, fun i k i0 i1 k0 k1 => ?_⟩
  · rw [m4, upf_n2 _ (by omega), upf_n2 _ (by omega), upf_n2 _ (by omega), upf_s2]
  · rw [m4, upf_n2 _ (by omega), upf_n2 _ (by omega), upf_s2]
  · rw [m4, upf_n2 _ (by omega), upf_s2]
  · rw [m4, upf_n2 _ (by omega), upf_n2 _ (by omega), upf_n2 _ (by omega), upf_n2 _ (by omega), x3 _ (by omega) (by omega)]
    by_cases c : r 27 = 60
    · rw [if_pos c]; congr 1; omega
    · rw [if_neg c]; congr 1; omega
/-- the log behind an EVENING -/
theorem lg_ev {l l' r fl : Int → Int} {W n o A p : Int} (n6 : n ≤ 6) (h : lgR l W r) (hl : ∀ j, 0 ≤ j → j < 128 → j ≠ W % 128 → l' j = l j) (h9 : l' (W % 128) = pck p A o) (hp : 0 ≤ p ∧ p ≤ 3) (hA : 0 ≤ A ∧ A ≤ 8000000) (ho : 0 ≤ o ∧ o < 64) : lgR l' (W + 1) (mER r fl o n A p) := by
  obtain ⟨a1, a2, a3, a4⟩ := h
  have b27 : 0 ≤ r 27 ∧ r 27 ≤ 60 := by omega
  have e27 := (mER_lt (fl := fl) (o := o) (A := A) (p := p) n6 b27.1 b27.2).2
  have e26 := mER_26 (fl := fl) (o := o) (A := A) (p := p) n6 b27.1 b27.2
  obtain ⟨⟨f1, f2, f3⟩, fi⟩ := mER_ln (fl := fl) (o := o) (A := A) (p := p) n6 b27.1 b27.2
  have eN : min 60 (r 27 + 1) = min 60 (W + 1) := by omega
  rw [eN] at e27 f1 f2 f3 fi
  refine ⟨by omega, e27, by rw [e26]; omega, fun i i0 i1 => ?_⟩
  by_cases c : i = 0
  · rw [c, show min 60 (W + 1) - 1 - 0 = min 60 (W + 1) - 1 by omega, f1, f2, f3, show W + 1 - 1 - 0 = W by omega]
    exact ⟨hp, hA, ho, h9⟩
  · have g0 := fi i 0 (by omega) i1 (by decide) (by decide)
    have g1 := fi i 1 (by omega) i1 (by decide) (by decide)
    have g2 := fi i 2 (by omega) i1 (by decide) (by decide)
    rw [Int.add_zero, Int.add_zero] at g0
    have q := a4 (i - 1) (by omega) (by omega)
    rw [← a2, show r 27 - 1 - (i - 1) = r 27 - i by omega, show W - 1 - (i - 1) = W - i by omega] at q
    rw [g0, g1, g2, show W + 1 - 1 - i = W - i by omega, hl _ (by omega) (by omega) (by omega)]
    exact q
theorem mER_c {n : Int} {r fl : Int → Int} {o A p c : Int} (n6 : n ≤ 6) (h0 : 0 ≤ r 27) (h1 : r 27 ≤ 60) (c0 : 0 ≤ c) (c1 : c < n) : mER r fl o n A p (4 * c) = (if bt o c = 1 then max 0 (r (4 * c) - 1) else r (4 * c)) ∧ mER r fl o n A p (4 * c + 1) = r (4 * c + 1) ∧ mER r fl o n A p (4 * c + 2) = r (4 * c + 2) ∧ mER r fl o n A p (4 * c + 3) = min 9999 (r (4 * c + 3) + fl c) := by
  have e := (mER_lt (fl := fl) (o := o) (A := A) (p := p) n6 h0 h1).1
  rw [e _ (by omega), e _ (by omega), e _ (by omega), e _ (by omega)]
  unfold eR2
  rw [upf_n2 _ (by omega), upf_n2 _ (by omega), upf_n2 _ (by omega), upf_n2 _ (by omega), upf_n2 _ (by omega), upf_n2 _ (by omega), upf_n2 _ (by omega), upf_n2 _ (by omega)]
  unfold cR
  rw [show (4 * c) / 4 = c by omega, show (4 * c + 3) / 4 = c by omega]
  refine ⟨?_, ?_, ?_, ?_⟩
  · rw [if_neg (by omega)]
    by_cases b : bt o c = 1
    · rw [if_pos ⟨by omega, by omega, by omega, b⟩, if_pos b]
    · rw [if_neg (fun z => b z.2.2.2), if_neg b]
  · rw [if_neg (by omega), if_neg (by omega)]
  · rw [if_neg (by omega), if_neg (by omega)]
  · rw [if_pos ⟨by omega, by omega, by omega⟩]
theorem mER_k {n : Int} {r fl : Int → Int} {o A p : Int} (n6 : n ≤ 6) (h0 : 0 ≤ r 27) (h1 : r 27 ≤ 60) : mER r fl o n A p 24 = 0 ∧ mER r fl o n A p 25 = r 25 ∧ mER r fl o n A p 26 = r 26 + 1 := by
  have e := (mER_lt (fl := fl) (o := o) (A := A) (p := p) n6 h0 h1).1
  refine ⟨?_, ?_, mER_26 n6 h0 h1⟩
  · rw [e _ (by decide)]; unfold eR2; rw [upf_n2 _ (by decide), upf_s2]
  · rw [e _ (by decide)]; unfold eR2; rw [upf_n2 _ (by decide), upf_n2 _ (by decide), cR_ge _ _ _ (by omega)]
/-- an EVENING on both sides -/
theorem ev_sim {σ m τ μ : Mem} {p : Int} (hH : eqH σ m) (hn : nowR σ m) (hp : pastR σ m) (hx : mX m 5015) (hs : stOk σ 16) (h9 : pval σ 6 1 p 3 ≤ 9) (p0 : 0 ≤ p) (p1 : p < m 5000 28) (he : m 5015 26 < 999) (hr : ringR σ) (hS : evS σ p τ) (hM : mEv (rmb m) 5015 p μ) : nowR τ μ ∧ pastR τ μ ∧ evMv σ p = mEm (rmb m) 5015 p ∧ ringR τ := by
  obtain ⟨υ, h1, rfl⟩ := hS
  have hxr := mX_rmb hx
  have e15 := rmb_15 m
  have ek : ∀ k, k ≠ 48 → rmb m 5000 k = m 5000 k := fun k hk => rmb_k m hk
  have hex := mEv_x hxr (by rw [e15]; omega) hM
  obtain ⟨υ', hP, hok, rfl⟩ := hM
  have n29 := hx.2.1.2.2.1
  have n28 := hx.2.1.2.2.2.2.1
  have l27 := hx.2.2.2.2.2.2
  have hB := hs.2.1
  have hA : eqA σ m 16 5015 := by
    obtain ⟨⟨a1, a2, -⟩, -⟩ := hn
    refine ⟨fun c c0 c1 => ?_, ?_, ?_⟩
    · have := a1 c c0 c1
      have e := aud16 σ c0 (by omega)
      exact ⟨e.1 ▸ this.1, e.2.1 ▸ this.2.1⟩
    · exact (audk σ).1 ▸ a2.1
    · exact (audk σ).2.2 ▸ a2.2.2
  have hsp : sP m (rmb m) 5015 5015 := ⟨fun j _ _ => by rw [e15], rmb_o m (by decide) (by decide), rmb_o m (by decide) (by decide), rmb_o m (by decide) (by decide), rmb_o m (by decide) (by decide), rmb_o m (by decide) (by decide), ek 29 (by decide), ek 38 (by decide)⟩
  have e7 : rmb m 5007 = m 5007 := rmb_o m (by decide) (by decide)
  have fl : ∀ c, 0 ≤ c → c < m 5000 29 → mFl (rmb m) 5015 p (rmb m 5007 (4 * p + 3)).toNat c = pFl σ 16 p c := fun c c0 c1 => by
    rw [e7, sP_mFl hsp n29.2 p c0 c1, (play_eq hH hA hx p0 p1 c0 c1).1]
  have ou : mOu (rmb m) 5015 p (rmb m 5007 (4 * p + 3)).toNat = evOb σ p := by
    rw [e7, sP_mOu hsp n29.2 p, ← play_out hH hA hx p0 p1]
  have sm : mEm (rmb m) 5015 p = evMv σ p := by
    show sumC _ _ = sumC _ _
    rw [hH.1, ek 29 (by decide)]
    exact sumC_cong (fun c c0 c1 => fl c c0 (by omega))
  have sm' : sumC (mFl (rmb m) 5015 p (rmb m 5007 (4 * p + 3)).toNat) (rmb m 5000 29).toNat = evMv σ p := sm
  have ob : ∀ c, 0 ≤ c → c < m 5000 29 → (bt (evOb σ p) c = 1 ↔ pOa σ 16 p c ≠ -1) := fun c c0 c1 => by
    rw [show evOb σ p = mOu m 5015 p (mMi m p) from play_out hH hA hx p0 p1, mOu_oa n29.2 c0 c1, (play_eq hH hA hx p0 p1 c0 c1).2]
  have ob64 : 0 ≤ evOb σ p ∧ evOb σ p < 64 := by
    rw [show evOb σ p = mOu m 5015 p (mMi m p) from play_out hH hA hx p0 p1]; exact mOu_b m 5015 p n29.2 _
  have Ab : 0 ≤ evMv σ p ∧ evMv σ p ≤ 8000000 := by
    have := sumC_b (f := pFl σ 16 p) (c := 891) (n := (pcnt σ 6 2).toNat) (fun i i0 i1 => pFl_b hB h9 i0 (by rw [hH.1] at i1; omega))
    rw [hH.1] at this
    have ee : evMv σ p = sumC (pFl σ 16 p) (m 5000 29).toNat := by
      show sumC (pFl σ 16 p) (pcnt σ 6 2).toNat = _
      rw [hH.1]
    rw [ee]
    omega
  rw [ou, sm', e15, ek 29 (by decide)]
  have pl := SP_pFl (rmM_SP σ) hs p
  obtain ⟨q1, q2, q3, q4, q5, q6⟩ := h1
  rw [pl.1, pl.2, pcnt_cong (rmM_o σ (b := 6 + 2) (by decide) (by decide))] at *
  have ro : ∀ b, b ≠ 31 → b ≠ 33 → rmM σ b = σ b := fun b h1 h2 => rmM_o σ h1 h2
  have u18 : υ 18 = σ 18 := by rw [q1 18 (by decide) (by decide) (by decide) (by decide) (by decide) (by decide) (by decide) (by decide) (by decide) (by decide) (by decide) (by decide), ro 18 (by decide) (by decide)]
  have u19 : υ 19 = σ 19 := by rw [q1 19 (by decide) (by decide) (by decide) (by decide) (by decide) (by decide) (by decide) (by decide) (by decide) (by decide) (by decide) (by decide), ro 19 (by decide) (by decide)]
  have u31 : υ 31 = rmM σ 31 := q1 31 (by decide) (by decide) (by decide) (by decide) (by decide) (by decide) (by decide) (by decide) (by decide) (by decide) (by decide) (by decide)
  have u33 : υ 33 = rmM σ 33 := q1 33 (by decide) (by decide) (by decide) (by decide) (by decide) (by decide) (by decide) (by decide) (by decide) (by decide) (by decide) (by decide)
  have u32 : υ 32 = σ 32 := by rw [q1 32 (by decide) (by decide) (by decide) (by decide) (by decide) (by decide) (by decide) (by decide) (by decide) (by decide) (by decide) (by decide), ro 32 (by decide) (by decide)]
  have uW : υ 31 1 = σ 31 1 := by rw [u31]; exact (rmM_31 σ).1
  have u17 : ∀ j, υ 17 j = if 0 ≤ j ∧ j < pcnt σ 6 2 ∧ pOa σ 16 p j ≠ -1 then max 0 (σ 17 j - 1) else σ 17 j := fun j => by
    have := q4 j
    rw [ro (16 + 1) (by decide) (by decide)] at this; exact this
  have u20 : ∀ j, υ 20 j = if 0 ≤ j ∧ j < pcnt σ 6 2 then min 9999 (σ 20 j + pFl σ 16 p j) else σ 20 j := fun j => by
    have := q5 j
    rw [ro (16 + 4) (by decide) (by decide)] at this; exact this
  have u16 : ∀ j, υ 16 j = if j = 4 then 0 else if j = 6 then σ 16 6 + 1 else σ 16 j := fun j => by
    have := q3 j
    rw [ro 16 (by decide) (by decide)] at this; exact this
  have tw : ∀ b, b ≠ 31 → b ≠ 32 → wrM υ p (evMv σ p) (evOb σ p) b = υ b := fun b h1 h2 => by unfold wrM; rw [up_na _ h1, up_na _ h2]
  have t32 : ∀ j, j ≠ σ 31 1 % 128 → wrM υ p (evMv σ p) (evOb σ p) 32 j = σ 32 j := fun j hj => by unfold wrM; rw [up_na _ (by decide), uW, up_nj _ hj, u32]
  have t32e : wrM υ p (evMv σ p) (evOb σ p) 32 (σ 31 1 % 128) = pck p (evMv σ p) (evOb σ p) := by unfold wrM; rw [up_na _ (by decide), uW, up_s]
  have tW : wrM υ p (evMv σ p) (evOb σ p) 31 1 = σ 31 1 + 1 := by unfold wrM; rw [up_s, uW]
  have tk : ∀ k, k ≠ 1 → wrM υ p (evMv σ p) (evOb σ p) 31 k = υ 31 k := fun k hk => by unfold wrM; rw [up_nj _ hk, up_na _ (by decide)]
  have m29 : ∀ f, setv υ' 5015 f 5000 29 = m 5000 29 ∧ setv υ' 5015 f 5000 30 = m 5000 30 ∧ setv υ' 5015 f 5000 48 = rmb m 5000 48 := fun f => by
    rw [setv_o _ _ (by decide), hP.2 29 (by decide) (by decide) (by decide) (by decide), hP.2 30 (by decide) (by decide) (by decide) (by decide), hP.2 48 (by decide) (by decide) (by decide) (by decide), ek 29 (by decide), ek 30 (by decide)]
    exact ⟨rfl, rfl, rfl⟩
  have m23 : ∀ f, setv υ' 5015 f 5023 = rmb m 5023 := fun f => by rw [setv_o _ _ (by decide)]; exact PF_r hP (by decide)
  obtain ⟨pu, pw⟩ := past_push (υ := υ) (μ := setv υ' 5015 (mER (m 5015) (mFl (rmb m) 5015 p (rmb m 5007 (4 * p + 3)).toNat) (evOb σ p) (m 5000 29) (evMv σ p) p)) hn hp n29.2 (fun k _ => by rw [u31]) u32 u33 ⟨(m29 _).1, (m29 _).2.1⟩ (m29 _).2.2 (m23 _)
  have nn := hn
  obtain ⟨⟨a1, a2, a3, a4, a5⟩, lg⟩ := nn
  refine ⟨⟨?_, ?_⟩, past_write pu (Or.inl pw) (by rw [tW, uW]) (fun k hk => tk k (by omega)) (tw 33 (by decide) (by decide)) (fun j _ _ hj => by rw [uW] at hj; rw [t32 j hj, u32]) (fun _ _ => rfl) rfl, sm.symm, ?_⟩
  · rw [(m29 _).1, (m29 _).2.1, setv_s]
    have hex1 := hex.1.2.2
    rw [ou, sm', e15, ek 29 (by decide), (m29 _).1, (m29 _).2.1, setv_s] at hex1
    have K := mER_k (r := m 5015) (fl := mFl (rmb m) 5015 p (rmb m 5007 (4 * p + 3)).toNat) (o := evOb σ p) (A := evMv σ p) (p := p) n29.2 l27.1 l27.2
    refine ⟨fun c c0 c1 => ?_, ?_, hex1, by rw [K.2.2]; omega, fun i i0 i1 => ?_⟩
    · have e := aud16 (wrM υ p (evMv σ p) (evOb σ p)) c0 (show c < 6 by omega)
      have e0 := aud16 σ c0 (show c < 6 by omega)
      have b := a1 c c0 c1
      rw [e0.1, e0.2.1, e0.2.2.1, e0.2.2.2] at b
      obtain ⟨k1, k2, k3, k4⟩ := mER_c (r := m 5015) (fl := mFl (rmb m) 5015 p (rmb m 5007 (4 * p + 3)).toNat) (o := evOb σ p) (A := evMv σ p) (p := p) n29.2 l27.1 l27.2 c0 c1
      rw [e.1, e.2.1, e.2.2.1, e.2.2.2, k1, k2, k3, k4, tw 17 (by decide) (by decide), tw 18 (by decide) (by decide), tw 19 (by decide) (by decide), tw 20 (by decide) (by decide), u17, u18, u19, u20, hH.1, fl c c0 c1, if_pos (show 0 ≤ c ∧ c < m 5000 29 from ⟨c0, c1⟩), b.1, b.2.1, b.2.2.1, b.2.2.2]
      refine ⟨?_, rfl, rfl, rfl⟩
      have := ob c c0 c1
      by_cases y : pOa σ 16 p c ≠ -1
      · rw [if_pos ⟨c0, c1, y⟩, if_pos (this.mpr y)]
      · rw [if_neg (fun z => y z.2.2), if_neg (fun z => y (this.mp z))]
    · have k := audk (wrM υ p (evMv σ p) (evOb σ p))
      have k0 := audk σ
      rw [k0.1, k0.2.1, k0.2.2] at a2
      rw [k.1, k.2.1, k.2.2, tw 16 (by decide) (by decide), u16, u16, u16, K.1, K.2.1, K.2.2, if_pos rfl, if_neg (by decide), if_neg (by decide), if_neg (by decide), if_pos rfl, a2.2.1, a2.2.2]
      exact ⟨rfl, rfl, rfl⟩
    · have e := aud16 (wrM υ p (evMv σ p) (evOb σ p)) i0 i1
      have e0 := aud16 σ i0 i1
      have b := a5 i i0 i1
      rw [e0.1, e0.2.1, e0.2.2.1, e0.2.2.2] at b
      have pb := pFl_b (a := 16) hB h9 i0 i1
      rw [e.1, e.2.1, e.2.2.1, e.2.2.2, tw 17 (by decide) (by decide), tw 18 (by decide) (by decide), tw 19 (by decide) (by decide), tw 20 (by decide) (by decide), u17, u18, u19, u20]
      refine ⟨?_, b.2.1, b.2.2.1, ?_⟩
      · split <;> omega
      · split <;> omega
  · rw [setv_s, tW]
    exact lg_ev n29.2 lg (fun j _ _ hj => t32 j hj) t32e ⟨p0, by omega⟩ Ab ob64
  · refine ⟨fun j j0 j1 => ?_, ?_⟩
    · by_cases c : j = σ 31 1 % 128
      · rw [c, t32e]; unfold pck; omega
      · rw [t32 j c]; exact hr.1 j j0 j1
    · have u35 : υ 35 = σ 35 := by rw [q1 35 (by decide) (by decide) (by decide) (by decide) (by decide) (by decide) (by decide) (by decide) (by decide) (by decide) (by decide) (by decide), ro 35 (by decide) (by decide)]
      rw [tw 35 (by decide) (by decide), u35]; exact hr.2
