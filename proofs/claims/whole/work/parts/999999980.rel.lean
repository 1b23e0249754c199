/-! class and reference side by side: what holds between calls -/
/-- the same audience: the class's row of 27, the reference's row -/
def auR (n s : Int) (f r : Int → Int) : Prop := (∀ c, 0 ≤ c → c < n → f c = r (4 * c) ∧ f (c + 6) = r (4 * c + 1) ∧ f (c + 12) = r (4 * c + 2) ∧ f (c + 18) = r (4 * c + 3)) ∧ (f 24 = r 24 ∧ f 25 = r 25 ∧ f 26 = r 26) ∧ aR n s r ∧ r 26 ≤ 999 ∧ ∀ i, 0 ≤ i → i < 6 → (0 ≤ f i ∧ f i ≤ 9) ∧ (0 ≤ f (i + 6) ∧ f (i + 6) ≤ 5) ∧ (0 ≤ f (i + 12) ∧ f (i + 12) ≤ 99) ∧ 0 ≤ f (i + 18) ∧ f (i + 18) ≤ 9999
/-- the same log: the class's ring, how many were written, the reference's row -/
def lgR (l : Int → Int) (W : Int) (r : Int → Int) : Prop := 0 ≤ W ∧ r 27 = min 60 W ∧ W ≤ r 26 ∧ ∀ i, 0 ≤ i → i < min 60 W → (0 ≤ r (28 + 3 * (min 60 W - 1 - i)) ∧ r (28 + 3 * (min 60 W - 1 - i)) ≤ 3) ∧ (0 ≤ r (28 + 3 * (min 60 W - 1 - i) + 1) ∧ r (28 + 3 * (min 60 W - 1 - i) + 1) ≤ 8000000) ∧ (0 ≤ r (28 + 3 * (min 60 W - 1 - i) + 2) ∧ r (28 + 3 * (min 60 W - 1 - i) + 2) < 64) ∧ l ((W - 1 - i) % 128) = pck (r (28 + 3 * (min 60 W - 1 - i))) (r (28 + 3 * (min 60 W - 1 - i) + 1)) (r (28 + 3 * (min 60 W - 1 - i) + 2))
/-- how many were written: now, and at each ACT that is remembered -/
def wrS (σ : Mem) (j : Int) : Int := if j = 0 then σ 31 1 else σ 33 ((σ 31 4 - j) % 40 * 28 + 27)
abbrev acF (σ : Mem) (j : Int) : Int → Int := fun k => σ 33 ((σ 31 4 - j) % 40 * 28 + k)
abbrev acM (m : Mem) (j : Int) : Int → Int := fun q => m 5023 (208 * (m 5000 48 - j) + q)
def pastR (σ m : Mem) : Prop := σ 31 3 = m 5000 48 ∧ (0 ≤ σ 31 4 ∧ σ 31 4 < 40) ∧ (0 ≤ m 5000 48 ∧ m 5000 48 ≤ 40) ∧ (∀ i j, 0 ≤ i → i ≤ j → j ≤ m 5000 48 → 0 ≤ wrS σ i - wrS σ j ∧ wrS σ i - wrS σ j ≤ j - i) ∧ ∀ j, 1 ≤ j → j ≤ m 5000 48 → auR (m 5000 29) (m 5000 30) (acF σ j) (acM m j) ∧ lgR (σ 32) (wrS σ j) (acM m j)
def imR (σ : Mem) : Prop := (σ 31 8 = 0 ∧ σ 5000 56 = 0) ∨ (σ 31 8 = 1 ∧ σ 5000 56 = 1 ∧ auR (σ 5000 29) (σ 5000 30) (σ 34) (σ 5026) ∧ σ 31 7 ≤ 60 ∧ lgR (σ 35) (σ 31 7) (σ 5026))
def tapeR (σ : Mem) : Prop := tapeOk σ ∧ σ 5000 6 = σ 1 1 ∧ ∀ i, 0 ≤ i → i < σ 1 1 → (-128 ≤ σ 5001 i ∧ σ 5001 i ≤ 127) ∧ σ 5001 i % 256 = σ 2 i
/-- the rows of a HOUSE within their bounds -/
def rowS (v : Int → Int) : Prop := ∀ k i w, 0 ≤ k → k < 4 → 0 ≤ i → i < mostK k → 0 ≤ w → w < 4 → 0 ≤ v ((firstK k + i) * 4 + w) ∧ v ((firstK k + i) * 4 + w) ≤ sav 21001 (k * 4 + w)
def houR (σ : Mem) : Prop := (∀ k, 0 ≤ k → k < 4 → 0 ≤ σ 5 k ∧ σ 5 k ≤ 6) ∧ rowS (σ 4) ∧ (∀ k, 0 ≤ k → k < 4 → 0 ≤ σ 8 k ∧ σ 8 k ≤ 6) ∧ rowS (σ 7) ∧ rowB (vof σ) ∧ (σ 8 1 = σ 5000 28 ∧ σ 8 2 = σ 5000 29 ∧ σ 8 3 = σ 5000 30) ∧ σ 5000 28 ≤ 4 ∧ (0 < σ 5000 29 → 1 ≤ σ 5000 28 ∧ 1 ≤ σ 5000 30) ∧ (σ 5000 29 = 0 → σ 5000 28 = 0 ∧ σ 5000 30 = 0) ∧ σ 7 0 = σ 5005 0 ∧ (∀ p k, 0 ≤ p → p < σ 5000 28 → 0 ≤ k → k < 4 → σ 7 ((1 + p) * 4 + k) = σ 5007 (4 * p + k)) ∧ ∀ t, 0 ≤ t → t < σ 5000 30 → σ 7 ((11 + t) * 4) = σ 5011 t
def lawR (σ : Mem) : Prop := σ 0 5 = σ 5000 7 ∧ σ 0 6 = σ 5000 38 ∧ lwIs σ ∧ σ 26 1 = (if σ 5000 38 = -1 then -1 else σ 12 (σ 5000 38)) ∧ ∀ l, 0 ≤ l → l < σ 5000 7 → σ 12 l = 100 + 3 * l ∧ (0 ≤ σ (101 + 3 * l) (-1) ∧ σ (101 + 3 * l) (-1) ≤ 241) ∧ ∀ L, lbd L → bnd (kval L (lwK σ l)) ∧ wx (σ (101 + 3 * l)) (σ (101 + 3 * l) (-1)) L 300 0 [] = some (kval L (lwK σ l))
def seaR (σ : Mem) : Prop := seaOk σ ∧ seOk σ ∧ σ 13 3 = σ 5000 34 ∧ ∀ s, 0 ≤ s → s < σ 13 3 → σ 15 s = σ 5014 s ∧ ∀ j, 0 ≤ j → j < 3 * σ 15 s → σ 14 (s * 48 + j) = σ 5013 (48 * s + j)
def nowR (σ m : Mem) : Prop := auR (m 5000 29) (m 5000 30) (aud σ 16) (m 5015) ∧ lgR (σ 32) (σ 31 1) (m 5015)
def livR (σ : Mem) : Prop := ∀ a, σ (-2) a = 1 ↔ (0 ≤ a ∧ a < 43) ∨ (100 ≤ a ∧ a < 100 + 3 * σ 5000 7) ∨ (5000 ≤ a ∧ a < 5027) ∨ a = 9000
def mskR (σ : Mem) : Prop := mOk σ ∧ (σ 0 8 = σ 5000 39 ∧ 0 ≤ σ 0 8 ∧ σ 0 8 ≤ 9) ∧ (∀ j, 0 ≤ j → j < min 16 (4 * σ 5000 28) → 0 ≤ σ 5007 j ∧ σ 5007 j ≤ 9) ∧ (∀ t, 0 ≤ t → t < min 6 (σ 5000 30) → 0 ≤ σ 5011 t ∧ σ 5011 t ≤ 9) ∧ 0 ≤ σ 5005 0 ∧ σ 5005 0 ≤ 99
def ringR (σ : Mem) : Prop := (∀ j, 0 ≤ j → j < 128 → 0 ≤ σ 32 j ∧ σ 32 j ≤ 2147483647) ∧ ∀ j, 0 ≤ j → j < 60 → 0 ≤ σ 35 j ∧ σ 35 j ≤ 2147483647
def RR (σ : Mem) : Prop := tapeR σ ∧ houR σ ∧ lawR σ ∧ seaR σ ∧ (hwO σ ∧ eqW σ σ) ∧ nowR σ σ ∧ pastR σ σ ∧ imR σ ∧ livR σ ∧ mskR σ ∧ ringR σ
/-! each piece hangs on some rows alone -/
theorem tapeR_c {σ τ : Mem} (h1 : τ 1 1 = σ 1 1) (h2 : τ 2 = σ 2) (h6 : τ 5000 6 = σ 5000 6) (h5 : τ 5001 = σ 5001) (h : tapeR σ) : tapeR τ := by
  unfold tapeR tapeOk at *
  rw [h1, h2, h6, h5]; exact h
theorem houR_c {σ τ : Mem} (h4 : τ 4 = σ 4) (h5 : τ 5 = σ 5) (h7 : τ 7 = σ 7) (h8 : τ 8 = σ 8) (hk : ∀ k, k = 28 ∨ k = 29 ∨ k = 30 → τ 5000 k = σ 5000 k) (hb : ∀ b, b = 5005 ∨ b = 5006 ∨ b = 5007 ∨ b = 5008 ∨ b = 5010 ∨ b = 5011 ∨ b = 5012 → τ b = σ b) (h : houR σ) : houR τ := by
  unfold houR at *
  rw [h4, h5, h7, h8, hk 28 (by decide), hk 29 (by decide), hk 30 (by decide), hb 5005 (by decide), hb 5007 (by decide), hb 5011 (by decide), vof_c (hb 5006 (by decide)) (hb 5008 (by decide)) (hb 5010 (by decide)) (hb 5012 (by decide))]; exact h
theorem lawR_c {σ τ : Mem} (h5 : τ 0 5 = σ 0 5) (h6 : τ 0 6 = σ 0 6) (h26 : τ 26 1 = σ 26 1) (h12 : τ 12 = σ 12) (hk : τ 5000 7 = σ 5000 7 ∧ τ 5000 38 = σ 5000 38) (h2 : τ 5002 = σ 5002) (h3 : τ 5003 = σ 5003) (hl : ∀ l, 0 ≤ l → l < 4 → τ (101 + 3 * l) = σ (101 + 3 * l)) (h4 : σ 5000 7 ≤ 4) (h : lawR σ) : lawR τ := by
  obtain ⟨a1, a2, a3, a4, a5⟩ := h
  refine ⟨by rw [h5, hk.1]; exact a1, by rw [h6, hk.2]; exact a2, lwIs_c hk.1 hk.2 a3, by rw [h26, hk.2, h12]; exact a4, fun l l0 l1 => ?_⟩
  rw [hk.1] at l1
  rw [h12, hl l l0 (by omega), lwK_c h2 h3]
  exact a5 l l0 l1
theorem seaR_c {σ τ : Mem} (h13 : τ 13 3 = σ 13 3) (h14 : τ 14 = σ 14) (h15 : τ 15 = σ 15) (hk : τ 5000 34 = σ 5000 34) (h5 : τ 5013 = σ 5013) (h6 : τ 5014 = σ 5014) (h : seaR σ) : seaR τ := by
  unfold seaR seaOk seOk at *
  rw [h13, h14, h15, hk, h5, h6]; exact h
theorem howR_c {σ τ : Mem} (h4 : τ 41 4 = σ 41 4) (h42 : τ 42 = σ 42) (hk : ∀ k, k = 28 ∨ k = 29 ∨ k = 53 → τ 5000 k = σ 5000 k) (h5 : τ 5024 = σ 5024) (h : hwO σ ∧ eqW σ σ) : hwO τ ∧ eqW τ τ := by
  unfold hwO eqW at *
  rw [h4, h42, hk 28 (by decide), hk 29 (by decide), hk 53 (by decide), h5]; exact h
theorem aud_c {σ τ : Mem} (h16 : ∀ j, 4 ≤ j → j ≤ 6 → τ 16 j = σ 16 j) (h : ∀ b, 17 ≤ b → b ≤ 20 → τ b = σ b) {k : Int} (k1 : k < 27) : aud τ 16 k = aud σ 16 k := by
  unfold aud
  rw [h (16 + 1) (by decide) (by decide), h (16 + 2) (by decide) (by decide), h (16 + 3) (by decide) (by decide), h (16 + 4) (by decide) (by decide)]
  by_cases c1 : k < 6
  · rw [if_pos c1, if_pos c1]
  · rw [if_neg c1, if_neg c1]
    by_cases c2 : k < 12
    · rw [if_pos c2, if_pos c2]
    · rw [if_neg c2, if_neg c2]
      by_cases c3 : k < 18
      · rw [if_pos c3, if_pos c3]
      · rw [if_neg c3, if_neg c3]
        by_cases c4 : k < 24
        · rw [if_pos c4, if_pos c4]
        · rw [if_neg c4, if_neg c4, h16 _ (by omega) (by omega)]
theorem auR_c {n s : Int} {f g r q : Int → Int} (n6 : n ≤ 6) (hf : ∀ k, 0 ≤ k → k < 27 → g k = f k) (hr : ∀ j, 0 ≤ j → j < 28 → q j = r j) (h : auR n s f r) : auR n s g q := by
  obtain ⟨a1, a2, a3, a4, a5⟩ := h
  refine ⟨fun c c0 c1 => ?_, ?_, aR_c n6 hr a3, by rw [hr 26 (by decide) (by decide)]; exact a4, fun i i0 i1 => ?_⟩
  · rw [hf c c0 (by omega), hf _ (by omega) (by omega), hf _ (by omega) (by omega), hf _ (by omega) (by omega), hr _ (by omega) (by omega), hr _ (by omega) (by omega), hr _ (by omega) (by omega), hr _ (by omega) (by omega)]
    exact a1 c c0 c1
  · rw [hf 24 (by decide) (by decide), hf 25 (by decide) (by decide), hf 26 (by decide) (by decide), hr 24 (by decide) (by decide), hr 25 (by decide) (by decide), hr 26 (by decide) (by decide)]; exact a2
  · rw [hf i i0 (by omega), hf _ (by omega) (by omega), hf _ (by omega) (by omega), hf _ (by omega) (by omega)]
    exact a5 i i0 i1
theorem lgR_c {l l' r q : Int → Int} {W : Int} (hl : ∀ j, 0 ≤ j → j < 128 → l' j = l j) (hr : ∀ j, 26 ≤ j → j < 208 → q j = r j) (h : lgR l W r) : lgR l' W q := by
  obtain ⟨a1, a2, a3, a4⟩ := h
  refine ⟨a1, by rw [hr 27 (by decide) (by decide)]; exact a2, by rw [hr 26 (by decide) (by decide)]; exact a3, fun i i0 i1 => ?_⟩
  have := a4 i i0 i1
  rw [hr _ (by omega) (by omega), hr _ (by omega) (by omega), hr _ (by omega) (by omega), hl _ (by omega) (by omega)]
  exact this
theorem nowR_c {σ τ m m' : Mem} (n6 : m 5000 29 ≤ 6) (h16 : ∀ j, 4 ≤ j → j ≤ 6 → τ 16 j = σ 16 j) (ha : ∀ b, 17 ≤ b → b ≤ 20 → τ b = σ b) (h32 : τ 32 = σ 32) (h31 : τ 31 1 = σ 31 1) (hk : m' 5000 29 = m 5000 29 ∧ m' 5000 30 = m 5000 30) (h5 : m' 5015 = m 5015) (h : nowR σ m) : nowR τ m' := by
  unfold nowR
  rw [h32, h31, hk.1, hk.2, h5]
  exact ⟨auR_c n6 (fun k _ k1 => aud_c h16 ha k1) (fun _ _ _ => rfl) h.1, h.2⟩
theorem wrS_c {σ τ : Mem} (h1 : τ 31 1 = σ 31 1) (h4 : τ 31 4 = σ 31 4) (h33 : τ 33 = σ 33) (j : Int) : wrS τ j = wrS σ j := by unfold wrS; rw [h1, h4, h33]
theorem pastR_c {σ τ m m' : Mem} (h31 : ∀ k, k = 1 ∨ k = 3 ∨ k = 4 → τ 31 k = σ 31 k) (h32 : τ 32 = σ 32) (h33 : τ 33 = σ 33) (hk : ∀ k, k = 29 ∨ k = 30 ∨ k = 48 → m' 5000 k = m 5000 k) (h5 : m' 5023 = m 5023) (h : pastR σ m) : pastR τ m' := by
  have w := wrS_c (h31 1 (by decide)) (h31 4 (by decide)) h33
  unfold pastR acF acM at *
  rw [h31 3 (by decide), h31 4 (by decide), h32, h33, hk 29 (by decide), hk 30 (by decide), hk 48 (by decide), h5]
  simp only [w]
  exact h
theorem imR_c {σ τ : Mem} (h31 : ∀ k, k = 7 ∨ k = 8 → τ 31 k = σ 31 k) (h34 : τ 34 = σ 34) (h35 : τ 35 = σ 35) (hk : ∀ k, k = 29 ∨ k = 30 ∨ k = 56 → τ 5000 k = σ 5000 k) (h5 : τ 5026 = σ 5026) (h : imR σ) : imR τ := by
  unfold imR at *
  rw [h31 7 (by decide), h31 8 (by decide), h34, h35, hk 29 (by decide), hk 30 (by decide), hk 56 (by decide), h5]; exact h
theorem livR_c {σ τ : Mem} (h2 : τ (-2) = σ (-2)) (h7 : τ 5000 7 = σ 5000 7) (h : livR σ) : livR τ := by
  unfold livR at *
  rw [h2, h7]; exact h
theorem mskR_c {σ τ : Mem} (hm : mOk τ) (h8 : τ 0 8 = σ 0 8) (hk : τ 5000 39 = σ 5000 39 ∧ τ 5000 28 = σ 5000 28 ∧ τ 5000 30 = σ 5000 30) (h7 : τ 5007 = σ 5007) (h11 : τ 5011 = σ 5011) (h5 : τ 5005 = σ 5005) (h : mskR σ) : mskR τ := by
  unfold mskR at *
  rw [h8, hk.1, hk.2.1, hk.2.2, h7, h11, h5]; exact ⟨hm, h.2⟩
theorem ringR_c {σ τ : Mem} (h32 : τ 32 = σ 32) (h35 : τ 35 = σ 35) (h : ringR σ) : ringR τ := by
  unfold ringR at *
  rw [h32, h35]; exact h
/-! what follows -/
theorem RR_n {σ : Mem} (h : RR σ) : (0 ≤ σ 5000 28 ∧ σ 5000 28 ≤ 4) ∧ (0 ≤ σ 5000 29 ∧ σ 5000 29 ≤ 6) ∧ (0 ≤ σ 5000 30 ∧ σ 5000 30 ≤ 6) ∧ (0 ≤ σ 5000 7 ∧ σ 5000 7 ≤ 4) := by
  obtain ⟨-, ⟨-, -, b3, -, -, b6, b7, -⟩, -, -, -, -, -, -, -, ⟨⟨⟨b8, b9, -⟩, -⟩, -⟩, -⟩ := h
  have c1 := b3 1 (by decide) (by decide)
  have c2 := b3 2 (by decide) (by decide)
  have c3 := b3 3 (by decide) (by decide)
  omega
theorem slotF_k {k i w : Int} (k0 : 0 ≤ k) (k1 : k < 4) (i0 : 0 ≤ i) (i1 : i < mostK k) (w0 : 0 ≤ w) (w1 : w < 4) : slotF k i w = (firstK k + i) * 4 + w := by
  unfold slotF; rw [if_pos ⟨k0, k1, i0, i1, w0, w1⟩]
theorem pval_at {σ : Mem} {p k i w : Int} (k0 : 0 ≤ k) (k1 : k < 4) (i0 : 0 ≤ i) (i1 : i < mostK k) (w0 : 0 ≤ w) (w1 : w < 4) : pval σ p k i w = σ (p + 1) ((firstK k + i) * 4 + w) := by
  have := firstK_b k
  unfold pval; rw [slotF_k k0 k1 i0 i1 w0 w1, if_neg (by omega)]
theorem rowS_B {v : Int → Int} (h : rowS v) : rowB v := by
  intro j j0 j1
  have key : ∀ k i, 0 ≤ k → k < 4 → 0 ≤ i → i < mostK k → j / 4 = firstK k + i → 0 ≤ v j ∧ v j ≤ 99 := by
    intro k i k0 k1 i0 i1 e
    have := h k i (j % 4) k0 k1 i0 i1 (by omega) (by omega)
    have sb := sav_b (i := k * 4 + j % 4) (by omega) (by omega)
    rw [show (firstK k + i) * 4 + j % 4 = j by omega] at this
    omega
  have m0 : mostK 0 = 1 := rfl
  have m1 : mostK 1 = 4 := rfl
  have m2 : mostK 2 = 6 := rfl
  have m3 : mostK 3 = 6 := rfl
  have f0 : firstK 0 = 0 := rfl
  have f1 : firstK 1 = 1 := rfl
  have f2 : firstK 2 = 5 := rfl
  have f3 : firstK 3 = 11 := rfl
  by_cases c0 : j / 4 < 1
  · exact key 0 (j / 4) (by decide) (by decide) (by omega) (by omega) (by omega)
  · by_cases c1 : j / 4 < 5
    · exact key 1 (j / 4 - 1) (by decide) (by decide) (by omega) (by omega) (by omega)
    · by_cases c2 : j / 4 < 11
      · exact key 2 (j / 4 - 5) (by decide) (by decide) (by omega) (by omega) (by omega)
      · exact key 3 (j / 4 - 11) (by decide) (by decide) (by omega) (by omega) (by omega)
theorem RR_plan {σ : Mem} (h : RR σ) : planB σ 6 ∧ planB σ 3 := by
  obtain ⟨-, ⟨b1, b2, b3, b4, -⟩, -⟩ := h
  exact ⟨⟨b3, rowS_B b4⟩, ⟨b1, rowS_B b2⟩⟩
theorem RR_cnt {σ : Mem} (h : RR σ) : pcnt σ 6 1 = σ 5000 28 ∧ pcnt σ 6 2 = σ 5000 29 ∧ pcnt σ 6 3 = σ 5000 30 := by
  obtain ⟨-, ⟨-, -, -, -, -, b6, -⟩, -⟩ := h
  unfold pcnt
  rw [if_pos (by decide), if_pos (by decide), if_pos (by decide)]
  exact b6
theorem RR_lawOk {σ : Mem} (h : RR σ) : lawOk σ := by
  have n := RR_n h
  obtain ⟨-, -, ⟨a1, a2, a3, a4, a5⟩, -⟩ := h
  unfold lawOk
  by_cases c : σ 5000 38 = -1
  · left; rw [a4, if_pos c]; decide
  · right
    rw [if_neg c] at a4
    rcases a3 with a3 | a3
    · exact absurd a3 c
    obtain ⟨b1, b2, b3⟩ := a5 _ a3.1 a3.2
    rw [a4, b1, show 100 + 3 * σ 5000 38 + 1 = 101 + 3 * σ 5000 38 by omega]
    refine ⟨?_, b2.1, b2.2, fun L hL => ⟨_, b3 L hL⟩⟩
    unfold isLw; omega
theorem ltr_bd {f h d n k e : Int} (hd : mdg f h d n k e) : lbd (ltr f h d n k e) := by
  intro j j0 j1
  unfold ltr
  (repeat' split) <;> exact ⟨by omega, by omega⟩
theorem RR_rk {σ : Mem} (h : RR σ) {f g d n k e : Int} (hd : mdg f g d n k e) : rkV σ f g d n k e = mRk σ f g d n k e := by
  have nn := RR_n h
  obtain ⟨-, -, ⟨a1, a2, a3, a4, a5⟩, -⟩ := h
  unfold rkV mRk lwV
  by_cases c : σ 5000 38 = -1
  · rw [if_pos c] at a4
    rw [a4, if_pos (by decide), if_pos c]
    rfl
  · rw [if_neg c] at a4
    rcases a3 with a3 | a3
    · exact absurd a3 c
    obtain ⟨b1, b2, b3⟩ := a5 _ a3.1 a3.2
    rw [a4, b1, if_neg (by omega), if_neg c, show 100 + 3 * σ 5000 38 + 1 = 101 + 3 * σ 5000 38 by omega, (b3 _ (ltr_bd hd)).2]
    rfl
theorem RR_eqH {σ : Mem} (h : RR σ) : eqH σ σ := by
  have c := RR_cnt h
  have n := RR_n h
  have hh := h.2.1
  obtain ⟨-, -, -, b4, -, -, -, -, -, b10, b11, b12⟩ := hh
  refine ⟨c.2.1, c.1, c.2.2, ?_, fun p k p0 p1 k0 k1 => ?_, fun t t0 t1 => ?_, fun f g d n k e hd _ => RR_rk h hd⟩
  · rw [pval_at (by decide) (by decide) (by decide) (by decide) (by decide) (by decide)]; exact b10
  · rw [pval_at (by decide) (by decide) p0 (show p < mostK 1 by show p < 4; omega) k0 k1]; exact b11 p k p0 p1 k0 k1
  · rw [pval_at (by decide) (by decide) t0 (show t < mostK 3 by show t < 6; omega) (by decide) (by decide), show (firstK 3 + t) * 4 + 0 = (11 + t) * 4 by rw [show firstK 3 = 11 from rfl]; omega]; exact b12 t t0 t1
theorem aud16 (σ : Mem) {c : Int} (c0 : 0 ≤ c) (c1 : c < 6) : aud σ 16 c = σ 17 c ∧ aud σ 16 (c + 6) = σ 18 c ∧ aud σ 16 (c + 12) = σ 19 c ∧ aud σ 16 (c + 18) = σ 20 c := ⟨aud_1 σ 16 c c1, aud_2 σ 16 c c0 c1, aud_3 σ 16 c c0 c1, aud_4 σ 16 c c0 c1⟩
theorem audk (σ : Mem) : aud σ 16 24 = σ 16 4 ∧ aud σ 16 25 = σ 16 5 ∧ aud σ 16 26 = σ 16 6 := ⟨aud_5 σ 16 4 (by decide), aud_5 σ 16 5 (by decide), aud_5 σ 16 6 (by decide)⟩
theorem RR_now {σ : Mem} (h : RR σ) : (∀ c, 0 ≤ c → c < σ 5000 29 → σ 17 c = σ 5015 (4 * c) ∧ σ 18 c = σ 5015 (4 * c + 1) ∧ σ 19 c = σ 5015 (4 * c + 2) ∧ σ 20 c = σ 5015 (4 * c + 3)) ∧ (σ 16 4 = σ 5015 24 ∧ σ 16 5 = σ 5015 25 ∧ σ 16 6 = σ 5015 26) ∧ aR (σ 5000 29) (σ 5000 30) (σ 5015) ∧ σ 5015 26 ≤ 999 ∧ ∀ i, 0 ≤ i → i < 6 → (0 ≤ σ 17 i ∧ σ 17 i ≤ 9) ∧ (0 ≤ σ 18 i ∧ σ 18 i ≤ 5) ∧ (0 ≤ σ 19 i ∧ σ 19 i ≤ 99) ∧ 0 ≤ σ 20 i ∧ σ 20 i ≤ 9999 := by
  have n := RR_n h
  obtain ⟨-, -, -, -, -, ⟨⟨a1, a2, a3, a4, a5⟩, -⟩, -⟩ := h
  have k := audk σ
  refine ⟨fun c c0 c1 => ?_, by rw [← k.1, ← k.2.1, ← k.2.2]; exact a2, a3, a4, fun i i0 i1 => ?_⟩
  · have e := aud16 σ c0 (by omega)
    rw [← e.1, ← e.2.1, ← e.2.2.1, ← e.2.2.2]; exact a1 c c0 c1
  · have e := aud16 σ i0 i1
    rw [← e.1, ← e.2.1, ← e.2.2.1, ← e.2.2.2]; exact a5 i i0 i1
theorem RR_eqA {σ : Mem} (h : RR σ) : eqA σ σ 16 5015 := by
  obtain ⟨a1, a2, -⟩ := RR_now h
  exact ⟨fun c c0 c1 => ⟨(a1 c c0 c1).1, (a1 c c0 c1).2.1⟩, a2.1, a2.2.2⟩
theorem RR_mX {σ : Mem} (h : RR σ) : mX σ 5015 := by
  have n := RR_n h
  have a := RR_now h
  obtain ⟨-, -, ⟨-, -, l3, -⟩, -, -, -, ⟨-, -, p3, -⟩, -, -, ⟨m1, -, m3, m4, m5⟩, -⟩ := h
  exact ⟨Or.inl rfl, ⟨m1, l3, n.2.1, n.2.2.1, n.1, m3, m4, m5, p3⟩, a.2.2.1⟩
theorem RR_min {σ : Mem} (h : RR σ) (p : Int) : pval σ 6 1 p 3 ≤ 9 := by
  have b4 := h.2.1.2.2.2.1
  by_cases c : 0 ≤ p ∧ p < 4
  · rw [pval_at (by decide) (by decide) c.1 (show p < mostK 1 from c.2) (by decide) (by decide)]
    have := (b4 1 p 3 (by decide) (by decide) c.1 (show p < mostK 1 from c.2) (by decide) (by decide)).2
    rw [show sav 21001 (1 * 4 + 3) = 9 by decide] at this
    exact this
  · unfold pval slotF
    rw [if_neg (show ¬ (0 ≤ (1 : Int) ∧ (1 : Int) < 4 ∧ 0 ≤ p ∧ p < mostK 1 ∧ 0 ≤ (3 : Int) ∧ (3 : Int) < 4) from fun q => c ⟨q.2.2.1, q.2.2.2.1⟩), if_pos rfl]; decide
theorem RR_xS {σ : Mem} (h : RR σ) : xS σ := by
  have n := RR_n h
  have c := RR_cnt h
  obtain ⟨a1, a2, ⟨r1, r2, r3, r4, r5⟩, a4, a5⟩ := RR_now h
  refine ⟨⟨Or.inl rfl, (RR_plan h).1, RR_lawOk h, fun i i0 i1 => (a5 i i0 i1).1, by omega, ⟨by omega, by omega⟩⟩, fun i i0 i1 => ?_, RR_min h, fun i i0 i1 => ?_⟩
  · have := (a5 i i0 i1).2.1
    exact ⟨by omega, by omega⟩
  · rw [c.2.1] at i1
    rw [c.2.2, (a1 i i0 i1).2.1]
    exact (r1 i i0 i1).2.1
theorem RR_W {σ : Mem} (h : RR σ) : 0 ≤ σ 31 1 ∧ σ 31 1 ≤ 999 ∧ σ 5015 27 = min 60 (σ 31 1) := by
  obtain ⟨-, -, -, a4, -⟩ := RR_now h
  obtain ⟨-, -, -, -, -, ⟨-, l1, l2, l3, -⟩, -⟩ := h
  exact ⟨l1, by omega, l2⟩
theorem RR_pastOk {σ : Mem} (h : RR σ) : pastOk σ := by
  have w := RR_W h
  obtain ⟨-, -, -, -, -, -, ⟨p1, p2, p3, -⟩, -⟩ := h
  exact ⟨p2, by rw [p1]; exact p3, by omega, by omega⟩
theorem RR_auS {σ : Mem} (h : RR σ) : auS σ 16 := by
  obtain ⟨a1, a2, ⟨r1, r2, r3, r4, r5⟩, a4, a5⟩ := RR_now h
  refine ⟨fun i i0 i1 => ?_, fun i i0 i1 => ?_, ⟨by omega, by omega⟩⟩
  · have := (a5 i i0 i1).2.1
    exact ⟨show -2147483648 ≤ σ 18 i by omega, show σ 18 i ≤ 2147483647 by omega⟩
  · have := (a5 i i0 i1).2.2.1
    exact ⟨show -2147483648 ≤ σ 19 i by omega, show σ 19 i ≤ 2147483647 by omega⟩
theorem RR_xA {σ : Mem} (h : RR σ) : xA σ := by
  have n := RR_n h
  have c := RR_cnt h
  obtain ⟨a1, a2, ⟨r1, r2, r3, r4, r5⟩, a4, a5⟩ := RR_now h
  refine ⟨RR_xS h, RR_pastOk h, RR_auS h, fun i i0 i1 => ?_, by omega, by omega, fun i i0 i1 => ?_⟩
  · exact (a5 i i0 (by omega)).2.2.2
  · exact (a5 i i0 (by omega)).2.2.1
theorem RR_clu {σ : Mem} (h : RR σ) : cluOk σ := by
  obtain ⟨-, -, -, -, ⟨⟨h1, h2⟩, w1, w2, w3⟩, -⟩ := h
  refine ⟨by rw [w1]; exact h1, fun j j0 j1 => ?_⟩
  rw [w1] at j1
  obtain ⟨b1, b2, b3, b4, b5⟩ := h2 j j0 j1
  rw [w2 _ (by omega) (by omega), w2 _ (by omega) (by omega), w2 _ (by omega) (by omega), w2 _ (by omega) (by omega), w2 _ (by omega) (by omega)]
  exact ⟨⟨by omega, by omega⟩, ⟨by omega, by omega⟩, b3, ⟨by omega, by omega⟩, ⟨by omega, by omega⟩⟩
/-- what PLAYS tried by the class may change doesn't matter -/
theorem RR_SA {σ τ : Mem} (hS : SA σ τ) (h : RR σ) : RR τ := by
  have n := RR_n h
  have r : ∀ b, (b < 21 ∨ 30 < b) → b ≠ 37 → b ≠ 38 → b ≠ 40 → b ≠ 102 → b ≠ 105 → b ≠ 108 → b ≠ 111 → τ b = σ b := hS.1
  have q : ∀ b, b < 21 ∨ (30 < b ∧ b < 37) ∨ (40 < b ∧ b < 100) ∨ 111 < b → τ b = σ b := fun b hb => r b (by omega) (by omega) (by omega) (by omega) (by omega) (by omega) (by omega) (by omega)
  have k : ∀ x, τ 5000 x = σ 5000 x := fun x => by rw [q 5000 (by decide)]
  obtain ⟨h1, h2, h3, h4, h5, h6, h7, h8, h9, h10, h11⟩ := h
  refine ⟨tapeR_c (by rw [q 1 (by decide)]) (q 2 (by decide)) (k 6) (q 5001 (by decide)) h1, houR_c (q 4 (by decide)) (q 5 (by decide)) (q 7 (by decide)) (q 8 (by decide)) (fun x _ => k x) (fun b hb => q b (by omega)) h2, lawR_c (by rw [q 0 (by decide)]) (by rw [q 0 (by decide)]) hS.2 (q 12 (by decide)) ⟨k 7, k 38⟩ (q 5002 (by decide)) (q 5003 (by decide)) (fun l l0 l1 => r _ (by omega) (by omega) (by omega) (by omega) (by omega) (by omega) (by omega) (by omega)) n.2.2.2.2 h3, seaR_c (by rw [q 13 (by decide)]) (q 14 (by decide)) (q 15 (by decide)) (k 34) (q 5013 (by decide)) (q 5014 (by decide)) h4, howR_c (by rw [q 41 (by decide)]) (q 42 (by decide)) (fun x _ => k x) (q 5024 (by decide)) h5, nowR_c n.2.1.2 (fun j _ _ => by rw [q 16 (by decide)]) (fun b b0 b1 => q b (by omega)) (q 32 (by decide)) (by rw [q 31 (by decide)]) ⟨k 29, k 30⟩ (q 5015 (by decide)) h6, pastR_c (fun x _ => by rw [q 31 (by decide)]) (q 32 (by decide)) (q 33 (by decide)) (fun x _ => k x) (q 5023 (by decide)) h7, imR_c (fun x _ => by rw [q 31 (by decide)]) (q 34 (by decide)) (q 35 (by decide)) (fun x _ => k x) (q 5026 (by decide)) h8, livR_c (q (-2) (by decide)) (k 7) h9, mskR_c (mOk_c (k 7) (fun b hb => q b (by omega)) h10.1) (by rw [q 0 (by decide)]) ⟨k 39, k 28, k 30⟩ (q 5007 (by decide)) (q 5011 (by decide)) (q 5005 (by decide)) h10, ringR_c (q 32 (by decide)) (q 35 (by decide)) h11⟩
/-- nor what the reference's questions may change -/
theorem RR_QF {σ τ : Mem} (hQ : QF σ τ) (hm : mOk τ) (h : RR σ) : RR τ := by
  have n := RR_n h
  have q : ∀ b, b < 5000 ∨ (5000 < b ∧ b < 5004) ∨ (5004 < b ∧ b < 5016) ∨ b = 5023 ∨ b = 5024 ∨ b = 5026 → τ b = σ b := fun b hb => hQ.1 b (by omega) (by omega) (by omega) (by omega)
  have k : ∀ x, x = 6 ∨ x = 7 ∨ x = 28 ∨ x = 29 ∨ x = 30 ∨ x = 34 ∨ x = 38 ∨ x = 39 ∨ x = 48 ∨ x = 53 ∨ x = 56 → τ 5000 x = σ 5000 x := fun x hx => hQ.2 x (by omega) (by omega) (by omega) (by omega) (by omega) (by omega) (by omega)
  obtain ⟨h1, h2, h3, h4, h5, h6, h7, h8, h9, h10, h11⟩ := h
  refine ⟨tapeR_c (by rw [q 1 (by decide)]) (q 2 (by decide)) (k 6 (by decide)) (q 5001 (by decide)) h1, houR_c (q 4 (by decide)) (q 5 (by decide)) (q 7 (by decide)) (q 8 (by decide)) (fun x hx => k x (by omega)) (fun b hb => q b (by omega)) h2, lawR_c (by rw [q 0 (by decide)]) (by rw [q 0 (by decide)]) (by rw [q 26 (by decide)]) (q 12 (by decide)) ⟨k 7 (by decide), k 38 (by decide)⟩ (q 5002 (by decide)) (q 5003 (by decide)) (fun l l0 l1 => q _ (by omega)) n.2.2.2.2 h3, seaR_c (by rw [q 13 (by decide)]) (q 14 (by decide)) (q 15 (by decide)) (k 34 (by decide)) (q 5013 (by decide)) (q 5014 (by decide)) h4, howR_c (by rw [q 41 (by decide)]) (q 42 (by decide)) (fun x hx => k x (by omega)) (q 5024 (by decide)) h5, nowR_c n.2.1.2 (fun j _ _ => by rw [q 16 (by decide)]) (fun b b0 b1 => q b (by omega)) (q 32 (by decide)) (by rw [q 31 (by decide)]) ⟨k 29 (by decide), k 30 (by decide)⟩ (q 5015 (by decide)) h6, pastR_c (fun x _ => by rw [q 31 (by decide)]) (q 32 (by decide)) (q 33 (by decide)) (fun x hx => k x (by omega)) (q 5023 (by decide)) h7, imR_c (fun x _ => by rw [q 31 (by decide)]) (q 34 (by decide)) (q 35 (by decide)) (fun x hx => k x (by omega)) (q 5026 (by decide)) h8, livR_c (q (-2) (by decide)) (k 7 (by decide)) h9, mskR_c hm (by rw [q 0 (by decide)]) ⟨k 39 (by decide), k 28 (by decide), k 30 (by decide)⟩ (q 5007 (by decide)) (q 5011 (by decide)) (q 5005 (by decide)) h10, ringR_c (q 32 (by decide)) (q 35 (by decide)) h11⟩
theorem RR_th {σ : Mem} (h : RR σ) : RR (th0 σ) := RR_QF (QF_th σ) (mOk_th h.2.2.2.2.2.2.2.2.2.1.1) h
/-- a question: the class has tried PLAYS, the reference begins -/
theorem RR_q {σ τ : Mem} (h : RR σ) (hS : SA σ τ) : RR τ ∧ eqH σ (th0 τ) ∧ eqA σ (th0 τ) 16 5015 ∧ mX (th0 τ) 5015 ∧ ∀ b, b ≠ 5000 → 5000 < b → th0 τ b = σ b := by
  have hr := RR_SA hS h
  have q : ∀ b, 111 < b → τ b = σ b := fun b hb => hS.1 b (by omega) (by omega) (by omega) (by omega) (by omega) (by omega) (by omega) (by omega)
  have o : ∀ b, b ≠ 5000 → 5000 < b → th0 τ b = σ b := fun b h1 h2 => by rw [th_o τ h1]; exact q b (by omega)
  have k : ∀ x, x ≠ 0 → th0 τ 5000 x = σ 5000 x := fun x hx => by rw [th_k τ hx, q 5000 (by decide)]
  refine ⟨hr, eqH_m (fun x hx => k x (by omega)) (fun b hb => o b (by omega) (by omega)) (RR_eqH h), ?_, mX_th (RR_mX hr), o⟩
  have := RR_eqA h
  unfold eqA at *
  rw [k 29 (by decide), o 5015 (by decide) (by decide)]
  exact this
