/-! ACTS by hand side by side -/
theorem act_q {σ m τ μ : Mem} (hn : nowR σ m) (hp : pastR σ m) (n6 : m 5000 29 ≤ 6) (h31 : ∀ k, k = 1 ∨ k = 3 ∨ k = 4 → τ 31 k = rmM σ 31 k) (h32 : τ 32 = σ 32) (h33 : τ 33 = rmM σ 33) (hk : μ 5000 29 = m 5000 29 ∧ μ 5000 30 = m 5000 30) (h48 : μ 5000 48 = rmb m 5000 48) (h23 : μ 5023 = rmb m 5023) (h15 : ∀ j, 26 ≤ j → j < 208 → μ 5015 j = m 5015 j) (ha : auR (m 5000 29) (m 5000 30) (aud τ 16) (μ 5015)) : nowR τ μ ∧ pastR τ μ := by
  refine ⟨⟨by rw [hk.1, hk.2]; exact ha, ?_⟩, (past_push hn hp n6 h31 h32 h33 hk h48 h23).1⟩
  rw [h32, h31 1 (by decide), (rmM_31 σ).1]
  exact lgR_c (fun _ _ _ => rfl) h15 hn.2
/-- RR behind an ACT -/
theorem RR_act {σ τ μ : Mem} (h : RR σ) (hA : AG σ τ) (h78 : τ 31 7 = σ 31 7 ∧ τ 31 8 = σ 31 8) (hG : MG τ μ) (hm : mOk μ) (hn : nowR τ μ) (hp : pastR τ μ) (hr : ringR τ) : RR μ := by
  have n := RR_n h
  have q : ∀ b, b ≠ 0 → (b < 16 ∨ 20 < b) → (b < 26 ∨ 33 < b) → b ≠ 37 → b ≠ 38 → b ≠ 40 → b ≠ 102 → b ≠ 105 → b ≠ 108 → b ≠ 111 → τ b = σ b := hA.1
  have g : ∀ b, b ≠ 5000 → b ≠ 5004 → ¬ (5015 ≤ b ∧ b ≤ 5023) → μ b = τ b := hG.1
  have r : ∀ b, b = -2 ∨ (0 < b ∧ b < 16) ∨ (33 < b ∧ b < 37) ∨ (40 < b ∧ b < 100) ∨ (5000 < b ∧ b < 5004) ∨ (5004 < b ∧ b < 5015) ∨ (5023 < b ∧ b < 5030) → μ b = σ b := fun b hb => by
    rw [g b (by omega) (by omega) (by omega)]; exact q b (by omega) (by omega) (by omega) (by omega) (by omega) (by omega) (by omega) (by omega) (by omega) (by omega)
  have s : ∀ b, b < 5000 → μ b = τ b := fun b hb => g b (by omega) (by omega) (by omega)
  have k5 : τ 5000 = σ 5000 := q 5000 (by decide) (by decide) (by decide) (by decide) (by decide) (by decide) (by decide) (by decide) (by decide) (by decide)
  have k : ∀ x, x = 6 ∨ x = 7 ∨ x = 28 ∨ x = 29 ∨ x = 30 ∨ x = 34 ∨ x = 38 ∨ x = 39 ∨ x = 53 ∨ x = 56 → μ 5000 x = σ 5000 x := fun x hx => by
    rw [hG.2 x (by omega) (by omega) (by omega) (by omega) (by omega) (by omega) (by omega), k5]
  have z0 : ∀ x, x ≠ 9 → μ 0 x = σ 0 x := fun x hx => by rw [s 0 (by decide)]; exact hA.2.2 x hx
  obtain ⟨h1, h2, h3, h4, h5, h6, h7, h8, h9, h10, h11⟩ := h
  refine ⟨tapeR_c (by rw [r 1 (by decide)]) (r 2 (by decide)) (k 6 (by decide)) (r 5001 (by decide)) h1, houR_c (r 4 (by decide)) (r 5 (by decide)) (r 7 (by decide)) (r 8 (by decide)) (fun x hx => k x (by omega)) (fun b hb => r b (by omega)) h2, lawR_c (z0 5 (by decide)) (z0 6 (by decide)) (by rw [s 26 (by decide)]; exact hA.2.1) (r 12 (by decide)) ⟨k 7 (by decide), k 38 (by decide)⟩ (r 5002 (by decide)) (r 5003 (by decide)) (fun l l0 l1 => by rw [s _ (by omega)]; exact q _ (by omega) (by omega) (by omega) (by omega) (by omega) (by omega) (by omega) (by omega) (by omega) (by omega)) n.2.2.2.2 h3, seaR_c (by rw [r 13 (by decide)]) (r 14 (by decide)) (r 15 (by decide)) (k 34 (by decide)) (r 5013 (by decide)) (r 5014 (by decide)) h4, howR_c (by rw [r 41 (by decide)]) (r 42 (by decide)) (fun x hx => k x (by omega)) (r 5024 (by decide)) h5, nowR_c (by rw [k 29 (by decide)]; exact n.2.1.2) (fun j _ _ => by rw [s 16 (by decide)]) (fun b b0 b1 => s b (by omega)) (s 32 (by decide)) (by rw [s 31 (by decide)]) ⟨rfl, rfl⟩ rfl hn, pastR_c (fun x _ => by rw [s 31 (by decide)]) (s 32 (by decide)) (s 33 (by decide)) (fun _ _ => rfl) rfl hp, imR_c (fun x hx => ?_) (r 34 (by decide)) (r 35 (by decide)) (fun x hx => k x (by omega)) (r 5026 (by decide)) h8, livR_c (r (-2) (by decide)) (k 7 (by decide)) h9, mskR_c hm (z0 8 (by decide)) ⟨k 39 (by decide), k 28 (by decide), k 30 (by decide)⟩ (r 5007 (by decide)) (r 5011 (by decide)) (r 5005 (by decide)) h10, ringR_c (s 32 (by decide)) (s 35 (by decide)) hr⟩
  rw [s 31 (by decide)]
  rcases hx with e | e <;> rw [e]
  · exact h78.1
  · exact h78.2
/-- the reference begins where the class has ended -/
theorem RR_m {σ τ : Mem} (h : RR σ) (hA : AG σ τ) : mX (th0 τ) 5015 ∧ mX τ 5015 ∧ nowR σ (th0 τ) ∧ pastR σ (th0 τ) ∧ eqH σ (th0 τ) ∧ (∀ b, 5000 < b → b < 6000 → th0 τ b = σ b) ∧ (∀ x, x ≠ 0 → th0 τ 5000 x = σ 5000 x) ∧ τ 5000 = σ 5000 ∧ mOk (th0 τ) := by
  have n := RR_n h
  have q : ∀ b, 4999 < b → b < 6000 → τ b = σ b := fun b h1 h2 => hA.1 b (by omega) (by omega) (by omega) (by omega) (by omega) (by omega) (by omega) (by omega) (by omega) (by omega)
  have k5 := q 5000 (by decide) (by decide)
  have o : ∀ b, 5000 < b → b < 6000 → th0 τ b = σ b := fun b h1 h2 => by rw [th_o τ (by omega)]; exact q b (by omega) h2
  have k : ∀ x, x ≠ 0 → th0 τ 5000 x = σ 5000 x := fun x hx => by rw [th_k τ hx, k5]
  have hx := RR_mX h
  have hm : mOk τ := mOk_c (by rw [k5]) (fun b hb => q b (by omega) (by omega)) hx.2.1.1
  have hxt : mX τ 5015 := by
    have hG : MG σ τ ∨ True := Or.inr trivial
    obtain ⟨w, ⟨g1, g2, g3, g4, g5, g6, g7, g8, g9⟩, g10⟩ := hx
    refine ⟨w, ⟨hm, lwIs_c (by rw [k5]) (by rw [k5]) g2, by rw [k5]; exact g3, by rw [k5]; exact g4, by rw [k5]; exact g5, by rw [q 5007 (by decide) (by decide), k5]; exact g6, by rw [q 5011 (by decide) (by decide), k5]; exact g7, by rw [q 5005 (by decide) (by decide)]; exact g8, by rw [k5]; exact g9⟩, by rw [k5, q 5015 (by decide) (by decide)]; exact g10⟩
  refine ⟨mX_th hxt, hxt, nowR_c n.2.1.2 (fun _ _ _ => rfl) (fun _ _ _ => rfl) rfl rfl ⟨k 29 (by decide), k 30 (by decide)⟩ (o 5015 (by decide) (by decide)) h.2.2.2.2.2.1, pastR_c (fun _ _ => rfl) rfl rfl (fun x hx => k x (by omega)) (o 5023 (by decide) (by decide)) h.2.2.2.2.2.2.1, eqH_m (fun x hx => k x (by omega)) (fun b hb => o b (by omega) (by omega)) (RR_eqH h), o, k, k5, mOk_th hm⟩
theorem AG_rm (σ : Mem) : AG σ (rmM σ) := AF_AG (AF_rm σ)
theorem AG_up {σ τ : Mem} (h : AG σ τ) {a k v : Int} (ha : 16 ≤ a ∧ a ≤ 20) : AG σ (up τ a k v) := ⟨fun b h9 h0 h1 h2 h3 h4 h5 h6 h7 h8 => by rw [up_na _ (by omega)]; exact h.1 b h9 h0 h1 h2 h3 h4 h5 h6 h7 h8, by rw [up_na _ (by omega)]; exact h.2.1, fun k hk => by rw [up_na _ (by omega)]; exact h.2.2 k hk⟩
theorem aud_rm (σ : Mem) {k : Int} (k1 : k < 27) : aud (rmM σ) 16 k = aud σ 16 k := aud_c (fun j _ _ => by rw [rmM_o σ (by decide) (by decide)]) (fun b b0 b1 => rmM_o σ (by omega) (by omega)) k1
theorem aud_u {σ : Mem} {a c v : Int} (ha : 17 ≤ a ∧ a ≤ 20) (c0 : 0 ≤ c) (c1 : c < 6) {k : Int} (k0 : 0 ≤ k) (k1 : k < 27) : aud (up σ a c v) 16 k = upf (aud σ 16) ((a - 17) * 6 + c) v k := by
  unfold upf aud
  have e : a = 17 ∨ a = 18 ∨ a = 19 ∨ a = 20 := by omega
  rw [show (16 : Int) + 1 = 17 from rfl, show (16 : Int) + 2 = 18 from rfl, show (16 : Int) + 3 = 19 from rfl, show (16 : Int) + 4 = 20 from rfl]
  by_cases x1 : k < 6
  · rw [if_pos x1, if_pos x1]
    rcases e with rfl | rfl | rfl | rfl
    · by_cases y : k = c
      · rw [if_pos (by omega), y, up_s]
      · rw [if_neg (by omega), up_nj _ y]
    · rw [if_neg (by omega), up_na _ (by decide)]
    · rw [if_neg (by omega), up_na _ (by decide)]
    · rw [if_neg (by omega), up_na _ (by decide)]
  · rw [if_neg x1, if_neg x1]
    by_cases x2 : k < 12
    · rw [if_pos x2, if_pos x2]
      rcases e with rfl | rfl | rfl | rfl
      · rw [if_neg (by omega), up_na _ (by decide)]
      · by_cases y : k - 6 = c
        · rw [if_pos (by omega), y, up_s]
        · rw [if_neg (by omega), up_nj _ y]
      · rw [if_neg (by omega), up_na _ (by decide)]
      · rw [if_neg (by omega), up_na _ (by decide)]
    · rw [if_neg x2, if_neg x2]
      by_cases x3 : k < 18
      · rw [if_pos x3, if_pos x3]
        rcases e with rfl | rfl | rfl | rfl
        · rw [if_neg (by omega), up_na _ (by decide)]
        · rw [if_neg (by omega), up_na _ (by decide)]
        · by_cases y : k - 12 = c
          · rw [if_pos (by omega), y, up_s]
          · rw [if_neg (by omega), up_nj _ y]
        · rw [if_neg (by omega), up_na _ (by decide)]
      · rw [if_neg x3, if_neg x3]
        by_cases x4 : k < 24
        · rw [if_pos x4, if_pos x4]
          rcases e with rfl | rfl | rfl | rfl
          · rw [if_neg (by omega), up_na _ (by decide)]
          · rw [if_neg (by omega), up_na _ (by decide)]
          · rw [if_neg (by omega), up_na _ (by decide)]
          · by_cases y : k - 18 = c
            · rw [if_pos (by omega), y, up_s]
            · rw [if_neg (by omega), up_nj _ y]
        · rw [if_neg x4, if_neg x4, if_neg (by omega), up_na _ (by omega)]
theorem aud_u16 {σ : Mem} {x v : Int} (h4 : 4 ≤ x) (h6 : x ≤ 6) {k : Int} (k1 : k < 27) : aud (up σ 16 x v) 16 k = upf (aud σ 16) (x + 20) v k := by
  unfold upf aud
  rw [up_na _ (show (16 : Int) + 1 ≠ 16 by decide), up_na _ (show (16 : Int) + 2 ≠ 16 by decide), up_na _ (show (16 : Int) + 3 ≠ 16 by decide), up_na _ (show (16 : Int) + 4 ≠ 16 by decide)]
  by_cases e : k = x + 20
  · rw [if_pos e, if_neg (by omega), if_neg (by omega), if_neg (by omega), if_neg (by omega), show k - 20 = x by omega, up_s]
  · rw [if_neg e, up_nj _ (by omega)]
/-- one place of the audience changes -/
theorem auR_h {n s : Int} {f r : Int → Int} (n6 : n ≤ 6) (h : auR n s f r) {c v : Int} (c0 : 0 ≤ c) (c1 : c < n) (v0 : 0 ≤ v) (v1 : v ≤ 9) : auR n s (upf f c v) (upf r (4 * c) v) := by
  obtain ⟨a1, a2, a3, a4, a5⟩ := h
  refine ⟨fun d d0 d1 => ?_, ?_, aR_he n6 a3 c0 c1 v0 v1, by rw [upf_n2 _ (by omega)]; exact a4, fun i i0 i1 => ?_⟩
  · rw [upf_n2 f (show d + 6 ≠ c by omega), upf_n2 f (show d + 12 ≠ c by omega), upf_n2 f (show d + 18 ≠ c by omega), upf_n2 r (show 4 * d + 1 ≠ 4 * c by omega), upf_n2 r (show 4 * d + 2 ≠ 4 * c by omega), upf_n2 r (show 4 * d + 3 ≠ 4 * c by omega)]
    have b := a1 d d0 d1
    refine ⟨?_, b.2⟩
    by_cases e : d = c
    · rw [e, upf_s2, upf_s2]
    · rw [upf_n2 _ e, upf_n2 _ (by omega)]; exact b.1
  · rw [upf_n2 _ (by omega), upf_n2 _ (by omega), upf_n2 _ (by omega), upf_n2 _ (by omega), upf_n2 _ (by omega), upf_n2 _ (by omega)]; exact a2
  · have b := a5 i i0 i1
    rw [upf_n2 f (show i + 6 ≠ c by omega), upf_n2 f (show i + 12 ≠ c by omega), upf_n2 f (show i + 18 ≠ c by omega)]
    refine ⟨?_, b.2⟩
    by_cases e : i = c
    · rw [e, upf_s2]; exact ⟨v0, v1⟩
    · rw [upf_n2 _ e]; exact b.1
theorem auR_m {n s : Int} {f r : Int → Int} (n6 : n ≤ 6) (h : auR n s f r) {c v : Int} (c0 : 0 ≤ c) (c1 : c < n) (v0 : 0 ≤ v) (v1 : v ≤ 99) : auR n s (upf f (c + 12) v) (upf r (4 * c + 2) v) := by
  obtain ⟨a1, a2, a3, a4, a5⟩ := h
  have a3' : aR n s (upf r (4 * c + 2) v) := by
    obtain ⟨g1, g2, g3, g4, g5⟩ := a3
    refine ⟨fun d d0 d1 => ?_, by rw [upf_n2 _ (by omega)]; exact g2, by rw [upf_n2 _ (by omega)]; exact g3, by rw [upf_n2 _ (by omega)]; exact g4, by rw [upf_n2 _ (by omega)]; exact g5⟩
    rw [upf_n2 r (show 4 * d ≠ 4 * c + 2 by omega), upf_n2 r (show 4 * d + 1 ≠ 4 * c + 2 by omega), upf_n2 r (show 4 * d + 3 ≠ 4 * c + 2 by omega)]
    have b := g1 d d0 d1
    refine ⟨b.1, b.2.1, ?_, b.2.2.2⟩
    by_cases e : d = c
    · rw [e, upf_s2]; exact ⟨v0, v1⟩
    · rw [upf_n2 _ (by omega)]; exact b.2.2.1
  refine ⟨fun d d0 d1 => ?_, ?_, a3', by rw [upf_n2 _ (by omega)]; exact a4, fun i i0 i1 => ?_⟩
  · rw [upf_n2 f (show d ≠ c + 12 by omega), upf_n2 f (show d + 6 ≠ c + 12 by omega), upf_n2 f (show d + 18 ≠ c + 12 by omega), upf_n2 r (show 4 * d ≠ 4 * c + 2 by omega), upf_n2 r (show 4 * d + 1 ≠ 4 * c + 2 by omega), upf_n2 r (show 4 * d + 3 ≠ 4 * c + 2 by omega)]
    have b := a1 d d0 d1
    refine ⟨b.1, b.2.1, ?_, b.2.2.2⟩
    by_cases e : d = c
    · rw [e, upf_s2, upf_s2]
    · rw [upf_n2 _ (by omega), upf_n2 _ (by omega)]; exact b.2.2.1
  · rw [upf_n2 _ (by omega), upf_n2 _ (by omega), upf_n2 _ (by omega), upf_n2 _ (by omega), upf_n2 _ (by omega), upf_n2 _ (by omega)]; exact a2
  · have b := a5 i i0 i1
    rw [upf_n2 f (show i ≠ c + 12 by omega), upf_n2 f (show i + 6 ≠ c + 12 by omega), upf_n2 f (show i + 18 ≠ c + 12 by omega)]
    refine ⟨b.1, b.2.1, ?_, b.2.2.2⟩
    by_cases e : i = c
    · rw [e, upf_s2]; exact ⟨v0, v1⟩
    · rw [upf_n2 _ (by omega)]; exact b.2.2.1
theorem auR_t {n s : Int} {f r : Int → Int} (n6 : n ≤ 6) (s6 : s ≤ 6) (h : auR n s f r) {c v : Int} (c0 : 0 ≤ c) (c1 : c < n) (v0 : 0 ≤ v) (v1 : v < s) : auR n s (upf f (c + 6) v) (upf r (4 * c + 1) v) := by
  obtain ⟨a1, a2, a3, a4, a5⟩ := h
  refine ⟨fun d d0 d1 => ?_, ?_, aR_ti n6 a3 c0 c1 v0 v1, by rw [upf_n2 _ (by omega)]; exact a4, fun i i0 i1 => ?_⟩
  · rw [upf_n2 f (show d ≠ c + 6 by omega), upf_n2 f (show d + 12 ≠ c + 6 by omega), upf_n2 f (show d + 18 ≠ c + 6 by omega), upf_n2 r (show 4 * d ≠ 4 * c + 1 by omega), upf_n2 r (show 4 * d + 2 ≠ 4 * c + 1 by omega), upf_n2 r (show 4 * d + 3 ≠ 4 * c + 1 by omega)]
    have b := a1 d d0 d1
    refine ⟨b.1, ?_, b.2.2⟩
    by_cases e : d = c
    · rw [e, upf_s2, upf_s2]
    · rw [upf_n2 _ (by omega), upf_n2 _ (by omega)]; exact b.2.1
  · rw [upf_n2 _ (by omega), upf_n2 _ (by omega), upf_n2 _ (by omega), upf_n2 _ (by omega), upf_n2 _ (by omega), upf_n2 _ (by omega)]; exact a2
  · have b := a5 i i0 i1
    rw [upf_n2 f (show i ≠ c + 6 by omega), upf_n2 f (show i + 12 ≠ c + 6 by omega), upf_n2 f (show i + 18 ≠ c + 6 by omega)]
    refine ⟨b.1, ?_, b.2.2⟩
    by_cases e : i = c
    · rw [e, upf_s2]; omega
    · rw [upf_n2 _ (by omega)]; exact b.2.1
/-- who is ILL, the PRICE -/
theorem auR_k {n s : Int} {f r : Int → Int} (n6 : n ≤ 6) (h : auR n s f r) {k v : Int} (hk : (k = 24 ∧ 0 ≤ v ∧ v < 64) ∨ (k = 25 ∧ 0 ≤ v ∧ v ≤ 30)) : auR n s (upf f k v) (upf r k v) := by
  obtain ⟨a1, a2, a3, a4, a5⟩ := h
  have a3' : aR n s (upf r k v) := by
    obtain ⟨g1, g2, g3, g4, g5⟩ := a3
    refine ⟨fun d d0 d1 => ?_, ?_, ?_, by rw [upf_n2 _ (by omega)]; exact g4, by rw [upf_n2 _ (by omega)]; exact g5⟩
    · rw [upf_n2 r (show 4 * d ≠ k by omega), upf_n2 r (show 4 * d + 1 ≠ k by omega), upf_n2 r (show 4 * d + 2 ≠ k by omega), upf_n2 r (show 4 * d + 3 ≠ k by omega)]
      exact g1 d d0 d1
    · rcases hk with e | e
      · rw [e.1, upf_s2]; exact e.2
      · rw [upf_n2 _ (by omega)]; exact g2
    · rcases hk with e | e
      · rw [upf_n2 _ (by omega)]; exact g3
      · rw [e.1, upf_s2]; exact e.2
  refine ⟨fun d d0 d1 => ?_, ?_, a3', by rw [upf_n2 _ (by omega)]; exact a4, fun i i0 i1 => ?_⟩
  · rw [upf_n2 f (show d ≠ k by omega), upf_n2 f (show d + 6 ≠ k by omega), upf_n2 f (show d + 12 ≠ k by omega), upf_n2 f (show d + 18 ≠ k by omega), upf_n2 r (show 4 * d ≠ k by omega), upf_n2 r (show 4 * d + 1 ≠ k by omega), upf_n2 r (show 4 * d + 2 ≠ k by omega), upf_n2 r (show 4 * d + 3 ≠ k by omega)]
    exact a1 d d0 d1
  · rcases hk with e | e <;> rw [e.1]
    · rw [upf_s2, upf_s2, upf_n2 _ (by decide), upf_n2 _ (by decide), upf_n2 _ (by decide), upf_n2 _ (by decide)]; exact ⟨rfl, a2.2⟩
    · rw [upf_s2, upf_s2, upf_n2 _ (by decide), upf_n2 _ (by decide), upf_n2 _ (by decide), upf_n2 _ (by decide)]; exact ⟨a2.1, rfl, a2.2.2⟩
  · rw [upf_n2 f (show i ≠ k by omega), upf_n2 f (show i + 6 ≠ k by omega), upf_n2 f (show i + 12 ≠ k by omega), upf_n2 f (show i + 18 ≠ k by omega)]
    exact a5 i i0 i1
/-- a quiet ACT: the places that changed are the same on both sides -/
theorem RR_quiet {σ τ μ : Mem} (h : RR σ) (hA : AG σ τ) (h31 : τ 31 = rmM σ 31) (h32 : τ 32 = σ 32) (h33 : τ 33 = rmM σ 33) (h35 : τ 35 = σ 35) (hk : ∀ x, x ≠ 0 → x ≠ 48 → μ 5000 x = σ 5000 x) (hb : ∀ b, b < 5000 ∨ (5000 < b ∧ b < 5015) ∨ (5015 < b ∧ b < 5023) ∨ 5023 < b → μ b = τ b) (h48 : μ 5000 48 = rmb (th0 τ) 5000 48) (h23 : μ 5023 = rmb (th0 τ) 5023) (h15 : ∀ j, 26 ≤ j → j < 208 → μ 5015 j = σ 5015 j) (ha : auR (σ 5000 29) (σ 5000 30) (aud τ 16) (μ 5015)) : RR μ := by
  obtain ⟨m1, m2, m3, m4, m5, o, k, k5, mo⟩ := RR_m h hA
  have n := RR_n h
  have r31 := rmM_31 σ
  obtain ⟨q1, q2⟩ := act_q (τ := τ) (μ := μ) m3 m4 (by rw [k 29 (by decide)]; exact n.2.1.2) (fun x _ => by rw [h31]) h32 h33 ⟨by rw [hk 29 (by decide) (by decide), k 29 (by decide)], by rw [hk 30 (by decide) (by decide), k 30 (by decide)]⟩ h48 h23 (fun j j0 j1 => by rw [h15 j j0 j1, o 5015 (by decide) (by decide)]) (by rw [k 29 (by decide), k 30 (by decide)]; exact ha)
  have hG : MG τ μ := by
    refine ⟨fun b b1 b2 b3 => ?_, fun x a1 a2 a3 a4 a5 a6 a7 => by rw [hk x a1 a6, k5]⟩
    exact hb b (by omega)
  exact RR_act h hA ⟨by rw [h31]; exact r31.2.2.2.1, by rw [h31]; exact r31.2.2.2.2⟩ hG (mOk_c (by rw [hk 7 (by decide) (by decide), k 7 (by decide)]) (fun b hb' => by rw [hb b (by omega), th_o τ (by omega)]) mo) q1 q2 (ringR_c h32 h35 h.2.2.2.2.2.2.2.2.2.2)
