/-! HALVES, MEANT, HARDENS, WHOSE, FOLLOWING, GAME, RESTS are the same -/
theorem srR_c {P P' : Int → Prop} {val : Int → Int} {i : Int} : ∀ (n : Nat) (k c : Int), (∀ x, k ≤ x → x < k + n → (P x ↔ P' x)) → srR P val i n k c = srR P' val i n k c := by
  intro n
  induction n with
  | zero => intro k c _; rw [srR, srR]
  | succ n ih =>
    intro k c h
    have hk := h k (by omega) (by omega)
    by_cases q : P k
    · rw [srR_t q, srR_t (hk.mp q), ih (k + 1) (c + 1) (fun x a b => h x (by omega) (by omega))]
    · rw [srR_f q, srR_f (fun y => q (hk.mpr y)), ih (k + 1) c (fun x a b => h x (by omega) (by omega))]
theorem sOv_n {f g : Int → Int} {x : Int} {n : Nat} (n6 : n ≤ 6) (x0 : 0 ≤ x) (x1 : x < 2 ^ n) (h : ∀ c : Int, 0 ≤ c → c < n → f c = g c) : sOv f x 6 = sOv g x n := by
  obtain ⟨d, hd⟩ : ∃ d, n + d = 6 := ⟨6 - n, by omega⟩
  have e := sumC_tail (f := fun c => if bt x c = 1 then f c else 0) (n := n) d (fun i a b => by
    show (if bt x i = 1 then f i else 0) = 0
    rw [if_neg (fun q => by have := bt_lt n6 x0 x1 (by omega) (by omega) q; omega)])
  rw [hd] at e
  rw [sOv_sum, sOv_sum, e]
  refine sumC_cong (fun i i0 i1 => ?_)
  rw [h i i0 i1]
theorem halves_eq {f g : Int → Int} {n : Nat} (n6 : n ≤ 6) (h : ∀ c : Int, 0 ≤ c → c < n → f c = g c) (s i : Int) : srR (fun k => sOv f k 6 = s) id i (2 ^ n) 0 0 = srR (fun x => sOv g x n = s) id i (2 ^ n) 0 0 := by
  refine srR_c _ _ _ (fun x x0 x1 => ?_)
  have x2 : x < 2 ^ n := by
    have : ((2 ^ n : Nat) : Int) = (2 : Int) ^ n := Int.natCast_pow 2 n
    omega
  rw [sOv_n n6 x0 x2 h]
theorem mnU_s (f : Int → Int) (h : Int) (n k : Nat) : mnU f h n (k + 1) = if h ≤ sOv f k n ∧ (mnU f h n k = -1 ∨ popc k < popc (mnU f h n k)) then (k : Int) else mnU f h n k := rfl
theorem mnR_s (f : Int → Int) (h : Int) (k : Nat) (b : Int) : mnR f h (k + 1) b = mnR f h k (if h ≤ sOv f k 6 ∧ popc k ≤ popc b then k else b) := rfl
theorem mnU_c {f : Int → Int} {h : Int} {n : Nat} : ∀ K : Nat, (mnU f h n K = -1 ∧ ∀ x : Int, 0 ≤ x → x < K → ¬ h ≤ sOv f x n) ∨ (0 ≤ mnU f h n K ∧ mnU f h n K < K ∧ h ≤ sOv f (mnU f h n K) n ∧ ∀ x : Int, 0 ≤ x → x < K → h ≤ sOv f x n → popc (mnU f h n K) ≤ popc x ∧ (popc x = popc (mnU f h n K) → mnU f h n K ≤ x)) := by
  intro K
  induction K with
  | zero => exact Or.inl ⟨rfl, fun x a b => by omega⟩
  | succ K ih =>
    rw [mnU_s]
    by_cases c : h ≤ sOv f K n ∧ (mnU f h n K = -1 ∨ popc K < popc (mnU f h n K))
    · rw [if_pos c]
      refine Or.inr ⟨by omega, by omega, c.1, fun x x0 x1 hx => ?_⟩
      by_cases e : x = K
      · rw [e]; exact ⟨Int.le_refl _, fun _ => Int.le_refl _⟩
      · rcases ih with ⟨a1, a2⟩ | ⟨a1, a2, a3, a4⟩
        · exact absurd hx (a2 x x0 (by omega))
        · have := a4 x x0 (by omega) hx
          rcases c.2 with c2 | c2
          · omega
          · exact ⟨by omega, fun q => by omega⟩
    · rw [if_neg c]
      rcases ih with ⟨a1, a2⟩ | ⟨a1, a2, a3, a4⟩
      · refine Or.inl ⟨a1, fun x x0 x1 hx => ?_⟩
        by_cases e : x = K
        · rw [e] at hx; exact c ⟨hx, Or.inl a1⟩
        · exact a2 x x0 (by omega) hx
      · refine Or.inr ⟨a1, by omega, a3, fun x x0 x1 hx => ?_⟩
        by_cases e : x = K
        · rw [e] at hx ⊢
          have : ¬ popc K < popc (mnU f h n K) := fun q => c ⟨hx, Or.inr q⟩
          exact ⟨by omega, fun _ => by omega⟩
        · exact a4 x x0 (by omega) hx
theorem mnR_c {f : Int → Int} {h : Int} : ∀ (K : Nat) (b : Int), (K : Int) ≤ b → h ≤ sOv f b 6 → h ≤ sOv f (mnR f h K b) 6 ∧ (mnR f h K b = b ∨ (0 ≤ mnR f h K b ∧ mnR f h K b < K)) ∧ popc (mnR f h K b) ≤ popc b ∧ ∀ x : Int, 0 ≤ x → x < K → h ≤ sOv f x 6 → popc (mnR f h K b) ≤ popc x ∧ (popc x = popc (mnR f h K b) → mnR f h K b ≤ x) := by
  intro K
  induction K with
  | zero => intro b hb hv; exact ⟨hv, Or.inl rfl, Int.le_refl _, fun x a b => by omega⟩
  | succ K ih =>
    intro b hb hv
    rw [mnR_s]
    by_cases c : h ≤ sOv f K 6 ∧ popc K ≤ popc b
    · rw [if_pos c]
      obtain ⟨a1, a2, a3, a4⟩ := ih K (Int.le_refl _) c.1
      refine ⟨a1, ?_, by omega, fun x x0 x1 hx => ?_⟩
      · rcases a2 with e | e
        · exact Or.inr ⟨by omega, by omega⟩
        · exact Or.inr ⟨e.1, by omega⟩
      · by_cases e : x = K
        · rw [e]; exact ⟨a3, fun _ => by rcases a2 with e | e <;> omega⟩
        · exact a4 x x0 (by omega) hx
    · rw [if_neg c]
      obtain ⟨a1, a2, a3, a4⟩ := ih b (by omega) hv
      refine ⟨a1, ?_, a3, fun x x0 x1 hx => ?_⟩
      · rcases a2 with e | e
        · exact Or.inl e
        · exact Or.inr ⟨e.1, by omega⟩
      · by_cases e : x = K
        · rw [e] at hx ⊢
          have : ¬ popc K ≤ popc b := fun q => c ⟨hx, q⟩
          exact ⟨by omega, fun _ => by omega⟩
        · exact a4 x x0 (by omega) hx
theorem meant_eq {f g : Int → Int} {n : Nat} (n6 : n ≤ 6) (h : ∀ c : Int, 0 ≤ c → c < n → f c = g c) {v : Int} (hv : v ≤ sumC f n) : mnR f v (2 ^ n) (2 ^ n - 1) = mnU g v n (2 ^ n) := by
  have pn : ((2 ^ n : Nat) : Int) = (2 : Int) ^ n := Int.natCast_pow 2 n
  have f6 := full_64 n6
  have es : ∀ x : Int, 0 ≤ x → x < 2 ^ n → sOv f x 6 = sOv g x n := fun x x0 x1 => sOv_n n6 x0 x1 h
  have hf : v ≤ sOv f (2 ^ n - 1) 6 := by
    rw [sOv_full f n6 6 (Nat.le_refl _), show min 6 n = n by omega]; exact hv
  have p1 : (0 : Int) < 2 ^ n := Int.pow_pos (by decide)
  obtain ⟨k, hk⟩ : ∃ k : Nat, 2 ^ n = k + 1 := ⟨2 ^ n - 1, by omega⟩
  have ek : (2 : Int) ^ n - 1 = k := by omega
  have r1 : mnR f v (2 ^ n) (2 ^ n - 1) = mnR f v k k := by
    rw [hk, mnR_s, ek, if_pos ⟨by rw [← ek]; exact hf, Int.le_refl _⟩]
  obtain ⟨a1, a2, a3, a4⟩ := mnR_c (f := f) (h := v) k k (Int.le_refl _) (by rw [← ek]; exact hf)
  rw [r1]
  have ay : 0 ≤ mnR f v k k ∧ mnR f v k k < 2 ^ n := by rcases a2 with e | e <;> omega
  rcases mnU_c (f := g) (h := v) (n := n) (2 ^ n) with ⟨b1, b2⟩ | ⟨b1, b2, b3, b4⟩
  · exact absurd (by rw [← es _ (by omega) (by omega)]; rw [← ek]; exact hf) (b2 k (by omega) (by omega))
  · have c1 := b4 (mnR f v k k) ay.1 (by omega) (by rw [← es _ ay.1 ay.2]; exact a1)
    have b3' : v ≤ sOv f (mnU g v n (2 ^ n)) 6 := by rw [es _ b1 (by omega)]; exact b3
    have c2 : popc (mnR f v k k) ≤ popc (mnU g v n (2 ^ n)) ∧ (popc (mnU g v n (2 ^ n)) = popc (mnR f v k k) → mnR f v k k ≤ mnU g v n (2 ^ n)) := by
      by_cases e : mnU g v n (2 ^ n) = k
      · rw [e]; exact ⟨a3, fun _ => by omega⟩
      · exact a4 _ b1 (by omega) b3'
    have e1 := c1.2 (by omega)
    have e2 := c2.2 (by omega)
    omega
theorem hdR_c {f g : Int → Int} : ∀ n : Nat, (∀ v : Int, 0 ≤ v → v < n → f v = g v) → hdR f n = hdR g n := by
  intro n
  induction n with
  | zero => intro _; rfl
  | succ n ih =>
    intro h
    show (if f n = -1 then (n : Int) else hdR f n) = if g n = -1 then (n : Int) else hdR g n
    rw [ih (fun v a b => h v a (by omega)), h n (by omega) (by omega)]
theorem hard_eq {σ m : Mem} (hH : eqH σ m) (hA : eqA σ m 16 5015) (hx : mX m 5015) (hl : lawOk σ) {c p : Int} (c0 : 0 ≤ c) (c1 : c < m 5000 29) (p0 : 0 ≤ p) (p1 : p < m 5000 28) : hdR (hdO σ c p) 10 = hdR (hdM m c p) 10 := by
  have n29 := hx.2.1.2.2.1
  have l27 := hx.2.2.2.2.2.2
  refine hdR_c 10 (fun v v0 v1 => ?_)
  have hxt := mX_trC hx
  have k5 : ∀ k, k ≠ 0 → trC m 5000 k = m 5000 k := fun k hk => by rw [trC_o m (by decide)]; exact th_k m hk
  have so : ∀ b, b ≠ 5016 → b ≠ 5000 → up (trC m) 5016 (4 * c) v b = m b := fun b h1 h2 => by rw [up_na _ h1, trC_o m h1]; exact th_o m h2
  have so5 : ∀ k, k ≠ 0 → up (trC m) 5016 (4 * c) v 5000 k = m 5000 k := fun k hk => by rw [up_na _ (by decide)]; exact k5 k hk
  have hx' : mX (up (trC m) 5016 (4 * c) v) 5016 := mX_r16 hxt (by
    have hrr := hxt.2.2
    rw [k5 29 (by decide), k5 30 (by decide)] at hrr ⊢
    exact aR_he n29.2 hrr c0 c1 v0 (by omega))
  have hS : SA σ (up (apM σ) 22 c v) := SA_up (SA_set _ _) ⟨by decide, by decide⟩
  have hH' : eqH (up (apM σ) 22 c v) (up (trC m) 5016 (4 * c) v) := eqH_m (fun k hk => so5 k (by omega)) (fun b hb => so b (by omega) (by omega)) (eqH_SA hS hl hH)
  have ha := apM_r σ
  have hA' : eqA (up (apM σ) 22 c v) (up (trC m) 5016 (4 * c) v) 21 5016 := by
    unfold eqA
    rw [so5 29 (by decide)]
    refine ⟨fun d d0 d1 => ?_, ?_, ?_⟩
    · have h1 := ha.1 d d0 (by omega)
      have h2 := hA.1 d d0 d1
      have t1 : trC m 5016 (4 * d) = m 5015 (4 * d) := trC_j l27.1 (by omega) (by omega)
      have t2 : trC m 5016 (4 * d + 1) = m 5015 (4 * d + 1) := trC_j l27.1 (by omega) (by omega)
      refine ⟨?_, ?_⟩
      · show up (apM σ) 22 c v 22 d = _
        by_cases e : d = c
        · rw [e, up_s, up_s]
        · rw [up_nj _ e, up_nj _ (by omega), h1.1, t1]; exact h2.1
      · show up (apM σ) 22 c v 23 d = _
        rw [up_na _ (by decide), up_nj _ (by omega), h1.2.1, t2]; exact h2.2
    · rw [up_na _ (by decide), up_nj _ (by omega), ha.2.1, trC_j l27.1 (by decide) (by decide)]; exact hA.2.1
    · rw [up_na _ (by decide), up_nj _ (by omega), ha.2.2.2, trC_j l27.1 (by decide) (by decide)]; exact hA.2.2
  have e := (play_eq hH' hA' hx' p0 (by rw [so5 28 (by decide)]; exact p1) c0 (by rw [so5 29 (by decide)]; exact c1)).2
  unfold mMi at e
  rw [so 5007 (by decide) (by decide)] at e
  exact e
theorem cn_eq {s r : Int → Int} {c t : Int} {n : Nat} (n6 : n ≤ 6) (hs : ∀ d : Int, 0 ≤ d → d < n → s d = r (4 * d + 1)) (c0 : 0 ≤ c) (c1 : c < n) : popc (hbits s t n) - bt (hbits s t n) c + 1 = cnR r c t n := by
  have g := hbits_64 s t n6
  have e1 : popc (hbits s t n) = sumC (fun d => if s d = t then 1 else 0) n := by
    rw [popc_sum g.1 g.2]
    have := G_sum (fun _ => 1) s t n6
    rw [← this]
    refine sumC_cong (fun i i0 i1 => ?_)
    have := bt_b (hbits s t n) i
    by_cases y : bt (hbits s t n) i = 1
    · rw [if_pos y, y]
    · rw [if_neg y]; omega
  have e2 : bt (hbits s t n) c = if s c = t then 1 else 0 := by
    rw [hbits_bit s t c0 (by omega) n6]
    by_cases y : s c = t
    · rw [if_pos ⟨c1, y⟩, if_pos y]
    · rw [if_neg (fun z => y z.2), if_neg y]
  have e3 : ∀ k : Nat, k ≤ n → cnR r c t k = 1 + sumC (fun d => if s d = t then 1 else 0) k - if c < k ∧ s c = t then 1 else 0 := by
    intro k
    induction k with
    | zero => intro _; rw [if_neg (by omega)]; rfl
    | succ k ih =>
      intro hk
      have hsk := hs k (by omega) (by omega)
      show cnR r c t k + (if (k : Int) ≠ c ∧ r (4 * k + 1) = t then 1 else 0) = _
      rw [ih (by omega), sumC_s, ← hsk]
      by_cases e : (k : Int) = c
      · have i1 : (if (k : Int) ≠ c ∧ s k = t then (1 : Int) else 0) = 0 := if_neg (fun z => z.1 e)
        have i2 : (if c < (k : Int) ∧ s c = t then (1 : Int) else 0) = 0 := if_neg (by omega)
        have i3 : (if c < ((k + 1 : Nat) : Int) ∧ s c = t then (1 : Int) else 0) = if s k = t then 1 else 0 := by
          rw [e]
          by_cases y : s c = t
          · rw [if_pos y, if_pos ⟨by omega, y⟩]
          · rw [if_neg y, if_neg (fun z => y z.2)]
        rw [i1, i2, i3]
        generalize (if s k = t then (1 : Int) else 0) = A
        omega
      · have i1 : (if (k : Int) ≠ c ∧ s k = t then (1 : Int) else 0) = if s k = t then 1 else 0 := by
          by_cases y : s k = t
          · rw [if_pos y, if_pos ⟨e, y⟩]
          · rw [if_neg y, if_neg (fun z => y z.2)]
        have i3 : (if c < ((k + 1 : Nat) : Int) ∧ s c = t then (1 : Int) else 0) = if c < (k : Int) ∧ s c = t then 1 else 0 := by
          by_cases y : c < (k : Int) ∧ s c = t
          · rw [if_pos y, if_pos ⟨by omega, y.2⟩]
          · rw [if_neg y, if_neg (fun z => y ⟨by omega, z.2⟩)]
        rw [i1, i3]
        generalize (if s k = t then (1 : Int) else 0) = A
        generalize (if c < (k : Int) ∧ s c = t then (1 : Int) else 0) = B
        omega
  rw [e1, e2, e3 n (Nat.le_refl _)]
  by_cases y : s c = t
  · rw [if_pos y, if_pos ⟨c1, y⟩]; omega
  · rw [if_neg y, if_neg (fun z => y z.2)]; omega
theorem whF_eq {σ m : Mem} (hH : eqH σ m) (hA : eqA σ m 16 5015) (hx : mX m 5015) {c t p k v : Int} (c0 : 0 ≤ c) (c1 : c < m 5000 29) (t0 : 0 ≤ t) (t1 : t < m 5000 30) (p0 : 0 ≤ p) (p1 : p < m 5000 28) (k0 : 0 ≤ k) (k8 : k ≤ 8) : whF σ c t p k v = if v ≤ mvW m c t p k then 1 else 0 := by
  obtain ⟨e2, e1, e3, eL, eP, eD, eR⟩ := hH
  obtain ⟨hw, ⟨hmo, hlw, n29, n30, n28, b7, b11, b5, -⟩, r1, r24, r25, r26, r27⟩ := hx
  obtain ⟨n, hn⟩ : ∃ n : Nat, m 5000 29 = n := ⟨(m 5000 29).toNat, by omega⟩
  have rd := r1 c c0 c1
  have f9 := b7 (4 * p + k % 3) (by omega) (by omega)
  have d9 := b11 t t0 (by omega)
  have ec : cnO σ c t = cnR (m 5015) c t n := by
    unfold cnO
    rw [e2, hn, Int.toNat_natCast]
    exact cn_eq (by omega) (fun d d0 d1 => (hA.1 d d0 (by omega)).2) c0 (by omega)
  have cb := cnR_b (m 5015) c t n
  unfold whF mvW
  rw [eP p 3 p0 p1 (by decide) (by decide), hn, Int.toNat_natCast]
  by_cases q : m 5007 (4 * p + 3) ≤ k
  · rw [if_pos q, if_pos q]
  · rw [if_neg q, if_neg q, eP p (k % 3) p0 p1 (by omega) (by omega), eD t t0 t1, (show σ 17 c = m 5015 (4 * c) from (hA.1 c c0 c1).1), ec, eR _ _ _ _ _ _ ⟨f9.1, f9.2, rd.1.1, rd.1.2, d9.1, d9.2, by omega, by omega, k0, by omega, by decide, by decide⟩ cb.1]
/-- the same howls -/
def eqW (σ m : Mem) : Prop := σ 41 4 = m 5000 53 ∧ (∀ j, 0 ≤ j → j < 5 * m 5000 53 → σ 42 j = m 5024 j) ∧ ∀ j, 0 ≤ j → j < m 5000 53 → (0 ≤ m 5024 (5 * j) ∧ m 5024 (5 * j) < m 5000 29) ∧ (0 ≤ m 5024 (5 * j + 1) ∧ m 5024 (5 * j + 1) < m 5000 28)
theorem fit_eq {σ m : Mem} (hH : eqH σ m) (hA : eqA σ m 16 5015) (hx : mX m 5015) (hW : eqW σ m) (hw : hwO m) {c t : Int} (c0 : 0 ≤ c) (c1 : c < m 5000 29) (t0 : 0 ≤ t) (t1 : t < m 5000 30) : fitP σ c t (σ 41 4) ↔ fiP m c t (m 5000 53) := by
  obtain ⟨w1, w2, w3⟩ := hW
  unfold fitP fiP
  rw [w1]
  have key : ∀ j : Int, 0 ≤ j → j < m 5000 53 → ((whF σ c t (m 5024 (5 * j + 1)) (m 5024 (5 * j + 2)) (m 5024 (5 * j + 3)) = if m 5024 (5 * j + 4) = 1 then 1 else 0) ↔ (m 5024 (5 * j + 3) ≤ mvW m c t (m 5024 (5 * j + 1)) (m 5024 (5 * j + 2)) ↔ m 5024 (5 * j + 4) = 1)) := by
    intro j j0 j1
    have b := hw.2 j j0 j1
    have b2 := w3 j j0 j1
    rw [whF_eq hH hA hx c0 c1 t0 t1 b2.2.1 b2.2.2 b.2.2.1.1 b.2.2.1.2]
    by_cases q : m 5024 (5 * j + 3) ≤ mvW m c t (m 5024 (5 * j + 1)) (m 5024 (5 * j + 2))
    · rw [if_pos q]
      by_cases y : m 5024 (5 * j + 4) = 1
      · rw [if_pos y]; exact ⟨fun _ => ⟨fun _ => y, fun _ => q⟩, fun _ => rfl⟩
      · rw [if_neg y]; exact ⟨fun z => absurd z (by decide), fun z => absurd (z.mp q) y⟩
    · rw [if_neg q]
      by_cases y : m 5024 (5 * j + 4) = 1
      · rw [if_pos y]; exact ⟨fun z => absurd z (by decide), fun z => absurd (z.mpr y) q⟩
      · rw [if_neg y]; exact ⟨fun _ => ⟨fun z => absurd z q, fun z => absurd z y⟩, fun _ => rfl⟩
  constructor
  · intro h j j0 j1 hc
    have := h j j0 j1 (by rw [w2 _ (by omega) (by omega)]; exact hc)
    rw [w2 _ (by omega) (by omega), w2 _ (by omega) (by omega), w2 _ (by omega) (by omega), w2 _ (by omega) (by omega)] at this
    exact (key j j0 j1).mp this
  · intro h j j0 j1 hc
    rw [w2 _ (by omega) (by omega)] at hc
    rw [w2 _ (by omega) (by omega), w2 _ (by omega) (by omega), w2 _ (by omega) (by omega), w2 _ (by omega) (by omega)]
    exact (key j j0 j1).mpr (h j j0 j1 hc)
theorem sus_eq {σ m : Mem} (hH : eqH σ m) (hA : eqA σ m 16 5015) (hx : mX m 5015) (hW : eqW σ m) (hw : hwO m) {c : Int} (c0 : 0 ≤ c) (c1 : c < m 5000 29) : susS σ c = gb (fiB m c) (m 5000 30).toNat := by
  unfold susS
  rw [hH.2.2.1]
  refine gb_cong (fun t t0 t1 => ?_)
  have k := fit_eq hH hA hx hW hw c0 c1 t0 (show t < m 5000 30 by omega)
  by_cases q : fitP σ c t (σ 41 4)
  · rw [fitB_t.mpr q, fiB_t (k.mp q)]
  · rw [fiB_f (fun z => q (k.mpr z))]
    cases hh : fitB σ c t with
    | false => rfl
    | true => exact absurd (fitB_t.mp hh) q
theorem gap_eq {σ m : Mem} (hH : eqH σ m) (hA : eqA σ m 16 5015) (hx : mX m 5015) {c S p k v : Int} (c0 : 0 ≤ c) (c1 : c < m 5000 29) (p0 : 0 ≤ p) (p1 : p < m 5000 28) (k0 : 0 ≤ k) (k8 : k ≤ 8) (hS : ∀ i : Int, m 5000 30 ≤ i → i < 6 → bt S i = 0) : gpA σ c S p k v = lnA m c S p k v := by
  have n30 := hx.2.1.2.2.2.1
  have e1 : ∀ j : Nat, (j : Int) ≤ m 5000 30 → gpF σ c S p k v j = lnG m c S p k v j := by
    intro j
    induction j with
    | zero => intro _; rfl
    | succ j ih =>
      intro hj
      show gpF σ c S p k v j + (if bt S j = 1 then (if whF σ c j p k v = 1 then 1 else -1) else 0) = lnG m c S p k v j + (if bt S j = 1 then (if v ≤ mvW m c j p k then 1 else -1) else 0)
      rw [ih (by omega), whF_eq hH hA hx c0 c1 (by omega) (by omega) p0 p1 k0 k8]
      by_cases q : v ≤ mvW m c j p k
      · rw [if_pos q, if_pos rfl, if_pos q]
      · rw [if_neg q, if_neg (show ¬ (0 : Int) = 1 by decide), if_neg q]
  have e2 : ∀ d : Nat, (m 5000 30).toNat + d ≤ 6 → gpF σ c S p k v ((m 5000 30).toNat + d) = gpF σ c S p k v (m 5000 30).toNat := by
    intro d
    induction d with
    | zero => intro _; rfl
    | succ d ih =>
      intro hd
      rw [← Nat.add_assoc]
      show gpF σ c S p k v ((m 5000 30).toNat + d) + (if bt S (((m 5000 30).toNat + d : Nat) : Int) = 1 then _ else 0) = _
      rw [ih (by omega), hS _ (by omega) (by omega), if_neg (by decide), Int.add_zero]
  have e3 := e2 (6 - (m 5000 30).toNat) (by omega)
  rw [show (m 5000 30).toNat + (6 - (m 5000 30).toNat) = 6 by omega, e1 (m 5000 30).toNat (by omega)] at e3
  unfold gpA lnA
  rw [e3]
/-- the questions: the same so far -/
def qSt (s u : Int × Int) : Prop := s.1 = u.1 ∧ ((s.1 = -1 ∧ s.2 = 7) ∨ (s.1 ≠ -1 ∧ s.2 = u.2))
theorem qSt_s {s u : Int × Int} {g x : Int} (h : qSt s u) (g0 : g ≤ 6) (x0 : 0 ≤ x) : qSt (nqS g x s) (msS g x u) := by
  obtain ⟨h1, h2⟩ := h
  unfold nqS msS
  rcases h2 with h2 | h2
  · rw [if_pos (by omega), if_pos (Or.inl (by omega))]
    exact ⟨rfl, Or.inr ⟨by show x ≠ -1; omega, rfl⟩⟩
  · by_cases c : g < s.2
    · rw [if_pos c, if_pos (Or.inr (by omega))]
      exact ⟨rfl, Or.inr ⟨by show x ≠ -1; omega, rfl⟩⟩
    · rw [if_neg c, if_neg (by omega)]
      exact ⟨h1, Or.inr h2⟩
theorem foll_eq {σ m : Mem} (hH : eqH σ m) (hA : eqA σ m 16 5015) (hx : mX m 5015) {c S v : Int} (c0 : 0 ≤ c) (c1 : c < m 5000 29) (hS : ∀ i : Int, m 5000 30 ≤ i → i < 6 → bt S i = 0) : (nqO σ c S v (pcnt σ 6 1).toNat).1 = (msO m c S v (m 5000 28).toNat).1 := by
  have n30 := hx.2.1.2.2.2.1
  have key : ∀ p : Nat, (p : Int) ≤ m 5000 28 → qSt (nqO σ c S v p) (msO m c S v p) := by
    intro p
    induction p with
    | zero => intro _; exact ⟨rfl, Or.inl ⟨rfl, rfl⟩⟩
    | succ p ih =>
      intro hp
      have m9 := mMi_9 hx (p := p) (by omega) (by omega)
      have em : pval σ 6 1 p 3 = m 5007 (4 * p + 3) := hH.2.2.2.2.1 p 3 (by omega) (by omega) (by decide) (by decide)
      have inn : ∀ k : Nat, (k : Int) ≤ m 5007 (4 * p + 3) → qSt (nqI σ c S v p (nqO σ c S v p) k) (msI m c S v p (msO m c S v p) k) := by
        intro k
        induction k with
        | zero => intro _; exact ih (by omega)
        | succ k ihk =>
          intro hk
          show qSt (nqS (gpA σ c S p k v) (10 * p + k) (nqI σ c S v p (nqO σ c S v p) k)) (msS (lnA m c S p k v) (10 * p + k) (msI m c S v p (msO m c S v p) k))
          rw [gap_eq hH hA hx c0 c1 (by omega) (by omega) (by omega) (by omega) hS]
          exact qSt_s (ihk (by omega)) (lnA_b m c S p k v n30.2).2 (by omega)
      show qSt (nqI σ c S v p (nqO σ c S v p) (pval σ 6 1 p 3).toNat) (msI m c S v p (msO m c S v p) (mMi m p))
      rw [em]
      exact inn _ (by omega)
  rw [hH.2.1]
  exact (key _ (by have := hx.2.1.2.2.2.2.1; omega)).1
/-- GAMES -/
theorem game_eq {σ m : Mem} (hH : eqH σ m) (hA : eqA σ m 16 5015) (h5 : σ 16 5 = m 5015 25) (hx : mX m 5015) {o r p x y c t X Y : Int} (ho : 0 ≤ o ∧ o < m 5000 29) (hr : 0 ≤ r ∧ r < m 5000 29) (hor : o ≠ r) (p0 : 0 ≤ p) (p1 : p < m 5000 28) (hX : 0 ≤ x ∧ x < m 5000 30) (hY : 0 ≤ y ∧ y < m 5000 30) (hc : (c = o ∧ t = x) ∨ (c = r ∧ t = y)) (eX : X = t ↔ x = t) (eY : Y = t ↔ y = t) : gvF σ o r p c t X Y = gmV m o r p x y c t := by
  obtain ⟨e2, e1, e3, eL, eP, eD, eR⟩ := id hH
  have n29 := hx.2.1.2.2.1
  have l27 := hx.2.2.2.2.2.2
  have m9 := mMi_9 hx p0 p1
  have hx' := gmM_x hx ho hr hX hY
  have so : ∀ b, b ≠ 5016 → gmM m o r x y b = m b := fun b h => gmM_o m o r x y h
  obtain ⟨n, hn⟩ : ∃ n : Nat, m 5000 29 = n := ⟨(m 5000 29).toNat, by omega⟩
  have cb : 0 ≤ c ∧ c < n := by omega
  have tb : 0 ≤ t ∧ t < m 5000 30 := by omega
  have row : ∀ j, 0 ≤ j → j < 28 → gmM m o r x y 5016 j = if j = 4 * r + 1 then y else if j = 4 * o + 1 then x else m 5015 j := by
    intro j j0 j1
    unfold gmM
    by_cases q : j = 4 * r + 1
    · rw [if_pos q, q, up_s]
    · rw [if_neg q, up_nj _ q]
      by_cases q2 : j = 4 * o + 1
      · rw [if_pos q2, q2, up_s]
      · rw [if_neg q2, up_nj _ q2, trK_j l27.1 j0 j1]
  have hS : ∀ d : Int, 0 ≤ d → d < 6 → bt (hbits (sXY (σ 18) o r X Y) t n) d = if d < n ∧ gmM m o r x y 5016 (4 * d + 1) = t then 1 else 0 := by
    intro d d0 d1
    rw [hbits_bit _ _ d0 d1 (by omega)]
    by_cases q : d < n
    · have : (sXY (σ 18) o r X Y d = t) ↔ (gmM m o r x y 5016 (4 * d + 1) = t) := by
        rw [row _ (by omega) (by omega)]
        unfold sXY
        by_cases q1 : d = o
        · rw [if_pos q1, if_neg (by omega), if_pos (by omega)]; exact eX
        · rw [if_neg q1]
          by_cases q2 : d = r
          · rw [if_pos q2, if_pos (by omega)]; exact eY
          · rw [if_neg q2, if_neg (by omega), if_neg (by omega), (show σ 18 d = m 5015 (4 * d + 1) from (hA.1 d d0 (by omega)).2)]
      by_cases z : sXY (σ 18) o r X Y d = t
      · rw [if_pos ⟨q, z⟩, if_pos ⟨q, this.mp z⟩]
      · rw [if_neg (fun u => z u.2), if_neg (fun u => z (this.mpr u.2))]
    · rw [if_neg (fun z => q z.1), if_neg (fun z => q z.1)]
  have hb := hbits_64 (sXY (σ 18) o r X Y) t (n := n) (by omega)
  have hg : ∀ (d N : Int) (k : Nat), 0 ≤ d → d < n → gmM m o r x y 5016 (4 * d + 1) = t → 1 ≤ N → N ≤ 6 → k < mMi m p → gmv σ 16 t p d N k = if bt (gmM m o r x y 5016 24) t = 1 then 0 else mRk (gmM m o r x y) (gmM m o r x y 5007 (4 * p + (k : Int) % 3)) (gmM m o r x y 5016 (4 * d)) (gmM m o r x y 5011 t) N k (gmM m o r x y 5016 26) := by
    intro d N k d0 d1 dt N1 N6 hk
    have hk' : (k : Int) < m 5007 (4 * p + 3) := by unfold mMi at hk; omega
    have eK : ∀ a b c d e f, mRk (gmM m o r x y) a b c d e f = mRk m a b c d e f := by
      intro a b c d e f
      unfold mRk
      rw [mwo_c (so 5002 (by decide)) (so 5003 (by decide)), so 5000 (by decide)]
    have r24 := row 24 (by decide) (by decide)
    rw [if_neg (by omega), if_neg (by omega)] at r24
    have r26 := row 26 (by decide) (by decide)
    rw [if_neg (by omega), if_neg (by omega)] at r26
    have r4d := row (4 * d) (by omega) (by omega)
    rw [if_neg (by omega), if_neg (by omega)] at r4d
    rw [so 5007 (by decide), so 5011 (by decide), r24, r26, r4d, eK]
    exact gmv_mR hH hA.2.1 hA.2.2 hx p0 p1 tb.1 tb.2 d0 (by omega) (hA.1 d d0 (by omega)).1 N1 N6 (by omega)
  have G := grp (g := gmv σ 16 t p) (S := hbits (sXY (σ 18) o r X Y) t n) (m := gmM m o r x y) (w := 5016) (t := t) (p := p) (K := mMi m p) (by rw [so 5000 (by decide)]; exact hn) (by omega) hb.1 hb.2 hS hg (mMi m p) (Nat.le_refl _)
  have ht : gmM m o r x y 5016 (4 * c + 1) = t := by
    rw [row _ (by omega) (by omega)]
    rcases hc with ⟨h1, h2⟩ | ⟨h1, h2⟩
    · rw [if_neg (by omega), if_pos (by omega), h2]
    · rw [if_pos (by omega), h2]
  have G2 := G.2 c cb.1 cb.2 ht
  rw [so 5005 (by decide)] at G2
  have eMi : pval σ 6 1 p 3 = m 5007 (4 * p + 3) := eP p 3 p0 p1 (by decide) (by decide)
  unfold gvF gmV
  rw [e2, hn, Int.toNat_natCast, eMi, eL, show (m 5007 (4 * p + 3)).toNat = mMi m p from rfl, G2.1, G2.2, (show σ 18 c = m 5015 (4 * c + 1) from (hA.1 c cb.1 (by omega)).2), h5]
  by_cases q : m 5015 (4 * c + 1) = t
  · rw [if_pos q, if_pos q.symm]
  · rw [if_neg q, if_neg (show ¬ t = m 5015 (4 * c + 1) from fun z => q z.symm)]
theorem gnF_eq {σ m : Mem} (hH : eqH σ m) (hA : eqA σ m 16 5015) (h5 : σ 16 5 = m 5015 25) (hx : mX m 5015) {o r p : Int} {g : Int → Int} (ho : 0 ≤ o ∧ o < m 5000 29) (hr : 0 ≤ r ∧ r < m 5000 29) (hor : o ≠ r) (p0 : 0 ≤ p) (p1 : p < m 5000 28) (hg : gnOk σ g o r p (m 5000 30)) {x y : Int} (hX : 0 ≤ x ∧ x < m 5000 30) (hY : 0 ≤ y ∧ y < m 5000 30) : gnF g 0 x y = gmV m o r p x y o x ∧ gnF g 1 x y = gmV m o r p x y r y := by
  obtain ⟨a1, a2, -, -⟩ := hg x hX.1 hX.2
  obtain ⟨-, -, b3, b4⟩ := hg y hY.1 hY.2
  unfold gnF
  rw [if_pos rfl, if_neg (show ¬ (1 : Int) = 0 by decide)]
  by_cases q : x = y
  · rw [if_pos q, show 4 * x + 2 * 0 + 1 = 4 * x + 1 by omega, show 4 * y + 2 * 1 + 1 = 4 * y + 3 by omega, a2, b4]
    exact ⟨game_eq hH hA h5 hx ho hr hor p0 p1 hX hY (Or.inl ⟨rfl, rfl⟩) Iff.rfl (by rw [q]), game_eq hH hA h5 hx ho hr hor p0 p1 hX hY (Or.inr ⟨rfl, rfl⟩) (by rw [q]) Iff.rfl⟩
  · rw [if_neg q, show 4 * x + 2 * 0 + 0 = 4 * x by omega, show 4 * y + 2 * 1 + 0 = 4 * y + 2 by omega, a1, b3]
    exact ⟨game_eq hH hA h5 hx ho hr hor p0 p1 hX hY (Or.inl ⟨rfl, rfl⟩) Iff.rfl ⟨fun z => by omega, fun z => absurd z.symm q⟩, game_eq hH hA h5 hx ho hr hor p0 p1 hX hY (Or.inr ⟨rfl, rfl⟩) ⟨fun z => by omega, fun z => absurd z q⟩ Iff.rfl⟩
theorem rsO_c {P P' : Int → Int → Prop} {i : Int} {S : Nat} (h : ∀ x y : Int, 0 ≤ x → x < S → 0 ≤ y → y < S → (P x y ↔ P' x y)) : ∀ (a : Nat) (x c : Int), 0 ≤ x → x + a ≤ S → rsO P i S a x c = rsO P' i S a x c := by
  intro a
  induction a with
  | zero => intro x c _ _; rw [rsO, rsO]
  | succ a ih =>
    intro x c x0 x1
    have inn : ∀ (b : Nat) (y c : Int), 0 ≤ y → y + b ≤ S → rsI P i x (rsO P i S a (x + 1)) b y c = rsI P' i x (rsO P' i S a (x + 1)) b y c := by
      intro b
      induction b with
      | zero => intro y c _ _; rw [rsI, rsI]; exact ih (x + 1) c (by omega) (by omega)
      | succ b ihb =>
        intro y c y0 y1
        have hk := h x y x0 (by omega) y0 (by omega)
        by_cases q : P x y
        · rw [rsI_t q, rsI_t (hk.mp q), ihb (y + 1) (c + 1) (by omega) (by omega)]
        · rw [rsI_f q, rsI_f (fun z => q (hk.mpr z)), ihb (y + 1) c (by omega) (by omega)]
    rw [rsO, rsO]
    exact inn S 0 c (by omega) (by omega)
theorem rests_eq {σ m : Mem} (hH : eqH σ m) (hA : eqA σ m 16 5015) (h5 : σ 16 5 = m 5015 25) (hx : mX m 5015) {o r p : Int} {g : Int → Int} (ho : 0 ≤ o ∧ o < m 5000 29) (hr : 0 ≤ r ∧ r < m 5000 29) (hor : o ≠ r) (p0 : 0 ≤ p) (p1 : p < m 5000 28) (hg : gnOk σ g o r p (m 5000 30)) (i : Int) : rsV g (m 5000 30) i = rsO (mrP (fun a b => gmV m o r p a b o a) (fun a b => gmV m o r p a b r b) (m 5000 30)) i (m 5000 30).toNat (m 5000 30).toNat 0 0 := by
  have n30 := hx.2.1.2.2.2.1
  unfold rsV
  refine rsO_c (fun x y x0 x1 y0 y1 => ?_) _ 0 0 (by omega) (by omega)
  have X1 : 0 ≤ x ∧ x < m 5000 30 := ⟨x0, by omega⟩
  have Y1 : 0 ≤ y ∧ y < m 5000 30 := ⟨y0, by omega⟩
  have e := gnF_eq hH hA h5 hx ho hr hor p0 p1 hg X1 Y1
  unfold rsP rstP mrP
  constructor
  · intro h k k0 k1
    have := h k k0 k1
    rw [(gnF_eq hH hA h5 hx ho hr hor p0 p1 hg ⟨k0, k1⟩ Y1).1, (gnF_eq hH hA h5 hx ho hr hor p0 p1 hg X1 ⟨k0, k1⟩).2, e.1, e.2] at this
    exact this
  · intro h k k0 k1
    have := h k k0 k1
    rw [(gnF_eq hH hA h5 hx ho hr hor p0 p1 hg ⟨k0, k1⟩ Y1).1, (gnF_eq hH hA h5 hx ho hr hor p0 p1 hg X1 ⟨k0, k1⟩).2, e.1, e.2]
    exact this
