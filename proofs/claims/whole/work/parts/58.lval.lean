/-! what codes are worth -/
def lst (f : Int → Int) : Int → List Int → Prop
  | _, [] => True
  | i, a :: l => f i = a ∧ lst f (i + 1) l
theorem lst_app (f : Int → Int) : ∀ (a b : List Int) (i : Int), lst f i (a ++ b) ↔ lst f i a ∧ lst f (i + a.length) b := by
  intro a
  induction a with
  | nil => intro b i; simp [lst]
  | cons x a ih =>
    intro b i
    rw [List.cons_append, lst, lst, ih, List.length_cons, show i + 1 + (a.length : Int) = i + ((a.length + 1 : Nat) : Int) by omega, and_assoc]
def vx1 (L : Int → Int) (c : Int) (s : List Int) : List Int :=
  if c < 10000 then c :: s else if c < 10006 then L (c - 10000) :: s
  else match s with
    | [] => []
    | a :: s => if c = 20033 then (1 - a) :: s else match s with
      | [] => []
      | b :: s => apF (c - 20000) b a :: s
def vx (L : Int → Int) : List Int → List Int → List Int
  | [], s => s
  | c :: g, s => vx L g (vx1 L c s)
theorem vx_app (L : Int → Int) : ∀ (a b s : List Int), vx L (a ++ b) s = vx L b (vx L a s) := by
  intro a
  induction a with
  | nil => intro b s; rfl
  | cons c a ih => intro b s; exact ih b _
theorem wx_s (c : Int → Int) (len : Int) (L : Int → Int) (f : Nat) (i : Int) (s : List Int) : wx c len L (f + 1) i s =
    if i < 0 ∨ len < i then none
    else if i = len then some 0
    else if 0 ≤ c i ∧ c i < 10000 then (if s.length < 48 then wx c len L f (i + 1) (c i :: s) else none)
    else if 10000 ≤ c i ∧ c i < 10006 then (if s.length < 48 then wx c len L f (i + 1) (L (c i - 10000) :: s) else none)
    else match s with
    | [] => none
    | a :: s =>
      if c i = 20059 then some a
      else if c i = 20033 then wx c len L f (i + 1) ((1 - a) :: s)
      else if 30000 ≤ c i ∧ c i ≤ 30241 then (if ¬ bnd a then none else if a = 0 then (if i < c i - 30000 then wx c len L f (c i - 30000) s else none) else wx c len L f (i + 1) s)
      else if 20000 ≤ c i ∧ c i < 30000 then
        match s with
        | [] => none
        | b :: s => if bnd a ∧ bnd b then wx c len L f (i + 1) (apF (c i - 20000) b a :: s) else none
      else none := by
  conv => lhs; unfold wx
  rfl
def val (L : Int → Int) (g : List Int) : Int := (vx L g []).headD 0
def vok (L : Int → Int) (g : List Int) (m : Nat) (v : Int) : Prop := bnd v ∧ (∀ s, vx L g s = v :: s) ∧ ∀ (c : Int → Int) (len i : Int) (f : Nat) (s : List Int), 0 ≤ i → i + g.length ≤ len → lst c i g → s.length + m ≤ 48 → wx c len L (f + g.length) i s = wx c len L f (i + g.length) (v :: s)
theorem vok_val {L : Int → Int} {g : List Int} {m : Nat} {v : Int} (h : vok L g m v) : val L g = v := by
  unfold val; rw [h.2.1]; rfl
theorem vok_m {L : Int → Int} {g : List Int} {m m' : Nat} {v : Int} (h : vok L g m v) (hm : m ≤ m') : vok L g m' v := ⟨h.1, h.2.1, fun c len i f s a b d e => h.2.2 c len i f s a b d (by omega)⟩
theorem vok_num {L : Int → Int} {x : Int} (h0 : 0 ≤ x) (h1 : x < 10000) : vok L [x] 1 x := by
  refine ⟨⟨by omega, by omega⟩, fun s => ?_, fun c len i f s a b d e => ?_⟩
  · show vx1 L x s = _; unfold vx1; rw [if_pos h1]
  · have hc : c i = x := d.1
    simp only [List.length_cons, List.length_nil] at b ⊢
    show wx c len L (f + 1) i s = _
    rw [wx_s, if_neg (by omega), if_neg (by omega), hc, if_pos ⟨h0, h1⟩, if_pos (by omega)]; rfl
theorem vok_let {L : Int → Int} {k : Int} (h0 : 0 ≤ k) (h1 : k < 6) (hb : bnd (L k)) : vok L [10000 + k] 1 (L k) := by
  refine ⟨hb, fun s => ?_, fun c len i f s a b d e => ?_⟩
  · show vx1 L (10000 + k) s = _; unfold vx1; rw [if_neg (by omega), if_pos (by omega), show 10000 + k - 10000 = k by omega]
  · have hc : c i = 10000 + k := d.1
    simp only [List.length_cons, List.length_nil] at b ⊢
    show wx c len L (f + 1) i s = _
    rw [wx_s, if_neg (by omega), if_neg (by omega), hc, if_neg (by omega), if_pos (by omega), if_pos (by omega), show 10000 + k - 10000 = k by omega]; rfl
theorem vok_op {L : Int → Int} {g1 g2 : List Int} {m1 m2 : Nat} {v1 v2 c : Int} (h1 : vok L g1 m1 v1) (h2 : vok L g2 m2 v2) (hc : 0 ≤ c ∧ c < 1000 ∧ c ≠ 33 ∧ c ≠ 59) (hb : bnd (apF c v1 v2)) : vok L (g1 ++ g2 ++ [20000 + c]) (max m1 (m2 + 1)) (apF c v1 v2) := by
  refine ⟨hb, fun s => ?_, fun d len i f s a b e hm => ?_⟩
  · rw [vx_app, vx_app, h1.2.1, h2.2.1]
    show vx1 L (20000 + c) _ = _; unfold vx1; rw [if_neg (by omega), if_neg (by omega)]
    dsimp only
    rw [if_neg (by omega), show 20000 + c - 20000 = c by omega]
  · rw [lst_app, lst_app] at e
    obtain ⟨⟨e1, e2⟩, e3, -⟩ := e
    simp only [List.length_append, List.length_cons, List.length_nil] at b e3 ⊢
    rw [show f + (g1.length + g2.length + (0 + 1)) = f + 1 + g2.length + g1.length by omega, h1.2.2 d len i _ s a (by omega) e1 (by omega), h2.2.2 d len _ _ _ (by omega) (by omega) e2 (by rw [List.length_cons]; omega)]
    rw [show i + ((g1.length + g2.length : Nat) : Int) = i + g1.length + g2.length by omega] at e3
    rw [wx_s, if_neg (by omega), if_neg (by omega), e3, if_neg (by omega), if_neg (by omega)]
    dsimp only
    rw [if_neg (by omega), if_neg (by omega), if_neg (by omega), if_pos (by omega), if_pos ⟨h2.1, h1.1⟩, show 20000 + c - 20000 = c by omega]
    congr 1
    omega
theorem vok_not {L : Int → Int} {g : List Int} {m : Nat} {v : Int} (h : vok L g m v) (hv : v = 0 ∨ v = 1) : vok L (g ++ [20033]) m (1 - v) := by
  refine ⟨⟨by omega, by omega⟩, fun s => ?_, fun d len i f s a b e hm => ?_⟩
  · rw [vx_app, h.2.1]; rfl
  · rw [lst_app] at e
    obtain ⟨e1, e3, -⟩ := e
    simp only [List.length_append, List.length_cons, List.length_nil] at b e3 ⊢
    rw [show f + (g.length + (0 + 1)) = f + 1 + g.length by omega, h.2.2 d len i _ s a (by omega) e1 (by omega)]
    rw [wx_s, if_neg (by omega), if_neg (by omega), e3, if_neg (by decide), if_neg (by decide)]
    dsimp only
    rw [if_neg (by decide), if_pos rfl]
    congr 1
    omega
abbrev gd (L : Int → Int) (m : Nat) (g : List Int) : Prop := vok L g m (val L g)
abbrev gdb (L : Int → Int) (m : Nat) (g : List Int) : Prop := vok L g m (val L g) ∧ (val L g = 0 ∨ val L g = 1)
theorem gd_of {L : Int → Int} {g : List Int} {m : Nat} {v : Int} (h : vok L g m v) : gd L m g := by unfold gd; rw [vok_val h]; exact h
theorem tdiv_bnd {l r : Int} (h : bnd l) : bnd (Int.tdiv l r) := by
  have h1 : (Int.tdiv l r).natAbs ≤ l.natAbs := by rw [Int.natAbs_tdiv]; exact Nat.div_le_self _ _
  omega
theorem apF_42 (l r : Int) : apF 42 l r = clm (l * r) := by simp only [apF, Int.reduceEq, if_false, if_true]
theorem apF_47 (l r : Int) : apF 47 l r = if r = 0 then 0 else Int.tdiv l r := by simp only [apF, Int.reduceEq, if_false, if_true]
theorem apF_43 (l r : Int) : apF 43 l r = clm (l + r) := by simp only [apF, Int.reduceEq, if_false, if_true]
theorem apF_45 (l r : Int) : apF 45 l r = clm (l - r) := by simp only [apF, Int.reduceEq, if_false, if_true]
theorem apF_61 (l r : Int) : apF 61 l r = if l = r then 1 else 0 := by simp only [apF, Int.reduceEq, if_false, if_true]
theorem apF_60 (l r : Int) : apF 60 l r = if l < r then 1 else 0 := by simp only [apF, Int.reduceEq, if_false, if_true]
theorem apF_62 (l r : Int) : apF 62 l r = if r < l then 1 else 0 := by simp only [apF, Int.reduceEq, if_false, if_true]
theorem apF_ar {c l r : Int} (h : bnd l) (hc : c = 42 ∨ c = 47 ∨ c = 43 ∨ c = 45) : bnd (apF c l r) := by
  rcases hc with rfl | rfl | rfl | rfl
  · rw [apF_42]; exact clm_bd _
  · rw [apF_47]
    split
    · exact ⟨by decide, by decide⟩
    · exact tdiv_bnd h
  · rw [apF_43]; exact clm_bd _
  · rw [apF_45]; exact clm_bd _
theorem apF_sg {c l r : Int} (hc : isSg c) : apF c l r = 0 ∨ apF c l r = 1 := by
  rcases hc with rfl | rfl | rfl
  · rw [apF_61]; split <;> omega
  · rw [apF_60]; split <;> omega
  · rw [apF_62]; split <;> omega
theorem apF_and : ∀ {l r : Int}, (l = 0 ∨ l = 1) → (r = 0 ∨ r = 1) → apF 38 l r = if l = 1 ∧ r = 1 then 1 else 0 := by
  rintro l r (rfl | rfl) (rfl | rfl) <;> rfl
theorem apF_or : ∀ {l r : Int}, (l = 0 ∨ l = 1) → (r = 0 ∨ r = 1) → apF 124 l r = if l = 1 ∨ r = 1 then 1 else 0 := by
  rintro l r (rfl | rfl) (rfl | rfl) <;> rfl
theorem b01 {v : Int} (h : v = 0 ∨ v = 1) : bnd v := by omega
theorem gd_ar {L : Int → Int} {m : Nat} {g1 g2 : List Int} {c : Int} (h1 : gd L (m + 1) g1) (h2 : gd L m g2) (hc : c = 42 ∨ c = 47 ∨ c = 43 ∨ c = 45) : gd L (m + 1) (g1 ++ g2 ++ [20000 + c]) ∧ val L (g1 ++ g2 ++ [20000 + c]) = apF c (val L g1) (val L g2) := by
  have h := vok_op h1 h2 (c := c) (by omega) (apF_ar h1.1 hc)
  exact ⟨gd_of (vok_m h (by omega)), vok_val h⟩
theorem gd_sg {L : Int → Int} {m : Nat} {g1 g2 : List Int} {c : Int} (h1 : gd L m g1) (h2 : gd L m g2) (hc : isSg c) : gdb L (m + 1) (g1 ++ g2 ++ [20000 + c]) ∧ val L (g1 ++ g2 ++ [20000 + c]) = apF c (val L g1) (val L g2) := by
  have h := vok_op h1 h2 (c := c) (by omega) (b01 (apF_sg hc))
  exact ⟨⟨gd_of (vok_m h (by omega)), by rw [vok_val h]; exact apF_sg hc⟩, vok_val h⟩
theorem gd_bo {L : Int → Int} {m : Nat} {g1 g2 : List Int} {c : Int} (h1 : gdb L (m + 1) g1) (h2 : gdb L m g2) (hc : c = 38 ∨ c = 124) : gdb L (m + 1) (g1 ++ g2 ++ [20000 + c]) ∧ val L (g1 ++ g2 ++ [20000 + c]) = apF c (val L g1) (val L g2) := by
  have hb : apF c (val L g1) (val L g2) = 0 ∨ apF c (val L g1) (val L g2) = 1 := by
    rcases hc with rfl | rfl
    · rw [apF_and h1.2 h2.2]; split <;> omega
    · rw [apF_or h1.2 h2.2]; split <;> omega
  have h := vok_op h1.1 h2.1 (c := c) (by omega) (b01 hb)
  exact ⟨⟨gd_of (vok_m h (by omega)), by rw [vok_val h]; exact hb⟩, vok_val h⟩
theorem gd_no {L : Int → Int} {m : Nat} {g : List Int} (h : gdb L m g) : gdb L m (g ++ [20033]) ∧ val L (g ++ [20033]) = 1 - val L g := by
  have h1 := vok_not h.1 h.2
  exact ⟨⟨gd_of h1, by rw [vok_val h1]; have := h.2; omega⟩, vok_val h1⟩
/-- all letters are small -/
def lbd (L : Int → Int) : Prop := ∀ k, 0 ≤ k → k < 6 → bnd (L k)
theorem nval4_b (t : Int → Int) (p : Int) : 0 ≤ nval t p 0 4 ∧ nval t p 0 4 < 10000 := by
  refine ⟨nval_nn t 4 p 0 (by omega), ?_⟩
  have key : ∀ (m : Nat) (p a : Int), 0 ≤ a → nval t p a m < (a + 1) * 10 ^ m := by
    intro m
    induction m with
    | zero => intro p a h; unfold nval; omega
    | succ m ih =>
      intro p a h
      unfold nval
      split
      · have := ih (p + 1) (10 * a + t p - 48) (by omega)
        have h2 : (10 * a + t p - 48 + 1) * 10 ^ m ≤ (a + 1) * 10 * 10 ^ m := Int.mul_le_mul_of_nonneg_right (by omega) (Int.le_of_lt (Int.pow_pos (by decide)))
        rw [show (a + 1) * 10 ^ (m + 1) = (a + 1) * 10 * 10 ^ m by rw [Int.pow_succ, Int.mul_assoc, Int.mul_comm (10 ^ m) 10]]
        omega
      · have h1 : (1 : Int) ≤ 10 ^ (m + 1) := Int.pow_pos (by decide)
        have h2 : (a + 1) * 1 ≤ (a + 1) * 10 ^ (m + 1) := Int.mul_le_mul_of_nonneg_left h1 (by omega)
        omega
  have := key 4 p 0 (by omega)
  omega
theorem gLp_val {t : Int → Int} {n : Int} {s : Int → Bool} {nx : Int → LR} {V V' : List Int → Prop} (hx : ∀ p x, nx p = .inr x → V x.2) (hst : ∀ c g g', s c = true → V' g → V g' → V' (g ++ g' ++ [20000 + c])) : ∀ (f : Nat) (p : Int) (g : List Int) (y : Int × List Int), V' g → gLp t n s nx f p g = .inr y → V' y.2 := by
  intro f
  induction f with
  | zero => intro p g y hg h; unfold gLp at h; cases h; exact hg
  | succ f ih =>
    intro p g y hg h
    unfold gLp at h
    split at h
    · rename_i c
      revert h
      cases e : nx (sk t n p + 1) with
      | inl q => intro h; cases h
      | inr x => intro h; exact ih _ _ _ (hst _ _ _ c hg (hx _ _ e)) h
    · cases h; exact hg
theorem gCh_val {t : Int → Int} {n : Int} {s : Int → Bool} {nx : Int → LR} {V V' : List Int → Prop} (hx : ∀ p x, nx p = .inr x → V x.2) (hst : ∀ c g g', s c = true → V' g → V g' → V' (g ++ g' ++ [20000 + c])) (hw : ∀ g, V g → V' g) {x : LR} (h0 : ∀ z, x = .inr z → V z.2) (y : Int × List Int) (h : gCh t n s nx x = .inr y) : V' y.2 := by
  cases x with
  | inl q => cases h
  | inr z => exact gLp_val hx hst 240 z.1 z.2 y (hw _ (h0 z rfl)) h
theorem gAt_val {t : Int → Int} {n : Int} {L : Int → Int} (hL : lbd L) {inn : Int → LR} {m : Nat} (hm : 1 ≤ m) (hi : ∀ q x, inn q = .inr x → gd L m x.2) (p : Int) (y : Int × List Int) (h : gAt t n inn p = .inr y) : gd L m y.2 := by
  unfold gAt gAtm at h
  split at h
  · rename_i c
    cases h
    have b := lix_b (t (sk t n p))
    exact gd_of (vok_m (vok_let c b.2 (hL _ c b.2)) hm)
  · split at h
    · revert h
      cases e : inn (sk t n p) with
      | inl q => intro h; cases h
      | inr x =>
        intro h
        dsimp only at h
        split at h
        · cases h; exact hi _ x e
        · cases h
    · split at h
      · cases h
      · cases h
        have b := nval4_b t (sk t n p)
        exact gd_of (vok_m (vok_num b.1 b.2) hm)
theorem gTrm_val {t : Int → Int} {n : Int} {L : Int → Int} (hL : lbd L) {inn : Int → LR} {m : Nat} (hm : 1 ≤ m) (hi : ∀ q x, inn q = .inr x → gd L m x.2) (p : Int) (y : Int × List Int) (h : gTrm t n inn p = .inr y) : gd L (m + 1) y.2 :=
  gCh_val (V := gd L m) (V' := gd L (m + 1)) (gAt_val hL hm hi) (fun c g g' hc a b => (gd_ar a b (by have := sMul_t hc; omega)).1) (fun g h => vok_m h (by omega)) (fun z hz => gAt_val hL hm hi p z hz) y h
theorem gSum_val {t : Int → Int} {n : Int} {L : Int → Int} (hL : lbd L) {inn : Int → LR} {m : Nat} (hm : 1 ≤ m) (hi : ∀ q x, inn q = .inr x → gd L m x.2) (p : Int) (y : Int × List Int) (h : gSum t n inn p = .inr y) : gd L (m + 2) y.2 :=
  gCh_val (V := gd L (m + 1)) (V' := gd L (m + 2)) (gTrm_val hL hm hi) (fun c g g' hc a b => (gd_ar a b (by have := sAdd_t hc; omega)).1) (fun g h => vok_m h (by omega)) (fun z hz => gTrm_val hL hm hi p z hz) y h
theorem gIn_val {t : Int → Int} {n : Int} {L : Int → Int} (hL : lbd L) : ∀ (r : Nat) (q : Int) (x : Int × List Int), gIn t n r q = .inr x → gd L (2 * r + 1) x.2 := by
  intro r
  induction r with
  | zero => intro q x h; cases h
  | succ r ih =>
    intro q x h
    have h : gS t n r (q + 1) = .inr x := h
    rw [gS_e] at h
    exact gSum_val hL (by omega) ih _ _ h
theorem gS_val {t : Int → Int} {n : Int} {L : Int → Int} (hL : lbd L) (r : Nat) (p : Int) (y : Int × List Int) (h : gS t n r p = .inr y) : gd L (2 * r + 3) y.2 := by
  rw [gS_e] at h; exact gSum_val hL (by omega) (gIn_val hL r) p y h
theorem gCmp_val {t : Int → Int} {n : Int} {L : Int → Int} (hL : lbd L) (r : Nat) {x : LR} (hx : ∀ z, x = .inr z → gd L (2 * r + 3) z.2) (y : Int × List Int) (h : gCmp t n r x = .inr y) : gdb L (2 * r + 4) y.2 := by
  cases x with
  | inl q => cases h
  | inr x =>
    unfold gCmp at h
    dsimp only at h
    split at h
    · rename_i c
      revert h
      cases e : gS t n r (sk t n x.1 + 1) with
      | inl q => intro h; cases h
      | inr z => intro h; cases h; exact (gd_sg (hx _ rfl) (gS_val hL r _ _ e) c).1
    · cases h
theorem gPrt_val {t : Int → Int} {n : Int} {L : Int → Int} {u : Int → LR} {m : Nat} (hu : ∀ p y, u p = .inr y → gdb L m y.2) {x : LR} (hx : ∀ z, x = .inr z → gdb L m z.2) (y : Int × List Int) (h : gPrt t n u x = .inr y) : gdb L (m + 1) y.2 :=
  gCh_val (V := gdb L m) (V' := gdb L (m + 1)) hu (fun c g g' hc a b => (gd_bo a b (by have := sAnd_t hc; omega)).1) (fun g h => ⟨vok_m h.1 (by omega), h.2⟩) hx y h
theorem gCnd_val {t : Int → Int} {n : Int} {L : Int → Int} {u : Int → LR} {m : Nat} (hu : ∀ p y, u p = .inr y → gdb L m y.2) {x : LR} (hx : ∀ z, x = .inr z → gdb L m z.2) (y : Int × List Int) (h : gCnd t n u x = .inr y) : gdb L (m + 2) y.2 :=
  gCh_val (V := gdb L (m + 1)) (V' := gdb L (m + 2)) (fun p y h => gPrt_val hu (fun z hz => hu p z hz) y h) (fun c g g' hc a b => (gd_bo a b (by have := sOr_t hc; omega)).1) (fun g h => ⟨vok_m h.1 (by omega), h.2⟩) (fun z hz => gPrt_val hu hx z hz) y h
theorem gU_val {t : Int → Int} {n : Int} {L : Int → Int} (hL : lbd L) : ∀ (r : Nat) (p : Int) (y : Int × List Int), gU t n r p = .inr y → gdb L (2 * r + 4) y.2 := by
  intro r
  induction r with
  | zero =>
    intro p y h
    unfold gU at h
    split at h
    · cases h
    · exact gCmp_val hL 0 (fun z hz => gS_val hL 0 p z hz) y h
  | succ r ih =>
    intro p y h
    unfold gU at h
    split at h
    · revert h
      cases e : gU t n r (sk t n p + 1) with
      | inl q => intro h; cases h
      | inr x =>
        intro h; cases h
        have := gd_no (ih _ _ e)
        exact ⟨vok_m this.1.1 (by omega), this.1.2⟩
    · split at h
      · revert h
        cases e : gCnd t n (gU t n r) (gU t n r (sk t n p + 1)) with
        | inl q => intro h; cases h
        | inr x =>
          intro h
          unfold gRnd at h
          dsimp only at h
          split at h
          · cases h
            exact gCnd_val ih (fun z hz => ih _ z hz) x e
          · cases h
      · exact gCmp_val hL (r + 1) (fun z hz => gS_val hL (r + 1) p z hz) y h
/-- clauses as they should be -/
def cgd (L : Int → Int) (k : CL) : Prop := (∀ c, k.1 = some c → gdb L 18 c) ∧ gd L 15 k.2
theorem gTl_val {t : Int → Int} {n : Int} {L : Int → Int} (hL : lbd L) {x : LR} (hx : ∀ z, x = .inr z → gdb L 18 z.2) (y : Int × CL) (h : gTl t n x = .inr y) : cgd L y.2 := by
  cases x with
  | inl q => cases h
  | inr x =>
    unfold gTl at h
    dsimp only at h
    split at h
    · revert h
      cases e : gS t n 6 (sk t n x.1 + 1) with
      | inl q => intro h; cases h
      | inr z => intro h; cases h; exact ⟨fun c hc => by cases hc; exact hx x rfl, gS_val hL 6 _ _ e⟩
    · cases h
theorem gBd_val {t : Int → Int} {n : Int} {L : Int → Int} (hL : lbd L) (p : Int) (y : Int × CL) (h : gBd t n p = .inr y) : cgd L y.2 := by
  unfold gBd at h
  split at h
  · exact gTl_val hL (fun z hz => gCnd_val (gU_val hL 6) (fun w hw => gU_val hL 6 p w hw) z hz) y h
  · revert h
    cases e : gS t n 6 p with
    | inl q => intro h; cases h
    | inr x =>
      intro h
      dsimp only at h
      split at h
      · exact gTl_val hL (fun z hz => gCnd_val (gU_val hL 6) (fun w hw => gCmp_val hL 6 (fun z hz => by cases hz; exact gS_val hL 6 p _ e) w hw) z hz) y h
      · cases h; exact ⟨fun c hc => (nomatch hc), gS_val hL 6 p _ e⟩
theorem gLw_val {t : Int → Int} {n : Int} {L : Int → Int} (hL : lbd L) : ∀ (f : Nat) (p : Int) (K : List CL), gLw t n f p = .inr K → ∀ k ∈ K, cgd L k := by
  intro f
  induction f with
  | zero => intro p K h; cases h
  | succ f ih =>
    intro p K h
    unfold gLw at h
    revert h
    cases e : gCl t n p with
    | inl q => intro h; cases h
    | inr x =>
      intro h
      have hk : cgd L x.2 := by
        unfold gCl at e
        split at e
        · cases e
        · split at e
          · cases e
          · exact gBd_val hL _ _ e
      dsimp only at h
      split at h
      · revert h
        cases e2 : gLw t n f (sk t n x.1 + 1) with
        | inl q => intro h; cases h
        | inr K2 => intro h; cases h; exact List.forall_mem_cons.mpr ⟨hk, ih _ _ e2⟩
      · split at h
        · cases h; exact List.forall_mem_cons.mpr ⟨hk, fun _ h => nomatch h⟩
        · cases h
/-- what a LAW is worth -/
def kval (L : Int → Int) : List CL → Int
  | [] => 0
  | (none, g) :: _ => val L g
  | (some c, g) :: K => if val L c = 0 then kval L K else val L g
theorem kcd_pre : ∀ (K : List CL) (C : List Int), ∃ R, kcd K C = C ++ R := by
  intro K
  induction K with
  | nil => intro C; exact ⟨[], (List.append_nil _).symm⟩
  | cons k K ih =>
    intro C
    obtain ⟨R, h⟩ := ih (C ++ clc C.length k)
    exact ⟨clc C.length k ++ R, by rw [kcd, h, List.append_assoc]⟩
theorem wx_mono (c : Int → Int) (len : Int) (L : Int → Int) : ∀ (f : Nat) (i : Int) (s : List Int) (v : Int), wx c len L f i s = some v → wx c len L (f + 1) i s = some v := by
  intro f
  induction f with
  | zero => intro i s v h; cases h
  | succ f ih =>
    intro i s v h
    rw [wx_s] at h ⊢
    by_cases c1 : i < 0 ∨ len < i
    · rw [if_pos c1] at h; cases h
    rw [if_neg c1] at h ⊢
    by_cases c2 : i = len
    · rw [if_pos c2] at h ⊢; exact h
    rw [if_neg c2] at h ⊢
    by_cases c3 : 0 ≤ c i ∧ c i < 10000
    · rw [if_pos c3] at h ⊢
      by_cases c4 : s.length < 48
      · rw [if_pos c4] at h ⊢; exact ih _ _ _ h
      · rw [if_neg c4] at h; cases h
    rw [if_neg c3] at h ⊢
    by_cases c4 : 10000 ≤ c i ∧ c i < 10006
    · rw [if_pos c4] at h ⊢
      by_cases c5 : s.length < 48
      · rw [if_pos c5] at h ⊢; exact ih _ _ _ h
      · rw [if_neg c5] at h; cases h
    rw [if_neg c4] at h ⊢
    cases s with
    | nil => exact h
    | cons a s =>
      dsimp only at h ⊢
      by_cases c5 : c i = 20059
      · rw [if_pos c5] at h ⊢; exact h
      rw [if_neg c5] at h ⊢
      by_cases c6 : c i = 20033
      · rw [if_pos c6] at h ⊢; exact ih _ _ _ h
      rw [if_neg c6] at h ⊢
      by_cases c7 : 30000 ≤ c i ∧ c i ≤ 30241
      · rw [if_pos c7] at h ⊢
        by_cases c8 : ¬ bnd a
        · rw [if_pos c8] at h; cases h
        rw [if_neg c8] at h ⊢
        by_cases c9 : a = 0
        · rw [if_pos c9] at h ⊢
          by_cases c10 : i < c i - 30000
          · rw [if_pos c10] at h ⊢; exact ih _ _ _ h
          · rw [if_neg c10] at h; cases h
        · rw [if_neg c9] at h ⊢; exact ih _ _ _ h
      rw [if_neg c7] at h ⊢
      by_cases c8 : 20000 ≤ c i ∧ c i < 30000
      · rw [if_pos c8] at h ⊢
        cases s with
        | nil => exact h
        | cons b s =>
          dsimp only at h ⊢
          by_cases c9 : bnd a ∧ bnd b
          · rw [if_pos c9] at h ⊢; exact ih _ _ _ h
          · rw [if_neg c9] at h; cases h
      · rw [if_neg c8] at h; cases h
theorem wx_up (c : Int → Int) (len : Int) (L : Int → Int) {f g : Nat} (hfg : f ≤ g) {i : Int} {s : List Int} {v : Int} (h : wx c len L f i s = some v) : wx c len L g i s = some v := by
  obtain ⟨d, rfl⟩ : ∃ d, g = f + d := ⟨g - f, by omega⟩
  induction d with
  | zero => exact h
  | succ d ih => exact wx_mono c len L _ _ _ _ (ih (by omega))
theorem wx_ret {c : Int → Int} {len : Int} {L : Int → Int} {f : Nat} {i a : Int} {s : List Int} (h0 : 0 ≤ i) (h1 : i < len) (hc : c i = 20059) : wx c len L (f + 1) i (a :: s) = some a := by
  rw [wx_s, if_neg (by omega), if_neg (by omega), hc, if_neg (by decide), if_neg (by decide)]
  dsimp only
  rw [if_pos rfl]
theorem wx_skp {c : Int → Int} {len : Int} {L : Int → Int} {f : Nat} {i a x : Int} {s : List Int} (h0 : 0 ≤ i) (h1 : i < len) (hc : c i = 30000 + x) (hx : i < x ∧ x ≤ 241) (ha : bnd a) : wx c len L (f + 1) i (a :: s) = if a = 0 then wx c len L f x s else wx c len L f (i + 1) s := by
  rw [wx_s, if_neg (by omega), if_neg (by omega), hc, if_neg (by omega), if_neg (by omega)]
  dsimp only
  rw [if_neg (by omega), if_neg (by omega), if_pos (by omega), if_neg (fun q => q ha), show 30000 + x - 30000 = x by omega]
  split
  · rw [if_pos (by omega)]
  · rfl
theorem wx_k {c : Int → Int} {len : Int} {L : Int → Int} (hlen : len ≤ 241) : ∀ (K : List CL) (C : List Int), (∀ k ∈ K, cgd L k) → ((kcd K C).length : Int) = len → lst c 0 (kcd K C) → wx c len L ((kcd K C).length - C.length + 1) C.length [] = some (kval L K) := by
  intro K
  induction K with
  | nil =>
    intro C _ hl _
    rw [kcd] at hl ⊢
    rw [wx_s, if_neg (by omega), if_pos hl]; rfl
  | cons k K ih =>
    intro C hg hl hc
    obtain ⟨hk, hK⟩ := List.forall_mem_cons.mp hg
    have ih' := ih (C ++ clc C.length k) hK hl hc
    obtain ⟨R, hR⟩ := kcd_pre K (C ++ clc C.length k)
    have hl' := hl
    rw [kcd] at hl hc ⊢
    rw [hR, List.append_assoc] at hc
    rw [hR] at hl ih' ⊢
    obtain ⟨-, hc⟩ := (lst_app c C _ 0).mp hc
    obtain ⟨hc, -⟩ := (lst_app c _ R _).mp hc
    rw [Int.zero_add] at hc
    obtain ⟨k1, g⟩ := k
    have hk2 : gd L 15 g := hk.2
    cases k1 with
    | none =>
      unfold clc at hc hl ⊢
      dsimp only at hc hl ⊢
      obtain ⟨hc1, hc2, -⟩ := (lst_app c _ _ _).mp hc
      simp only [List.length_append, List.length_cons, List.length_nil] at hl ⊢
      refine wx_up c len L (f := 1 + g.length) (by omega) ?_
      rw [hk2.2.2 c len _ 1 [] (by omega) (by omega) hc1 (by simp)]
      exact wx_ret (by omega) (by omega) hc2
    | some b =>
      have hb := hk.1 b rfl
      unfold clc at hc hl ih' ⊢
      dsimp only at hc hl ih' ⊢
      rw [List.append_assoc, List.append_assoc, List.singleton_append] at hc
      obtain ⟨hc1, hc2⟩ := (lst_app c _ _ _).mp hc
      obtain ⟨hc2, hc3⟩ := hc2
      obtain ⟨hc3, hc4, -⟩ := (lst_app c _ _ _).mp hc3
      simp only [List.length_append, List.length_cons, List.length_nil] at hl ih' ⊢
      rw [show C.length + (b.length + (0 + 1) + g.length + (0 + 1)) + R.length - C.length + 1 = (b.length + (0 + 1) + g.length + (0 + 1)) + R.length + 1 by omega]
      rw [show C.length + (b.length + (0 + 1) + g.length + (0 + 1)) + R.length - (C.length + (b.length + (0 + 1) + g.length + (0 + 1))) + 1 = R.length + 1 by omega] at ih'
      refine wx_up c len L (f := (max (R.length + 1) (1 + g.length)) + 1 + b.length) (by omega) ?_
      rw [hb.1.2.2 c len _ _ [] (by omega) (by omega) hc1 (by simp), wx_skp (by omega) (by omega) hc2 (by omega) hb.1.1]
      unfold kval
      by_cases h0 : val L b = 0
      · rw [if_pos h0, if_pos h0]
        rw [show (C.length : Int) + b.length + g.length + 2 = ((C.length + (b.length + (0 + 1) + g.length + (0 + 1)) : Nat) : Int) by omega]
        exact wx_up c len L (by omega) ih'
      · rw [if_neg h0, if_neg h0]
        refine wx_up c len L (f := 1 + g.length) (by omega) ?_
        rw [hk2.2.2 c len _ 1 [] (by omega) (by omega) hc3 (by simp)]
        exact wx_ret (by omega) (by omega) hc4
/-- the codes of a LAW are worth what the LAW is worth -/
theorem wx_law {c : Int → Int} {L : Int → Int} {K : List CL} (hg : ∀ k ∈ K, cgd L k) (hl : (kcd K []).length ≤ 241) (hc : lst c 0 (kcd K [])) : wx c ((kcd K []).length) L 300 0 [] = some (kval L K) := by
  have := wx_k (c := c) (len := ((kcd K []).length : Int)) (by omega) K [] hg rfl hc
  exact wx_up c _ L (by simp; omega) this
