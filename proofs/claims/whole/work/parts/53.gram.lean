/-! LAWS as texts: the grammar; from a place on: a fault, or the place behind and the codes -/
def lix (s : Int) : Int := if s = 102 then 0 else if s = 104 then 1 else if s = 100 then 2 else if s = 110 then 3 else if s = 107 then 4 else if s = 101 then 5 else -1
theorem lix_b (s : Int) : -1 ≤ lix s ∧ lix s < 6 := by
  unfold lix
  repeat' split
  all_goals omega
theorem lix_n {s : Int} (h : 0 ≤ lix s) : s ≠ -1 ∧ ¬ (48 ≤ s ∧ s ≤ 57) := by
  unfold lix at h
  repeat' split at h
  all_goals omega
abbrev LR : Type := Int ⊕ (Int × List Int)
abbrev isdg (s : Int) : Prop := 48 ≤ s ∧ s ≤ 57
abbrev isSg (s : Int) : Prop := s = 61 ∨ s = 60 ∨ s = 62
def gAtm (t : Int → Int) (n : Int) (inn : Int → LR) (q : Int) : LR :=
  if 0 ≤ lix (t q) then .inr (q + 1, [10000 + lix (t q)])
  else if t q = 91 then
    match inn q with
    | .inl f => .inl f
    | .inr x => if t (sk t n x.1) = 93 then .inr (sk t n x.1 + 1, x.2) else .inl (sk t n x.1)
  else if ndig t q 4 = 0 ∨ isdg (t (q + ndig t q 4)) then .inl (q + ndig t q 4)
  else .inr (q + ndig t q 4, [nval t q 0 4])
/-- a row of parts with signs between -/
def gLp (t : Int → Int) (n : Int) (s : Int → Bool) (nx : Int → LR) : Nat → Int → List Int → LR
  | 0, p, g => .inr (sk t n p, g)
  | f + 1, p, g =>
    if s (t (sk t n p)) = true then
      match nx (sk t n p + 1) with
      | .inl q => .inl q
      | .inr x => gLp t n s nx f x.1 (g ++ x.2 ++ [20000 + t (sk t n p)])
    else .inr (sk t n p, g)
def gCh (t : Int → Int) (n : Int) (s : Int → Bool) (nx : Int → LR) (x : LR) : LR := match x with
  | .inl q => .inl q
  | .inr y => gLp t n s nx 240 y.1 y.2
def sMul (c : Int) : Bool := c == 42 || c == 47
def sAdd (c : Int) : Bool := c == 43 || c == 45
def sAnd (c : Int) : Bool := c == 38
def sOr (c : Int) : Bool := c == 124
def gAt (t : Int → Int) (n : Int) (inn : Int → LR) (p : Int) : LR := gAtm t n inn (sk t n p)
def gTrm (t : Int → Int) (n : Int) (inn : Int → LR) (p : Int) : LR := gCh t n sMul (gAt t n inn) (gAt t n inn p)
def gSum (t : Int → Int) (n : Int) (inn : Int → LR) (p : Int) : LR := gCh t n sAdd (gTrm t n inn) (gTrm t n inn p)
/-- a SUM with room for r more within -/
def gS (t : Int → Int) (n : Int) : Nat → Int → LR
  | 0 => gSum t n (fun q => .inl q)
  | r + 1 => gSum t n (fun q => gS t n r (q + 1))
def gIn (t : Int → Int) (n : Int) : Nat → Int → LR
  | 0 => fun q => .inl q
  | r + 1 => fun q => gS t n r (q + 1)
theorem gS_e (t : Int → Int) (n : Int) (r : Nat) : gS t n r = gSum t n (gIn t n r) := by cases r <;> rfl
def gCmp (t : Int → Int) (n : Int) (r : Nat) (x : LR) : LR := match x with
  | .inl q => .inl q
  | .inr x =>
    if isSg (t (sk t n x.1)) then
      match gS t n r (sk t n x.1 + 1) with
      | .inl q => .inl q
      | .inr y => .inr (y.1, x.2 ++ y.2 ++ [20000 + t (sk t n x.1)])
    else .inl (sk t n x.1)
def gPrt (t : Int → Int) (n : Int) (u : Int → LR) (x : LR) : LR := gCh t n sAnd u x
def gCnd (t : Int → Int) (n : Int) (u : Int → LR) (x : LR) : LR := gCh t n sOr (fun p => gPrt t n u (u p)) (gPrt t n u x)
def gBang (x : LR) : LR := match x with
  | .inl q => .inl q
  | .inr x => .inr (x.1, x.2 ++ [20033])
def gRnd (t : Int → Int) (n : Int) (x : LR) : LR := match x with
  | .inl q => .inl q
  | .inr x => if t (sk t n x.1) = 41 then .inr (sk t n x.1 + 1, x.2) else .inl (sk t n x.1)
/-- a UNIT with room for r more within -/
def gU (t : Int → Int) (n : Int) : Nat → Int → LR
  | 0, p => if t (sk t n p) = 33 ∨ t (sk t n p) = 40 then .inl (sk t n p) else gCmp t n 0 (gS t n 0 p)
  | r + 1, p =>
    if t (sk t n p) = 33 then gBang (gU t n r (sk t n p + 1))
    else if t (sk t n p) = 40 then gRnd t n (gCnd t n (gU t n r) (gU t n r (sk t n p + 1)))
    else gCmp t n (r + 1) (gS t n (r + 1) p)
abbrev CL : Type := Option (List Int) × List Int
def gTl (t : Int → Int) (n : Int) (c : LR) : Int ⊕ (Int × CL) := match c with
  | .inl q => .inl q
  | .inr y =>
    if t (sk t n y.1) = 63 then
      match gS t n 6 (sk t n y.1 + 1) with
      | .inl q => .inl q
      | .inr z => .inr (z.1, some y.2, z.2)
    else .inl (sk t n y.1)
/-- a clause behind its : -/
def gBd (t : Int → Int) (n p : Int) : Int ⊕ (Int × CL) :=
  if t (sk t n p) = 33 ∨ t (sk t n p) = 40 then gTl t n (gCnd t n (gU t n 6) (gU t n 6 p))
  else match gS t n 6 p with
    | .inl q => .inl q
    | .inr x => if isSg (t (sk t n x.1)) then gTl t n (gCnd t n (gU t n 6) (gCmp t n 6 (.inr x))) else .inr (x.1, none, x.2)
def gCl (t : Int → Int) (n p : Int) : Int ⊕ (Int × CL) :=
  if t (sk t n p) ≠ 121 then .inl (sk t n p)
  else if t (sk t n (sk t n p + 1)) ≠ 58 then .inl (sk t n (sk t n p + 1))
  else gBd t n (sk t n (sk t n p + 1) + 1)
def gLw (t : Int → Int) (n : Int) : Nat → Int → Int ⊕ List CL
  | 0, p => .inl p
  | f + 1, p => match gCl t n p with
    | .inl q => .inl q
    | .inr x =>
      if t (sk t n x.1) = 59 then
        match gLw t n f (sk t n x.1 + 1) with
        | .inl q => .inl q
        | .inr K => .inr (x.2 :: K)
      else if t (sk t n x.1) = -1 then .inr [x.2] else .inl (sk t n x.1)
/-! where the places lie -/
def gok (n p : Int) (x : LR) : Prop := match x with
  | .inl q => p ≤ q ∧ q ≤ n
  | .inr y => p < y.1 ∧ y.1 ≤ n ∧ (y.2.length : Int) ≤ y.1 - p
theorem gok_l {n p q : Int} : gok n p (.inl q) = (p ≤ q ∧ q ≤ n) := rfl
theorem gok_r {n p : Int} {y : Int × List Int} : gok n p (.inr y) = (p < y.1 ∧ y.1 ≤ n ∧ (y.2.length : Int) ≤ y.1 - p) := rfl
theorem gok_m {n p p' : Int} {x : LR} (h : gok n p x) (hp : p' ≤ p) : gok n p' x := by
  cases x with
  | inl q => rw [gok_l] at h ⊢; omega
  | inr y => rw [gok_r] at h ⊢; omega
theorem sk_sk (t : Int → Int) {n p : Int} (h : p ≤ n) : sk t n (sk t n p) = sk t n p := by
  have key : ∀ (m k : Nat) (p : Int), skp t (skp t p m) k = skp t p m ∨ (p + m : Int) = skp t p m := by
    intro m
    induction m with
    | zero => intro k p; right; unfold skp; omega
    | succ m ih =>
      intro k p
      have e : skp t p (m + 1) = if t p = 32 then skp t (p + 1) m else p := rfl
      by_cases c : t p = 32
      · rw [e, if_pos c]
        rcases ih k (p + 1) with h | h
        · left; exact h
        · right; omega
      · rw [e, if_neg c]; left
        cases k with
        | zero => rfl
        | succ k =>
          have e2 : skp t p (k + 1) = if t p = 32 then skp t (p + 1) k else p := rfl
          rw [e2, if_neg c]
  unfold sk
  rcases key (n - p).toNat (n - skp t p (n - p).toNat).toNat p with h1 | h1
  · exact h1
  · have e : skp t p (n - p).toNat = n := by omega
    rw [e, show (n - n).toNat = 0 by omega]; rfl
theorem gAtm_ok {t : Int → Int} {n : Int} (ht : ∀ i, n ≤ i → t i = -1) {inn : Int → LR} {q : Int} (hq : q ≤ n) (hi : q < n → gok n q (inn q)) : gok n q (gAtm t n inn q) := by
  unfold gAtm
  split
  · rename_i c
    have := sk_lt ht (lix_n c).1
    rw [gok_r]; simp only [List.length_cons, List.length_nil]; omega
  · split
    · rename_i c0 c
      have hlt := sk_lt ht (q := q) (by omega)
      have h := hi hlt
      revert h
      cases inn q with
      | inl f => exact id
      | inr x =>
        intro h
        rw [gok_r] at h
        have s := sk_b t (n := n) (p := x.1) h.2.1
        dsimp only
        split
        · rename_i c2
          have := sk_lt ht (q := sk t n x.1) (by omega)
          rw [gok_r]; dsimp only; omega
        · rw [gok_l]; omega
    · have d := ndig_bd t 4 q
      have d2 := ndig_le ht 4 q hq
      split
      · rw [gok_l]; omega
      · rw [gok_r]; simp only [List.length_cons, List.length_nil]; omega
theorem gLp_ok {t : Int → Int} {n : Int} (ht : ∀ i, n ≤ i → t i = -1) {s : Int → Bool} (hs : s (-1) = false) {nx : Int → LR} (hi : ∀ p, 0 ≤ p → p ≤ n → gok n p (nx p)) : ∀ (f : Nat) (p p0 : Int) (g : List Int), 0 ≤ p0 → p0 < p → p ≤ n → (g.length : Int) ≤ p - p0 → gok n p0 (gLp t n s nx f p g) := by
  intro f
  induction f with
  | zero => intro p p0 g h0 h1 h2 h3; have s := sk_b t h2; unfold gLp; rw [gok_r]; dsimp only; omega
  | succ f ih =>
    intro p p0 g h0 h1 h2 h3
    have s1 := sk_b t h2
    unfold gLp
    split
    · rename_i c
      have hlt := sk_lt ht (q := sk t n p) (fun e => by rw [e, hs] at c; cases c)
      have h := hi (sk t n p + 1) (by omega) (by omega)
      revert h
      cases nx (sk t n p + 1) with
      | inl q => intro h; rw [gok_l] at h; dsimp only; rw [gok_l]; omega
      | inr x =>
        intro h; rw [gok_r] at h; dsimp only
        refine ih x.1 p0 _ h0 (by omega) h.2.1 ?_
        simp only [List.length_append, List.length_cons, List.length_nil]; omega
    · rw [gok_r]; dsimp only; omega
theorem gCh_ok {t : Int → Int} {n : Int} (ht : ∀ i, n ≤ i → t i = -1) {s : Int → Bool} (hs : s (-1) = false) {nx : Int → LR} (hi : ∀ p, 0 ≤ p → p ≤ n → gok n p (nx p)) {p : Int} (h0 : 0 ≤ p) {x : LR} (hx : gok n p x) : gok n p (gCh t n s nx x) := by
  cases x with
  | inl q => exact hx
  | inr y => rw [gok_r] at hx; exact gLp_ok ht hs hi 240 y.1 p y.2 h0 hx.1 hx.2.1 hx.2.2
theorem gAt_ok {t : Int → Int} {n : Int} (ht : ∀ i, n ≤ i → t i = -1) {inn : Int → LR} (hi : ∀ q, 0 ≤ q → q < n → gok n q (inn q)) : ∀ p, 0 ≤ p → p ≤ n → gok n p (gAt t n inn p) := by
  intro p h0 h1
  have s := sk_b t h1
  exact gok_m (gAtm_ok ht s.2 (hi _ (by omega))) s.1
theorem gTrm_ok {t : Int → Int} {n : Int} (ht : ∀ i, n ≤ i → t i = -1) {inn : Int → LR} (hi : ∀ q, 0 ≤ q → q < n → gok n q (inn q)) : ∀ p, 0 ≤ p → p ≤ n → gok n p (gTrm t n inn p) :=
  fun p h0 h1 => gCh_ok ht rfl (gAt_ok ht hi) h0 (gAt_ok ht hi p h0 h1)
theorem gSum_ok {t : Int → Int} {n : Int} (ht : ∀ i, n ≤ i → t i = -1) {inn : Int → LR} (hi : ∀ q, 0 ≤ q → q < n → gok n q (inn q)) : ∀ p, 0 ≤ p → p ≤ n → gok n p (gSum t n inn p) :=
  fun p h0 h1 => gCh_ok ht rfl (gTrm_ok ht hi) h0 (gTrm_ok ht hi p h0 h1)
theorem gIn_ok {t : Int → Int} {n : Int} (ht : ∀ i, n ≤ i → t i = -1) : ∀ (r : Nat) (q : Int), 0 ≤ q → q < n → gok n q (gIn t n r q) := by
  intro r
  induction r with
  | zero => intro q h0 h1; show q ≤ q ∧ q ≤ n; omega
  | succ r ih =>
    intro q h0 h1
    have := gSum_ok ht ih (q + 1) (by omega) (by omega)
    show gok n q (gS t n r (q + 1))
    rw [gS_e]; exact gok_m this (by omega)
theorem gS_ok {t : Int → Int} {n : Int} (ht : ∀ i, n ≤ i → t i = -1) (r : Nat) : ∀ p, 0 ≤ p → p ≤ n → gok n p (gS t n r p) := by
  rw [gS_e]; exact gSum_ok ht (gIn_ok ht r)
theorem gCmp_ok {t : Int → Int} {n : Int} (ht : ∀ i, n ≤ i → t i = -1) (r : Nat) {p : Int} (h0 : 0 ≤ p) {x : LR} (hx : gok n p x) : gok n p (gCmp t n r x) := by
  cases x with
  | inl q => exact hx
  | inr y =>
    rw [gok_r] at hx
    have s := sk_b t (n := n) (p := y.1) hx.2.1
    unfold gCmp; dsimp only
    split
    · rename_i c
      have hlt := sk_lt ht (q := sk t n y.1) (by omega)
      have h := gS_ok ht r (sk t n y.1 + 1) (by omega) (by omega)
      revert h
      cases gS t n r (sk t n y.1 + 1) with
      | inl q => intro h; rw [gok_l] at h; dsimp only; rw [gok_l]; omega
      | inr z => intro h; rw [gok_r] at h; dsimp only; rw [gok_r]; simp only [List.length_append, List.length_cons, List.length_nil]; omega
    · rw [gok_l]; omega
theorem gPrt_ok {t : Int → Int} {n : Int} (ht : ∀ i, n ≤ i → t i = -1) {u : Int → LR} (hu : ∀ p, 0 ≤ p → p ≤ n → gok n p (u p)) {p : Int} (h0 : 0 ≤ p) {x : LR} (hx : gok n p x) : gok n p (gPrt t n u x) := gCh_ok ht rfl hu h0 hx
theorem gCnd_ok {t : Int → Int} {n : Int} (ht : ∀ i, n ≤ i → t i = -1) {u : Int → LR} (hu : ∀ p, 0 ≤ p → p ≤ n → gok n p (u p)) {p : Int} (h0 : 0 ≤ p) {x : LR} (hx : gok n p x) : gok n p (gCnd t n u x) :=
  gCh_ok ht rfl (fun p a b => gPrt_ok ht hu a (hu p a b)) h0 (gPrt_ok ht hu h0 hx)
theorem gU_ok {t : Int → Int} {n : Int} (ht : ∀ i, n ≤ i → t i = -1) : ∀ (r : Nat) (p : Int), 0 ≤ p → p ≤ n → gok n p (gU t n r p) := by
  intro r
  induction r with
  | zero =>
    intro p h0 h1
    have s := sk_b t h1
    unfold gU
    split
    · rw [gok_l]; omega
    · exact gCmp_ok ht 0 h0 (gS_ok ht 0 p h0 h1)
  | succ r ih =>
    intro p h0 h1
    have s := sk_b t h1
    unfold gU
    split
    · rename_i c
      have hlt := sk_lt ht (q := sk t n p) (by omega)
      have h := ih (sk t n p + 1) (by omega) (by omega)
      revert h
      cases gU t n r (sk t n p + 1) with
      | inl q => intro h; exact gok_m h (by omega)
      | inr x => intro h; rw [gok_r] at h; unfold gBang; dsimp only; rw [gok_r]; simp only [List.length_append, List.length_cons, List.length_nil]; omega
    · split
      · rename_i c0 c
        have hlt := sk_lt ht (q := sk t n p) (by omega)
        have h := gCnd_ok ht ih (p := sk t n p + 1) (by omega) (ih (sk t n p + 1) (by omega) (by omega))
        revert h
        cases gCnd t n (gU t n r) (gU t n r (sk t n p + 1)) with
        | inl q => intro h; exact gok_m h (by omega)
        | inr x =>
          intro h; rw [gok_r] at h; unfold gRnd; dsimp only
          have s2 := sk_b t (n := n) (p := x.1) h.2.1
          split
          · have := sk_lt ht (q := sk t n x.1) (by omega)
            rw [gok_r]; dsimp only; omega
          · rw [gok_l]; omega
      · exact gCmp_ok ht _ h0 (gS_ok ht _ p h0 h1)
