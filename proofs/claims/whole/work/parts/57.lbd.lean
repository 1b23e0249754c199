/-! the machine on a whole clause; clauses -/
def lfin (t : Int → Int) (n : Int) (C : List Int) (x : Int ⊕ (Int × CL)) : Int ⊕ (Int × List Int × Int) := match x with
  | .inl q => .inl q
  | .inr (p, none, g) => if t (sk t n p) = -1 ∨ t (sk t n p) = 59 then .inr (sk t n p, C ++ g ++ [20059], -1) else .inl (sk t n p)
  | .inr (p, some c, g) => if t (sk t n p) = -1 ∨ t (sk t n p) = 59 then .inr (sk t n p, C ++ c ++ [30000] ++ g ++ [20059], (C.length : Int) + c.length) else .inl (sk t n p)
theorem lsg_end {K : LK} {t : Int → Int} {n p : Int} {C W : List Int} {sd wi ska um : Int} (h1 : sMul (t (sk t n p)) = false) (h2 : sAdd (t (sk t n p)) = false) (hs : sd = 3 ∨ (sd = 0 ∧ ¬ isSg (t (sk t n p)))) : lsgn K (t (sk t n p)) (sk t n p) C W sd wi 0 0 ska um = if t (sk t n p) = -1 ∨ t (sk t n p) = 59 then some (.inr (sk t n p, C ++ sC 1 W ++ [20059], ska)) else some (.inl (sk t n p)) := by
  rw [lsgn]
  have har := arF_f h1 h2
  by_cases c4 : t (sk t n p) = -1 ∨ t (sk t n p) = 59
  · rw [if_pos c4, if_pos c4, if_neg (by omega)]
  · rw [if_neg c4, if_neg c4, if_neg har]
    by_cases c3 : t (sk t n p) = 93
    · rw [if_pos c3, if_neg (by omega)]
    · rw [if_neg c3]
      by_cases c : isSg (t (sk t n p))
      · rcases hs with h | h
        · rw [if_pos c, if_neg (by omega)]
        · exact absurd c h.2
      · rw [if_neg c]
        by_cases c6 : t (sk t n p) = 38 ∨ t (sk t n p) = 124
        · rw [if_pos c6, if_neg (by omega)]
        · rw [if_neg c6]
          by_cases c7 : t (sk t n p) = 41
          · rw [if_pos c7, if_neg (by omega)]
          · rw [if_neg c7]
            by_cases c8 : t (sk t n p) = 63
            · rw [if_pos c8, if_neg (by omega)]
            · rw [if_neg c8]
theorem simTl {t : Int → Int} {n : Int} (ht : ∀ i, n ≤ i → t i = -1) {p : Int} {C : List Int} (h0 : (C.length : Int) + 2 ≤ p) (h1 : p ≤ n) (h2 : n ≤ 240) {x : LR} (hx : gok n p x) {um : Int}
    (h : lres t n 1 (fun a q => (eCd t n a q ∧ sAnd (t (sk t n q)) = false) ∧ sOr (t (sk t n q)) = false) x p C [] 0 0 0 0 (-1) um) :
    ∃ j, ∀ f, lrun t n (f + j) 1 p C [] 0 0 0 0 (-1) um = some (lfin t n C (gTl t n x)) := by
  cases x with
  | inl q => exact h
  | inr y =>
    rw [gok_r] at hx
    obtain ⟨j, P, C', sd', um', g1, g2, ⟨⟨g3, g3'⟩, g3''⟩, g4, g5, g6, g7, g8⟩ := h
    have hl := len_eq g2
    have hb := bang_nn P
    rw [List.append_nil] at g6 g8
    have s2 := sk_b t hx.2.1
    have hlok2 : lok n 0 y.1 C' P sd' (0 + bang P) 0 0 (-1) um' := ⟨by omega, by omega, by omega, by omega, by omega, by omega, by omega, by omega, by omega, by omega, by omega, by omega, by omega, by omega, Or.inl rfl, g5⟩
    have hs : sd' = 2 ∨ sd' = 4 := by rcases g3 with h | h; exact Or.inr h; exact Or.inl h.1
    unfold gTl
    dsimp only
    by_cases c : t (sk t n y.1) = 63
    · rw [if_pos c]
      have hlt := sk_lt ht (q := sk t n y.1) (by omega)
      have e4 : sC 1 P = cds P := by have := sC_app (W := []) g1; rw [List.append_nil] at this; rw [this, sC, List.append_nil]
      have e5 : sW 1 P = [] := by have := sW_app (W := []) g1; rw [List.append_nil] at this; rw [this, sW]
      have e6 : sN 1 P = bang P := by have := sN_app (W := []) g1; rw [List.append_nil] at this; rw [this, sN]; omega
      have e1 : ∀ f, lrun t n (f + 1 + j) 1 p C [] 0 0 0 0 (-1) um = lrun t n f 1 (sk t n y.1 + 1) (C ++ y.2 ++ [30000]) [] 3 0 0 0 ((C.length : Int) + y.2.length) 0 := fun f => by
        rw [g8, lrun_0 hlok2, lsgn, c, if_neg (by decide), if_neg (by decide), if_neg (by decide), if_neg (by decide), if_neg (by decide), if_neg (by decide), if_pos rfl, if_pos ⟨rfl, hs, rfl⟩, e4, e5, e6, g2, cds_len, show 0 + bang P - bang P = 0 by omega, show (C'.length : Int) + P.length = C.length + y.2.length by omega]
      have hcx : lcx n 5 (sk t n y.1 + 1) (C ++ y.2 ++ [30000]) [] 0 0 0 ((C.length : Int) + y.2.length) 0 := by
        refine ⟨by omega, by omega, by omega, ?_, ?_, by omega, by omega, by omega, by omega, by omega, by omega, by omega, Or.inl rfl, (by decide : (0 : Int) < 5)⟩
        · simp only [List.length_append, List.length_cons, List.length_nil]; omega
        · simp only [List.length_nil]; omega
      have hS := simS ht 6 (sk t n y.1 + 1) _ [] 3 0 0 0 _ 0 hcx (by omega) (by omega) (by omega) (by omega)
      have hok := gS_ok ht 6 (sk t n y.1 + 1) (by omega) (by omega)
      revert hS hok
      cases gS t n 6 (sk t n y.1 + 1) with
      | inl q =>
        rintro ⟨j2, hS⟩ _
        exact ⟨j2 + 1 + j, fun f => by rw [show f + (j2 + 1 + j) = f + j2 + 1 + j by omega, e1, hS]; rfl⟩
      | inr z =>
        rintro ⟨j2, P2, C2, sd2, um2, k1, k2, ⟨⟨rfl, k3⟩, k3'⟩, k4, k5, k6, k7, k8⟩ hok
        rw [gok_r] at hok
        have hl2 := len_eq k2
        have hb2 := bang_0 (by omega : (4 : Int) ≤ 5) k1
        rw [List.append_nil] at k6 k8
        rw [hb2] at k6 k7 k8
        simp only [List.length_append, List.length_cons, List.length_nil] at hl2
        have hlok3 : lok n 0 z.1 C2 P2 3 (0 + 0) 0 0 ((C.length : Int) + y.2.length) um2 := ⟨by omega, by omega, by omega, by omega, by omega, by omega, by omega, by omega, by omega, by omega, by omega, by omega, by omega, by omega, Or.inl rfl, k5⟩
        have k1' : ∀ a ∈ P2, (1 : Int) ≤ stren a := fun a ha => by have := k1 a ha; omega
        have e7 : sC 1 P2 = cds P2 := by have := sC_app (W := []) k1'; rw [List.append_nil] at this; rw [this, sC, List.append_nil]
        refine ⟨1 + j2 + 1 + j, fun f => ?_⟩
        rw [show f + (1 + j2 + 1 + j) = f + 1 + j2 + 1 + j by omega, e1, k8, lrun_0 hlok3, lsg_end k3 k3' (Or.inl rfl), e7, k2]
        show _ = some (if t (sk t n z.1) = -1 ∨ t (sk t n z.1) = 59 then _ else _)
        split <;> rfl
    · rw [if_neg c]
      refine ⟨1 + j, fun f => ?_⟩
      rw [show f + (1 + j) = f + 1 + j by omega, g8, lrun_0 hlok2]
      exact lsg_stop g3 g3' g3'' (fun _ => rfl) (fun h => absurd h c) (by omega)
theorem simBd {t : Int → Int} {n : Int} (ht : ∀ i, n ≤ i → t i = -1) {p : Int} {C : List Int} (h0 : (C.length : Int) + 2 ≤ p) (h1 : p ≤ n) (h2 : n ≤ 240) :
    ∃ j, ∀ f, lrun t n (f + j) 1 p C [] 0 0 0 0 (-1) 1 = some (lfin t n C (gBd t n p)) := by
  have hcx : ∀ k, 1 ≤ k → lcx n k p C [] 0 0 0 (-1) 1 := fun k hk => ⟨by omega, by omega, by omega, by simp only [List.length_nil]; omega, by simp only [List.length_nil]; omega, by omega, by omega, by omega, by omega, by omega, by omega, by omega, Or.inr rfl, by show (0 : Int) < k; omega⟩
  unfold gBd
  by_cases c : t (sk t n p) = 33 ∨ t (sk t n p) = 40
  · rw [if_pos c]
    have hU := simU ht 6 p C [] 0 0 0 (-1) (hcx 4 (by omega)) (by omega) (Or.inr ⟨rfl, c⟩)
    have hgu := gU_ok ht 6 p (by omega) h1
    exact simTl ht h0 h1 h2 (gCnd_ok ht (gU_ok ht 6) (by omega) hgu) (simCd ht (simU ht 6) (hcx 1 (by omega)) (by omega) hgu hU)
  · rw [if_neg c]
    have hS := simS ht 6 p C [] 0 0 0 0 (-1) 1 (hcx 5 (by omega)) (by omega) (by omega) (by omega) (fun _ => by omega)
    have hok := gS_ok ht 6 p (by omega) h1
    revert hS hok
    cases gS t n 6 p with
    | inl q => exact fun h _ => h
    | inr x =>
      intro hS hok
      dsimp only
      by_cases c2 : isSg (t (sk t n x.1))
      · rw [if_pos c2]
        have hC := simCmp ht (r := 6) (hcx 4 (by omega)) (by omega) hok (Or.inr ⟨rfl, fun y hy => by cases hy; exact c2⟩) hS
        have hgc := gCmp_ok ht 6 (by omega) hok
        exact simTl ht h0 h1 h2 (gCnd_ok ht (gU_ok ht 6) (by omega) hgc) (simCd ht (simU ht 6) (hcx 1 (by omega)) (by omega) hgc hC)
      · rw [if_neg c2]
        rw [gok_r] at hok
        obtain ⟨j, P, C', sd', um', g1, g2, ⟨⟨rfl, g3⟩, g3'⟩, g4, g5, g6, g7, g8⟩ := hS
        have hl := len_eq g2
        have hb := bang_0 (by omega : (4 : Int) ≤ 5) g1
        rw [List.append_nil] at g6 g8
        rw [hb] at g6 g7 g8
        have hlok2 : lok n 0 x.1 C' P 0 (0 + 0) 0 0 (-1) um' := ⟨by omega, by omega, by omega, by omega, by omega, by omega, by omega, by omega, by omega, by omega, by omega, by omega, by omega, by omega, Or.inl rfl, g5⟩
        have k1' : ∀ a ∈ P, (1 : Int) ≤ stren a := fun a ha => by have := g1 a ha; omega
        have e7 : sC 1 P = cds P := by have := sC_app (W := []) k1'; rw [List.append_nil] at this; rw [this, sC, List.append_nil]
        refine ⟨1 + j, fun f => ?_⟩
        rw [show f + (1 + j) = f + 1 + j by omega, g8, lrun_0 hlok2, lsg_end g3 g3' (Or.inr ⟨rfl, c2⟩), e7, g2]
        show _ = some (if t (sk t n x.1) = -1 ∨ t (sk t n x.1) = 59 then _ else _)
        split <;> rfl
/-- steps enough -/
theorem ite_mono {c : Prop} [Decidable c] {a b a' b' : LRR} {X : Int ⊕ (Int × List Int × Int)} (h1 : c → a = some X → a' = some X) (h2 : ¬ c → b = some X → b' = some X) : (if c then a else b) = some X → (if c then a' else b') = some X := by
  by_cases h : c
  · rw [if_pos h, if_pos h]; exact h1 h
  · rw [if_neg h, if_neg h]; exact h2 h
theorem lsgn_mono {K K' : LK} {X : Int ⊕ (Int × List Int × Int)} {q : Int} (hK : ∀ (wa p' : Int) (C W : List Int) (sd wi br ro ska um : Int), q + 1 ≤ p' → K wa p' C W sd wi br ro ska um = some X → K' wa p' C W sd wi br ro ska um = some X) (c : Int) (C W : List Int) (sd wi br ro ska um : Int) :
    lsgn K c q C W sd wi br ro ska um = some X → lsgn K' c q C W sd wi br ro ska um = some X := by
  have hq : q + 1 ≤ q + 1 := Int.le_refl _
  unfold lsgn ljn
  generalize sW 1 W = w1
  repeat' refine ite_mono (fun _ => ?_) (fun _ => ?_)
  all_goals first
    | exact id
    | exact hK _ _ _ _ _ _ _ _ _ _ hq
    | (cases w1 with
       | nil => exact id
       | cons a w => exact hK _ _ _ _ _ _ _ _ _ _ hq)
theorem latm_mono {t : Int → Int} {K K' : LK} {X : Int ⊕ (Int × List Int × Int)} {q : Int} (hK : ∀ (wa p' : Int) (C W : List Int) (sd wi br ro ska um : Int), q + 1 ≤ p' → K wa p' C W sd wi br ro ska um = some X → K' wa p' C W sd wi br ro ska um = some X) (C W : List Int) (sd wi br ro ska um : Int) :
    latm t K q C W sd wi br ro ska um = some X → latm t K' q C W sd wi br ro ska um = some X := by
  have hq : q + 1 ≤ q + 1 := Int.le_refl _
  have d := ndig_bd t 3 (q + 1)
  have e4 : isdg (t q) → q + 1 ≤ q + ndig t q 4 := fun hd => by rw [ndig, if_pos hd]; omega
  unfold latm
  refine ite_mono (fun c => ite_mono (fun _ => id) (fun _ => hK _ _ _ _ _ _ _ _ _ _ (e4 c))) (fun _ => ?_)
  repeat' refine ite_mono (fun _ => ?_) (fun _ => ?_)
  all_goals first
    | exact id
    | exact hK _ _ _ _ _ _ _ _ _ _ hq
theorem lrun_fuel {t : Int → Int} {n : Int} : ∀ (m : Nat) (wa p : Int) (C W : List Int) (sd wi br ro ska um : Int) (X : Int ⊕ (Int × List Int × Int)), lrun t n m wa p C W sd wi br ro ska um = some X → ∀ f : Nat, n - p < f → lrun t n f wa p C W sd wi br ro ska um = some X := by
  intro m
  induction m with
  | zero => intro wa p C W sd wi br ro ska um X h; cases h
  | succ m ih =>
    intro wa p C W sd wi br ro ska um X h f hf
    rw [lrun] at h
    by_cases hl : lok n wa p C W sd wi br ro ska um
    · rw [if_pos hl] at h
      have s1 := sk_b t hl.2.1
      obtain ⟨f, rfl⟩ : ∃ g, f = g + 1 := ⟨f - 1, by have := hl.2.1; omega⟩
      rw [lrun, if_pos hl]
      have step : ∀ (wa p' : Int) (C W : List Int) (sd wi br ro ska um : Int), sk t n p + 1 ≤ p' → lrun t n m wa p' C W sd wi br ro ska um = some X → lrun t n f wa p' C W sd wi br ro ska um = some X := by
        intro wa p' C W sd wi br ro ska um hp h
        exact ih _ _ _ _ _ _ _ _ _ _ _ h f (by omega)
      by_cases c : wa = 0
      · rw [if_pos c] at h ⊢
        exact lsgn_mono step _ _ _ _ _ _ _ _ _ h
      · rw [if_neg c] at h ⊢
        exact latm_mono step _ _ _ _ _ _ _ _ h
    · rw [if_neg hl] at h; cases h
theorem lrun_bd {t : Int → Int} {n : Int} (ht : ∀ i, n ≤ i → t i = -1) {p : Int} {C : List Int} (h0 : (C.length : Int) + 2 ≤ p) (h1 : p ≤ n) (h2 : n ≤ 240) : lrun t n 241 1 p C [] 0 0 0 0 (-1) 1 = some (lfin t n C (gBd t n p)) := by
  obtain ⟨j, h⟩ := simBd ht h0 h1 h2
  exact lrun_fuel _ _ _ _ _ _ _ _ _ _ _ _ (h 0) 241 (by omega)
/-! codes of clauses -/
def clc (m : Int) (k : CL) : List Int := match k with
  | (none, g) => g ++ [20059]
  | (some c, g) => c ++ [30000 + (m + c.length + g.length + 2)] ++ g ++ [20059]
def kcd : List CL → List Int → List Int
  | [], C => C
  | k :: K, C => kcd K (C ++ clc C.length k)
/-- the reader's codes, the skip mended -/
def lpat (C : List Int) (ska : Int) : List Int := if 0 ≤ ska then C.set ska.toNat (30000 + C.length) else C
theorem lpat_n (C : List Int) (g : List Int) : lpat (C ++ g ++ [20059]) (-1) = C ++ clc C.length (none, g) := by
  unfold lpat clc; rw [if_neg (by decide), List.append_assoc]
theorem lpat_s (C c g : List Int) : lpat (C ++ c ++ [30000] ++ g ++ [20059]) ((C.length : Int) + c.length) = C ++ clc C.length (some c, g) := by
  unfold lpat clc
  rw [if_pos (by omega), show ((C.length : Int) + c.length).toNat = (C ++ c).length by rw [List.length_append]; omega]
  have e : ∀ (x y : Int) (A B : List Int), (A ++ x :: B).set A.length y = A ++ y :: B := by
    intro x y A B
    induction A with
    | nil => rfl
    | cons a A ih => rw [List.cons_append, List.length_cons, List.set_cons_succ, ih]; rfl
  have e2 : C ++ c ++ [30000] ++ g ++ [20059] = (C ++ c) ++ 30000 :: (g ++ [20059]) := by simp
  rw [e2, e]
  simp only [List.append_assoc, List.length_append, List.length_cons, List.length_nil, List.cons_append, List.nil_append]
  congr 4
  omega
/-- how the class reads the clauses of a LAW -/
def lcl (t : Int → Int) (n : Int) : Nat → Int → List Int → Int ⊕ List Int
  | 0, p, _ => .inl p
  | f + 1, p, C =>
    if t (sk t n p) ≠ 121 then .inl (sk t n p)
    else if t (sk t n (sk t n p + 1)) ≠ 58 then .inl (sk t n (sk t n p + 1))
    else match lfin t n C (gBd t n (sk t n (sk t n p + 1) + 1)) with
      | .inl q => .inl q
      | .inr (q, C', ska) => if t q = -1 then .inr (lpat C' ska) else lcl t n f (q + 1) (lpat C' ska)
theorem lcl_e (t : Int → Int) (n : Int) : ∀ (f : Nat) (p : Int) (C : List Int), lcl t n f p C = match gLw t n f p with | .inl q => .inl q | .inr K => .inr (kcd K C) := by
  intro f
  induction f with
  | zero => intro p C; rfl
  | succ f ih =>
    intro p C
    unfold lcl gLw gCl
    by_cases c1 : t (sk t n p) ≠ 121
    · rw [if_pos c1, if_pos c1]
    rw [if_neg c1, if_neg c1]
    by_cases c2 : t (sk t n (sk t n p + 1)) ≠ 58
    · rw [if_pos c2, if_pos c2]
    rw [if_neg c2, if_neg c2]
    cases gBd t n (sk t n (sk t n p + 1) + 1) with
    | inl q => rfl
    | inr x =>
      obtain ⟨p', c, g⟩ := x
      have key : ∀ ska C2, lpat C2 ska = C ++ clc C.length (c, g) → (match (if t (sk t n p') = -1 ∨ t (sk t n p') = 59 then .inr (sk t n p', C2, ska) else .inl (sk t n p') : Int ⊕ (Int × List Int × Int)) with
          | .inl q => .inl q
          | .inr (q, C', ska) => if t q = -1 then .inr (lpat C' ska) else lcl t n f (q + 1) (lpat C' ska) : Int ⊕ List Int) =
          match (if t (sk t n p') = 59 then (match gLw t n f (sk t n p' + 1) with | .inl q => .inl q | .inr K => .inr ((c, g) :: K)) else if t (sk t n p') = -1 then .inr [(c, g)] else .inl (sk t n p') : Int ⊕ List CL) with
          | .inl q => .inl q
          | .inr K => .inr (kcd K C) := by
        intro ska C2 hp
        by_cases d1 : t (sk t n p') = 59
        · rw [if_pos (Or.inr d1), if_pos d1]
          dsimp only
          rw [if_neg (by omega), hp, ih]
          cases gLw t n f (sk t n p' + 1) <;> rfl
        · rw [if_neg d1]
          by_cases d2 : t (sk t n p') = -1
          · rw [if_pos (Or.inl d2), if_pos d2]
            dsimp only
            rw [if_pos d2, hp]; rfl
          · rw [if_neg (by omega), if_neg d2]
      cases c with
      | none => exact key (-1) _ (lpat_n C g)
      | some c => exact key _ _ (lpat_s C c g)
