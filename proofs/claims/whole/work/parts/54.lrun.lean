/-! the class's reader of LAWS as a machine over lists -/
def stren (x : Int) : Int := if x = 33 then 3 else if x = 38 then 2 else if x = 42 then 6 else if x = 43 then 5 else if x = 45 then 5 else if x = 47 then 6 else if x = 60 then 4 else if x = 61 then 4 else if x = 62 then 4 else if x = 124 then 1 else 0
theorem stren_b (x : Int) : 0 ≤ stren x ∧ stren x ≤ 6 := by
  unfold stren; repeat' split
  all_goals omega
def sW (l : Int) : List Int → List Int
  | [] => []
  | a :: w => if l ≤ stren a then sW l w else a :: w
def sC (l : Int) : List Int → List Int
  | [] => []
  | a :: w => if l ≤ stren a then (20000 + a) :: sC l w else []
def sN (l : Int) : List Int → Int
  | [] => 0
  | a :: w => if l ≤ stren a then (if a = 33 then 1 else 0) + sN l w else 0
def bang : List Int → Int
  | [] => 0
  | a :: w => (if a = 33 then 1 else 0) + bang w
def cds (w : List Int) : List Int := w.map (fun a => 20000 + a)
def hdS : List Int → Int
  | [] => 0
  | a :: _ => stren a
theorem sW_app {l : Int} {W : List Int} : ∀ {P : List Int}, (∀ a ∈ P, l ≤ stren a) → sW l (P ++ W) = sW l W := by
  intro P
  induction P with
  | nil => intro _; rfl
  | cons a P ih =>
    intro h
    rw [List.cons_append, sW, if_pos (h a List.mem_cons_self)]
    exact ih (fun b hb => h b (List.mem_cons_of_mem _ hb))
theorem sC_app {l : Int} {W : List Int} : ∀ {P : List Int}, (∀ a ∈ P, l ≤ stren a) → sC l (P ++ W) = cds P ++ sC l W := by
  intro P
  induction P with
  | nil => intro _; rfl
  | cons a P ih =>
    intro h
    rw [List.cons_append, sC, if_pos (h a List.mem_cons_self), ih (fun b hb => h b (List.mem_cons_of_mem _ hb))]
    rfl
theorem sN_app {l : Int} {W : List Int} : ∀ {P : List Int}, (∀ a ∈ P, l ≤ stren a) → sN l (P ++ W) = bang P + sN l W := by
  intro P
  induction P with
  | nil => intro _; rw [List.nil_append, bang]; omega
  | cons a P ih =>
    intro h
    rw [List.cons_append, sN, if_pos (h a List.mem_cons_self), ih (fun b hb => h b (List.mem_cons_of_mem _ hb)), bang]
    omega
theorem sW_st {l : Int} {W : List Int} (h : hdS W < l) : sW l W = W ∧ sC l W = [] ∧ sN l W = 0 := by
  cases W with
  | nil => exact ⟨rfl, rfl, rfl⟩
  | cons a w =>
    have h9 : ¬ l ≤ stren a := by have h : stren a < l := h; omega
    rw [sW, sC, sN, if_neg h9, if_neg h9, if_neg h9]; exact ⟨rfl, rfl, rfl⟩
theorem bang_app (a b : List Int) : bang (a ++ b) = bang a + bang b := by
  induction a with
  | nil => rw [List.nil_append, bang]; omega
  | cons x a ih => rw [List.cons_append, bang, bang, ih]; omega
theorem bang_0 {k : Int} (hk : 4 ≤ k) : ∀ {P : List Int}, (∀ a ∈ P, k ≤ stren a) → bang P = 0 := by
  intro P
  induction P with
  | nil => intro _; rfl
  | cons a P ih =>
    intro h
    have h1 := h a List.mem_cons_self
    rw [bang, ih (fun b hb => h b (List.mem_cons_of_mem _ hb)), if_neg (by rintro rfl; have : stren 33 = 3 := rfl; omega)]
    rfl
theorem bang_nn (P : List Int) : 0 ≤ bang P := by
  induction P with
  | nil => exact Int.le_refl _
  | cons a P ih => rw [bang]; split <;> omega
theorem cds_app (a b : List Int) : cds (a ++ b) = cds a ++ cds b := List.map_append
theorem cds_len (a : List Int) : (cds a).length = a.length := List.length_map ..
abbrev LRR : Type := Option (Int ⊕ (Int × List Int × Int))
abbrev lok (n wa p : Int) (C W : List Int) (sd wi br ro ska um : Int) : Prop := 0 ≤ p ∧ p ≤ n ∧ (C.length : Int) + W.length + 2 ≤ p ∧ (W.length : Int) ≤ 60 ∧ 0 ≤ wi ∧ wi ≤ 6 ∧ 0 ≤ br ∧ br ≤ 6 ∧ 0 ≤ ro ∧ ro ≤ 6 ∧ 0 ≤ sd ∧ sd ≤ 4 ∧ -1 ≤ ska ∧ ska ≤ 240 ∧ (wa = 0 ∨ wa = 1) ∧ (um = 0 ∨ um = 1)
abbrev LK : Type := Int → Int → List Int → List Int → Int → Int → Int → Int → Int → Int → LRR
def ljn (K : LK) (q c : Int) (C W : List Int) (sd wi br ro ska um : Int) : LRR := K 1 (q + 1) (C ++ sC (stren c) W) (c :: sW (stren c) W) sd (wi - sN (stren c) W) br ro ska um
def lsgn (K : LK) (c q : Int) (C W : List Int) (sd wi br ro ska um : Int) : LRR :=
  if c = -1 ∨ c = 59 then (if 0 < br ∨ (sd ≠ 0 ∧ sd ≠ 3) then some (.inl q) else some (.inr (q, C ++ sC 1 W ++ [20059], ska)))
  else if c = 43 ∨ c = 45 ∨ c = 42 ∨ c = 47 then (if sd = 4 then some (.inl q) else ljn K q c C W sd wi br ro ska 0)
  else if c = 93 then (if 0 < br then (match sW 1 W with | [] => none | _ :: w => K 0 (q + 1) (C ++ sC 1 W) w sd (wi - sN 1 W - 1) (br - 1) ro ska um) else some (.inl q))
  else if isSg c then (if br = 0 ∧ (sd = 0 ∨ sd = 1) then ljn K q c C W 2 wi br ro ska 0 else some (.inl q))
  else if c = 38 ∨ c = 124 then (if br = 0 ∧ (sd = 2 ∨ sd = 4) then ljn K q c C W 1 wi br ro ska 1 else some (.inl q))
  else if c = 41 then (if br = 0 ∧ (sd = 2 ∨ sd = 4) ∧ 0 < ro then (match sW 1 W with | [] => none | _ :: w => K 0 (q + 1) (C ++ sC 1 W) w 4 (wi - sN 1 W - 1) br (ro - 1) ska um) else some (.inl q))
  else if c = 63 then (if br = 0 ∧ (sd = 2 ∨ sd = 4) ∧ ro = 0 then K 1 (q + 1) (C ++ sC 1 W ++ [30000]) (sW 1 W) 3 (wi - sN 1 W) br ro (C.length + (sC 1 W).length) 0 else some (.inl q))
  else some (.inl q)
def latm (t : Int → Int) (K : LK) (q : Int) (C W : List Int) (sd wi br ro ska um : Int) : LRR :=
  if isdg (t q) then (if isdg (t (q + ndig t q 4)) then some (.inl (q + ndig t q 4)) else K 0 (q + ndig t q 4) (C ++ [nval t q 0 4]) W sd wi br ro ska um)
  else if 0 ≤ lix (t q) then K 0 (q + 1) (C ++ [10000 + lix (t q)]) W sd wi br ro ska um
  else if wi < 6 ∧ t q = 91 then K 1 (q + 1) C (91 :: W) sd (wi + 1) (br + 1) ro ska 0
  else if wi < 6 ∧ um = 1 ∧ (t q = 33 ∨ t q = 40) then K 1 (q + 1) C (t q :: W) 1 (wi + 1) br (ro + if t q = 40 then 1 else 0) ska um
  else some (.inl q)
def lrun (t : Int → Int) (n : Int) : Nat → LK
  | 0, _, _, _, _, _, _, _, _, _, _ => none
  | f + 1, wa, p, C, W, sd, wi, br, ro, ska, um =>
    if lok n wa p C W sd wi br ro ska um then
      (if wa = 0 then lsgn (lrun t n f) (t (sk t n p)) (sk t n p) C W sd wi br ro ska um else latm t (lrun t n f) (sk t n p) C W sd wi br ro ska um)
    else none
theorem lrun_0 {t : Int → Int} {n : Int} {f : Nat} {p : Int} {C W : List Int} {sd wi br ro ska um : Int} (h : lok n 0 p C W sd wi br ro ska um) : lrun t n (f + 1) 0 p C W sd wi br ro ska um = lsgn (lrun t n f) (t (sk t n p)) (sk t n p) C W sd wi br ro ska um := by
  rw [lrun, if_pos h, if_pos rfl]
theorem lrun_1 {t : Int → Int} {n : Int} {f : Nat} {p : Int} {C W : List Int} {sd wi br ro ska um : Int} (h : lok n 1 p C W sd wi br ro ska um) : lrun t n (f + 1) 1 p C W sd wi br ro ska um = latm t (lrun t n f) (sk t n p) C W sd wi br ro ska um := by
  rw [lrun, if_pos h, if_neg (by decide)]
theorem lrun_sk {t : Int → Int} {n : Int} {f : Nat} {p : Int} {C W : List Int} {sd wi br ro ska um : Int} (h : lok n 0 p C W sd wi br ro ska um) : lrun t n f 0 p C W sd wi br ro ska um = lrun t n f 0 (sk t n p) C W sd wi br ro ska um := by
  have s := sk_b t h.2.1
  cases f with
  | zero => rfl
  | succ f => rw [lrun_0 h, lrun_0 (by omega), sk_sk t h.2.1]
/-- what the machine does from a place on, as the grammar says -/
def lres (t : Int → Int) (n k : Int) (E : Int → Int → Prop) (x : LR) (p : Int) (C W : List Int) (sd wi br ro ska um : Int) : Prop := match x with
  | .inl q => ∃ j, ∀ f, lrun t n (f + j) 1 p C W sd wi br ro ska um = some (.inl q)
  | .inr y => ∃ (j : Nat) (P C' : List Int) (sd' um' : Int), (∀ a ∈ P, k ≤ stren a) ∧ C' ++ cds P = C ++ y.2 ∧ E sd' y.1 ∧ (0 ≤ sd' ∧ sd' ≤ 4) ∧ (um' = 0 ∨ um' = 1) ∧ ((P ++ W).length : Int) ≤ 8 * (wi + bang P) + 7 ∧ wi + bang P ≤ 6 ∧
      ∀ f, lrun t n (f + j) 1 p C W sd wi br ro ska um = lrun t n f 0 y.1 C' (P ++ W) sd' (wi + bang P) br ro ska um'
abbrev lcx (n k p : Int) (C W : List Int) (wi br ro ska um : Int) : Prop := 0 ≤ p ∧ p ≤ n ∧ n ≤ 240 ∧ (C.length : Int) + W.length + 2 ≤ p ∧ (W.length : Int) ≤ 8 * wi + k ∧ 0 ≤ wi ∧ wi ≤ 6 ∧ 0 ≤ br ∧ 0 ≤ ro ∧ br + ro ≤ wi ∧ -1 ≤ ska ∧ ska ≤ 240 ∧ (um = 0 ∨ um = 1) ∧ hdS W < k
theorem lres_m {t : Int → Int} {n k k' : Int} {E E' : Int → Int → Prop} {x : LR} {p : Int} {C W : List Int} {sd wi br ro ska um : Int} (h : lres t n k E x p C W sd wi br ro ska um) (hk : k' ≤ k) (hE : ∀ a b, E a b → E' a b) : lres t n k' E' x p C W sd wi br ro ska um := by
  cases x with
  | inl q => exact h
  | inr y =>
    obtain ⟨j, P, C', sd', um', h1, h2, h3, h4⟩ := h
    exact ⟨j, P, C', sd', um', fun a ha => Int.le_trans hk (h1 a ha), h2, hE _ _ h3, h4⟩
theorem len_eq {C' P C g : List Int} (h : C' ++ cds P = C ++ g) : (C'.length : Int) + P.length = C.length + g.length := by
  have := congrArg List.length h
  rw [List.length_append, List.length_append, cds_len] at this
  omega
/-- rows of parts with signs of one strength between -/
theorem simCh {t : Int → Int} {n : Int} (ht : ∀ i, n ≤ i → t i = -1) {s : Int → Bool} {nx : Int → LR} {k : Int} (hk : 1 ≤ k ∧ k ≤ 6) (hs : ∀ c, s c = true → stren c = k ∧ c ≠ 33 ∧ c ≠ -1)
    {E : Int → Int → Prop} {sd1 um1 wi br ro ska : Int} (hum : um1 = 0 ∨ um1 = 1) (hEs : ∀ a p, p ≤ n → E a p → E a (sk t n p))
    (hj : ∀ f p C W sd wi um, lok n 0 p C W sd wi br ro ska um → E sd p → s (t (sk t n p)) = true → lrun t n (f + 1) 0 p C W sd wi br ro ska um = ljn (lrun t n f) (sk t n p) (t (sk t n p)) C W sd1 wi br ro ska um1)
    (hnx : ∀ p C W, lcx n (k + 1) p C W wi br ro ska um1 → lres t n (k + 1) E (nx p) p C W sd1 wi br ro ska um1) (hok : ∀ p, 0 ≤ p → p ≤ n → gok n p (nx p))
    {p : Int} {C W : List Int} {sd um : Int} (hc : lcx n k p C W wi br ro ska um) {x : LR} (hx : gok n p x) (h : lres t n k E x p C W sd wi br ro ska um) :
    lres t n k (fun a q => E a q ∧ s (t (sk t n q)) = false) (gCh t n s nx x) p C W sd wi br ro ska um := by
  cases x with
  | inl q => exact h
  | inr y =>
    show lres t n k _ (gLp t n s nx 240 y.1 y.2) p C W sd wi br ro ska um
    have key : ∀ (m : Nat) (y : Int × List Int), n - y.1 ≤ m → gok n p (.inr y) → lres t n k E (.inr y) p C W sd wi br ro ska um → lres t n k (fun a q => E a q ∧ s (t (sk t n q)) = false) (gLp t n s nx m y.1 y.2) p C W sd wi br ro ska um := by
      intro m
      induction m with
      | zero =>
        intro y hm hg h
        obtain ⟨j, P, C', sd', um', h1, h2, h3, h4, h5, h6, h7, h8⟩ := h
        rw [gok_r] at hg
        have s1 := sk_b t hg.2.1
        have hl := len_eq h2
        rw [List.length_append] at h6
        have hsf : s (t (sk t n (sk t n y.1))) = false := by
          cases e : s (t (sk t n (sk t n y.1))) with
          | false => rfl
          | true =>
            have s2 := sk_b t s1.2
            have := (hs _ e).2.2
            exact absurd (ht (sk t n (sk t n y.1)) (by omega)) this
        unfold gLp
        refine ⟨j, P, C', sd', um', h1, h2, ⟨hEs _ _ hg.2.1 h3, hsf⟩, h4, h5, by rw [List.length_append]; exact h6, h7, fun f => ?_⟩
        rw [h8]
        have := bang_nn P
        exact lrun_sk ⟨by omega, by omega, by rw [List.length_append]; omega, by rw [List.length_append]; omega, by omega, by omega, by omega, by omega, by omega, by omega, by omega, by omega, by omega, by omega, Or.inl rfl, h5⟩
      | succ m ih =>
        intro y hm hg h
        obtain ⟨j, P, C', sd', um', h1, h2, h3, h4, h5, h6, h7, h8⟩ := h
        have hg0 := hg
        rw [gok_r] at hg
        have s1 := sk_b t hg.2.1
        have hl := len_eq h2
        have h6' := h6
        rw [List.length_append] at h6
        have hb := bang_nn P
        have hlok : lok n 0 y.1 C' (P ++ W) sd' (wi + bang P) br ro ska um' := ⟨by omega, by omega, by rw [List.length_append]; omega, by rw [List.length_append]; omega, by omega, by omega, by omega, by omega, by omega, by omega, by omega, by omega, by omega, by omega, Or.inl rfl, h5⟩
        unfold gLp
        by_cases c : s (t (sk t n y.1)) = true
        · rw [if_pos c]
          have hlt : sk t n y.1 < n := sk_lt ht (hs _ c).2.2
          have hst := hs _ c
          have hw := sW_st (l := k) (W := W) hc.2.2.2.2.2.2.2.2.2.2.2.2.2
          have e1 : ∀ f, lrun t n (f + 1 + j) 1 p C W sd wi br ro ska um = lrun t n f 1 (sk t n y.1 + 1) (C ++ y.2) (t (sk t n y.1) :: W) sd1 wi br ro ska um1 := fun f => by
            rw [h8, hj f _ _ _ _ _ _ hlok h3 c]
            unfold ljn
            rw [hst.1, sC_app h1, sW_app h1, sN_app h1, hw.1, hw.2.1, hw.2.2, List.append_nil, h2, show wi + bang P - (bang P + 0) = wi by omega]
          have hcx : lcx n (k + 1) (sk t n y.1 + 1) (C ++ y.2) (t (sk t n y.1) :: W) wi br ro ska um1 := by
            refine ⟨by omega, by omega, by omega, ?_, ?_, by omega, by omega, by omega, by omega, by omega, by omega, by omega, hum, ?_⟩
            · rw [List.length_append, List.length_cons]; omega
            · rw [List.length_cons]; omega
            · show stren (t (sk t n y.1)) < k + 1; omega
          have hi := hnx _ _ _ hcx
          have ho := hok (sk t n y.1 + 1) (by omega) (by omega)
          revert hi ho
          cases nx (sk t n y.1 + 1) with
          | inl q =>
            intro hi _
            obtain ⟨j2, hi⟩ := hi
            exact ⟨j2 + 1 + j, fun f => by rw [show f + (j2 + 1 + j) = f + j2 + 1 + j by omega, e1, hi]⟩
          | inr z =>
            intro hi ho
            obtain ⟨j2, P2, C2, sd2, um2, g1, g2, g3, g4, g5, g6, g7, g8⟩ := hi
            rw [gok_r] at ho
            refine ih (z.1, y.2 ++ z.2 ++ [20000 + t (sk t n y.1)]) (by dsimp only; omega) ?_ ?_
            · rw [gok_r]; simp only [List.length_append, List.length_cons, List.length_nil]; omega
            · have e2 : P2 ++ [t (sk t n y.1)] ++ W = P2 ++ t (sk t n y.1) :: W := by rw [List.append_assoc]; rfl
              have e3 : bang (P2 ++ [t (sk t n y.1)]) = bang P2 := by
                rw [bang_app, bang, bang, if_neg hst.2.1]; omega
              refine ⟨j2 + 1 + j, P2 ++ [t (sk t n y.1)], C2, sd2, um2, ?_, ?_, g3, g4, g5, ?_, ?_, ?_⟩
              · intro a ha
                rcases List.mem_append.mp ha with ha | ha
                · have := g1 a ha; omega
                · rw [List.mem_singleton.mp ha, hst.1]; exact Int.le_refl _
              · rw [cds_app, ← List.append_assoc, g2]
                simp only [List.append_assoc]
                rfl
              · rw [e2, e3]; exact g6
              · rw [e3]; exact g7
              · intro f
                rw [show f + (j2 + 1 + j) = f + j2 + 1 + j by omega, e1, g8, e2, e3]
        · rw [if_neg c]
          have hsf : s (t (sk t n (sk t n y.1))) = false := by
            rw [sk_sk t hg.2.1]
            cases e : s (t (sk t n y.1)) with
            | false => rfl
            | true => exact absurd e c
          refine ⟨j, P, C', sd', um', h1, h2, ⟨hEs _ _ hg.2.1 h3, hsf⟩, h4, h5, h6', h7, fun f => ?_⟩
          rw [h8]
          exact lrun_sk hlok
    refine key 240 y ?_ hx h
    have := hc.2.2.1
    rw [gok_r] at hx
    omega
