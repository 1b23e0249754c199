/-! the machine does as the grammar says: CONDITIONS -/
abbrev eCd (t : Int → Int) (n a q : Int) : Prop := a = 4 ∨ (a = 2 ∧ sMul (t (sk t n q)) = false ∧ sAdd (t (sk t n q)) = false)
theorem eCd_sk {t : Int → Int} {n a q : Int} (h : q ≤ n) (he : eCd t n a q) : eCd t n a (sk t n q) := by
  rcases he with h1 | ⟨h1, h2, h3⟩
  · exact Or.inl h1
  · exact Or.inr ⟨h1, by rw [sk_sk t h]; exact h2, by rw [sk_sk t h]; exact h3⟩
theorem simCmp {t : Int → Int} {n : Int} (ht : ∀ i, n ≤ i → t i = -1) {r : Nat} {p : Int} {C W : List Int} {sd wi ro ska um : Int} (hc : lcx n 4 p C W wi 0 ro ska um) (hw : wi = 6 - r) {x : LR} (hx : gok n p x)
    (hsd : sd = 1 ∨ (sd = 0 ∧ ∀ y, x = .inr y → isSg (t (sk t n y.1))))
    (h : lres t n 5 (fun a q => (a = sd ∧ sMul (t (sk t n q)) = false) ∧ sAdd (t (sk t n q)) = false) x p C W sd wi 0 ro ska um) :
    lres t n 3 (eCd t n) (gCmp t n r x) p C W sd wi 0 ro ska um := by
  cases x with
  | inl q => exact h
  | inr y =>
    obtain ⟨a1, a2, a3, a4, a5, a6, a7, a8, a9, a10, a11, a12, a13, a14⟩ := hc
    rw [gok_r] at hx
    obtain ⟨j, P, C', sd', um', g1, g2, ⟨⟨rfl, g3⟩, g3'⟩, g4, g5, g6, g7, g8⟩ := h
    have hb := bang_0 (by omega : (4 : Int) ≤ 5) g1
    have hl := len_eq g2
    rw [hb] at g6 g7 g8
    rw [List.length_append] at g6
    have s2 := sk_b t hx.2.1
    have hlok2 : lok n 0 y.1 C' (P ++ W) sd' (wi + 0) 0 ro ska um' := ⟨by omega, by omega, by rw [List.length_append]; omega, by rw [List.length_append]; omega, by omega, by omega, by omega, by omega, by omega, by omega, by omega, by omega, by omega, by omega, Or.inl rfl, g5⟩
    have har := arF_f g3 g3'
    have hsd2 : sd' = 0 ∨ sd' = 1 := by rcases hsd with h | h; exact Or.inr h; exact Or.inl h.1
    unfold gCmp
    dsimp only
    by_cases c : isSg (t (sk t n y.1))
    · rw [if_pos c]
      have hlt := sk_lt ht (q := sk t n y.1) (by omega)
      have hst : stren (t (sk t n y.1)) = 4 := by rcases c with c | c | c <;> rw [c] <;> rfl
      have hne : t (sk t n y.1) ≠ 33 := by omega
      have h4 : ∀ a ∈ P, (4 : Int) ≤ stren a := fun a ha => by have := g1 a ha; omega
      have hw1 := sW_st (l := 4) (W := W) (by omega)
      have e1 : ∀ f, lrun t n (f + 1 + j) 1 p C W sd' wi 0 ro ska um = lrun t n f 1 (sk t n y.1 + 1) (C ++ y.2) (t (sk t n y.1) :: W) 2 wi 0 ro ska 0 := fun f => by
        rw [g8, lrun_0 hlok2, lsgn, if_neg (by omega), if_neg har, if_neg (by omega), if_pos c, if_pos ⟨rfl, hsd2⟩]
        unfold ljn
        rw [hst, sC_app h4, sW_app h4, sN_app h4, hw1.1, hw1.2.1, hw1.2.2, List.append_nil, g2, hb, show wi + 0 - (0 + 0) = wi by omega]
      have hcx : lcx n 5 (sk t n y.1 + 1) (C ++ y.2) (t (sk t n y.1) :: W) wi 0 ro ska 0 := by
        refine ⟨by omega, by omega, by omega, ?_, ?_, by omega, by omega, by omega, by omega, by omega, by omega, by omega, Or.inl rfl, ?_⟩
        · rw [List.length_append, List.length_cons]; omega
        · rw [List.length_cons]; omega
        · show stren (t (sk t n y.1)) < 5; omega
      have hS := simS ht r (sk t n y.1 + 1) (C ++ y.2) (t (sk t n y.1) :: W) 2 wi 0 ro ska 0 hcx hw (by omega) (by omega) (by omega)
      have hok := gS_ok ht r (sk t n y.1 + 1) (by omega) (by omega)
      revert hS hok
      cases gS t n r (sk t n y.1 + 1) with
      | inl q =>
        intro hS _
        obtain ⟨j2, hS⟩ := hS
        exact ⟨j2 + 1 + j, fun f => by rw [show f + (j2 + 1 + j) = f + j2 + 1 + j by omega, e1, hS]⟩
      | inr z =>
        intro hS hok
        obtain ⟨j2, P2, C2, sd2, um2, k1, k2, ⟨⟨rfl, k3⟩, k3'⟩, k4, k5, k6, k7, k8⟩ := hS
        have hb2 := bang_0 (by omega : (4 : Int) ≤ 5) k1
        have e2 : P2 ++ [t (sk t n y.1)] ++ W = P2 ++ t (sk t n y.1) :: W := by rw [List.append_assoc]; rfl
        have e3 : bang (P2 ++ [t (sk t n y.1)]) = bang P2 := by rw [bang_app, bang, bang, if_neg hne]; omega
        refine ⟨j2 + 1 + j, P2 ++ [t (sk t n y.1)], C2, 2, um2, ?_, ?_, Or.inr ⟨rfl, k3, k3'⟩, by omega, k5, ?_, ?_, ?_⟩
        · intro a ha
          rcases List.mem_append.mp ha with ha | ha
          · have := k1 a ha; omega
          · rw [List.mem_singleton.mp ha, hst]; decide
        · rw [cds_app, ← List.append_assoc, k2]
          simp only [List.append_assoc]
          rfl
        · rw [e2, e3]; exact k6
        · rw [e3]; exact k7
        · intro f
          rw [show f + (j2 + 1 + j) = f + j2 + 1 + j by omega, e1, k8, e2, e3]
    · rw [if_neg c]
      have h1 : sd' = 1 := by
        rcases hsd with h | h
        · exact h
        · exact absurd (h.2 y rfl) c
      refine ⟨1 + j, fun f => ?_⟩
      rw [show f + (1 + j) = f + 1 + j by omega, g8, lrun_0 hlok2, lsgn]
      by_cases c4 : t (sk t n y.1) = -1 ∨ t (sk t n y.1) = 59
      · rw [if_pos c4, if_pos (by omega)]
      · rw [if_neg c4, if_neg har]
        by_cases c3 : t (sk t n y.1) = 93
        · rw [if_pos c3, if_neg (by omega)]
        · rw [if_neg c3, if_neg c]
          by_cases c6 : t (sk t n y.1) = 38 ∨ t (sk t n y.1) = 124
          · rw [if_pos c6, if_neg (by omega)]
          · rw [if_neg c6]
            by_cases c7 : t (sk t n y.1) = 41
            · rw [if_pos c7, if_neg (by omega)]
            · rw [if_neg c7]
              by_cases c8 : t (sk t n y.1) = 63
              · rw [if_pos c8, if_neg (by omega)]
              · rw [if_neg c8]
/-- what stands behind a whole CONDITION and is no sign of one -/
theorem lsg_stop {K : LK} {t : Int → Int} {n p : Int} {C W : List Int} {sd wi ro ska um : Int} (he : eCd t n sd p) (h1 : sAnd (t (sk t n p)) = false) (h2 : sOr (t (sk t n p)) = false) (h41 : t (sk t n p) = 41 → ro = 0) (h63 : t (sk t n p) = 63 → ro ≠ 0) (h0 : 0 ≤ ro) : lsgn K (t (sk t n p)) (sk t n p) C W sd wi 0 ro ska um = some (.inl (sk t n p)) := by
  have hs : sd = 2 ∨ sd = 4 := by rcases he with h | h; exact Or.inr h; exact Or.inl h.1
  rw [lsgn]
  by_cases c4 : t (sk t n p) = -1 ∨ t (sk t n p) = 59
  · rw [if_pos c4, if_pos (by omega)]
  · rw [if_neg c4]
    by_cases c5 : t (sk t n p) = 43 ∨ t (sk t n p) = 45 ∨ t (sk t n p) = 42 ∨ t (sk t n p) = 47
    · rcases he with h | h
      · rw [if_pos c5, if_pos h]
      · exact absurd c5 (arF_f h.2.1 h.2.2)
    · rw [if_neg c5]
      by_cases c3 : t (sk t n p) = 93
      · rw [if_pos c3, if_neg (by omega)]
      · rw [if_neg c3]
        by_cases c : isSg (t (sk t n p))
        · rw [if_pos c, if_neg (by omega)]
        · rw [if_neg c]
          by_cases c6 : t (sk t n p) = 38 ∨ t (sk t n p) = 124
          · rcases c6 with c6 | c6
            · rw [c6] at h1; cases h1
            · rw [c6] at h2; cases h2
          · rw [if_neg c6]
            by_cases c7 : t (sk t n p) = 41
            · rw [if_pos c7, if_neg (by have := h41 c7; omega)]
            · rw [if_neg c7]
              by_cases c8 : t (sk t n p) = 63
              · rw [if_pos c8, if_neg (by have := h63 c8; omega)]
              · rw [if_neg c8]
def simUn (t : Int → Int) (n : Int) (r : Nat) : Prop := ∀ (p : Int) (C W : List Int) (sd wi ro ska : Int), lcx n 4 p C W wi 0 ro ska 1 → wi = 6 - r → (sd = 1 ∨ (sd = 0 ∧ (t (sk t n p) = 33 ∨ t (sk t n p) = 40))) →
  lres t n 3 (eCd t n) (gU t n r p) p C W sd wi 0 ro ska 1
theorem simPt {t : Int → Int} {n : Int} (ht : ∀ i, n ≤ i → t i = -1) {r : Nat} (hu : simUn t n r) {p : Int} {C W : List Int} {sd wi ro ska um : Int} (hc : lcx n 2 p C W wi 0 ro ska um) (hw : wi = 6 - r) {x : LR} (hx : gok n p x) (h : lres t n 3 (eCd t n) x p C W sd wi 0 ro ska um) :
    lres t n 2 (fun a q => eCd t n a q ∧ sAnd (t (sk t n q)) = false) (gPrt t n (gU t n r) x) p C W sd wi 0 ro ska um := by
  refine simCh ht (k := 2) (E := eCd t n) (sd1 := 1) (um1 := 1) (by omega) ?_ (Or.inr rfl) (fun _ _ hq h => eCd_sk hq h) ?_ ?_ (gU_ok ht r) hc hx (lres_m h (by omega) (fun _ _ h => h))
  · intro c h
    rw [sAnd_t h]; exact ⟨rfl, by decide, by decide⟩
  · intro f p C W sd' wi um hl he h
    have hs : sd' = 2 ∨ sd' = 4 := by rcases he with h | h; exact Or.inr h; exact Or.inl h.1
    rw [lrun_0 hl, lsgn]
    have := sAnd_t h
    rw [if_neg (by omega), if_neg (by omega), if_neg (by omega), if_neg (by omega), if_pos (by omega), if_pos ⟨rfl, hs⟩]
  · intro p C W hcx
    obtain ⟨a1, a2, a3, a4, a5, a6, a7, a8, a9, a10, a11, a12, a13, a14⟩ := hcx
    exact hu p C W 1 wi ro ska ⟨a1, a2, a3, a4, by omega, a6, a7, a8, a9, a10, a11, a12, a13, by omega⟩ hw (Or.inl rfl)
theorem simCd {t : Int → Int} {n : Int} (ht : ∀ i, n ≤ i → t i = -1) {r : Nat} (hu : simUn t n r) {p : Int} {C W : List Int} {sd wi ro ska um : Int} (hc : lcx n 1 p C W wi 0 ro ska um) (hw : wi = 6 - r) {x : LR} (hx : gok n p x) (h : lres t n 3 (eCd t n) x p C W sd wi 0 ro ska um) :
    lres t n 1 (fun a q => (eCd t n a q ∧ sAnd (t (sk t n q)) = false) ∧ sOr (t (sk t n q)) = false) (gCnd t n (gU t n r) x) p C W sd wi 0 ro ska um := by
  have hcl := hc
  obtain ⟨a1, a2, a3, a4, a5, a6, a7, a8, a9, a10, a11, a12, a13, a14⟩ := hc
  refine simCh ht (k := 1) (E := fun a q => eCd t n a q ∧ sAnd (t (sk t n q)) = false) (sd1 := 1) (um1 := 1) (by omega) ?_ (Or.inr rfl) (fun _ q hq h => ⟨eCd_sk hq h.1, by rw [sk_sk t hq]; exact h.2⟩) ?_ ?_ (fun p a b => gPrt_ok ht (gU_ok ht r) a (gU_ok ht r p a b)) hcl (gPrt_ok ht (gU_ok ht r) a1 hx) (lres_m (simPt ht hu ⟨a1, a2, a3, a4, by omega, a6, a7, a8, a9, a10, a11, a12, a13, by omega⟩ hw hx h) (by omega) (fun _ _ h => h))
  · intro c h
    rw [sOr_t h]; exact ⟨rfl, by decide, by decide⟩
  · intro f p C W sd' wi um hl he h
    have hs : sd' = 2 ∨ sd' = 4 := by rcases he.1 with h | h; exact Or.inr h; exact Or.inl h.1
    rw [lrun_0 hl, lsgn]
    have := sOr_t h
    rw [if_neg (by omega), if_neg (by omega), if_neg (by omega), if_neg (by omega), if_pos (by omega), if_pos ⟨rfl, hs⟩]
  · intro p C W hcx
    obtain ⟨b1, b2, b3, b4, b5, b6, b7, b8, b9, b10, b11, b12, b13, b14⟩ := hcx
    exact simPt ht hu ⟨b1, b2, b3, b4, by omega, b6, b7, b8, b9, b10, b11, b12, b13, by omega⟩ hw (gU_ok ht r p b1 b2) (hu p C W 1 wi ro ska ⟨b1, b2, b3, b4, by omega, b6, b7, b8, b9, b10, b11, b12, b13, by omega⟩ hw (Or.inl rfl))
theorem simU_c {t : Int → Int} {n : Int} (ht : ∀ i, n ≤ i → t i = -1) {r : Nat} {p : Int} {C W : List Int} {sd wi ro ska um : Int} (hc : lcx n 4 p C W wi 0 ro ska um) (hw : wi = 6 - r) (h33 : t (sk t n p) ≠ 33) (h40 : t (sk t n p) ≠ 40) (hsd : sd = 1) : lres t n 3 (eCd t n) (gCmp t n r (gS t n r p)) p C W sd wi 0 ro ska um := by
  have hcl := hc
  obtain ⟨a1, a2, a3, a4, a5, a6, a7, a8, a9, a10, a11, a12, a13, a14⟩ := hc
  exact simCmp ht hcl hw (gS_ok ht r p a1 a2) (Or.inl hsd) (simS ht r p C W sd wi 0 ro ska um ⟨a1, a2, a3, a4, by omega, a6, a7, a8, a9, a10, a11, a12, a13, by omega⟩ hw (by omega) (by omega) (fun _ => ⟨h33, h40⟩))
theorem simU {t : Int → Int} {n : Int} (ht : ∀ i, n ≤ i → t i = -1) : ∀ r : Nat, simUn t n r := by
  intro r
  induction r with
  | zero =>
    intro p C W sd wi ro ska hc hw hsd
    have hlok := lok_of (wa := 1) hc (by omega) (sd := sd) (by omega) (Or.inr rfl)
    unfold gU
    by_cases c : t (sk t n p) = 33 ∨ t (sk t n p) = 40
    · rw [if_pos c]
      have hlx : ¬ 0 ≤ lix (t (sk t n p)) := by rcases c with c | c <;> rw [c] <;> decide
      refine ⟨1, fun f => ?_⟩
      rw [lrun_1 hlok, latm, if_neg (by omega), if_neg hlx, if_neg (by omega), if_neg (by omega)]
    · rw [if_neg c]
      exact simU_c ht hc hw (by omega) (by omega) (by omega)
  | succ r ih =>
    intro p C W sd wi ro ska hc hw hsd
    have hlok := lok_of (wa := 1) hc (by omega) (sd := sd) (by omega) (Or.inr rfl)
    have hcl := hc
    obtain ⟨a1, a2, a3, a4, a5, a6, a7, a8, a9, a10, a11, a12, a13, a14⟩ := hc
    have s1 := sk_b t a2
    unfold gU
    by_cases c : t (sk t n p) = 33
    · rw [if_pos c]
      have hlx : ¬ 0 ≤ lix (t (sk t n p)) := by rw [c]; decide
      have hlt := sk_lt ht (q := sk t n p) (by omega)
      have e0 : ∀ f, lrun t n (f + 1) 1 p C W sd wi 0 ro ska 1 = lrun t n f 1 (sk t n p + 1) C (33 :: W) 1 (wi + 1) 0 ro ska 1 := fun f => by
        rw [lrun_1 hlok, latm, if_neg (by omega), if_neg hlx, if_neg (by omega), if_pos ⟨by omega, rfl, Or.inl c⟩, c, if_neg (by decide), Int.add_zero]
      have hU := ih (sk t n p + 1) C (33 :: W) 1 (wi + 1) ro ska ⟨by omega, by omega, by omega, by rw [List.length_cons]; omega, by rw [List.length_cons]; omega, by omega, by omega, by omega, by omega, by omega, by omega, by omega, Or.inr rfl, (by decide : stren 33 < 4)⟩ (by omega) (Or.inl rfl)
      revert hU
      cases gU t n r (sk t n p + 1) with
      | inl q =>
        rintro ⟨j, hU⟩
        exact ⟨j + 1, fun f => by rw [show f + (j + 1) = f + j + 1 by omega, e0, hU]⟩
      | inr z =>
        rintro ⟨j2, P2, C2, sd2, um2, k1, k2, k3, k4, k5, k6, k7, k8⟩
        have e2 : P2 ++ [33] ++ W = P2 ++ 33 :: W := by rw [List.append_assoc]; rfl
        have e3 : wi + bang (P2 ++ [33]) = wi + 1 + bang P2 := by rw [bang_app, bang, bang, if_pos rfl]; omega
        refine ⟨j2 + 1, P2 ++ [33], C2, sd2, um2, ?_, ?_, k3, k4, k5, ?_, ?_, ?_⟩
        · intro a ha
          rcases List.mem_append.mp ha with ha | ha
          · exact k1 a ha
          · rw [List.mem_singleton.mp ha]; decide
        · rw [cds_app, ← List.append_assoc, k2]
          simp only [List.append_assoc]
          rfl
        · rw [e2, e3]; exact k6
        · rw [e3]; exact k7
        · intro f
          rw [show f + (j2 + 1) = f + j2 + 1 by omega, e0, k8, e2, e3]
    · rw [if_neg c]
      by_cases c2 : t (sk t n p) = 40
      · rw [if_pos c2]
        have hlx : ¬ 0 ≤ lix (t (sk t n p)) := by rw [c2]; decide
        have hlt := sk_lt ht (q := sk t n p) (by omega)
        have e0 : ∀ f, lrun t n (f + 1) 1 p C W sd wi 0 ro ska 1 = lrun t n f 1 (sk t n p + 1) C (40 :: W) 1 (wi + 1) 0 (ro + 1) ska 1 := fun f => by
          rw [lrun_1 hlok, latm, if_neg (by omega), if_neg hlx, if_neg (by omega), if_pos ⟨by omega, rfl, Or.inr c2⟩, c2, if_pos rfl]
        have hcx : lcx n 1 (sk t n p + 1) C (40 :: W) (wi + 1) 0 (ro + 1) ska 1 := ⟨by omega, by omega, by omega, by rw [List.length_cons]; omega, by rw [List.length_cons]; omega, by omega, by omega, by omega, by omega, by omega, by omega, by omega, Or.inr rfl, (by decide : stren 40 < 1)⟩
        have hU := ih (sk t n p + 1) C (40 :: W) 1 (wi + 1) (ro + 1) ska ⟨by omega, by omega, by omega, by rw [List.length_cons]; omega, by rw [List.length_cons]; omega, by omega, by omega, by omega, by omega, by omega, by omega, by omega, Or.inr rfl, (by decide : stren 40 < 4)⟩ (by omega) (Or.inl rfl)
        have hgu := gU_ok ht r (sk t n p + 1) (by omega) (by omega)
        have hC := simCd ht ih hcx (by omega) hgu hU
        have hok := gCnd_ok ht (gU_ok ht r) (p := sk t n p + 1) (by omega) hgu
        revert hC hok
        cases gCnd t n (gU t n r) (gU t n r (sk t n p + 1)) with
        | inl q =>
          rintro ⟨j, hU⟩ _
          exact ⟨j + 1, fun f => by rw [show f + (j + 1) = f + j + 1 by omega, e0, hU]⟩
        | inr y =>
          rintro ⟨j, P, C', sd', um', g1, g2, ⟨⟨g3, g3'⟩, g3''⟩, g4, g5, g6, g7, g8⟩ hok
          rw [gok_r] at hok
          have hl := len_eq g2
          have hb := bang_nn P
          rw [List.length_append, List.length_cons] at g6
          have s2 := sk_b t hok.2.1
          have hlok2 : lok n 0 y.1 C' (P ++ 40 :: W) sd' (wi + 1 + bang P) 0 (ro + 1) ska um' := ⟨by omega, by omega, by rw [List.length_append, List.length_cons]; omega, by rw [List.length_append, List.length_cons]; omega, by omega, by omega, by omega, by omega, by omega, by omega, by omega, by omega, by omega, by omega, Or.inl rfl, g5⟩
          have hw1 := sW_st (l := 1) (W := 40 :: W) (by decide : stren 40 < 1)
          have hs : sd' = 2 ∨ sd' = 4 := by rcases g3 with h | h; exact Or.inr h; exact Or.inl h.1
          unfold gRnd
          dsimp only
          by_cases c3 : t (sk t n y.1) = 41
          · rw [if_pos c3]
            refine ⟨1 + j + 1, [], C ++ y.2, 4, um', (fun _ h => nomatch h), by rw [cds, List.map_nil, List.append_nil], Or.inl rfl, by omega, g5, ?_, ?_, fun f => ?_⟩
            · rw [List.nil_append, bang]; omega
            · rw [bang]; omega
            · rw [show f + (1 + j + 1) = f + 1 + j + 1 by omega, e0, g8, lrun_0 hlok2, lsgn, c3, if_neg (by decide), if_neg (by decide), if_neg (by decide), if_neg (by decide), if_neg (by decide), if_pos rfl, if_pos ⟨rfl, hs, by omega⟩, sW_app g1, sC_app g1, sN_app g1, hw1.1, hw1.2.1, hw1.2.2, List.append_nil, g2, List.nil_append, bang]
              dsimp only
              rw [show wi + 1 + bang P - (bang P + 0) - 1 = wi + 0 by omega, show ro + 1 - 1 = ro by omega]
          · rw [if_neg c3]
            refine ⟨1 + j + 1, fun f => ?_⟩
            rw [show f + (1 + j + 1) = f + 1 + j + 1 by omega, e0, g8, lrun_0 hlok2]
            exact lsg_stop g3 g3' g3'' (fun h => absurd h c3) (fun _ => by omega) (by omega)
      · rw [if_neg c2]
        exact simU_c ht hcl hw c c2 (by omega)
