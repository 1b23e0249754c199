/-! the machine does as the grammar says: SUMS -/
def arF (c : Int) : Bool := sMul c || sAdd c
theorem sMul_t {c : Int} (h : sMul c = true) : c = 42 ∨ c = 47 := by simpa [sMul] using h
theorem sAdd_t {c : Int} (h : sAdd c = true) : c = 43 ∨ c = 45 := by simpa [sAdd] using h
theorem sAnd_t {c : Int} (h : sAnd c = true) : c = 38 := by simpa [sAnd] using h
theorem sOr_t {c : Int} (h : sOr c = true) : c = 124 := by simpa [sOr] using h
theorem arF_f {c : Int} (h1 : sMul c = false) (h2 : sAdd c = false) : ¬ (c = 43 ∨ c = 45 ∨ c = 42 ∨ c = 47) := by
  simp [sMul] at h1; simp [sAdd] at h2; omega
def simSum (t : Int → Int) (n : Int) (r : Nat) : Prop := ∀ (p : Int) (C W : List Int) (sd wi br ro ska um : Int), lcx n 5 p C W wi br ro ska um → wi = 6 - r → 0 ≤ sd → sd ≤ 3 → (um = 1 → t (sk t n p) ≠ 33 ∧ t (sk t n p) ≠ 40) →
  lres t n 5 (fun a q => (a = sd ∧ sMul (t (sk t n q)) = false) ∧ sAdd (t (sk t n q)) = false) (gS t n r p) p C W sd wi br ro ska um
theorem lok_of {n k wa p : Int} {C W : List Int} {sd wi br ro ska um : Int} (h : lcx n k p C W wi br ro ska um) (hk : k ≤ 7) (hsd : 0 ≤ sd ∧ sd ≤ 4) (hwa : wa = 0 ∨ wa = 1) : lok n wa p C W sd wi br ro ska um := by
  obtain ⟨a1, a2, a3, a4, a5, a6, a7, a8, a9, a10, a11, a12, a13, a14⟩ := h
  exact ⟨by omega, by omega, by omega, by omega, by omega, by omega, by omega, by omega, by omega, by omega, by omega, by omega, by omega, by omega, hwa, a13⟩
theorem simAt {t : Int → Int} {n : Int} (ht : ∀ i, n ≤ i → t i = -1) {r : Nat} (hin : ∀ r', r = r' + 1 → simSum t n r') {p : Int} {C W : List Int} {sd wi br ro ska um : Int} (hc : lcx n 7 p C W wi br ro ska um) (hw : wi = 6 - r) (hsd : 0 ≤ sd ∧ sd ≤ 3) (hum : um = 1 → t (sk t n p) ≠ 33 ∧ t (sk t n p) ≠ 40) :
    lres t n 7 (fun a _ => a = sd) (gAt t n (gIn t n r) p) p C W sd wi br ro ska um := by
  have hlok := lok_of (wa := 1) hc (by omega) (sd := sd) (by omega) (Or.inr rfl)
  obtain ⟨a1, a2, a3, a4, a5, a6, a7, a8, a9, a10, a11, a12, a13, a14⟩ := hc
  have s1 := sk_b t a2
  have fin : ∀ (q : Int) (g : List Int), (∀ f, lrun t n (f + 1) 1 p C W sd wi br ro ska um = lrun t n f 0 q (C ++ g) W sd wi br ro ska um) → lres t n 7 (fun a _ => a = sd) (.inr (q, g)) p C W sd wi br ro ska um := by
    intro q g h
    refine ⟨1, [], C ++ g, sd, um, (fun _ h => nomatch h), by rw [cds, List.map_nil, List.append_nil], rfl, by omega, a13, ?_, ?_, fun f => ?_⟩
    · rw [List.nil_append, bang]; omega
    · rw [bang]; omega
    · rw [h, List.nil_append, bang, Int.add_zero]
  unfold gAt gAtm
  generalize hq : sk t n p = q at *
  by_cases c1 : 0 ≤ lix (t q)
  · rw [if_pos c1]
    refine fin _ _ (fun f => ?_)
    rw [lrun_1 hlok, latm, hq, if_neg (lix_n c1).2, if_pos c1]
  · rw [if_neg c1]
    by_cases c2 : t q = 91
    · rw [if_pos c2]
      have hd : ¬ isdg (t q) := by rw [c2]; decide
      cases r with
      | zero =>
        show ∃ j, ∀ f, lrun t n (f + j) 1 p C W sd wi br ro ska um = some (.inl q)
        refine ⟨1, fun f => ?_⟩
        rw [lrun_1 hlok, latm, hq, if_neg hd, if_neg c1, if_neg (by omega), if_neg (by omega)]
      | succ r =>
        have hlt := sk_lt ht (q := q) (by omega)
        have hcx : lcx n 5 (q + 1) C (91 :: W) (wi + 1) (br + 1) ro ska 0 := by
          refine ⟨by omega, by omega, by omega, ?_, ?_, by omega, by omega, by omega, by omega, by omega, by omega, by omega, Or.inl rfl, (by decide : stren 91 < 5)⟩
          · rw [List.length_cons]; omega
          · rw [List.length_cons]; omega
        have hS := hin r rfl (q + 1) C (91 :: W) sd (wi + 1) (br + 1) ro ska 0 hcx (by omega) hsd.1 hsd.2 (by omega)
        have hok := gS_ok ht r (q + 1) (by omega) (by omega)
        have e0 : ∀ f, lrun t n (f + 1) 1 p C W sd wi br ro ska um = lrun t n f 1 (q + 1) C (91 :: W) sd (wi + 1) (br + 1) ro ska 0 := fun f => by
          rw [lrun_1 hlok, latm, hq, if_neg hd, if_neg c1, if_pos ⟨by omega, c2⟩]
        show lres t n 7 _ (match gS t n r (q + 1) with | .inl f => .inl f | .inr x => if t (sk t n x.1) = 93 then .inr (sk t n x.1 + 1, x.2) else .inl (sk t n x.1)) p C W sd wi br ro ska um
        revert hS hok
        cases gS t n r (q + 1) with
        | inl f =>
          intro hS _
          obtain ⟨j, hS⟩ := hS
          exact ⟨j + 1, fun f => by rw [show f + (j + 1) = f + j + 1 by omega, e0, hS]⟩
        | inr y =>
          intro hS hok
          rw [gok_r] at hok
          obtain ⟨j, P, C', sd', um', g1, g2, ⟨⟨rfl, g3⟩, g3'⟩, g4, g5, g6, g7, g8⟩ := hS
          have hb := bang_0 (by omega : (4 : Int) ≤ 5) g1
          have hl := len_eq g2
          rw [hb] at g6 g7 g8
          rw [List.length_append, List.length_cons] at g6
          have s2 := sk_b t hok.2.1
          have hlok2 : lok n 0 y.1 C' (P ++ 91 :: W) sd' (wi + 1 + 0) (br + 1) ro ska um' := ⟨by omega, by omega, by rw [List.length_append, List.length_cons]; omega, by rw [List.length_append, List.length_cons]; omega, by omega, by omega, by omega, by omega, by omega, by omega, by omega, by omega, by omega, by omega, Or.inl rfl, g5⟩
          have h1 : ∀ a ∈ P, (1 : Int) ≤ stren a := fun a ha => by have := g1 a ha; omega
          have hw1 := sW_st (l := 1) (W := 91 :: W) (by decide : stren 91 < 1)
          have har := arF_f g3 g3'
          dsimp only
          by_cases c3 : t (sk t n y.1) = 93
          · rw [if_pos c3]
            refine ⟨1 + j + 1, [], C ++ y.2, sd', um', (fun _ h => nomatch h), by rw [cds, List.map_nil, List.append_nil], rfl, by omega, g5, ?_, ?_, fun f => ?_⟩
            · rw [List.nil_append, bang]; omega
            · rw [bang]; omega
            · rw [show f + (1 + j + 1) = f + 1 + j + 1 by omega, e0, g8, lrun_0 hlok2, lsgn, c3, if_neg (by decide), if_neg (by decide), if_pos rfl, if_pos (by omega), sW_app h1, sC_app h1, sN_app h1, hw1.1, hw1.2.1, hw1.2.2, List.append_nil, g2, hb, List.nil_append, bang]
              dsimp only
              rw [show wi + 1 + 0 - (0 + 0) - 1 = wi + 0 by omega, show br + 1 - 1 = br by omega]
          · rw [if_neg c3]
            refine ⟨1 + j + 1, fun f => ?_⟩
            rw [show f + (1 + j + 1) = f + 1 + j + 1 by omega, e0, g8, lrun_0 hlok2, lsgn]
            by_cases c4 : t (sk t n y.1) = -1 ∨ t (sk t n y.1) = 59
            · rw [if_pos c4, if_pos (by omega)]
            · rw [if_neg c4, if_neg har, if_neg c3]
              by_cases c5 : isSg (t (sk t n y.1))
              · rw [if_pos c5, if_neg (by omega)]
              · rw [if_neg c5]
                by_cases c6 : t (sk t n y.1) = 38 ∨ t (sk t n y.1) = 124
                · rw [if_pos c6, if_neg (by omega)]
                · rw [if_neg c6]
                  by_cases c7 : t (sk t n y.1) = 41
                  · rw [if_pos c7, if_neg (by omega)]
                  · rw [if_neg c7]
                    by_cases c8 : t (sk t n y.1) = 63
                    · rw [if_pos c8, if_neg (by omega)]
                    · rw [if_neg c8]
    · rw [if_neg c2]
      have hnd : ndig t q 4 = 0 ↔ ¬ isdg (t q) := by
        have := ndig_bd t 3 (q + 1)
        constructor
        · intro h hd; rw [ndig, if_pos hd] at h; omega
        · intro h; rw [ndig, if_neg h]
      by_cases c3 : isdg (t q)
      · by_cases c4 : isdg (t (q + ndig t q 4))
        · rw [if_pos (Or.inr c4)]
          refine ⟨1, fun f => ?_⟩
          rw [lrun_1 hlok, latm, hq, if_pos c3, if_pos c4]
        · rw [if_neg (by rintro (h | h); exact hnd.mp h c3; exact c4 h)]
          refine fin _ _ (fun f => ?_)
          rw [lrun_1 hlok, latm, hq, if_pos c3, if_neg c4]
      · rw [if_pos (Or.inl (hnd.mpr c3)), hnd.mpr c3]
        refine ⟨1, fun f => ?_⟩
        rw [lrun_1 hlok, latm, hq, if_neg c3, if_neg c1, if_neg (by omega), if_neg (by
          rintro ⟨-, h1, h2⟩
          have := hum h1
          omega), Int.add_zero]
theorem simTr {t : Int → Int} {n : Int} (ht : ∀ i, n ≤ i → t i = -1) {r : Nat} (hin : ∀ r', r = r' + 1 → simSum t n r') {p : Int} {C W : List Int} {sd wi br ro ska um : Int} (hc : lcx n 6 p C W wi br ro ska um) (hw : wi = 6 - r) (hsd : 0 ≤ sd ∧ sd ≤ 3) (hum : um = 1 → t (sk t n p) ≠ 33 ∧ t (sk t n p) ≠ 40) :
    lres t n 6 (fun a q => a = sd ∧ sMul (t (sk t n q)) = false) (gTrm t n (gIn t n r) p) p C W sd wi br ro ska um := by
  have hcl := hc
  obtain ⟨a1, a2, a3, a4, a5, a6, a7, a8, a9, a10, a11, a12, a13, a14⟩ := hc
  refine simCh ht (k := 6) (E := fun a _ => a = sd) (sd1 := sd) (um1 := 0) (by omega) ?_ (Or.inl rfl) (fun _ _ _ h => h) ?_ ?_ (gAt_ok ht (gIn_ok ht r)) hcl (gAt_ok ht (gIn_ok ht r) p a1 a2) ?_
  · intro c h
    rcases sMul_t h with rfl | rfl <;> exact ⟨rfl, by decide, by decide⟩
  · intro f p C W sd' wi um hl he h
    subst he
    rw [lrun_0 hl, lsgn]
    have := sMul_t h
    rw [if_neg (by omega), if_pos (by omega), if_neg (by omega)]
  · intro p C W hcx
    exact simAt ht hin hcx hw hsd (by omega)
  · exact lres_m (simAt ht hin ⟨a1, a2, a3, a4, by omega, a6, a7, a8, a9, a10, a11, a12, a13, by omega⟩ hw hsd hum) (by omega) (fun _ _ h => h)
theorem simS_s {t : Int → Int} {n : Int} (ht : ∀ i, n ≤ i → t i = -1) {r : Nat} (hin : ∀ r', r = r' + 1 → simSum t n r') : simSum t n r := by
  intro p C W sd wi br ro ska um hc hw h0 h3 hum
  have hcl := hc
  obtain ⟨a1, a2, a3, a4, a5, a6, a7, a8, a9, a10, a11, a12, a13, a14⟩ := hc
  rw [gS_e]
  refine simCh ht (k := 5) (E := fun a q => a = sd ∧ sMul (t (sk t n q)) = false) (sd1 := sd) (um1 := 0) (by omega) ?_ (Or.inl rfl) (fun _ q hq h => ⟨h.1, by rw [sk_sk t hq]; exact h.2⟩) ?_ ?_ (gTrm_ok ht (gIn_ok ht r)) hcl (gTrm_ok ht (gIn_ok ht r) p a1 a2) ?_
  · intro c h
    rcases sAdd_t h with rfl | rfl <;> exact ⟨rfl, by decide, by decide⟩
  · intro f p C W sd' wi um hl he h
    obtain ⟨rfl, -⟩ := he
    rw [lrun_0 hl, lsgn]
    have := sAdd_t h
    rw [if_neg (by omega), if_pos (by omega), if_neg (by omega)]
  · intro p C W hcx
    exact simTr ht hin hcx hw ⟨h0, h3⟩ (by omega)
  · exact lres_m (simTr ht hin ⟨a1, a2, a3, a4, by omega, a6, a7, a8, a9, a10, a11, a12, a13, by omega⟩ hw ⟨h0, h3⟩ hum) (by omega) (fun _ _ h => h)
theorem simS {t : Int → Int} {n : Int} (ht : ∀ i, n ≤ i → t i = -1) : ∀ r : Nat, simSum t n r := by
  intro r
  induction r with
  | zero => exact simS_s ht (fun r' h => by omega)
  | succ r ih => exact simS_s ht (fun r' h => by obtain rfl : r = r' := by omega
                                                 exact ih)
