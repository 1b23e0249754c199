/-! ArmchairHouse: YEARS -/
/-- all but what is drawn -/
def D9 (σ τ : Mem) : Prop := (∀ b, b ≠ 0 → τ b = σ b) ∧ ∀ k, k ≠ 9 → τ 0 k = σ 0 k
theorem D9_up (σ : Mem) (v : Int) : D9 σ (up σ 0 9 v) := ⟨fun b hb => up_na _ hb, fun k hk => up_nj _ hk⟩
theorem D9_tr {σ τ υ : Mem} (h : D9 σ τ) (h' : D9 τ υ) : D9 σ υ := ⟨fun b hb => by rw [h'.1 b hb]; exact h.1 b hb, fun k hk => by rw [h'.2 k hk]; exact h.2 k hk⟩
theorem D9_pcnt {σ τ : Mem} (h : D9 σ τ) (x : Int) : pcnt τ 6 x = pcnt σ 6 x := pcnt_cong (h.1 _ (by decide)) x
theorem D9_pval {σ τ : Mem} (h : D9 σ τ) (x y z : Int) : pval τ 6 x y z = pval σ 6 x y z := pval_cong (h.1 _ (by decide)) x y z
theorem D9_SP {σ τ : Mem} (h : D9 σ τ) : SP σ τ 16 :=
  ⟨h.1 _ (by decide), h.1 _ (by decide), h.1 _ (by decide), h.1 _ (by decide), h.1 _ (by decide), by rw [h.1 26 (by decide)], fun g => h.1 _ (by unfold isLw at g; omega)⟩
theorem D9_xA {σ τ : Mem} (h : D9 σ τ) (hx : xA σ) : xA τ := by
  obtain ⟨⟨hst, hse, h9, hsi⟩, hpa, ⟨a1, a2, a3⟩, hte, hp4, hpr, hmo⟩ := hx
  have pc := D9_pcnt h
  have o := h.1
  refine ⟨⟨SP_stOk (D9_SP h) hst, ?_, ?_, ?_⟩, ?_, ⟨?_, ?_, ?_⟩, ?_, ?_, ?_, ?_⟩
  · rw [o 18 (by decide)]; exact hse
  · intro q; rw [D9_pval h]; exact h9 q
  · rw [o 18 (by decide), pc, pc]; exact hsi
  · unfold pastOk; rw [o 31 (by decide)]; exact hpa
  · rw [o _ (by decide)]; exact a1
  · rw [o _ (by decide)]; exact a2
  · rw [o 16 (by decide)]; exact a3
  · rw [o 20 (by decide), pc]; exact hte
  · rw [pc]; exact hp4
  · rw [o 16 (by decide)]; exact hpr
  · rw [o 19 (by decide), pc]; exact hmo
/-- what ACTS may change, and what is drawn -/
def AG (σ τ : Mem) : Prop := (∀ b, b ≠ 0 → (b < 16 ∨ 20 < b) → (b < 26 ∨ 33 < b) → b ≠ 37 → b ≠ 38 → b ≠ 40 → b ≠ 102 → b ≠ 105 → b ≠ 108 → b ≠ 111 → τ b = σ b) ∧ τ 26 1 = σ 26 1 ∧ ∀ k, k ≠ 9 → τ 0 k = σ 0 k
theorem AG_rf (σ : Mem) : AG σ σ := ⟨fun _ _ _ _ _ _ _ _ _ _ _ => rfl, rfl, fun _ _ => rfl⟩
theorem AG_tr {σ τ υ : Mem} (h : AG σ τ) (h' : AG τ υ) : AG σ υ := ⟨fun b h9 h0 h1 h2 h3 h4 h5 h6 h7 h8 => by rw [h'.1 b h9 h0 h1 h2 h3 h4 h5 h6 h7 h8]; exact h.1 b h9 h0 h1 h2 h3 h4 h5 h6 h7 h8, by rw [h'.2.1]; exact h.2.1, fun k hk => by rw [h'.2.2 k hk]; exact h.2.2 k hk⟩
theorem AF_AG {σ τ : Mem} (h : AF σ τ) : AG σ τ := ⟨fun b _ h0 h1 h2 h3 h4 h5 h6 h7 h8 => h.1 b h0 h1 h2 h3 h4 h5 h6 h7 h8, h.2, fun k _ => by rw [AF_r h (b := 0) (by omega)]⟩
theorem D9_AG {σ τ : Mem} (h : D9 σ τ) : AG σ τ := ⟨fun b h9 _ _ _ _ _ _ _ _ _ => h.1 b h9, by rw [h.1 26 (by decide)], h.2⟩
/-- an EVENING from σ on, without remembering -/
theorem sh_gen {σ υ : Mem} {p : Int} (hx : xA σ) (h : shP σ υ 16 p) : pcnt υ 6 2 = pcnt σ 6 2 ∧ outB (υ 30) (pcnt σ 6 2).toNat = evOb σ p ∧ (∀ i, 0 ≤ i → i < pcnt σ 6 2 → InR (υ 30 i)) ∧ υ 31 1 = σ 31 1 := by
  have hst := hx.1.1
  have h9 := hx.1.2.2.1 p
  have hB := hst.2.1
  have c2 := pcnt_b hB 2
  obtain ⟨h1, h2, h3, h4, h5, h6⟩ := h
  have e8 : υ (6 + 2) = σ (6 + 2) := h1 _ (by decide) (by decide) (by decide) (by decide) (by decide) (by decide) (by decide) (by decide) (by decide) (by decide) (by decide) (by decide)
  have e31 : υ 31 = σ 31 := h1 _ (by decide) (by decide) (by decide) (by decide) (by decide) (by decide) (by decide) (by decide) (by decide) (by decide) (by decide) (by decide)
  refine ⟨pcnt_cong e8 2, outB_cong (fun i i0 i1 => (h6 i i0 (by omega)).2), fun i i0 i1 => ?_, by rw [e31]⟩
  rw [(h6 i i0 i1).2]; have := pOa_b (a := 16) (i := i) hB h9; exact ⟨by omega, by omega⟩
theorem ev_gen {σ υ : Mem} {p : Int} (hx : xA σ) (he : σ 16 6 < 1999) (hw : σ 31 1 < 1000000) (hs : shP σ υ 16 p) : xA (wrM υ p (evMv σ p) (evOb σ p)) ∧ AF σ (wrM υ p (evMv σ p) (evOb σ p)) ∧ wrM υ p (evMv σ p) (evOb σ p) 31 1 = σ 31 1 + 1 ∧ wrM υ p (evMv σ p) (evOb σ p) 16 6 = σ 16 6 + 1 := by
  obtain ⟨⟨hst, hse, h9, hsi⟩, hpa, ⟨a1, a2, a3⟩, hte, hp4, hpr, hmo⟩ := hx
  obtain ⟨-, hB, hl, hh, hev, hil⟩ := id hst
  have h9p := h9 p
  have c2 := pcnt_b hB 2
  obtain ⟨s1, s2, s3, s4, s5, s6⟩ := hs
  have hA : AF σ υ := ⟨fun b h0 h1 h2 h3 h4 h5 h6 h7 h8 => s1 b (by omega) (by omega) (by omega) (by omega) (by omega) (by omega) (by omega) (by omega) h5 h6 h7 h8, s2⟩
  have u31 : υ 31 = σ 31 := s1 _ (by decide) (by decide) (by decide) (by decide) (by decide) (by decide) (by decide) (by decide) (by decide) (by decide) (by decide) (by decide)
  have u18 : υ 18 = σ 18 := s1 18 (by decide) (by decide) (by decide) (by decide) (by decide) (by decide) (by decide) (by decide) (by decide) (by decide) (by decide) (by decide)
  have u19 : υ 19 = σ 19 := s1 19 (by decide) (by decide) (by decide) (by decide) (by decide) (by decide) (by decide) (by decide) (by decide) (by decide) (by decide) (by decide)
  have e17 : (16 : Int) + 1 = 17 := rfl
  have e18 : (16 : Int) + 2 = 18 := rfl
  have e19 : (16 : Int) + 3 = 19 := rfl
  have e20 : (16 : Int) + 4 = 20 := rfl
  rw [e17] at s4
  rw [e20] at s5
  obtain ⟨p1, p2, p3⟩ := id hpa
  have w31 : ∀ j, wrM υ p (evMv σ p) (evOb σ p) 31 j = if j = 1 then σ 31 1 + 1 else σ 31 j := fun j => by
    unfold wrM
    by_cases e : j = 1
    · rw [e, up_s, if_pos rfl, u31]
    · rw [up_nj _ e, up_na _ (by decide), u31, if_neg e]
  have wo : ∀ b, b ≠ 31 → b ≠ 32 → wrM υ p (evMv σ p) (evOb σ p) b = υ b := fun b q1 q2 => by unfold wrM; rw [up_na _ q1, up_na _ q2]
  have hA2 : AF σ (wrM υ p (evMv σ p) (evOb σ p)) := AF_up (AF_up hA (by omega)) (by omega)
  have w16 : wrM υ p (evMv σ p) (evOb σ p) 16 = υ 16 := wo 16 (by decide) (by decide)
  have w17 : wrM υ p (evMv σ p) (evOb σ p) 17 = υ 17 := wo 17 (by decide) (by decide)
  have w18 : wrM υ p (evMv σ p) (evOb σ p) 18 = σ 18 := by rw [wo 18 (by decide) (by decide)]; exact u18
  have w19 : wrM υ p (evMv σ p) (evOb σ p) 19 = σ 19 := by rw [wo 19 (by decide) (by decide)]; exact u19
  have w20 : wrM υ p (evMv σ p) (evOb σ p) 20 = υ 20 := wo 20 (by decide) (by decide)
  have v6 : υ 16 6 = σ 16 6 + 1 := by rw [s3 6, if_neg (by decide), if_pos rfl]
  have v4 : υ 16 4 = 0 := by rw [s3 4, if_pos rfl]
  have v5 : υ 16 5 = σ 16 5 := by rw [s3 5, if_neg (by decide), if_neg (by decide)]
  refine ⟨⟨⟨⟨isA16, AF_planB hA2 hB, AF_lawOk hA2 hl, fun i i0 i1 => ?_, ?_, ?_⟩, ?_, ?_, ?_⟩, ?_, ⟨?_, ?_, ?_⟩, ?_, ?_, ?_, ?_⟩, hA2, ?_, ?_⟩
  · rw [e17, w17, s4 i]
    have := hh i i0 i1
    rw [e17] at this
    split <;> omega
  · rw [w16, v6]; omega
  · rw [w16, v4]; exact ⟨by decide, by decide⟩
  · rw [w18]; exact hse
  · intro q; rw [AF_pval hA2]; exact h9 q
  · rw [w18, AF_pcnt hA2, AF_pcnt hA2]; exact hsi
  · unfold pastOk
    rw [w31 4, w31 3, w31 1, if_neg (by decide), if_neg (by decide), if_pos rfl]
    omega
  · rw [e18, w18]; exact a1
  · rw [e19, w19]; exact a2
  · rw [w16, v5]; exact a3
  · rw [AF_pcnt hA2, w20]
    intro i i0 i1
    have fb := pFl_b (a := 16) hB h9p (i := i) i0 (by omega)
    have := hte i i0 i1
    rw [s5 i, if_pos ⟨i0, i1⟩]
    omega
  · rw [AF_pcnt hA2]; exact hp4
  · rw [w16, v5]; exact hpr
  · rw [AF_pcnt hA2, w19]; exact hmo
  · rw [w31 1, if_pos rfl]
  · rw [w16, v6]
theorem daI_x {σ : Mem} (hx : xA σ) : xA (daI σ) ∧ AG σ (daI σ) ∧ daI σ 19 = σ 19 ∧ daI σ 16 5 = σ 16 5 ∧ daI σ 16 6 = σ 16 6 ∧ daI σ 31 = σ 31 := by
  unfold daI
  split
  · have d1 := D9_tr (D9_up σ (dN (σ 0 9))) (D9_up _ (dN (dN (σ 0 9))))
    obtain ⟨g1, g2⟩ := il_x (D9_xA d1 hx) (amIor_in (σ 16 4) (amIshl 1 (amLushr (dN (dN (σ 0 9))) 33 % pcnt σ 6 3)))
    refine ⟨g1, AG_tr (D9_AG d1) (AF_AG g2), ?_, ?_, ?_, ?_⟩
    · rw [up_na _ (by decide)]; exact d1.1 19 (by decide)
    · rw [up_nj _ (by decide), d1.1 16 (by decide)]
    · rw [up_nj _ (by decide), d1.1 16 (by decide)]
    · rw [up_na _ (by decide)]; exact d1.1 31 (by decide)
  · have d1 := D9_up σ (dN (σ 0 9))
    exact ⟨D9_xA d1 hx, D9_AG d1, d1.1 19 (by decide), by rw [d1.1 16 (by decide)], by rw [d1.1 16 (by decide)], d1.1 31 (by decide)⟩
theorem ahS_x {σ τ : Mem} (hx : xA σ) (h : ahS σ τ) : xA τ ∧ AG σ τ ∧ τ 16 6 = σ 16 6 ∧ τ 31 1 = σ 31 1 := by
  obtain ⟨x1, x2, x3, x4, x5, x6⟩ := daI_x hx
  have d2 : D9 (daI σ) (daD (daI σ)) := D9_tr (D9_up _ _) (D9_up _ _)
  have x7 := D9_xA d2 x1
  rcases h with ⟨h, rfl⟩ | ⟨h, rfl⟩
  · have hc : okC (daD (daI σ)) 16 (daC (daI σ)) (daS (daI σ)) := by
      unfold okC at h ⊢
      rw [D9_pcnt d2, D9_pcnt d2, d2.1 _ (by decide), d2.1 16 (by decide), d2.1 _ (by decide)]
      exact h
    obtain ⟨g1, g2⟩ := tk_x x7 hc
    rw [d2.1 19 (by decide), d2.1 16 (by decide), x3, x4] at g1 g2
    refine ⟨g1, AG_tr x2 (AG_tr (D9_AG d2) (AF_AG g2)), ?_, ?_⟩
    · rw [up_na _ (by decide), up_na _ (by decide), d2.1 16 (by decide)]; exact x5
    · rw [up_na _ (by decide), up_na _ (by decide), d2.1 31 (by decide), x6]
  · exact ⟨x7, AG_tr x2 (D9_AG d2), by rw [d2.1 16 (by decide)]; exact x5, by rw [d2.1 31 (by decide), x6]⟩
/-- a year -/
def yrS (σ τ : Mem) : Prop := ∃ α υ, ahS (rmM σ) α ∧ shP (up α 0 9 (dN (α 0 9))) υ 16 (amLushr (dN (α 0 9)) 33 % pcnt σ 6 1) ∧ τ = wrM υ (amLushr (dN (α 0 9)) 33 % pcnt σ 6 1) (evMv (up α 0 9 (dN (α 0 9))) (amLushr (dN (α 0 9)) 33 % pcnt σ 6 1)) (evOb (up α 0 9 (dN (α 0 9))) (amLushr (dN (α 0 9)) 33 % pcnt σ 6 1))
def yrX : Nat → Mem → Mem → Prop
  | 0, σ, τ => τ = σ
  | k + 1, σ, τ => ∃ υ, yrX k σ υ ∧ yrS υ τ
theorem yrS_x {σ τ : Mem} (hx : xA σ) (he : σ 16 6 < 1999) (hw : σ 31 1 < 1000000) (h : yrS σ τ) : xA τ ∧ AG σ τ ∧ τ 31 1 = σ 31 1 + 1 ∧ τ 16 6 = σ 16 6 + 1 := by
  obtain ⟨α, υ, h1, h2, rfl⟩ := h
  obtain ⟨x1, x2, x3, x4⟩ := ahS_x (rm_x hx) h1
  have d := D9_up α (dN (α 0 9))
  have o16 : rmM σ 16 = σ 16 := rmM_o σ (by decide) (by decide)
  have r31 := (rm_31 σ).1
  have e6 : up α 0 9 (dN (α 0 9)) 16 6 = σ 16 6 := by rw [d.1 16 (by decide), x3, o16]
  have e1 : up α 0 9 (dN (α 0 9)) 31 1 = σ 31 1 := by rw [d.1 31 (by decide), x4, r31]
  obtain ⟨g1, g2, g3, g4⟩ := ev_gen (D9_xA d x1) (by omega) (by omega) h2
  exact ⟨g1, AG_tr (AF_AG (AF_rm σ)) (AG_tr x2 (AG_tr (D9_AG d) (AF_AG g2))), by omega, by omega⟩
