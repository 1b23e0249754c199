/-! ArmchairHouse: ACTS keep what ACTS need -/
/-- what ACTS may change -/
def AF (σ τ : Mem) : Prop := (∀ b, (b < 16 ∨ 20 < b) → (b < 26 ∨ 33 < b) → b ≠ 37 → b ≠ 38 → b ≠ 40 → b ≠ 102 → b ≠ 105 → b ≠ 108 → b ≠ 111 → τ b = σ b) ∧ τ 26 1 = σ 26 1
theorem AF_rf (σ : Mem) : AF σ σ := ⟨fun _ _ _ _ _ _ _ _ _ _ => rfl, rfl⟩
theorem AF_tr {σ τ υ : Mem} (h : AF σ τ) (h' : AF τ υ) : AF σ υ := ⟨fun b h0 h1 h2 h3 h4 h5 h6 h7 h8 => by rw [h'.1 b h0 h1 h2 h3 h4 h5 h6 h7 h8]; exact h.1 b h0 h1 h2 h3 h4 h5 h6 h7 h8, by rw [h'.2]; exact h.2⟩
theorem AF_r {σ τ : Mem} (h : AF σ τ) {b : Int} (hb : b < 16 ∨ (20 < b ∧ b < 26) ∨ (33 < b ∧ b < 37) ∨ b = 39 ∨ (40 < b ∧ b < 100)) : τ b = σ b := h.1 b (by omega) (by omega) (by omega) (by omega) (by omega) (by omega) (by omega) (by omega) (by omega)
theorem AF_pval {σ τ : Mem} (h : AF σ τ) (x y z : Int) : pval τ 6 x y z = pval σ 6 x y z := pval_cong (AF_r h (b := 6 + 1) (by omega)) x y z
theorem AF_pcnt {σ τ : Mem} (h : AF σ τ) (x : Int) : pcnt τ 6 x = pcnt σ 6 x := pcnt_cong (AF_r h (b := 6 + 2) (by omega)) x
theorem AF_planB {σ τ : Mem} (h : AF σ τ) (hp : planB σ 6) : planB τ 6 := by
  unfold planB; rw [AF_r h (b := 6 + 2) (by omega), AF_r h (b := 6 + 1) (by omega)]; exact hp
theorem AF_lawOk {σ τ : Mem} (h : AF σ τ) (hl : lawOk σ) : lawOk τ := by
  unfold lawOk
  rw [h.2]
  rcases hl with hl | ⟨h1, h2⟩
  · exact Or.inl hl
  · refine Or.inr ⟨h1, ?_⟩
    rw [show τ (σ 26 1 + 1) = σ (σ 26 1 + 1) from by unfold isLw at h1; exact h.1 _ (by omega) (by omega) (by omega) (by omega) (by omega) (by omega) (by omega) (by omega) (by omega)]
    exact h2
theorem AF_up {σ τ : Mem} (h : AF σ τ) {a k v : Int} (ha : (16 ≤ a ∧ a ≤ 20) ∨ (31 ≤ a ∧ a ≤ 33)) : AF σ (up τ a k v) := ⟨fun b h0 h1 h2 h3 h4 h5 h6 h7 h8 => by rw [up_na _ (by omega)]; exact h.1 b h0 h1 h2 h3 h4 h5 h6 h7 h8, by rw [up_na _ (by omega)]; exact h.2⟩
theorem AF_rm (σ : Mem) : AF σ (rmM σ) := ⟨fun b h0 h1 _ _ _ _ _ _ _ => rmM_o σ (by omega) (by omega), by rw [rmM_o σ (by decide) (by decide)]⟩
theorem rm_31 (σ : Mem) : rmM σ 31 1 = σ 31 1 ∧ rmM σ 31 4 = (σ 31 4 + 1) % 40 ∧ rmM σ 31 3 = min 40 (σ 31 3 + 1) := by
  unfold rmM
  refine ⟨?_, ?_, ?_⟩
  · rw [up_nj _ (by decide), up_nj _ (by decide), up_na _ (by decide), savR_o _ (by decide)]
  · rw [up_nj _ (by decide), up_s]
  · rw [up_s]
theorem rm_past {σ : Mem} (h : pastOk σ) : pastOk (rmM σ) := by
  obtain ⟨r1, r2, r3⟩ := rm_31 σ
  obtain ⟨p1, p2, p3⟩ := h
  unfold pastOk
  rw [r1, r2, r3]
  omega
/-- an EVENING keeps what ACTS need -/
theorem evS_x {σ τ : Mem} {p : Int} (hx : xA σ) (hp : 0 ≤ p ∧ p < pcnt σ 6 1) (he : σ 16 6 < 1999) (hw : σ 31 1 < 1000000) (h : evS σ p τ) : xA τ ∧ AF σ τ ∧ τ 31 1 = σ 31 1 + 1 ∧ τ 16 6 = σ 16 6 + 1 := by
  obtain ⟨υ, hs, rfl⟩ := h
  obtain ⟨⟨hst, hse, h9, hsi⟩, hpa, ⟨a1, a2, a3⟩, hte, hp4, hpr, hmo⟩ := hx
  obtain ⟨-, hB, hl, hh, hev, hil⟩ := id hst
  have h9p := h9 p
  have c2 := pcnt_b hB 2
  have hP := rmM_SP σ
  obtain ⟨f1, f2⟩ := SP_pFl hP hst p
  have pc2 : pcnt (rmM σ) 6 2 = pcnt σ 6 2 := SP_pcnt hP 2
  obtain ⟨s1, s2, s3, s4, s5, s6⟩ := hs
  rw [pc2, f2] at s4
  rw [pc2, f1] at s5
  have o16 : rmM σ 16 = σ 16 := rmM_o σ (by decide) (by decide)
  have o17 : rmM σ 17 = σ 17 := rmM_o σ (by decide) (by decide)
  have o20 : rmM σ 20 = σ 20 := rmM_o σ (by decide) (by decide)
  have hA : AF σ υ := by
    refine ⟨fun b h0 h1 h2 h3 h4 h5 h6 h7 h8 => ?_, ?_⟩
    · rw [s1 b (by omega) (by omega) (by omega) (by omega) (by omega) (by omega) (by omega) (by omega) h5 h6 h7 h8]
      exact rmM_o σ (by omega) (by omega)
    · rw [s2, rmM_o σ (by decide) (by decide)]
  have u31 : υ 31 = rmM σ 31 := s1 _ (by decide) (by decide) (by decide) (by decide) (by decide) (by decide) (by decide) (by decide) (by decide) (by decide) (by decide) (by decide)
  have u18 : υ 18 = σ 18 := by rw [s1 18 (by decide) (by decide) (by decide) (by decide) (by decide) (by decide) (by decide) (by decide) (by decide) (by decide) (by decide) (by decide)]; exact rmM_o σ (by decide) (by decide)
  have u19 : υ 19 = σ 19 := by rw [s1 19 (by decide) (by decide) (by decide) (by decide) (by decide) (by decide) (by decide) (by decide) (by decide) (by decide) (by decide) (by decide)]; exact rmM_o σ (by decide) (by decide)
  have e17 : (16 : Int) + 1 = 17 := rfl
  have e18 : (16 : Int) + 2 = 18 := rfl
  have e19 : (16 : Int) + 3 = 19 := rfl
  have e20 : (16 : Int) + 4 = 20 := rfl
  rw [e17, o17] at s4
  rw [e20, o20] at s5
  rw [o16] at s3
  obtain ⟨r1, r2, r3⟩ := rm_31 σ
  obtain ⟨p1, p2, p3⟩ := id hpa
  have w31 : ∀ j, wrM υ p (evMv σ p) (evOb σ p) 31 j = if j = 1 then σ 31 1 + 1 else rmM σ 31 j := fun j => by
    unfold wrM
    by_cases e : j = 1
    · rw [e, up_s, if_pos rfl, u31, r1]
    · rw [up_nj _ e, up_na _ (by decide), u31, if_neg e]
  have wo : ∀ b, b ≠ 31 → b ≠ 32 → wrM υ p (evMv σ p) (evOb σ p) b = υ b := fun b q1 q2 => by unfold wrM; rw [up_na _ q1, up_na _ q2]
  have hA2 : AF σ (wrM υ p (evMv σ p) (evOb σ p)) := AF_up (AF_up hA (by omega)) (by omega)
  have w16 : wrM υ p (evMv σ p) (evOb σ p) 16 = υ 16 := wo 16 (by decide) (by decide)
  have w17 : wrM υ p (evMv σ p) (evOb σ p) 17 = υ 17 := wo 17 (by decide) (by decide)
  have w18 : wrM υ p (evMv σ p) (evOb σ p) 18 = σ 18 := by rw [wo 18 (by decide) (by decide)]; exact u18
  have w19 : wrM υ p (evMv σ p) (evOb σ p) 19 = σ 19 := by rw [wo 19 (by decide) (by decide)]; exact u19
  have w20 : wrM υ p (evMv σ p) (evOb σ p) 20 = υ 20 := wo 20 (by decide) (by decide)
  have v6 : υ 16 6 = σ 16 6 + 1 := by rw [s3 6, if_neg (by decide), if_pos rfl]
  have v4 : υ 16 4 = 0 := by rw [s3 4, if_pos rfl]
  have v5 : υ 16 5 = σ 16 5 := by rw [s3 5, if_neg (by decide), if_neg (by decide)]
  refine ⟨⟨⟨⟨isA16, AF_planB hA2 hB, AF_lawOk hA2 hl, fun i i0 i1 => ?_, ?_, ?_⟩, ?_, ?_, ?_⟩, ?_, ⟨?_, ?_, ?_⟩, ?_, ?_, ?_, ?_⟩, hA2, ?_, ?_⟩
  · rw [e17, w17, s4 i]
    have := hh i i0 i1
    rw [e17] at this
    split <;> omega
  · rw [w16, v6]; omega
  · rw [w16, v4]; exact ⟨by decide, by decide⟩
  · rw [w18]; exact hse
  · intro q; rw [AF_pval hA2]; exact h9 q
  · rw [w18, AF_pcnt hA2, AF_pcnt hA2]; exact hsi
  · unfold pastOk
    rw [w31 4, w31 3, w31 1, if_neg (by decide), if_neg (by decide), if_pos rfl, r2, r3]
    omega
  · rw [e18, w18]; exact a1
  · rw [e19, w19]; exact a2
  · rw [w16, v5]; exact a3
  · rw [AF_pcnt hA2, w20]
    intro i i0 i1
    have fb := pFl_b (a := 16) hB h9p (i := i) i0 (by omega)
    have := hte i i0 i1
    rw [s5 i, if_pos ⟨i0, i1⟩]
    omega
  · rw [AF_pcnt hA2]; exact hp4
  · rw [w16, v5]; exact hpr
  · rw [AF_pcnt hA2, w19]; exact hmo
  · rw [w31 1, if_pos rfl]
  · rw [w16, v6]
