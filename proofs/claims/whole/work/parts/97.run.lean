/-! ArmchairHouse: the audience apart -/
def xP (σ : Mem) : Prop := stOk σ 21 ∧ (∀ i, 0 ≤ i → i < 6 → InR (σ 23 i)) ∧ (∀ p, pval σ 6 1 p 3 ≤ 9) ∧ (∀ i, 0 ≤ i → i < pcnt σ 6 2 → 0 ≤ σ 23 i ∧ σ 23 i < pcnt σ 6 3) ∧ (∀ i, 0 ≤ i → i < 6 → InR (σ 24 i)) ∧ (∀ i, 0 ≤ i → i < pcnt σ 6 2 → 0 ≤ σ 25 i ∧ σ 25 i ≤ 9999) ∧ (0 ≤ σ 21 5 ∧ σ 21 5 ≤ 30) ∧ ∀ i, 0 ≤ i → i < pcnt σ 6 2 → 0 ≤ σ 24 i ∧ σ 24 i ≤ 99
theorem ap_x {σ : Mem} (hx : xA σ) : xP (apM σ) ∧ SA σ (apM σ) := by
  obtain ⟨⟨hst, hse, h9, hsi⟩, hpa, ⟨a1, a2, a3⟩, hte, hp4, hpr, hmo⟩ := hx
  have hS : SA σ (apM σ) := SA_set σ _
  obtain ⟨r1, r2, r3, r4⟩ := apM_r σ
  have c2 := pcnt_b hst.2.1 2
  refine ⟨⟨apM_st hst, ?_, ?_, ?_, ?_, ?_, ?_, ?_⟩, hS⟩
  · intro i i0 i1; rw [(r1 i i0 i1).2.1]; exact hse i i0 i1
  · intro p; rw [SA_pval hS]; exact h9 p
  · rw [SA_pcnt hS, SA_pcnt hS]; intro i i0 i1; rw [(r1 i i0 (by omega)).2.1]; exact hsi i i0 i1
  · intro i i0 i1; rw [(r1 i i0 i1).2.2.1]; exact a2 i i0 i1
  · rw [SA_pcnt hS]; intro i i0 i1; rw [(r1 i i0 (by omega)).2.2.2]; exact hte i i0 i1
  · rw [r3]; exact hpr
  · rw [SA_pcnt hS]; intro i i0 i1; rw [(r1 i i0 (by omega)).2.2.1]; exact hmo i i0 i1
theorem shA_x {σ υ : Mem} {p : Int} (hx : xP σ) (he : σ 21 6 < 1999) (hs : shP σ υ 21 p) : xP υ ∧ SA σ υ := by
  obtain ⟨hst, hse, h9, hsi, hmi, hte, hpr, hmo⟩ := hx
  obtain ⟨-, hB, hl, hh, hev, hil⟩ := id hst
  have h9p := h9 p
  have c2 := pcnt_b hB 2
  obtain ⟨s1, s2, s3, s4, s5, s6⟩ := hs
  have e22 : (21 : Int) + 1 = 22 := rfl
  have e25 : (21 : Int) + 4 = 25 := rfl
  rw [e22] at s4 hh
  rw [e25] at s5
  have hS : SA σ υ := ⟨fun b h0 h1 h2 h3 h4 h5 h6 h7 => s1 b (by omega) (by omega) (by omega) (by omega) (by omega) (by omega) (by omega) (by omega) h4 h5 h6 h7, s2⟩
  have u23 : υ 23 = σ 23 := s1 23 (by decide) (by decide) (by decide) (by decide) (by decide) (by decide) (by decide) (by decide) (by decide) (by decide) (by decide) (by decide)
  have u24 : υ 24 = σ 24 := s1 24 (by decide) (by decide) (by decide) (by decide) (by decide) (by decide) (by decide) (by decide) (by decide) (by decide) (by decide) (by decide)
  have v6 : υ 21 6 = σ 21 6 + 1 := by rw [s3 6, if_neg (by decide), if_pos rfl]
  have v4 : υ 21 4 = 0 := by rw [s3 4, if_pos rfl]
  have v5 : υ 21 5 = σ 21 5 := by rw [s3 5, if_neg (by decide), if_neg (by decide)]
  refine ⟨⟨⟨isA21, SA_planB hS hB, SA_lawOk hS hl, fun i i0 i1 => ?_, ?_, ?_⟩, ?_, ?_, ?_, ?_, ?_, ?_, ?_⟩, hS⟩
  · rw [e22, s4 i]
    have := hh i i0 i1
    split <;> omega
  · rw [v6]; omega
  · rw [v4]; exact ⟨by decide, by decide⟩
  · rw [u23]; exact hse
  · intro q; rw [SA_pval hS]; exact h9 q
  · rw [u23, SA_pcnt hS, SA_pcnt hS]; exact hsi
  · rw [u24]; exact hmi
  · rw [SA_pcnt hS]
    intro i i0 i1
    have fb := pFl_b (a := 21) hB h9p (i := i) i0 (by omega)
    have := hte i i0 i1
    rw [s5 i, if_pos ⟨i0, i1⟩]
    omega
  · rw [v5]; exact hpr
  · rw [u24, SA_pcnt hS]; exact hmo
theorem SA_rf (σ : Mem) : SA σ σ := ⟨fun _ _ _ _ _ _ _ _ _ => rfl, rfl⟩
theorem tkA_x {σ : Mem} {c t : Int} (hx : xP σ) (hc : okC σ 21 c t) : xP (up (up σ 24 c (σ 24 c - σ 21 5)) 23 c t) ∧ SA σ (up (up σ 24 c (σ 24 c - σ 21 5)) 23 c t) := by
  obtain ⟨hst, hse, h9, hsi, hmi, hte, hpr, hmo⟩ := hx
  obtain ⟨⟨c0, c1⟩, ⟨t0, t1⟩, ne, le⟩ := hc
  have e23 : (21 : Int) + 2 = 23 := rfl
  have e24 : (21 : Int) + 3 = 24 := rfl
  rw [e23] at ne
  rw [e24] at le
  have c2 := pcnt_b hst.2.1 2
  have c3 := pcnt_b hst.2.1 3
  have hS : SA σ (up (up σ 24 c (σ 24 c - σ 21 5)) 23 c t) := SA_up (SA_up (SA_rf σ) (by omega)) (by omega)
  have r23 : ∀ i, up (up σ 24 c (σ 24 c - σ 21 5)) 23 c t 23 i = if i = c then t else σ 23 i := fun i => by
    by_cases e : i = c
    · rw [e, up_s, if_pos rfl]
    · rw [up_nj _ e, up_na _ (by decide), if_neg e]
  have r24 : ∀ i, up (up σ 24 c (σ 24 c - σ 21 5)) 23 c t 24 i = if i = c then σ 24 c - σ 21 5 else σ 24 i := fun i => by
    rw [up_na _ (by decide)]
    by_cases e : i = c
    · rw [e, up_s, if_pos rfl]
    · rw [up_nj _ e, if_neg e]
  have o : ∀ b, b ≠ 23 → b ≠ 24 → up (up σ 24 c (σ 24 c - σ 21 5)) 23 c t b = σ b := fun b q1 q2 => by rw [up_na _ q1, up_na _ q2]
  have mc := hmo c c0 c1
  refine ⟨⟨⟨isA21, SA_planB hS hst.2.1, SA_lawOk hS hst.2.2.1, ?_, ?_, ?_⟩, ?_, ?_, ?_, ?_, ?_, ?_, ?_⟩, hS⟩
  · rw [o _ (by decide) (by decide)]; exact hst.2.2.2.1
  · rw [o 21 (by decide) (by decide)]; exact hst.2.2.2.2.1
  · rw [o 21 (by decide) (by decide)]; exact hst.2.2.2.2.2
  · intro i i0 i1; rw [r23 i]; split
    · exact ⟨by omega, by omega⟩
    · exact hse i i0 i1
  · intro q; rw [SA_pval hS]; exact h9 q
  · rw [SA_pcnt hS, SA_pcnt hS]; intro i i0 i1; rw [r23 i]; split
    · exact ⟨t0, t1⟩
    · exact hsi i i0 i1
  · intro i i0 i1; rw [r24 i]; split
    · exact ⟨by omega, by omega⟩
    · exact hmi i i0 i1
  · rw [o 25 (by decide) (by decide), SA_pcnt hS]; exact hte
  · rw [o 21 (by decide) (by decide)]; exact hpr
  · rw [SA_pcnt hS]; intro i i0 i1; rw [r24 i]; split
    · omega
    · exact hmo i i0 i1
theorem ilA_x {σ : Mem} {v : Int} (hx : xP σ) (hv : InR v) : xP (up σ 21 4 v) ∧ SA σ (up σ 21 4 v) := by
  obtain ⟨hst, hse, h9, hsi, hmi, hte, hpr, hmo⟩ := hx
  have hS : SA σ (up σ 21 4 v) := SA_up (SA_rf σ) (by omega)
  have o : ∀ b, b ≠ 21 → up σ 21 4 v b = σ b := fun b q => up_na _ q
  have o5 : up σ 21 4 v 21 5 = σ 21 5 := up_nj _ (by decide)
  have o6 : up σ 21 4 v 21 6 = σ 21 6 := up_nj _ (by decide)
  refine ⟨⟨⟨isA21, SA_planB hS hst.2.1, SA_lawOk hS hst.2.2.1, ?_, ?_, ?_⟩, ?_, ?_, ?_, ?_, ?_, ?_, ?_⟩, hS⟩
  · rw [o _ (by decide)]; exact hst.2.2.2.1
  · rw [o6]; exact hst.2.2.2.2.1
  · rw [up_s]; exact hv
  · rw [o 23 (by decide)]; exact hse
  · intro q; rw [SA_pval hS]; exact h9 q
  · rw [o 23 (by decide), SA_pcnt hS, SA_pcnt hS]; exact hsi
  · rw [o 24 (by decide)]; exact hmi
  · rw [o 25 (by decide), SA_pcnt hS]; exact hte
  · rw [o5]; exact hpr
  · rw [o 24 (by decide), SA_pcnt hS]; exact hmo
/-- a STEP apart, and how much it moves -/
def stR (σ : Mem) (s i d : Int) (τ : Mem) : Prop := if σ 14 (s * 48 + i * 3) = 0 then (shP σ τ 21 (σ 14 (s * 48 + i * 3 + 1)) ∧ d = sumC (pFl σ 21 (σ 14 (s * 48 + i * 3 + 1))) (pcnt σ 6 2).toNat) else (τ = qsM σ s i 21 ∧ d = 0)
def rnX (s : Int) : Nat → Mem → Int → Mem → Prop
  | 0, σ, m, τ => τ = apM σ ∧ m = 0
  | k + 1, σ, m, τ => ∃ υ m0 d, rnX s k σ m0 υ ∧ csP υ s k 21 ∧ stR υ s k d τ ∧ m = m0 + d
theorem stR_x {σ τ : Mem} {s i d : Int} (hx : xP σ) (hc : csP σ s i 21) (h : stR σ s i d τ) : xP τ ∧ SA σ τ := by
  unfold stR at h
  unfold csP at hc
  by_cases k0 : σ 14 (s * 48 + i * 3) = 0
  · rw [if_pos k0] at h hc
    exact shA_x hx (by omega) h.1
  · rw [if_neg k0] at h hc
    obtain ⟨h, -⟩ := h
    unfold qsM at h
    by_cases k1 : σ 14 (s * 48 + i * 3) = 1
    · rw [if_pos k1] at h hc
      rw [show (21 : Int) + 3 = 24 from rfl, show (21 : Int) + 2 = 23 from rfl] at h
      rw [h]; exact tkA_x hx hc
    · rw [if_neg k1] at h
      rw [h]; exact ilA_x hx (amIor_in _ _)
