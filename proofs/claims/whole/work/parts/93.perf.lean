/-! ArmchairHouse: PERFORM -/
theorem rm_x {σ : Mem} (hx : xA σ) : xA (rmM σ) := by
  obtain ⟨⟨hst, hse, h9, hsi⟩, hpa, ⟨a1, a2, a3⟩, hte, hp4, hpr, hmo⟩ := hx
  have hP := rmM_SP σ
  have pc : ∀ x, pcnt (rmM σ) 6 x = pcnt σ 6 x := SP_pcnt hP
  have o : ∀ b, b ≠ 31 → b ≠ 33 → rmM σ b = σ b := fun b q1 q2 => rmM_o σ q1 q2
  refine ⟨⟨SP_stOk hP hst, ?_, ?_, ?_⟩, rm_past hpa, ⟨?_, ?_, ?_⟩, ?_, ?_, ?_, ?_⟩
  · rw [o 18 (by decide) (by decide)]; exact hse
  · intro q; rw [SP_pval hP]; exact h9 q
  · rw [o 18 (by decide) (by decide), pc, pc]; exact hsi
  · rw [o _ (by decide) (by decide)]; exact a1
  · rw [o _ (by decide) (by decide)]; exact a2
  · rw [o 16 (by decide) (by decide)]; exact a3
  · rw [o 20 (by decide) (by decide), pc]; exact hte
  · rw [pc]; exact hp4
  · rw [o 16 (by decide) (by decide)]; exact hpr
  · rw [o 19 (by decide) (by decide), pc]; exact hmo
theorem tk_x {σ : Mem} {c t : Int} (hx : xA σ) (hc : okC σ 16 c t) : xA (up (up σ 19 c (σ 19 c - σ 16 5)) 18 c t) ∧ AF σ (up (up σ 19 c (σ 19 c - σ 16 5)) 18 c t) := by
  obtain ⟨⟨hst, hse, h9, hsi⟩, hpa, ⟨a1, a2, a3⟩, hte, hp4, hpr, hmo⟩ := hx
  obtain ⟨⟨c0, c1⟩, ⟨t0, t1⟩, ne, le⟩ := hc
  have e18 : (16 : Int) + 2 = 18 := rfl
  have e19 : (16 : Int) + 3 = 19 := rfl
  rw [e18] at ne
  rw [e19] at le
  have c2 := pcnt_b hst.2.1 2
  have c3 := pcnt_b hst.2.1 3
  have hA : AF σ (up (up σ 19 c (σ 19 c - σ 16 5)) 18 c t) := AF_up (AF_up (AF_rf σ) (by omega)) (by omega)
  have r18 : ∀ i, up (up σ 19 c (σ 19 c - σ 16 5)) 18 c t 18 i = if i = c then t else σ 18 i := fun i => by
    by_cases e : i = c
    · rw [e, up_s, if_pos rfl]
    · rw [up_nj _ e, up_na _ (by decide), if_neg e]
  have r19 : ∀ i, up (up σ 19 c (σ 19 c - σ 16 5)) 18 c t 19 i = if i = c then σ 19 c - σ 16 5 else σ 19 i := fun i => by
    rw [up_na _ (by decide)]
    by_cases e : i = c
    · rw [e, up_s, if_pos rfl]
    · rw [up_nj _ e, if_neg e]
  have o : ∀ b, b ≠ 18 → b ≠ 19 → up (up σ 19 c (σ 19 c - σ 16 5)) 18 c t b = σ b := fun b q1 q2 => by rw [up_na _ q1, up_na _ q2]
  have mc := hmo c c0 c1
  refine ⟨⟨⟨⟨isA16, AF_planB hA hst.2.1, AF_lawOk hA hst.2.2.1, ?_, ?_, ?_⟩, ?_, ?_, ?_⟩, ?_, ⟨?_, ?_, ?_⟩, ?_, ?_, ?_, ?_⟩, hA⟩
  · rw [o _ (by decide) (by decide)]; exact hst.2.2.2.1
  · rw [o 16 (by decide) (by decide)]; exact hst.2.2.2.2.1
  · rw [o 16 (by decide) (by decide)]; exact hst.2.2.2.2.2
  · intro i i0 i1; rw [r18 i]; split
    · exact ⟨by omega, by omega⟩
    · exact hse i i0 i1
  · intro q; rw [AF_pval hA]; exact h9 q
  · rw [AF_pcnt hA, AF_pcnt hA]; intro i i0 i1; rw [r18 i]; split
    · exact ⟨t0, t1⟩
    · exact hsi i i0 i1
  · unfold pastOk; rw [o 31 (by decide) (by decide)]; exact hpa
  · rw [e18]; intro i i0 i1; rw [r18 i]; split
    · exact ⟨by omega, by omega⟩
    · exact hse i i0 i1
  · rw [e19]; intro i i0 i1; rw [r19 i]; split
    · exact ⟨by omega, by omega⟩
    · exact a2 i i0 i1
  · rw [o 16 (by decide) (by decide)]; exact a3
  · rw [o 20 (by decide) (by decide), AF_pcnt hA]; exact hte
  · rw [AF_pcnt hA]; exact hp4
  · rw [o 16 (by decide) (by decide)]; exact hpr
  · rw [AF_pcnt hA]; intro i i0 i1; rw [r19 i]; split
    · omega
    · exact hmo i i0 i1
theorem il_x {σ : Mem} {v : Int} (hx : xA σ) (hv : InR v) : xA (up σ 16 4 v) ∧ AF σ (up σ 16 4 v) := by
  obtain ⟨⟨hst, hse, h9, hsi⟩, hpa, ⟨a1, a2, a3⟩, hte, hp4, hpr, hmo⟩ := hx
  have hA : AF σ (up σ 16 4 v) := AF_up (AF_rf σ) (by omega)
  have o : ∀ b, b ≠ 16 → up σ 16 4 v b = σ b := fun b q => up_na _ q
  have o5 : up σ 16 4 v 16 5 = σ 16 5 := up_nj _ (by decide)
  have o6 : up σ 16 4 v 16 6 = σ 16 6 := up_nj _ (by decide)
  refine ⟨⟨⟨⟨isA16, AF_planB hA hst.2.1, AF_lawOk hA hst.2.2.1, ?_, ?_, ?_⟩, ?_, ?_, ?_⟩, ?_, ⟨?_, ?_, ?_⟩, ?_, ?_, ?_, ?_⟩, hA⟩
  · rw [o _ (by decide)]; exact hst.2.2.2.1
  · rw [o6]; exact hst.2.2.2.2.1
  · rw [up_s]; exact hv
  · rw [o 18 (by decide)]; exact hse
  · intro q; rw [AF_pval hA]; exact h9 q
  · rw [o 18 (by decide), AF_pcnt hA, AF_pcnt hA]; exact hsi
  · unfold pastOk; rw [o 31 (by decide)]; exact hpa
  · rw [o _ (by decide)]; exact a1
  · rw [o _ (by decide)]; exact a2
  · rw [o5]; exact a3
  · rw [o 20 (by decide), AF_pcnt hA]; exact hte
  · rw [AF_pcnt hA]; exact hp4
  · rw [o5]; exact hpr
  · rw [o 19 (by decide), AF_pcnt hA]; exact hmo
/-- a STEP that is done -/
def stS (σ : Mem) (s i : Int) (τ : Mem) : Prop := if σ 14 (s * 48 + i * 3) = 0 then evS σ (σ 14 (s * 48 + i * 3 + 1)) τ else τ = qsM (rmM σ) s i 16
def pfX (s : Int) : Nat → Mem → Mem → Prop
  | 0, σ, τ => τ = σ
  | k + 1, σ, τ => ∃ υ, pfX s k σ υ ∧ csP υ s k 16 ∧ stS υ s k τ
theorem stS_x {σ τ : Mem} {s i : Int} (hx : xA σ) (hw : σ 31 1 < 1000000) (hc : csP σ s i 16) (h : stS σ s i τ) : xA τ ∧ AF σ τ ∧ σ 31 1 ≤ τ 31 1 ∧ τ 31 1 ≤ σ 31 1 + 1 := by
  unfold stS at h
  unfold csP at hc
  by_cases k0 : σ 14 (s * 48 + i * 3) = 0
  · rw [if_pos k0] at h hc
    obtain ⟨g1, g2, g3, g4⟩ := evS_x hx ⟨hc.1, hc.2.1⟩ (by omega) hw h
    exact ⟨g1, g2, by omega, by omega⟩
  · rw [if_neg k0] at h hc
    have r14 : rmM σ 14 = σ 14 := rmM_o σ (by decide) (by decide)
    have hxr := rm_x hx
    have r31 := (rm_31 σ).1
    unfold qsM at h
    rw [r14] at h
    by_cases k1 : σ 14 (s * 48 + i * 3) = 1
    · rw [if_pos k1] at h hc
      have hc' : okC (rmM σ) 16 (σ 14 (s * 48 + i * 3 + 1)) (σ 14 (s * 48 + i * 3 + 2)) := by
        unfold okC
        rw [SP_pcnt (rmM_SP σ), SP_pcnt (rmM_SP σ), rmM_o σ (by decide) (by decide), rmM_o σ (by decide) (by decide), rmM_o σ (by decide) (by decide)]
        exact hc
      obtain ⟨g1, g2⟩ := tk_x hxr hc'
      rw [show (16 : Int) + 3 = 19 from rfl, show (16 : Int) + 2 = 18 from rfl] at h
      rw [h]
      refine ⟨g1, AF_tr (AF_rm σ) g2, ?_, ?_⟩ <;> rw [up_na _ (by decide), up_na _ (by decide), r31] <;> omega
    · rw [if_neg k1] at h
      obtain ⟨g1, g2⟩ := il_x hxr (amIor_in (rmM σ 16 4) (amIshl 1 (σ 14 (s * 48 + i * 3 + 1))))
      rw [h]
      refine ⟨g1, AF_tr (AF_rm σ) g2, ?_, ?_⟩ <;> rw [up_na _ (by decide), r31] <;> omega
