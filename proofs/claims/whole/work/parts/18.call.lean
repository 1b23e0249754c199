/-! calls -/
theorem amSt.move {n0 : Nat} {ρ ρ' : Int → Nat} {s U : State} (h : amSt n0 ρ s) (hW : s.WarmedH U.vm) (hq : ∀ a : Nat, a < s.heap.size → ¬ n0 ≤ a → U.heap[a]? = s.heap[a]?) (hρ : ∀ a, 20000 ≤ a → ρ' a = ρ a) : amSt n0 ρ' U := by
  obtain ⟨h1, h2, h3, h4, h5⟩ := h
  refine ⟨fun k q hk => ?_, fun k q hk => ?_, ?_, ?_, fun q hq9 => (h5 q hq9).warmM hW⟩
  · obtain ⟨a1, a2, a3, a4, a5⟩ := h1 k q hk
    unfold amStK
    rw [hρ (20000 + k) (by omega), hρ (20100 + k) (by omega)]
    exact ⟨a1.warm hW, (a2.kept hq).moved hW.alike, (a3.kept hq).moved hW.alike, (a4.kept hq).moved hW.alike, (a5.kept hq).moved hW.alike⟩
  · obtain ⟨a1, a2⟩ := h2 k q hk
    unfold amSaK
    rw [hρ (21000 + k) (by omega)]
    exact ⟨(a1.kept hq).moved hW.alike, (a2.kept hq).moved hW.alike⟩
  · exact (h3.kept hq).moved hW.alike
  · rw [hρ 22000 (by omega)]
    exact h4.elim (fun h => Or.inl ((h.kept hq).moved hW.alike)) (fun h => Or.inr ((h.kept hq).moved hW.alike))
theorem amSt.same {n0 : Nat} {ρ : Int → Nat} {s U : State} (h : amSt n0 ρ s) (hv : U.vm = s.vm) (hh : U.heap = s.heap) : amSt n0 ρ U := by
  obtain ⟨h1, h2, h3, h4, h5⟩ := h
  have ha : s.vm.Alike U.vm := by rw [hv]; exact Vm.Alike.refl _
  refine ⟨fun k q hk => ?_, fun k q hk => ?_, ?_, ?_, fun q hq9 => (h5 q hq9).same rfl hv.symm⟩
  · obtain ⟨a1, a2, a3, a4, a5⟩ := h1 k q hk
    unfold amStK
    rw [hh]
    exact ⟨a1.same hv, a2.moved ha, a3.moved ha, a4.moved ha, a5.moved ha⟩
  · obtain ⟨a1, a2⟩ := h2 k q hk
    unfold amSaK
    rw [hh]
    exact ⟨a1.moved ha, a2.moved ha⟩
  · rw [hh]; exact h3.moved ha
  · rw [hh]; exact h4.elim (fun h => Or.inl (h.moved ha)) (fun h => Or.inr (h.moved ha))
theorem amPc.blind {D : va_G} {ca : Nat → ClassId} {T : Int → Kd} {n0 : Nat} {ρ0 : Int → Nat} {σ0 : Mem} {av : List AV} : FrameBlind (amPc D ca T n0 ρ0 σ0 av) := by
  intro a U g mk ⟨h1, h2, h3, h4, h5, h6⟩
  exact ⟨h1, h2, h3, va_K.moved (u := U) (U := U.calling g mk a) (Vm.Alike.refl U.vm) h4, h5.same rfl rfl, h6⟩
theorem ag_val {T : Int → Kd} {ρ ρ' : Int → Nat} {σ σ' : Mem} (hag : amAg ρ ρ' σ σ') {v : AV} (hv : okv T σ v) : v.1 ≠ 6 → v.1 ≠ 7 → am_val ρ' v = am_val ρ v := by
  intro h6 h7
  obtain ⟨t, z⟩ := v
  dsimp only at h6 h7
  match t, hv, h6, h7 with
  | 0, _, _, _ => rfl
  | 1, _, _, _ => rfl
  | t + 2, hv, h6, h7 =>
    rw [am_val_r ρ' z (by omega), am_val_r ρ z (by omega)]
    by_cases hz : z < 0
    · rw [if_pos hz, if_pos hz]
    · rw [if_neg hz, if_neg hz]
      by_cases h8 : t + 2 < 8
      · have := hv.2 (show 2 ≤ t + 2 by omega) (show t + 2 < 6 by omega)
        rw [hag.2 z (this.resolve_left hz)]
      · rcases hv.1 (show 8 ≤ t + 2 by omega) with h | ⟨h, -⟩
        · exact absurd h hz
        · rw [(hag.1 z h).2]
theorem ag_lvl {T : Int → Kd} {ρ ρ' : Int → Nat} {σ σ' : Mem} (hag : amAg ρ ρ' σ σ') : ∀ (ls : List AV) (i : Nat), okl T σ ls → lvl ρ' i ls = lvl ρ i ls := by
  intro ls
  induction ls with
  | nil => intro i _; rfl
  | cons v ls ih =>
    intro i h
    have := ih (i + 1) (okl_c.mp h).2
    unfold lvl
    by_cases hv : v.1 = 6 ∨ v.1 = 7
    · rw [if_pos hv, if_pos hv]; exact this
    · rw [if_neg hv, if_neg hv, this, ag_val hag (okl_c.mp h).1 (fun e => hv (Or.inl e)) (fun e => hv (Or.inr e))]
theorem ag_st {T : Int → Kd} {ρ ρ' : Int → Nat} {σ σ' : Mem} (hag : amAg ρ ρ' σ σ') {st : List AV} (h : okl T σ st) (h67 : ∀ v ∈ st, v.1 ≠ 6 ∧ v.1 ≠ 7) : st.map (am_val ρ') = st.map (am_val ρ) := by
  apply List.map_congr_left
  intro v hv
  exact ag_val hag (h v hv) (h67 v hv).1 (h67 v hv).2
theorem okv_ag {T : Int → Kd} {ρ ρ' : Int → Nat} {σ σ' : Mem} (hag : amAg ρ ρ' σ σ') {v : AV} (h : okv T σ v) : okv T σ' v :=
  ⟨fun h8 => (h.1 h8).elim Or.inl (fun q => Or.inr ⟨(hag.1 _ q.1).1, q.2⟩), h.2⟩
theorem ag_tr {ρ0 ρ ρ' : Int → Nat} {σ0 σ σ' : Mem} (h : amAg ρ0 ρ σ0 σ) (h' : amAg ρ ρ' σ σ') : amAg ρ0 ρ' σ0 σ' :=
  ⟨fun a ha => ⟨(h'.1 a (h.1 a ha).1).1, ((h'.1 a (h.1 a ha).1).2).trans (h.1 a ha).2⟩, fun a ha => (h'.2 a ha).trans (h.2 a ha)⟩
