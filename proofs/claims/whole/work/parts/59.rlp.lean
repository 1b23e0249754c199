/-! LawReader: cell 9 (2 size, 4 waits, 5 side, 6 within, 7 brackets, 8 rounds, 9 skipAt, 10 wantsAtom, 11 unitMayBegin), code 10, waiting 11 -/
/-- only the reader's own cells and the finger have changed -/
def RdX (σ τ : Mem) (p : Int) : Prop := (∀ b, b ≠ 1 → b ≠ 9 → b ≠ 10 → b ≠ 11 → τ b = σ b) ∧ (∀ k, k ≠ 2 → τ 1 k = σ 1 k) ∧ τ 1 2 = p
def RdP (σ τ : Mem) (p : Int) (C W : List Int) (sd wi br ro ska wa um : Int) : Prop :=
  RdX σ τ p ∧ (τ 9 2 = C.length ∧ lst (τ 10) 0 C) ∧ (τ 9 4 = W.length ∧ stk (τ 11) W ∧ ∀ a ∈ W, 0 ≤ a ∧ a ≤ 255) ∧ τ 9 5 = sd ∧ τ 9 6 = wi ∧ τ 9 7 = br ∧ τ 9 8 = ro ∧ τ 9 9 = ska ∧ τ 9 10 = wa ∧ τ 9 11 = um
theorem RdX_t {σ τ : Mem} {p : Int} (h : RdX σ τ p) : tsg τ = tsg σ ∧ τ 1 1 = σ 1 1 := by
  have h1 := h.2.1 1 (by decide)
  exact ⟨tsg_cong h1 (h.1 2 (by decide) (by decide) (by decide) (by decide)), h1⟩
theorem RdX_ok {σ τ : Mem} {p : Int} (h : RdX σ τ p) (ht : tapeOk σ) : tapeOk τ := by
  unfold tapeOk; rw [(RdX_t h).2, h.1 2 (by decide) (by decide) (by decide) (by decide)]; exact ht
theorem RdX_p {σ τ : Mem} {p : Int} (h : RdX σ τ p) (q : Int) : RdX σ (up τ 1 2 q) q :=
  ⟨fun b h1 h2 h3 h4 => by rw [up_na _ h1]; exact h.1 b h1 h2 h3 h4, fun k hk => by rw [up_nj _ hk]; exact h.2.1 k hk, up_s _ _ _ _⟩
theorem RdX_9 {σ τ : Mem} {p : Int} (h : RdX σ τ p) {a : Int} (ha : a = 9 ∨ a = 10 ∨ a = 11) (k v : Int) : RdX σ (up τ a k v) p :=
  ⟨fun b h1 h2 h3 h4 => by rw [up_na _ (by omega)]; exact h.1 b h1 h2 h3 h4, fun j hj => by rw [up_na _ (by omega)]; exact h.2.1 j hj, by rw [up_na _ (by omega)]; exact h.2.2⟩
theorem up_row (σ : Mem) (a k v : Int) : up σ a k v a = upf (σ a) k v := by
  funext j; unfold up upf; simp
theorem lst_up {f : Int → Int} {k v : Int} : ∀ {l : List Int} {i : Int}, i + l.length ≤ k → lst f i l → lst (upf f k v) i l := by
  intro l
  induction l with
  | nil => intro _ _ _; trivial
  | cons a l ih =>
    intro i h1 h2
    have h3 : i + ((l.length : Int) + 1) ≤ k := by simpa using h1
    exact ⟨by unfold upf; rw [if_neg (by omega)]; exact h2.1, ih (by omega) h2.2⟩
theorem RdP_p {σ τ : Mem} {p : Int} {C W : List Int} {sd wi br ro ska wa um : Int} (h : RdP σ τ p C W sd wi br ro ska wa um) (q : Int) : RdP σ (up τ 1 2 q) q C W sd wi br ro ska wa um := by
  obtain ⟨a1, a4, a6, b⟩ := h
  refine ⟨RdX_p a1 q, ?_, ?_, ?_⟩
  · rw [up_na _ (by decide), up_na _ (by decide)]; exact a4
  · rw [up_na _ (by decide), up_na _ (by decide)]; exact a6
  · rw [up_na _ (by decide)]; exact b
theorem RdP_5 {σ τ : Mem} {p : Int} {C W : List Int} {sd wi br ro ska wa um : Int} (h : RdP σ τ p C W sd wi br ro ska wa um) (v : Int) : RdP σ (up τ 9 5 v) p C W v wi br ro ska wa um := by
  obtain ⟨a1, a4, a6, b5, b6, b7, b8, b9, b10, b11⟩ := h
  refine ⟨RdX_9 a1 (Or.inl rfl) _ _, ⟨by rw [up_nj _ (by decide)]; exact a4.1, by rw [up_na _ (by decide)]; exact a4.2⟩, ⟨by rw [up_nj _ (by decide)]; exact a6.1, by rw [up_na _ (by decide)]; exact a6.2⟩, up_s _ _ _ _, by rw [up_nj _ (by decide)]; exact b6, by rw [up_nj _ (by decide)]; exact b7, by rw [up_nj _ (by decide)]; exact b8, by rw [up_nj _ (by decide)]; exact b9, by rw [up_nj _ (by decide)]; exact b10, by rw [up_nj _ (by decide)]; exact b11⟩
theorem RdP_6 {σ τ : Mem} {p : Int} {C W : List Int} {sd wi br ro ska wa um : Int} (h : RdP σ τ p C W sd wi br ro ska wa um) (v : Int) : RdP σ (up τ 9 6 v) p C W sd v br ro ska wa um := by
  obtain ⟨a1, a4, a6, b5, b6, b7, b8, b9, b10, b11⟩ := h
  refine ⟨RdX_9 a1 (Or.inl rfl) _ _, ⟨by rw [up_nj _ (by decide)]; exact a4.1, by rw [up_na _ (by decide)]; exact a4.2⟩, ⟨by rw [up_nj _ (by decide)]; exact a6.1, by rw [up_na _ (by decide)]; exact a6.2⟩, by rw [up_nj _ (by decide)]; exact b5, up_s _ _ _ _, by rw [up_nj _ (by decide)]; exact b7, by rw [up_nj _ (by decide)]; exact b8, by rw [up_nj _ (by decide)]; exact b9, by rw [up_nj _ (by decide)]; exact b10, by rw [up_nj _ (by decide)]; exact b11⟩
theorem RdP_7 {σ τ : Mem} {p : Int} {C W : List Int} {sd wi br ro ska wa um : Int} (h : RdP σ τ p C W sd wi br ro ska wa um) (v : Int) : RdP σ (up τ 9 7 v) p C W sd wi v ro ska wa um := by
  obtain ⟨a1, a4, a6, b5, b6, b7, b8, b9, b10, b11⟩ := h
  refine ⟨RdX_9 a1 (Or.inl rfl) _ _, ⟨by rw [up_nj _ (by decide)]; exact a4.1, by rw [up_na _ (by decide)]; exact a4.2⟩, ⟨by rw [up_nj _ (by decide)]; exact a6.1, by rw [up_na _ (by decide)]; exact a6.2⟩, by rw [up_nj _ (by decide)]; exact b5, by rw [up_nj _ (by decide)]; exact b6, up_s _ _ _ _, by rw [up_nj _ (by decide)]; exact b8, by rw [up_nj _ (by decide)]; exact b9, by rw [up_nj _ (by decide)]; exact b10, by rw [up_nj _ (by decide)]; exact b11⟩
theorem RdP_8 {σ τ : Mem} {p : Int} {C W : List Int} {sd wi br ro ska wa um : Int} (h : RdP σ τ p C W sd wi br ro ska wa um) (v : Int) : RdP σ (up τ 9 8 v) p C W sd wi br v ska wa um := by
  obtain ⟨a1, a4, a6, b5, b6, b7, b8, b9, b10, b11⟩ := h
  refine ⟨RdX_9 a1 (Or.inl rfl) _ _, ⟨by rw [up_nj _ (by decide)]; exact a4.1, by rw [up_na _ (by decide)]; exact a4.2⟩, ⟨by rw [up_nj _ (by decide)]; exact a6.1, by rw [up_na _ (by decide)]; exact a6.2⟩, by rw [up_nj _ (by decide)]; exact b5, by rw [up_nj _ (by decide)]; exact b6, by rw [up_nj _ (by decide)]; exact b7, up_s _ _ _ _, by rw [up_nj _ (by decide)]; exact b9, by rw [up_nj _ (by decide)]; exact b10, by rw [up_nj _ (by decide)]; exact b11⟩
theorem RdP_9 {σ τ : Mem} {p : Int} {C W : List Int} {sd wi br ro ska wa um : Int} (h : RdP σ τ p C W sd wi br ro ska wa um) (v : Int) : RdP σ (up τ 9 9 v) p C W sd wi br ro v wa um := by
  obtain ⟨a1, a4, a6, b5, b6, b7, b8, b9, b10, b11⟩ := h
  refine ⟨RdX_9 a1 (Or.inl rfl) _ _, ⟨by rw [up_nj _ (by decide)]; exact a4.1, by rw [up_na _ (by decide)]; exact a4.2⟩, ⟨by rw [up_nj _ (by decide)]; exact a6.1, by rw [up_na _ (by decide)]; exact a6.2⟩, by rw [up_nj _ (by decide)]; exact b5, by rw [up_nj _ (by decide)]; exact b6, by rw [up_nj _ (by decide)]; exact b7, by rw [up_nj _ (by decide)]; exact b8, up_s _ _ _ _, by rw [up_nj _ (by decide)]; exact b10, by rw [up_nj _ (by decide)]; exact b11⟩
theorem RdP_10 {σ τ : Mem} {p : Int} {C W : List Int} {sd wi br ro ska wa um : Int} (h : RdP σ τ p C W sd wi br ro ska wa um) (v : Int) : RdP σ (up τ 9 10 v) p C W sd wi br ro ska v um := by
  obtain ⟨a1, a4, a6, b5, b6, b7, b8, b9, b10, b11⟩ := h
  refine ⟨RdX_9 a1 (Or.inl rfl) _ _, ⟨by rw [up_nj _ (by decide)]; exact a4.1, by rw [up_na _ (by decide)]; exact a4.2⟩, ⟨by rw [up_nj _ (by decide)]; exact a6.1, by rw [up_na _ (by decide)]; exact a6.2⟩, by rw [up_nj _ (by decide)]; exact b5, by rw [up_nj _ (by decide)]; exact b6, by rw [up_nj _ (by decide)]; exact b7, by rw [up_nj _ (by decide)]; exact b8, by rw [up_nj _ (by decide)]; exact b9, up_s _ _ _ _, by rw [up_nj _ (by decide)]; exact b11⟩
theorem RdP_11 {σ τ : Mem} {p : Int} {C W : List Int} {sd wi br ro ska wa um : Int} (h : RdP σ τ p C W sd wi br ro ska wa um) (v : Int) : RdP σ (up τ 9 11 v) p C W sd wi br ro ska wa v := by
  obtain ⟨a1, a4, a6, b5, b6, b7, b8, b9, b10, b11⟩ := h
  refine ⟨RdX_9 a1 (Or.inl rfl) _ _, ⟨by rw [up_nj _ (by decide)]; exact a4.1, by rw [up_na _ (by decide)]; exact a4.2⟩, ⟨by rw [up_nj _ (by decide)]; exact a6.1, by rw [up_na _ (by decide)]; exact a6.2⟩, by rw [up_nj _ (by decide)]; exact b5, by rw [up_nj _ (by decide)]; exact b6, by rw [up_nj _ (by decide)]; exact b7, by rw [up_nj _ (by decide)]; exact b8, by rw [up_nj _ (by decide)]; exact b9, by rw [up_nj _ (by decide)]; exact b10, up_s _ _ _ _⟩
theorem RdP_emit {σ τ : Mem} {p : Int} {C W : List Int} {sd wi br ro ska wa um : Int} (h : RdP σ τ p C W sd wi br ro ska wa um) (x : Int) : RdP σ (up (up τ 10 C.length x) 9 2 (C.length + 1)) p (C ++ [x]) W sd wi br ro ska wa um := by
  obtain ⟨a1, a4, a6, b5, b6, b7, b8, b9, b10, b11⟩ := h
  have e : ∀ j, j ≠ 2 → up (up τ 10 C.length x) 9 2 (C.length + 1) 9 j = τ 9 j := fun j hj => by rw [up_nj _ hj, up_na _ (by decide)]
  refine ⟨RdX_9 (RdX_9 a1 (Or.inr (Or.inl rfl)) _ _) (Or.inl rfl) _ _, ⟨by rw [up_s, List.length_append]; rfl, ?_⟩, ⟨by rw [e 4 (by decide)]; exact a6.1, by rw [up_na _ (by decide), up_na _ (by decide)]; exact a6.2⟩, by rw [e 5 (by decide)]; exact b5, by rw [e 6 (by decide)]; exact b6, by rw [e 7 (by decide)]; exact b7, by rw [e 8 (by decide)]; exact b8, by rw [e 9 (by decide)]; exact b9, by rw [e 10 (by decide)]; exact b10, by rw [e 11 (by decide)]; exact b11⟩
  rw [up_na _ (by decide), up_row, lst_app]
  refine ⟨lst_up (by omega) a4.2, ?_, trivial⟩
  rw [Int.zero_add]; unfold upf; rw [if_pos rfl]
theorem RdP_hold {σ τ : Mem} {p : Int} {C W : List Int} {sd wi br ro ska wa um : Int} (h : RdP σ τ p C W sd wi br ro ska wa um) {x : Int} (hx : 0 ≤ x ∧ x ≤ 255) : RdP σ (up (up τ 11 W.length x) 9 4 (W.length + 1)) p C (x :: W) sd wi br ro ska wa um := by
  obtain ⟨a1, a4, a6, b5, b6, b7, b8, b9, b10, b11⟩ := h
  have e : ∀ j, j ≠ 4 → up (up τ 11 W.length x) 9 4 (W.length + 1) 9 j = τ 9 j := fun j hj => by rw [up_nj _ hj, up_na _ (by decide)]
  refine ⟨RdX_9 (RdX_9 a1 (Or.inr (Or.inr rfl)) _ _) (Or.inl rfl) _ _, ⟨by rw [e 2 (by decide)]; exact a4.1, by rw [up_na _ (by decide), up_na _ (by decide)]; exact a4.2⟩, ⟨by rw [up_s]; rfl, ?_, List.forall_mem_cons.mpr ⟨hx, a6.2.2⟩⟩, by rw [e 5 (by decide)]; exact b5, by rw [e 6 (by decide)]; exact b6, by rw [e 7 (by decide)]; exact b7, by rw [e 8 (by decide)]; exact b8, by rw [e 9 (by decide)]; exact b9, by rw [e 10 (by decide)]; exact b10, by rw [e 11 (by decide)]; exact b11⟩
  rw [up_na _ (by decide), up_row]
  exact ⟨by unfold upf; rw [if_pos rfl], stk_upf (Int.le_refl _) a6.2.1⟩
theorem RdP_pop {σ τ : Mem} {p : Int} {C W : List Int} {a sd wi br ro ska wa um : Int} (h : RdP σ τ p C (a :: W) sd wi br ro ska wa um) : RdP σ (up τ 9 4 W.length) p C W sd wi br ro ska wa um := by
  obtain ⟨a1, a4, a6, b5, b6, b7, b8, b9, b10, b11⟩ := h
  have e : ∀ j, j ≠ 4 → up τ 9 4 W.length 9 j = τ 9 j := fun j hj => by rw [up_nj _ hj]
  exact ⟨RdX_9 a1 (Or.inl rfl) _ _, ⟨by rw [e 2 (by decide)]; exact a4.1, by rw [up_na _ (by decide)]; exact a4.2⟩, ⟨up_s _ _ _ _, by rw [up_na _ (by decide)]; exact a6.2.1.2, fun b hb => a6.2.2 b (List.mem_cons_of_mem _ hb)⟩, by rw [e 5 (by decide)]; exact b5, by rw [e 6 (by decide)]; exact b6, by rw [e 7 (by decide)]; exact b7, by rw [e 8 (by decide)]; exact b8, by rw [e 9 (by decide)]; exact b9, by rw [e 10 (by decide)]; exact b10, by rw [e 11 (by decide)]; exact b11⟩
