/-! heap: fields, arrays, constants; returns -/
def rfv (T : Int → Kd) (σ : Mem) (a : Int) (k : Nat) : Int := match T a with
  | .inl x => (x.2 k).getD (σ a k)
  | .inr _ => 0
def alen (T : Int → Kd) (σ : Mem) (a : Int) : Int := match T a with
  | .inl _ => 0
  | .inr x => am_len σ a x.2
theorem okv_at {T : Int → Kd} {σ : Mem} {t : Nat} {a : Int} (h : okv T σ (t, a)) (ht : 8 ≤ t) (ha : 0 ≤ a) : σ (-2) a = 1 ∧ tg (T a) = t := (h.1 ht).elim (fun h => absurd h (by show ¬ a < 0; omega)) id
theorem tg_obj {kd : Kd} {c : Nat} (h : tg kd = 16 + c) (hA : ∀ x, kd = .inr x → x.1 < 15) : ∃ cr, kd = .inl (c, cr) := by
  cases kd with
  | inl x => obtain ⟨c', cr⟩ := x; have : c' = c := by simp only [tg] at h; omega
             exact ⟨cr, by rw [this]⟩
  | inr x => have := hA x rfl; simp only [tg] at h; omega
theorem tg_arr {kd : Kd} {t : Nat} (h : tg kd = t) (ht : t < 16) : ∃ n, kd = .inr (t, n) := by
  cases kd with
  | inl x => simp only [tg] at h; omega
  | inr x => obtain ⟨t', n⟩ := x; simp only [tg] at h; exact ⟨n, by rw [h]⟩
/-- arrays have tags below 15 -/
def amTok (T : Int → Kd) : Prop := ∀ a x, T a = .inr x → x.1 < 15
theorem ws_at {ρ : Int → Nat} {ca : Nat → ClassId} {T : Int → Kd} {σ : Mem} {V : List Int} {a : Int} (h : a ∈ V) : ∃ q : Nat, V[q]? = some a ∧ (am_ws ρ ca T σ V)[q]? = some (ρ a, am_cell ρ ca σ a (T a)) := by
  obtain ⟨q, hq⟩ := List.getElem?_of_mem h
  exact ⟨q, hq, by unfold am_ws; rw [List.getElem?_map, hq]; rfl⟩
theorem ws_set {ρ : Int → Nat} {ca : Nat → ClassId} {T : Int → Kd} {σ σ' : Mem} {V : List Int} (hnd : V.Nodup) {a : Int} {q : Nat} (hq : V[q]? = some a) (ho : ∀ b, b ≠ a → b ∈ V → ∀ j, σ' b j = σ b j) {e : va_E} (he : e = am_cell ρ ca σ' a (T a)) : (am_ws ρ ca T σ V).set q (ρ a, e) = am_ws ρ ca T σ' V := by
  subst he
  unfold am_ws
  apply List.ext_getElem?
  intro i
  rw [List.getElem?_set, List.getElem?_map, List.getElem?_map]
  by_cases hi : q = i
  · subst hi
    rw [if_pos rfl, hq]
    have := (List.getElem?_eq_some_iff.mp hq).1
    rw [if_pos (by simpa using this)]
    rfl
  · rw [if_neg hi]
    cases hb : V[i]? with
    | none => rfl
    | some b =>
      have hba : b ≠ a := by
        intro e
        subst e
        obtain ⟨h1, -⟩ := List.getElem?_eq_some_iff.mp hq
        exact hi ((List.getElem?_inj h1 hnd).mp (hq.trans hb.symm))
      simp only [Option.map_some]
      rw [am_cell_cong (σ := σ) (σ' := σ') (fun j => ho b hba (List.mem_of_getElem? hb) j) rfl]
theorem okv_up {T : Int → Kd} {σ : Mem} {a k x : Int} {v : AV} (ha : 0 ≤ a) : okv T (up σ a k x) v ↔ okv T σ v := by
  unfold okv
  rw [up_na σ (show (-2 : Int) ≠ a by omega)]
theorem okl_up {T : Int → Kd} {σ : Mem} {a k x : Int} {l : List AV} (ha : 0 ≤ a) (h : okl T σ l) : okl T (up σ a k x) l := fun v hv => (okv_up ha).mpr (h v hv)
theorem ag_up {ρ0 ρ : Int → Nat} {σ0 σ : Mem} {a k x : Int} (ha : 0 ≤ a) (h : amAg ρ0 ρ σ0 σ) : amAg ρ0 ρ σ0 (up σ a k x) := by
  refine ⟨fun b hb => ?_, h.2⟩
  rw [up_na σ (show (-2 : Int) ≠ a by omega)]
  exact h.1 b hb
theorem cl_up_o {T : Int → Kd} {σ : Mem} {a k x b : Int} (ha : 0 ≤ a) (hb : b ≠ a) (h : am_closed T σ b) : am_closed T (up σ a k x) b := by
  unfold am_closed at h ⊢
  cases hT : T b with
  | inl y =>
    rw [hT] at h
    intro j hj hf
    rw [up_na σ hb]
    exact (okv_up ha).mpr (h j hj hf)
  | inr y =>
    rw [hT] at h
    intro hy j hj
    simp only [am_len] at hj h
    rw [up_na σ hb] at hj ⊢
    exact (okv_up ha).mpr (h hy j hj)
/-- reading a field -/
theorem am_fs {ρ : Int → Nat} {σ : Mem} {a : Int} {c : Nat} {cr : Nat → Option Int} {k N : Nat} (hN : amN c = N) (hk : k < N) : ((List.range (amN c)).map (am_fv ρ σ a c cr))[k]? = some (am_fv ρ σ a c cr k) := by
  rw [List.getElem?_map, List.getElem?_range (by omega)]; rfl
def vGetI (t : Nat) (k : Int) (n : Nat) : VT := fun _ K ls st σ => ∃ a st', st = (t, a) :: st' ∧ 0 ≤ a ∧ K n ls ((0, σ a k) :: st') σ
theorem vGetI_e (t : Nat) (k : Int) (n : Nat) (Q) (K) (ls st : List AV) (a : Int) (σ : Mem) : vGetI t k n Q K ls ((t, a) :: st) σ = (0 ≤ a ∧ K n ls ((0, σ a k) :: st) σ) := by
  apply propext; constructor
  · rintro ⟨a', st', h, h1⟩; cases h; exact h1
  · intro h1; exact ⟨a, st, rfl, h1⟩
def vGetL (t : Nat) (k : Int) (n : Nat) : VT := fun _ K ls st σ => ∃ a st', st = (t, a) :: st' ∧ 0 ≤ a ∧ K n ls ((1, σ a k) :: st') σ
theorem vGetL_e (t : Nat) (k : Int) (n : Nat) (Q) (K) (ls st : List AV) (a : Int) (σ : Mem) : vGetL t k n Q K ls ((t, a) :: st) σ = (0 ≤ a ∧ K n ls ((1, σ a k) :: st) σ) := by
  apply propext; constructor
  · rintro ⟨a', st', h, h1⟩; cases h; exact h1
  · intro h1; exact ⟨a, st, rfl, h1⟩
def vGetR (T : Int → Kd) (t : Nat) (k tr n : Nat) : VT := fun _ K ls st σ => ∃ a st', st = (t, a) :: st' ∧ 0 ≤ a ∧ K n ls ((tr, rfv T σ a k) :: st') σ
theorem vGetR_e (T : Int → Kd) (t : Nat) (k tr n : Nat) (Q) (K) (ls st : List AV) (a : Int) (σ : Mem) : vGetR T t k tr n Q K ls ((t, a) :: st) σ = (0 ≤ a ∧ K n ls ((tr, rfv T σ a k) :: st) σ) := by
  apply propext; constructor
  · rintro ⟨a', st', h, h1⟩; cases h; exact h1
  · intro h1; exact ⟨a, st, rfl, h1⟩
/-- the facts of a field access: class c of the list, field k, its link -/
def amFl (own : String) (c k index : Nat) (C : String) (Tt : u_T) (N : Nat) : Prop := vwCl[c]? = some (C, Tt, N) ∧ (∀ w ∈ u_ws C Tt N, w ∈ TBL) ∧ k < N ∧ Cond.fieldLink own index (Tt k).1 (Tt k).2.1 (Tt k).2.2.1 ∈ TBL
theorem amFl.N {own : String} {c k index : Nat} {C : String} {Tt : u_T} {N : Nat} (h : amFl own c k index C Tt N) : amN c = N := by unfold amN; rw [h.1]
section GET
variable {X : amX} {own : String} {cc : ByteArray} {ret : Option FieldType} {L pc : Nat} {C : String} {Tt : u_T} {N c k index t : Nat}
theorem ok_getI (hB : amB X own cc ret L) (hT : amTok (X.2.2.2.2.2.2.2.2.2.2.2.2.1)) (hF : amFl own c k index C Tt N) (ht : t = 16 + c) {kz : Int} (hz : kz = (k : Int)) (hf : amF c k = 0 ∨ amF c k = 3) (hd : decode cc pc = .ok (.getfield index, 3)) : amOK X pc (vGetI t kz (pc + 3)) := by
  obtain ⟨p, l, e, s, m, args, below, meth, c0, D, ca, n0, T, ρ0, σ0, dd, mc, ms, nL, Q⟩ := X
  obtain ⟨hx, hb, hr, hml, hnL, hown, hts, hlocks, hK0, hA0, hst0⟩ := hB
  intro K ls st σ hK h ρ H locs LS kk n hW hS hl hokl hoks hk hn hag
  obtain ⟨a, st', rfl, ha, h⟩ := h
  subst hz ht
  obtain ⟨hlive, htg⟩ := okv_at (okl_c.mp hoks).1 (by omega) ha
  obtain ⟨V, hnd, hV, hV0, hP, hD, hcl⟩ := id hW
  obtain ⟨cr, hTa⟩ := tg_obj htg (fun x hx => hT a x hx)
  obtain ⟨q, hq, hq2⟩ := ws_at (ρ := ρ) (ca := ca) (T := T) (σ := σ) ((hV a).mpr hlive)
  rw [hTa] at hq2
  have key := hK _ _ _ _ h ρ H locs LS kk n hW hS hl hokl (okl_c.mpr ⟨okv_s (by decide), (okl_c.mp hoks).2⟩) hk hn hag
  rw [List.map_cons] at key ⊢
  rw [am_val_p ρ (by omega) ha]
  refine va_get (D := D) (ci := c) (C := C) (T := Tt) (N := N) hx hb hts hF.2.1 hown hK0 hP q hq2 hF.1 k hF.2.2.1 (hts _ hF.2.2.2) (fun _ h9 => h9) (am_fs hF.N hF.2.2.1) hd ?_
  rw [show am_fv ρ σ a c cr k = am_val ρ (0, σ a k) by unfold am_fv; rcases hf with hf | hf <;> rw [hf] <;> rfl]
  exact key
theorem ok_getL (hB : amB X own cc ret L) (hT : amTok (X.2.2.2.2.2.2.2.2.2.2.2.2.1)) (hF : amFl own c k index C Tt N) (ht : t = 16 + c) {kz : Int} (hz : kz = (k : Int)) (hf : amF c k = 1) (hd : decode cc pc = .ok (.getfield index, 3)) : amOK X pc (vGetL t kz (pc + 3)) := by
  obtain ⟨p, l, e, s, m, args, below, meth, c0, D, ca, n0, T, ρ0, σ0, dd, mc, ms, nL, Q⟩ := X
  obtain ⟨hx, hb, hr, hml, hnL, hown, hts, hlocks, hK0, hA0, hst0⟩ := hB
  intro K ls st σ hK h ρ H locs LS kk n hW hS hl hokl hoks hk hn hag
  obtain ⟨a, st', rfl, ha, h⟩ := h
  subst hz ht
  obtain ⟨hlive, htg⟩ := okv_at (okl_c.mp hoks).1 (by omega) ha
  obtain ⟨V, hnd, hV, hV0, hP, hD, hcl⟩ := id hW
  obtain ⟨cr, hTa⟩ := tg_obj htg (fun x hx => hT a x hx)
  obtain ⟨q, hq, hq2⟩ := ws_at (ρ := ρ) (ca := ca) (T := T) (σ := σ) ((hV a).mpr hlive)
  rw [hTa] at hq2
  have key := hK _ _ _ _ h ρ H locs LS kk n hW hS hl hokl (okl_c.mpr ⟨okv_s (by decide), (okl_c.mp hoks).2⟩) hk hn hag
  rw [List.map_cons] at key ⊢
  rw [am_val_p ρ (by omega) ha]
  refine va_get (D := D) (ci := c) (C := C) (T := Tt) (N := N) hx hb hts hF.2.1 hown hK0 hP q hq2 hF.1 k hF.2.2.1 (hts _ hF.2.2.2) (fun _ h9 => h9) (am_fs hF.N hF.2.2.1) hd ?_
  rw [show am_fv ρ σ a c cr k = am_val ρ (1, σ a k) by unfold am_fv; rw [hf]; rfl]
  exact key
theorem ok_getR (hB : amB X own cc ret L) (hT : amTok (X.2.2.2.2.2.2.2.2.2.2.2.2.1)) (hF : amFl own c k index C Tt N) (ht : t = 16 + c) (hf : amF c k = 2) {tr : Nat} (htr : amTag c k = tr) (h2 : 2 ≤ tr) (hd : decode cc pc = .ok (.getfield index, 3)) : amOK X pc (vGetR (X.2.2.2.2.2.2.2.2.2.2.2.2.1) t k tr (pc + 3)) := by
  obtain ⟨p, l, e, s, m, args, below, meth, c0, D, ca, n0, T, ρ0, σ0, dd, mc, ms, nL, Q⟩ := X
  obtain ⟨hx, hb, hr, hml, hnL, hown, hts, hlocks, hK0, hA0, hst0⟩ := hB
  intro K ls st σ hK h ρ H locs LS kk n hW hS hl hokl hoks hk hn hag
  obtain ⟨a, st', rfl, ha, h⟩ := h
  subst ht
  obtain ⟨hlive, htg⟩ := okv_at (okl_c.mp hoks).1 (by omega) ha
  obtain ⟨V, hnd, hV, hV0, hP, hD, hcl⟩ := id hW
  obtain ⟨cr, hTa⟩ := tg_obj htg (fun x hx => hT a x hx)
  obtain ⟨q, hq, hq2⟩ := ws_at (ρ := ρ) (ca := ca) (T := T) (σ := σ) ((hV a).mpr hlive)
  rw [hTa] at hq2
  have hc := hcl a ((hV a).mpr hlive)
  unfold am_closed at hc
  rw [hTa] at hc
  have hc := hc k (by rw [hF.N]; exact hF.2.2.1) hf
  have hrf : rfv T σ a k = (cr k).getD (σ a k) := by unfold rfv; rw [hTa]
  dsimp only at h
  rw [hrf] at h
  have key := hK _ _ _ _ h ρ H locs LS kk n hW hS hl hokl (okl_c.mpr ⟨htr ▸ hc, (okl_c.mp hoks).2⟩) hk hn hag
  rw [List.map_cons] at key ⊢
  rw [am_val_p ρ (by omega) ha]
  refine va_get (D := D) (ci := c) (C := C) (T := Tt) (N := N) hx hb hts hF.2.1 hown hK0 hP q hq2 hF.1 k hF.2.2.1 (hts _ hF.2.2.2) (fun _ h9 => h9) (am_fs hF.N hF.2.2.1) hd ?_
  rw [show am_fv ρ σ a c cr k = am_val ρ (tr, (cr k).getD (σ a k)) by unfold am_fv; rw [hf, am_val_r ρ _ h2]; exact am_val_r ρ _ (by decide)]
  exact key
end GET
