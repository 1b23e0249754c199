/-! writing fields -/
theorem am_fs_set {ρ : Int → Nat} {σ : Mem} {a : Int} {c : Nat} {cr : Nat → Option Int} {k N : Nat} {x : Int} {v : Value} (hN : amN c = N) (hk : k < N) (hv : v = am_fv ρ (up σ a k x) a c cr k) :
    ((List.range (amN c)).map (am_fv ρ σ a c cr)).set k v = (List.range (amN c)).map (am_fv ρ (up σ a k x) a c cr) := by
  apply List.ext_getElem?
  intro i
  rw [List.getElem?_set, List.getElem?_map, List.getElem?_map]
  by_cases hi : k = i
  · subst hi
    rw [if_pos rfl, if_pos (by simp; omega), List.getElem?_range (by omega), hv]; rfl
  · rw [if_neg hi]
    cases hr : (List.range (amN c))[i]? with
    | none => rfl
    | some j =>
      have : j = i := by
        obtain ⟨h1, h2⟩ := List.getElem?_eq_some_iff.mp hr
        rw [← h2]; simp
      subst this
      simp only [Option.map_some, am_fv, up_n σ (a := a) (k := (k : Int)) (v := x) (b := a) (j := (j : Int)) (Or.inr (by omega))]
theorem amW_put {D : va_G} {ca : Nat → ClassId} {T : Int → Kd} {n0 : Nat} {ρ : Int → Nat} {σ σ' : Mem} {H1 : Heap} {V : List Int} {a : Int} (ha : 0 ≤ a) (hnd : V.Nodup) (hV : ∀ b, b ∈ V ↔ σ (-2) b = 1) (hV0 : ∀ b ∈ V, 0 ≤ b) (hσ : ∀ b, b ≠ a → ∀ j, σ' b j = σ b j)
    (hP : va_P D vwCl (am_ws ρ ca T σ' V) H1) (hD : va_D (fun q => n0 ≤ q) (am_ws ρ ca T σ' V)) (hcl : ∀ b ∈ V, am_closed T σ' b) : amW D ca T n0 ρ σ' H1 :=
  ⟨V, hnd, fun b => by rw [hσ (-2) (by omega)]; exact hV b, hV0, hP, hD, hcl⟩
/-- the facts of a write to a field that isn't final -/
def amFp (own : String) (c k index : Nat) (C : String) (Tt : u_T) (N : Nat) (ty0 : Nat → FieldType) (ty : FieldType) : Prop := amFl own c k index C Tt N ∧ (∀ k, k < N → parseFieldDescriptor (Tt k).2.2.1 = some (ty0 k)) ∧ (∀ a, a < N → ∀ b, b < N → a ≠ b → (Tt a).2.1 ≠ (Tt b).2.1) ∧ parseFieldDescriptor (Tt k).2.2.1 = some ty

def vPutI (t : Nat) (k : Int) (n : Nat) : VT := fun _ K ls st σ => ∃ x a st', st = (0, x) :: (t, a) :: st' ∧ 0 ≤ a ∧ K n ls st' (up σ a k x)
theorem vPutI_e (t : Nat) (k : Int) (n : Nat) (Q) (K) (ls st : List AV) (x a : Int) (σ : Mem) : vPutI t k n Q K ls ((0, x) :: (t, a) :: st) σ = (0 ≤ a ∧ K n ls st (up σ a k x)) := by
  apply propext; constructor
  · rintro ⟨x', a', st', h, h1⟩; cases h; exact h1
  · intro h1; exact ⟨x, a, st, rfl, h1⟩

def vPutZ (t : Nat) (k : Int) (n : Nat) : VT := fun _ K ls st σ => ∃ x a st', st = (0, x) :: (t, a) :: st' ∧ 0 ≤ a ∧ (x = 0 ∨ x = 1) ∧ K n ls st' (up σ a k x)
theorem vPutZ_e (t : Nat) (k : Int) (n : Nat) (Q) (K) (ls st : List AV) (x a : Int) (σ : Mem) : vPutZ t k n Q K ls ((0, x) :: (t, a) :: st) σ = (0 ≤ a ∧ (x = 0 ∨ x = 1) ∧ K n ls st (up σ a k x)) := by
  apply propext; constructor
  · rintro ⟨x', a', st', h, h1⟩; cases h; exact h1
  · intro h1; exact ⟨x, a, st, rfl, h1⟩

def vPutL (t : Nat) (k : Int) (n : Nat) : VT := fun _ K ls st σ => ∃ x a st', st = (1, x) :: (t, a) :: st' ∧ 0 ≤ a ∧ K n ls st' (up σ a k x)
theorem vPutL_e (t : Nat) (k : Int) (n : Nat) (Q) (K) (ls st : List AV) (x a : Int) (σ : Mem) : vPutL t k n Q K ls ((1, x) :: (t, a) :: st) σ = (0 ≤ a ∧ K n ls st (up σ a k x)) := by
  apply propext; constructor
  · rintro ⟨x', a', st', h, h1⟩; cases h; exact h1
  · intro h1; exact ⟨x, a, st, rfl, h1⟩

section PUT
variable {X : amX} {own : String} {cc : ByteArray} {ret : Option FieldType} {L pc : Nat} {C : String} {Tt : u_T} {N c k index t : Nat} {ty0 : Nat → FieldType}

theorem ok_putI (hB : amB X own cc ret L) (hT : amTok (X.2.2.2.2.2.2.2.2.2.2.2.2.1)) (hF : amFp own c k index C Tt N ty0 .int) (hfin : (Tt k).2.2.2 = false) (ht : t = 16 + c) {kz : Int} (hz : kz = (k : Int)) (hf : amF c k = 0) (hd : decode cc pc = .ok (.putfield index, 3)) : amOK X pc (vPutI t kz (pc + 3)) := by
  obtain ⟨p, l, e, s, m, args, below, meth, c0, D, ca, n0, T, ρ0, σ0, dd, mc, ms, nL, Q⟩ := X
  obtain ⟨hx, hb, hr, hml, hnL, hown, hts, hlocks, hK0, hA0, hst0⟩ := hB
  intro K ls st σ hK h ρ H locs LS kk n hW hS hl hokl hoks hk hn hag
  obtain ⟨x, a, st', rfl, ha, h⟩ := h
  skip
  subst hz ht
  obtain ⟨hF, hty0, hnm, hty⟩ := hF
  obtain ⟨hlive, htg⟩ := okv_at (okl_c.mp (okl_c.mp hoks).2).1 (by omega) ha
  obtain ⟨V, hnd, hV, hV0, hP, hD, hcl⟩ := id hW
  obtain ⟨cr, hTa⟩ := tg_obj htg (fun x hx => hT a x hx)
  obtain ⟨q, hq, hq2⟩ := ws_at (ρ := ρ) (ca := ca) (T := T) (σ := σ) ((hV a).mpr hlive)
  rw [hTa] at hq2
  rw [List.map_cons, List.map_cons]
  rw [am_val_p ρ (by omega) ha]
  have hset : (am_ws ρ ca T σ V).set q (ρ a, .inr (c, ((List.range (amN c)).map (am_fv ρ σ a c cr)).set k (.int (Int32.ofInt x)))) = am_ws ρ ca T (up σ a k x) V := by
    refine ws_set hnd hq (fun b hb _ j => up_n σ (Or.inl hb)) ?_
    rw [hTa, am_fs_set hF.N hF.2.2.1 (x := x) (by unfold am_fv; rw [hf, up_s]; rfl)]; rfl
  refine va_put (D := D) (ci := c) (C := C) (T := Tt) (N := N) (ty := .int) hx hb hts hF.2.1 ty0 hty0 hnm hown hK0 hP hD hS q hq2 hF.1 k hF.2.2.1 (hts _ hF.2.2.2) (fun _ h9 => h9) hfin hty rfl rfl (by simp [hF.N]; exact hF.2.2.1) hd (fun H1 locs1 hP1 hD1 hS1 => ?_)
  have hP1 : va_P D vwCl (am_ws ρ ca T (up σ a k x) V) H1 := by rw [← hset]; exact hP1
  have hD1 : va_D (fun q => n0 ≤ q) (am_ws ρ ca T (up σ a k x) V) := by rw [← hset]; exact hD1
  refine hK _ _ _ _ h ρ H1 locs1 LS kk n (amW_put ha hnd hV hV0 (fun b hb j => up_n σ (Or.inl hb)) hP1 hD1 (fun b hbV => ?_)) hS1 hl (okl_up ha hokl) (okl_up ha (okl_c.mp (okl_c.mp hoks).2).2) hk hn (ag_up ha hag)
  by_cases hba : b = a
  · subst hba
    have hc := hcl b hbV
    unfold am_closed at hc ⊢
    rw [hTa] at hc ⊢
    intro j hj hfj
    have hjk : j ≠ k := by rintro rfl; rw [hf] at hfj; cases hfj
    rw [up_n σ (Or.inr (by omega))]
    exact (okv_up ha).mpr (hc j hj hfj)
  · exact cl_up_o ha hba (hcl b hbV)

theorem ok_putIF (hB : amB X own cc ret L) (hT : amTok (X.2.2.2.2.2.2.2.2.2.2.2.2.1)) (hF : amFp own c k index C Tt N ty0 .int) (hfin : (Tt k).2.2.2 = true) (hin2 : X.2.2.2.2.2.2.2.1.name = "<init>") (hdecl : (Tt k).1 = own) (ht : t = 16 + c) {kz : Int} (hz : kz = (k : Int)) (hf : amF c k = 0) (hd : decode cc pc = .ok (.putfield index, 3)) : amOK X pc (vPutI t kz (pc + 3)) := by
  obtain ⟨p, l, e, s, m, args, below, meth, c0, D, ca, n0, T, ρ0, σ0, dd, mc, ms, nL, Q⟩ := X
  obtain ⟨hx, hb, hr, hml, hnL, hown, hts, hlocks, hK0, hA0, hst0⟩ := hB
  intro K ls st σ hK h ρ H locs LS kk n hW hS hl hokl hoks hk hn hag
  obtain ⟨x, a, st', rfl, ha, h⟩ := h
  skip
  subst hz ht
  obtain ⟨hF, hty0, hnm, hty⟩ := hF
  obtain ⟨hlive, htg⟩ := okv_at (okl_c.mp (okl_c.mp hoks).2).1 (by omega) ha
  obtain ⟨V, hnd, hV, hV0, hP, hD, hcl⟩ := id hW
  obtain ⟨cr, hTa⟩ := tg_obj htg (fun x hx => hT a x hx)
  obtain ⟨q, hq, hq2⟩ := ws_at (ρ := ρ) (ca := ca) (T := T) (σ := σ) ((hV a).mpr hlive)
  rw [hTa] at hq2
  rw [List.map_cons, List.map_cons]
  rw [am_val_p ρ (by omega) ha]
  have hset : (am_ws ρ ca T σ V).set q (ρ a, .inr (c, ((List.range (amN c)).map (am_fv ρ σ a c cr)).set k (.int (Int32.ofInt x)))) = am_ws ρ ca T (up σ a k x) V := by
    refine ws_set hnd hq (fun b hb _ j => up_n σ (Or.inl hb)) ?_
    rw [hTa, am_fs_set hF.N hF.2.2.1 (x := x) (by unfold am_fv; rw [hf, up_s]; rfl)]; rfl
  refine va_putF (D := D) (ci := c) (C := C) (T := Tt) (N := N) (ty := .int) hx hb hts hF.2.1 ty0 hty0 hnm hown hK0 hP hD hS q hq2 hF.1 k hF.2.2.1 (hts _ hF.2.2.2) (fun _ h9 => h9) hfin hin2 hdecl hty rfl rfl (by simp [hF.N]; exact hF.2.2.1) hd (fun H1 locs1 hP1 hD1 hS1 => ?_)
  have hP1 : va_P D vwCl (am_ws ρ ca T (up σ a k x) V) H1 := by rw [← hset]; exact hP1
  have hD1 : va_D (fun q => n0 ≤ q) (am_ws ρ ca T (up σ a k x) V) := by rw [← hset]; exact hD1
  refine hK _ _ _ _ h ρ H1 locs1 LS kk n (amW_put ha hnd hV hV0 (fun b hb j => up_n σ (Or.inl hb)) hP1 hD1 (fun b hbV => ?_)) hS1 hl (okl_up ha hokl) (okl_up ha (okl_c.mp (okl_c.mp hoks).2).2) hk hn (ag_up ha hag)
  by_cases hba : b = a
  · subst hba
    have hc := hcl b hbV
    unfold am_closed at hc ⊢
    rw [hTa] at hc ⊢
    intro j hj hfj
    have hjk : j ≠ k := by rintro rfl; rw [hf] at hfj; cases hfj
    rw [up_n σ (Or.inr (by omega))]
    exact (okv_up ha).mpr (hc j hj hfj)
  · exact cl_up_o ha hba (hcl b hbV)

theorem ok_putZ (hB : amB X own cc ret L) (hT : amTok (X.2.2.2.2.2.2.2.2.2.2.2.2.1)) (hF : amFp own c k index C Tt N ty0 .boolean) (hfin : (Tt k).2.2.2 = false) (ht : t = 16 + c) {kz : Int} (hz : kz = (k : Int)) (hf : amF c k = 3) (hd : decode cc pc = .ok (.putfield index, 3)) : amOK X pc (vPutZ t kz (pc + 3)) := by
  obtain ⟨p, l, e, s, m, args, below, meth, c0, D, ca, n0, T, ρ0, σ0, dd, mc, ms, nL, Q⟩ := X
  obtain ⟨hx, hb, hr, hml, hnL, hown, hts, hlocks, hK0, hA0, hst0⟩ := hB
  intro K ls st σ hK h ρ H locs LS kk n hW hS hl hokl hoks hk hn hag
  obtain ⟨x, a, st', rfl, ha, h⟩ := h
  obtain ⟨hsd, h⟩ := h
  subst hz ht
  obtain ⟨hF, hty0, hnm, hty⟩ := hF
  obtain ⟨hlive, htg⟩ := okv_at (okl_c.mp (okl_c.mp hoks).2).1 (by omega) ha
  obtain ⟨V, hnd, hV, hV0, hP, hD, hcl⟩ := id hW
  obtain ⟨cr, hTa⟩ := tg_obj htg (fun x hx => hT a x hx)
  obtain ⟨q, hq, hq2⟩ := ws_at (ρ := ρ) (ca := ca) (T := T) (σ := σ) ((hV a).mpr hlive)
  rw [hTa] at hq2
  rw [List.map_cons, List.map_cons]
  rw [am_val_p ρ (by omega) ha]
  have hset : (am_ws ρ ca T σ V).set q (ρ a, .inr (c, ((List.range (amN c)).map (am_fv ρ σ a c cr)).set k (.int (Int32.ofInt x)))) = am_ws ρ ca T (up σ a k x) V := by
    refine ws_set hnd hq (fun b hb _ j => up_n σ (Or.inl hb)) ?_
    rw [hTa, am_fs_set hF.N hF.2.2.1 (x := x) (by unfold am_fv; rw [hf, up_s]; rfl)]; rfl
  refine va_put (D := D) (ci := c) (C := C) (T := Tt) (N := N) (ty := .boolean) hx hb hts hF.2.1 ty0 hty0 hnm hown hK0 hP hD hS q hq2 hF.1 k hF.2.2.1 (hts _ hF.2.2.2) (fun _ h9 => h9) hfin hty (by rcases hsd with rfl | rfl <;> rfl) (by rcases hsd with rfl | rfl <;> rfl) (by simp [hF.N]; exact hF.2.2.1) hd (fun H1 locs1 hP1 hD1 hS1 => ?_)
  have hP1 : va_P D vwCl (am_ws ρ ca T (up σ a k x) V) H1 := by rw [← hset]; exact hP1
  have hD1 : va_D (fun q => n0 ≤ q) (am_ws ρ ca T (up σ a k x) V) := by rw [← hset]; exact hD1
  refine hK _ _ _ _ h ρ H1 locs1 LS kk n (amW_put ha hnd hV hV0 (fun b hb j => up_n σ (Or.inl hb)) hP1 hD1 (fun b hbV => ?_)) hS1 hl (okl_up ha hokl) (okl_up ha (okl_c.mp (okl_c.mp hoks).2).2) hk hn (ag_up ha hag)
  by_cases hba : b = a
  · subst hba
    have hc := hcl b hbV
    unfold am_closed at hc ⊢
    rw [hTa] at hc ⊢
    intro j hj hfj
    have hjk : j ≠ k := by rintro rfl; rw [hf] at hfj; cases hfj
    rw [up_n σ (Or.inr (by omega))]
    exact (okv_up ha).mpr (hc j hj hfj)
  · exact cl_up_o ha hba (hcl b hbV)

theorem ok_putZF (hB : amB X own cc ret L) (hT : amTok (X.2.2.2.2.2.2.2.2.2.2.2.2.1)) (hF : amFp own c k index C Tt N ty0 .boolean) (hfin : (Tt k).2.2.2 = true) (hin2 : X.2.2.2.2.2.2.2.1.name = "<init>") (hdecl : (Tt k).1 = own) (ht : t = 16 + c) {kz : Int} (hz : kz = (k : Int)) (hf : amF c k = 3) (hd : decode cc pc = .ok (.putfield index, 3)) : amOK X pc (vPutZ t kz (pc + 3)) := by
  obtain ⟨p, l, e, s, m, args, below, meth, c0, D, ca, n0, T, ρ0, σ0, dd, mc, ms, nL, Q⟩ := X
  obtain ⟨hx, hb, hr, hml, hnL, hown, hts, hlocks, hK0, hA0, hst0⟩ := hB
  intro K ls st σ hK h ρ H locs LS kk n hW hS hl hokl hoks hk hn hag
  obtain ⟨x, a, st', rfl, ha, h⟩ := h
  obtain ⟨hsd, h⟩ := h
  subst hz ht
  obtain ⟨hF, hty0, hnm, hty⟩ := hF
  obtain ⟨hlive, htg⟩ := okv_at (okl_c.mp (okl_c.mp hoks).2).1 (by omega) ha
  obtain ⟨V, hnd, hV, hV0, hP, hD, hcl⟩ := id hW
  obtain ⟨cr, hTa⟩ := tg_obj htg (fun x hx => hT a x hx)
  obtain ⟨q, hq, hq2⟩ := ws_at (ρ := ρ) (ca := ca) (T := T) (σ := σ) ((hV a).mpr hlive)
  rw [hTa] at hq2
  rw [List.map_cons, List.map_cons]
  rw [am_val_p ρ (by omega) ha]
  have hset : (am_ws ρ ca T σ V).set q (ρ a, .inr (c, ((List.range (amN c)).map (am_fv ρ σ a c cr)).set k (.int (Int32.ofInt x)))) = am_ws ρ ca T (up σ a k x) V := by
    refine ws_set hnd hq (fun b hb _ j => up_n σ (Or.inl hb)) ?_
    rw [hTa, am_fs_set hF.N hF.2.2.1 (x := x) (by unfold am_fv; rw [hf, up_s]; rfl)]; rfl
  refine va_putF (D := D) (ci := c) (C := C) (T := Tt) (N := N) (ty := .boolean) hx hb hts hF.2.1 ty0 hty0 hnm hown hK0 hP hD hS q hq2 hF.1 k hF.2.2.1 (hts _ hF.2.2.2) (fun _ h9 => h9) hfin hin2 hdecl hty (by rcases hsd with rfl | rfl <;> rfl) (by rcases hsd with rfl | rfl <;> rfl) (by simp [hF.N]; exact hF.2.2.1) hd (fun H1 locs1 hP1 hD1 hS1 => ?_)
  have hP1 : va_P D vwCl (am_ws ρ ca T (up σ a k x) V) H1 := by rw [← hset]; exact hP1
  have hD1 : va_D (fun q => n0 ≤ q) (am_ws ρ ca T (up σ a k x) V) := by rw [← hset]; exact hD1
  refine hK _ _ _ _ h ρ H1 locs1 LS kk n (amW_put ha hnd hV hV0 (fun b hb j => up_n σ (Or.inl hb)) hP1 hD1 (fun b hbV => ?_)) hS1 hl (okl_up ha hokl) (okl_up ha (okl_c.mp (okl_c.mp hoks).2).2) hk hn (ag_up ha hag)
  by_cases hba : b = a
  · subst hba
    have hc := hcl b hbV
    unfold am_closed at hc ⊢
    rw [hTa] at hc ⊢
    intro j hj hfj
    have hjk : j ≠ k := by rintro rfl; rw [hf] at hfj; cases hfj
    rw [up_n σ (Or.inr (by omega))]
    exact (okv_up ha).mpr (hc j hj hfj)
  · exact cl_up_o ha hba (hcl b hbV)

theorem ok_putL (hB : amB X own cc ret L) (hT : amTok (X.2.2.2.2.2.2.2.2.2.2.2.2.1)) (hF : amFp own c k index C Tt N ty0 .long) (hfin : (Tt k).2.2.2 = false) (ht : t = 16 + c) {kz : Int} (hz : kz = (k : Int)) (hf : amF c k = 1) (hd : decode cc pc = .ok (.putfield index, 3)) : amOK X pc (vPutL t kz (pc + 3)) := by
  obtain ⟨p, l, e, s, m, args, below, meth, c0, D, ca, n0, T, ρ0, σ0, dd, mc, ms, nL, Q⟩ := X
  obtain ⟨hx, hb, hr, hml, hnL, hown, hts, hlocks, hK0, hA0, hst0⟩ := hB
  intro K ls st σ hK h ρ H locs LS kk n hW hS hl hokl hoks hk hn hag
  obtain ⟨x, a, st', rfl, ha, h⟩ := h
  skip
  subst hz ht
  obtain ⟨hF, hty0, hnm, hty⟩ := hF
  obtain ⟨hlive, htg⟩ := okv_at (okl_c.mp (okl_c.mp hoks).2).1 (by omega) ha
  obtain ⟨V, hnd, hV, hV0, hP, hD, hcl⟩ := id hW
  obtain ⟨cr, hTa⟩ := tg_obj htg (fun x hx => hT a x hx)
  obtain ⟨q, hq, hq2⟩ := ws_at (ρ := ρ) (ca := ca) (T := T) (σ := σ) ((hV a).mpr hlive)
  rw [hTa] at hq2
  rw [List.map_cons, List.map_cons]
  rw [am_val_p ρ (by omega) ha]
  have hset : (am_ws ρ ca T σ V).set q (ρ a, .inr (c, ((List.range (amN c)).map (am_fv ρ σ a c cr)).set k (.long (Int64.ofInt x)))) = am_ws ρ ca T (up σ a k x) V := by
    refine ws_set hnd hq (fun b hb _ j => up_n σ (Or.inl hb)) ?_
    rw [hTa, am_fs_set hF.N hF.2.2.1 (x := x) (by unfold am_fv; rw [hf, up_s]; rfl)]; rfl
  refine va_put (D := D) (ci := c) (C := C) (T := Tt) (N := N) (ty := .long) hx hb hts hF.2.1 ty0 hty0 hnm hown hK0 hP hD hS q hq2 hF.1 k hF.2.2.1 (hts _ hF.2.2.2) (fun _ h9 => h9) hfin hty rfl rfl (by simp [hF.N]; exact hF.2.2.1) hd (fun H1 locs1 hP1 hD1 hS1 => ?_)
  have hP1 : va_P D vwCl (am_ws ρ ca T (up σ a k x) V) H1 := by rw [← hset]; exact hP1
  have hD1 : va_D (fun q => n0 ≤ q) (am_ws ρ ca T (up σ a k x) V) := by rw [← hset]; exact hD1
  refine hK _ _ _ _ h ρ H1 locs1 LS kk n (amW_put ha hnd hV hV0 (fun b hb j => up_n σ (Or.inl hb)) hP1 hD1 (fun b hbV => ?_)) hS1 hl (okl_up ha hokl) (okl_up ha (okl_c.mp (okl_c.mp hoks).2).2) hk hn (ag_up ha hag)
  by_cases hba : b = a
  · subst hba
    have hc := hcl b hbV
    unfold am_closed at hc ⊢
    rw [hTa] at hc ⊢
    intro j hj hfj
    have hjk : j ≠ k := by rintro rfl; rw [hf] at hfj; cases hfj
    rw [up_n σ (Or.inr (by omega))]
    exact (okv_up ha).mpr (hc j hj hfj)
  · exact cl_up_o ha hba (hcl b hbV)

theorem ok_putLF (hB : amB X own cc ret L) (hT : amTok (X.2.2.2.2.2.2.2.2.2.2.2.2.1)) (hF : amFp own c k index C Tt N ty0 .long) (hfin : (Tt k).2.2.2 = true) (hin2 : X.2.2.2.2.2.2.2.1.name = "<init>") (hdecl : (Tt k).1 = own) (ht : t = 16 + c) {kz : Int} (hz : kz = (k : Int)) (hf : amF c k = 1) (hd : decode cc pc = .ok (.putfield index, 3)) : amOK X pc (vPutL t kz (pc + 3)) := by
  obtain ⟨p, l, e, s, m, args, below, meth, c0, D, ca, n0, T, ρ0, σ0, dd, mc, ms, nL, Q⟩ := X
  obtain ⟨hx, hb, hr, hml, hnL, hown, hts, hlocks, hK0, hA0, hst0⟩ := hB
  intro K ls st σ hK h ρ H locs LS kk n hW hS hl hokl hoks hk hn hag
  obtain ⟨x, a, st', rfl, ha, h⟩ := h
  skip
  subst hz ht
  obtain ⟨hF, hty0, hnm, hty⟩ := hF
  obtain ⟨hlive, htg⟩ := okv_at (okl_c.mp (okl_c.mp hoks).2).1 (by omega) ha
  obtain ⟨V, hnd, hV, hV0, hP, hD, hcl⟩ := id hW
  obtain ⟨cr, hTa⟩ := tg_obj htg (fun x hx => hT a x hx)
  obtain ⟨q, hq, hq2⟩ := ws_at (ρ := ρ) (ca := ca) (T := T) (σ := σ) ((hV a).mpr hlive)
  rw [hTa] at hq2
  rw [List.map_cons, List.map_cons]
  rw [am_val_p ρ (by omega) ha]
  have hset : (am_ws ρ ca T σ V).set q (ρ a, .inr (c, ((List.range (amN c)).map (am_fv ρ σ a c cr)).set k (.long (Int64.ofInt x)))) = am_ws ρ ca T (up σ a k x) V := by
    refine ws_set hnd hq (fun b hb _ j => up_n σ (Or.inl hb)) ?_
    rw [hTa, am_fs_set hF.N hF.2.2.1 (x := x) (by unfold am_fv; rw [hf, up_s]; rfl)]; rfl
  refine va_putF (D := D) (ci := c) (C := C) (T := Tt) (N := N) (ty := .long) hx hb hts hF.2.1 ty0 hty0 hnm hown hK0 hP hD hS q hq2 hF.1 k hF.2.2.1 (hts _ hF.2.2.2) (fun _ h9 => h9) hfin hin2 hdecl hty rfl rfl (by simp [hF.N]; exact hF.2.2.1) hd (fun H1 locs1 hP1 hD1 hS1 => ?_)
  have hP1 : va_P D vwCl (am_ws ρ ca T (up σ a k x) V) H1 := by rw [← hset]; exact hP1
  have hD1 : va_D (fun q => n0 ≤ q) (am_ws ρ ca T (up σ a k x) V) := by rw [← hset]; exact hD1
  refine hK _ _ _ _ h ρ H1 locs1 LS kk n (amW_put ha hnd hV hV0 (fun b hb j => up_n σ (Or.inl hb)) hP1 hD1 (fun b hbV => ?_)) hS1 hl (okl_up ha hokl) (okl_up ha (okl_c.mp (okl_c.mp hoks).2).2) hk hn (ag_up ha hag)
  by_cases hba : b = a
  · subst hba
    have hc := hcl b hbV
    unfold am_closed at hc ⊢
    rw [hTa] at hc ⊢
    intro j hj hfj
    have hjk : j ≠ k := by rintro rfl; rw [hf] at hfj; cases hfj
    rw [up_n σ (Or.inr (by omega))]
    exact (okv_up ha).mpr (hc j hj hfj)
  · exact cl_up_o ha hba (hcl b hbV)

end PUT
def vPutR (T : Int → Kd) (t k tr : Nat) (kz : Int) (n : Nat) : VT := fun _ K ls st σ => ∃ x y a st', st = (y, x) :: (t, a) :: st' ∧ 0 ≤ a ∧ (y = tr ∨ y = 15) ∧ (x < 0 → x = -1) ∧ (match T a with | .inl z => z.2 k = none | .inr _ => False) ∧ K n ls st' (up σ a kz x)
theorem vPutR_e (T : Int → Kd) (t k tr : Nat) (kz : Int) (n : Nat) (Q) (K) (ls st : List AV) (x a : Int) (y : Nat) (σ : Mem) : vPutR T t k tr kz n Q K ls ((y, x) :: (t, a) :: st) σ = (0 ≤ a ∧ (y = tr ∨ y = 15) ∧ (x < 0 → x = -1) ∧ (match T a with | .inl z => z.2 k = none | .inr _ => False) ∧ K n ls st (up σ a kz x)) := by
  apply propext; constructor
  · rintro ⟨x', y', a', st', h, h1⟩; cases h; exact h1
  · intro h1; exact ⟨x, y, a, st, rfl, h1⟩
section PUTR
variable {X : amX} {own : String} {cc : ByteArray} {ret : Option FieldType} {L pc : Nat} {C : String} {Tt : u_T} {N c k index t : Nat} {ty0 : Nat → FieldType} {ty : FieldType}

theorem ok_putR (hB : amB X own cc ret L) (hT : amTok (X.2.2.2.2.2.2.2.2.2.2.2.2.1)) (hF : amFp own c k index C Tt N ty0 ty) (hrt : ∀ v : Value, (v = .null ∨ ∃ b, v = .ref b) → narrow ty v = v ∧ fits ty v = true) (hfin : (Tt k).2.2.2 = false) (ht : t = 16 + c) {kz : Int} (hz : kz = (k : Int)) (hf : amF c k = 2) {tr : Nat} (htr : amTag c k = tr) (h2 : 2 ≤ tr) (h6r : ¬ tr < 6) (hd : decode cc pc = .ok (.putfield index, 3)) : amOK X pc (vPutR (X.2.2.2.2.2.2.2.2.2.2.2.2.1) t k tr kz (pc + 3)) := by
  obtain ⟨p, l, e, s, m, args, below, meth, c0, D, ca, n0, T, ρ0, σ0, dd, mc, ms, nL, Q⟩ := X
  obtain ⟨hx, hb, hr, hml, hnL, hown, hts, hlocks, hK0, hA0, hst0⟩ := hB
  intro K ls st σ hK h ρ H locs LS kk n hW hS hl hokl hoks hk hn hag
  obtain ⟨x, y, a, st', rfl, ha, hy, hneg, hno, h⟩ := h
  subst hz ht
  dsimp only at hno
  obtain ⟨hF, hty0, hnm, hty⟩ := hF
  obtain ⟨hlive, htg⟩ := okv_at (okl_c.mp (okl_c.mp hoks).2).1 (by omega) ha
  have hov := (okl_c.mp hoks).1
  obtain ⟨V, hnd, hV, hV0, hP, hD, hcl⟩ := id hW
  obtain ⟨cr, hTa⟩ := tg_obj htg (fun x hx => hT a x hx)
  have hno2 : cr k = none := by rw [hTa] at hno; exact hno
  obtain ⟨q, hq, hq2⟩ := ws_at (ρ := ρ) (ca := ca) (T := T) (σ := σ) ((hV a).mpr hlive)
  rw [hTa] at hq2
  rw [List.map_cons, List.map_cons]
  rw [am_val_p ρ (by omega) ha]
  have hy2 : 2 ≤ y := by omega
  have hvv : am_val ρ (y, x) = am_val ρ (8, x) := by rw [am_val_r ρ x hy2, am_val_r ρ x (by decide)]
  have hvk : am_val ρ (8, x) = .null ∨ ∃ b, am_val ρ (8, x) = .ref b := by
    rw [am_val_r ρ x (by decide)]; split
    · exact Or.inl rfl
    · exact Or.inr ⟨_, rfl⟩
  have hset : (am_ws ρ ca T σ V).set q (ρ a, .inr (c, ((List.range (amN c)).map (am_fv ρ σ a c cr)).set k (am_val ρ (8, x)))) = am_ws ρ ca T (up σ a k x) V := by
    refine ws_set hnd hq (fun b hb _ j => up_n σ (Or.inl hb)) ?_
    rw [hTa, am_fs_set hF.N hF.2.2.1 (x := x) (by unfold am_fv; rw [hf, up_s, hno2]; rfl)]; rfl
  rw [hvv]
  refine va_put (D := D) (ci := c) (C := C) (T := Tt) (N := N) (ty := ty) hx hb hts hF.2.1 ty0 hty0 hnm hown hK0 hP hD hS q hq2 hF.1 k hF.2.2.1 (hts _ hF.2.2.2) (fun _ h9 => h9) hfin hty (hrt _ hvk).1 (hrt _ hvk).2 (by simp [hF.N]; exact hF.2.2.1) hd (fun H1 locs1 hP1 hD1 hS1 => ?_)
  have hP1 : va_P D vwCl (am_ws ρ ca T (up σ a k x) V) H1 := by rw [← hset]; exact hP1
  have hD1 : va_D (fun q => n0 ≤ q) (am_ws ρ ca T (up σ a k x) V) := by rw [← hset]; exact hD1
  refine hK _ _ _ _ h ρ H1 locs1 LS kk n (amW_put ha hnd hV hV0 (fun b hb j => up_n σ (Or.inl hb)) hP1 hD1 (fun b hbV => ?_)) hS1 hl (okl_up ha hokl) (okl_up ha (okl_c.mp (okl_c.mp hoks).2).2) hk hn (ag_up ha hag)
  by_cases hba : b = a
  · subst hba
    have hc := hcl b hbV
    unfold am_closed at hc ⊢
    rw [hTa] at hc ⊢
    intro j hj hfj
    by_cases hjk : j = k
    · subst hjk
      show okv T (up σ b j x) (amTag c j, (cr j).getD (up σ b j x b j))
      rw [hno2, up_s]
      refine (okv_up ha).mpr ?_
      rcases hy with rfl | rfl
      · rw [htr]; exact hov
      · refine ⟨fun h8 => ?_, fun h8 h9 => ?_⟩
        · rcases hov.1 (show 8 ≤ 15 by decide) with h | h
          · exact Or.inl h
          · exfalso
            have h22 : tg (T x) = 15 := h.2
            cases hTx : T x with
            | inl z => rw [hTx] at h22; simp only [tg] at h22; omega
            | inr z => rw [hTx] at h22; simp only [tg] at h22; have := hT x z hTx; omega
        · exfalso
          rw [htr] at h9
          exact h6r h9
    · rw [up_n σ (Or.inr (by omega))]
      exact (okv_up ha).mpr (hc j hj hfj)
  · exact cl_up_o ha hba (hcl b hbV)

theorem ok_putRF (hB : amB X own cc ret L) (hT : amTok (X.2.2.2.2.2.2.2.2.2.2.2.2.1)) (hF : amFp own c k index C Tt N ty0 ty) (hrt : ∀ v : Value, (v = .null ∨ ∃ b, v = .ref b) → narrow ty v = v ∧ fits ty v = true) (hfin : (Tt k).2.2.2 = true) (hin2 : X.2.2.2.2.2.2.2.1.name = "<init>") (hdecl : (Tt k).1 = own) (ht : t = 16 + c) {kz : Int} (hz : kz = (k : Int)) (hf : amF c k = 2) {tr : Nat} (htr : amTag c k = tr) (h2 : 2 ≤ tr) (h6r : ¬ tr < 6) (hd : decode cc pc = .ok (.putfield index, 3)) : amOK X pc (vPutR (X.2.2.2.2.2.2.2.2.2.2.2.2.1) t k tr kz (pc + 3)) := by
  obtain ⟨p, l, e, s, m, args, below, meth, c0, D, ca, n0, T, ρ0, σ0, dd, mc, ms, nL, Q⟩ := X
  obtain ⟨hx, hb, hr, hml, hnL, hown, hts, hlocks, hK0, hA0, hst0⟩ := hB
  intro K ls st σ hK h ρ H locs LS kk n hW hS hl hokl hoks hk hn hag
  obtain ⟨x, y, a, st', rfl, ha, hy, hneg, hno, h⟩ := h
  subst hz ht
  dsimp only at hno
  obtain ⟨hF, hty0, hnm, hty⟩ := hF
  obtain ⟨hlive, htg⟩ := okv_at (okl_c.mp (okl_c.mp hoks).2).1 (by omega) ha
  have hov := (okl_c.mp hoks).1
  obtain ⟨V, hnd, hV, hV0, hP, hD, hcl⟩ := id hW
  obtain ⟨cr, hTa⟩ := tg_obj htg (fun x hx => hT a x hx)
  have hno2 : cr k = none := by rw [hTa] at hno; exact hno
  obtain ⟨q, hq, hq2⟩ := ws_at (ρ := ρ) (ca := ca) (T := T) (σ := σ) ((hV a).mpr hlive)
  rw [hTa] at hq2
  rw [List.map_cons, List.map_cons]
  rw [am_val_p ρ (by omega) ha]
  have hy2 : 2 ≤ y := by omega
  have hvv : am_val ρ (y, x) = am_val ρ (8, x) := by rw [am_val_r ρ x hy2, am_val_r ρ x (by decide)]
  have hvk : am_val ρ (8, x) = .null ∨ ∃ b, am_val ρ (8, x) = .ref b := by
    rw [am_val_r ρ x (by decide)]; split
    · exact Or.inl rfl
    · exact Or.inr ⟨_, rfl⟩
  have hset : (am_ws ρ ca T σ V).set q (ρ a, .inr (c, ((List.range (amN c)).map (am_fv ρ σ a c cr)).set k (am_val ρ (8, x)))) = am_ws ρ ca T (up σ a k x) V := by
    refine ws_set hnd hq (fun b hb _ j => up_n σ (Or.inl hb)) ?_
    rw [hTa, am_fs_set hF.N hF.2.2.1 (x := x) (by unfold am_fv; rw [hf, up_s, hno2]; rfl)]; rfl
  rw [hvv]
  refine va_putF (D := D) (ci := c) (C := C) (T := Tt) (N := N) (ty := ty) hx hb hts hF.2.1 ty0 hty0 hnm hown hK0 hP hD hS q hq2 hF.1 k hF.2.2.1 (hts _ hF.2.2.2) (fun _ h9 => h9) hfin hin2 hdecl hty (hrt _ hvk).1 (hrt _ hvk).2 (by simp [hF.N]; exact hF.2.2.1) hd (fun H1 locs1 hP1 hD1 hS1 => ?_)
  have hP1 : va_P D vwCl (am_ws ρ ca T (up σ a k x) V) H1 := by rw [← hset]; exact hP1
  have hD1 : va_D (fun q => n0 ≤ q) (am_ws ρ ca T (up σ a k x) V) := by rw [← hset]; exact hD1
  refine hK _ _ _ _ h ρ H1 locs1 LS kk n (amW_put ha hnd hV hV0 (fun b hb j => up_n σ (Or.inl hb)) hP1 hD1 (fun b hbV => ?_)) hS1 hl (okl_up ha hokl) (okl_up ha (okl_c.mp (okl_c.mp hoks).2).2) hk hn (ag_up ha hag)
  by_cases hba : b = a
  · subst hba
    have hc := hcl b hbV
    unfold am_closed at hc ⊢
    rw [hTa] at hc ⊢
    intro j hj hfj
    by_cases hjk : j = k
    · subst hjk
      show okv T (up σ b j x) (amTag c j, (cr j).getD (up σ b j x b j))
      rw [hno2, up_s]
      refine (okv_up ha).mpr ?_
      rcases hy with rfl | rfl
      · rw [htr]; exact hov
      · refine ⟨fun h8 => ?_, fun h8 h9 => ?_⟩
        · rcases hov.1 (show 8 ≤ 15 by decide) with h | h
          · exact Or.inl h
          · exfalso
            have h22 : tg (T x) = 15 := h.2
            cases hTx : T x with
            | inl z => rw [hTx] at h22; simp only [tg] at h22; omega
            | inr z => rw [hTx] at h22; simp only [tg] at h22; have := hT x z hTx; omega
        · exfalso
          rw [htr] at h9
          exact h6r h9
    · rw [up_n σ (Or.inr (by omega))]
      exact (okv_up ha).mpr (hc j hj hfj)
  · exact cl_up_o ha hba (hcl b hbV)

end PUTR
