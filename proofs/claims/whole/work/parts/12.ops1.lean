def vI (z : Int) (n : Nat) : VT := fun _ K ls st σ => K n ls ((0, z) :: st) σ
theorem vI_e (z : Int) (n : Nat) (Q) (K) (ls st : List AV) (σ : Mem) : vI z n Q K ls st σ = K n ls ((0, z) :: st) σ := rfl
def vL (z : Int) (n : Nat) : VT := fun _ K ls st σ => K n ls ((1, z) :: st) σ
theorem vL_e (z : Int) (n : Nat) (Q) (K) (ls st : List AV) (σ : Mem) : vL z n Q K ls st σ = K n ls ((1, z) :: st) σ := rfl
def vNull (n : Nat) : VT := fun _ K ls st σ => K n ls ((15, -1) :: st) σ
theorem vNull_e (n : Nat) (Q) (K) (ls st : List AV) (σ : Mem) : vNull n Q K ls st σ = K n ls ((15, -1) :: st) σ := rfl

theorem ok_iconst {X : amX} {own : String} {cc : ByteArray} {ret : Option FieldType} {L pc : Nat} (hB : amB X own cc ret L) {z : Int} (hd : decode cc pc = .ok (.iconst z, 1)) : amOK X pc (vI z (pc + 1)) := by
  obtain ⟨p, l, e, s, m, args, below, meth, c, D, ca, n0, T, ρ0, σ0, dd, mc, ms, nL, Q⟩ := X
  obtain ⟨hx, hb, hr, hml, hnL, hown, hts, hlocks, hK0, hA0, hst0⟩ := hB
  intro K ls st σ hK h ρ H locs LS k n hW hS hl hokl hoks hk hn hag
  refine lv_iconst hx hb hd rfl ?_
  exact hK _ _ _ _ h ρ H locs LS k n hW hS hl hokl (okl_c.mpr ⟨okv_s (by decide), hoks⟩) hk hn hag

theorem ok_bipush {X : amX} {own : String} {cc : ByteArray} {ret : Option FieldType} {L pc : Nat} (hB : amB X own cc ret L) {z : Int} (hd : decode cc pc = .ok (.bipush z, 2)) (hz : (Int8.ofInt z).toInt32 = Int32.ofInt z) : amOK X pc (vI z (pc + 2)) := by
  obtain ⟨p, l, e, s, m, args, below, meth, c, D, ca, n0, T, ρ0, σ0, dd, mc, ms, nL, Q⟩ := X
  obtain ⟨hx, hb, hr, hml, hnL, hown, hts, hlocks, hK0, hA0, hst0⟩ := hB
  intro K ls st σ hK h ρ H locs LS k n hW hS hl hokl hoks hk hn hag
  refine lv_bipush hx hb hd hz ?_
  exact hK _ _ _ _ h ρ H locs LS k n hW hS hl hokl (okl_c.mpr ⟨okv_s (by decide), hoks⟩) hk hn hag

theorem ok_sipush {X : amX} {own : String} {cc : ByteArray} {ret : Option FieldType} {L pc : Nat} (hB : amB X own cc ret L) {z : Int} (hd : decode cc pc = .ok (.sipush z, 3)) (hz : (Int16.ofInt z).toInt32 = Int32.ofInt z) : amOK X pc (vI z (pc + 3)) := by
  obtain ⟨p, l, e, s, m, args, below, meth, c, D, ca, n0, T, ρ0, σ0, dd, mc, ms, nL, Q⟩ := X
  obtain ⟨hx, hb, hr, hml, hnL, hown, hts, hlocks, hK0, hA0, hst0⟩ := hB
  intro K ls st σ hK h ρ H locs LS k n hW hS hl hokl hoks hk hn hag
  refine lv_sipush hx hb hd hz ?_
  exact hK _ _ _ _ h ρ H locs LS k n hW hS hl hokl (okl_c.mpr ⟨okv_s (by decide), hoks⟩) hk hn hag

theorem ok_ldc {X : amX} {own : String} {cc : ByteArray} {ret : Option FieldType} {L pc : Nat} (hB : amB X own cc ret L) {z : Int} {i : Nat} {v : Int32} (hw : Cond.constant own i v ∈ TBL) (hv : v = Int32.ofInt z) (hd : decode cc pc = .ok (.ldc i, 2)) : amOK X pc (vI z (pc + 2)) := by
  obtain ⟨p, l, e, s, m, args, below, meth, c, D, ca, n0, T, ρ0, σ0, dd, mc, ms, nL, Q⟩ := X
  obtain ⟨hx, hb, hr, hml, hnL, hown, hts, hlocks, hK0, hA0, hst0⟩ := hB
  intro K ls st σ hK h ρ H locs LS k n hW hS hl hokl hoks hk hn hag
  refine lv_ldc (v := Int32.ofInt z) hx hb hown (hv ▸ hts _ hw) hd ?_
  exact hK _ _ _ _ h ρ H locs LS k n hW hS hl hokl (okl_c.mpr ⟨okv_s (by decide), hoks⟩) hk hn hag

theorem ok_ldcw {X : amX} {own : String} {cc : ByteArray} {ret : Option FieldType} {L pc : Nat} (hB : amB X own cc ret L) {z : Int} {i : Nat} {v : Int32} (hw : Cond.constant own i v ∈ TBL) (hv : v = Int32.ofInt z) (hd : decode cc pc = .ok (.ldc_w i, 3)) : amOK X pc (vI z (pc + 3)) := by
  obtain ⟨p, l, e, s, m, args, below, meth, c, D, ca, n0, T, ρ0, σ0, dd, mc, ms, nL, Q⟩ := X
  obtain ⟨hx, hb, hr, hml, hnL, hown, hts, hlocks, hK0, hA0, hst0⟩ := hB
  intro K ls st σ hK h ρ H locs LS k n hW hS hl hokl hoks hk hn hag
  refine lv_ldcw (v := Int32.ofInt z) hx hb hown (hv ▸ hts _ hw) hd ?_
  exact hK _ _ _ _ h ρ H locs LS k n hW hS hl hokl (okl_c.mpr ⟨okv_s (by decide), hoks⟩) hk hn hag

theorem ok_ldc2 {X : amX} {own : String} {cc : ByteArray} {ret : Option FieldType} {L pc : Nat} (hB : amB X own cc ret L) {z : Int} {i : Nat} {v : Int64} (hw : Cond.constantLong own i v ∈ TBL) (hv : v = Int64.ofInt z) (hd : decode cc pc = .ok (.ldc2_w i, 3)) : amOK X pc (vL z (pc + 3)) := by
  obtain ⟨p, l, e, s, m, args, below, meth, c, D, ca, n0, T, ρ0, σ0, dd, mc, ms, nL, Q⟩ := X
  obtain ⟨hx, hb, hr, hml, hnL, hown, hts, hlocks, hK0, hA0, hst0⟩ := hB
  intro K ls st σ hK h ρ H locs LS k n hW hS hl hokl hoks hk hn hag
  refine lv_ldc2 (v := Int64.ofInt z) hx hb hown (hv ▸ hts _ hw) hd ?_
  exact hK _ _ _ _ h ρ H locs LS k n hW hS hl hokl (okl_c.mpr ⟨okv_s (by decide), hoks⟩) hk hn hag

theorem ok_lconst {X : amX} {own : String} {cc : ByteArray} {ret : Option FieldType} {L pc : Nat} (hB : amB X own cc ret L) {z : Int} {q : Fin 2} (hz : Int64.ofNat q = Int64.ofInt z) (hd : decode cc pc = .ok (.lconst q, 1)) : amOK X pc (vL z (pc + 1)) := by
  obtain ⟨p, l, e, s, m, args, below, meth, c, D, ca, n0, T, ρ0, σ0, dd, mc, ms, nL, Q⟩ := X
  obtain ⟨hx, hb, hr, hml, hnL, hown, hts, hlocks, hK0, hA0, hst0⟩ := hB
  intro K ls st σ hK h ρ H locs LS k n hW hS hl hokl hoks hk hn hag
  refine lv_lconst hx hb hd hz ?_
  exact hK _ _ _ _ h ρ H locs LS k n hW hS hl hokl (okl_c.mpr ⟨okv_s (by decide), hoks⟩) hk hn hag

theorem ok_null {X : amX} {own : String} {cc : ByteArray} {ret : Option FieldType} {L pc : Nat} (hB : amB X own cc ret L) (hd : decode cc pc = .ok (.aconst_null, 1)) : amOK X pc (vNull (pc + 1)) := by
  obtain ⟨p, l, e, s, m, args, below, meth, c, D, ca, n0, T, ρ0, σ0, dd, mc, ms, nL, Q⟩ := X
  obtain ⟨hx, hb, hr, hml, hnL, hown, hts, hlocks, hK0, hA0, hst0⟩ := hB
  intro K ls st σ hK h ρ H locs LS k n hW hS hl hokl hoks hk hn hag
  refine lv_null hx hb hd ?_
  exact hK _ _ _ _ h ρ H locs LS k n hW hS hl hokl (okl_c.mpr ⟨⟨fun _ => Or.inl (show (-1 : Int) < 0 by decide), fun _ h => absurd h (by decide)⟩, hoks⟩) hk hn hag

def vIload (i n : Nat) : VT := fun _ K ls st σ => (lg ls i).1 = 0 ∧ K n ls (lg ls i :: st) σ
theorem vIload_e (i n : Nat) (Q) (K) (ls st : List AV) (σ : Mem) : vIload i n Q K ls st σ = ((lg ls i).1 = 0 ∧ K n ls (lg ls i :: st) σ) := rfl
def vLload (i n : Nat) : VT := fun _ K ls st σ => (lg ls i).1 = 1 ∧ K n ls (lg ls i :: st) σ
theorem vLload_e (i n : Nat) (Q) (K) (ls st : List AV) (σ : Mem) : vLload i n Q K ls st σ = ((lg ls i).1 = 1 ∧ K n ls (lg ls i :: st) σ) := rfl
def isRf (t : Nat) : Bool := t == 3 || t == 4 || t == 5 || Nat.ble 8 t
def vAload (i n : Nat) : VT := fun _ K ls st σ => isRf (lg ls i).1 = true ∧ K n ls (lg ls i :: st) σ
theorem vAload_e (i n : Nat) (Q) (K) (ls st : List AV) (σ : Mem) : vAload i n Q K ls st σ = (isRf (lg ls i).1 = true ∧ K n ls (lg ls i :: st) σ) := rfl
theorem isRf_2 {t : Nat} (h : isRf t = true) : 2 ≤ t ∧ t ≠ 6 ∧ t ≠ 7 := by
  simp only [isRf, Bool.or_eq_true, beq_iff_eq, Nat.ble_eq] at h
  omega

theorem ok_iload_n {X : amX} {own : String} {cc : ByteArray} {ret : Option FieldType} {L pc : Nat} (hB : amB X own cc ret L) {k0 : Fin 4} (hd : decode cc pc = .ok (.iload_n k0, 1)) : amOK X pc (vIload k0 (pc + 1)) := by
  obtain ⟨p, l, e, s, m, args, below, meth, c, D, ca, n0, T, ρ0, σ0, dd, mc, ms, nL, Q⟩ := X
  obtain ⟨hx, hb, hr, hml, hnL, hown, hts, hlocks, hK0, hA0, hst0⟩ := hB
  intro K ls st σ hK h ρ H locs LS k n hW hS hl hokl hoks hk hn hag
  obtain ⟨h0, h⟩ := h
  have hz : LS[(k0 : Nat)]? = some (.val (.int (Int32.ofInt (lg ls k0).2))) := by
    rw [lv_read hl (by rw [h0]; decide) (by rw [h0]; decide)]
    rw [show lg ls k0 = (0, (lg ls k0).2) from Prod.ext h0 rfl]; rfl
  refine lv_iload_n hx hb hd rfl hz ?_
  have := hK _ _ _ _ h ρ H locs LS k n hW hS hl hokl (okl_c.mpr ⟨lg_ok hokl, hoks⟩) hk hn hag
  rw [List.map_cons, show lg ls k0 = (0, (lg ls k0).2) from Prod.ext h0 rfl] at this
  exact this

theorem ok_iload {X : amX} {own : String} {cc : ByteArray} {ret : Option FieldType} {L pc : Nat} (hB : amB X own cc ret L) {k0 : Nat} (hd : decode cc pc = .ok (.iload k0, 2)) : amOK X pc (vIload k0 (pc + 2)) := by
  obtain ⟨p, l, e, s, m, args, below, meth, c, D, ca, n0, T, ρ0, σ0, dd, mc, ms, nL, Q⟩ := X
  obtain ⟨hx, hb, hr, hml, hnL, hown, hts, hlocks, hK0, hA0, hst0⟩ := hB
  intro K ls st σ hK h ρ H locs LS k n hW hS hl hokl hoks hk hn hag
  obtain ⟨h0, h⟩ := h
  have hz : LS[(k0 : Nat)]? = some (.val (.int (Int32.ofInt (lg ls k0).2))) := by
    rw [lv_read hl (by rw [h0]; decide) (by rw [h0]; decide)]
    rw [show lg ls k0 = (0, (lg ls k0).2) from Prod.ext h0 rfl]; rfl
  refine lv_iload hx hb hd hz ?_
  have := hK _ _ _ _ h ρ H locs LS k n hW hS hl hokl (okl_c.mpr ⟨lg_ok hokl, hoks⟩) hk hn hag
  rw [List.map_cons, show lg ls k0 = (0, (lg ls k0).2) from Prod.ext h0 rfl] at this
  exact this

theorem ok_lload_n {X : amX} {own : String} {cc : ByteArray} {ret : Option FieldType} {L pc : Nat} (hB : amB X own cc ret L) {k0 : Fin 4} (hd : decode cc pc = .ok (.lload_n k0, 1)) : amOK X pc (vLload k0 (pc + 1)) := by
  obtain ⟨p, l, e, s, m, args, below, meth, c, D, ca, n0, T, ρ0, σ0, dd, mc, ms, nL, Q⟩ := X
  obtain ⟨hx, hb, hr, hml, hnL, hown, hts, hlocks, hK0, hA0, hst0⟩ := hB
  intro K ls st σ hK h ρ H locs LS k n hW hS hl hokl hoks hk hn hag
  obtain ⟨h0, h⟩ := h
  have hz : LS[(k0 : Nat)]? = some (.val (.long (Int64.ofInt (lg ls k0).2))) := by
    rw [lv_read hl (by rw [h0]; decide) (by rw [h0]; decide)]
    rw [show lg ls k0 = (1, (lg ls k0).2) from Prod.ext h0 rfl]; rfl
  refine lv_lload_n hx hb hd rfl hz ?_
  have := hK _ _ _ _ h ρ H locs LS k n hW hS hl hokl (okl_c.mpr ⟨lg_ok hokl, hoks⟩) hk hn hag
  rw [List.map_cons, show lg ls k0 = (1, (lg ls k0).2) from Prod.ext h0 rfl] at this
  exact this

theorem ok_lload {X : amX} {own : String} {cc : ByteArray} {ret : Option FieldType} {L pc : Nat} (hB : amB X own cc ret L) {k0 : Nat} (hd : decode cc pc = .ok (.lload k0, 2)) : amOK X pc (vLload k0 (pc + 2)) := by
  obtain ⟨p, l, e, s, m, args, below, meth, c, D, ca, n0, T, ρ0, σ0, dd, mc, ms, nL, Q⟩ := X
  obtain ⟨hx, hb, hr, hml, hnL, hown, hts, hlocks, hK0, hA0, hst0⟩ := hB
  intro K ls st σ hK h ρ H locs LS k n hW hS hl hokl hoks hk hn hag
  obtain ⟨h0, h⟩ := h
  have hz : LS[(k0 : Nat)]? = some (.val (.long (Int64.ofInt (lg ls k0).2))) := by
    rw [lv_read hl (by rw [h0]; decide) (by rw [h0]; decide)]
    rw [show lg ls k0 = (1, (lg ls k0).2) from Prod.ext h0 rfl]; rfl
  refine lv_lload hx hb hd hz ?_
  have := hK _ _ _ _ h ρ H locs LS k n hW hS hl hokl (okl_c.mpr ⟨lg_ok hokl, hoks⟩) hk hn hag
  rw [List.map_cons, show lg ls k0 = (1, (lg ls k0).2) from Prod.ext h0 rfl] at this
  exact this

theorem ok_aload_n {X : amX} {own : String} {cc : ByteArray} {ret : Option FieldType} {L pc : Nat} (hB : amB X own cc ret L) {k0 : Fin 4} (hd : decode cc pc = .ok (.aload_n k0, 1)) : amOK X pc (vAload k0 (pc + 1)) := by
  obtain ⟨p, l, e, s, m, args, below, meth, c, D, ca, n0, T, ρ0, σ0, dd, mc, ms, nL, Q⟩ := X
  obtain ⟨hx, hb, hr, hml, hnL, hown, hts, hlocks, hK0, hA0, hst0⟩ := hB
  intro K ls st σ hK h ρ H locs LS k n hW hS hl hokl hoks hk hn hag
  obtain ⟨h0, h⟩ := h
  obtain ⟨h2, h6, h7⟩ := isRf_2 h0
  have hz := lv_read hl h6 h7
  have := hK _ _ _ _ h ρ H locs LS k n hW hS hl hokl (okl_c.mpr ⟨lg_ok hokl, hoks⟩) hk hn hag
  rw [List.map_cons, am_val_r ρ _ h2] at this
  rw [am_val_r ρ _ h2] at hz
  by_cases hneg : (lg ls k0).2 < 0
  · rw [if_pos hneg] at hz this
    exact lv_aload_nN hx hb hd rfl hz this
  · rw [if_neg hneg] at hz this
    exact lv_aload_n hx hb hd rfl hz this

theorem ok_aload {X : amX} {own : String} {cc : ByteArray} {ret : Option FieldType} {L pc : Nat} (hB : amB X own cc ret L) {k0 : Nat} (hd : decode cc pc = .ok (.aload k0, 2)) : amOK X pc (vAload k0 (pc + 2)) := by
  obtain ⟨p, l, e, s, m, args, below, meth, c, D, ca, n0, T, ρ0, σ0, dd, mc, ms, nL, Q⟩ := X
  obtain ⟨hx, hb, hr, hml, hnL, hown, hts, hlocks, hK0, hA0, hst0⟩ := hB
  intro K ls st σ hK h ρ H locs LS k n hW hS hl hokl hoks hk hn hag
  obtain ⟨h0, h⟩ := h
  obtain ⟨h2, h6, h7⟩ := isRf_2 h0
  have hz := lv_read hl h6 h7
  have := hK _ _ _ _ h ρ H locs LS k n hW hS hl hokl (okl_c.mpr ⟨lg_ok hokl, hoks⟩) hk hn hag
  rw [List.map_cons, am_val_r ρ _ h2] at this
  rw [am_val_r ρ _ h2] at hz
  by_cases hneg : (lg ls k0).2 < 0
  · rw [if_pos hneg] at hz this
    exact lv_aloadN hx hb hd hz this
  · rw [if_neg hneg] at hz this
    exact lv_aload hx hb hd hz this

def vIstore (i n : Nat) : VT := fun _ K ls st σ => ∃ x st', st = (0, x) :: st' ∧ okst ls i = true ∧ K n (ls.set i (0, x)) st' σ
theorem vIstore_e (i n : Nat) (Q) (K) (ls st : List AV) (x : Int) (σ : Mem) : vIstore i n Q K ls ((0, x) :: st) σ = (okst ls i = true ∧ K n (ls.set i (0, x)) st σ) := by
  apply propext; constructor
  · rintro ⟨x', st', h, h1, h2⟩; cases h; exact ⟨h1, h2⟩
  · rintro ⟨h1, h2⟩; exact ⟨x, st, rfl, h1, h2⟩
def vLstore (i n : Nat) : VT := fun _ K ls st σ => ∃ x st', st = (1, x) :: st' ∧ okst ls i = true ∧ K n ((ls.set i (1, x)).set (i + 1) (7, 0)) st' σ
theorem vLstore_e (i n : Nat) (Q) (K) (ls st : List AV) (x : Int) (σ : Mem) : vLstore i n Q K ls ((1, x) :: st) σ = (okst ls i = true ∧ K n ((ls.set i (1, x)).set (i + 1) (7, 0)) st σ) := by
  apply propext; constructor
  · rintro ⟨x', st', h, h1, h2⟩; cases h; exact ⟨h1, h2⟩
  · rintro ⟨h1, h2⟩; exact ⟨x, st, rfl, h1, h2⟩
def vAstore (i n : Nat) : VT := fun _ K ls st σ => ∃ v st', st = v :: st' ∧ isRf v.1 = true ∧ okst ls i = true ∧ K n (ls.set i v) st' σ
theorem vAstore_e (i n : Nat) (Q) (K) (ls st : List AV) (v : AV) (σ : Mem) : vAstore i n Q K ls (v :: st) σ = (isRf v.1 = true ∧ okst ls i = true ∧ K n (ls.set i v) st σ) := by
  apply propext; constructor
  · rintro ⟨x', st', h, h1, h2⟩; cases h; exact ⟨h1, h2⟩
  · rintro ⟨h1, h2⟩; exact ⟨v, st, rfl, h1, h2⟩
def vIinc (i : Nat) (z : Int) (n : Nat) : VT := fun _ K ls st σ => (lg ls i).1 = 0 ∧ okst ls i = true ∧ K n (ls.set i (0, (lg ls i).2 + z)) st σ
theorem vIinc_e (i : Nat) (z : Int) (n : Nat) (Q) (K) (ls st : List AV) (σ : Mem) : vIinc i z n Q K ls st σ = ((lg ls i).1 = 0 ∧ okst ls i = true ∧ K n (ls.set i (0, (lg ls i).2 + z)) st σ) := rfl

theorem ok_istore_n {X : amX} {own : String} {cc : ByteArray} {ret : Option FieldType} {L pc : Nat} (hB : amB X own cc ret L) {k0 : Fin 4} (hi : k0 < L) (hd : decode cc pc = .ok (.istore_n k0, 1)) : amOK X pc (vIstore k0 (pc + 1)) := by
  obtain ⟨p, l, e, s, m, args, below, meth, c, D, ca, n0, T, ρ0, σ0, dd, mc, ms, nL, Q⟩ := X
  obtain ⟨hx, hb, hr, hml, hnL, hown, hts, hlocks, hK0, hA0, hst0⟩ := hB
  intro K ls st σ hK h ρ H locs LS k n hW hS hl hokl hoks hk hn hag
  subst hnL
  obtain ⟨x, st', rfl, hko, h⟩ := h
  refine lv_istore_n (x := Int32.ofInt x) (rest := st'.map (am_val ρ)) hx hb hd rfl hl hi rfl (fun LS' hl' => ?_)
  exact hK _ _ _ _ h ρ H locs LS' k n hW hS (lv_mono hl' (lv_st1 hko)) (okl_set hokl (okv_s (by decide))) (okl_c.mp hoks).2 (by rw [lg_set hi]; exact hk) (by rw [lg_set (by omega)]; exact hn) hag

theorem ok_istore {X : amX} {own : String} {cc : ByteArray} {ret : Option FieldType} {L pc : Nat} (hB : amB X own cc ret L) {k0 : Nat} (hi : k0 < L) (hd : decode cc pc = .ok (.istore k0, 2)) : amOK X pc (vIstore k0 (pc + 2)) := by
  obtain ⟨p, l, e, s, m, args, below, meth, c, D, ca, n0, T, ρ0, σ0, dd, mc, ms, nL, Q⟩ := X
  obtain ⟨hx, hb, hr, hml, hnL, hown, hts, hlocks, hK0, hA0, hst0⟩ := hB
  intro K ls st σ hK h ρ H locs LS k n hW hS hl hokl hoks hk hn hag
  subst hnL
  obtain ⟨x, st', rfl, hko, h⟩ := h
  refine lv_istore (x := Int32.ofInt x) (rest := st'.map (am_val ρ)) hx hb hd hl hi rfl (fun LS' hl' => ?_)
  exact hK _ _ _ _ h ρ H locs LS' k n hW hS (lv_mono hl' (lv_st1 hko)) (okl_set hokl (okv_s (by decide))) (okl_c.mp hoks).2 (by rw [lg_set hi]; exact hk) (by rw [lg_set (by omega)]; exact hn) hag

theorem ok_lstore_n {X : amX} {own : String} {cc : ByteArray} {ret : Option FieldType} {L pc : Nat} (hB : amB X own cc ret L) {k0 : Fin 4} (hi : k0 + 1 < L) (hd : decode cc pc = .ok (.lstore_n k0, 1)) : amOK X pc (vLstore k0 (pc + 1)) := by
  obtain ⟨p, l, e, s, m, args, below, meth, c, D, ca, n0, T, ρ0, σ0, dd, mc, ms, nL, Q⟩ := X
  obtain ⟨hx, hb, hr, hml, hnL, hown, hts, hlocks, hK0, hA0, hst0⟩ := hB
  intro K ls st σ hK h ρ H locs LS k n hW hS hl hokl hoks hk hn hag
  subst hnL
  obtain ⟨x, st', rfl, hko, h⟩ := h
  refine lv_lstore_n (x := Int64.ofInt x) (rest := st'.map (am_val ρ)) hx hb hd rfl hl hi rfl (fun LS' hl' => ?_)
  exact hK _ _ _ _ h ρ H locs LS' k n hW hS (lv_mono hl' (lv_st2 hko)) (okl_set (okl_set hokl (okv_s (by decide))) (okv_s (by decide))) (okl_c.mp hoks).2 (by rw [lg_set (by omega), lg_set (by omega)]; exact hk) (by rw [lg_set (by omega), lg_set (by omega)]; exact hn) hag

theorem ok_lstore {X : amX} {own : String} {cc : ByteArray} {ret : Option FieldType} {L pc : Nat} (hB : amB X own cc ret L) {k0 : Nat} (hi : k0 + 1 < L) (hd : decode cc pc = .ok (.lstore k0, 2)) : amOK X pc (vLstore k0 (pc + 2)) := by
  obtain ⟨p, l, e, s, m, args, below, meth, c, D, ca, n0, T, ρ0, σ0, dd, mc, ms, nL, Q⟩ := X
  obtain ⟨hx, hb, hr, hml, hnL, hown, hts, hlocks, hK0, hA0, hst0⟩ := hB
  intro K ls st σ hK h ρ H locs LS k n hW hS hl hokl hoks hk hn hag
  subst hnL
  obtain ⟨x, st', rfl, hko, h⟩ := h
  refine lv_lstore (x := Int64.ofInt x) (rest := st'.map (am_val ρ)) hx hb hd hl hi rfl (fun LS' hl' => ?_)
  exact hK _ _ _ _ h ρ H locs LS' k n hW hS (lv_mono hl' (lv_st2 hko)) (okl_set (okl_set hokl (okv_s (by decide))) (okv_s (by decide))) (okl_c.mp hoks).2 (by rw [lg_set (by omega), lg_set (by omega)]; exact hk) (by rw [lg_set (by omega), lg_set (by omega)]; exact hn) hag

theorem ok_astore_n {X : amX} {own : String} {cc : ByteArray} {ret : Option FieldType} {L pc : Nat} (hB : amB X own cc ret L) {k0 : Fin 4} (hi : k0 < L) (hd : decode cc pc = .ok (.astore_n k0, 1)) : amOK X pc (vAstore k0 (pc + 1)) := by
  obtain ⟨p, l, e, s, m, args, below, meth, c, D, ca, n0, T, ρ0, σ0, dd, mc, ms, nL, Q⟩ := X
  obtain ⟨hx, hb, hr, hml, hnL, hown, hts, hlocks, hK0, hA0, hst0⟩ := hB
  intro K ls st σ hK h ρ H locs LS k n hW hS hl hokl hoks hk hn hag
  subst hnL
  obtain ⟨⟨t, z⟩, st', rfl, hrf, hko, h⟩ := h
  obtain ⟨h2, -, -⟩ := isRf_2 hrf
  have go : ∀ LS' : Array Slot, lv_has LS' nL (((k0 : Nat), am_val ρ (t, z)) :: (lvl ρ 0 ls).filter (fun q => !(q.1 == (k0 : Nat)) && !(q.1 + 1 == (k0 : Nat) && q.2.category == 2))) → W p l e (amR dd mc ms) s m args below meth c H locs k n (MQ below (amQc D ca T n0 ρ0 σ0 Q) args s mc ms (fun q => n0 ≤ q)) (F0 m (pc + 1) LS' (st'.map (am_val ρ))) := fun LS' hl' =>
    hK _ _ _ _ h ρ H locs LS' k n hW hS (lv_mono hl' (lv_st1 hko)) (okl_set hokl (okl_c.mp hoks).1) (okl_c.mp hoks).2 (by rw [lg_set hi]; exact hk) (by rw [lg_set (by omega)]; exact hn) hag
  rw [List.map_cons]
  rw [am_val_r ρ z h2] at go ⊢
  by_cases hneg : z < 0
  · rw [if_pos hneg] at go ⊢
    exact lv_astore_nN hx hb hd rfl hl hi rfl go
  · rw [if_neg hneg] at go ⊢
    exact lv_astore_n hx hb hd rfl hl hi rfl go

theorem ok_astore {X : amX} {own : String} {cc : ByteArray} {ret : Option FieldType} {L pc : Nat} (hB : amB X own cc ret L) {k0 : Nat} (hi : k0 < L) (hd : decode cc pc = .ok (.astore k0, 2)) : amOK X pc (vAstore k0 (pc + 2)) := by
  obtain ⟨p, l, e, s, m, args, below, meth, c, D, ca, n0, T, ρ0, σ0, dd, mc, ms, nL, Q⟩ := X
  obtain ⟨hx, hb, hr, hml, hnL, hown, hts, hlocks, hK0, hA0, hst0⟩ := hB
  intro K ls st σ hK h ρ H locs LS k n hW hS hl hokl hoks hk hn hag
  subst hnL
  obtain ⟨⟨t, z⟩, st', rfl, hrf, hko, h⟩ := h
  obtain ⟨h2, -, -⟩ := isRf_2 hrf
  have go : ∀ LS' : Array Slot, lv_has LS' nL (((k0 : Nat), am_val ρ (t, z)) :: (lvl ρ 0 ls).filter (fun q => !(q.1 == (k0 : Nat)) && !(q.1 + 1 == (k0 : Nat) && q.2.category == 2))) → W p l e (amR dd mc ms) s m args below meth c H locs k n (MQ below (amQc D ca T n0 ρ0 σ0 Q) args s mc ms (fun q => n0 ≤ q)) (F0 m (pc + 2) LS' (st'.map (am_val ρ))) := fun LS' hl' =>
    hK _ _ _ _ h ρ H locs LS' k n hW hS (lv_mono hl' (lv_st1 hko)) (okl_set hokl (okl_c.mp hoks).1) (okl_c.mp hoks).2 (by rw [lg_set hi]; exact hk) (by rw [lg_set (by omega)]; exact hn) hag
  rw [List.map_cons]
  rw [am_val_r ρ z h2] at go ⊢
  by_cases hneg : z < 0
  · rw [if_pos hneg] at go ⊢
    exact lv_astoreN hx hb hd hl hi rfl go
  · rw [if_neg hneg] at go ⊢
    exact lv_astore hx hb hd hl hi rfl go

theorem ok_iinc {X : amX} {own : String} {cc : ByteArray} {ret : Option FieldType} {L pc : Nat} (hB : amB X own cc ret L) {k0 : Nat} {z : Int} (hi : k0 < L) (hd : decode cc pc = .ok (.iinc k0 z, 3)) : amOK X pc (vIinc k0 z (pc + 3)) := by
  obtain ⟨p, l, e, s, m, args, below, meth, c, D, ca, n0, T, ρ0, σ0, dd, mc, ms, nL, Q⟩ := X
  obtain ⟨hx, hb, hr, hml, hnL, hown, hts, hlocks, hK0, hA0, hst0⟩ := hB
  intro K ls st σ hK h ρ H locs LS k n hW hS hl hokl hoks hk hn hag
  subst hnL
  obtain ⟨h0, hko, h⟩ := h
  obtain ⟨kx, hkx⟩ := List.getElem?_of_mem (lvl_in ρ ls 0 k0 _ (lg_some (by rw [h0]; decide)) (by rw [h0]; decide) (by rw [h0]; decide))
  rw [Nat.zero_add, show lg ls k0 = (0, (lg ls k0).2) from Prod.ext h0 rfl] at hkx
  refine lv_iinc (x := Int32.ofInt (lg ls k0).2) (v := Int32.ofInt ((lg ls k0).2 + z)) hx hb hd hl hkx (by rw [Int32.ofInt_add]) hi rfl (fun LS' hl' => ?_)
  exact hK _ _ _ _ h ρ H locs LS' k n hW hS (lv_mono hl' (lv_st1 hko)) (okl_set hokl (okv_s (by decide))) hoks (by rw [lg_set hi]; exact hk) (by rw [lg_set (by omega)]; exact hn) hag

def vIadd (n : Nat) : VT := fun _ K ls st σ => ∃ a b st', st = (0, b) :: (0, a) :: st' ∧ K n ls ((0, a + b) :: st') σ
theorem vIadd_e (n : Nat) (Q) (K) (ls st : List AV) (a b : Int) (σ : Mem) : vIadd n Q K ls ((0, b) :: (0, a) :: st) σ = (K n ls ((0, a + b) :: st) σ) := by
  apply propext; constructor
  · rintro ⟨a', b', st', h, h1⟩; cases h; exact h1
  · intro h1; exact ⟨a, b, st, rfl, h1⟩
theorem ok_iadd {X : amX} {own : String} {cc : ByteArray} {ret : Option FieldType} {L pc : Nat} (hB : amB X own cc ret L) (hd : decode cc pc = .ok (.iadd, 1)) : amOK X pc (vIadd (pc + 1)) := by
  obtain ⟨p, l, e, s, m, args, below, meth, c, D, ca, n0, T, ρ0, σ0, dd, mc, ms, nL, Q⟩ := X
  obtain ⟨hx, hb, hr, hml, hnL, hown, hts, hlocks, hK0, hA0, hst0⟩ := hB
  intro K ls st σ hK h ρ H locs LS k n hW hS hl hokl hoks hk hn hag
  obtain ⟨a, b, st', rfl, h⟩ := h
  skip
  have key := hK _ _ _ _ h ρ H locs LS k n hW hS hl hokl (okl_c.mpr ⟨okv_s (by decide), (okl_c.mp (okl_c.mp hoks).2).2⟩) hk hn hag
  rw [List.map_cons] at key
  rw [am_val_0, Int32.ofInt_add] at key
  exact lv_iadd hx hb hd key

def vIsub (n : Nat) : VT := fun _ K ls st σ => ∃ a b st', st = (0, b) :: (0, a) :: st' ∧ K n ls ((0, a - b) :: st') σ
theorem vIsub_e (n : Nat) (Q) (K) (ls st : List AV) (a b : Int) (σ : Mem) : vIsub n Q K ls ((0, b) :: (0, a) :: st) σ = (K n ls ((0, a - b) :: st) σ) := by
  apply propext; constructor
  · rintro ⟨a', b', st', h, h1⟩; cases h; exact h1
  · intro h1; exact ⟨a, b, st, rfl, h1⟩
theorem ok_isub {X : amX} {own : String} {cc : ByteArray} {ret : Option FieldType} {L pc : Nat} (hB : amB X own cc ret L) (hd : decode cc pc = .ok (.isub, 1)) : amOK X pc (vIsub (pc + 1)) := by
  obtain ⟨p, l, e, s, m, args, below, meth, c, D, ca, n0, T, ρ0, σ0, dd, mc, ms, nL, Q⟩ := X
  obtain ⟨hx, hb, hr, hml, hnL, hown, hts, hlocks, hK0, hA0, hst0⟩ := hB
  intro K ls st σ hK h ρ H locs LS k n hW hS hl hokl hoks hk hn hag
  obtain ⟨a, b, st', rfl, h⟩ := h
  skip
  have key := hK _ _ _ _ h ρ H locs LS k n hW hS hl hokl (okl_c.mpr ⟨okv_s (by decide), (okl_c.mp (okl_c.mp hoks).2).2⟩) hk hn hag
  rw [List.map_cons] at key
  rw [am_val_0, Int32.ofInt_sub] at key
  exact lv_isub hx hb hd key

def vImul (n : Nat) : VT := fun _ K ls st σ => ∃ a b st', st = (0, b) :: (0, a) :: st' ∧ K n ls ((0, a * b) :: st') σ
theorem vImul_e (n : Nat) (Q) (K) (ls st : List AV) (a b : Int) (σ : Mem) : vImul n Q K ls ((0, b) :: (0, a) :: st) σ = (K n ls ((0, a * b) :: st) σ) := by
  apply propext; constructor
  · rintro ⟨a', b', st', h, h1⟩; cases h; exact h1
  · intro h1; exact ⟨a, b, st, rfl, h1⟩
theorem ok_imul {X : amX} {own : String} {cc : ByteArray} {ret : Option FieldType} {L pc : Nat} (hB : amB X own cc ret L) (hd : decode cc pc = .ok (.imul, 1)) : amOK X pc (vImul (pc + 1)) := by
  obtain ⟨p, l, e, s, m, args, below, meth, c, D, ca, n0, T, ρ0, σ0, dd, mc, ms, nL, Q⟩ := X
  obtain ⟨hx, hb, hr, hml, hnL, hown, hts, hlocks, hK0, hA0, hst0⟩ := hB
  intro K ls st σ hK h ρ H locs LS k n hW hS hl hokl hoks hk hn hag
  obtain ⟨a, b, st', rfl, h⟩ := h
  skip
  have key := hK _ _ _ _ h ρ H locs LS k n hW hS hl hokl (okl_c.mpr ⟨okv_s (by decide), (okl_c.mp (okl_c.mp hoks).2).2⟩) hk hn hag
  rw [List.map_cons] at key
  rw [am_val_0, Int32.ofInt_mul] at key
  exact lv_imul hx hb hd key

def amIand (a b : Int) : Int := (Int32.ofInt a &&& Int32.ofInt b).toInt

def vIand (n : Nat) : VT := fun _ K ls st σ => ∃ a b st', st = (0, b) :: (0, a) :: st' ∧ K n ls ((0, amIand a b) :: st') σ
theorem vIand_e (n : Nat) (Q) (K) (ls st : List AV) (a b : Int) (σ : Mem) : vIand n Q K ls ((0, b) :: (0, a) :: st) σ = (K n ls ((0, amIand a b) :: st) σ) := by
  apply propext; constructor
  · rintro ⟨a', b', st', h, h1⟩; cases h; exact h1
  · intro h1; exact ⟨a, b, st, rfl, h1⟩
theorem ok_iand {X : amX} {own : String} {cc : ByteArray} {ret : Option FieldType} {L pc : Nat} (hB : amB X own cc ret L) (hd : decode cc pc = .ok (.iand, 1)) : amOK X pc (vIand (pc + 1)) := by
  obtain ⟨p, l, e, s, m, args, below, meth, c, D, ca, n0, T, ρ0, σ0, dd, mc, ms, nL, Q⟩ := X
  obtain ⟨hx, hb, hr, hml, hnL, hown, hts, hlocks, hK0, hA0, hst0⟩ := hB
  intro K ls st σ hK h ρ H locs LS k n hW hS hl hokl hoks hk hn hag
  obtain ⟨a, b, st', rfl, h⟩ := h
  skip
  have key := hK _ _ _ _ h ρ H locs LS k n hW hS hl hokl (okl_c.mpr ⟨okv_s (by decide), (okl_c.mp (okl_c.mp hoks).2).2⟩) hk hn hag
  rw [List.map_cons] at key
  rw [am_val_0, amIand, Int32.ofInt_toInt] at key
  exact lv_iand hx hb hd key

def amIor (a b : Int) : Int := (Int32.ofInt a ||| Int32.ofInt b).toInt

def vIor (n : Nat) : VT := fun _ K ls st σ => ∃ a b st', st = (0, b) :: (0, a) :: st' ∧ K n ls ((0, amIor a b) :: st') σ
theorem vIor_e (n : Nat) (Q) (K) (ls st : List AV) (a b : Int) (σ : Mem) : vIor n Q K ls ((0, b) :: (0, a) :: st) σ = (K n ls ((0, amIor a b) :: st) σ) := by
  apply propext; constructor
  · rintro ⟨a', b', st', h, h1⟩; cases h; exact h1
  · intro h1; exact ⟨a, b, st, rfl, h1⟩
theorem ok_ior {X : amX} {own : String} {cc : ByteArray} {ret : Option FieldType} {L pc : Nat} (hB : amB X own cc ret L) (hd : decode cc pc = .ok (.ior, 1)) : amOK X pc (vIor (pc + 1)) := by
  obtain ⟨p, l, e, s, m, args, below, meth, c, D, ca, n0, T, ρ0, σ0, dd, mc, ms, nL, Q⟩ := X
  obtain ⟨hx, hb, hr, hml, hnL, hown, hts, hlocks, hK0, hA0, hst0⟩ := hB
  intro K ls st σ hK h ρ H locs LS k n hW hS hl hokl hoks hk hn hag
  obtain ⟨a, b, st', rfl, h⟩ := h
  skip
  have key := hK _ _ _ _ h ρ H locs LS k n hW hS hl hokl (okl_c.mpr ⟨okv_s (by decide), (okl_c.mp (okl_c.mp hoks).2).2⟩) hk hn hag
  rw [List.map_cons] at key
  rw [am_val_0, amIor, Int32.ofInt_toInt] at key
  exact lv_ior hx hb hd key

def amIxor (a b : Int) : Int := (Int32.ofInt a ^^^ Int32.ofInt b).toInt

def vIxor (n : Nat) : VT := fun _ K ls st σ => ∃ a b st', st = (0, b) :: (0, a) :: st' ∧ K n ls ((0, amIxor a b) :: st') σ
theorem vIxor_e (n : Nat) (Q) (K) (ls st : List AV) (a b : Int) (σ : Mem) : vIxor n Q K ls ((0, b) :: (0, a) :: st) σ = (K n ls ((0, amIxor a b) :: st) σ) := by
  apply propext; constructor
  · rintro ⟨a', b', st', h, h1⟩; cases h; exact h1
  · intro h1; exact ⟨a, b, st, rfl, h1⟩
theorem ok_ixor {X : amX} {own : String} {cc : ByteArray} {ret : Option FieldType} {L pc : Nat} (hB : amB X own cc ret L) (hd : decode cc pc = .ok (.ixor, 1)) : amOK X pc (vIxor (pc + 1)) := by
  obtain ⟨p, l, e, s, m, args, below, meth, c, D, ca, n0, T, ρ0, σ0, dd, mc, ms, nL, Q⟩ := X
  obtain ⟨hx, hb, hr, hml, hnL, hown, hts, hlocks, hK0, hA0, hst0⟩ := hB
  intro K ls st σ hK h ρ H locs LS k n hW hS hl hokl hoks hk hn hag
  obtain ⟨a, b, st', rfl, h⟩ := h
  skip
  have key := hK _ _ _ _ h ρ H locs LS k n hW hS hl hokl (okl_c.mpr ⟨okv_s (by decide), (okl_c.mp (okl_c.mp hoks).2).2⟩) hk hn hag
  rw [List.map_cons] at key
  rw [am_val_0, amIxor, Int32.ofInt_toInt] at key
  exact lv_ixor hx hb hd key

def amIshl (a b : Int) : Int := (Int32.ofInt a <<< (Int32.ofInt b &&& 31)).toInt

def vIshl (n : Nat) : VT := fun _ K ls st σ => ∃ a b st', st = (0, b) :: (0, a) :: st' ∧ K n ls ((0, amIshl a b) :: st') σ
theorem vIshl_e (n : Nat) (Q) (K) (ls st : List AV) (a b : Int) (σ : Mem) : vIshl n Q K ls ((0, b) :: (0, a) :: st) σ = (K n ls ((0, amIshl a b) :: st) σ) := by
  apply propext; constructor
  · rintro ⟨a', b', st', h, h1⟩; cases h; exact h1
  · intro h1; exact ⟨a, b, st, rfl, h1⟩
theorem ok_ishl {X : amX} {own : String} {cc : ByteArray} {ret : Option FieldType} {L pc : Nat} (hB : amB X own cc ret L) (hd : decode cc pc = .ok (.ishl, 1)) : amOK X pc (vIshl (pc + 1)) := by
  obtain ⟨p, l, e, s, m, args, below, meth, c, D, ca, n0, T, ρ0, σ0, dd, mc, ms, nL, Q⟩ := X
  obtain ⟨hx, hb, hr, hml, hnL, hown, hts, hlocks, hK0, hA0, hst0⟩ := hB
  intro K ls st σ hK h ρ H locs LS k n hW hS hl hokl hoks hk hn hag
  obtain ⟨a, b, st', rfl, h⟩ := h
  skip
  have key := hK _ _ _ _ h ρ H locs LS k n hW hS hl hokl (okl_c.mpr ⟨okv_s (by decide), (okl_c.mp (okl_c.mp hoks).2).2⟩) hk hn hag
  rw [List.map_cons] at key
  rw [am_val_0, amIshl, Int32.ofInt_toInt] at key
  exact lv_ishl hx hb hd key

def amIshr (a b : Int) : Int := (Int32.ofInt a >>> (Int32.ofInt b &&& 31)).toInt

def vIshr (n : Nat) : VT := fun _ K ls st σ => ∃ a b st', st = (0, b) :: (0, a) :: st' ∧ K n ls ((0, amIshr a b) :: st') σ
theorem vIshr_e (n : Nat) (Q) (K) (ls st : List AV) (a b : Int) (σ : Mem) : vIshr n Q K ls ((0, b) :: (0, a) :: st) σ = (K n ls ((0, amIshr a b) :: st) σ) := by
  apply propext; constructor
  · rintro ⟨a', b', st', h, h1⟩; cases h; exact h1
  · intro h1; exact ⟨a, b, st, rfl, h1⟩
theorem ok_ishr {X : amX} {own : String} {cc : ByteArray} {ret : Option FieldType} {L pc : Nat} (hB : amB X own cc ret L) (hd : decode cc pc = .ok (.ishr, 1)) : amOK X pc (vIshr (pc + 1)) := by
  obtain ⟨p, l, e, s, m, args, below, meth, c, D, ca, n0, T, ρ0, σ0, dd, mc, ms, nL, Q⟩ := X
  obtain ⟨hx, hb, hr, hml, hnL, hown, hts, hlocks, hK0, hA0, hst0⟩ := hB
  intro K ls st σ hK h ρ H locs LS k n hW hS hl hokl hoks hk hn hag
  obtain ⟨a, b, st', rfl, h⟩ := h
  skip
  have key := hK _ _ _ _ h ρ H locs LS k n hW hS hl hokl (okl_c.mpr ⟨okv_s (by decide), (okl_c.mp (okl_c.mp hoks).2).2⟩) hk hn hag
  rw [List.map_cons] at key
  rw [am_val_0, amIshr, Int32.ofInt_toInt] at key
  exact lv_ishr hx hb hd key

def amIushr (a b : Int) : Int := ((Int32.ofInt a).toUInt32 >>> ((Int32.ofInt b).toUInt32 &&& Int32.toUInt32 31)).toInt32.toInt

def vIushr (n : Nat) : VT := fun _ K ls st σ => ∃ a b st', st = (0, b) :: (0, a) :: st' ∧ K n ls ((0, amIushr a b) :: st') σ
theorem vIushr_e (n : Nat) (Q) (K) (ls st : List AV) (a b : Int) (σ : Mem) : vIushr n Q K ls ((0, b) :: (0, a) :: st) σ = (K n ls ((0, amIushr a b) :: st) σ) := by
  apply propext; constructor
  · rintro ⟨a', b', st', h, h1⟩; cases h; exact h1
  · intro h1; exact ⟨a, b, st, rfl, h1⟩
theorem ok_iushr {X : amX} {own : String} {cc : ByteArray} {ret : Option FieldType} {L pc : Nat} (hB : amB X own cc ret L) (hd : decode cc pc = .ok (.iushr, 1)) : amOK X pc (vIushr (pc + 1)) := by
  obtain ⟨p, l, e, s, m, args, below, meth, c, D, ca, n0, T, ρ0, σ0, dd, mc, ms, nL, Q⟩ := X
  obtain ⟨hx, hb, hr, hml, hnL, hown, hts, hlocks, hK0, hA0, hst0⟩ := hB
  intro K ls st σ hK h ρ H locs LS k n hW hS hl hokl hoks hk hn hag
  obtain ⟨a, b, st', rfl, h⟩ := h
  skip
  have key := hK _ _ _ _ h ρ H locs LS k n hW hS hl hokl (okl_c.mpr ⟨okv_s (by decide), (okl_c.mp (okl_c.mp hoks).2).2⟩) hk hn hag
  rw [List.map_cons] at key
  rw [am_val_0, amIushr, Int32.ofInt_toInt] at key
  exact lv_iushr hx hb hd rfl key

def vIdiv (n : Nat) : VT := fun _ K ls st σ => ∃ a b st', st = (0, b) :: (0, a) :: st' ∧ (InR a ∧ InR b ∧ b ≠ 0 ∧ -2147483648 < a) ∧ K n ls ((0, Int.tdiv a b) :: st') σ
theorem vIdiv_e (n : Nat) (Q) (K) (ls st : List AV) (a b : Int) (σ : Mem) : vIdiv n Q K ls ((0, b) :: (0, a) :: st) σ = ((InR a ∧ InR b ∧ b ≠ 0 ∧ -2147483648 < a) ∧ K n ls ((0, Int.tdiv a b) :: st) σ) := by
  apply propext; constructor
  · rintro ⟨a', b', st', h, h1⟩; cases h; exact h1
  · intro h1; exact ⟨a, b, st, rfl, h1⟩
theorem ok_idiv {X : amX} {own : String} {cc : ByteArray} {ret : Option FieldType} {L pc : Nat} (hB : amB X own cc ret L) (hd : decode cc pc = .ok (.idiv, 1)) : amOK X pc (vIdiv (pc + 1)) := by
  obtain ⟨p, l, e, s, m, args, below, meth, c, D, ca, n0, T, ρ0, σ0, dd, mc, ms, nL, Q⟩ := X
  obtain ⟨hx, hb, hr, hml, hnL, hown, hts, hlocks, hK0, hA0, hst0⟩ := hB
  intro K ls st σ hK h ρ H locs LS k n hW hS hl hokl hoks hk hn hag
  obtain ⟨a, b, st', rfl, h⟩ := h
  obtain ⟨hsd, h⟩ := h
  have key := hK _ _ _ _ h ρ H locs LS k n hW hS hl hokl (okl_c.mpr ⟨okv_s (by decide), (okl_c.mp (okl_c.mp hoks).2).2⟩) hk hn hag
  rw [List.map_cons] at key
  obtain ⟨ha, hb', hb0, hmin⟩ := hsd
  rw [am_val_0] at key
  have hq : Int32.ofInt a / Int32.ofInt b = Int32.ofInt (Int.tdiv a b) := by
    rw [ir_tdiv ha hb']
  rw [← hq] at key
  exact lv_idiv hx hb hd (fun e => hb0 ((ir_eq hb' ir_0).mp e)) key

def vIrem (n : Nat) : VT := fun _ K ls st σ => ∃ a b st', st = (0, b) :: (0, a) :: st' ∧ (InR a ∧ InR b ∧ b ≠ 0 ∧ -2147483648 < a) ∧ K n ls ((0, Int.tmod a b) :: st') σ
theorem vIrem_e (n : Nat) (Q) (K) (ls st : List AV) (a b : Int) (σ : Mem) : vIrem n Q K ls ((0, b) :: (0, a) :: st) σ = ((InR a ∧ InR b ∧ b ≠ 0 ∧ -2147483648 < a) ∧ K n ls ((0, Int.tmod a b) :: st) σ) := by
  apply propext; constructor
  · rintro ⟨a', b', st', h, h1⟩; cases h; exact h1
  · intro h1; exact ⟨a, b, st, rfl, h1⟩
theorem ok_irem {X : amX} {own : String} {cc : ByteArray} {ret : Option FieldType} {L pc : Nat} (hB : amB X own cc ret L) (hd : decode cc pc = .ok (.irem, 1)) : amOK X pc (vIrem (pc + 1)) := by
  obtain ⟨p, l, e, s, m, args, below, meth, c, D, ca, n0, T, ρ0, σ0, dd, mc, ms, nL, Q⟩ := X
  obtain ⟨hx, hb, hr, hml, hnL, hown, hts, hlocks, hK0, hA0, hst0⟩ := hB
  intro K ls st σ hK h ρ H locs LS k n hW hS hl hokl hoks hk hn hag
  obtain ⟨a, b, st', rfl, h⟩ := h
  obtain ⟨hsd, h⟩ := h
  have key := hK _ _ _ _ h ρ H locs LS k n hW hS hl hokl (okl_c.mpr ⟨okv_s (by decide), (okl_c.mp (okl_c.mp hoks).2).2⟩) hk hn hag
  rw [List.map_cons] at key
  obtain ⟨ha, hb', hb0, hmin⟩ := hsd
  rw [am_val_0] at key
  have hq : Int32.ofInt a - Int32.ofInt a / Int32.ofInt b * Int32.ofInt b = Int32.ofInt (Int.tmod a b) := by
    rw [← ir_tdiv ha hb', ← Int32.ofInt_mul, ← Int32.ofInt_sub, Int.tmod_def, Int.mul_comm b]
  rw [← hq] at key
  exact lv_irem hx hb hd (fun e => hb0 ((ir_eq hb' ir_0).mp e)) key

def vLadd (n : Nat) : VT := fun _ K ls st σ => ∃ a b st', st = (1, b) :: (1, a) :: st' ∧ K n ls ((1, a + b) :: st') σ
theorem vLadd_e (n : Nat) (Q) (K) (ls st : List AV) (a b : Int) (σ : Mem) : vLadd n Q K ls ((1, b) :: (1, a) :: st) σ = (K n ls ((1, a + b) :: st) σ) := by
  apply propext; constructor
  · rintro ⟨a', b', st', h, h1⟩; cases h; exact h1
  · intro h1; exact ⟨a, b, st, rfl, h1⟩
theorem ok_ladd {X : amX} {own : String} {cc : ByteArray} {ret : Option FieldType} {L pc : Nat} (hB : amB X own cc ret L) (hd : decode cc pc = .ok (.ladd, 1)) : amOK X pc (vLadd (pc + 1)) := by
  obtain ⟨p, l, e, s, m, args, below, meth, c, D, ca, n0, T, ρ0, σ0, dd, mc, ms, nL, Q⟩ := X
  obtain ⟨hx, hb, hr, hml, hnL, hown, hts, hlocks, hK0, hA0, hst0⟩ := hB
  intro K ls st σ hK h ρ H locs LS k n hW hS hl hokl hoks hk hn hag
  obtain ⟨a, b, st', rfl, h⟩ := h
  skip
  have key := hK _ _ _ _ h ρ H locs LS k n hW hS hl hokl (okl_c.mpr ⟨okv_s (by decide), (okl_c.mp (okl_c.mp hoks).2).2⟩) hk hn hag
  rw [List.map_cons] at key
  rw [am_val_1, Int64.ofInt_add] at key
  exact lv_ladd hx hb hd key

def vLsub (n : Nat) : VT := fun _ K ls st σ => ∃ a b st', st = (1, b) :: (1, a) :: st' ∧ K n ls ((1, a - b) :: st') σ
theorem vLsub_e (n : Nat) (Q) (K) (ls st : List AV) (a b : Int) (σ : Mem) : vLsub n Q K ls ((1, b) :: (1, a) :: st) σ = (K n ls ((1, a - b) :: st) σ) := by
  apply propext; constructor
  · rintro ⟨a', b', st', h, h1⟩; cases h; exact h1
  · intro h1; exact ⟨a, b, st, rfl, h1⟩
theorem ok_lsub {X : amX} {own : String} {cc : ByteArray} {ret : Option FieldType} {L pc : Nat} (hB : amB X own cc ret L) (hd : decode cc pc = .ok (.lsub, 1)) : amOK X pc (vLsub (pc + 1)) := by
  obtain ⟨p, l, e, s, m, args, below, meth, c, D, ca, n0, T, ρ0, σ0, dd, mc, ms, nL, Q⟩ := X
  obtain ⟨hx, hb, hr, hml, hnL, hown, hts, hlocks, hK0, hA0, hst0⟩ := hB
  intro K ls st σ hK h ρ H locs LS k n hW hS hl hokl hoks hk hn hag
  obtain ⟨a, b, st', rfl, h⟩ := h
  skip
  have key := hK _ _ _ _ h ρ H locs LS k n hW hS hl hokl (okl_c.mpr ⟨okv_s (by decide), (okl_c.mp (okl_c.mp hoks).2).2⟩) hk hn hag
  rw [List.map_cons] at key
  rw [am_val_1, Int64.ofInt_sub] at key
  exact lv_lsub hx hb hd key

def vLmul (n : Nat) : VT := fun _ K ls st σ => ∃ a b st', st = (1, b) :: (1, a) :: st' ∧ K n ls ((1, a * b) :: st') σ
theorem vLmul_e (n : Nat) (Q) (K) (ls st : List AV) (a b : Int) (σ : Mem) : vLmul n Q K ls ((1, b) :: (1, a) :: st) σ = (K n ls ((1, a * b) :: st) σ) := by
  apply propext; constructor
  · rintro ⟨a', b', st', h, h1⟩; cases h; exact h1
  · intro h1; exact ⟨a, b, st, rfl, h1⟩
theorem ok_lmul {X : amX} {own : String} {cc : ByteArray} {ret : Option FieldType} {L pc : Nat} (hB : amB X own cc ret L) (hd : decode cc pc = .ok (.lmul, 1)) : amOK X pc (vLmul (pc + 1)) := by
  obtain ⟨p, l, e, s, m, args, below, meth, c, D, ca, n0, T, ρ0, σ0, dd, mc, ms, nL, Q⟩ := X
  obtain ⟨hx, hb, hr, hml, hnL, hown, hts, hlocks, hK0, hA0, hst0⟩ := hB
  intro K ls st σ hK h ρ H locs LS k n hW hS hl hokl hoks hk hn hag
  obtain ⟨a, b, st', rfl, h⟩ := h
  skip
  have key := hK _ _ _ _ h ρ H locs LS k n hW hS hl hokl (okl_c.mpr ⟨okv_s (by decide), (okl_c.mp (okl_c.mp hoks).2).2⟩) hk hn hag
  rw [List.map_cons] at key
  rw [am_val_1, Int64.ofInt_mul] at key
  exact lv_lmul hx hb hd key

def amLand (a b : Int) : Int := (Int64.ofInt a &&& Int64.ofInt b).toInt

def vLand (n : Nat) : VT := fun _ K ls st σ => ∃ a b st', st = (1, b) :: (1, a) :: st' ∧ K n ls ((1, amLand a b) :: st') σ
theorem vLand_e (n : Nat) (Q) (K) (ls st : List AV) (a b : Int) (σ : Mem) : vLand n Q K ls ((1, b) :: (1, a) :: st) σ = (K n ls ((1, amLand a b) :: st) σ) := by
  apply propext; constructor
  · rintro ⟨a', b', st', h, h1⟩; cases h; exact h1
  · intro h1; exact ⟨a, b, st, rfl, h1⟩
theorem ok_land {X : amX} {own : String} {cc : ByteArray} {ret : Option FieldType} {L pc : Nat} (hB : amB X own cc ret L) (hd : decode cc pc = .ok (.land, 1)) : amOK X pc (vLand (pc + 1)) := by
  obtain ⟨p, l, e, s, m, args, below, meth, c, D, ca, n0, T, ρ0, σ0, dd, mc, ms, nL, Q⟩ := X
  obtain ⟨hx, hb, hr, hml, hnL, hown, hts, hlocks, hK0, hA0, hst0⟩ := hB
  intro K ls st σ hK h ρ H locs LS k n hW hS hl hokl hoks hk hn hag
  obtain ⟨a, b, st', rfl, h⟩ := h
  skip
  have key := hK _ _ _ _ h ρ H locs LS k n hW hS hl hokl (okl_c.mpr ⟨okv_s (by decide), (okl_c.mp (okl_c.mp hoks).2).2⟩) hk hn hag
  rw [List.map_cons] at key
  rw [am_val_1, amLand, Int64.ofInt_toInt] at key
  exact lv_land hx hb hd key

def amLor (a b : Int) : Int := (Int64.ofInt a ||| Int64.ofInt b).toInt

def vLor (n : Nat) : VT := fun _ K ls st σ => ∃ a b st', st = (1, b) :: (1, a) :: st' ∧ K n ls ((1, amLor a b) :: st') σ
theorem vLor_e (n : Nat) (Q) (K) (ls st : List AV) (a b : Int) (σ : Mem) : vLor n Q K ls ((1, b) :: (1, a) :: st) σ = (K n ls ((1, amLor a b) :: st) σ) := by
  apply propext; constructor
  · rintro ⟨a', b', st', h, h1⟩; cases h; exact h1
  · intro h1; exact ⟨a, b, st, rfl, h1⟩
theorem ok_lor {X : amX} {own : String} {cc : ByteArray} {ret : Option FieldType} {L pc : Nat} (hB : amB X own cc ret L) (hd : decode cc pc = .ok (.lor, 1)) : amOK X pc (vLor (pc + 1)) := by
  obtain ⟨p, l, e, s, m, args, below, meth, c, D, ca, n0, T, ρ0, σ0, dd, mc, ms, nL, Q⟩ := X
  obtain ⟨hx, hb, hr, hml, hnL, hown, hts, hlocks, hK0, hA0, hst0⟩ := hB
  intro K ls st σ hK h ρ H locs LS k n hW hS hl hokl hoks hk hn hag
  obtain ⟨a, b, st', rfl, h⟩ := h
  skip
  have key := hK _ _ _ _ h ρ H locs LS k n hW hS hl hokl (okl_c.mpr ⟨okv_s (by decide), (okl_c.mp (okl_c.mp hoks).2).2⟩) hk hn hag
  rw [List.map_cons] at key
  rw [am_val_1, amLor, Int64.ofInt_toInt] at key
  exact lv_lor hx hb hd key

def amLxor (a b : Int) : Int := (Int64.ofInt a ^^^ Int64.ofInt b).toInt

def vLxor (n : Nat) : VT := fun _ K ls st σ => ∃ a b st', st = (1, b) :: (1, a) :: st' ∧ K n ls ((1, amLxor a b) :: st') σ
theorem vLxor_e (n : Nat) (Q) (K) (ls st : List AV) (a b : Int) (σ : Mem) : vLxor n Q K ls ((1, b) :: (1, a) :: st) σ = (K n ls ((1, amLxor a b) :: st) σ) := by
  apply propext; constructor
  · rintro ⟨a', b', st', h, h1⟩; cases h; exact h1
  · intro h1; exact ⟨a, b, st, rfl, h1⟩
theorem ok_lxor {X : amX} {own : String} {cc : ByteArray} {ret : Option FieldType} {L pc : Nat} (hB : amB X own cc ret L) (hd : decode cc pc = .ok (.lxor, 1)) : amOK X pc (vLxor (pc + 1)) := by
  obtain ⟨p, l, e, s, m, args, below, meth, c, D, ca, n0, T, ρ0, σ0, dd, mc, ms, nL, Q⟩ := X
  obtain ⟨hx, hb, hr, hml, hnL, hown, hts, hlocks, hK0, hA0, hst0⟩ := hB
  intro K ls st σ hK h ρ H locs LS k n hW hS hl hokl hoks hk hn hag
  obtain ⟨a, b, st', rfl, h⟩ := h
  skip
  have key := hK _ _ _ _ h ρ H locs LS k n hW hS hl hokl (okl_c.mpr ⟨okv_s (by decide), (okl_c.mp (okl_c.mp hoks).2).2⟩) hk hn hag
  rw [List.map_cons] at key
  rw [am_val_1, amLxor, Int64.ofInt_toInt] at key
  exact lv_lxor hx hb hd key

def vLdiv (n : Nat) : VT := fun _ K ls st σ => ∃ a b st', st = (1, b) :: (1, a) :: st' ∧ (InL a ∧ InL b ∧ b ≠ 0 ∧ -9223372036854775808 < a) ∧ K n ls ((1, Int.tdiv a b) :: st') σ
theorem vLdiv_e (n : Nat) (Q) (K) (ls st : List AV) (a b : Int) (σ : Mem) : vLdiv n Q K ls ((1, b) :: (1, a) :: st) σ = ((InL a ∧ InL b ∧ b ≠ 0 ∧ -9223372036854775808 < a) ∧ K n ls ((1, Int.tdiv a b) :: st) σ) := by
  apply propext; constructor
  · rintro ⟨a', b', st', h, h1⟩; cases h; exact h1
  · intro h1; exact ⟨a, b, st, rfl, h1⟩
theorem ok_ldiv {X : amX} {own : String} {cc : ByteArray} {ret : Option FieldType} {L pc : Nat} (hB : amB X own cc ret L) (hd : decode cc pc = .ok (.ldiv, 1)) : amOK X pc (vLdiv (pc + 1)) := by
  obtain ⟨p, l, e, s, m, args, below, meth, c, D, ca, n0, T, ρ0, σ0, dd, mc, ms, nL, Q⟩ := X
  obtain ⟨hx, hb, hr, hml, hnL, hown, hts, hlocks, hK0, hA0, hst0⟩ := hB
  intro K ls st σ hK h ρ H locs LS k n hW hS hl hokl hoks hk hn hag
  obtain ⟨a, b, st', rfl, h⟩ := h
  obtain ⟨hsd, h⟩ := h
  have key := hK _ _ _ _ h ρ H locs LS k n hW hS hl hokl (okl_c.mpr ⟨okv_s (by decide), (okl_c.mp (okl_c.mp hoks).2).2⟩) hk hn hag
  rw [List.map_cons] at key
  obtain ⟨ha, hb', hb0, hmin⟩ := hsd
  rw [am_val_1] at key
  have hq : Int64.ofInt a / Int64.ofInt b = Int64.ofInt (Int.tdiv a b) := by
    rw [il_tdiv ha hb']
  rw [← hq] at key
  exact lv_ldiv hx hb hd (fun e => hb0 (by have := congrArg Int64.toInt e; rwa [hb'.toInt] at this)) key

def vLrem (n : Nat) : VT := fun _ K ls st σ => ∃ a b st', st = (1, b) :: (1, a) :: st' ∧ (InL a ∧ InL b ∧ b ≠ 0 ∧ -9223372036854775808 < a) ∧ K n ls ((1, Int.tmod a b) :: st') σ
theorem vLrem_e (n : Nat) (Q) (K) (ls st : List AV) (a b : Int) (σ : Mem) : vLrem n Q K ls ((1, b) :: (1, a) :: st) σ = ((InL a ∧ InL b ∧ b ≠ 0 ∧ -9223372036854775808 < a) ∧ K n ls ((1, Int.tmod a b) :: st) σ) := by
  apply propext; constructor
  · rintro ⟨a', b', st', h, h1⟩; cases h; exact h1
  · intro h1; exact ⟨a, b, st, rfl, h1⟩
theorem ok_lrem {X : amX} {own : String} {cc : ByteArray} {ret : Option FieldType} {L pc : Nat} (hB : amB X own cc ret L) (hd : decode cc pc = .ok (.lrem, 1)) : amOK X pc (vLrem (pc + 1)) := by
  obtain ⟨p, l, e, s, m, args, below, meth, c, D, ca, n0, T, ρ0, σ0, dd, mc, ms, nL, Q⟩ := X
  obtain ⟨hx, hb, hr, hml, hnL, hown, hts, hlocks, hK0, hA0, hst0⟩ := hB
  intro K ls st σ hK h ρ H locs LS k n hW hS hl hokl hoks hk hn hag
  obtain ⟨a, b, st', rfl, h⟩ := h
  obtain ⟨hsd, h⟩ := h
  have key := hK _ _ _ _ h ρ H locs LS k n hW hS hl hokl (okl_c.mpr ⟨okv_s (by decide), (okl_c.mp (okl_c.mp hoks).2).2⟩) hk hn hag
  rw [List.map_cons] at key
  obtain ⟨ha, hb', hb0, hmin⟩ := hsd
  rw [am_val_1] at key
  have hq : Int64.ofInt a - Int64.ofInt a / Int64.ofInt b * Int64.ofInt b = Int64.ofInt (Int.tmod a b) := by
    rw [← il_tdiv ha hb', ← Int64.ofInt_mul, ← Int64.ofInt_sub, Int.tmod_def, Int.mul_comm b]
  rw [← hq] at key
  exact lv_lrem hx hb hd (fun e => hb0 (by have := congrArg Int64.toInt e; rwa [hb'.toInt] at this)) key

def amLushr (a b : Int) : Int := ((Int64.ofInt a).toUInt64 >>> ((Int32.ofInt b).toInt64.toUInt64 &&& Int64.toUInt64 63)).toInt64.toInt

def vLushr (n : Nat) : VT := fun _ K ls st σ => ∃ a b st', st = (0, b) :: (1, a) :: st' ∧ K n ls ((1, amLushr a b) :: st') σ
theorem vLushr_e (n : Nat) (Q) (K) (ls st : List AV) (a b : Int) (σ : Mem) : vLushr n Q K ls ((0, b) :: (1, a) :: st) σ = (K n ls ((1, amLushr a b) :: st) σ) := by
  apply propext; constructor
  · rintro ⟨a', b', st', h, h1⟩; cases h; exact h1
  · intro h1; exact ⟨a, b, st, rfl, h1⟩
theorem ok_lushr {X : amX} {own : String} {cc : ByteArray} {ret : Option FieldType} {L pc : Nat} (hB : amB X own cc ret L) (hd : decode cc pc = .ok (.lushr, 1)) : amOK X pc (vLushr (pc + 1)) := by
  obtain ⟨p, l, e, s, m, args, below, meth, c, D, ca, n0, T, ρ0, σ0, dd, mc, ms, nL, Q⟩ := X
  obtain ⟨hx, hb, hr, hml, hnL, hown, hts, hlocks, hK0, hA0, hst0⟩ := hB
  intro K ls st σ hK h ρ H locs LS k n hW hS hl hokl hoks hk hn hag
  obtain ⟨a, b, st', rfl, h⟩ := h
  skip
  have key := hK _ _ _ _ h ρ H locs LS k n hW hS hl hokl (okl_c.mpr ⟨okv_s (by decide), (okl_c.mp (okl_c.mp hoks).2).2⟩) hk hn hag
  rw [List.map_cons] at key
  rw [am_val_1, amLushr, Int64.ofInt_toInt] at key
  exact lv_lushr hx hb hd rfl key

def amLshl (a b : Int) : Int := (Int64.ofInt a <<< ((Int32.ofInt b).toInt64 &&& 63)).toInt

def vLshl (n : Nat) : VT := fun _ K ls st σ => ∃ a b st', st = (0, b) :: (1, a) :: st' ∧ K n ls ((1, amLshl a b) :: st') σ
theorem vLshl_e (n : Nat) (Q) (K) (ls st : List AV) (a b : Int) (σ : Mem) : vLshl n Q K ls ((0, b) :: (1, a) :: st) σ = (K n ls ((1, amLshl a b) :: st) σ) := by
  apply propext; constructor
  · rintro ⟨a', b', st', h, h1⟩; cases h; exact h1
  · intro h1; exact ⟨a, b, st, rfl, h1⟩
theorem ok_lshl {X : amX} {own : String} {cc : ByteArray} {ret : Option FieldType} {L pc : Nat} (hB : amB X own cc ret L) (hd : decode cc pc = .ok (.lshl, 1)) : amOK X pc (vLshl (pc + 1)) := by
  obtain ⟨p, l, e, s, m, args, below, meth, c, D, ca, n0, T, ρ0, σ0, dd, mc, ms, nL, Q⟩ := X
  obtain ⟨hx, hb, hr, hml, hnL, hown, hts, hlocks, hK0, hA0, hst0⟩ := hB
  intro K ls st σ hK h ρ H locs LS k n hW hS hl hokl hoks hk hn hag
  obtain ⟨a, b, st', rfl, h⟩ := h
  skip
  have key := hK _ _ _ _ h ρ H locs LS k n hW hS hl hokl (okl_c.mpr ⟨okv_s (by decide), (okl_c.mp (okl_c.mp hoks).2).2⟩) hk hn hag
  rw [List.map_cons] at key
  rw [am_val_1, amLshl, Int64.ofInt_toInt] at key
  exact lv_lshl hx hb hd rfl key

def amCmp (a b : Int) : Int := if a < b then -1 else if b < a then 1 else 0

def vLcmp (n : Nat) : VT := fun _ K ls st σ => ∃ a b st', st = (1, b) :: (1, a) :: st' ∧ (InL a ∧ InL b) ∧ K n ls ((0, amCmp a b) :: st') σ
theorem vLcmp_e (n : Nat) (Q) (K) (ls st : List AV) (a b : Int) (σ : Mem) : vLcmp n Q K ls ((1, b) :: (1, a) :: st) σ = ((InL a ∧ InL b) ∧ K n ls ((0, amCmp a b) :: st) σ) := by
  apply propext; constructor
  · rintro ⟨a', b', st', h, h1⟩; cases h; exact h1
  · intro h1; exact ⟨a, b, st, rfl, h1⟩
theorem ok_lcmp {X : amX} {own : String} {cc : ByteArray} {ret : Option FieldType} {L pc : Nat} (hB : amB X own cc ret L) (hd : decode cc pc = .ok (.lcmp, 1)) : amOK X pc (vLcmp (pc + 1)) := by
  obtain ⟨p, l, e, s, m, args, below, meth, c, D, ca, n0, T, ρ0, σ0, dd, mc, ms, nL, Q⟩ := X
  obtain ⟨hx, hb, hr, hml, hnL, hown, hts, hlocks, hK0, hA0, hst0⟩ := hB
  intro K ls st σ hK h ρ H locs LS k n hW hS hl hokl hoks hk hn hag
  obtain ⟨a, b, st', rfl, h⟩ := h
  obtain ⟨hsd, h⟩ := h
  have key := hK _ _ _ _ h ρ H locs LS k n hW hS hl hokl (okl_c.mpr ⟨okv_s (by decide), (okl_c.mp (okl_c.mp hoks).2).2⟩) hk hn hag
  rw [List.map_cons] at key
  obtain ⟨ha, hb'⟩ := hsd
  rw [am_val_0] at key
  have hq : lg_cmp (Int64.ofInt a) (Int64.ofInt b) = Int32.ofInt (amCmp a b) := by
    unfold lg_cmp amCmp
    simp only [GT.gt, il_lt ha hb', il_lt hb' ha, il_eq ha hb']
    by_cases h1 : b < a
    · rw [if_pos h1, if_neg (by omega), if_pos h1]; rfl
    · by_cases h2 : a < b
      · rw [if_neg h1, if_neg (by omega), if_pos h2]; rfl
      · rw [if_neg h1, if_pos (by omega), if_neg h2, if_neg h1]; rfl
  rw [← hq] at key
  exact W.lcmp hx hb hd key

def vIneg (n : Nat) : VT := fun _ K ls st σ => ∃ a st', st = (0, a) :: st' ∧ K n ls ((0, -a) :: st') σ
theorem vIneg_e (n : Nat) (Q) (K) (ls st : List AV) (a : Int) (σ : Mem) : vIneg n Q K ls ((0, a) :: st) σ = (K n ls ((0, -a) :: st) σ) := by
  apply propext; constructor
  · rintro ⟨a', st', h, h1⟩; cases h; exact h1
  · intro h1; exact ⟨a, st, rfl, h1⟩
theorem ok_ineg {X : amX} {own : String} {cc : ByteArray} {ret : Option FieldType} {L pc : Nat} (hB : amB X own cc ret L) (hd : decode cc pc = .ok (.ineg, 1)) : amOK X pc (vIneg (pc + 1)) := by
  obtain ⟨p, l, e, s, m, args, below, meth, c, D, ca, n0, T, ρ0, σ0, dd, mc, ms, nL, Q⟩ := X
  obtain ⟨hx, hb, hr, hml, hnL, hown, hts, hlocks, hK0, hA0, hst0⟩ := hB
  intro K ls st σ hK h ρ H locs LS k n hW hS hl hokl hoks hk hn hag
  obtain ⟨a, st', rfl, h⟩ := h
  skip
  have key := hK _ _ _ _ h ρ H locs LS k n hW hS hl hokl (okl_c.mpr ⟨okv_s (by decide), (okl_c.mp hoks).2⟩) hk hn hag
  rw [List.map_cons] at key
  rw [am_val_0, Int32.ofInt_neg] at key
  exact lv_ineg hx hb hd key

def vI2l (n : Nat) : VT := fun _ K ls st σ => ∃ a st', st = (0, a) :: st' ∧ (InR a) ∧ K n ls ((1, a) :: st') σ
theorem vI2l_e (n : Nat) (Q) (K) (ls st : List AV) (a : Int) (σ : Mem) : vI2l n Q K ls ((0, a) :: st) σ = ((InR a) ∧ K n ls ((1, a) :: st) σ) := by
  apply propext; constructor
  · rintro ⟨a', st', h, h1⟩; cases h; exact h1
  · intro h1; exact ⟨a, st, rfl, h1⟩
theorem ok_i2l {X : amX} {own : String} {cc : ByteArray} {ret : Option FieldType} {L pc : Nat} (hB : amB X own cc ret L) (hd : decode cc pc = .ok (.i2l, 1)) : amOK X pc (vI2l (pc + 1)) := by
  obtain ⟨p, l, e, s, m, args, below, meth, c, D, ca, n0, T, ρ0, σ0, dd, mc, ms, nL, Q⟩ := X
  obtain ⟨hx, hb, hr, hml, hnL, hown, hts, hlocks, hK0, hA0, hst0⟩ := hB
  intro K ls st σ hK h ρ H locs LS k n hW hS hl hokl hoks hk hn hag
  obtain ⟨a, st', rfl, h⟩ := h
  obtain ⟨hsd, h⟩ := h
  have key := hK _ _ _ _ h ρ H locs LS k n hW hS hl hokl (okl_c.mpr ⟨okv_s (by decide), (okl_c.mp hoks).2⟩) hk hn hag
  rw [List.map_cons] at key
  rw [am_val_1] at key
  refine lv_i2l hx hb hd ?_ key
  rw [← Int64.ofInt_int32ToInt, hsd.toInt]

def amL2i (a : Int) : Int := (Int64.ofInt a).toInt32.toInt

def vL2i (n : Nat) : VT := fun _ K ls st σ => ∃ a st', st = (1, a) :: st' ∧ K n ls ((0, amL2i a) :: st') σ
theorem vL2i_e (n : Nat) (Q) (K) (ls st : List AV) (a : Int) (σ : Mem) : vL2i n Q K ls ((1, a) :: st) σ = (K n ls ((0, amL2i a) :: st) σ) := by
  apply propext; constructor
  · rintro ⟨a', st', h, h1⟩; cases h; exact h1
  · intro h1; exact ⟨a, st, rfl, h1⟩
theorem ok_l2i {X : amX} {own : String} {cc : ByteArray} {ret : Option FieldType} {L pc : Nat} (hB : amB X own cc ret L) (hd : decode cc pc = .ok (.l2i, 1)) : amOK X pc (vL2i (pc + 1)) := by
  obtain ⟨p, l, e, s, m, args, below, meth, c, D, ca, n0, T, ρ0, σ0, dd, mc, ms, nL, Q⟩ := X
  obtain ⟨hx, hb, hr, hml, hnL, hown, hts, hlocks, hK0, hA0, hst0⟩ := hB
  intro K ls st σ hK h ρ H locs LS k n hW hS hl hokl hoks hk hn hag
  obtain ⟨a, st', rfl, h⟩ := h
  skip
  have key := hK _ _ _ _ h ρ H locs LS k n hW hS hl hokl (okl_c.mpr ⟨okv_s (by decide), (okl_c.mp hoks).2⟩) hk hn hag
  rw [List.map_cons] at key
  rw [am_val_0, amL2i, Int32.ofInt_toInt] at key
  exact lv_l2i hx hb hd rfl key

def amI2b (a : Int) : Int := (Int32.ofInt a).toInt8.toInt32.toInt

def vI2b (n : Nat) : VT := fun _ K ls st σ => ∃ a st', st = (0, a) :: st' ∧ K n ls ((0, amI2b a) :: st') σ
theorem vI2b_e (n : Nat) (Q) (K) (ls st : List AV) (a : Int) (σ : Mem) : vI2b n Q K ls ((0, a) :: st) σ = (K n ls ((0, amI2b a) :: st) σ) := by
  apply propext; constructor
  · rintro ⟨a', st', h, h1⟩; cases h; exact h1
  · intro h1; exact ⟨a, st, rfl, h1⟩
theorem ok_i2b {X : amX} {own : String} {cc : ByteArray} {ret : Option FieldType} {L pc : Nat} (hB : amB X own cc ret L) (hd : decode cc pc = .ok (.i2b, 1)) : amOK X pc (vI2b (pc + 1)) := by
  obtain ⟨p, l, e, s, m, args, below, meth, c, D, ca, n0, T, ρ0, σ0, dd, mc, ms, nL, Q⟩ := X
  obtain ⟨hx, hb, hr, hml, hnL, hown, hts, hlocks, hK0, hA0, hst0⟩ := hB
  intro K ls st σ hK h ρ H locs LS k n hW hS hl hokl hoks hk hn hag
  obtain ⟨a, st', rfl, h⟩ := h
  skip
  have key := hK _ _ _ _ h ρ H locs LS k n hW hS hl hokl (okl_c.mpr ⟨okv_s (by decide), (okl_c.mp hoks).2⟩) hk hn hag
  rw [List.map_cons] at key
  rw [am_val_0, amI2b, Int32.ofInt_toInt] at key
  exact lv_i2b hx hb hd rfl key

def amI2c (a : Int) : Int := ((Int32.ofInt a).toUInt32 % 65536).toInt32.toInt

def vI2c (n : Nat) : VT := fun _ K ls st σ => ∃ a st', st = (0, a) :: st' ∧ K n ls ((0, amI2c a) :: st') σ
theorem vI2c_e (n : Nat) (Q) (K) (ls st : List AV) (a : Int) (σ : Mem) : vI2c n Q K ls ((0, a) :: st) σ = (K n ls ((0, amI2c a) :: st) σ) := by
  apply propext; constructor
  · rintro ⟨a', st', h, h1⟩; cases h; exact h1
  · intro h1; exact ⟨a, st, rfl, h1⟩
theorem ok_i2c {X : amX} {own : String} {cc : ByteArray} {ret : Option FieldType} {L pc : Nat} (hB : amB X own cc ret L) (hd : decode cc pc = .ok (.i2c, 1)) : amOK X pc (vI2c (pc + 1)) := by
  obtain ⟨p, l, e, s, m, args, below, meth, c, D, ca, n0, T, ρ0, σ0, dd, mc, ms, nL, Q⟩ := X
  obtain ⟨hx, hb, hr, hml, hnL, hown, hts, hlocks, hK0, hA0, hst0⟩ := hB
  intro K ls st σ hK h ρ H locs LS k n hW hS hl hokl hoks hk hn hag
  obtain ⟨a, st', rfl, h⟩ := h
  skip
  have key := hK _ _ _ _ h ρ H locs LS k n hW hS hl hokl (okl_c.mpr ⟨okv_s (by decide), (okl_c.mp hoks).2⟩) hk hn hag
  rw [List.map_cons] at key
  rw [am_val_0, amI2c, Int32.ofInt_toInt] at key
  exact lv_i2c hx hb hd rfl key

def vDup (n : Nat) : VT := fun _ K ls st σ => ∃ v st', st = v :: st' ∧ v.1 ≠ 1 ∧ K n ls (v :: v :: st') σ
theorem vDup_e (n : Nat) (Q) (K) (ls st : List AV) (v : AV) (σ : Mem) : vDup n Q K ls (v :: st) σ = (v.1 ≠ 1 ∧ K n ls (v :: v :: st) σ) := by
  apply propext; constructor
  · rintro ⟨a', st', h, h1⟩; cases h; exact h1
  · intro h1; exact ⟨v, st, rfl, h1⟩
theorem ok_dup {X : amX} {own : String} {cc : ByteArray} {ret : Option FieldType} {L pc : Nat} (hB : amB X own cc ret L) (hd : decode cc pc = .ok (.dup, 1)) : amOK X pc (vDup (pc + 1)) := by
  obtain ⟨p, l, e, s, m, args, below, meth, c, D, ca, n0, T, ρ0, σ0, dd, mc, ms, nL, Q⟩ := X
  obtain ⟨hx, hb, hr, hml, hnL, hown, hts, hlocks, hK0, hA0, hst0⟩ := hB
  intro K ls st σ hK h ρ H locs LS k n hW hS hl hokl hoks hk hn hag
  obtain ⟨v, st', rfl, h1, h⟩ := h
  refine lv_dup hx hb hd (am_cat ρ h1) ?_
  exact hK _ _ _ _ h ρ H locs LS k n hW hS hl hokl (okl_c.mpr ⟨(okl_c.mp hoks).1, hoks⟩) hk hn hag
def vPop (n : Nat) : VT := fun _ K ls st σ => ∃ v st', st = v :: st' ∧ v.1 ≠ 1 ∧ K n ls st' σ
theorem vPop_e (n : Nat) (Q) (K) (ls st : List AV) (v : AV) (σ : Mem) : vPop n Q K ls (v :: st) σ = (v.1 ≠ 1 ∧ K n ls st σ) := by
  apply propext; constructor
  · rintro ⟨a', st', h, h1⟩; cases h; exact h1
  · intro h1; exact ⟨v, st, rfl, h1⟩
theorem ok_pop {X : amX} {own : String} {cc : ByteArray} {ret : Option FieldType} {L pc : Nat} (hB : amB X own cc ret L) (hd : decode cc pc = .ok (.pop, 1)) : amOK X pc (vPop (pc + 1)) := by
  obtain ⟨p, l, e, s, m, args, below, meth, c, D, ca, n0, T, ρ0, σ0, dd, mc, ms, nL, Q⟩ := X
  obtain ⟨hx, hb, hr, hml, hnL, hown, hts, hlocks, hK0, hA0, hst0⟩ := hB
  intro K ls st σ hK h ρ H locs LS k n hW hS hl hokl hoks hk hn hag
  obtain ⟨v, st', rfl, h1, h⟩ := h
  refine lv_pop hx hb hd (am_cat ρ h1) ?_
  exact hK _ _ _ _ h ρ H locs LS k n hW hS hl hokl (okl_c.mp hoks).2 hk hn hag
def vDup2 (n : Nat) : VT := fun _ K ls st σ => ∃ v w st', st = v :: w :: st' ∧ v.1 ≠ 1 ∧ w.1 ≠ 1 ∧ K n ls (v :: w :: v :: w :: st') σ
theorem vDup2_e (n : Nat) (Q) (K) (ls st : List AV) (v w : AV) (σ : Mem) : vDup2 n Q K ls (v :: w :: st) σ = (v.1 ≠ 1 ∧ w.1 ≠ 1 ∧ K n ls (v :: w :: v :: w :: st) σ) := by
  apply propext; constructor
  · rintro ⟨a', b', st', h, h1⟩; cases h; exact h1
  · intro h1; exact ⟨v, w, st, rfl, h1⟩
theorem ok_dup2 {X : amX} {own : String} {cc : ByteArray} {ret : Option FieldType} {L pc : Nat} (hB : amB X own cc ret L) (hd : decode cc pc = .ok (.dup2, 1)) : amOK X pc (vDup2 (pc + 1)) := by
  obtain ⟨p, l, e, s, m, args, below, meth, c, D, ca, n0, T, ρ0, σ0, dd, mc, ms, nL, Q⟩ := X
  obtain ⟨hx, hb, hr, hml, hnL, hown, hts, hlocks, hK0, hA0, hst0⟩ := hB
  intro K ls st σ hK h ρ H locs LS k n hW hS hl hokl hoks hk hn hag
  obtain ⟨v, w, st', rfl, h1, h2, h⟩ := h
  refine lv_dup2_11 hx hb hd (am_cat ρ h1) (am_cat ρ h2) ?_
  exact hK _ _ _ _ h ρ H locs LS k n hW hS hl hokl (okl_c.mpr ⟨(okl_c.mp hoks).1, okl_c.mpr ⟨(okl_c.mp (okl_c.mp hoks).2).1, hoks⟩⟩) hk hn hag

def vGoto (t : Nat) : VT := fun _ K ls st σ => K t ls st σ
theorem vGoto_e (t : Nat) (Q) (K) (ls st : List AV) (σ : Mem) : vGoto t Q K ls st σ = K t ls st σ := rfl
theorem ok_goto {X : amX} {own : String} {cc : ByteArray} {ret : Option FieldType} {L pc : Nat} (hB : amB X own cc ret L) {off : Int} {t : Nat} (ht : (pc : Int) + off = (t : Int)) (hd : decode cc pc = .ok (.goto off, 3)) : amOK X pc (vGoto t) := by
  obtain ⟨p, l, e, s, m, args, below, meth, c, D, ca, n0, T, ρ0, σ0, dd, mc, ms, nL, Q⟩ := X
  obtain ⟨hx, hb, hr, hml, hnL, hown, hts, hlocks, hK0, hA0, hst0⟩ := hB
  intro K ls st σ hK h ρ H locs LS k n hW hS hl hokl hoks hk hn hag
  refine lv_goto hx hb hd ht ?_
  exact hK _ _ _ _ h ρ H locs LS k n hW hS hl hokl hoks hk hn hag

def vIcEq (t n : Nat) : VT := fun _ K ls st σ => ∃ a b st', st = (0, b) :: (0, a) :: st' ∧ InR a ∧ InR b ∧ (a = b → K t ls st' σ) ∧ (¬ (a = b) → K n ls st' σ)
theorem vIcEq_e (t n : Nat) (Q) (K) (ls st : List AV) (a b : Int) (σ : Mem) : vIcEq t n Q K ls ((0, b) :: (0, a) :: st) σ = (InR a ∧ InR b ∧ (a = b → K t ls st σ) ∧ (¬ (a = b) → K n ls st σ)) := by
  apply propext; constructor
  · rintro ⟨a', b', st', h, h1⟩; cases h; exact h1
  · intro h1; exact ⟨a, b, st, rfl, h1⟩
theorem ok_icmp_eq {X : amX} {own : String} {cc : ByteArray} {ret : Option FieldType} {L pc : Nat} (hB : amB X own cc ret L) {off : Int} {t : Nat} (ht : (pc : Int) + off = (t : Int)) (hd : decode cc pc = .ok (.if_icmp .eq off, 3)) : amOK X pc (vIcEq t (pc + 3)) := by
  obtain ⟨p, l, e, s, m, args, below, meth, c, D, ca, n0, T, ρ0, σ0, dd, mc, ms, nL, Q⟩ := X
  obtain ⟨hx, hb, hr, hml, hnL, hown, hts, hlocks, hK0, hA0, hst0⟩ := hB
  intro K ls st σ hK h ρ H locs LS k n hW hS hl hokl hoks hk hn hag
  obtain ⟨a, b, st', rfl, ha, hb', h1, h2⟩ := h
  have q := ir_eq ha hb'
  skip
  exact lv_icmp_eq hx hb hd ht (fun c0 => hK _ _ _ _ (h1 (q.mp c0)) ρ H locs LS k n hW hS hl hokl (okl_c.mp (okl_c.mp hoks).2).2 hk hn hag) (fun c0 => hK _ _ _ _ (h2 (fun z => c0 (q.mpr z))) ρ H locs LS k n hW hS hl hokl (okl_c.mp (okl_c.mp hoks).2).2 hk hn hag)
def vIfEq (t n : Nat) : VT := fun _ K ls st σ => ∃ a st', st = (0, a) :: st' ∧ InR a ∧ (a = 0 → K t ls st' σ) ∧ (¬ (a = 0) → K n ls st' σ)
theorem vIfEq_e (t n : Nat) (Q) (K) (ls st : List AV) (a : Int) (σ : Mem) : vIfEq t n Q K ls ((0, a) :: st) σ = (InR a ∧ (a = 0 → K t ls st σ) ∧ (¬ (a = 0) → K n ls st σ)) := by
  apply propext; constructor
  · rintro ⟨a', st', h, h1⟩; cases h; exact h1
  · intro h1; exact ⟨a, st, rfl, h1⟩
theorem ok_if_eq {X : amX} {own : String} {cc : ByteArray} {ret : Option FieldType} {L pc : Nat} (hB : amB X own cc ret L) {off : Int} {t : Nat} (ht : (pc : Int) + off = (t : Int)) (hd : decode cc pc = .ok (.ifCond .eq off, 3)) : amOK X pc (vIfEq t (pc + 3)) := by
  obtain ⟨p, l, e, s, m, args, below, meth, c, D, ca, n0, T, ρ0, σ0, dd, mc, ms, nL, Q⟩ := X
  obtain ⟨hx, hb, hr, hml, hnL, hown, hts, hlocks, hK0, hA0, hst0⟩ := hB
  intro K ls st σ hK h ρ H locs LS k n hW hS hl hokl hoks hk hn hag
  obtain ⟨a, st', rfl, ha, h1, h2⟩ := h
  have q := ir_eq ha ir_0
  skip
  exact lv_if_eq hx hb hd ht (fun c0 => hK _ _ _ _ (h1 (q.mp c0)) ρ H locs LS k n hW hS hl hokl (okl_c.mp hoks).2 hk hn hag) (fun c0 => hK _ _ _ _ (h2 (fun z => c0 (q.mpr z))) ρ H locs LS k n hW hS hl hokl (okl_c.mp hoks).2 hk hn hag)

def vIcNe (t n : Nat) : VT := fun _ K ls st σ => ∃ a b st', st = (0, b) :: (0, a) :: st' ∧ InR a ∧ InR b ∧ (a ≠ b → K t ls st' σ) ∧ (a = b → K n ls st' σ)
theorem vIcNe_e (t n : Nat) (Q) (K) (ls st : List AV) (a b : Int) (σ : Mem) : vIcNe t n Q K ls ((0, b) :: (0, a) :: st) σ = (InR a ∧ InR b ∧ (a ≠ b → K t ls st σ) ∧ (a = b → K n ls st σ)) := by
  apply propext; constructor
  · rintro ⟨a', b', st', h, h1⟩; cases h; exact h1
  · intro h1; exact ⟨a, b, st, rfl, h1⟩
theorem ok_icmp_ne {X : amX} {own : String} {cc : ByteArray} {ret : Option FieldType} {L pc : Nat} (hB : amB X own cc ret L) {off : Int} {t : Nat} (ht : (pc : Int) + off = (t : Int)) (hd : decode cc pc = .ok (.if_icmp .ne off, 3)) : amOK X pc (vIcNe t (pc + 3)) := by
  obtain ⟨p, l, e, s, m, args, below, meth, c, D, ca, n0, T, ρ0, σ0, dd, mc, ms, nL, Q⟩ := X
  obtain ⟨hx, hb, hr, hml, hnL, hown, hts, hlocks, hK0, hA0, hst0⟩ := hB
  intro K ls st σ hK h ρ H locs LS k n hW hS hl hokl hoks hk hn hag
  obtain ⟨a, b, st', rfl, ha, hb', h1, h2⟩ := h
  have q := not_congr (ir_eq ha hb')
  have q2 := ir_eq ha hb'
  exact lv_icmp_ne hx hb hd ht (fun c0 => hK _ _ _ _ (h1 (q.mp c0)) ρ H locs LS k n hW hS hl hokl (okl_c.mp (okl_c.mp hoks).2).2 hk hn hag) (fun c0 => hK _ _ _ _ (h2 (q2.mp c0)) ρ H locs LS k n hW hS hl hokl (okl_c.mp (okl_c.mp hoks).2).2 hk hn hag)
def vIfNe (t n : Nat) : VT := fun _ K ls st σ => ∃ a st', st = (0, a) :: st' ∧ InR a ∧ (a ≠ 0 → K t ls st' σ) ∧ (a = 0 → K n ls st' σ)
theorem vIfNe_e (t n : Nat) (Q) (K) (ls st : List AV) (a : Int) (σ : Mem) : vIfNe t n Q K ls ((0, a) :: st) σ = (InR a ∧ (a ≠ 0 → K t ls st σ) ∧ (a = 0 → K n ls st σ)) := by
  apply propext; constructor
  · rintro ⟨a', st', h, h1⟩; cases h; exact h1
  · intro h1; exact ⟨a, st, rfl, h1⟩
theorem ok_if_ne {X : amX} {own : String} {cc : ByteArray} {ret : Option FieldType} {L pc : Nat} (hB : amB X own cc ret L) {off : Int} {t : Nat} (ht : (pc : Int) + off = (t : Int)) (hd : decode cc pc = .ok (.ifCond .ne off, 3)) : amOK X pc (vIfNe t (pc + 3)) := by
  obtain ⟨p, l, e, s, m, args, below, meth, c, D, ca, n0, T, ρ0, σ0, dd, mc, ms, nL, Q⟩ := X
  obtain ⟨hx, hb, hr, hml, hnL, hown, hts, hlocks, hK0, hA0, hst0⟩ := hB
  intro K ls st σ hK h ρ H locs LS k n hW hS hl hokl hoks hk hn hag
  obtain ⟨a, st', rfl, ha, h1, h2⟩ := h
  have q := not_congr (ir_eq ha ir_0)
  have q2 := ir_eq ha ir_0
  exact lv_if_ne hx hb hd ht (fun c0 => hK _ _ _ _ (h1 (q.mp c0)) ρ H locs LS k n hW hS hl hokl (okl_c.mp hoks).2 hk hn hag) (fun c0 => hK _ _ _ _ (h2 (q2.mp c0)) ρ H locs LS k n hW hS hl hokl (okl_c.mp hoks).2 hk hn hag)

def vIcLt (t n : Nat) : VT := fun _ K ls st σ => ∃ a b st', st = (0, b) :: (0, a) :: st' ∧ InR a ∧ InR b ∧ (a < b → K t ls st' σ) ∧ (¬ (a < b) → K n ls st' σ)
theorem vIcLt_e (t n : Nat) (Q) (K) (ls st : List AV) (a b : Int) (σ : Mem) : vIcLt t n Q K ls ((0, b) :: (0, a) :: st) σ = (InR a ∧ InR b ∧ (a < b → K t ls st σ) ∧ (¬ (a < b) → K n ls st σ)) := by
  apply propext; constructor
  · rintro ⟨a', b', st', h, h1⟩; cases h; exact h1
  · intro h1; exact ⟨a, b, st, rfl, h1⟩
theorem ok_icmp_lt {X : amX} {own : String} {cc : ByteArray} {ret : Option FieldType} {L pc : Nat} (hB : amB X own cc ret L) {off : Int} {t : Nat} (ht : (pc : Int) + off = (t : Int)) (hd : decode cc pc = .ok (.if_icmp .lt off, 3)) : amOK X pc (vIcLt t (pc + 3)) := by
  obtain ⟨p, l, e, s, m, args, below, meth, c, D, ca, n0, T, ρ0, σ0, dd, mc, ms, nL, Q⟩ := X
  obtain ⟨hx, hb, hr, hml, hnL, hown, hts, hlocks, hK0, hA0, hst0⟩ := hB
  intro K ls st σ hK h ρ H locs LS k n hW hS hl hokl hoks hk hn hag
  obtain ⟨a, b, st', rfl, ha, hb', h1, h2⟩ := h
  have q := ir_lt ha hb'
  skip
  exact lv_icmp_lt hx hb hd ht (fun c0 => hK _ _ _ _ (h1 (q.mp c0)) ρ H locs LS k n hW hS hl hokl (okl_c.mp (okl_c.mp hoks).2).2 hk hn hag) (fun c0 => hK _ _ _ _ (h2 (fun z => c0 (q.mpr z))) ρ H locs LS k n hW hS hl hokl (okl_c.mp (okl_c.mp hoks).2).2 hk hn hag)
def vIfLt (t n : Nat) : VT := fun _ K ls st σ => ∃ a st', st = (0, a) :: st' ∧ InR a ∧ (a < 0 → K t ls st' σ) ∧ (¬ (a < 0) → K n ls st' σ)
theorem vIfLt_e (t n : Nat) (Q) (K) (ls st : List AV) (a : Int) (σ : Mem) : vIfLt t n Q K ls ((0, a) :: st) σ = (InR a ∧ (a < 0 → K t ls st σ) ∧ (¬ (a < 0) → K n ls st σ)) := by
  apply propext; constructor
  · rintro ⟨a', st', h, h1⟩; cases h; exact h1
  · intro h1; exact ⟨a, st, rfl, h1⟩
theorem ok_if_lt {X : amX} {own : String} {cc : ByteArray} {ret : Option FieldType} {L pc : Nat} (hB : amB X own cc ret L) {off : Int} {t : Nat} (ht : (pc : Int) + off = (t : Int)) (hd : decode cc pc = .ok (.ifCond .lt off, 3)) : amOK X pc (vIfLt t (pc + 3)) := by
  obtain ⟨p, l, e, s, m, args, below, meth, c, D, ca, n0, T, ρ0, σ0, dd, mc, ms, nL, Q⟩ := X
  obtain ⟨hx, hb, hr, hml, hnL, hown, hts, hlocks, hK0, hA0, hst0⟩ := hB
  intro K ls st σ hK h ρ H locs LS k n hW hS hl hokl hoks hk hn hag
  obtain ⟨a, st', rfl, ha, h1, h2⟩ := h
  have q := ir_lt ha ir_0
  skip
  exact lv_if_lt hx hb hd ht (fun c0 => hK _ _ _ _ (h1 (q.mp c0)) ρ H locs LS k n hW hS hl hokl (okl_c.mp hoks).2 hk hn hag) (fun c0 => hK _ _ _ _ (h2 (fun z => c0 (q.mpr z))) ρ H locs LS k n hW hS hl hokl (okl_c.mp hoks).2 hk hn hag)

def vIcGe (t n : Nat) : VT := fun _ K ls st σ => ∃ a b st', st = (0, b) :: (0, a) :: st' ∧ InR a ∧ InR b ∧ (b ≤ a → K t ls st' σ) ∧ (¬ (b ≤ a) → K n ls st' σ)
theorem vIcGe_e (t n : Nat) (Q) (K) (ls st : List AV) (a b : Int) (σ : Mem) : vIcGe t n Q K ls ((0, b) :: (0, a) :: st) σ = (InR a ∧ InR b ∧ (b ≤ a → K t ls st σ) ∧ (¬ (b ≤ a) → K n ls st σ)) := by
  apply propext; constructor
  · rintro ⟨a', b', st', h, h1⟩; cases h; exact h1
  · intro h1; exact ⟨a, b, st, rfl, h1⟩
theorem ok_icmp_ge {X : amX} {own : String} {cc : ByteArray} {ret : Option FieldType} {L pc : Nat} (hB : amB X own cc ret L) {off : Int} {t : Nat} (ht : (pc : Int) + off = (t : Int)) (hd : decode cc pc = .ok (.if_icmp .ge off, 3)) : amOK X pc (vIcGe t (pc + 3)) := by
  obtain ⟨p, l, e, s, m, args, below, meth, c, D, ca, n0, T, ρ0, σ0, dd, mc, ms, nL, Q⟩ := X
  obtain ⟨hx, hb, hr, hml, hnL, hown, hts, hlocks, hK0, hA0, hst0⟩ := hB
  intro K ls st σ hK h ρ H locs LS k n hW hS hl hokl hoks hk hn hag
  obtain ⟨a, b, st', rfl, ha, hb', h1, h2⟩ := h
  have q := ir_le hb' ha
  skip
  exact lv_icmp_ge hx hb hd ht (fun c0 => hK _ _ _ _ (h1 (q.mp c0)) ρ H locs LS k n hW hS hl hokl (okl_c.mp (okl_c.mp hoks).2).2 hk hn hag) (fun c0 => hK _ _ _ _ (h2 (fun z => c0 (q.mpr z))) ρ H locs LS k n hW hS hl hokl (okl_c.mp (okl_c.mp hoks).2).2 hk hn hag)
def vIfGe (t n : Nat) : VT := fun _ K ls st σ => ∃ a st', st = (0, a) :: st' ∧ InR a ∧ (0 ≤ a → K t ls st' σ) ∧ (¬ (0 ≤ a) → K n ls st' σ)
theorem vIfGe_e (t n : Nat) (Q) (K) (ls st : List AV) (a : Int) (σ : Mem) : vIfGe t n Q K ls ((0, a) :: st) σ = (InR a ∧ (0 ≤ a → K t ls st σ) ∧ (¬ (0 ≤ a) → K n ls st σ)) := by
  apply propext; constructor
  · rintro ⟨a', st', h, h1⟩; cases h; exact h1
  · intro h1; exact ⟨a, st, rfl, h1⟩
theorem ok_if_ge {X : amX} {own : String} {cc : ByteArray} {ret : Option FieldType} {L pc : Nat} (hB : amB X own cc ret L) {off : Int} {t : Nat} (ht : (pc : Int) + off = (t : Int)) (hd : decode cc pc = .ok (.ifCond .ge off, 3)) : amOK X pc (vIfGe t (pc + 3)) := by
  obtain ⟨p, l, e, s, m, args, below, meth, c, D, ca, n0, T, ρ0, σ0, dd, mc, ms, nL, Q⟩ := X
  obtain ⟨hx, hb, hr, hml, hnL, hown, hts, hlocks, hK0, hA0, hst0⟩ := hB
  intro K ls st σ hK h ρ H locs LS k n hW hS hl hokl hoks hk hn hag
  obtain ⟨a, st', rfl, ha, h1, h2⟩ := h
  have q := ir_le ir_0 ha
  skip
  exact lv_if_ge hx hb hd ht (fun c0 => hK _ _ _ _ (h1 (q.mp c0)) ρ H locs LS k n hW hS hl hokl (okl_c.mp hoks).2 hk hn hag) (fun c0 => hK _ _ _ _ (h2 (fun z => c0 (q.mpr z))) ρ H locs LS k n hW hS hl hokl (okl_c.mp hoks).2 hk hn hag)

def vIcGt (t n : Nat) : VT := fun _ K ls st σ => ∃ a b st', st = (0, b) :: (0, a) :: st' ∧ InR a ∧ InR b ∧ (b < a → K t ls st' σ) ∧ (¬ (b < a) → K n ls st' σ)
theorem vIcGt_e (t n : Nat) (Q) (K) (ls st : List AV) (a b : Int) (σ : Mem) : vIcGt t n Q K ls ((0, b) :: (0, a) :: st) σ = (InR a ∧ InR b ∧ (b < a → K t ls st σ) ∧ (¬ (b < a) → K n ls st σ)) := by
  apply propext; constructor
  · rintro ⟨a', b', st', h, h1⟩; cases h; exact h1
  · intro h1; exact ⟨a, b, st, rfl, h1⟩
theorem ok_icmp_gt {X : amX} {own : String} {cc : ByteArray} {ret : Option FieldType} {L pc : Nat} (hB : amB X own cc ret L) {off : Int} {t : Nat} (ht : (pc : Int) + off = (t : Int)) (hd : decode cc pc = .ok (.if_icmp .gt off, 3)) : amOK X pc (vIcGt t (pc + 3)) := by
  obtain ⟨p, l, e, s, m, args, below, meth, c, D, ca, n0, T, ρ0, σ0, dd, mc, ms, nL, Q⟩ := X
  obtain ⟨hx, hb, hr, hml, hnL, hown, hts, hlocks, hK0, hA0, hst0⟩ := hB
  intro K ls st σ hK h ρ H locs LS k n hW hS hl hokl hoks hk hn hag
  obtain ⟨a, b, st', rfl, ha, hb', h1, h2⟩ := h
  have q := ir_lt hb' ha
  skip
  exact lv_icmp_gt hx hb hd ht (fun c0 => hK _ _ _ _ (h1 (q.mp c0)) ρ H locs LS k n hW hS hl hokl (okl_c.mp (okl_c.mp hoks).2).2 hk hn hag) (fun c0 => hK _ _ _ _ (h2 (fun z => c0 (q.mpr z))) ρ H locs LS k n hW hS hl hokl (okl_c.mp (okl_c.mp hoks).2).2 hk hn hag)
def vIfGt (t n : Nat) : VT := fun _ K ls st σ => ∃ a st', st = (0, a) :: st' ∧ InR a ∧ (0 < a → K t ls st' σ) ∧ (¬ (0 < a) → K n ls st' σ)
theorem vIfGt_e (t n : Nat) (Q) (K) (ls st : List AV) (a : Int) (σ : Mem) : vIfGt t n Q K ls ((0, a) :: st) σ = (InR a ∧ (0 < a → K t ls st σ) ∧ (¬ (0 < a) → K n ls st σ)) := by
  apply propext; constructor
  · rintro ⟨a', st', h, h1⟩; cases h; exact h1
  · intro h1; exact ⟨a, st, rfl, h1⟩
theorem ok_if_gt {X : amX} {own : String} {cc : ByteArray} {ret : Option FieldType} {L pc : Nat} (hB : amB X own cc ret L) {off : Int} {t : Nat} (ht : (pc : Int) + off = (t : Int)) (hd : decode cc pc = .ok (.ifCond .gt off, 3)) : amOK X pc (vIfGt t (pc + 3)) := by
  obtain ⟨p, l, e, s, m, args, below, meth, c, D, ca, n0, T, ρ0, σ0, dd, mc, ms, nL, Q⟩ := X
  obtain ⟨hx, hb, hr, hml, hnL, hown, hts, hlocks, hK0, hA0, hst0⟩ := hB
  intro K ls st σ hK h ρ H locs LS k n hW hS hl hokl hoks hk hn hag
  obtain ⟨a, st', rfl, ha, h1, h2⟩ := h
  have q := ir_lt ir_0 ha
  skip
  exact lv_if_gt hx hb hd ht (fun c0 => hK _ _ _ _ (h1 (q.mp c0)) ρ H locs LS k n hW hS hl hokl (okl_c.mp hoks).2 hk hn hag) (fun c0 => hK _ _ _ _ (h2 (fun z => c0 (q.mpr z))) ρ H locs LS k n hW hS hl hokl (okl_c.mp hoks).2 hk hn hag)

def vIcLe (t n : Nat) : VT := fun _ K ls st σ => ∃ a b st', st = (0, b) :: (0, a) :: st' ∧ InR a ∧ InR b ∧ (a ≤ b → K t ls st' σ) ∧ (¬ (a ≤ b) → K n ls st' σ)
theorem vIcLe_e (t n : Nat) (Q) (K) (ls st : List AV) (a b : Int) (σ : Mem) : vIcLe t n Q K ls ((0, b) :: (0, a) :: st) σ = (InR a ∧ InR b ∧ (a ≤ b → K t ls st σ) ∧ (¬ (a ≤ b) → K n ls st σ)) := by
  apply propext; constructor
  · rintro ⟨a', b', st', h, h1⟩; cases h; exact h1
  · intro h1; exact ⟨a, b, st, rfl, h1⟩
theorem ok_icmp_le {X : amX} {own : String} {cc : ByteArray} {ret : Option FieldType} {L pc : Nat} (hB : amB X own cc ret L) {off : Int} {t : Nat} (ht : (pc : Int) + off = (t : Int)) (hd : decode cc pc = .ok (.if_icmp .le off, 3)) : amOK X pc (vIcLe t (pc + 3)) := by
  obtain ⟨p, l, e, s, m, args, below, meth, c, D, ca, n0, T, ρ0, σ0, dd, mc, ms, nL, Q⟩ := X
  obtain ⟨hx, hb, hr, hml, hnL, hown, hts, hlocks, hK0, hA0, hst0⟩ := hB
  intro K ls st σ hK h ρ H locs LS k n hW hS hl hokl hoks hk hn hag
  obtain ⟨a, b, st', rfl, ha, hb', h1, h2⟩ := h
  have q := ir_le ha hb'
  skip
  exact lv_icmp_le hx hb hd ht (fun c0 => hK _ _ _ _ (h1 (q.mp c0)) ρ H locs LS k n hW hS hl hokl (okl_c.mp (okl_c.mp hoks).2).2 hk hn hag) (fun c0 => hK _ _ _ _ (h2 (fun z => c0 (q.mpr z))) ρ H locs LS k n hW hS hl hokl (okl_c.mp (okl_c.mp hoks).2).2 hk hn hag)
def vIfLe (t n : Nat) : VT := fun _ K ls st σ => ∃ a st', st = (0, a) :: st' ∧ InR a ∧ (a ≤ 0 → K t ls st' σ) ∧ (¬ (a ≤ 0) → K n ls st' σ)
theorem vIfLe_e (t n : Nat) (Q) (K) (ls st : List AV) (a : Int) (σ : Mem) : vIfLe t n Q K ls ((0, a) :: st) σ = (InR a ∧ (a ≤ 0 → K t ls st σ) ∧ (¬ (a ≤ 0) → K n ls st σ)) := by
  apply propext; constructor
  · rintro ⟨a', st', h, h1⟩; cases h; exact h1
  · intro h1; exact ⟨a, st, rfl, h1⟩
theorem ok_if_le {X : amX} {own : String} {cc : ByteArray} {ret : Option FieldType} {L pc : Nat} (hB : amB X own cc ret L) {off : Int} {t : Nat} (ht : (pc : Int) + off = (t : Int)) (hd : decode cc pc = .ok (.ifCond .le off, 3)) : amOK X pc (vIfLe t (pc + 3)) := by
  obtain ⟨p, l, e, s, m, args, below, meth, c, D, ca, n0, T, ρ0, σ0, dd, mc, ms, nL, Q⟩ := X
  obtain ⟨hx, hb, hr, hml, hnL, hown, hts, hlocks, hK0, hA0, hst0⟩ := hB
  intro K ls st σ hK h ρ H locs LS k n hW hS hl hokl hoks hk hn hag
  obtain ⟨a, st', rfl, ha, h1, h2⟩ := h
  have q := ir_le ha ir_0
  skip
  exact lv_if_le hx hb hd ht (fun c0 => hK _ _ _ _ (h1 (q.mp c0)) ρ H locs LS k n hW hS hl hokl (okl_c.mp hoks).2 hk hn hag) (fun c0 => hK _ _ _ _ (h2 (fun z => c0 (q.mpr z))) ρ H locs LS k n hW hS hl hokl (okl_c.mp hoks).2 hk hn hag)

def vNonnull (t n : Nat) : VT := fun _ K ls st σ => ∃ a z st', st = (a, z) :: st' ∧ isRf a = true ∧ (0 ≤ z → K t ls st' σ) ∧ (z < 0 → K n ls st' σ)
theorem vNonnull_e (t n : Nat) (Q) (K) (ls st : List AV) (a : Nat) (z : Int) (σ : Mem) : vNonnull t n Q K ls ((a, z) :: st) σ = (isRf a = true ∧ (0 ≤ z → K t ls st σ) ∧ (z < 0 → K n ls st σ)) := by
  apply propext; constructor
  · rintro ⟨a', b', st', h, h1⟩; cases h; exact h1
  · intro h1; exact ⟨a, z, st, rfl, h1⟩
theorem ok_ifnonnull {X : amX} {own : String} {cc : ByteArray} {ret : Option FieldType} {L pc : Nat} (hB : amB X own cc ret L) {off : Int} {t : Nat} (ht : (pc : Int) + off = (t : Int)) (hd : decode cc pc = .ok (.ifnonnull off, 3)) : amOK X pc (vNonnull t (pc + 3)) := by
  obtain ⟨p, l, e, s, m, args, below, meth, c, D, ca, n0, T, ρ0, σ0, dd, mc, ms, nL, Q⟩ := X
  obtain ⟨hx, hb, hr, hml, hnL, hown, hts, hlocks, hK0, hA0, hst0⟩ := hB
  intro K ls st σ hK h ρ H locs LS k n hW hS hl hokl hoks hk hn hag
  obtain ⟨a, z, st', rfl, ha, h1, h2⟩ := h
  rw [List.map_cons]
  by_cases hz : z < 0
  · rw [am_val_n ρ (isRf_2 ha).1 hz]
    exact lv_ifnonnullN hx hb hd (hK _ _ _ _ (h2 hz) ρ H locs LS k n hW hS hl hokl (okl_c.mp hoks).2 hk hn hag)
  · rw [am_val_p ρ (isRf_2 ha).1 (by omega)]
    exact lv_ifnonnull hx hb hd ht (hK _ _ _ _ (h1 (by omega)) ρ H locs LS k n hW hS hl hokl (okl_c.mp hoks).2 hk hn hag)
/-- a switch: pairs of keys and places, else the last -/
def swAt (ps : List (Int × Nat)) (dn : Nat) (x : Int) : Nat := ((ps.find? (fun q => q.1 == x)).map (fun q => q.2)).getD dn
def vSw (ps : List (Int × Nat)) (dn : Nat) : VT := fun _ K ls st σ => ∃ x st', st = (0, x) :: st' ∧ InR x ∧ (∀ q ∈ ps, x = q.1 → K q.2 ls st' σ) ∧ ((∀ q ∈ ps, x ≠ q.1) → K dn ls st' σ)
theorem vSw_e (ps : List (Int × Nat)) (dn : Nat) (Q) (K) (ls st : List AV) (x : Int) (σ : Mem) : vSw ps dn Q K ls ((0, x) :: st) σ = (InR x ∧ (∀ q ∈ ps, x = q.1 → K q.2 ls st σ) ∧ ((∀ q ∈ ps, x ≠ q.1) → K dn ls st σ)) := by
  apply propext; constructor
  · rintro ⟨x', st', h, h1⟩; cases h; exact h1
  · intro h1; exact ⟨x, st, rfl, h1⟩
