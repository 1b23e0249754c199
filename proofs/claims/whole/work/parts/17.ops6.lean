/-! returns, wide String constants, calls -/
theorem amQc_of {D : va_G} {ca : Nat → ClassId} {T : Int → Kd} {n0 : Nat} {ρ0 ρ : Int → Nat} {σ0 σ : Mem} {Q : AV → Mem → Prop} {s t : State} {args : Array Value} {H : Heap} {locs : List Loc} {r : AV} {v : Option Value} (hW : amW D ca T n0 ρ σ H) (hS : va_S (fun q => n0 ≤ q) s.heap H locs) (hag : amAg ρ0 ρ σ0 σ) (hok : okv T σ r) (hQ : Q r σ) (hv : amQr ρ r = v) (ht : t.heap = H) : amQc D ca T n0 ρ0 σ0 Q args s (.returned v) t :=
  ⟨⟨r, σ, ρ, by rw [hv], hQ, by rw [ht]; exact hW, hok, hag⟩, hS.F ht⟩

def vIret : VT := fun Q _ _ st σ => ∃ x, st = [(0, x)] ∧ Q (0, x) σ
theorem vIret_e (Q) (K) (ls : List AV) (x : Int) (σ : Mem) : vIret Q K ls [(0, x)] σ = (Q (0, x) σ) := by
  apply propext; constructor
  · rintro ⟨x', h, h1⟩; cases h; exact h1
  · intro h1; exact ⟨x, rfl, h1⟩
theorem ok_iret {X : amX} {own : String} {cc : ByteArray} {L pc : Nat} (hB : amB X own cc (some .int) L) (hd : decode cc pc = .ok (.ireturn, 1)) : amOK X pc vIret := by
  obtain ⟨p, l, e, s, m, args, below, meth, c0, D, ca, n0, T, ρ0, σ0, dd, mc, ms, nL, Q⟩ := X
  obtain ⟨hx, hb, hr, hml, hnL, hown, hts, hlocks, hK0, hA0, hst0⟩ := hB
  intro K ls st σ hK h ρ H locs LS kk n hW hS hl hokl hoks hk hn hag
  obtain ⟨x, rfl, h⟩ := h
  have hQ := h
  refine W.widen (k := mc) (n := ms) (by omega) (by omega) ?_
  exact W.iret hx hb hr (fun t ht hWm => amQc_of hW hS hag (okv_s (by decide)) hQ rfl ht) hS.2.2 hd

def vZret : VT := fun Q _ _ st σ => ∃ x, st = [(0, x)] ∧ (x = 0 ∨ x = 1) ∧ Q (0, x) σ
theorem vZret_e (Q) (K) (ls : List AV) (x : Int) (σ : Mem) : vZret Q K ls [(0, x)] σ = ((x = 0 ∨ x = 1) ∧ Q (0, x) σ) := by
  apply propext; constructor
  · rintro ⟨x', h, h1⟩; cases h; exact h1
  · intro h1; exact ⟨x, rfl, h1⟩
theorem ok_zret {X : amX} {own : String} {cc : ByteArray} {L pc : Nat} (hB : amB X own cc (some .boolean) L) (hd : decode cc pc = .ok (.ireturn, 1)) : amOK X pc vZret := by
  obtain ⟨p, l, e, s, m, args, below, meth, c0, D, ca, n0, T, ρ0, σ0, dd, mc, ms, nL, Q⟩ := X
  obtain ⟨hx, hb, hr, hml, hnL, hown, hts, hlocks, hK0, hA0, hst0⟩ := hB
  intro K ls st σ hK h ρ H locs LS kk n hW hS hl hokl hoks hk hn hag
  obtain ⟨x, rfl, h⟩ := h
  obtain ⟨hsd, hQ⟩ := h
  refine W.widen (k := mc) (n := ms) (by omega) (by omega) ?_
  exact W.zret hx hb hr (by rcases hsd with rfl | rfl <;> rfl) (fun t ht hWm => amQc_of hW hS hag (okv_s (by decide)) hQ rfl ht) hS.2.2 hd

theorem am_char {x : Int} (h : 0 ≤ x ∧ x ≤ 65535) : narrow .char (.int (Int32.ofInt x)) = .int (Int32.ofInt x) := by
  obtain ⟨k, rfl⟩ : ∃ k : Nat, x = k := ⟨x.toNat, by omega⟩
  rw [Int32.ofInt_eq_ofNat]
  exact (pk_charN (q := k) (by omega)).1
theorem am_byte0 : ∀ k, k < 128 → narrow .byte (.int (Int32.ofNat k)) = .int (Int32.ofNat k) := by decide +kernel
theorem am_byte {x : Int} (h : 0 ≤ x ∧ x ≤ 127) : narrow .byte (.int (Int32.ofInt x)) = .int (Int32.ofInt x) := by
  obtain ⟨k, rfl⟩ : ∃ k : Nat, x = k := ⟨x.toNat, by omega⟩
  rw [Int32.ofInt_eq_ofNat]
  exact am_byte0 k (by omega)

def vCret : VT := fun Q _ _ st σ => ∃ x, st = [(0, x)] ∧ (0 ≤ x ∧ x ≤ 65535) ∧ Q (0, x) σ
theorem vCret_e (Q) (K) (ls : List AV) (x : Int) (σ : Mem) : vCret Q K ls [(0, x)] σ = ((0 ≤ x ∧ x ≤ 65535) ∧ Q (0, x) σ) := by
  apply propext; constructor
  · rintro ⟨x', h, h1⟩; cases h; exact h1
  · intro h1; exact ⟨x, rfl, h1⟩
theorem ok_cret {X : amX} {own : String} {cc : ByteArray} {L pc : Nat} (hB : amB X own cc (some .char) L) (hd : decode cc pc = .ok (.ireturn, 1)) : amOK X pc vCret := by
  obtain ⟨p, l, e, s, m, args, below, meth, c0, D, ca, n0, T, ρ0, σ0, dd, mc, ms, nL, Q⟩ := X
  obtain ⟨hx, hb, hr, hml, hnL, hown, hts, hlocks, hK0, hA0, hst0⟩ := hB
  intro K ls st σ hK h ρ H locs LS kk n hW hS hl hokl hoks hk hn hag
  obtain ⟨x, rfl, h⟩ := h
  obtain ⟨hsd, hQ⟩ := h
  refine W.widen (k := mc) (n := ms) (by omega) (by omega) ?_
  exact W.zret hx hb hr (am_char hsd) (fun t ht hWm => amQc_of hW hS hag (okv_s (by decide)) hQ rfl ht) hS.2.2 hd

def vBret : VT := fun Q _ _ st σ => ∃ x, st = [(0, x)] ∧ (0 ≤ x ∧ x ≤ 127) ∧ Q (0, x) σ
theorem vBret_e (Q) (K) (ls : List AV) (x : Int) (σ : Mem) : vBret Q K ls [(0, x)] σ = ((0 ≤ x ∧ x ≤ 127) ∧ Q (0, x) σ) := by
  apply propext; constructor
  · rintro ⟨x', h, h1⟩; cases h; exact h1
  · intro h1; exact ⟨x, rfl, h1⟩
theorem ok_bret {X : amX} {own : String} {cc : ByteArray} {L pc : Nat} (hB : amB X own cc (some .byte) L) (hd : decode cc pc = .ok (.ireturn, 1)) : amOK X pc vBret := by
  obtain ⟨p, l, e, s, m, args, below, meth, c0, D, ca, n0, T, ρ0, σ0, dd, mc, ms, nL, Q⟩ := X
  obtain ⟨hx, hb, hr, hml, hnL, hown, hts, hlocks, hK0, hA0, hst0⟩ := hB
  intro K ls st σ hK h ρ H locs LS kk n hW hS hl hokl hoks hk hn hag
  obtain ⟨x, rfl, h⟩ := h
  obtain ⟨hsd, hQ⟩ := h
  refine W.widen (k := mc) (n := ms) (by omega) (by omega) ?_
  exact W.zret hx hb hr (am_byte hsd) (fun t ht hWm => amQc_of hW hS hag (okv_s (by decide)) hQ rfl ht) hS.2.2 hd

def vLret : VT := fun Q _ _ st σ => ∃ x, st = [(1, x)] ∧ Q (1, x) σ
theorem vLret_e (Q) (K) (ls : List AV) (x : Int) (σ : Mem) : vLret Q K ls [(1, x)] σ = (Q (1, x) σ) := by
  apply propext; constructor
  · rintro ⟨x', h, h1⟩; cases h; exact h1
  · intro h1; exact ⟨x, rfl, h1⟩
theorem ok_lret {X : amX} {own : String} {cc : ByteArray} {L pc : Nat} (hB : amB X own cc (some .long) L) (hd : decode cc pc = .ok (.lreturn, 1)) : amOK X pc vLret := by
  obtain ⟨p, l, e, s, m, args, below, meth, c0, D, ca, n0, T, ρ0, σ0, dd, mc, ms, nL, Q⟩ := X
  obtain ⟨hx, hb, hr, hml, hnL, hown, hts, hlocks, hK0, hA0, hst0⟩ := hB
  intro K ls st σ hK h ρ H locs LS kk n hW hS hl hokl hoks hk hn hag
  obtain ⟨x, rfl, h⟩ := h
  have hQ := h
  refine W.widen (k := mc) (n := ms) (by omega) (by omega) ?_
  exact W.lret hx hb hr (fun t ht hWm => amQc_of hW hS hag (okv_s (by decide)) hQ rfl ht) hS.2.2 hd

def vVret : VT := fun Q _ _ st σ => st = [] ∧ Q (6, 0) σ
theorem vVret_e (Q) (K) (ls : List AV) (σ : Mem) : vVret Q K ls [] σ = Q (6, 0) σ := by
  apply propext; constructor
  · rintro ⟨-, h1⟩; exact h1
  · intro h1; exact ⟨rfl, h1⟩
theorem ok_vret {X : amX} {own : String} {cc : ByteArray} {L pc : Nat} (hB : amB X own cc none L) (hd : decode cc pc = .ok (.return_, 1)) : amOK X pc vVret := by
  obtain ⟨p, l, e, s, m, args, below, meth, c0, D, ca, n0, T, ρ0, σ0, dd, mc, ms, nL, Q⟩ := X
  obtain ⟨hx, hb, hr, hml, hnL, hown, hts, hlocks, hK0, hA0, hst0⟩ := hB
  intro K ls st σ hK h ρ H locs LS kk n hW hS hl hokl hoks hk hn hag
  obtain ⟨rfl, hQ⟩ := h
  refine W.widen (k := mc) (n := ms) (by omega) (by omega) ?_
  exact W.vret hx hb hr (fun t ht hWm => amQc_of hW hS hag (r := (6, 0)) (okv_s (by decide)) hQ rfl ht) hS.2.2 hd
def vAret : VT := fun Q _ _ st σ => ∃ v, st = [v] ∧ isRf v.1 = true ∧ Q v σ
theorem vAret_e (Q) (K) (ls : List AV) (v : AV) (σ : Mem) : vAret Q K ls [v] σ = (isRf v.1 = true ∧ Q v σ) := by
  apply propext; constructor
  · rintro ⟨x', h, h1⟩; cases h; exact h1
  · intro h1; exact ⟨v, rfl, h1⟩
theorem ok_aret {X : amX} {own : String} {cc : ByteArray} {L pc : Nat} {rt : FieldType} (hB : amB X own cc (some rt) L) (hrt : (∃ n, rt = .object n) ∨ ∃ t, rt = .array t) (hd : decode cc pc = .ok (.areturn, 1)) : amOK X pc vAret := by
  obtain ⟨p, l, e, s, m, args, below, meth, c0, D, ca, n0, T, ρ0, σ0, dd, mc, ms, nL, Q⟩ := X
  obtain ⟨hx, hb, hr, hml, hnL, hown, hts, hlocks, hK0, hA0, hst0⟩ := hB
  intro K ls st σ hK h ρ H locs LS kk n hW hS hl hokl hoks hk hn hag
  obtain ⟨⟨t, z⟩, rfl, hrf, hQ⟩ := h
  obtain ⟨h2, h6, -⟩ := isRf_2 hrf
  refine W.widen (k := mc) (n := ms) (by omega) (by omega) ?_
  refine W.aret (v := am_val ρ (t, z)) hx hb hr hrt ?_ (fun t' ht hWm => amQc_of hW hS hag (okl_c.mp hoks).1 hQ (if_neg h6) ht) hS.2.2 hd
  rw [am_val_r ρ z h2]; split
  · exact Or.inl rfl
  · exact Or.inr ⟨_, rfl⟩
theorem ok_ldcwS {ret : Option FieldType} {X : amX} {own : String} {cc : ByteArray} {L pc : Nat} (hB : amB X own cc ret L) {k index : Nat} {q : String × Nat × String × List Int} (hq : amStr[k]? = some q) (ho : q.1 = own) (hi : q.2.1 = index) {z : Int} (hz : z = 20000 + k) (hd : decode cc pc = .ok (.ldc_w index, 3)) : amOK X pc (vLdcS z (pc + 3)) := by
  obtain ⟨p, l, e, s, m, args, below, meth, c0, D, ca, n0, T, ρ0, σ0, dd, mc, ms, nL, Q⟩ := X
  obtain ⟨hx, hb, hr, hml, hnL, hown, hts, hlocks, hK0, hA0, hst0⟩ := hB
  intro K ls st σ hK h ρ H locs LS kk n hW hS hl hokl hoks hk hn hag
  have key := hK _ _ _ _ h ρ H locs LS kk n hW hS hl hokl (okl_c.mpr ⟨okv_k (by decide) (by omega), hoks⟩) hk hn hag
  rw [List.map_cons, am_val_p ρ (t := 4) (z := z) (by decide) (by omega), hag.2 z (by omega), hz] at key
  have hR := (hst0.1 k q hq).1
  rw [ho, hi] at hR
  intro T9 hT9 X9
  obtain ⟨t, a1, b1⟩ := key T9 hT9 X9
  exact ⟨t, X9.ldcStringW hx hown (text := q.2.2.1) hR.1 hR.2 (g := F0 m pc LS _) rfl (by rw [hb]; exact hd) t a1, b1⟩
