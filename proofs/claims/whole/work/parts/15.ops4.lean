/-! arrays, the constants in the heap, returns -/
abbrev XT (X : amX) : Int → Kd := X.2.2.2.2.2.2.2.2.2.2.2.2.1
def sav (z i : Int) : Int := ((amSA.getD (z - 21000).toNat ("", [])).2).getD i.toNat 0
def sal (z : Int) : Int := ((amSA.getD (z - 21000).toNat ("", [])).2).length
def stv (z i : Int) : Int := ((amStr.getD (z - 20100).toNat ("", 0, "", [])).2.2.2).getD i.toNat 0
def stl (z : Int) : Int := ((amStr.getD (z - 20100).toNat ("", 0, "", [])).2.2.2).length
theorem am_ty8 (ca : Nat → ClassId) : (amTys ca)[0]? = some (ca 8, .int) := rfl
theorem am_ty9 (ca : Nat → ClassId) : (amTys ca)[1]? = some (ca 9, .long) := rfl
theorem am_ty10 (ca : Nat → ClassId) : (amTys ca)[2]? = some (ca 10, .byte) := rfl
theorem am_ty11 (ca : Nat → ClassId) : (amTys ca)[3]? = some (ca 11, .object "ArmchairHouse$Law") := rfl
theorem alen_of {T : Int → Kd} {σ : Mem} {a : Int} {t : Nat} {n : Int} (h : T a = .inr (t, n)) : alen T σ a = am_len σ a n := by unfold alen; rw [h]
theorem sa_at {z : Int} (h0 : 21000 ≤ z) (h1 : z < 21005) : ∃ (k : Nat) (q : String × List Int), amSA[k]? = some q ∧ z = 21000 + k ∧ (z - 21000).toNat = k ∧ amSA.getD (z - 21000).toNat ("", []) = q := by
  obtain ⟨k, rfl⟩ : ∃ k : Nat, z = 21000 + k := ⟨(z - 21000).toNat, by omega⟩
  have hk : (21000 + (k : Int) - 21000).toNat = k := by omega
  have hlt : k < amSA.length := by show k < 5; omega
  refine ⟨k, amSA[k], List.getElem?_eq_getElem hlt, rfl, hk, ?_⟩
  rw [hk, List.getD_eq_getElem?_getD, List.getElem?_eq_getElem hlt]; rfl
theorem st_at {z : Int} (h0 : 20100 ≤ z) (h1 : z < 20111) : ∃ (k : Nat) (q : String × Nat × String × List Int), amStr[k]? = some q ∧ z = 20100 + k ∧ (z - 20100).toNat = k ∧ amStr.getD (z - 20100).toNat ("", 0, "", []) = q := by
  obtain ⟨k, rfl⟩ : ∃ k : Nat, z = 20100 + k := ⟨(z - 20100).toNat, by omega⟩
  have hk : (20100 + (k : Int) - 20100).toNat = k := by omega
  have hlt : k < amStr.length := by show k < 11; omega
  refine ⟨k, amStr[k], List.getElem?_eq_getElem hlt, rfl, hk, ?_⟩
  rw [hk, List.getD_eq_getElem?_getD, List.getElem?_eq_getElem hlt]; rfl

theorem sal_le0 : ∀ k, k < 5 → ((amSA.getD k ("", [])).2.length : Int) ≤ 2147483647 := by decide +kernel
theorem sal_le {z : Int} (h0 : 21000 ≤ z) (h1 : z < 21005) : sal z ≤ 2147483647 := sal_le0 _ (by omega)
theorem stl_le0 : ∀ k, k < 11 → ((amStr.getD k ("", 0, "", [])).2.2.2.length : Int) ≤ 2147483647 := by decide +kernel
theorem stl_le {z : Int} (h0 : 20100 ≤ z) (h1 : z < 20111) : stl z ≤ 2147483647 := stl_le0 _ (by omega)
theorem hcl11 {T : Int → Kd} {σ : Mem} {V : List Int} {a i N : Int} (hcl : ∀ a ∈ V, am_closed T σ a) (hT : T a = .inr (11, N)) (ha : a ∈ V) (h0 : 0 ≤ i) (h1 : i < am_len σ a N) : okv T σ (18, σ a i) := by
  have h := hcl a ha
  unfold am_closed at h
  rw [hT] at h
  have := h rfl i.toNat (by rw [Int.toNat_of_nonneg h0]; exact h1)
  rw [Int.toNat_of_nonneg h0] at this
  exact this

def vIald (T : Int → Kd) (n : Nat) : VT := fun _ K ls st σ => ∃ i t a st', st = (0, i) :: (t, a) :: st' ∧ ((t = 8 ∧ 0 ≤ a ∧ 0 ≤ i ∧ i < alen T σ a ∧ alen T σ a ≤ 2147483647 ∧ K n ls ((0, σ a i) :: st') σ) ∨ (t = 5 ∧ 21000 ≤ a ∧ a < 21005 ∧ 0 ≤ i ∧ i < sal a ∧ K n ls ((0, sav a i) :: st') σ))

theorem vIald_e (T : Int → Kd) (n : Nat) (Q) (K) (ls st : List AV) (i a : Int) (σ : Mem) : vIald T n Q K ls ((0, i) :: (8, a) :: st) σ = (0 ≤ a ∧ 0 ≤ i ∧ i < alen T σ a ∧ alen T σ a ≤ 2147483647 ∧ K n ls ((0, σ a i) :: st) σ) := by
  apply propext; constructor
  · rintro ⟨i', t', a', st', h, h1⟩; cases h; rcases h1 with ⟨-, h1⟩ | ⟨h1, -⟩
    · exact h1
    · cases h1
  · intro h1; exact ⟨i, _, a, st, rfl, Or.inl ⟨rfl, h1⟩⟩

theorem vIald_s (T : Int → Kd) (n : Nat) (Q) (K) (ls st : List AV) (i a : Int) (σ : Mem) : vIald T n Q K ls ((0, i) :: (5, a) :: st) σ = (21000 ≤ a ∧ a < 21005 ∧ 0 ≤ i ∧ i < sal a ∧ K n ls ((0, sav a i) :: st) σ) := by
  apply propext; constructor
  · rintro ⟨i', t', a', st', h, h1⟩; cases h; rcases h1 with ⟨h1, -⟩ | ⟨-, h1⟩
    · cases h1
    · exact h1
  · intro h1; exact ⟨i, _, a, st, rfl, Or.inr ⟨rfl, h1⟩⟩

theorem ok_iaload {X : amX} {own : String} {cc : ByteArray} {ret : Option FieldType} {L pc : Nat} (hB : amB X own cc ret L) (hd : decode cc pc = .ok (.iaload, 1)) : amOK X pc (vIald (XT X) (pc + 1)) := by
  obtain ⟨p, l, e, s, m, args, below, meth, c0, D, ca, n0, T, ρ0, σ0, dd, mc, ms, nL, Q⟩ := X
  obtain ⟨hx, hb, hr, hml, hnL, hown, hts, hlocks, hK0, hA0, hst0⟩ := hB
  intro K ls st σ hK h ρ H locs LS kk n hW hS hl hokl hoks hk hn hag
  obtain ⟨i, t, a, st', rfl, h⟩ := h
  rcases h with ⟨rfl, ha, h0, h1, h2, h⟩ | ⟨rfl, ha, ha2, h0, h1, h⟩
  · dsimp only [XT] at h1 h2 h
    obtain ⟨hlive, htg⟩ := okv_at (okl_c.mp (okl_c.mp hoks).2).1 (by decide) ha
    obtain ⟨V, hnd, hV, hV0, hP, hD, hcl⟩ := id hW
    obtain ⟨N, hTa⟩ := tg_arr htg (by decide)
    obtain ⟨q, hq, hq2⟩ := ws_at (ρ := ρ) (ca := ca) (T := T) (σ := σ) ((hV a).mpr hlive)
    rw [hTa] at hq2
    rw [alen_of hTa] at h1 h2
    obtain ⟨hin, hcl2⟩ := vp_in_am h0 h1 h2
    have key := hK _ _ _ _ h ρ H locs LS kk n hW hS hl hokl (okl_c.mpr ⟨okv_s (by decide), (okl_c.mp (okl_c.mp hoks).2).2⟩) hk hn hag
    rw [List.map_cons] at key
    rw [List.map_cons, List.map_cons]
    rw [am_val_p ρ (by decide) ha]
    refine va_iald hx hb hK0 hP q 0 hq2 rfl hin hd ?_
    rw [hcl2]
    rw [show (Int32.ofInt (σ a (i.toNat : Int))) = Int32.ofInt (σ a i) by rw [Int.toNat_of_nonneg h0]]
    exact key
  · obtain ⟨k9, q9, hk9, hz9, hn9, hq9⟩ := sa_at ha ha2
    have hT9 := (hst0.2.1 k9 q9 hk9).2
    have hlen : sal a = (q9.2.length : Int) := by unfold sal; rw [hq9]
    rw [hlen] at h1
    have hlen2 : (q9.2.length : Int) ≤ 2147483647 := by rw [← hlen]; exact sal_le ha ha2
    obtain ⟨hin, hcl2⟩ := vp_in_am h0 h1 hlen2
    have key := hK _ _ _ _ h ρ H locs LS kk n hW hS hl hokl (okl_c.mpr ⟨okv_s (by decide), (okl_c.mp (okl_c.mp hoks).2).2⟩) hk hn hag
    rw [List.map_cons] at key
    rw [List.map_cons, List.map_cons]
    rw [am_val_p ρ (t := 5) (z := a) (by decide) (by omega), hag.2 a (by omega), hz9]
    refine va_ti hx hb hT9 hS (by rw [Int.toNat_natCast] at hin; exact hin) (v := .int (Int32.ofInt (sav a i))) ?_ hd key
    rw [hcl2]
    show Value.int _ = Value.int _
    rw [show sav a i = q9.2.getD i.toNat 0 by unfold sav; rw [hq9]]

def vLald (T : Int → Kd) (n : Nat) : VT := fun _ K ls st σ => ∃ i t a st', st = (0, i) :: (t, a) :: st' ∧ ((t = 9 ∧ 0 ≤ a ∧ 0 ≤ i ∧ i < alen T σ a ∧ alen T σ a ≤ 2147483647 ∧ K n ls ((1, σ a i) :: st') σ))

theorem vLald_e (T : Int → Kd) (n : Nat) (Q) (K) (ls st : List AV) (i a : Int) (σ : Mem) : vLald T n Q K ls ((0, i) :: (9, a) :: st) σ = (0 ≤ a ∧ 0 ≤ i ∧ i < alen T σ a ∧ alen T σ a ≤ 2147483647 ∧ K n ls ((1, σ a i) :: st) σ) := by
  apply propext; constructor
  · rintro ⟨i', t', a', st', h, h1⟩; cases h; rcases h1 with ⟨-, h1⟩; exact h1
  · intro h1; exact ⟨i, _, a, st, rfl, ⟨rfl, h1⟩⟩

theorem ok_laload {X : amX} {own : String} {cc : ByteArray} {ret : Option FieldType} {L pc : Nat} (hB : amB X own cc ret L) (hd : decode cc pc = .ok (.laload, 1)) : amOK X pc (vLald (XT X) (pc + 1)) := by
  obtain ⟨p, l, e, s, m, args, below, meth, c0, D, ca, n0, T, ρ0, σ0, dd, mc, ms, nL, Q⟩ := X
  obtain ⟨hx, hb, hr, hml, hnL, hown, hts, hlocks, hK0, hA0, hst0⟩ := hB
  intro K ls st σ hK h ρ H locs LS kk n hW hS hl hokl hoks hk hn hag
  obtain ⟨i, t, a, st', rfl, h⟩ := h
  rcases h with ⟨rfl, ha, h0, h1, h2, h⟩
  · dsimp only [XT] at h1 h2 h
    obtain ⟨hlive, htg⟩ := okv_at (okl_c.mp (okl_c.mp hoks).2).1 (by decide) ha
    obtain ⟨V, hnd, hV, hV0, hP, hD, hcl⟩ := id hW
    obtain ⟨N, hTa⟩ := tg_arr htg (by decide)
    obtain ⟨q, hq, hq2⟩ := ws_at (ρ := ρ) (ca := ca) (T := T) (σ := σ) ((hV a).mpr hlive)
    rw [hTa] at hq2
    rw [alen_of hTa] at h1 h2
    obtain ⟨hin, hcl2⟩ := vp_in_am h0 h1 h2
    have key := hK _ _ _ _ h ρ H locs LS kk n hW hS hl hokl (okl_c.mpr ⟨okv_s (by decide), (okl_c.mp (okl_c.mp hoks).2).2⟩) hk hn hag
    rw [List.map_cons] at key
    rw [List.map_cons, List.map_cons]
    rw [am_val_p ρ (by decide) ha]
    refine va_lald hx hb hK0 hP q 1 hq2 rfl hin hd ?_
    rw [hcl2]
    rw [show (Int64.ofInt (σ a (i.toNat : Int))) = Int64.ofInt (σ a i) by rw [Int.toNat_of_nonneg h0]]
    exact key

def vBald (T : Int → Kd) (n : Nat) : VT := fun _ K ls st σ => ∃ i t a st', st = (0, i) :: (t, a) :: st' ∧ ((t = 10 ∧ 0 ≤ a ∧ 0 ≤ i ∧ i < alen T σ a ∧ alen T σ a ≤ 2147483647 ∧ K n ls ((0, σ a i) :: st') σ) ∨ (t = 3 ∧ 20100 ≤ a ∧ a < 20111 ∧ 0 ≤ i ∧ i < stl a ∧ K n ls ((0, stv a i) :: st') σ))

theorem vBald_e (T : Int → Kd) (n : Nat) (Q) (K) (ls st : List AV) (i a : Int) (σ : Mem) : vBald T n Q K ls ((0, i) :: (10, a) :: st) σ = (0 ≤ a ∧ 0 ≤ i ∧ i < alen T σ a ∧ alen T σ a ≤ 2147483647 ∧ K n ls ((0, σ a i) :: st) σ) := by
  apply propext; constructor
  · rintro ⟨i', t', a', st', h, h1⟩; cases h; rcases h1 with ⟨-, h1⟩ | ⟨h1, -⟩
    · exact h1
    · cases h1
  · intro h1; exact ⟨i, _, a, st, rfl, Or.inl ⟨rfl, h1⟩⟩

theorem vBald_s (T : Int → Kd) (n : Nat) (Q) (K) (ls st : List AV) (i a : Int) (σ : Mem) : vBald T n Q K ls ((0, i) :: (3, a) :: st) σ = (20100 ≤ a ∧ a < 20111 ∧ 0 ≤ i ∧ i < stl a ∧ K n ls ((0, stv a i) :: st) σ) := by
  apply propext; constructor
  · rintro ⟨i', t', a', st', h, h1⟩; cases h; rcases h1 with ⟨h1, -⟩ | ⟨-, h1⟩
    · cases h1
    · exact h1
  · intro h1; exact ⟨i, _, a, st, rfl, Or.inr ⟨rfl, h1⟩⟩

theorem ok_baload {X : amX} {own : String} {cc : ByteArray} {ret : Option FieldType} {L pc : Nat} (hB : amB X own cc ret L) (hd : decode cc pc = .ok (.baload, 1)) : amOK X pc (vBald (XT X) (pc + 1)) := by
  obtain ⟨p, l, e, s, m, args, below, meth, c0, D, ca, n0, T, ρ0, σ0, dd, mc, ms, nL, Q⟩ := X
  obtain ⟨hx, hb, hr, hml, hnL, hown, hts, hlocks, hK0, hA0, hst0⟩ := hB
  intro K ls st σ hK h ρ H locs LS kk n hW hS hl hokl hoks hk hn hag
  obtain ⟨i, t, a, st', rfl, h⟩ := h
  rcases h with ⟨rfl, ha, h0, h1, h2, h⟩ | ⟨rfl, ha, ha2, h0, h1, h⟩
  · dsimp only [XT] at h1 h2 h
    obtain ⟨hlive, htg⟩ := okv_at (okl_c.mp (okl_c.mp hoks).2).1 (by decide) ha
    obtain ⟨V, hnd, hV, hV0, hP, hD, hcl⟩ := id hW
    obtain ⟨N, hTa⟩ := tg_arr htg (by decide)
    obtain ⟨q, hq, hq2⟩ := ws_at (ρ := ρ) (ca := ca) (T := T) (σ := σ) ((hV a).mpr hlive)
    rw [hTa] at hq2
    rw [alen_of hTa] at h1 h2
    obtain ⟨hin, hcl2⟩ := vp_in_am h0 h1 h2
    have key := hK _ _ _ _ h ρ H locs LS kk n hW hS hl hokl (okl_c.mpr ⟨okv_s (by decide), (okl_c.mp (okl_c.mp hoks).2).2⟩) hk hn hag
    rw [List.map_cons] at key
    rw [List.map_cons, List.map_cons]
    rw [am_val_p ρ (by decide) ha]
    refine va_bald hx hb hK0 hP q 2 hq2 rfl hin hd ?_
    rw [hcl2]
    rw [show (Int32.ofInt (σ a (i.toNat : Int))) = Int32.ofInt (σ a i) by rw [Int.toNat_of_nonneg h0]]
    exact key
  · obtain ⟨k9, q9, hk9, hz9, hn9, hq9⟩ := st_at ha ha2
    have hT9 := (hst0.1 k9 q9 hk9).2.2.2.2
    have hlen : stl a = (q9.2.2.2.length : Int) := by unfold stl; rw [hq9]
    rw [hlen] at h1
    have hlen2 : (q9.2.2.2.length : Int) ≤ 2147483647 := by rw [← hlen]; exact stl_le ha ha2
    obtain ⟨hin, hcl2⟩ := vp_in_am h0 h1 hlen2
    have key := hK _ _ _ _ h ρ H locs LS kk n hW hS hl hokl (okl_c.mpr ⟨okv_s (by decide), (okl_c.mp (okl_c.mp hoks).2).2⟩) hk hn hag
    rw [List.map_cons] at key
    rw [List.map_cons, List.map_cons]
    rw [am_val_p ρ (t := 3) (z := a) (by decide) (by omega), hag.2 a (by omega), hz9]
    refine va_tb hx hb hT9 hS (by rw [Int.toNat_natCast] at hin; exact hin) (v := .int (Int32.ofInt (stv a i))) ?_ hd key
    rw [hcl2]
    show Value.int _ = Value.int _
    rw [show stv a i = q9.2.2.2.getD i.toNat 0 by unfold stv; rw [hq9]]

def vAald (T : Int → Kd) (n : Nat) : VT := fun _ K ls st σ => ∃ i t a st', st = (0, i) :: (t, a) :: st' ∧ ((t = 11 ∧ 0 ≤ a ∧ 0 ≤ i ∧ i < alen T σ a ∧ alen T σ a ≤ 2147483647 ∧ K n ls ((18, σ a i) :: st') σ))

theorem vAald_e (T : Int → Kd) (n : Nat) (Q) (K) (ls st : List AV) (i a : Int) (σ : Mem) : vAald T n Q K ls ((0, i) :: (11, a) :: st) σ = (0 ≤ a ∧ 0 ≤ i ∧ i < alen T σ a ∧ alen T σ a ≤ 2147483647 ∧ K n ls ((18, σ a i) :: st) σ) := by
  apply propext; constructor
  · rintro ⟨i', t', a', st', h, h1⟩; cases h; rcases h1 with ⟨-, h1⟩; exact h1
  · intro h1; exact ⟨i, _, a, st, rfl, ⟨rfl, h1⟩⟩

theorem ok_aaload {X : amX} {own : String} {cc : ByteArray} {ret : Option FieldType} {L pc : Nat} (hB : amB X own cc ret L) (hd : decode cc pc = .ok (.aaload, 1)) : amOK X pc (vAald (XT X) (pc + 1)) := by
  obtain ⟨p, l, e, s, m, args, below, meth, c0, D, ca, n0, T, ρ0, σ0, dd, mc, ms, nL, Q⟩ := X
  obtain ⟨hx, hb, hr, hml, hnL, hown, hts, hlocks, hK0, hA0, hst0⟩ := hB
  intro K ls st σ hK h ρ H locs LS kk n hW hS hl hokl hoks hk hn hag
  obtain ⟨i, t, a, st', rfl, h⟩ := h
  rcases h with ⟨rfl, ha, h0, h1, h2, h⟩
  · dsimp only [XT] at h1 h2 h
    obtain ⟨hlive, htg⟩ := okv_at (okl_c.mp (okl_c.mp hoks).2).1 (by decide) ha
    obtain ⟨V, hnd, hV, hV0, hP, hD, hcl⟩ := id hW
    obtain ⟨N, hTa⟩ := tg_arr htg (by decide)
    obtain ⟨q, hq, hq2⟩ := ws_at (ρ := ρ) (ca := ca) (T := T) (σ := σ) ((hV a).mpr hlive)
    rw [hTa] at hq2
    rw [alen_of hTa] at h1 h2
    obtain ⟨hin, hcl2⟩ := vp_in_am h0 h1 h2
    have key := hK _ _ _ _ h ρ H locs LS kk n hW hS hl hokl (okl_c.mpr ⟨(hcl11 hcl hTa ((hV a).mpr hlive) h0 h1), (okl_c.mp (okl_c.mp hoks).2).2⟩) hk hn hag
    rw [List.map_cons] at key
    rw [List.map_cons, List.map_cons]
    rw [am_val_p ρ (by decide) ha]
    refine va_aldq hx hb hK0 hP q 3 hq2 rfl hin hd ?_
    rw [hcl2]
    have e9 : va_rf (if σ a (i.toNat : Int) < 0 then none else some (ρ (σ a (i.toNat : Int)))) = am_val ρ (18, σ a i) := by
      rw [Int.toNat_of_nonneg h0, am_val_r ρ _ (by decide)]
      split <;> rfl
    rw [e9]
    exact key
