/-! Strings, array copies, calls of nest mates -/
def vBad : VT := fun _ _ _ _ _ => False
theorem vBad_e (Q) (K) (ls st : List AV) (σ : Mem) : vBad Q K ls st σ = False := rfl
theorem ok_bad {X : amX} {pc : Nat} : amOK X pc vBad := fun _ _ _ _ _ h => absurd h id
theorem st_at0 {z : Int} (h0 : 20000 ≤ z) (h1 : z < 20011) : ∃ (k : Nat) (q : String × Nat × String × List Int), amStr[k]? = some q ∧ z = 20000 + k := by
  obtain ⟨k, rfl⟩ : ∃ k : Nat, z = 20000 + k := ⟨(z - 20000).toNat, by omega⟩
  have hlt : k < amStr.length := by show k < 11; omega
  exact ⟨k, amStr[k], List.getElem?_eq_getElem hlt, rfl⟩
def vStrVal (n : Nat) : VT := fun _ K ls st σ => ∃ z st', st = (4, z) :: st' ∧ 20000 ≤ z ∧ z < 20011 ∧ K n ls ((3, z + 100) :: st') σ
theorem vStrVal_e (n : Nat) (Q) (K) (ls st : List AV) (z : Int) (σ : Mem) : vStrVal n Q K ls ((4, z) :: st) σ = (20000 ≤ z ∧ z < 20011 ∧ K n ls ((3, z + 100) :: st) σ) := by
  apply propext; constructor
  · rintro ⟨a', st', h, h1⟩; cases h; exact h1
  · intro h1; exact ⟨z, st, rfl, h1⟩
theorem ok_strVal {X : amX} {own : String} {cc : ByteArray} {ret : Option FieldType} {L pc : Nat} (hB : amB X own cc ret L) {index : Nat} (hl0 : Cond.fieldLink own index "java/lang/String" "value" "[B" ∈ TBL) (hd : decode cc pc = .ok (.getfield index, 3)) : amOK X pc (vStrVal (pc + 3)) := by
  obtain ⟨p, l, e, s, m, args, below, meth, c0, D, ca, n0, T, ρ0, σ0, dd, mc, ms, nL, Q⟩ := X
  obtain ⟨hx, hb, hr, hml, hnL, hown, hts, hlocks, hK0, hA0, hst0⟩ := hB
  intro K ls st σ hK h ρ H locs LS kk n hW hS hl hokl hoks hk hn hag
  obtain ⟨z, st', rfl, h0, h1, h⟩ := h
  obtain ⟨k9, q9, hk9, rfl⟩ := st_at0 h0 h1
  have key := hK _ _ _ _ h ρ H locs LS kk n hW hS hl hokl (okl_c.mpr ⟨okv_k (by decide) (by omega), (okl_c.mp hoks).2⟩) hk hn hag
  rw [List.map_cons, am_val_p ρ (t := 3) (by decide) (by omega), hag.2 _ (by omega), show (20000 + (k9 : Int) + 100) = 20100 + k9 by omega] at key
  rw [List.map_cons, am_val_p ρ (t := 4) (by decide) (by omega), hag.2 _ (by omega)]
  exact vk_getf hx hb (hst0.1 k9 q9 hk9).2.2.2.1 hS hown (hts _ hl0) (fun _ h9 => h9) hd key
def vStrCod (n : Nat) : VT := fun _ K ls st σ => ∃ z st', st = (4, z) :: st' ∧ 20000 ≤ z ∧ z < 20011 ∧ K n ls ((0, 0) :: st') σ
theorem vStrCod_e (n : Nat) (Q) (K) (ls st : List AV) (z : Int) (σ : Mem) : vStrCod n Q K ls ((4, z) :: st) σ = (20000 ≤ z ∧ z < 20011 ∧ K n ls ((0, 0) :: st) σ) := by
  apply propext; constructor
  · rintro ⟨a', st', h, h1⟩; cases h; exact h1
  · intro h1; exact ⟨z, st, rfl, h1⟩
theorem ok_strCod {X : amX} {own : String} {cc : ByteArray} {ret : Option FieldType} {L pc : Nat} (hB : amB X own cc ret L) {index : Nat} (hl0 : Cond.fieldLink own index "java/lang/String" "coder" "B" ∈ TBL) (hd : decode cc pc = .ok (.getfield index, 3)) : amOK X pc (vStrCod (pc + 3)) := by
  obtain ⟨p, l, e, s, m, args, below, meth, c0, D, ca, n0, T, ρ0, σ0, dd, mc, ms, nL, Q⟩ := X
  obtain ⟨hx, hb, hr, hml, hnL, hown, hts, hlocks, hK0, hA0, hst0⟩ := hB
  intro K ls st σ hK h ρ H locs LS kk n hW hS hl hokl hoks hk hn hag
  obtain ⟨z, st', rfl, h0, h1, h⟩ := h
  obtain ⟨k9, q9, hk9, rfl⟩ := st_at0 h0 h1
  have key := hK _ _ _ _ h ρ H locs LS kk n hW hS hl hokl (okl_c.mpr ⟨okv_s (by decide), (okl_c.mp hoks).2⟩) hk hn hag
  rw [List.map_cons, am_val_p ρ (t := 4) (by decide) (by omega), hag.2 _ (by omega)]
  exact vk_getf hx hb (hst0.1 k9 q9 hk9).2.2.1 hS hown (hts _ hl0) (fun _ h9 => h9) hd key
def vForm (n : Nat) : VT := fun _ K ls st σ => K n ls ((15, -1) :: st) σ ∧ K n ls ((2, 22000) :: st) σ
theorem vForm_e (n : Nat) (Q) (K) (ls st : List AV) (σ : Mem) : vForm n Q K ls st σ = (K n ls ((15, -1) :: st) σ ∧ K n ls ((2, 22000) :: st) σ) := rfl
theorem ok_form {X : amX} {own : String} {cc : ByteArray} {ret : Option FieldType} {L pc : Nat} (hB : amB X own cc ret L) {index : Nat} (hl0 : Cond.fieldLink own index "jdk/internal/util/Preconditions" "SIOOBE_FORMATTER" "Ljava/util/function/BiFunction;" ∈ TBL) (hd : decode cc pc = .ok (.getstatic index, 3)) : amOK X pc (vForm (pc + 3)) := by
  obtain ⟨p, l, e, s, m, args, below, meth, c0, D, ca, n0, T, ρ0, σ0, dd, mc, ms, nL, Q⟩ := X
  obtain ⟨hx, hb, hr, hml, hnL, hown, hts, hlocks, hK0, hA0, hst0⟩ := hB
  intro K ls st σ hK h ρ H locs LS kk n hW hS hl hokl hoks hk hn hag
  rcases hst0.2.2.2.1 with hz | hz
  · have key := hK _ _ _ _ h.1 ρ H locs LS kk n hW hS hl hokl (okl_c.mpr ⟨⟨fun _ => Or.inl (show (-1 : Int) < 0 by decide), fun _ h => absurd h (by decide)⟩, hoks⟩) hk hn hag
    exact va_gets hx hb hz hS hown (hts _ hl0) (fun _ h9 => h9) hd key
  · have key := hK _ _ _ _ h.2 ρ H locs LS kk n hW hS hl hokl (okl_c.mpr ⟨okv_k (by decide) (by omega), hoks⟩) hk hn hag
    rw [List.map_cons, am_val_p ρ (t := 2) (by decide) (by omega), hag.2 _ (by omega)] at key
    exact va_gets hx hb hz hS hown (hts _ hl0) (fun _ h9 => h9) hd key
def vCallT (P : WP) (k n : Nat) : VT := fun _ K ls st σ => ∃ z av st', st = av.reverse ++ (4, z) :: st' ∧ av.length = k ∧ 20000 ≤ z ∧ z < 20011 ∧ acok st' 8 = true ∧ P ((4, z) :: av) σ (fun r σ' => r.1 ≠ 6 ∧ r.1 ≠ 7 ∧ K n ls (r :: st') σ')
theorem vCallT_g (P : WP) (k n : Nat) (Q) (K) (ls st : List AV) (z : Int) (av : List AV) (σ : Mem) (hk : av.length = k) : vCallT P k n Q K ls (av.reverse ++ (4, z) :: st) σ = (20000 ≤ z ∧ z < 20011 ∧ acok st 8 = true ∧ P ((4, z) :: av) σ (fun r σ' => r.1 ≠ 6 ∧ r.1 ≠ 7 ∧ K n ls (r :: st) σ')) := by
  apply propext; constructor
  · rintro ⟨a', av', st', h, h1, h2⟩
    obtain ⟨h8, h9⟩ := rev_app h (hk.trans h1.symm)
    subst h8; cases h9; exact h2
  · intro h; exact ⟨z, av, st, rfl, hk, h⟩
theorem vCallT_e0 (P : WP) (n : Nat) (Q) (K) (ls st : List AV) (z : Int) (σ : Mem) : vCallT P 0 n Q K ls ((4, z) :: st) σ = (20000 ≤ z ∧ z < 20011 ∧ acok st 8 = true ∧ P [(4, z)] σ (fun r σ' => r.1 ≠ 6 ∧ r.1 ≠ 7 ∧ K n ls (r :: st) σ')) := vCallT_g P 0 n Q K ls st z [] σ rfl
theorem vCallT_e1 (P : WP) (n : Nat) (Q) (K) (ls st : List AV) (z : Int) (v0 : AV) (σ : Mem) : vCallT P 1 n Q K ls (v0 :: (4, z) :: st) σ = (20000 ≤ z ∧ z < 20011 ∧ acok st 8 = true ∧ P [(4, z), v0] σ (fun r σ' => r.1 ≠ 6 ∧ r.1 ≠ 7 ∧ K n ls (r :: st) σ')) := vCallT_g P 1 n Q K ls st z [v0] σ rfl
theorem vCallT_e2 (P : WP) (n : Nat) (Q) (K) (ls st : List AV) (z : Int) (v0 v1 : AV) (σ : Mem) : vCallT P 2 n Q K ls (v1 :: v0 :: (4, z) :: st) σ = (20000 ≤ z ∧ z < 20011 ∧ acok st 8 = true ∧ P [(4, z), v0, v1] σ (fun r σ' => r.1 ≠ 6 ∧ r.1 ≠ 7 ∧ K n ls (r :: st) σ')) := vCallT_g P 2 n Q K ls st z [v0, v1] σ rfl
theorem ok_callT {X : amX} {own : String} {cc : ByteArray} {ret : Option FieldType} {L pc : Nat} (hB : amB X own cc ret L) {y : MethodName} {cy : ByteArray} {maxL d' k index : Nat} {ry : Option FieldType} {P : WP} (hP : ∀ av σ Q, P av σ Q → amCall d' 0 0 (XT X) y cy maxL ry av σ Q) (hL : amLk own index y cy maxL ry k) (hdd : d' + 1 ≤ XD X) (hC : y.cls = "java/lang/String") (hin : Cond.instanceMethod y ∈ TBL) (hse : Cond.selects "java/lang/String" y y ∈ TBL) (hd : decode cc pc = .ok (.invokevirtual index, 3)) : amOK X pc (vCallT P k (pc + 3)) := by
  obtain ⟨p, l, e, s, m, args, below, meth, c0, D, ca, n0, T, ρ0, σ0, dd, mc, ms, nL, Q⟩ := X
  obtain ⟨hx, hb, hr, hml, hnL, hown, hts, hlocks, hK0, hA0, hst0⟩ := hB
  intro K ls st σ hK h ρ H locs LS kk n hW hS hl hokl hoks hk hn hag
  obtain ⟨z, av, st', rfl, hlen, ha, ha2, hac, h⟩ := h
  obtain ⟨h67, hcat⟩ := acok_67 _ _ hac
  have hoks1 : okl T σ av ∧ okv T σ (4, z) ∧ okl T σ st' := ⟨fun v hv => hoks v (List.mem_append_left _ (List.mem_reverse.mpr hv)), hoks _ (List.mem_append_right _ List.mem_cons_self), fun v hv => hoks v (List.mem_append_right _ (List.mem_cons_of_mem _ hv))⟩
  obtain ⟨hoks0, hoka, hoks2⟩ := hoks1
  obtain ⟨k9, q9, hk9, rfl⟩ := st_at0 ha ha2
  have hM := hP _ _ _ h l D ca n0 ρ
  have hva : am_val ρ (4, 20000 + (k9 : Int)) = .ref (ρ (20000 + k9)) := am_val_p ρ (by decide) (by omega)
  have hrecv : ∃ cell : Cell, H[ρ (20000 + (k9 : Int))]? = some cell ∧ cell.vm.isStatics = false ∧ s.vm.findClass "java/lang/String" = some cell.cls := by
    rw [hag.2 _ (by omega)]
    obtain ⟨cell, h1, h2, h3, -⟩ := ((hst0.1 k9 q9 hk9).2.1).kept hS.2.1
    exact ⟨cell, h1, h2, h3⟩
  have hrun := va_runV (g := F0 m pc LS ((av.reverse ++ (4, 20000 + (k9 : Int)) :: st').map (am_val ρ))) (cells := kk) (slots := n) (locs := locs) (below := below) (meth := meth) (e := e) (p := p) (As := av.map (am_val ρ)) (rest := st'.map (am_val ρ)) (b := ρ (20000 + (k9 : Int))) (C := "java/lang/String") ⟨hx, hb, hml, hown, hts⟩ hM ⟨hL.B (d := dd) (mc := mc) (ms := ms) hts hdd, hts _ hin, hts _ hse⟩
    ⟨amPc.blind, hrecv, fun U hU hWm => ⟨by rw [List.map_cons, hva], by rw [hU]; exact Nat.le_trans hA0 hS.1, by rw [hU]; exact hW, va_K.moved hWm.alike hK0, hst0.move hWm (fun b h1 h2 => by rw [hU]; exact hS.2.1 b h1 h2) hag.2, okl_c.mpr ⟨hoka, hoks0⟩⟩⟩ rfl (by simpa using hlen) hl.1 (by simp [List.map_append, List.map_reverse, hva]) (lv_room (hcat ρ)) hd ⟨by show kk + 0 ≤ mc; omega, by show n + 0 ≤ ms; omega⟩
  refine am_go hrun hS (fun r σ' ρ' H1 locs1 hq hW' hokr hag' hS' => ?_)
  · obtain ⟨hr6, hr7, hKn⟩ := hq
    have := hK _ _ _ _ hKn ρ' H1 locs1 LS kk n hW' hS' (by rw [ag_lvl hag' ls 0 hokl]; exact hl) (fun v hv => okv_ag hag' (hokl v hv)) (okl_c.mpr ⟨hokr, fun v hv => okv_ag hag' (hoks2 v hv)⟩) hk hn (ag_tr hag hag')
    rw [List.map_cons, ag_st hag' hoks2 h67] at this
    have e9 : amQr ρ' r = some (am_val ρ' r) := by unfold amQr; rw [if_neg hr6]
    rw [e9]
    exact this
