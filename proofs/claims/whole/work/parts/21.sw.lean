/-! switches -/
theorem sw_off {pc : Int} {d x : Int} : ∀ (qs : List (Int × Nat)), (∃ q ∈ qs, x = q.1 ∧ Op.lookupswitch.offset (qs.map (fun q => (q.1, (q.2 : Int) - pc))) d x = (q.2 : Int) - pc) ∨ ((∀ q ∈ qs, x ≠ q.1) ∧ Op.lookupswitch.offset (qs.map (fun q => (q.1, (q.2 : Int) - pc))) d x = d) := by
  intro qs
  induction qs with
  | nil => exact Or.inr ⟨(fun _ h => nomatch h), rfl⟩
  | cons q qs ih =>
    rw [List.map_cons, Op.lookupswitch.offset_cons]
    by_cases hq : q.1 = x
    · left; exact ⟨q, List.mem_cons_self, hq.symm, by rw [if_pos hq]⟩
    · rw [if_neg hq]
      rcases ih with ⟨q', h1, h2, h3⟩ | ⟨h1, h2⟩
      · exact Or.inl ⟨q', List.mem_cons_of_mem _ h1, h2, h3⟩
      · exact Or.inr ⟨List.forall_mem_cons.mpr ⟨fun e => hq e.symm, h1⟩, h2⟩
theorem ok_lookupswitch {X : amX} {own : String} {cc : ByteArray} {ret : Option FieldType} {L pc : Nat} (hB : amB X own cc ret L) {dflt : Int} {ps : Array (Int × Int)} {len dn : Nat} (qs : List (Int × Nat)) (hd : decode cc pc = .ok (.lookupswitch dflt ps, len)) (hp : (ps.toList.zip (ps.toList.drop 1)).all (fun (a, next) => a.1 < next.1) = true) (hq : ps.toList = qs.map (fun q => (q.1, (q.2 : Int) - (pc : Int)))) (hdn : (pc : Int) + dflt = dn) : amOK X pc (vSw qs dn) := by
  obtain ⟨p, l, e, s, m, args, below, meth, c0, D, ca, n0, T, ρ0, σ0, dd, mc, ms, nL, Q⟩ := X
  obtain ⟨hx, hb, hr, hml, hnL, hown, hts, hlocks, hK0, hA0, hst0⟩ := hB
  intro K ls st σ hK h ρ H locs LS kk n hW hS hl hokl hoks hk hn hag
  obtain ⟨x, st', rfl, hxr, h1, h2⟩ := h
  rw [List.map_cons]
  rcases sw_off (pc := (pc : Int)) (d := dflt) (x := x) qs with ⟨q, g1, g2, g3⟩ | ⟨g1, g2⟩
  · exact lv_lookup hx hb hd hp (off := (q.2 : Int) - pc) (tgt := q.2) (by rw [hxr.toInt, hq]; exact g3) (by omega) (hK _ _ _ _ (h1 q g1 g2) ρ H locs LS kk n hW hS hl hokl (okl_c.mp hoks).2 hk hn hag)
  · exact lv_lookup hx hb hd hp (off := dflt) (tgt := dn) (by rw [hxr.toInt, hq]; exact g2) hdn (hK _ _ _ _ (h2 g1) ρ H locs LS kk n hW hS hl hokl (okl_c.mp hoks).2 hk hn hag)
theorem ok_tableswitch {X : amX} {own : String} {cc : ByteArray} {ret : Option FieldType} {L pc : Nat} (hB : amB X own cc ret L) {dflt lo hi : Int} {offs : Array Int} {len dn : Nat} (qs : List (Int × Nat)) (hd : decode cc pc = .ok (.tableswitch dflt lo hi offs, len)) (hq : offs.toList = qs.map (fun q => (q.2 : Int) - (pc : Int))) (hk1 : ∀ i, i < qs.length → (qs.getD i (0, 0)).1 = lo + i) (hhi : hi = lo + qs.length - 1) (hdn : (pc : Int) + dflt = dn) : amOK X pc (vSw qs dn) := by
  obtain ⟨p, l, e, s, m, args, below, meth, c0, D, ca, n0, T, ρ0, σ0, dd, mc, ms, nL, Q⟩ := X
  obtain ⟨hx, hb, hr, hml, hnL, hown, hts, hlocks, hK0, hA0, hst0⟩ := hB
  intro K ls st σ hK h ρ H locs LS kk n hW hS hl hokl hoks hk hn hag
  obtain ⟨x, st', rfl, hxr, h1, h2⟩ := h
  rw [List.map_cons]
  by_cases hlo : x < lo ∨ hi < x
  · refine lv_tableOut hx hb hd (tgt := dn) (by rw [hxr.toInt]; exact hlo) hdn (hK _ _ _ _ (h2 ?_) ρ H locs LS kk n hW hS hl hokl (okl_c.mp hoks).2 hk hn hag)
    intro q hqm e9
    obtain ⟨i, hi9⟩ := List.getElem?_of_mem hqm
    have hlt := (List.getElem?_eq_some_iff.mp hi9).1
    have := hk1 i hlt
    rw [List.getD_eq_getElem?_getD, hi9, Option.getD_some, ← e9] at this
    omega
  · have hlt : (x - lo).toNat < qs.length := by omega
    have e1 := hk1 _ hlt
    have e2 : qs[(x - lo).toNat]? = some qs[(x - lo).toNat] := List.getElem?_eq_getElem hlt
    rw [List.getD_eq_getElem?_getD, e2, Option.getD_some] at e1
    refine lv_tableIn hx hb hd (off := (qs[(x - lo).toNat].2 : Int) - pc) (tgt := qs[(x - lo).toNat].2) (by rw [hxr.toInt]; omega) (by rw [hxr.toInt]; omega) ?_ (by omega) (hK _ _ _ _ (h1 _ (List.getElem_mem hlt) (by rw [e1]; omega)) ρ H locs LS kk n hW hS hl hokl (okl_c.mp hoks).2 hk hn hag)
    rw [hxr.toInt, ← Array.getElem?_toList, hq, List.getElem?_map, e2]; rfl
