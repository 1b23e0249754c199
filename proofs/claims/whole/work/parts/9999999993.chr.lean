/-! rows over any end Z; chair, that may throw; the law's own chair, that catches -/
def amJZ (Z : State → Prop) (X : amX) (pc : Nat) (ls st : List AV) (σ : Mem) : Prop := match X with
  | (p, l, e, s, m, args, below, meth, c, D, ca, n0, T, ρ0, σ0, d, mc, ms, nL, _) =>
    ∀ (ρ : Int → Nat) (H : Heap) (locs : List Loc) (LS : Array Slot) (k n : Nat), amW D ca T n0 ρ σ H → va_S (fun q => n0 ≤ q) s.heap H locs → lv_has LS nL (lvl ρ 0 ls) → okl T σ ls → okl T σ st →
      ((k : Int) ≤ (lg ls nL).2 ∧ (lg ls nL).2 ≤ mc) → ((n : Int) ≤ (lg ls (nL + 1)).2 ∧ (lg ls (nL + 1)).2 ≤ ms) → amAg ρ0 ρ σ0 σ →
      W p l e (amR d mc ms) s m args below meth c H locs k n Z (F0 m pc LS (st.map (am_val ρ)))
def amOKZ (Z : State → Prop) (X : amX) (pc : Nat) (v : VT) : Prop := ∀ (K : Nat → List AV → List AV → Mem → Prop) (ls st : List AV) (σ : Mem), (∀ pc' ls' st' σ', K pc' ls' st' σ' → amJZ Z X pc' ls' st' σ') → v (amXQ X) K ls st σ → amJZ Z X pc ls st σ
theorem fcZ {Z : State → Prop} {X : amX} {pc : Nat} {v : VT} {l : AC} (h : amOKZ Z X pc v) (hl : ∀ q ∈ l, amOKZ Z X q.1 q.2) : ∀ q ∈ ((pc, v) :: l), amOKZ Z X q.1 q.2 := List.forall_mem_cons.mpr ⟨h, hl⟩
theorem fnZ {Z : State → Prop} {X : amX} : ∀ q ∈ ([] : AC), amOKZ Z X q.1 q.2 := fun _ h => nomatch h
theorem look_okZ {Z : State → Prop} {X : amX} {L : AC} (h : ∀ q ∈ L, amOKZ Z X q.1 q.2) (pc : Nat) : amOKZ Z X pc (look L pc) := by
  unfold look
  cases hf : L.find? (fun q => q.1 == pc) with
  | none => intro K ls st σ _ h; exact absurd h id
  | some q =>
    have h1 := List.find?_some hf
    have h2 := List.mem_of_find?_eq_some hf
    have : q.1 = pc := by simpa using h1
    exact this ▸ h q h2
theorem vcs_soundZ {Z : State → Prop} {X : amX} {A : Nat → VT} {cuts : List Nat} {I : Nat → List AV → List AV → Mem → Prop} (hA : ∀ pc, amOKZ Z X pc (A pc)) (hI : ∀ pc ls st σ, I pc ls st σ → amJZ Z X pc ls st σ) :
    ∀ (f pc : Nat) (ls st : List AV) (σ : Mem), vcs A cuts I (amXQ X) f pc ls st σ → amJZ Z X pc ls st σ := by
  intro f
  induction f with
  | zero => intro pc ls st σ h; exact absurd h id
  | succ f ih =>
    intro pc ls st σ h
    rw [vcs_e] at h
    split at h
    · exact hI _ _ _ _ h
    · exact hA pc _ _ _ _ ih h
theorem oz_aload_n {Z : State → Prop} {X : amX} {own : String} {cc : ByteArray} {ret : Option FieldType} {L pc : Nat} (hB : amB X own cc ret L) {k0 : Fin 4} (hd : decode cc pc = .ok (.aload_n k0, 1)) : amOKZ Z X pc (vAload k0 (pc + 1)) := by
  obtain ⟨p, l, e, s, m, args, below, meth, c, D, ca, n0, T, ρ0, σ0, dd, mc, ms, nL, Q⟩ := X
  obtain ⟨hx, hb, hr, hml, hnL, hown, hts, hlocks, hK0, hA0, hst0⟩ := hB
  intro K ls st σ hK h ρ H locs LS k n hW hS hl hokl hoks hk hn hag
  obtain ⟨h0, h⟩ := h
  obtain ⟨h2, h6, h7⟩ := isRf_2 h0
  have hz := lv_read hl h6 h7
  have := hK _ _ _ _ h ρ H locs LS k n hW hS hl hokl (okl_c.mpr ⟨lg_ok hokl, hoks⟩) hk hn hag
  rw [List.map_cons, am_val_r ρ _ h2] at this
  rw [am_val_r ρ _ h2] at hz
  by_cases hneg : (lg ls k0).2 < 0
  · rw [if_pos hneg] at hz this
    exact lv_aload_nN hx hb hd rfl hz this
  · rw [if_neg hneg] at hz this
    exact lv_aload_n hx hb hd rfl hz this
theorem oz_iload_n {Z : State → Prop} {X : amX} {own : String} {cc : ByteArray} {ret : Option FieldType} {L pc : Nat} (hB : amB X own cc ret L) {k0 : Fin 4} (hd : decode cc pc = .ok (.iload_n k0, 1)) : amOKZ Z X pc (vIload k0 (pc + 1)) := by
  obtain ⟨p, l, e, s, m, args, below, meth, c, D, ca, n0, T, ρ0, σ0, dd, mc, ms, nL, Q⟩ := X
  obtain ⟨hx, hb, hr, hml, hnL, hown, hts, hlocks, hK0, hA0, hst0⟩ := hB
  intro K ls st σ hK h ρ H locs LS k n hW hS hl hokl hoks hk hn hag
  obtain ⟨h0, h⟩ := h
  have hz : LS[(k0 : Nat)]? = some (.val (.int (Int32.ofInt (lg ls k0).2))) := by
    rw [lv_read hl (by rw [h0]; decide) (by rw [h0]; decide)]
    rw [show lg ls k0 = (0, (lg ls k0).2) from Prod.ext h0 rfl]; rfl
  refine lv_iload_n hx hb hd rfl hz ?_
  have := hK _ _ _ _ h ρ H locs LS k n hW hS hl hokl (okl_c.mpr ⟨lg_ok hokl, hoks⟩) hk hn hag
  rw [List.map_cons, show lg ls k0 = (0, (lg ls k0).2) from Prod.ext h0 rfl] at this
  exact this
theorem oz_iconst {Z : State → Prop} {X : amX} {own : String} {cc : ByteArray} {ret : Option FieldType} {L pc : Nat} (hB : amB X own cc ret L) {z : Int} (hd : decode cc pc = .ok (.iconst z, 1)) : amOKZ Z X pc (vI z (pc + 1)) := by
  obtain ⟨p, l, e, s, m, args, below, meth, c, D, ca, n0, T, ρ0, σ0, dd, mc, ms, nL, Q⟩ := X
  obtain ⟨hx, hb, hr, hml, hnL, hown, hts, hlocks, hK0, hA0, hst0⟩ := hB
  intro K ls st σ hK h ρ H locs LS k n hW hS hl hokl hoks hk hn hag
  refine lv_iconst hx hb hd rfl ?_
  exact hK _ _ _ _ h ρ H locs LS k n hW hS hl hokl (okl_c.mpr ⟨okv_s (by decide), hoks⟩) hk hn hag
theorem oz_if_eq {Z : State → Prop} {X : amX} {own : String} {cc : ByteArray} {ret : Option FieldType} {L pc : Nat} (hB : amB X own cc ret L) {off : Int} {t : Nat} (ht : (pc : Int) + off = (t : Int)) (hd : decode cc pc = .ok (.ifCond .eq off, 3)) : amOKZ Z X pc (vIfEq t (pc + 3)) := by
  obtain ⟨p, l, e, s, m, args, below, meth, c, D, ca, n0, T, ρ0, σ0, dd, mc, ms, nL, Q⟩ := X
  obtain ⟨hx, hb, hr, hml, hnL, hown, hts, hlocks, hK0, hA0, hst0⟩ := hB
  intro K ls st σ hK h ρ H locs LS k n hW hS hl hokl hoks hk hn hag
  obtain ⟨a, st', rfl, ha, h1, h2⟩ := h
  have q := ir_eq ha ir_0
  skip
  exact lv_if_eq hx hb hd ht (fun c0 => hK _ _ _ _ (h1 (q.mp c0)) ρ H locs LS k n hW hS hl hokl (okl_c.mp hoks).2 hk hn hag) (fun c0 => hK _ _ _ _ (h2 (fun z => c0 (q.mpr z))) ρ H locs LS k n hW hS hl hokl (okl_c.mp hoks).2 hk hn hag)
theorem oz_if_lt {Z : State → Prop} {X : amX} {own : String} {cc : ByteArray} {ret : Option FieldType} {L pc : Nat} (hB : amB X own cc ret L) {off : Int} {t : Nat} (ht : (pc : Int) + off = (t : Int)) (hd : decode cc pc = .ok (.ifCond .lt off, 3)) : amOKZ Z X pc (vIfLt t (pc + 3)) := by
  obtain ⟨p, l, e, s, m, args, below, meth, c, D, ca, n0, T, ρ0, σ0, dd, mc, ms, nL, Q⟩ := X
  obtain ⟨hx, hb, hr, hml, hnL, hown, hts, hlocks, hK0, hA0, hst0⟩ := hB
  intro K ls st σ hK h ρ H locs LS k n hW hS hl hokl hoks hk hn hag
  obtain ⟨a, st', rfl, ha, h1, h2⟩ := h
  have q := ir_lt ha ir_0
  skip
  exact lv_if_lt hx hb hd ht (fun c0 => hK _ _ _ _ (h1 (q.mp c0)) ρ H locs LS k n hW hS hl hokl (okl_c.mp hoks).2 hk hn hag) (fun c0 => hK _ _ _ _ (h2 (fun z => c0 (q.mpr z))) ρ H locs LS k n hW hS hl hokl (okl_c.mp hoks).2 hk hn hag)
theorem oz_icmp_le {Z : State → Prop} {X : amX} {own : String} {cc : ByteArray} {ret : Option FieldType} {L pc : Nat} (hB : amB X own cc ret L) {off : Int} {t : Nat} (ht : (pc : Int) + off = (t : Int)) (hd : decode cc pc = .ok (.if_icmp .le off, 3)) : amOKZ Z X pc (vIcLe t (pc + 3)) := by
  obtain ⟨p, l, e, s, m, args, below, meth, c, D, ca, n0, T, ρ0, σ0, dd, mc, ms, nL, Q⟩ := X
  obtain ⟨hx, hb, hr, hml, hnL, hown, hts, hlocks, hK0, hA0, hst0⟩ := hB
  intro K ls st σ hK h ρ H locs LS k n hW hS hl hokl hoks hk hn hag
  obtain ⟨a, b, st', rfl, ha, hb', h1, h2⟩ := h
  have q := ir_le ha hb'
  skip
  exact lv_icmp_le hx hb hd ht (fun c0 => hK _ _ _ _ (h1 (q.mp c0)) ρ H locs LS k n hW hS hl hokl (okl_c.mp (okl_c.mp hoks).2).2 hk hn hag) (fun c0 => hK _ _ _ _ (h2 (fun z => c0 (q.mpr z))) ρ H locs LS k n hW hS hl hokl (okl_c.mp (okl_c.mp hoks).2).2 hk hn hag)
theorem oz_istore {Z : State → Prop} {X : amX} {own : String} {cc : ByteArray} {ret : Option FieldType} {L pc : Nat} (hB : amB X own cc ret L) {k0 : Nat} (hi : k0 < L) (hd : decode cc pc = .ok (.istore k0, 2)) : amOKZ Z X pc (vIstore k0 (pc + 2)) := by
  obtain ⟨p, l, e, s, m, args, below, meth, c, D, ca, n0, T, ρ0, σ0, dd, mc, ms, nL, Q⟩ := X
  obtain ⟨hx, hb, hr, hml, hnL, hown, hts, hlocks, hK0, hA0, hst0⟩ := hB
  intro K ls st σ hK h ρ H locs LS k n hW hS hl hokl hoks hk hn hag
  subst hnL
  obtain ⟨x, st', rfl, hko, h⟩ := h
  refine lv_istore (x := Int32.ofInt x) (rest := st'.map (am_val ρ)) hx hb hd hl hi rfl (fun LS' hl' => ?_)
  exact hK _ _ _ _ h ρ H locs LS' k n hW hS (lv_mono hl' (lv_st1 hko)) (okl_set hokl (okv_s (by decide))) (okl_c.mp hoks).2 (by rw [lg_set hi]; exact hk) (by rw [lg_set (by omega)]; exact hn) hag
theorem oz_astore_n {Z : State → Prop} {X : amX} {own : String} {cc : ByteArray} {ret : Option FieldType} {L pc : Nat} (hB : amB X own cc ret L) {k0 : Fin 4} (hi : k0 < L) (hd : decode cc pc = .ok (.astore_n k0, 1)) : amOKZ Z X pc (vAstore k0 (pc + 1)) := by
  obtain ⟨p, l, e, s, m, args, below, meth, c, D, ca, n0, T, ρ0, σ0, dd, mc, ms, nL, Q⟩ := X
  obtain ⟨hx, hb, hr, hml, hnL, hown, hts, hlocks, hK0, hA0, hst0⟩ := hB
  intro K ls st σ hK h ρ H locs LS k n hW hS hl hokl hoks hk hn hag
  subst hnL
  obtain ⟨⟨t, z⟩, st', rfl, hrf, hko, h⟩ := h
  obtain ⟨h2, -, -⟩ := isRf_2 hrf
  have go : ∀ LS' : Array Slot, lv_has LS' nL (((k0 : Nat), am_val ρ (t, z)) :: (lvl ρ 0 ls).filter (fun q => !(q.1 == (k0 : Nat)) && !(q.1 + 1 == (k0 : Nat) && q.2.category == 2))) → W p l e (amR dd mc ms) s m args below meth c H locs k n Z (F0 m (pc + 1) LS' (st'.map (am_val ρ))) := fun LS' hl' =>
    hK _ _ _ _ h ρ H locs LS' k n hW hS (lv_mono hl' (lv_st1 hko)) (okl_set hokl (okl_c.mp hoks).1) (okl_c.mp hoks).2 (by rw [lg_set hi]; exact hk) (by rw [lg_set (by omega)]; exact hn) hag
  rw [List.map_cons]
  rw [am_val_r ρ z h2] at go ⊢
  by_cases hneg : z < 0
  · rw [if_pos hneg] at go ⊢
    exact lv_astore_nN hx hb hd rfl hl hi rfl go
  · rw [if_neg hneg] at go ⊢
    exact lv_astore_n hx hb hd rfl hl hi rfl go
theorem oz_dup {Z : State → Prop} {X : amX} {own : String} {cc : ByteArray} {ret : Option FieldType} {L pc : Nat} (hB : amB X own cc ret L) (hd : decode cc pc = .ok (.dup, 1)) : amOKZ Z X pc (vDup (pc + 1)) := by
  obtain ⟨p, l, e, s, m, args, below, meth, c, D, ca, n0, T, ρ0, σ0, dd, mc, ms, nL, Q⟩ := X
  obtain ⟨hx, hb, hr, hml, hnL, hown, hts, hlocks, hK0, hA0, hst0⟩ := hB
  intro K ls st σ hK h ρ H locs LS k n hW hS hl hokl hoks hk hn hag
  obtain ⟨v, st', rfl, h1, h⟩ := h
  refine lv_dup hx hb hd (am_cat ρ h1) ?_
  exact hK _ _ _ _ h ρ H locs LS k n hW hS hl hokl (okl_c.mpr ⟨(okl_c.mp hoks).1, hoks⟩) hk hn hag
theorem oz_getR {Z : State → Prop} {X : amX} {own : String} {cc : ByteArray} {ret : Option FieldType} {L pc : Nat} {C : String} {Tt : u_T} {N c k index t : Nat} (hB : amB X own cc ret L) (hT : amTok (X.2.2.2.2.2.2.2.2.2.2.2.2.1)) (hF : amFl own c k index C Tt N) (ht : t = 16 + c) (hf : amF c k = 2) {tr : Nat} (htr : amTag c k = tr) (h2 : 2 ≤ tr) (hd : decode cc pc = .ok (.getfield index, 3)) : amOKZ Z X pc (vGetR (X.2.2.2.2.2.2.2.2.2.2.2.2.1) t k tr (pc + 3)) := by
  obtain ⟨p, l, e, s, m, args, below, meth, c0, D, ca, n0, T, ρ0, σ0, dd, mc, ms, nL, Q⟩ := X
  obtain ⟨hx, hb, hr, hml, hnL, hown, hts, hlocks, hK0, hA0, hst0⟩ := hB
  intro K ls st σ hK h ρ H locs LS kk n hW hS hl hokl hoks hk hn hag
  obtain ⟨a, st', rfl, ha, h⟩ := h
  subst ht
  obtain ⟨hlive, htg⟩ := okv_at (okl_c.mp hoks).1 (by omega) ha
  obtain ⟨V, hnd, hV, hV0, hP, hD, hcl⟩ := id hW
  obtain ⟨cr, hTa⟩ := tg_obj htg (fun x hx => hT a x hx)
  obtain ⟨q, hq, hq2⟩ := ws_at (ρ := ρ) (ca := ca) (T := T) (σ := σ) ((hV a).mpr hlive)
  rw [hTa] at hq2
  have hc := hcl a ((hV a).mpr hlive)
  unfold am_closed at hc
  rw [hTa] at hc
  have hc := hc k (by rw [hF.N]; exact hF.2.2.1) hf
  have hrf : rfv T σ a k = (cr k).getD (σ a k) := by unfold rfv; rw [hTa]
  dsimp only at h
  rw [hrf] at h
  have key := hK _ _ _ _ h ρ H locs LS kk n hW hS hl hokl (okl_c.mpr ⟨htr ▸ hc, (okl_c.mp hoks).2⟩) hk hn hag
  rw [List.map_cons] at key ⊢
  rw [am_val_p ρ (by omega) ha]
  refine va_get (D := D) (ci := c) (C := C) (T := Tt) (N := N) hx hb hts hF.2.1 hown hK0 hP q hq2 hF.1 k hF.2.2.1 (hts _ hF.2.2.2) (fun _ h9 => h9) (am_fs hF.N hF.2.2.1) hd ?_
  rw [show am_fv ρ σ a c cr k = am_val ρ (tr, (cr k).getD (σ a k)) by unfold am_fv; rw [hf, am_val_r ρ _ h2]; exact am_val_r ρ _ (by decide)]
  exact key
theorem oz_callM {Z : State → Prop} {X : amX} {own : String} {cc : ByteArray} {ret : Option FieldType} {L pc : Nat} (hB : amB X own cc ret L) (hT : amTok (XT X)) {y : MethodName} {cy : ByteArray} {maxL d' k index : Nat} {ry : Option FieldType} {P : WP} (hP : ∀ av σ Q, P av σ Q → amCall d' 0 0 (XT X) y cy maxL ry av σ Q) (hL : amLk own index y cy maxL ry k) (hdd : d' + 1 ≤ XD X) {c t : Nat} {C : String} {Tt : u_T} {N : Nat} (hc : vwCl[c]? = some (C, Tt, N)) (ht : t = 16 + c) (hC : y.cls = C) (hin : Cond.instanceMethod y ∈ TBL) (hse : Cond.selects C y y ∈ TBL) (hd : decode cc pc = .ok (.invokevirtual index, 3)) : amOKZ Z X pc (vCallM P t k (pc + 3)) := by
  obtain ⟨p, l, e, s, m, args, below, meth, c0, D, ca, n0, T, ρ0, σ0, dd, mc, ms, nL, Q⟩ := X
  obtain ⟨hx, hb, hr, hml, hnL, hown, hts, hlocks, hK0, hA0, hst0⟩ := hB
  intro K ls st σ hK h ρ H locs LS kk n hW hS hl hokl hoks hk hn hag
  obtain ⟨a, av, st', rfl, hlen, ha, hac, h⟩ := h
  subst ht
  obtain ⟨h67, hcat⟩ := acok_67 _ _ hac
  have hoks1 : okl T σ av ∧ okv T σ (16 + c, a) ∧ okl T σ st' := ⟨fun v hv => hoks v (List.mem_append_left _ (List.mem_reverse.mpr hv)), hoks _ (List.mem_append_right _ List.mem_cons_self), fun v hv => hoks v (List.mem_append_right _ (List.mem_cons_of_mem _ hv))⟩
  obtain ⟨hoks0, hoka, hoks2⟩ := hoks1
  obtain ⟨hlive, htg⟩ := okv_at hoka (by omega) ha
  obtain ⟨V, hnd, hV, hV0, hPh, hD, hcl⟩ := id hW
  obtain ⟨cr, hTa⟩ := tg_obj htg (fun x hx => hT a x hx)
  obtain ⟨q, hq, hq2⟩ := ws_at (ρ := ρ) (ca := ca) (T := T) (σ := σ) ((hV a).mpr hlive)
  rw [hTa] at hq2
  have hM := hP _ _ _ h l D ca n0 ρ
  have hva : am_val ρ (16 + c, a) = .ref (ρ a) := am_val_p ρ (by omega) ha
  have hrun := va_runV (g := F0 m pc LS ((av.reverse ++ (16 + c, a) :: st').map (am_val ρ))) (cells := kk) (slots := n) (locs := locs) (below := below) (meth := meth) (e := e) (p := p) (As := av.map (am_val ρ)) (rest := st'.map (am_val ρ)) (b := ρ a) ⟨hx, hb, hml, hown, hts⟩ hM ⟨hL.B (d := dd) (mc := mc) (ms := ms) hts hdd, hts _ hin, hts _ hse⟩
    ⟨amPc.blind, va_recv hK0 hPh hc hq2, fun U hU hWm => ⟨by rw [List.map_cons, hva], by rw [hU]; exact Nat.le_trans hA0 hS.1, by rw [hU]; exact hW, va_K.moved hWm.alike hK0, hst0.move hWm (fun b h1 h2 => by rw [hU]; exact hS.2.1 b h1 h2) hag.2, okl_c.mpr ⟨hoka, hoks0⟩⟩⟩ rfl (by simpa using hlen) hl.1 (by simp [List.map_append, List.map_reverse, hva]) (lv_room (hcat ρ)) hd ⟨by show kk + 0 ≤ mc; omega, by show n + 0 ≤ ms; omega⟩
  refine am_go hrun hS (fun r σ' ρ' H1 locs1 hq hW' hokr hag' hS' => ?_)
  · obtain ⟨hr6, hr7, hKn⟩ := hq
    have := hK _ _ _ _ hKn ρ' H1 locs1 LS kk n hW' hS' (by rw [ag_lvl hag' ls 0 hokl]; exact hl) (fun v hv => okv_ag hag' (hokl v hv)) (okl_c.mpr ⟨hokr, fun v hv => okv_ag hag' (hoks2 v hv)⟩) hk hn (ag_tr hag hag')
    rw [List.map_cons, ag_st hag' hoks2 h67] at this
    have e9 : amQr ρ' r = some (am_val ρ' r) := by unfold amQr; rw [if_neg hr6]
    rw [e9]
    exact this
theorem oz_new {Z : State → Prop} {X : amX} {own : String} {cc : ByteArray} {ret : Option FieldType} {L pc : Nat} (hB : amB X own cc ret L) {T : Int → Kd} {MC MS : Nat} (e1 : XT X = T) (e3 : XC X = MC) (e4 : XS X = MS) {c N index : Nat} {C : String} {Tt : u_T} {ty : Nat → FieldType} (hc : vwCl[c]? = some (C, Tt, N)) (hin : ∀ w ∈ u_ws C Tt N, w ∈ TBL) (hty : ∀ k, k < N → parseFieldDescriptor (Tt k).2.2.1 = some (ty k)) (hdf : ∀ k, k < N → defaultValue (ty k) = dfl (amF c k))
    (hcl : Cond.classLink own index C ∈ TBL) (hinst : Cond.instantiable C N ∈ TBL) (hini : Cond.initialized C ∈ TBL) (g : List AV → Mem → Int) (hd : decode cc pc = .ok (.new index, 3)) : amOKZ Z X pc (vNew T c N g MC MS L (pc + 3)) := by
  obtain ⟨p, l, e, s, m, args, below, meth, c0, D, ca, n0, T', ρ0, σ0, dd, mc, ms, nL, Q⟩ := X
  obtain ⟨hx, hb, hr, hml, hnL, hown, hts, hlocks, hK0, hA0, hst0⟩ := hB
  intro K ls st σ hK h ρ H locs LS kk n hW hS hl hokl hoks hk hn hag
  dsimp only [XT, XC, XS] at e1 e3 e4
  subst e1 e3 e4 hnL
  obtain ⟨hlen, hac, ⟨ha, ha2, hna⟩, ⟨cr, hTa, hno⟩, hc1, hc2, h⟩ := h
  obtain ⟨h67, -⟩ := acok_67 _ _ hac
  generalize g ls σ = a at *
  obtain ⟨V, hnd, hV, hV0, hP, hD, hcls⟩ := id hW
  have hN : amN c = N := by unfold amN; rw [hc]
  have hfs : ∀ (q : Nat) (j : Nat), j < N → defaultValue (ty j) = vp_V ((List.range (amN c)).map (am_fv (upr ρ a q) (newm σ a (dfv c)) a c cr)) j := by
    intro q j hj
    unfold vp_V
    rw [List.getD_eq_getElem?_getD, am_fs hN hj, Option.getD_some, hdf j hj]
    unfold am_fv dfl
    rw [newm_s, hno j]
    unfold dfv
    rw [Int.toNat_natCast]
    generalize amF c j = m9
    match m9 with
    | 0 => rfl
    | 1 => rfl
    | 2 => rfl
    | m9 + 3 => rfl
  refine va_new (D := D) (ci := c) (C := C) (T := Tt) (N := N) hx hb hts hin ty hty hown (hts _ hcl) (hts _ hinst) (hts _ hini) hK0 hP hD hS (fun q hq => Nat.le_trans hA0 hq) hc (fs := (List.range (amN c)).map (am_fv ρ (newm σ a (dfv c)) a c cr)) ?_ (by show kk + 1 ≤ mc; omega) (by show n + N ≤ ms; omega) hd (fun q H1 hP1 hD1 hS1 => ?_)
  · intro j hj
    have e9 : am_fv ρ (newm σ a (dfv c)) a c cr j = am_fv (upr ρ a 0) (newm σ a (dfv c)) a c cr j := by
      by_cases h2 : amF c j = 2
      · unfold am_fv; rw [h2, newm_s, hno j]
        unfold dfv
        rw [Int.toNat_natCast, h2]; rfl
      · exact fv_n2 h2
    have := hfs 0 j hj
    unfold vp_V at this ⊢
    rw [List.getD_eq_getElem?_getD, am_fs hN hj] at this ⊢
    rw [this, e9]
  · have he : (Sum.inr (c, (List.range (amN c)).map (am_fv ρ (newm σ a (dfv c)) a c cr)) : va_E) = am_cell (upr ρ a q) ca (newm σ a (dfv c)) a (T' a) := by
      rw [hTa]
      show Sum.inr (c, _) = Sum.inr (c, (List.range (amN c)).map (am_fv (upr ρ a q) (newm σ a (dfv c)) a c cr))
      congr 2
      apply List.map_congr_left
      intro j hj
      by_cases h2 : amF c j = 2
      · unfold am_fv; rw [h2, newm_s, hno j]
        unfold dfv
        rw [Int.toNat_natCast, h2]; rfl
      · exact fv_n2 h2
    have hcn : am_closed T' (newm σ a (dfv c)) a := by
      unfold am_closed
      rw [hTa]
      intro k hk2 hf
      have hf : amF c k = 2 := hf
      show okv T' (newm σ a (dfv c)) (amTag c k, (cr k).getD (newm σ a (dfv c) a k))
      rw [hno k, newm_s]
      unfold dfv
      rw [Int.toNat_natCast, if_pos hf]
      exact ⟨fun _ => Or.inl (show (-1 : Int) < 0 by decide), fun _ _ => Or.inl (show (-1 : Int) < 0 by decide)⟩
    have hW1 := amW_new ha ha2 hna hnd hV hV0 hcls he hP1 hD1 hcn
    have hokv : okv T' (newm σ a (dfv c)) (16 + c, a) := ⟨fun _ => Or.inr ⟨newm_l σ ha, by rw [hTa]; rfl⟩, fun _ h6 => absurd h6 (by show ¬ 16 + c < 6; omega)⟩
    have key := hK _ _ _ _ h (upr ρ a q) H1 locs LS (kk + 1) (n + N) hW1 hS1 (lv_cnt (by rw [lvl_new ha ha2 hna hokl]; exact hl)) (okl_cnt (okl_new ha hokl)) (okl_c.mpr ⟨hokv, okl_new ha hoks⟩) (by rw [cnt_0 hlen]; omega) (by rw [cnt_1 hlen]; omega) (ag_new ha ha2 hna hag)
    rw [List.map_cons, st_new ha ha2 hna hoks h67, am_val_p _ (by omega) ha, upr_s] at key
    exact key
theorem oz_newA9 {Z : State → Prop} {X : amX} {own : String} {cc : ByteArray} {ret : Option FieldType} {L pc : Nat} (hB : amB X own cc ret L) {T : Int → Kd} {MC MS : Nat} (e1 : XT X = T) (e3 : XC X = MC) (e4 : XS X = MS) (harr : Cond.arrayClass .long ∈ TBL) (g : List AV → Mem → Int) (hd : decode cc pc = .ok (.newarray .long, 2)) : amOKZ Z X pc (vNewA T 9 dfa g MC MS L (pc + 2)) := by
  obtain ⟨p, l, e, s, m, args, below, meth, c0, D, ca, n0, T', ρ0, σ0, dd, mc, ms, nL, Q⟩ := X
  obtain ⟨hx, hb, hr, hml, hnL, hown, hts, hlocks, hK0, hA0, hst0⟩ := hB
  intro K ls st σ hK h ρ H locs LS kk n hW hS hl hokl hoks hk hn hag
  dsimp only [XT, XC, XS] at e1 e3 e4
  subst e1 e3 e4 hnL
  obtain ⟨z, st', rfl, hlen, hac, ⟨ha, ha2, hna⟩, ⟨N, hTa, hN⟩, ⟨z0, z1⟩, hc1, hc2, h⟩ := h
  obtain ⟨h67, -⟩ := acok_67 _ _ hac
  generalize g ls σ = a at *
  obtain ⟨V, hnd, hV, hV0, hP, hD, hcls⟩ := id hW
  obtain ⟨cz1, cz2⟩ := i32_cl z0 (by omega)
  rw [List.map_cons]
  have hcon : ∀ ρ' : Int → Nat, am_con ρ' (newm σ a (dfa z)) a 9 = am_con ρ (newm σ a (dfa z)) a 9 := fun ρ' => con_new (by decide) rfl
  refine va_newa (D := D) hx hb (atype := .long) (hts _ harr) (ty := .long) rfl hK0 hP hD hS (fun q hq => Nat.le_trans hA0 hq) (n := Int32.ofInt z) (N' := z.toNat) (a0 := (z.toNat, am_con ρ (newm σ a (dfa z)) a 9)) ?_ cz2 cz1 ?_ (by show kk + 1 ≤ mc; omega) (by show n + z.toNat ≤ ms; omega) hd (fun q cA H1 hK1 hP1 hD1 hS1 => ?_)
  · intro cA
    show vp_cell cA (z.toNat, _) = _
    rw [newm_con9]
    rfl
  · exact Nat.le_trans (Nat.mul_le_mul_left _ (show componentBytes .long ≤ 8 by decide)) (by omega)
  · have hcA : cA = ca 9 := by
      have r1 := (hK0.2 1 _ (am_ty9 ca)).2
      have r2 := (hK1.2 4 (cA, .long) rfl).2
      have r1 : s.vm.findClass ("[" ++ (FieldType.long).toString) = some (ca 9) := r1
      have r2 : s.vm.findClass ("[" ++ (FieldType.long).toString) = some cA := r2
      rw [r1] at r2
      exact (Option.some.inj r2).symm
    subst hcA
    have hlz : am_len (newm σ a (dfa z)) a N = z := by
      unfold am_len
      rcases hN with hN | hN
      · rw [if_neg (by omega)]; exact hN
      · rw [if_pos hN, newm_s]; rfl
    have he : (Sum.inl (ca 9, z.toNat, am_con ρ (newm σ a (dfa z)) a 9) : va_E) = am_cell (upr ρ a q) ca (newm σ a (dfa z)) a (T' a) := by
      rw [hTa]
      show _ = Sum.inl (ca 9, (am_len (newm σ a (dfa z)) a N).toNat, am_con (upr ρ a q) (newm σ a (dfa z)) a 9)
      rw [hlz, hcon (upr ρ a q)]
    have hcn : am_closed T' (newm σ a (dfa z)) a := by
      unfold am_closed
      rw [hTa]
      intro h11; exact absurd (show (9 : Nat) = 11 from h11) (by decide)
    have hW1 := amW_new ha ha2 hna hnd hV hV0 hcls he hP1 hD1 hcn
    have hokv : okv T' (newm σ a (dfa z)) (9, a) := ⟨fun _ => Or.inr ⟨newm_l σ ha, by rw [hTa]; rfl⟩, fun _ h6 => absurd (show (9 : Nat) < 6 from h6) (by decide)⟩
    have hoks2 := (okl_c.mp hoks).2
    have key := hK _ _ _ _ h (upr ρ a q) H1 locs LS (kk + 1) (n + z.toNat) hW1 hS1 (lv_cnt (by rw [lvl_new ha ha2 hna hokl]; exact hl)) (okl_cnt (okl_new ha hokl)) (okl_c.mpr ⟨hokv, okl_new ha hoks2⟩) (by rw [cnt_0 hlen]; omega) (by rw [cnt_1 hlen]; omega) (ag_new ha ha2 hna hag)
    rw [List.map_cons, st_new ha ha2 hna hoks2 h67, am_val_p _ (by decide) ha, upr_s] at key
    exact key
theorem oz_callI {Z : State → Prop} {X : amX} {own : String} {cc : ByteArray} {ret : Option FieldType} {L pc : Nat} (hB : amB X own cc ret L) {MC MS : Nat} (e3 : XC X = MC) (e4 : XS X = MS) {E : Nat → State → Prop} (hEm : eMove E) (hE : E (Xn X) (Xst X)) {y : MethodName} {cy : ByteArray} {maxL d' mc' ms' k index : Nat} {P : WP} (hP : ∀ av σ Q, P av σ Q → amCallE E d' mc' ms' (XT X) y cy maxL none av σ Q) (hL : amLk own index y cy maxL none k) (hdd : d' + 1 ≤ XD X) (hy : y.name = "<init>") {t : Nat} (ht : 8 ≤ t) (hin : Cond.instanceMethod y ∈ TBL) (hd : decode cc pc = .ok (.invokespecial index, 3)) : amOKZ Z X pc (vCallI P t k mc' ms' MC MS L (pc + 3)) := by
  obtain ⟨p, l, e, s, m, args, below, meth, c0, D, ca, n0, T, ρ0, σ0, dd, mc, ms, nL, Q⟩ := X
  obtain ⟨hx, hb, hr, hml, hnL, hown, hts, hlocks, hK0, hA0, hst0⟩ := hB
  intro K ls st σ hK h ρ H locs LS kk n hW hS hl hokl hoks hk hn hag
  dsimp only [XC, XS] at e3 e4
  subst e3 e4 hnL
  obtain ⟨a, av, st', rfl, hlen, ha, hln, hac, hc1, hc2, h⟩ := h
  obtain ⟨h67, hcat⟩ := acok_67 _ _ hac
  have hoks1 : okl T σ av ∧ okv T σ (t, a) ∧ okl T σ st' := ⟨fun v hv => hoks v (List.mem_append_left _ (List.mem_reverse.mpr hv)), hoks _ (List.mem_append_right _ List.mem_cons_self), fun v hv => hoks v (List.mem_append_right _ (List.mem_cons_of_mem _ hv))⟩
  obtain ⟨hoks0, hoka, hoks2⟩ := hoks1
  have hM := hP _ _ _ h l D ca n0 ρ
  have hva : am_val ρ (t, a) = .ref (ρ a) := am_val_p ρ (by omega) ha
  have hrun := va_runI (g := F0 m pc LS ((av.reverse ++ (t, a) :: st').map (am_val ρ))) (cells := kk) (slots := n) (locs := locs) (below := below) (meth := meth) (e := e) (p := p) (As := av.map (am_val ρ)) (rest := st'.map (am_val ρ)) (b := ρ a) ⟨hx, hb, hml, hown, hts⟩ hM ⟨hL.B (d := dd) (mc := mc) (ms := ms) hts hdd, hy, hts _ hin⟩
    ⟨amPcE.blind hEm, fun U hU hWm => ⟨⟨by rw [List.map_cons, hva], by rw [hU]; exact Nat.le_trans hA0 hS.1, by rw [hU]; exact hW, va_K.moved hWm.alike hK0, hst0.move hWm (fun b h1 h2 => by rw [hU]; exact hS.2.1 b h1 h2) hag.2, okl_c.mpr ⟨hoka, hoks0⟩⟩, hEm n0 s U hE hWm (fun b h1 h2 => by rw [hU]; exact hS.2.1 b h1 h2)⟩⟩ rfl (by simpa using hlen) hl.1 (by simp [List.map_append, List.map_reverse, hva]) (lv_room (hcat ρ)) hd ⟨by show kk + mc' ≤ mc; omega, by show n + ms' ≤ ms; omega⟩
  refine am_go hrun hS (fun r σ' ρ' H1 locs1 hq hW' hokr hag' hS' => ?_)
  · obtain ⟨hr6, hKn⟩ := hq
    have := hK _ _ _ _ hKn ρ' H1 locs1 LS (kk + mc') (n + ms') hW' hS' (lv_cnt (by rw [ag_lvl hag' ls 0 hokl]; exact hl)) (okl_cnt (fun v hv => okv_ag hag' (hokl v hv))) (fun v hv => okv_ag hag' (hoks2 v hv)) (by rw [cnt_0 hln]; omega) (by rw [cnt_1 hln]; omega) (ag_tr hag hag')
    rw [ag_st hag' hoks2 h67] at this
    have e9 : amQr ρ' r = none := by unfold amQr; rw [if_pos hr6]
    rw [e9]
    exact this
theorem ozt_getR {Z : State → Prop} {X : amX} {T : Int → Kd} {own : String} {cc : ByteArray} {ret : Option FieldType} {L pc : Nat} {C : String} {Tt : u_T} {N c k index t : Nat} (e1 : XT X = T) (hB : amB X own cc ret L) (hT : amTok (XT X)) (hF : amFl own c k index C Tt N) (ht : t = 16 + c) (hf : amF c k = 2) {tr : Nat} (htr : amTag c k = tr) (h2 : 2 ≤ tr) (hd : decode cc pc = .ok (.getfield index, 3)) : amOKZ Z X pc (vGetR T t k tr (pc + 3)) := e1 ▸ oz_getR hB hT hF ht hf htr h2 hd
/-- from the entry -/
theorem ent_go {Z : State → Prop} {p : Program} {l : Launch} {e : Env} {s : State} {m : MethodId} {below : List Frame} {meth : Method} {c : Code} {D : va_G} {ca : Nat → ClassId} {n0 : Nat} {T : Int → Kd} {ρ0 : Int → Nat} {σ0 : Mem} {d mc ms maxL w : Nat} {Q : AV → Mem → Prop} {av : List AV} (hav : (entA av).length ≤ maxL) (h67 : ∀ v ∈ av, v.1 ≠ 6 ∧ v.1 ≠ 7) (hok : okl T σ0 av) (hW : amW D ca T n0 ρ0 σ0 s.heap)
    (hJ : amJZ Z (p, l, e, s, m, (av.map (am_val ρ0)).toArray, below, meth, c, D, ca, n0, T, ρ0, σ0, d, mc, ms, maxL, Q) 0 (entl av w) [] σ0) : W p l e (amR d mc ms) s m (av.map (am_val ρ0)).toArray below meth c s.heap [] 0 0 Z (entryFrame m (av.map (am_val ρ0)).toArray maxL) := by
  rw [lg_entry_eq]
  have hl := lv_entry (av.map (am_val ρ0)) (n := maxL) (by rw [ent_len]; exact hav)
  refine hJ ρ0 s.heap [] _ 0 0 hW va_S.rf (lv_mono hl ?_) ?_ okl_nil ?_ ?_ ⟨fun a ha => ⟨ha, rfl⟩, fun _ _ => rfl⟩
  · intro q hq
    unfold entl at hq
    rw [lvl_app, lvl_rep, List.append_nil, ent_args ρ0 av 0 h67] at hq
    exact hq
  · intro v hv
    rcases List.mem_append.mp hv with h | h
    · exact entA_ok av hok v h
    · rw [(List.mem_replicate.mp h).2]; exact okv_s (by decide)
  · rw [ent_lg hav]; exact ⟨Int.le_refl _, Int.natCast_nonneg _⟩
  · rw [ent_lg (by omega)]; exact ⟨Int.le_refl _, Int.natCast_nonneg _⟩
/-- contracts of a method that returns or throws -/
def amXC (D : va_G) (ca : Nat → ClassId) (T : Int → Kd) (n0 : Nat) (ρ0 : Int → Nat) (σ0 : Mem) (QX : Mem → Prop) : String → State → State → Prop := fun E st t =>
  E = "java/util/NoSuchElementException" ∧ (∃ (σ : Mem) (ρ : Int → Nat), QX σ ∧ amW D ca T n0 ρ σ t.heap ∧ amAg ρ0 ρ σ0 σ) ∧ va_F (fun q => n0 ≤ q) st t
def amCallX (E : Nat → State → Prop) (d mc ms : Nat) (T : Int → Kd) (y : MethodName) (cc : ByteArray) (maxL : Nat) (ret : Option FieldType) (av : List AV) (σ0 : Mem) (Q : AV → Mem → Prop) (QX : Mem → Prop) : Prop :=
  ∀ (l : Launch), l.stackTraces = false → ∀ (D : va_G) (ca : Nat → ClassId) (n0 : Nat) (ρ0 : Int → Nat), vx_Met l y (.code y cc maxL ret :: TBL) (amR d mc ms) (amPcE E D ca T n0 ρ0 σ0 av) (amQc D ca T n0 ρ0 σ0 Q) (amXC D ca T n0 ρ0 σ0 QX) mc ms (fun q => n0 ≤ q)
/-- the words that a class's being warmer doesn't keep by itself -/
def chB : List Cond := [.declares (Bundle.initS "java/lang/RuntimeException"), .declares (Bundle.initS "java/lang/Exception"), .declares (Bundle.initS Bundle.tN), .castable "java/util/NoSuchElementException" "java/util/NoSuchElementException"]
theorem chB_m {s U : State} (hW : s.WarmedH U.vm) {a a' : Array Value} : ∀ w ∈ chB, w.before a s = true → w.before a' U = true := by
  intro w hw
  have hw : w = .declares (Bundle.initS "java/lang/RuntimeException") ∨ w = .declares (Bundle.initS "java/lang/Exception") ∨ w = .declares (Bundle.initS Bundle.tN) ∨ w = .castable "java/util/NoSuchElementException" "java/util/NoSuchElementException" := by simpa [chB] using hw
  rcases hw with rfl | rfl | rfl | rfl <;> intro h <;> exact va_tabs rfl (rfl : (s.setVm U.vm).vm = U.vm) (Cond.before_shiftedFace (State.Shifted.of_warmed hW) _ rfl h)
theorem chB_x0 : ∀ w ∈ ((tz_ws RX11 186).filter vx_no).filter goodWord, w ∈ lw_tbl := by decide +kernel
theorem chB_x1 : ∀ w ∈ ((tz_ws RX11 186).filter vx_no).filter (fun w => !goodWord w), w ∈ chB := by decide +kernel
theorem chB_cast {s : State} {ce : Cell} (h : ∀ w ∈ chB, w.before #[] s = true) (hc : s.vm.findClass "java/util/NoSuchElementException" = some ce.cls) : ∃ k, s.vm.findClass "java/util/NoSuchElementException" = some k ∧ s.vm.assignable ce.cls k = true := by
  obtain ⟨k1, k2, h1, h2, h3⟩ := Cond.castable_spec (h (.castable "java/util/NoSuchElementException" "java/util/NoSuchElementException") (by simp [chB]))
  cases Option.some.inj (h1.symm.trans hc)
  exact ⟨k2, h2, h3⟩
def Ech : Nat → State → Prop := fun n0 U => (∃ sa, vk_R RX11 184 "no such chair, or nothing such of it" sa U) ∧ vx_Zq Bundle.tN "UNASSIGNED_STACK" Bundle.steD (fun q => n0 ≤ q) U U.heap ∧ vx_Zq Bundle.tN "SUPPRESSED_SENTINEL" Bundle.listD (fun q => n0 ≤ q) U U.heap ∧ ∀ w ∈ chB, w.before #[] U = true
theorem Ech_m : eMove Ech := fun _ _ _ h hW hq => ⟨h.1.elim (fun sa h => ⟨sa, h.warm hW⟩), vx_Zq.moved hW.alike (h.2.1.kept hq), vx_Zq.moved hW.alike (h.2.2.1.kept hq), fun w hw => chB_m hW w hw (h.2.2.2 w hw)⟩
theorem amW_kept {D : va_G} {ca : Nat → ClassId} {T : Int → Kd} {n0 : Nat} {ρ : Int → Nat} {σ : Mem} {H H1 : Heap} (h : amW D ca T n0 ρ σ H) (hk : ∀ q : Nat, q < H.size → H1[q]? = H[q]?) : amW D ca T n0 ρ σ H1 := by
  obtain ⟨V, hnd, hV, hV0, hP, hD, hcl⟩ := h
  exact ⟨V, hnd, hV, hV0, hP.kept (fun k q hq => hk _ (vx_lt hP hq)), hD, hcl⟩
def chv (σ : Mem) (c w : Int) : Int := if w = 0 then σ 17 c else if w = 1 then σ 18 c else if w = 2 then σ 19 c else σ 20 c
def a_X11_chair  : AC := [(0, vAload 0 1), (1, vGetR TT 27 2 22 4), (4, vI 2 5), (5, vIload 1 6), (6, vCallM w_X6_has 22 2 9), (9, vIfEq 21 12), (12, vIload 2 13), (13, vIfLt 21 16), (16, vIload 2 17), (17, vI 3 18), (18, vIcLe 31 21), (21, vBad), (24, vBad), (25, vBad), (27, vBad), (30, vBad), (31, vIload 2 32), (32, vSw2 [(0, 60), (1, 70), (2, 80)] 90), (60, vAload 0 61), (61, vGetR TT 27 10 16 64), (64, vGetR TT 16 0 8 67), (67, vIload 1 68), (68, vIald TT 69), (69, vIret), (70, vAload 0 71), (71, vGetR TT 27 10 16 74), (74, vGetR TT 16 1 8 77), (77, vIload 1 78), (78, vIald TT 79), (79, vIret), (80, vAload 0 81), (81, vGetR TT 27 10 16 84), (84, vGetR TT 16 2 8 87), (87, vIload 1 88), (88, vIald TT 89), (89, vIret), (90, vAload 0 91), (91, vGetR TT 27 10 16 94), (94, vGetR TT 16 3 8 97), (97, vIload 1 98), (98, vIald TT 99), (99, vIret)]
theorem k_X11_chair_0  : look a_X11_chair 0 = vAload 0 1 := rfl
theorem k_X11_chair_1  : look a_X11_chair 1 = vGetR TT 27 2 22 4 := rfl
theorem k_X11_chair_4  : look a_X11_chair 4 = vI 2 5 := rfl
theorem k_X11_chair_5  : look a_X11_chair 5 = vIload 1 6 := rfl
theorem k_X11_chair_6  : look a_X11_chair 6 = vCallM w_X6_has 22 2 9 := rfl
theorem k_X11_chair_9  : look a_X11_chair 9 = vIfEq 21 12 := rfl
theorem k_X11_chair_12  : look a_X11_chair 12 = vIload 2 13 := rfl
theorem k_X11_chair_13  : look a_X11_chair 13 = vIfLt 21 16 := rfl
theorem k_X11_chair_16  : look a_X11_chair 16 = vIload 2 17 := rfl
theorem k_X11_chair_17  : look a_X11_chair 17 = vI 3 18 := rfl
theorem k_X11_chair_18  : look a_X11_chair 18 = vIcLe 31 21 := rfl
theorem k_X11_chair_21  : look a_X11_chair 21 = vBad := rfl
theorem k_X11_chair_24  : look a_X11_chair 24 = vBad := rfl
theorem k_X11_chair_25  : look a_X11_chair 25 = vBad := rfl
theorem k_X11_chair_27  : look a_X11_chair 27 = vBad := rfl
theorem k_X11_chair_30  : look a_X11_chair 30 = vBad := rfl
theorem k_X11_chair_31  : look a_X11_chair 31 = vIload 2 32 := rfl
theorem k_X11_chair_32  : look a_X11_chair 32 = vSw2 [(0, 60), (1, 70), (2, 80)] 90 := rfl
theorem k_X11_chair_60  : look a_X11_chair 60 = vAload 0 61 := rfl
theorem k_X11_chair_61  : look a_X11_chair 61 = vGetR TT 27 10 16 64 := rfl
theorem k_X11_chair_64  : look a_X11_chair 64 = vGetR TT 16 0 8 67 := rfl
theorem k_X11_chair_67  : look a_X11_chair 67 = vIload 1 68 := rfl
theorem k_X11_chair_68  : look a_X11_chair 68 = vIald TT 69 := rfl
theorem k_X11_chair_69  : look a_X11_chair 69 = vIret := rfl
theorem k_X11_chair_70  : look a_X11_chair 70 = vAload 0 71 := rfl
theorem k_X11_chair_71  : look a_X11_chair 71 = vGetR TT 27 10 16 74 := rfl
theorem k_X11_chair_74  : look a_X11_chair 74 = vGetR TT 16 1 8 77 := rfl
theorem k_X11_chair_77  : look a_X11_chair 77 = vIload 1 78 := rfl
theorem k_X11_chair_78  : look a_X11_chair 78 = vIald TT 79 := rfl
theorem k_X11_chair_79  : look a_X11_chair 79 = vIret := rfl
theorem k_X11_chair_80  : look a_X11_chair 80 = vAload 0 81 := rfl
theorem k_X11_chair_81  : look a_X11_chair 81 = vGetR TT 27 10 16 84 := rfl
theorem k_X11_chair_84  : look a_X11_chair 84 = vGetR TT 16 2 8 87 := rfl
theorem k_X11_chair_87  : look a_X11_chair 87 = vIload 1 88 := rfl
theorem k_X11_chair_88  : look a_X11_chair 88 = vIald TT 89 := rfl
theorem k_X11_chair_89  : look a_X11_chair 89 = vIret := rfl
theorem k_X11_chair_90  : look a_X11_chair 90 = vAload 0 91 := rfl
theorem k_X11_chair_91  : look a_X11_chair 91 = vGetR TT 27 10 16 94 := rfl
theorem k_X11_chair_94  : look a_X11_chair 94 = vGetR TT 16 3 8 97 := rfl
theorem k_X11_chair_97  : look a_X11_chair 97 = vIload 1 98 := rfl
theorem k_X11_chair_98  : look a_X11_chair 98 = vIald TT 99 := rfl
theorem k_X11_chair_99  : look a_X11_chair 99 = vIret := rfl
theorem o_X11_chair {X : amX}  (e1 : XT X = TT) (e2 : XD X = 6) (e3 : XC X = 1) (e4 : XS X = 6) (hin : (XM X).name = "chair") (hE : Eno (Xn X) (Xst X)) (hB : amB X RX11 cX11_chair (some .int) 3) : ∀ pc, amOK X pc (look a_X11_chair pc) := by
  have hT : amTok (XT X) := e1 ▸ TT_ok
  refine look_ok ?_
  unfold a_X11_chair
  refine fc (ok_aload_n hB dX11_chair_0) ?_
  refine fc (okt_getR e1 hB hT fl_X11_23 rfl af_11_2 at_11_2 (by decide) dX11_chair_1) ?_
  refine fc (ok_iconst hB dX11_chair_4) ?_
  refine fc (ok_iload_n hB dX11_chair_5) ?_
  refine fc (ok_callM hB hT (e1 ▸ s_X6_has) lk_X11_174 (by rw [e2]; decide) (c := 6) rfl rfl rfl wd_729 wd_730 dX11_chair_6) ?_
  refine fc (ok_if_eq hB (t := 21) (by decide) dX11_chair_9) ?_
  refine fc (ok_iload_n hB dX11_chair_12) ?_
  refine fc (ok_if_lt hB (t := 21) (by decide) dX11_chair_13) ?_
  refine fc (ok_iload_n hB dX11_chair_16) ?_
  refine fc (ok_iconst hB dX11_chair_17) ?_
  refine fc (ok_icmp_le hB (t := 31) (by decide) dX11_chair_18) ?_
  refine fc (ok_bad) ?_
  refine fc (ok_bad) ?_
  refine fc (ok_bad) ?_
  refine fc (ok_bad) ?_
  refine fc (ok_bad) ?_
  refine fc (ok_iload_n hB dX11_chair_31) ?_
  refine fc (ok_sw2 (by decide) (ok_tableswitch hB [(0, 60), (1, 70), (2, 80)] dX11_chair_32 (by decide) (by decide) (by decide) (by decide))) ?_
  refine fc (ok_aload_n hB dX11_chair_60) ?_
  refine fc (okt_getR e1 hB hT fl_X11_65 rfl af_11_10 at_11_10 (by decide) dX11_chair_61) ?_
  refine fc (okt_getR e1 hB hT fl_X11_189 rfl af_0_0 at_0_0 (by decide) dX11_chair_64) ?_
  refine fc (ok_iload_n hB dX11_chair_67) ?_
  refine fc (okt_iaload e1 hB dX11_chair_68) ?_
  refine fc (ok_iret hB dX11_chair_69) ?_
  refine fc (ok_aload_n hB dX11_chair_70) ?_
  refine fc (okt_getR e1 hB hT fl_X11_65 rfl af_11_10 at_11_10 (by decide) dX11_chair_71) ?_
  refine fc (okt_getR e1 hB hT fl_X11_193 rfl af_0_1 at_0_1 (by decide) dX11_chair_74) ?_
  refine fc (ok_iload_n hB dX11_chair_77) ?_
  refine fc (okt_iaload e1 hB dX11_chair_78) ?_
  refine fc (ok_iret hB dX11_chair_79) ?_
  refine fc (ok_aload_n hB dX11_chair_80) ?_
  refine fc (okt_getR e1 hB hT fl_X11_65 rfl af_11_10 at_11_10 (by decide) dX11_chair_81) ?_
  refine fc (okt_getR e1 hB hT fl_X11_196 rfl af_0_2 at_0_2 (by decide) dX11_chair_84) ?_
  refine fc (ok_iload_n hB dX11_chair_87) ?_
  refine fc (okt_iaload e1 hB dX11_chair_88) ?_
  refine fc (ok_iret hB dX11_chair_89) ?_
  refine fc (ok_aload_n hB dX11_chair_90) ?_
  refine fc (okt_getR e1 hB hT fl_X11_65 rfl af_11_10 at_11_10 (by decide) dX11_chair_91) ?_
  refine fc (okt_getR e1 hB hT fl_X11_199 rfl af_0_3 at_0_3 (by decide) dX11_chair_94) ?_
  refine fc (ok_iload_n hB dX11_chair_97) ?_
  refine fc (okt_iaload e1 hB dX11_chair_98) ?_
  refine fc (ok_iret hB dX11_chair_99) ?_
  exact fn


theorem wd_1232 : Cond.classLink RX11 182 "java/util/NoSuchElementException" ∈ TBL := tb_tab (List.mem_of_getElem? (i := 1232) (by decide +kernel)) rfl
theorem wd_25 : Cond.initialized "java/util/NoSuchElementException" ∈ TBL := tb_tab (List.mem_of_getElem? (i := 25) (by decide +kernel)) rfl
def a_chB : AC := [(0, vAload 0 1), (1, vGetR TT 27 2 22 4), (4, vI 2 5), (5, vIload 1 6), (6, vCallM w_X6_has 22 2 9), (9, vIfEq 21 12), (12, vIload 2 13), (13, vIfLt 21 16), (16, vIload 2 17), (17, vI 3 18), (18, vIcLe 31 21)]
theorem k_chB_0 : look a_chB 0 = vAload 0 1 := rfl
theorem k_chB_1 : look a_chB 1 = vGetR TT 27 2 22 4 := rfl
theorem k_chB_4 : look a_chB 4 = vI 2 5 := rfl
theorem k_chB_5 : look a_chB 5 = vIload 1 6 := rfl
theorem k_chB_6 : look a_chB 6 = vCallM w_X6_has 22 2 9 := rfl
theorem k_chB_9 : look a_chB 9 = vIfEq 21 12 := rfl
theorem k_chB_12 : look a_chB 12 = vIload 2 13 := rfl
theorem k_chB_13 : look a_chB 13 = vIfLt 21 16 := rfl
theorem k_chB_16 : look a_chB 16 = vIload 2 17 := rfl
theorem k_chB_17 : look a_chB 17 = vI 3 18 := rfl
theorem k_chB_18 : look a_chB 18 = vIcLe 31 21 := rfl
theorem o_chB {Z : State → Prop} {X : amX} (e1 : XT X = TT) (e2 : XD X = 6) (hB : amB X RX11 cX11_chair (some .int) 3) : ∀ pc, amOKZ Z X pc (look a_chB pc) := by
  have hT : amTok (XT X) := e1 ▸ TT_ok
  refine look_okZ ?_
  unfold a_chB
  refine fcZ (oz_aload_n hB dX11_chair_0) ?_
  refine fcZ (ozt_getR e1 hB hT fl_X11_23 rfl af_11_2 at_11_2 (by decide) dX11_chair_1) ?_
  refine fcZ (oz_iconst hB dX11_chair_4) ?_
  refine fcZ (oz_iload_n hB dX11_chair_5) ?_
  refine fcZ (oz_callM hB hT (e1 ▸ s_X6_has) lk_X11_174 (by rw [e2]; decide) (c := 6) rfl rfl rfl wd_729 wd_730 dX11_chair_6) ?_
  refine fcZ (oz_if_eq hB (t := 21) (by decide) dX11_chair_9) ?_
  refine fcZ (oz_iload_n hB dX11_chair_12) ?_
  refine fcZ (oz_if_lt hB (t := 21) (by decide) dX11_chair_13) ?_
  refine fcZ (oz_iload_n hB dX11_chair_16) ?_
  refine fcZ (oz_iconst hB dX11_chair_17) ?_
  refine fcZ (oz_icmp_le hB (t := 31) (by decide) dX11_chair_18) ?_
  exact fnZ
set_option maxRecDepth 100000 in
set_option maxHeartbeats 4000000 in
theorem s_X11_chair {c w : Int} {σ : Mem} {Q : AV → Mem → Prop} {QX : Mem → Prop} (hc : InR c) (hw : InR w) (hp : planB σ 6) (hg : (0 ≤ c ∧ c < pcnt σ 6 2) ∧ 0 ≤ w ∧ w ≤ 3 → Q (0, chv σ c w) σ) (hbad : ¬ ((0 ≤ c ∧ c < pcnt σ 6 2) ∧ 0 ≤ w ∧ w ≤ 3) → QX σ) : amCallX Ech 6 1 6 TT yX11_chair cX11_chair 3 (some .int) [(27, 0), (0, c), (0, w)] σ Q QX := by
  intro l hl D ca n0 ρ0
  have hpc := hp.1 2 (by decide) (by decide)
  have ep : pcnt σ 6 2 = σ 8 2 := rfl
  have hpi : InR (pcnt σ 6 2) := by rw [ep]; exact ⟨by have := hpc.1; show _ ≤ σ (6 + 2) 2; omega, by have := hpc.2; show σ (6 + 2) 2 ≤ _; omega⟩
  have hp6 : pcnt σ 6 2 ≤ 6 := hpc.2
  refine vx_ofW (cc := cX11_chair) (maxL := 3) (ret := some .int) (by decide +kernel) rfl ?_
  intro p e s m args below meth c0 s₁ B hml htab hv
  obtain ⟨⟨rfl, hn0, hW, hK0, hst, hok⟩, hE⟩ := hv
  have hts0 := atoms_spec (ws := .code yX11_chair cX11_chair 3 (some .int) :: TBL) B.pre
  have hB : amB (p, l, e, s, m, (([(27, 0), (0, c), (0, w)] : List AV).map (am_val ρ0)).toArray, below, meth, c0, D, ca, n0, TT, ρ0, σ, 6, 1, 6, 3, Q) RX11 cX11_chair (some .int) 3 :=
    ⟨B.exec, B.bytes, B.returns, hml, rfl, findClass_of_methodNamed B.named, fun w hw => hts0 w (List.mem_cons_of_mem _ hw), B.notSynchronized, hK0, hn0, hst⟩
  by_cases good : (0 ≤ c ∧ c < pcnt σ 6 2) ∧ 0 ≤ w ∧ w ≤ 3
  · have q8 := hg good
    refine vx_ret ?_
    refine ent_go (w := 5) (Q := Q) (Nat.le_of_ble_eq_true rfl) (by simp) hok hW ?_
    refine vcs_sound (A := look a_X11_chair) (cuts := []) (I := fun _ _ _ _ => False) (o_X11_chair rfl rfl rfl rfl (name_of_methodNamed B.named B.method).1 trivial hB) (fun _ _ _ _ h => absurd h id) 60 0 _ _ _ ?_
    change vcs _ _ _ _ 60 0 [(27, 0), (0, c), (0, w), (6, 0), (6, 0)] [] σ
    unfold chv at q8
    simp only [vNew_e, vNewA_e, vCallI_e0, vCallI_e1, vCallI_e2, vCallI_e3, vCallMA_e0, vCallMA_e1, vCallSA_e2, vObj_e, cnt_e, List.length_cons, List.length_nil, Nat.zero_add, Nat.reduceAdd, Nat.reduceLT, Int.reduceAdd, Nat.reduceLeDiff, ↓reduceIte, vSw2_e, swP_n, swP_c, vI_e, vL_e, vNull_e, vIload_e, vLload_e, vAload_e, vIstore_e, vLstore_e, vAstore_e, vIinc_e, vIadd_e, vIsub_e, vImul_e, vIand_e, vIor_e, vIxor_e, vIshl_e, vIshr_e, vIushr_e, vIdiv_e, vIrem_e, vLadd_e, vLsub_e, vLmul_e, vLand_e, vLor_e, vLxor_e, vLdiv_e, vLrem_e, vLushr_e, vLshl_e, vLcmp_e, vIneg_e, vI2l_e, vL2i_e, vI2b_e, vI2c_e, vDup_e, vPop_e, vDup2_e, vGoto_e, vIcEq_e, vIfEq_e, vIcNe_e, vIfNe_e, vIcLt_e, vIfLt_e, vIcGe_e, vIfGe_e, vIcGt_e, vIfGt_e, vIcLe_e, vIfLe_e, vNonnull_e, vSw_e, vGetI_e, vGetL_e, vGetR_e, vPutI_e, vPutZ_e, vPutL_e, vPutR_e, vIald_e, vIald_s, vLald_e, vBald_e, vBald_s, vAald_e, vIast_e, vLast_e, vBast_e, vAast_e, vAlen_e8, vAlen_e9, vAlen_e10, vAlen_e11, vAlen_e5, vAlen_e3, vGets_e, vCompact_e, vLdcS_e, vIret_e, vZret_e, vCret_e, vBret_e, vLret_e, vVret_e, vAret_e, vCallM_e0, vCallMV_e0, vCallS_e0, vCallSV_e0, vCallM_e1, vCallMV_e1, vCallS_e1, vCallSV_e1, vCallM_e2, vCallMV_e2, vCallS_e2, vCallSV_e2, vCallM_e3, vCallMV_e3, vCallS_e3, vCallSV_e3, vCallM_e4, vCallMV_e4, vCallS_e4, vCallSV_e4, vCallM_e5, vCallMV_e5, vCallS_e5, vCallSV_e5, vCallM_e6, vCallMV_e6, vCallS_e6, vCallSV_e6, vCallM_e7, vCallMV_e7, vCallS_e7, vCallSV_e7, vBad_e, vStrVal_e, vStrCod_e, vForm_e, vCallT_e0, vCallT_e1, vCallT_e2, vCopy_e, rf_0_0, rf_0_1, rf_0_2, rf_0_3, rf_0_4, rf_0_7, rf_0_10, rf_0_11, rf_0_12, rf_0_13, rf_0_14, rf_0_15, rf_0_16, rf_1_0, rf_3_0, rf_3_1, rf_6_0, rf_6_1, rf_9_0, rf_9_1, rf_9_3, rf_13_0, rf_13_1, rf_13_2, rf_16_0, rf_16_1, rf_16_2, rf_16_3, rf_21_0, rf_21_1, rf_21_2, rf_21_3, rf_26_0, rf_26_1, rf_26_2, rf_26_3, rf_26_4, rf_26_5, rf_26_6, rf_31_0, rf_31_2, rf_31_5, rf_31_6, rf_36_0, rf_36_1, rf_36_2, rf_36_3, rf_39_0, rf_39_1, rf_39_2, rf_41_0, rf_41_1, rf_41_2, rf_41_3, rf_5000_1, rf_5000_2, rf_5000_3, rf_5000_4, rf_5000_5, rf_5000_15, rf_5000_16, rf_5000_18, rf_5000_19, rf_5000_20, rf_5000_21, rf_5000_22, rf_5000_23, rf_5000_24, rf_5000_25, rf_5000_26, rf_5000_27, rf_5000_36, rf_5000_37, rf_5000_40, rf_5000_41, rf_5000_42, rf_5000_43, rf_5000_44, rf_5000_45, rf_5000_47, rf_5000_52, rf_5000_54, rf_5000_55, rf_100_0, rf_100_1, rf_103_0, rf_103_1, rf_106_0, rf_106_1, rf_109_0, rf_109_1, al_2, al_4, al_5, al_7, al_8, al_10, al_11, al_12, al_14, al_15, al_17, al_18, al_19, al_20, al_22, al_23, al_24, al_25, al_27, al_28, al_29, al_30, al_32, al_33, al_34, al_35, al_37, al_38, al_40, al_42, al_5001, al_5002, al_5003, al_5004, al_5005, al_5006, al_5007, al_5008, al_5009, al_5010, al_5011, al_5012, al_5013, al_5014, al_5015, al_5016, al_5017, al_5018, al_5019, al_5020, al_5021, al_5022, al_5023, al_5024, al_5025, al_5026, al_9000, al_101, al_102, al_104, al_105, al_107, al_108, al_110, al_111, vcs_e, lg_c0, lg_cs, lg_nil, set_c0, set_cs, okst_0, okst_s, acok_n, acok_c, List.contains_nil, List.contains_cons, Bool.or_false, Bool.false_or, Bool.false_eq_true, if_false, if_true, ite_self, ne_eq, true_and, and_true, not_false_eq_true, not_true_eq_false, false_imp_iff, true_imp_iff, Nat.ble_eq, Bool.and_eq_true, reduceCtorEq, or_false, false_or, or_true, true_or, false_and, and_false, and_self, Int.reduceLE, Int.reduceAdd, Int.reduceSub, Int.reduceMul, Int.reduceNeg, Int.reduceLT, Int.reduceEq, Int.reduceNe, Nat.reduceBEq, Nat.reduceBNe, Nat.reduceEqDiff, amCmp_in, amCmp_lt, amCmp_le, amCmp_gt, amCmp_ge, amCmp_eq, amCmp_ne, Nat.reduceLeDiff, Nat.reduceSub, Bool.and_true, Bool.true_and, Bool.and_self, Bool.or_true, Bool.true_or, isRf_3, isRf_4, isRf_5, isRf_8, isRf_9, isRf_10, isRf_11, isRf_15, isRf_16, isRf_17, isRf_18, isRf_19, isRf_20, isRf_21, isRf_22, isRf_23, isRf_24, isRf_25, isRf_26, isRf_27, isRf_28, k_X11_chair_0, k_X11_chair_1, k_X11_chair_4, k_X11_chair_5, k_X11_chair_6, k_X11_chair_9, k_X11_chair_12, k_X11_chair_13, k_X11_chair_16, k_X11_chair_17, k_X11_chair_18, k_X11_chair_21, k_X11_chair_24, k_X11_chair_25, k_X11_chair_27, k_X11_chair_30, k_X11_chair_31, k_X11_chair_32, k_X11_chair_60, k_X11_chair_61, k_X11_chair_64, k_X11_chair_67, k_X11_chair_68, k_X11_chair_69, k_X11_chair_70, k_X11_chair_71, k_X11_chair_74, k_X11_chair_77, k_X11_chair_78, k_X11_chair_79, k_X11_chair_80, k_X11_chair_81, k_X11_chair_84, k_X11_chair_87, k_X11_chair_88, k_X11_chair_89, k_X11_chair_90, k_X11_chair_91, k_X11_chair_94, k_X11_chair_97, k_X11_chair_98, k_X11_chair_99, w_X6_has_e, up_s, up_nj, up_na, up_up, savR_o, cpy_o, fillm_o, setAud_o, setv_o, setv_s, Int.reduceNe, Int.reduceEq, Int.reduceLT, Int.reduceAdd, not_false_eq_true, ne_eq, or_true, true_or, if_pos good.1]
    have w4 : w = 0 ∨ w = 1 ∨ w = 2 ∨ w = 3 := by omega
    rcases w4 with rfl | rfl | rfl | rfl
    · rw [if_pos rfl] at q8
      repeat' (first | assumption | apply And.intro | intro _)
      all_goals first | omega | exact absurd trivial (by assumption) | exact isP6 | exact q8
    · rw [if_neg (by decide), if_pos rfl] at q8
      repeat' (first | assumption | apply And.intro | intro _)
      all_goals first | omega | exact absurd trivial (by assumption) | exact isP6 | exact q8
    · rw [if_neg (by decide), if_neg (by decide), if_pos rfl] at q8
      repeat' (first | assumption | apply And.intro | intro _)
      all_goals first | omega | exact absurd trivial (by assumption) | exact isP6 | exact q8
    · rw [if_neg (by decide), if_neg (by decide), if_neg (by decide)] at q8
      repeat' (first | assumption | apply And.intro | intro _)
      all_goals first | omega | exact absurd trivial (by assumption) | exact isP6 | exact q8
  · have q8 := hbad good
    refine ent_go (w := 5) (Q := Q) (Nat.le_of_ble_eq_true rfl) (by simp) hok hW ?_
    refine vcs_soundZ (A := look a_chB) (cuts := [21]) (I := fun pc ls st τ => pc = 21 ∧ st = [] ∧ τ = σ ∧ ls = [(27, 0), (0, c), (0, w), (6, 0), (6, 0)]) (o_chB rfl rfl hB) (fun pc ls st τ h => ?_) 60 0 _ _ _ ?_
    · obtain ⟨rfl, rfl, rfl, rfl⟩ := h
      intro ρ H locs LS k n hW1 hS hl1 hokl hoks hk hn hag
      have hk0 : (k : Int) ≤ 0 := hk.1
      have hn0' : (n : Int) ≤ 0 := hn.1
      obtain ⟨hts, hown⟩ : (∀ w9 ∈ TBL, w9.before (([(27, 0), (0, c), (0, w)] : List AV).map (am_val ρ0)).toArray s = true) ∧ s.vm.findClass RX11 = some m.cls := ⟨fun w hw => hts0 w (List.mem_cons_of_mem _ hw), findClass_of_methodNamed B.named⟩
      obtain ⟨⟨sa, hsa⟩, hU, hN, hCC⟩ := hE
      refine tz_throw (own := RX11) (text := "no such chair, or nothing such of it") (ik := 182) (is := 184) (ic := 186) (sa := sa) (A := fun q => n0 ≤ q) (rest := []) B.exec B.bytes hl hown (hts _ wd_1232) (hts _ wd_25) hsa ?_ hU hN hS (hl1.1.trans hml.symm) dX11_chair_21 dX11_chair_24 dX11_chair_25 dX11_chair_27 dX11_chair_30 (fun x hx => (htab x hx).elim) (by show (5 : Nat) < 6; decide) (by show (0 : Nat) + 82 ≤ 64 * 6; decide) (by show k + 1 ≤ 1; omega) (by show n + 6 ≤ 6; omega) B.notSynchronized ?_ hS.2.2 (by omega) (by omega)
      · refine vx_hat (B := chB) (fun w hw => hts w (tb_in (chB_x0 w hw) (List.mem_filter.mp hw).2)) chB_x1 (fun w hw => chB_m (State.WarmedH.refl s) w hw (hCC w hw))
      · intro t hal hz hkp
        refine ⟨rfl, ⟨_, ρ, q8, amW_kept hW1 hkp, hag⟩, Nat.le_trans hS.1 hz, fun q h1 h2 => ?_⟩
        rw [hkp q (Nat.lt_of_lt_of_le h1 hS.1)]
        exact hS.2.1 q h1 h2
    · change vcs _ _ _ _ 60 0 [(27, 0), (0, c), (0, w), (6, 0), (6, 0)] [] σ
      simp only [↓reduceIte, inR_0, inR_1, inR_m, vSw2_e, swP_n, swP_c, vI_e, vL_e, vNull_e, vIload_e, vLload_e, vAload_e, vIstore_e, vLstore_e, vAstore_e, vIinc_e, vIadd_e, vIsub_e, vImul_e, vIand_e, vIor_e, vIxor_e, vIshl_e, vIshr_e, vIushr_e, vIdiv_e, vIrem_e, vLadd_e, vLsub_e, vLmul_e, vLand_e, vLor_e, vLxor_e, vLdiv_e, vLrem_e, vLushr_e, vLshl_e, vLcmp_e, vIneg_e, vI2l_e, vL2i_e, vI2b_e, vI2c_e, vDup_e, vPop_e, vDup2_e, vGoto_e, vIcEq_e, vIfEq_e, vIcNe_e, vIfNe_e, vIcLt_e, vIfLt_e, vIcGe_e, vIfGe_e, vIcGt_e, vIfGt_e, vIcLe_e, vIfLe_e, vNonnull_e, vSw_e, vGetI_e, vGetL_e, vGetR_e, vPutI_e, vPutZ_e, vPutL_e, vPutR_e, vIald_e, vIald_s, vLald_e, vBald_e, vBald_s, vAald_e, vIast_e, vLast_e, vBast_e, vAast_e, vAlen_e8, vAlen_e9, vAlen_e10, vAlen_e11, vAlen_e5, vAlen_e3, vGets_e, vCompact_e, vLdcS_e, vIret_e, vZret_e, vCret_e, vBret_e, vLret_e, vVret_e, vAret_e, vCallM_e0, vCallMV_e0, vCallS_e0, vCallSV_e0, vCallM_e1, vCallMV_e1, vCallS_e1, vCallSV_e1, vCallM_e2, vCallMV_e2, vCallS_e2, vCallSV_e2, vCallM_e3, vCallMV_e3, vCallS_e3, vCallSV_e3, vCallM_e4, vCallMV_e4, vCallS_e4, vCallSV_e4, vCallM_e5, vCallMV_e5, vCallS_e5, vCallSV_e5, vCallM_e6, vCallMV_e6, vCallS_e6, vCallSV_e6, vCallM_e7, vCallMV_e7, vCallS_e7, vCallSV_e7, vBad_e, vStrVal_e, vStrCod_e, vForm_e, vCallT_e0, vCallT_e1, vCallT_e2, vCopy_e, rf_0_0, rf_0_1, rf_0_2, rf_0_3, rf_0_4, rf_0_7, rf_0_10, rf_0_11, rf_0_12, rf_0_13, rf_0_14, rf_0_15, rf_0_16, rf_1_0, rf_3_0, rf_3_1, rf_6_0, rf_6_1, rf_9_0, rf_9_1, rf_9_3, rf_13_0, rf_13_1, rf_13_2, rf_16_0, rf_16_1, rf_16_2, rf_16_3, rf_21_0, rf_21_1, rf_21_2, rf_21_3, rf_26_0, rf_26_1, rf_26_2, rf_26_3, rf_26_4, rf_26_5, rf_26_6, rf_31_0, rf_31_2, rf_31_5, rf_31_6, rf_36_0, rf_36_1, rf_36_2, rf_36_3, rf_39_0, rf_39_1, rf_39_2, rf_41_0, rf_41_1, rf_41_2, rf_41_3, rf_5000_1, rf_5000_2, rf_5000_3, rf_5000_4, rf_5000_5, rf_5000_15, rf_5000_16, rf_5000_18, rf_5000_19, rf_5000_20, rf_5000_21, rf_5000_22, rf_5000_23, rf_5000_24, rf_5000_25, rf_5000_26, rf_5000_27, rf_5000_36, rf_5000_37, rf_5000_40, rf_5000_41, rf_5000_42, rf_5000_43, rf_5000_44, rf_5000_45, rf_5000_47, rf_5000_52, rf_5000_54, rf_5000_55, rf_100_0, rf_100_1, rf_103_0, rf_103_1, rf_106_0, rf_106_1, rf_109_0, rf_109_1, al_2, al_4, al_5, al_7, al_8, al_10, al_11, al_12, al_14, al_15, al_17, al_18, al_19, al_20, al_22, al_23, al_24, al_25, al_27, al_28, al_29, al_30, al_32, al_33, al_34, al_35, al_37, al_38, al_40, al_42, al_5001, al_5002, al_5003, al_5004, al_5005, al_5006, al_5007, al_5008, al_5009, al_5010, al_5011, al_5012, al_5013, al_5014, al_5015, al_5016, al_5017, al_5018, al_5019, al_5020, al_5021, al_5022, al_5023, al_5024, al_5025, al_5026, al_9000, al_101, al_102, al_104, al_105, al_107, al_108, al_110, al_111, vcs_e, lg_c0, lg_cs, lg_nil, set_c0, set_cs, okst_0, okst_s, acok_n, acok_c, List.contains_nil, List.contains_cons, Bool.or_false, Bool.false_or, Bool.false_eq_true, if_false, if_true, ite_self, ne_eq, true_and, and_true, not_false_eq_true, not_true_eq_false, false_imp_iff, true_imp_iff, Nat.ble_eq, Bool.and_eq_true, reduceCtorEq, or_false, false_or, or_true, true_or, false_and, and_false, and_self, Int.reduceLE, Int.reduceAdd, Int.reduceSub, Int.reduceMul, Int.reduceNeg, Int.reduceLT, Int.reduceEq, Int.reduceNe, Nat.reduceBEq, Nat.reduceBNe, Nat.reduceEqDiff, amCmp_in, amCmp_lt, amCmp_le, amCmp_gt, amCmp_ge, amCmp_eq, amCmp_ne, Nat.reduceLeDiff, Nat.reduceSub, Bool.and_true, Bool.true_and, Bool.and_self, Bool.or_true, Bool.true_or, isRf_3, isRf_4, isRf_5, isRf_8, isRf_9, isRf_10, isRf_11, isRf_15, isRf_16, isRf_17, isRf_18, isRf_19, isRf_20, isRf_21, isRf_22, isRf_23, isRf_24, isRf_25, isRf_26, isRf_27, isRf_28, k_chB_0, k_chB_1, k_chB_4, k_chB_5, k_chB_6, k_chB_9, k_chB_12, k_chB_13, k_chB_16, k_chB_17, k_chB_18, w_X6_has_e, up_s, up_nj, up_na, up_up, savR_o, cpy_o, fillm_o, setAud_o, setv_o, setv_s, Int.reduceNe, Int.reduceEq, Int.reduceLT, Int.reduceAdd, not_false_eq_true, ne_eq, or_true, true_or]
      by_cases c1 : 0 ≤ c ∧ c < pcnt σ 6 2
      · rw [if_pos c1]
        repeat' (first | assumption | apply And.intro | intro _)
        all_goals first | omega | exact absurd trivial (by assumption) | exact isP6 | exact trivial | exact ⟨rfl, rfl, rfl, rfl⟩ | exact ⟨by decide, by decide⟩
      · rw [if_neg c1]
        repeat' (first | assumption | apply And.intro | intro _)
        all_goals first | omega | exact absurd trivial (by assumption) | exact isP6 | exact trivial | exact ⟨rfl, rfl, rfl, rfl⟩ | exact ⟨by decide, by decide⟩
/-! what a callee throws, caught by the first row of this method's table: the class that the row names is linked by then -/
theorem ct_find {e : Env} {S : State} {f : JFrame} {a : Addr} {meth : Method} {code : Code} {cell : Cell} {x : ExceptionTableEntry} {t : List ExceptionTableEntry} {k : ClassId} (hm : S.vm.method? f.method = some meth) (hc : meth.code = some code) (ht : code.exceptionTable.toList = x :: t) (hx : covers x f.pc = true) (h0 : x.catchType ≠ 0) (hl : S.vm.ClassLinks e.platform f.method.cls x.catchType k) (hcell : S.heap[a]? = some cell) (hobj : ∀ q, cell.vm ≠ .statics q) (hk1 : ∃ q, S.vm.classes[cell.cls]? = some q) (hk2 : ∃ q, S.vm.classes[k]? = some q) (hfit : S.vm.assignable cell.cls k = true) (Q : Handler → Pre) (E : CtlPost) (d : Bool) (acts : List Action) : wp (findHandler f a) Q E e d acts S ↔ Q (.found x.handlerPc) d acts (S.setVm (S.vm.noted f.method.cls x.catchType (.cls k))) := by
  rw [Jvm.W.findHandler_eq hm hc, ht]
  simp only [covers] at hx
  obtain ⟨z1, z2⟩ := (resolveClass_links e.toSetting hl).op (op := VmOp.resolveClass f.method.cls x.catchType) rfl
  have al : S.vm.Alike (S.vm.noted f.method.cls x.catchType (.cls k)) := (Vm.Alike.refl S.vm).noted _ _ _
  obtain ⟨u1, g1⟩ := hk1
  obtain ⟨u2, g2⟩ := hk2
  obtain ⟨v1, g3, -⟩ := al.2.2 _ _ g1
  obtain ⟨v2, g4, -⟩ := al.2.2 _ _ g2
  have g5 : (S.vm.noted f.method.cls x.catchType (.cls k)).assignable cell.cls k = true := by rw [al.assignable]; exact hfit
  simp [findHandler.go, hx, h0, z1, z2, hcell, hobj, g3, g4, g5, VmOp.dirties, VmOp.acts]
theorem vxc {p : Program} {l : Launch} {e : Env} {R : Room} {s : State} {m : MethodId} {args : Array Value} {below : List Frame} {meth : Method} {c : Code} {H : Heap} {locs : List Loc} {cells slots : Nat} {Q : State → Prop} {pc : Nat} {ls : Array Slot} {rest : List Value} {own name : String} {ce : Cell} {q : Addr} (hown : s.vm.findClass own = some m.cls) (x : ExceptionTableEntry) (suf : List ExceptionTableEntry) (hsplit : c.exceptionTable.toList = x :: suf) (hx : covers x pc = true) (h0 : x.catchType ≠ 0) (hlink : (Cond.classLink own x.catchType name).before args s = true) (hcast : ∃ k, s.vm.findClass name = some k ∧ s.vm.assignable ce.cls k = true) (hcell : H[q]? = some ce) (hv : ce.vm = .none) (kk : W p l e R s m args below meth c H locs cells slots Q (F0 m x.handlerPc ls [.ref q])) : vx_W p l e R s m args below meth c H locs cells slots Q (F0 m pc ls rest) q := by
  intro T hT X
  have hpl : e.platform.magicAccessors = ({} : Platform).magicAccessors := by rw [X.admits.platform]
  obtain ⟨k, hk, hfit⟩ := hcast
  obtain ⟨k', hk', hcl⟩ := Cond.classLink_spec hown hlink e.platform hpl
  cases Option.some.inj (hk.symm.trans hk')
  obtain ⟨dk, _, _, kt, hd, _, _, _, _, hkt, _, hopen⟩ := hcl.here
  have hcl0 := X.warmed.classLinks hcl
  have hW' : s.WarmedH (T.vm.noted m.cls x.catchType (.cls k)) := X.warmed.noted hd hopen (State.rightAt_cls hcl)
  obtain ⟨kt', hkt', -⟩ := X.warmed.alike.2.2 _ _ hkt
  have hfit' : T.vm.assignable ce.cls k = true := by rw [X.warmed.alike.assignable]; exact hfit
  obtain ⟨t, a1, b1⟩ := kk (T.setVm (T.vm.noted m.cls x.catchType (.cls k))) hT (X.noted hW')
  refine ⟨t, ?_, b1⟩
  have hfind := ct_find (e := e) (S := (T.setTop (F0 m pc ls rest)).pushFrame (.throwing q)) (f := F0 m pc ls rest) (a := q) (meth := meth) (code := c) (cell := ce) (x := x) (t := suf) (k := k) X.method' X.code hsplit hx h0 hcl0 (by show T.heap[q]? = some ce; rw [hT]; exact hcell) (fun q9 h9 => by rw [hv] at h9; cases h9) (Vm.classAt_of_assignable hfit' ⟨kt', hkt'⟩) ⟨kt', hkt'⟩ hfit'
  obtain ⟨hgo, hw⟩ := X.here.throwing (g := F0 m pc ls rest) q
  refine Steps.head hgo hw ?_
  have hst : (stepThrowing e ((T.setTop (F0 m pc ls rest)).pushFrame (.throwing q)) q (.java (F0 m pc ls rest) :: below)).Is ((((T.setTop (F0 m pc ls rest)).pushFrame (.throwing q)).setVm (T.vm.noted m.cls x.catchType (.cls k))).setFrames (.java { F0 m pc ls rest with pc := x.handlerPc, stack := [.ref q] } :: below)) [] := by
    simp only [stepThrowing, searchFrame, vmDo]
    generalize hr : Sem.go _ e false [] _ = res
    obtain ⟨as, rfl, ha⟩ := Sem.eq_ok_of hr (a := Handler.found x.handlerPc) (s' := ((T.setTop (F0 m pc ls rest)).pushFrame (.throwing q)).setVm (T.vm.noted m.cls x.catchType (.cls k))) (acts' := []) (by simp [hfind]; rfl)
    exact ⟨rfl, ha⟩
  obtain ⟨g1, hfr⟩ := X.frames_eq
  have hfr' : (T.setVm (T.vm.noted m.cls x.catchType (.cls k))).frames = .java g1 :: below := hfr
  rw [State.setTop_of_frames _ hfr'] at a1
  rw [stepThread_throwing (frames_entered X.here.top _), hfr, List.tail_cons, hst.1, State.pushFrame, State.setTop_of_frames _ hfr, State.setFrames_setFrames, show ∀ (F : List Frame) (v : Vm), (T.setFrames F).setVm v = (T.setVm v).setFrames F from fun _ _ => rfl, State.setFrames_setFrames]
  exact a1
/-! the law's own chair -/
def lchW (c w : Int) (σ : Mem) (Q : AV → Mem → Prop) : Prop := InR c ∧ InR w ∧ planB σ 6 ∧ ((0 ≤ c ∧ c < pcnt σ 6 2) ∧ 0 ≤ w ∧ w ≤ 3 → InR (chv σ c w) ∧ Q (0, 0) (up σ 9000 0 (chv σ c w))) ∧ (¬ ((0 ≤ c ∧ c < pcnt σ 6 2) ∧ 0 ≤ w ∧ w ≤ 3) → Q (0, 1) σ)
def amCallH (E : Nat → State → Prop) (d mc ms : Nat) (T : Int → Kd) (av : List AV) (σ0 : Mem) (Q : AV → Mem → Prop) : Prop :=
  ∀ (l : Launch), l.stackTraces = false → ∀ (D : va_G) (ca : Nat → ClassId) (n0 : Nat) (ρ0 : Int → Nat), Met l yL_chair (.codeWith yL_chair cL_chair 5 (some .int) [(0, 10, 13, 13)] :: TBL) (amR d mc ms) (amPcE E D ca T n0 ρ0 σ0 av) (amQc D ca T n0 ρ0 σ0 Q) mc ms (fun q => n0 ≤ q)

def a_L_chair  : AC := [(0, vAload 3 1), (1, vI 0 2), (2, vAload 0 3), (3, vIload 1 4), (4, vIload 2 5), (5, vBad), (8, vI2l 9), (9, vLast TT 10), (10, vGoto 17), (13, vBad), (15, vI 1 16), (16, vIret), (17, vI 0 18), (18, vIret)]
theorem k_L_chair_0  : look a_L_chair 0 = vAload 3 1 := rfl
theorem k_L_chair_1  : look a_L_chair 1 = vI 0 2 := rfl
theorem k_L_chair_2  : look a_L_chair 2 = vAload 0 3 := rfl
theorem k_L_chair_3  : look a_L_chair 3 = vIload 1 4 := rfl
theorem k_L_chair_4  : look a_L_chair 4 = vIload 2 5 := rfl
theorem k_L_chair_5  : look a_L_chair 5 = vBad := rfl
theorem k_L_chair_8  : look a_L_chair 8 = vI2l 9 := rfl
theorem k_L_chair_9  : look a_L_chair 9 = vLast TT 10 := rfl
theorem k_L_chair_10  : look a_L_chair 10 = vGoto 17 := rfl
theorem k_L_chair_13  : look a_L_chair 13 = vBad := rfl
theorem k_L_chair_15  : look a_L_chair 15 = vI 1 16 := rfl
theorem k_L_chair_16  : look a_L_chair 16 = vIret := rfl
theorem k_L_chair_17  : look a_L_chair 17 = vI 0 18 := rfl
theorem k_L_chair_18  : look a_L_chair 18 = vIret := rfl
theorem o_L_chair {X : amX}  (e1 : XT X = TT) (e2 : XD X = 7) (e3 : XC X = 1) (e4 : XS X = 6) (hin : (XM X).name = "chair") (hE : Eno (Xn X) (Xst X)) (hB : amB X RL cL_chair (some .int) 5) : ∀ pc, amOK X pc (look a_L_chair pc) := by
  have hT : amTok (XT X) := e1 ▸ TT_ok
  refine look_ok ?_
  unfold a_L_chair
  refine fc (ok_aload_n hB dL_chair_0) ?_
  refine fc (ok_iconst hB dL_chair_1) ?_
  refine fc (ok_aload_n hB dL_chair_2) ?_
  refine fc (ok_iload_n hB dL_chair_3) ?_
  refine fc (ok_iload_n hB dL_chair_4) ?_
  refine fc (ok_bad) ?_
  refine fc (ok_i2l hB dL_chair_8) ?_
  refine fc (okt_lastore e1 hB dL_chair_9) ?_
  refine fc (ok_goto hB (t := 17) (by decide) dL_chair_10) ?_
  refine fc (ok_bad) ?_
  refine fc (ok_iconst hB dL_chair_15) ?_
  refine fc (ok_iret hB dL_chair_16) ?_
  refine fc (ok_iconst hB dL_chair_17) ?_
  refine fc (ok_iret hB dL_chair_18) ?_
  exact fn


theorem wd_1228 : Cond.methodLink RL 7 yX11_chair ∈ TBL := tb_tab (List.mem_of_getElem? (i := 1228) (by decide +kernel)) rfl
theorem wd_1231 : Cond.code yX11_chair cX11_chair 3 (some .int) ∈ TBL := tb_tab (List.mem_of_getElem? (i := 1231) (by decide +kernel)) rfl
theorem lk_L_7 : amLk RL 7 yX11_chair cX11_chair 3 (some .int) 2 := ⟨wd_1228, wd_1, wd_1231, by decide +kernel, by decide +kernel, by decide⟩
theorem wd_1229 : Cond.instanceMethod yX11_chair ∈ TBL := tb_tab (List.mem_of_getElem? (i := 1229) (by decide +kernel)) rfl
theorem wd_1230 : Cond.selects RX11 yX11_chair yX11_chair ∈ TBL := tb_tab (List.mem_of_getElem? (i := 1230) (by decide +kernel)) rfl
theorem wd_1227 : Cond.classLink RL 13 "java/util/NoSuchElementException" ∈ TBL := tb_tab (List.mem_of_getElem? (i := 1227) (by decide +kernel)) rfl
set_option maxRecDepth 100000 in
set_option maxHeartbeats 4000000 in
theorem s_L_chair {c w : Int} {σ : Mem} {Q : AV → Mem → Prop} (hw : lchW c w σ Q) : amCallH Ech 7 1 6 TT [(27, 0), (0, c), (0, w), (9, 9000)] σ Q := by
  obtain ⟨hc, hw, hp, hgood, hbad⟩ := hw
  intro l hl D ca n0 ρ0
  refine va_MetW (cc := cL_chair) (maxL := 5) (ret := some .int) (hh := [(0, 10, 13, 13)]) (by decide +kernel) rfl ?_
  intro p e s m args below meth c0 s₁ B hml hv9
  obtain ⟨⟨rfl, hn0, hW, hK0, hst, hok⟩, hE⟩ := hv9
  have hts0 := atoms_spec (ws := .codeWith yL_chair cL_chair 5 (some .int) [(0, 10, 13, 13)] :: TBL) B.pre
  have htab : c0.exceptionTable.toList = tableOf [(0, 10, 13, 13)] := vx_table (x := yL_chair) B (hts0 _ List.mem_cons_self)
  have hB : amB (p, l, e, s, m, (([(27, 0), (0, c), (0, w), (9, 9000)] : List AV).map (am_val ρ0)).toArray, below, meth, c0, D, ca, n0, TT, ρ0, σ, 7, 1, 6, 5, Q) RL cL_chair (some .int) 5 :=
    ⟨B.exec, B.bytes, B.returns, hml, rfl, findClass_of_methodNamed B.named, fun w hw => hts0 w (List.mem_cons_of_mem _ hw), B.notSynchronized, hK0, hn0, hst⟩
  have hA := o_L_chair rfl rfl rfl rfl (name_of_methodNamed B.named B.method).1 trivial hB
  refine ent_go (w := 7) (Q := Q) (Nat.le_of_ble_eq_true rfl) (by simp) hok hW ?_
  refine vcs_sound (A := look a_L_chair) (cuts := [5]) (I := fun pc ls st τ => pc = 5 ∧ τ = σ ∧ st = [(0, w), (0, c), (27, 0), (0, 0), (9, 9000)] ∧ ls = [(27, 0), (0, c), (0, w), (9, 9000), (6, 0), (6, 0), (6, 0)]) hA (fun pc ls st τ h => ?_) 60 0 _ _ _ ?_
  · obtain ⟨rfl, e9, rfl, rfl⟩ := h
    rw [e9]
    clear e9
    -- behind the call
    have J8 : (0 ≤ c ∧ c < pcnt σ 6 2) ∧ 0 ≤ w ∧ w ≤ 3 → amJ (p, l, e, s, m, (([(27, 0), (0, c), (0, w), (9, 9000)] : List AV).map (am_val ρ0)).toArray, below, meth, c0, D, ca, n0, TT, ρ0, σ, 7, 1, 6, 5, Q) 8 [(27, 0), (0, c), (0, w), (9, 9000), (6, 0), (6, 1), (6, 6)] [(0, chv σ c w), (0, 0), (9, 9000)] σ := fun good => by
      obtain ⟨hv, q8⟩ := hgood good
      refine vcs_sound (A := look a_L_chair) (cuts := []) (I := fun _ _ _ _ => False) hA (fun _ _ _ _ h => absurd h id) 60 8 _ _ _ ?_
      generalize chv σ c w = z at *
      simp only [vNew_e, vNewA_e, vCallI_e0, vCallI_e1, vCallI_e2, vCallI_e3, vCallMA_e0, vCallMA_e1, vCallSA_e2, vObj_e, cnt_e, List.length_cons, List.length_nil, Nat.zero_add, Nat.reduceAdd, Nat.reduceLT, Int.reduceAdd, Nat.reduceLeDiff, ↓reduceIte, vSw2_e, swP_n, swP_c, vI_e, vL_e, vNull_e, vIload_e, vLload_e, vAload_e, vIstore_e, vLstore_e, vAstore_e, vIinc_e, vIadd_e, vIsub_e, vImul_e, vIand_e, vIor_e, vIxor_e, vIshl_e, vIshr_e, vIushr_e, vIdiv_e, vIrem_e, vLadd_e, vLsub_e, vLmul_e, vLand_e, vLor_e, vLxor_e, vLdiv_e, vLrem_e, vLushr_e, vLshl_e, vLcmp_e, vIneg_e, vI2l_e, vL2i_e, vI2b_e, vI2c_e, vDup_e, vPop_e, vDup2_e, vGoto_e, vIcEq_e, vIfEq_e, vIcNe_e, vIfNe_e, vIcLt_e, vIfLt_e, vIcGe_e, vIfGe_e, vIcGt_e, vIfGt_e, vIcLe_e, vIfLe_e, vNonnull_e, vSw_e, vGetI_e, vGetL_e, vGetR_e, vPutI_e, vPutZ_e, vPutL_e, vPutR_e, vIald_e, vIald_s, vLald_e, vBald_e, vBald_s, vAald_e, vIast_e, vLast_e, vBast_e, vAast_e, vAlen_e8, vAlen_e9, vAlen_e10, vAlen_e11, vAlen_e5, vAlen_e3, vGets_e, vCompact_e, vLdcS_e, vIret_e, vZret_e, vCret_e, vBret_e, vLret_e, vVret_e, vAret_e, vCallM_e0, vCallMV_e0, vCallS_e0, vCallSV_e0, vCallM_e1, vCallMV_e1, vCallS_e1, vCallSV_e1, vCallM_e2, vCallMV_e2, vCallS_e2, vCallSV_e2, vCallM_e3, vCallMV_e3, vCallS_e3, vCallSV_e3, vCallM_e4, vCallMV_e4, vCallS_e4, vCallSV_e4, vCallM_e5, vCallMV_e5, vCallS_e5, vCallSV_e5, vCallM_e6, vCallMV_e6, vCallS_e6, vCallSV_e6, vCallM_e7, vCallMV_e7, vCallS_e7, vCallSV_e7, vBad_e, vStrVal_e, vStrCod_e, vForm_e, vCallT_e0, vCallT_e1, vCallT_e2, vCopy_e, rf_0_0, rf_0_1, rf_0_2, rf_0_3, rf_0_4, rf_0_7, rf_0_10, rf_0_11, rf_0_12, rf_0_13, rf_0_14, rf_0_15, rf_0_16, rf_1_0, rf_3_0, rf_3_1, rf_6_0, rf_6_1, rf_9_0, rf_9_1, rf_9_3, rf_13_0, rf_13_1, rf_13_2, rf_16_0, rf_16_1, rf_16_2, rf_16_3, rf_21_0, rf_21_1, rf_21_2, rf_21_3, rf_26_0, rf_26_1, rf_26_2, rf_26_3, rf_26_4, rf_26_5, rf_26_6, rf_31_0, rf_31_2, rf_31_5, rf_31_6, rf_36_0, rf_36_1, rf_36_2, rf_36_3, rf_39_0, rf_39_1, rf_39_2, rf_41_0, rf_41_1, rf_41_2, rf_41_3, rf_5000_1, rf_5000_2, rf_5000_3, rf_5000_4, rf_5000_5, rf_5000_15, rf_5000_16, rf_5000_18, rf_5000_19, rf_5000_20, rf_5000_21, rf_5000_22, rf_5000_23, rf_5000_24, rf_5000_25, rf_5000_26, rf_5000_27, rf_5000_36, rf_5000_37, rf_5000_40, rf_5000_41, rf_5000_42, rf_5000_43, rf_5000_44, rf_5000_45, rf_5000_47, rf_5000_52, rf_5000_54, rf_5000_55, rf_100_0, rf_100_1, rf_103_0, rf_103_1, rf_106_0, rf_106_1, rf_109_0, rf_109_1, al_2, al_4, al_5, al_7, al_8, al_10, al_11, al_12, al_14, al_15, al_17, al_18, al_19, al_20, al_22, al_23, al_24, al_25, al_27, al_28, al_29, al_30, al_32, al_33, al_34, al_35, al_37, al_38, al_40, al_42, al_5001, al_5002, al_5003, al_5004, al_5005, al_5006, al_5007, al_5008, al_5009, al_5010, al_5011, al_5012, al_5013, al_5014, al_5015, al_5016, al_5017, al_5018, al_5019, al_5020, al_5021, al_5022, al_5023, al_5024, al_5025, al_5026, al_9000, al_101, al_102, al_104, al_105, al_107, al_108, al_110, al_111, vcs_e, lg_c0, lg_cs, lg_nil, set_c0, set_cs, okst_0, okst_s, acok_n, acok_c, List.contains_nil, List.contains_cons, Bool.or_false, Bool.false_or, Bool.false_eq_true, if_false, if_true, ite_self, ne_eq, true_and, and_true, not_false_eq_true, not_true_eq_false, false_imp_iff, true_imp_iff, Nat.ble_eq, Bool.and_eq_true, reduceCtorEq, or_false, false_or, or_true, true_or, false_and, and_false, and_self, Int.reduceLE, Int.reduceAdd, Int.reduceSub, Int.reduceMul, Int.reduceNeg, Int.reduceLT, Int.reduceEq, Int.reduceNe, Nat.reduceBEq, Nat.reduceBNe, Nat.reduceEqDiff, amCmp_in, amCmp_lt, amCmp_le, amCmp_gt, amCmp_ge, amCmp_eq, amCmp_ne, Nat.reduceLeDiff, Nat.reduceSub, Bool.and_true, Bool.true_and, Bool.and_self, Bool.or_true, Bool.true_or, isRf_3, isRf_4, isRf_5, isRf_8, isRf_9, isRf_10, isRf_11, isRf_15, isRf_16, isRf_17, isRf_18, isRf_19, isRf_20, isRf_21, isRf_22, isRf_23, isRf_24, isRf_25, isRf_26, isRf_27, isRf_28, k_L_chair_0, k_L_chair_1, k_L_chair_2, k_L_chair_3, k_L_chair_4, k_L_chair_5, k_L_chair_8, k_L_chair_9, k_L_chair_10, k_L_chair_13, k_L_chair_15, k_L_chair_16, k_L_chair_17, k_L_chair_18, up_s, up_nj, up_na, up_up, savR_o, cpy_o, fillm_o, setAud_o, setv_o, setv_s, Int.reduceNe, Int.reduceEq, Int.reduceLT, Int.reduceAdd, not_false_eq_true, ne_eq, or_true, true_or]
      repeat' (first | assumption | apply And.intro | intro _)
      all_goals first | omega | exact absurd trivial (by assumption) | exact q8
    have J15 : ¬ ((0 ≤ c ∧ c < pcnt σ 6 2) ∧ 0 ≤ w ∧ w ≤ 3) → amJ (p, l, e, s, m, (([(27, 0), (0, c), (0, w), (9, 9000)] : List AV).map (am_val ρ0)).toArray, below, meth, c0, D, ca, n0, TT, ρ0, σ, 7, 1, 6, 5, Q) 15 [(27, 0), (0, c), (0, w), (9, 9000), (6, 0), (6, 1), (6, 6)] [] σ := fun bad => by
      have q8 := hbad bad
      refine vcs_sound (A := look a_L_chair) (cuts := []) (I := fun _ _ _ _ => False) hA (fun _ _ _ _ h => absurd h id) 60 15 _ _ _ ?_
      simp only [vNew_e, vNewA_e, vCallI_e0, vCallI_e1, vCallI_e2, vCallI_e3, vCallMA_e0, vCallMA_e1, vCallSA_e2, vObj_e, cnt_e, List.length_cons, List.length_nil, Nat.zero_add, Nat.reduceAdd, Nat.reduceLT, Int.reduceAdd, Nat.reduceLeDiff, ↓reduceIte, vSw2_e, swP_n, swP_c, vI_e, vL_e, vNull_e, vIload_e, vLload_e, vAload_e, vIstore_e, vLstore_e, vAstore_e, vIinc_e, vIadd_e, vIsub_e, vImul_e, vIand_e, vIor_e, vIxor_e, vIshl_e, vIshr_e, vIushr_e, vIdiv_e, vIrem_e, vLadd_e, vLsub_e, vLmul_e, vLand_e, vLor_e, vLxor_e, vLdiv_e, vLrem_e, vLushr_e, vLshl_e, vLcmp_e, vIneg_e, vI2l_e, vL2i_e, vI2b_e, vI2c_e, vDup_e, vPop_e, vDup2_e, vGoto_e, vIcEq_e, vIfEq_e, vIcNe_e, vIfNe_e, vIcLt_e, vIfLt_e, vIcGe_e, vIfGe_e, vIcGt_e, vIfGt_e, vIcLe_e, vIfLe_e, vNonnull_e, vSw_e, vGetI_e, vGetL_e, vGetR_e, vPutI_e, vPutZ_e, vPutL_e, vPutR_e, vIald_e, vIald_s, vLald_e, vBald_e, vBald_s, vAald_e, vIast_e, vLast_e, vBast_e, vAast_e, vAlen_e8, vAlen_e9, vAlen_e10, vAlen_e11, vAlen_e5, vAlen_e3, vGets_e, vCompact_e, vLdcS_e, vIret_e, vZret_e, vCret_e, vBret_e, vLret_e, vVret_e, vAret_e, vCallM_e0, vCallMV_e0, vCallS_e0, vCallSV_e0, vCallM_e1, vCallMV_e1, vCallS_e1, vCallSV_e1, vCallM_e2, vCallMV_e2, vCallS_e2, vCallSV_e2, vCallM_e3, vCallMV_e3, vCallS_e3, vCallSV_e3, vCallM_e4, vCallMV_e4, vCallS_e4, vCallSV_e4, vCallM_e5, vCallMV_e5, vCallS_e5, vCallSV_e5, vCallM_e6, vCallMV_e6, vCallS_e6, vCallSV_e6, vCallM_e7, vCallMV_e7, vCallS_e7, vCallSV_e7, vBad_e, vStrVal_e, vStrCod_e, vForm_e, vCallT_e0, vCallT_e1, vCallT_e2, vCopy_e, rf_0_0, rf_0_1, rf_0_2, rf_0_3, rf_0_4, rf_0_7, rf_0_10, rf_0_11, rf_0_12, rf_0_13, rf_0_14, rf_0_15, rf_0_16, rf_1_0, rf_3_0, rf_3_1, rf_6_0, rf_6_1, rf_9_0, rf_9_1, rf_9_3, rf_13_0, rf_13_1, rf_13_2, rf_16_0, rf_16_1, rf_16_2, rf_16_3, rf_21_0, rf_21_1, rf_21_2, rf_21_3, rf_26_0, rf_26_1, rf_26_2, rf_26_3, rf_26_4, rf_26_5, rf_26_6, rf_31_0, rf_31_2, rf_31_5, rf_31_6, rf_36_0, rf_36_1, rf_36_2, rf_36_3, rf_39_0, rf_39_1, rf_39_2, rf_41_0, rf_41_1, rf_41_2, rf_41_3, rf_5000_1, rf_5000_2, rf_5000_3, rf_5000_4, rf_5000_5, rf_5000_15, rf_5000_16, rf_5000_18, rf_5000_19, rf_5000_20, rf_5000_21, rf_5000_22, rf_5000_23, rf_5000_24, rf_5000_25, rf_5000_26, rf_5000_27, rf_5000_36, rf_5000_37, rf_5000_40, rf_5000_41, rf_5000_42, rf_5000_43, rf_5000_44, rf_5000_45, rf_5000_47, rf_5000_52, rf_5000_54, rf_5000_55, rf_100_0, rf_100_1, rf_103_0, rf_103_1, rf_106_0, rf_106_1, rf_109_0, rf_109_1, al_2, al_4, al_5, al_7, al_8, al_10, al_11, al_12, al_14, al_15, al_17, al_18, al_19, al_20, al_22, al_23, al_24, al_25, al_27, al_28, al_29, al_30, al_32, al_33, al_34, al_35, al_37, al_38, al_40, al_42, al_5001, al_5002, al_5003, al_5004, al_5005, al_5006, al_5007, al_5008, al_5009, al_5010, al_5011, al_5012, al_5013, al_5014, al_5015, al_5016, al_5017, al_5018, al_5019, al_5020, al_5021, al_5022, al_5023, al_5024, al_5025, al_5026, al_9000, al_101, al_102, al_104, al_105, al_107, al_108, al_110, al_111, vcs_e, lg_c0, lg_cs, lg_nil, set_c0, set_cs, okst_0, okst_s, acok_n, acok_c, List.contains_nil, List.contains_cons, Bool.or_false, Bool.false_or, Bool.false_eq_true, if_false, if_true, ite_self, ne_eq, true_and, and_true, not_false_eq_true, not_true_eq_false, false_imp_iff, true_imp_iff, Nat.ble_eq, Bool.and_eq_true, reduceCtorEq, or_false, false_or, or_true, true_or, false_and, and_false, and_self, Int.reduceLE, Int.reduceAdd, Int.reduceSub, Int.reduceMul, Int.reduceNeg, Int.reduceLT, Int.reduceEq, Int.reduceNe, Nat.reduceBEq, Nat.reduceBNe, Nat.reduceEqDiff, amCmp_in, amCmp_lt, amCmp_le, amCmp_gt, amCmp_ge, amCmp_eq, amCmp_ne, Nat.reduceLeDiff, Nat.reduceSub, Bool.and_true, Bool.true_and, Bool.and_self, Bool.or_true, Bool.true_or, isRf_3, isRf_4, isRf_5, isRf_8, isRf_9, isRf_10, isRf_11, isRf_15, isRf_16, isRf_17, isRf_18, isRf_19, isRf_20, isRf_21, isRf_22, isRf_23, isRf_24, isRf_25, isRf_26, isRf_27, isRf_28, k_L_chair_0, k_L_chair_1, k_L_chair_2, k_L_chair_3, k_L_chair_4, k_L_chair_5, k_L_chair_8, k_L_chair_9, k_L_chair_10, k_L_chair_13, k_L_chair_15, k_L_chair_16, k_L_chair_17, k_L_chair_18, up_s, up_nj, up_na, up_up, savR_o, cpy_o, fillm_o, setAud_o, setv_o, setv_s, Int.reduceNe, Int.reduceEq, Int.reduceLT, Int.reduceAdd, not_false_eq_true, ne_eq, or_true, true_or]
      repeat' (first | assumption | apply And.intro | intro _)
      all_goals first | omega | exact absurd trivial (by assumption) | exact q8
    intro ρ H locs LS k n hW1 hS hl1 hokl hoks hk hn hag
    have hk0 : (k : Int) ≤ 0 := hk.1
    have hn0' : (n : Int) ≤ 0 := hn.1
    have hts : ∀ w9 ∈ TBL, w9.before (([(27, 0), (0, c), (0, w), (9, 9000)] : List AV).map (am_val ρ0)).toArray s = true := fun w hw => hts0 w (List.mem_cons_of_mem _ hw)
    have hown : s.vm.findClass RL = some m.cls := findClass_of_methodNamed B.named
    have o1 := okl_c.mp hoks
    have o2 := okl_c.mp o1.2
    have o3 := okl_c.mp o2.2
    obtain ⟨hlive, htg⟩ := okv_at o3.1 (by decide) (Int.le_refl 0)
    obtain ⟨V, hnd, hV, hV0, hPh, hD, hcl⟩ := id hW1
    obtain ⟨cr, hTa⟩ := tg_obj (c := 11) htg (fun x hx => TT_ok 0 x hx)
    obtain ⟨q, hq, hq2⟩ := ws_at (ρ := ρ) (ca := ca) (T := TT) (σ := σ) ((hV 0).mpr hlive)
    rw [hTa] at hq2
    have hM := s_X11_chair (c := c) (w := w) (σ := σ) (Q := fun r τ => r = (0, chv σ c w) ∧ τ = σ ∧ ((0 ≤ c ∧ c < pcnt σ 6 2) ∧ 0 ≤ w ∧ w ≤ 3)) (QX := fun τ => τ = σ ∧ ¬ ((0 ≤ c ∧ c < pcnt σ 6 2) ∧ 0 ≤ w ∧ w ≤ 3)) hc hw hp (fun g => ⟨rfl, rfl, g⟩) (fun g => ⟨rfl, g⟩) l hl D ca n0 ρ
    have hrun := vx_runV (g := F0 m 5 LS (([(0, w), (0, c), (27, 0), (0, 0), (9, 9000)] : List AV).map (am_val ρ))) (cells := k) (slots := n) (locs := locs) (below := below) (meth := meth) (e := e) (p := p) (c := c0) (m := m) (R := amR 7 1 6) (cc := cL_chair) (own := RL) (index := 7) (As := ([(0, c), (0, w)] : List AV).map (am_val ρ)) (rest := ([(0, 0), (9, 9000)] : List AV).map (am_val ρ)) (b := ρ 0) (C := RX11) ⟨B.exec, B.bytes, hml, hown, hts⟩ hM ⟨lk_L_7.B (d := 7) (mc := 1) (ms := 6) hts (by decide), hts _ wd_1229, hts _ wd_1230⟩
      ⟨amPcE.blind Ech_m, va_recv hK0 hPh (ci := 11) (q := (RX11, TX11, 17)) rfl hq2, fun U hU hWm => ⟨⟨rfl, by rw [hU]; exact Nat.le_trans hn0 hS.1, by rw [hU]; exact hW1, va_K.moved hWm.alike hK0, hst.move hWm (fun b h1 h2 => by rw [hU]; exact hS.2.1 b h1 h2) hag.2, okl_c.mpr ⟨o3.1, okl_c.mpr ⟨o2.1, okl_c.mpr ⟨o1.1, okl_nil⟩⟩⟩⟩, Ech_m n0 s U hE hWm (fun b h1 h2 => by rw [hU]; exact hS.2.1 b h1 h2)⟩⟩ rfl rfl hl1.1 rfl (lv_room (by show (1 : Nat) + (1 + 0) ≤ 8; decide)) dL_chair_5 ⟨by show k + 1 ≤ 1; omega, by show n + 6 ≤ 6; omega⟩
    have hS9 : ∀ (st₀ t T' : State) (L : List Loc), st₀.heap = H → T'.heap = t.heap → (∀ q ∈ L, n0 ≤ q.base) → va_F (fun q => n0 ≤ q) st₀ t → va_S (fun q => n0 ≤ q) s.heap T'.heap (locs ++ L) := fun st₀ t T' L h0 e1 hL hF => (vx_keep h0 e1 hS (fun _ _ h => h) (fun _ h => h) hL hF).2.2
    intro T hT X0
    rcases hrun T hT X0 with ⟨v, st₀, t, T', L, h0, X', hL, e1, e2, ⟨⟨r, σ', ρ', hv1, ⟨rfl, e8, good⟩, hW2, hokr, hag'⟩, hF⟩, stp⟩ | ⟨q9, st₀, t, T', L, E9, ce, h0, X', hL, e1, e2, ⟨rfl, ⟨σ', ρ', ⟨e8, bad⟩, hW2, hag'⟩, hF⟩, hce, hcv, hcl9, stp⟩
    · have e8' := e8.symm
      subst e8'
      have key := J8 good ρ' T'.heap (locs ++ L) LS (k + 1) (n + 6) (by rw [e1]; exact hW2) (hS9 st₀ t T' L h0 e1 hL hF) (by rw [show lvl ρ' 0 [(27, 0), (0, c), (0, w), (9, 9000), (6, 0), (6, 1), (6, 6)] = lvl ρ' 0 [(27, 0), (0, c), (0, w), (9, 9000), (6, 0), (6, 0), (6, 0)] from rfl, ag_lvl hag' _ 0 hokl]; exact hl1) (by
        intro v hv
        have hv : v = (27, 0) ∨ v = (0, c) ∨ v = (0, w) ∨ v = (9, 9000) ∨ v = (6, 0) ∨ v = (6, 1) ∨ v = (6, 6) := by simpa using hv
        rcases hv with rfl | rfl | rfl | rfl | rfl | rfl | rfl
        · exact okv_ag hag' o3.1
        · exact okv_s (by decide)
        · exact okv_s (by decide)
        · exact okv_ag hag' (hokl _ (by simp))
        · exact okv_s (by decide)
        · exact okv_s (by decide)
        · exact okv_s (by decide)) (okl_c.mpr ⟨hokr, fun v hv => okv_ag hag' (o3.2 v hv)⟩) ⟨by show ((k + 1 : Nat) : Int) ≤ 1; omega, by show (1 : Int) ≤ 1; omega⟩ ⟨by show ((n + 6 : Nat) : Int) ≤ 6; omega, by show (6 : Int) ≤ 6; omega⟩ (ag_tr hag hag')
      rw [show ([(0, chv σ c w), (0, 0), (9, 9000)] : List AV).map (am_val ρ') = am_val ρ' (0, chv σ c w) :: ([(0, 0), (9, 9000)] : List AV).map (am_val ρ) from by rw [List.map_cons, ag_st hag' o3.2 (by simp)]] at key
      obtain ⟨t2, a1, b1⟩ := key T' rfl X'
      refine ⟨t2, stp t2 ?_, b1⟩
      have e9 : v = some (am_val ρ' (0, chv σ c w)) := by
        have := hv1
        simp only [Outcome.returned.injEq] at this
        rw [this]; rfl
      rw [e9]
      exact a1
    · have e8' := e8.symm
      subst e8'
      have hk15 : vx_W p l e (amR 7 1 6) s m (([(27, 0), (0, c), (0, w), (9, 9000)] : List AV).map (am_val ρ0)).toArray below meth c0 T'.heap (locs ++ L) (k + 1) (n + 6) (MQ below (amQc D ca TT n0 ρ0 σ Q) (([(27, 0), (0, c), (0, w), (9, 9000)] : List AV).map (am_val ρ0)).toArray s 1 6 (fun q => n0 ≤ q)) (F0 m 5 LS (([(0, 0), (9, 9000)] : List AV).map (am_val ρ))) q9 := by
        refine vxc (own := RL) (name := "java/util/NoSuchElementException") (ce := ce) hown ⟨0, 10, 13, 13⟩ [] (by rw [htab]; rfl) (by decide) (by decide) (hts _ wd_1227) (chB_cast hE.2.2.2 hcl9) (by rw [e1]; exact hce) hcv ?_
        refine lv_astore (i := 4) B.exec B.bytes dL_chair_13 hl1 (by decide) rfl (fun LS' hl' => ?_)
        have key := J15 bad ρ' T'.heap (locs ++ L) LS' (k + 1) (n + 6) (by rw [e1]; exact hW2) (hS9 st₀ t T' L h0 e1 hL hF) (lv_mono hl' (fun q hq => by
          rw [show lvl ρ' 0 [(27, 0), (0, c), (0, w), (9, 9000), (6, 0), (6, 1), (6, 6)] = lvl ρ' 0 [(27, 0), (0, c), (0, w), (9, 9000), (6, 0), (6, 0), (6, 0)] from rfl, ag_lvl hag' _ 0 hokl] at hq
          have hq : q = (0, am_val ρ (27, 0)) ∨ q = (1, am_val ρ (0, c)) ∨ q = (2, am_val ρ (0, w)) ∨ q = (3, am_val ρ (9, 9000)) := by simpa [lvl] using hq
          refine List.mem_cons_of_mem _ (List.mem_filter.mpr ⟨?_, ?_⟩)
          · rcases hq with rfl | rfl | rfl | rfl <;> simp [lvl]
          · rcases hq with rfl | rfl | rfl | rfl <;> simp [am_cat])) (by
          intro v hv
          have hv : v = (27, 0) ∨ v = (0, c) ∨ v = (0, w) ∨ v = (9, 9000) ∨ v = (6, 0) ∨ v = (6, 1) ∨ v = (6, 6) := by simpa using hv
          rcases hv with rfl | rfl | rfl | rfl | rfl | rfl | rfl
          · exact okv_ag hag' o3.1
          · exact okv_s (by decide)
          · exact okv_s (by decide)
          · exact okv_ag hag' (hokl _ (by simp))
          · exact okv_s (by decide)
          · exact okv_s (by decide)
          · exact okv_s (by decide)) okl_nil ⟨by show ((k + 1 : Nat) : Int) ≤ 1; omega, by show (1 : Int) ≤ 1; omega⟩ ⟨by show ((n + 6 : Nat) : Int) ≤ 6; omega, by show (6 : Int) ≤ 6; omega⟩ (ag_tr hag hag')
        exact key
      obtain ⟨t2, a1, b1⟩ := hk15 T' rfl X'
      exact ⟨t2, stp.trans a1, b1⟩
  · change vcs _ _ _ _ 60 0 [(27, 0), (0, c), (0, w), (9, 9000), (6, 0), (6, 0), (6, 0)] [] σ
    simp only [vNew_e, vNewA_e, vCallI_e0, vCallI_e1, vCallI_e2, vCallI_e3, vCallMA_e0, vCallMA_e1, vCallSA_e2, vObj_e, cnt_e, List.length_cons, List.length_nil, Nat.zero_add, Nat.reduceAdd, Nat.reduceLT, Int.reduceAdd, Nat.reduceLeDiff, ↓reduceIte, vSw2_e, swP_n, swP_c, vI_e, vL_e, vNull_e, vIload_e, vLload_e, vAload_e, vIstore_e, vLstore_e, vAstore_e, vIinc_e, vIadd_e, vIsub_e, vImul_e, vIand_e, vIor_e, vIxor_e, vIshl_e, vIshr_e, vIushr_e, vIdiv_e, vIrem_e, vLadd_e, vLsub_e, vLmul_e, vLand_e, vLor_e, vLxor_e, vLdiv_e, vLrem_e, vLushr_e, vLshl_e, vLcmp_e, vIneg_e, vI2l_e, vL2i_e, vI2b_e, vI2c_e, vDup_e, vPop_e, vDup2_e, vGoto_e, vIcEq_e, vIfEq_e, vIcNe_e, vIfNe_e, vIcLt_e, vIfLt_e, vIcGe_e, vIfGe_e, vIcGt_e, vIfGt_e, vIcLe_e, vIfLe_e, vNonnull_e, vSw_e, vGetI_e, vGetL_e, vGetR_e, vPutI_e, vPutZ_e, vPutL_e, vPutR_e, vIald_e, vIald_s, vLald_e, vBald_e, vBald_s, vAald_e, vIast_e, vLast_e, vBast_e, vAast_e, vAlen_e8, vAlen_e9, vAlen_e10, vAlen_e11, vAlen_e5, vAlen_e3, vGets_e, vCompact_e, vLdcS_e, vIret_e, vZret_e, vCret_e, vBret_e, vLret_e, vVret_e, vAret_e, vCallM_e0, vCallMV_e0, vCallS_e0, vCallSV_e0, vCallM_e1, vCallMV_e1, vCallS_e1, vCallSV_e1, vCallM_e2, vCallMV_e2, vCallS_e2, vCallSV_e2, vCallM_e3, vCallMV_e3, vCallS_e3, vCallSV_e3, vCallM_e4, vCallMV_e4, vCallS_e4, vCallSV_e4, vCallM_e5, vCallMV_e5, vCallS_e5, vCallSV_e5, vCallM_e6, vCallMV_e6, vCallS_e6, vCallSV_e6, vCallM_e7, vCallMV_e7, vCallS_e7, vCallSV_e7, vBad_e, vStrVal_e, vStrCod_e, vForm_e, vCallT_e0, vCallT_e1, vCallT_e2, vCopy_e, rf_0_0, rf_0_1, rf_0_2, rf_0_3, rf_0_4, rf_0_7, rf_0_10, rf_0_11, rf_0_12, rf_0_13, rf_0_14, rf_0_15, rf_0_16, rf_1_0, rf_3_0, rf_3_1, rf_6_0, rf_6_1, rf_9_0, rf_9_1, rf_9_3, rf_13_0, rf_13_1, rf_13_2, rf_16_0, rf_16_1, rf_16_2, rf_16_3, rf_21_0, rf_21_1, rf_21_2, rf_21_3, rf_26_0, rf_26_1, rf_26_2, rf_26_3, rf_26_4, rf_26_5, rf_26_6, rf_31_0, rf_31_2, rf_31_5, rf_31_6, rf_36_0, rf_36_1, rf_36_2, rf_36_3, rf_39_0, rf_39_1, rf_39_2, rf_41_0, rf_41_1, rf_41_2, rf_41_3, rf_5000_1, rf_5000_2, rf_5000_3, rf_5000_4, rf_5000_5, rf_5000_15, rf_5000_16, rf_5000_18, rf_5000_19, rf_5000_20, rf_5000_21, rf_5000_22, rf_5000_23, rf_5000_24, rf_5000_25, rf_5000_26, rf_5000_27, rf_5000_36, rf_5000_37, rf_5000_40, rf_5000_41, rf_5000_42, rf_5000_43, rf_5000_44, rf_5000_45, rf_5000_47, rf_5000_52, rf_5000_54, rf_5000_55, rf_100_0, rf_100_1, rf_103_0, rf_103_1, rf_106_0, rf_106_1, rf_109_0, rf_109_1, al_2, al_4, al_5, al_7, al_8, al_10, al_11, al_12, al_14, al_15, al_17, al_18, al_19, al_20, al_22, al_23, al_24, al_25, al_27, al_28, al_29, al_30, al_32, al_33, al_34, al_35, al_37, al_38, al_40, al_42, al_5001, al_5002, al_5003, al_5004, al_5005, al_5006, al_5007, al_5008, al_5009, al_5010, al_5011, al_5012, al_5013, al_5014, al_5015, al_5016, al_5017, al_5018, al_5019, al_5020, al_5021, al_5022, al_5023, al_5024, al_5025, al_5026, al_9000, al_101, al_102, al_104, al_105, al_107, al_108, al_110, al_111, vcs_e, lg_c0, lg_cs, lg_nil, set_c0, set_cs, okst_0, okst_s, acok_n, acok_c, List.contains_nil, List.contains_cons, Bool.or_false, Bool.false_or, Bool.false_eq_true, if_false, if_true, ite_self, ne_eq, true_and, and_true, not_false_eq_true, not_true_eq_false, false_imp_iff, true_imp_iff, Nat.ble_eq, Bool.and_eq_true, reduceCtorEq, or_false, false_or, or_true, true_or, false_and, and_false, and_self, Int.reduceLE, Int.reduceAdd, Int.reduceSub, Int.reduceMul, Int.reduceNeg, Int.reduceLT, Int.reduceEq, Int.reduceNe, Nat.reduceBEq, Nat.reduceBNe, Nat.reduceEqDiff, amCmp_in, amCmp_lt, amCmp_le, amCmp_gt, amCmp_ge, amCmp_eq, amCmp_ne, Nat.reduceLeDiff, Nat.reduceSub, Bool.and_true, Bool.true_and, Bool.and_self, Bool.or_true, Bool.true_or, isRf_3, isRf_4, isRf_5, isRf_8, isRf_9, isRf_10, isRf_11, isRf_15, isRf_16, isRf_17, isRf_18, isRf_19, isRf_20, isRf_21, isRf_22, isRf_23, isRf_24, isRf_25, isRf_26, isRf_27, isRf_28, k_L_chair_0, k_L_chair_1, k_L_chair_2, k_L_chair_3, k_L_chair_4, k_L_chair_5, k_L_chair_8, k_L_chair_9, k_L_chair_10, k_L_chair_13, k_L_chair_15, k_L_chair_16, k_L_chair_17, k_L_chair_18, up_s, up_nj, up_na, up_up, savR_o, cpy_o, fillm_o, setAud_o, setv_o, setv_s, Int.reduceNe, Int.reduceEq, Int.reduceLT, Int.reduceAdd, not_false_eq_true, ne_eq, or_true, true_or]
    repeat' (first | assumption | apply And.intro | intro _)
    all_goals first | omega | exact absurd trivial (by assumption) | exact ⟨rfl, rfl, rfl, rfl⟩

