/-! the law: its script, calls side by side -/
abbrev Xla (X : amX) : Launch := X.2.1
abbrev Xrh (X : amX) : Int → Nat := X.2.2.2.2.2.2.2.2.2.2.2.2.2.1
theorem amCall_mono {d mc ms : Nat} {T : Int → Kd} {y : MethodName} {cc : ByteArray} {maxL : Nat} {ret : Option FieldType} {av : List AV} {σ0 : Mem} {Q Q' : AV → Mem → Prop} (hQ : ∀ r τ, Q r τ → Q' r τ) (h : amCall d mc ms T y cc maxL ret av σ0 Q) : amCall d mc ms T y cc maxL ret av σ0 Q' := by
  intro l D ca n0 ρ0
  refine Jvm.Free.MetFree.mono (h l D ca n0 ρ0) (fun _ _ h => h) (fun _ _ _ _ _ h => h) ?_
  rintro a s o t _ ⟨⟨⟨r, σ, ρ, e1, hq, hW, hok, hag⟩, hF⟩, hL⟩
  exact ⟨⟨⟨r, σ, ρ, e1, hQ r σ hq, hW, hok, hag⟩, hF⟩, hL⟩
theorem amCallE_mono {E : Nat → State → Prop} {d mc ms : Nat} {T : Int → Kd} {y : MethodName} {cc : ByteArray} {maxL : Nat} {ret : Option FieldType} {av : List AV} {σ0 : Mem} {Q Q' : AV → Mem → Prop} (hQ : ∀ r τ, Q r τ → Q' r τ) (h : amCallE E d mc ms T y cc maxL ret av σ0 Q) : amCallE E d mc ms T y cc maxL ret av σ0 Q' := by
  intro l D ca n0 ρ0
  refine Jvm.Free.MetFree.mono (h l D ca n0 ρ0) (fun _ _ h => h) (fun _ _ _ _ _ h => h) ?_
  rintro a s o t _ ⟨⟨⟨r, σ, ρ, e1, hq, hW, hok, hag⟩, hF⟩, hL⟩
  exact ⟨⟨⟨r, σ, ρ, e1, hQ r σ hq, hW, hok, hag⟩, hF⟩, hL⟩
def wm (w : WP) : WP := fun av σ Q => ∃ Q1, w av σ Q1 ∧ ∀ r τ, Q1 r τ → Q r τ
theorem sm {w : WP} {d : Nat} {T : Int → Kd} {y : MethodName} {cc : ByteArray} {maxL : Nat} {ret : Option FieldType} (h : ∀ av σ Q, w av σ Q → amCall d 0 0 T y cc maxL ret av σ Q) : ∀ av σ Q, wm w av σ Q → amCall d 0 0 T y cc maxL ret av σ Q := fun av σ _ ⟨Q1, h1, h2⟩ => amCall_mono h2 (h av σ Q1 h1)
theorem smE {w : WP} {E : Nat → State → Prop} {d mc ms : Nat} {T : Int → Kd} {y : MethodName} {cc : ByteArray} {maxL : Nat} {ret : Option FieldType} (h : ∀ av σ Q, w av σ Q → amCallE E d mc ms T y cc maxL ret av σ Q) : ∀ av σ Q, wm w av σ Q → amCallE E d mc ms T y cc maxL ret av σ Q := fun av σ _ ⟨Q1, h1, h2⟩ => amCallE_mono h2 (h av σ Q1 h1)
def wTi6 : WP := fun av σ Q => ∃ d, d ≤ 6 ∧ w_X12_tickets d av σ Q
theorem sTi6 : ∀ av σ Q, wTi6 av σ Q → amCall 70 0 0 TT yX12_tickets cX12_tickets 4 (some .int) av σ Q := fun av σ Q ⟨d, h, hw⟩ => s_X12_tickets d h av σ Q hw
def wMo6 : WP := fun av σ Q => ∃ d, d ≤ 6 ∧ w_X12_most d av σ Q
theorem sMo6 : ∀ av σ Q, wMo6 av σ Q → amCall 70 0 0 TT yX12_most cX12_most 3 (some .int) av σ Q := fun av σ Q ⟨d, h, hw⟩ => s_X12_most d h av σ Q hw
def wBo4 : WP := fun av σ Q => ∃ d, d ≤ 4 ∧ w_X12_borne d av σ Q
theorem sBo4 : ∀ av σ Q, wBo4 av σ Q → amCall 70 0 0 TT yX12_borne cX12_borne 3 (some .int) av σ Q := fun av σ Q ⟨d, h, hw⟩ => s_X12_borne d h av σ Q hw
/-- the script -/
def scr (X : amX) (xs : Int → Int) (L : Int) : Prop := ∃ (b Ln : Nat) (xs0 : Nat → Int32), va_X b Ln xs0 (Xst X) (Xst X).heap ∧ b < (Xst X).heap.size ∧ ¬ Xn X ≤ b ∧ Xrh X 23000 = b ∧ L = Ln ∧ L ≤ 3584 ∧ ∀ i : Int, xs i = (xs0 i.toNat).toInt
def vSld (xs : Int → Int) (L : Int) (n : Nat) : VT := fun _ K ls st σ => ∃ i st', st = (0, i) :: (5, 23000) :: st' ∧ 0 ≤ i ∧ i < L ∧ K n ls ((0, xs i) :: st') σ
theorem vSld_e (xs : Int → Int) (L : Int) (n : Nat) (Q) (K) (ls st : List AV) (i : Int) (σ : Mem) : vSld xs L n Q K ls ((0, i) :: (5, 23000) :: st) σ = (0 ≤ i ∧ i < L ∧ K n ls ((0, xs i) :: st) σ) := by
  apply propext; constructor
  · rintro ⟨i', st', h, h1⟩; cases h; exact h1
  · intro h1; exact ⟨i, st, rfl, h1⟩
theorem ok_sld {X : amX} {own : String} {cc : ByteArray} {ret : Option FieldType} {L pc : Nat} (hB : amB X own cc ret L) {xs : Int → Int} {Lz : Int} (hsc : scr X xs Lz) (hd : decode cc pc = .ok (.iaload, 1)) : amOK X pc (vSld xs Lz (pc + 1)) := by
  obtain ⟨p, l, e, s, m, args, below, meth, c0, D, ca, n0, T, ρ0, σ0, dd, mc, ms, nL, Q⟩ := X
  obtain ⟨hx, hb, hr, hml, hnL, hown, hts, hlocks, hK0, hA0, hst0⟩ := hB
  obtain ⟨b, Ln, xs0, hX, hbl, hbA, hrb, hLn, hL3, hxs⟩ := hsc
  intro K ls st σ hK h ρ H locs LS kk n hW hS hl hokl hoks hk hn hag
  obtain ⟨i, st', rfl, h0, h1, h⟩ := h
  dsimp only [Xst, Xn, Xrh] at hX hbl hbA hrb
  obtain ⟨hin, hcl2⟩ := vp_in_am h0 h1 (by omega)
  have key := hK _ _ _ _ h ρ H locs LS kk n hW hS hl hokl (okl_c.mpr ⟨okv_s (by decide), (okl_c.mp (okl_c.mp hoks).2).2⟩) hk hn hag
  rw [List.map_cons] at key
  rw [List.map_cons, List.map_cons, am_val_p ρ (t := 5) (z := 23000) (by decide) (by decide), hag.2 23000 (by decide), hrb]
  refine va_sld hx hb hX hbl hbA hS (by rw [hLn] at hin; simpa using hin) hd ?_
  rw [hcl2]
  rw [show am_val ρ (0, xs i) = .int (xs0 i.toNat) by rw [am_val_0, hxs, Int32.ofInt_toInt]] at key
  exact key
def vSln (L : Int) (n : Nat) : VT := fun _ K ls st σ => ∃ st', st = (5, 23000) :: st' ∧ K n ls ((0, L) :: st') σ
theorem vSln_e (L : Int) (n : Nat) (Q) (K) (ls st : List AV) (σ : Mem) : vSln L n Q K ls ((5, 23000) :: st) σ = K n ls ((0, L) :: st) σ := by
  apply propext; constructor
  · rintro ⟨st', h, h1⟩; cases h; exact h1
  · intro h1; exact ⟨st, rfl, h1⟩
theorem ok_sln {X : amX} {own : String} {cc : ByteArray} {ret : Option FieldType} {L pc : Nat} (hB : amB X own cc ret L) {xs : Int → Int} {Lz : Int} (hsc : scr X xs Lz) (hd : decode cc pc = .ok (.arraylength, 1)) : amOK X pc (vSln Lz (pc + 1)) := by
  obtain ⟨p, l, e, s, m, args, below, meth, c0, D, ca, n0, T, ρ0, σ0, dd, mc, ms, nL, Q⟩ := X
  obtain ⟨hx, hb, hr, hml, hnL, hown, hts, hlocks, hK0, hA0, hst0⟩ := hB
  obtain ⟨b, Ln, xs0, hX, hbl, hbA, hrb, hLn, hL3, hxs⟩ := hsc
  intro K ls st σ hK h ρ H locs LS kk n hW hS hl hokl hoks hk hn hag
  obtain ⟨st', rfl, h⟩ := h
  dsimp only [Xst, Xn, Xrh] at hX hbl hbA hrb
  have key := hK _ _ _ _ h ρ H locs LS kk n hW hS hl hokl (okl_c.mpr ⟨okv_s (by decide), (okl_c.mp hoks).2⟩) hk hn hag
  rw [List.map_cons] at key
  rw [List.map_cons, am_val_p ρ (t := 5) (z := 23000) (by decide) (by decide), hag.2 23000 (by decide), hrb]
  refine va_slen hx hb hX hbl hbA hS hd ?_
  rw [show am_val ρ (0, Lz) = .int (Int32.ofNat Ln) by rw [am_val_0, hLn]; rfl] at key
  exact key
def vSame (t : Nat) : VT := fun _ K ls st σ => ∃ z st', st = (0, z) :: (0, z) :: st' ∧ K t ls st' σ
theorem vSame_e (t : Nat) (Q) (K) (ls st : List AV) (a b : Int) (σ : Mem) : vSame t Q K ls ((0, a) :: (0, b) :: st) σ = (a = b ∧ K t ls st σ) := by
  apply propext; constructor
  · rintro ⟨z, st', h, h1⟩; cases h; exact ⟨rfl, h1⟩
  · rintro ⟨rfl, h1⟩; exact ⟨a, st, rfl, h1⟩
theorem ok_same {X : amX} {own : String} {cc : ByteArray} {ret : Option FieldType} {L pc : Nat} (hB : amB X own cc ret L) {off : Int} {t : Nat} (ht : (pc : Int) + off = (t : Int)) (hd : decode cc pc = .ok (.if_icmp .eq off, 3)) : amOK X pc (vSame t) := by
  obtain ⟨p, l, e, s, m, args, below, meth, c, D, ca, n0, T, ρ0, σ0, dd, mc, ms, nL, Q⟩ := X
  obtain ⟨hx, hb, hr, hml, hnL, hown, hts, hlocks, hK0, hA0, hst0⟩ := hB
  intro K ls st σ hK h ρ H locs LS k n hW hS hl hokl hoks hk hn hag
  obtain ⟨z, st', rfl, h⟩ := h
  exact lv_icmp_eq hx hb hd ht (fun _ => hK _ _ _ _ h ρ H locs LS k n hW hS hl hokl (okl_c.mp (okl_c.mp hoks).2).2 hk hn hag) (fun c0 => absurd rfl c0)
/-- the law's own chair -/
def vCallH (MC MS n : Nat) : VT := fun _ K ls st σ => ∃ c w st', st = (9, 9000) :: (0, w) :: (0, c) :: (27, 0) :: st' ∧ 7 + 1 < ls.length ∧ acok st' 8 = true ∧ (lg ls 7).2 + 1 ≤ MC ∧ (lg ls (7 + 1)).2 + 6 ≤ MS ∧ lchW c w σ (fun r σ' => r.1 ≠ 6 ∧ r.1 ≠ 7 ∧ K n (cnt ls 7 1 6) (r :: st') σ')
theorem vCallH_e (MC MS n : Nat) (Q) (K) (ls st : List AV) (c w : Int) (σ : Mem) : vCallH MC MS n Q K ls ((9, 9000) :: (0, w) :: (0, c) :: (27, 0) :: st) σ = (7 + 1 < ls.length ∧ acok st 8 = true ∧ (lg ls 7).2 + 1 ≤ MC ∧ (lg ls (7 + 1)).2 + 6 ≤ MS ∧ lchW c w σ (fun r σ' => r.1 ≠ 6 ∧ r.1 ≠ 7 ∧ K n (cnt ls 7 1 6) (r :: st) σ')) := by
  apply propext; constructor
  · rintro ⟨c', w', st', h, h1⟩; cases h; exact h1
  · intro h1; exact ⟨c, w, st, rfl, h1⟩
theorem ok_callH {X : amX} {own : String} {cc : ByteArray} {ret : Option FieldType} {pc index : Nat} (hB : amB X own cc ret 7) (e1 : XT X = TT) (hdd : 7 + 1 ≤ XD X) {MC MS : Nat} (e3 : XC X = MC) (e4 : XS X = MS) (hE : Ech (Xn X) (Xst X)) (hlt : (Xla X).stackTraces = false) (h1 : Cond.methodLink own index yL_chair ∈ TBL) (h2 : Cond.initialized RL ∈ TBL) (h3 : Cond.codeWith yL_chair cL_chair 5 (some .int) [(0, 10, 13, 13)] ∈ TBL) (hin : Cond.static yL_chair ∈ TBL) (hd : decode cc pc = .ok (.invokestatic index, 3)) : amOK X pc (vCallH MC MS (pc + 3)) := by
  obtain ⟨p, l, e, s, m, args, below, meth, c0, D, ca, n0, T, ρ0, σ0, dd, mc, ms, nL, Q⟩ := X
  obtain ⟨hx, hb, hr, hml, hnL, hown, hts, hlocks, hK0, hA0, hst0⟩ := hB
  intro K ls st σ hK h ρ H locs LS kk n hW hS hl hokl hoks hk hn hag
  dsimp only [XC, XS, XT, XD, Xn, Xst, Xla] at e1 e3 e4 hdd hE hlt
  subst e1 e3 e4 hnL
  obtain ⟨c, w, st', rfl, hln, hac, hc1, hc2, h⟩ := h
  obtain ⟨h67, hcat⟩ := acok_67 _ _ hac
  have hoks2 : okl TT σ st' := fun v hv => hoks v (by simp [hv])
  have hM := s_L_chair h l hlt D ca n0 ρ
  have hcw : vx_CSW (amR dd mc ms) s args own index yL_chair cL_chair 5 (some .int) [(0, 10, 13, 13)] (.codeWith yL_chair cL_chair 5 (some .int) [(0, 10, 13, 13)] :: TBL) (amR 7 1 6) 1 6 4 := by
    refine ⟨⟨rfl, rfl, hdd, ?_, ?_, List.mem_cons_self⟩, hts _ h3, hts _ h2, ⟨by decide +kernel, by decide +kernel⟩, fun sig hs => ?_, hts _ h1, hts _ hin⟩
    · show 8 + (5 + 11) + 64 * 7 ≤ 64 * dd
      omega
    · intro w hw a' U hWm
      have hwT : w ∈ TBL := (List.mem_cons.mp hw).elim (fun e => e ▸ h3) id
      exact word_at hWm (tb_good w hwT).2 (hts w hwT)
    · have h5 : (parseMethodDescriptor yL_chair.desc).map (fun d => d.parameters.length) = some 4 := by decide +kernel
      rw [hs] at h5
      simpa using h5.symm
  have hrun := vx_runSW (g := F0 m pc LS (((9, 9000) :: (0, w) :: (0, c) :: (27, 0) :: st').map (am_val ρ))) (cells := kk) (slots := n) (locs := locs) (below := below) (meth := meth) (e := e) (p := p) (As := ([(27, 0), (0, c), (0, w), (9, 9000)] : List AV).map (am_val ρ)) (rest := st'.map (am_val ρ)) ⟨hx, hb, hml, hown, hts⟩ hM hcw
    ⟨amPcE.blind Ech_m, fun U hU hWm => ⟨⟨rfl, by rw [hU]; exact Nat.le_trans hA0 hS.1, by rw [hU]; exact hW, va_K.moved hWm.alike hK0, hst0.move hWm (fun b h1 h2 => by rw [hU]; exact hS.2.1 b h1 h2) hag.2, fun v hv => hoks v (by
      have hv : v = (27, 0) ∨ v = (0, c) ∨ v = (0, w) ∨ v = (9, 9000) := by simpa using hv
      rcases hv with rfl | rfl | rfl | rfl <;> simp)⟩, Ech_m n0 s U hE hWm (fun b h1 h2 => by rw [hU]; exact hS.2.1 b h1 h2)⟩⟩ rfl rfl hl.1 (by simp) (lv_room (hcat ρ)) hd ⟨by show kk + 1 ≤ mc; omega, by show n + 6 ≤ ms; omega⟩
  refine am_go hrun hS (fun r σ' ρ' H1 locs1 hq hW' hokr hag' hS' => ?_)
  · obtain ⟨hr6, hr7, hKn⟩ := hq
    have := hK _ _ _ _ hKn ρ' H1 locs1 LS (kk + 1) (n + 6) hW' hS' (lv_cnt (by rw [ag_lvl hag' ls 0 hokl]; exact hl)) (okl_cnt (fun v hv => okv_ag hag' (hokl v hv))) (okl_c.mpr ⟨hokr, fun v hv => okv_ag hag' (hoks2 v hv)⟩) (by rw [cnt_0 hln]; omega) (by rw [cnt_1 hln]; omega) (ag_tr hag hag')
    rw [List.map_cons, ag_st hag' hoks2 h67] at this
    have e9 : amQr ρ' r = some (am_val ρ' r) := by unfold amQr; rw [if_neg hr6]
    rw [e9]
    exact this
theorem t1_rule {w : Int} {σ : Mem} {Q : AV → Mem → Prop} (h : w_X11_rule [(27, 0), (0, w)] σ Q) : w_X11_rule [(27, 0), (0, w)] σ (fun r τ => Q r τ ∧ r.1 = 0) := by
  simp only [w_X11_rule_e, and_true] at h ⊢
  exact h
theorem t2_rule {w : Int} {σ : Mem} {Q : AV → Mem → Prop} (h : w_X12_rule [(28, 5000), (0, w)] σ Q) : w_X12_rule [(28, 5000), (0, w)] σ (fun r τ => Q r τ ∧ r.1 = 0) := by
  simp only [w_X12_rule_e, and_true] at h ⊢
  exact h
theorem t1_drama {p w : Int} {σ : Mem} {Q : AV → Mem → Prop} (h : w_X11_drama [(27, 0), (0, p), (0, w)] σ Q) : w_X11_drama [(27, 0), (0, p), (0, w)] σ (fun r τ => Q r τ ∧ r.1 = 0) := by
  simp only [w_X11_drama_e, and_true] at h ⊢
  exact h
theorem t2_drama {p w : Int} {σ : Mem} {Q : AV → Mem → Prop} (h : w_X12_drama [(28, 5000), (0, p), (0, w)] σ Q) : w_X12_drama [(28, 5000), (0, p), (0, w)] σ (fun r τ => Q r τ ∧ r.1 = 0) := by
  simp only [w_X12_drama_e, and_true] at h ⊢
  exact h
theorem t1_sitter {t w : Int} {σ : Mem} {Q : AV → Mem → Prop} (h : w_X11_sitter [(27, 0), (0, t), (0, w)] σ Q) : w_X11_sitter [(27, 0), (0, t), (0, w)] σ (fun r τ => Q r τ ∧ r.1 = 0) := by
  simp only [w_X11_sitter_e, and_true] at h ⊢
  exact h
theorem t2_sitter {t w : Int} {σ : Mem} {Q : AV → Mem → Prop} (h : w_X12_sitter [(28, 5000), (0, t), (0, w)] σ Q) : w_X12_sitter [(28, 5000), (0, t), (0, w)] σ (fun r τ => Q r τ ∧ r.1 = 0) := by
  simp only [w_X12_sitter_e, and_true] at h ⊢
  exact h
theorem t1_log {i w : Int} {σ : Mem} {Q : AV → Mem → Prop} (h : w_X11_log [(27, 0), (0, i), (0, w)] σ Q) : w_X11_log [(27, 0), (0, i), (0, w)] σ (fun r τ => Q r τ ∧ r.1 = 0) := by
  simp only [w_X11_log_e, and_true] at h ⊢
  exact h
theorem t2_log {i w : Int} {σ : Mem} {Q : AV → Mem → Prop} (h : w_X12_log [(28, 5000), (0, i), (0, w)] σ Q) : w_X12_log [(28, 5000), (0, i), (0, w)] σ (fun r τ => Q r τ ∧ r.1 = 0) := by
  simp only [w_X12_log_e, and_true] at h ⊢
  exact h
theorem t1_step {s i w : Int} {σ : Mem} {Q : AV → Mem → Prop} (h : w_X11_step [(27, 0), (0, s), (0, i), (0, w)] σ Q) : w_X11_step [(27, 0), (0, s), (0, i), (0, w)] σ (fun r τ => Q r τ ∧ r.1 = 0) := by
  simp only [w_X11_step_e, and_true] at h ⊢
  exact h
theorem t2_step {s i w : Int} {σ : Mem} {Q : AV → Mem → Prop} (h : w_X12_step [(28, 5000), (0, s), (0, i), (0, w)] σ Q) : w_X12_step [(28, 5000), (0, s), (0, i), (0, w)] σ (fun r τ => Q r τ ∧ r.1 = 0) := by
  simp only [w_X12_step_e, and_true] at h ⊢
  exact h
theorem t1_feels {c p w : Int} {σ : Mem} {Q : AV → Mem → Prop} (h : w_X11_feels [(27, 0), (0, c), (0, p), (0, w)] σ Q) : w_X11_feels [(27, 0), (0, c), (0, p), (0, w)] σ (fun r τ => Q r τ ∧ r.1 = 0) := by
  simp only [w_X11_feels_e, and_true] at h ⊢
  exact h
theorem t2_feels {c p w : Int} {σ : Mem} {Q : AV → Mem → Prop} (h : w_X12_feels [(28, 5000), (0, c), (0, p), (0, w)] σ Q) : w_X12_feels [(28, 5000), (0, c), (0, p), (0, w)] σ (fun r τ => Q r τ ∧ r.1 = 0) := by
  simp only [w_X12_feels_e, and_true] at h ⊢
  exact h
theorem t1_odds {c p w : Int} {σ : Mem} {Q : AV → Mem → Prop} (h : w_X11_odds [(27, 0), (0, c), (0, p), (0, w)] σ Q) : w_X11_odds [(27, 0), (0, c), (0, p), (0, w)] σ (fun r τ => Q r τ ∧ r.1 = 0) := by
  simp only [w_X11_odds_e, and_true] at h ⊢
  exact h
theorem t2_odds {c p w : Int} {σ : Mem} {Q : AV → Mem → Prop} (h : w_X12_odds [(28, 5000), (0, c), (0, p), (0, w)] σ Q) : w_X12_odds [(28, 5000), (0, c), (0, p), (0, w)] σ (fun r τ => Q r τ ∧ r.1 = 0) := by
  simp only [w_X12_odds_e, and_true] at h ⊢
  exact h
theorem t1_first {p : Int} {σ : Mem} {Q : AV → Mem → Prop} (h : w_X11_first [(27, 0), (0, p)] σ Q) : w_X11_first [(27, 0), (0, p)] σ (fun r τ => Q r τ ∧ r.1 = 0) := by
  simp only [w_X11_first_e, and_true] at h ⊢
  exact h
theorem t2_first {p : Int} {σ : Mem} {Q : AV → Mem → Prop} (h : w_X12_first [(28, 5000), (0, p)] σ Q) : w_X12_first [(28, 5000), (0, p)] σ (fun r τ => Q r τ ∧ r.1 = 0) := by
  simp only [w_X12_first_e, and_true] at h ⊢
  exact h
theorem t1_halves {p s i : Int} {σ : Mem} {Q : AV → Mem → Prop} (h : w_X11_halves [(27, 0), (0, p), (0, s), (0, i)] σ Q) : w_X11_halves [(27, 0), (0, p), (0, s), (0, i)] σ (fun r τ => Q r τ ∧ r.1 = 0) := by
  simp only [w_X11_halves_e, and_true] at h ⊢
  exact h
theorem t2_halves {p s i : Int} {σ : Mem} {Q : AV → Mem → Prop} (h : w_X12_halves [(28, 5000), (0, p), (0, s), (0, i)] σ Q) : w_X12_halves [(28, 5000), (0, p), (0, s), (0, i)] σ (fun r τ => Q r τ ∧ r.1 = 0) := by
  simp only [w_X12_halves_e, and_true] at h ⊢
  exact h
theorem t1_meant {p w : Int} {σ : Mem} {Q : AV → Mem → Prop} (h : w_X11_meant [(27, 0), (0, p), (0, w)] σ Q) : w_X11_meant [(27, 0), (0, p), (0, w)] σ (fun r τ => Q r τ ∧ r.1 = 0) := by
  simp only [w_X11_meant_e, and_true] at h ⊢
  exact h
theorem t2_meant {p w : Int} {σ : Mem} {Q : AV → Mem → Prop} (h : w_X12_meant [(28, 5000), (0, p), (0, w)] σ Q) : w_X12_meant [(28, 5000), (0, p), (0, w)] σ (fun r τ => Q r τ ∧ r.1 = 0) := by
  simp only [w_X12_meant_e, and_true] at h ⊢
  exact h
theorem t1_hardens {c p : Int} {σ : Mem} {Q : AV → Mem → Prop} (h : w_X11_hardens [(27, 0), (0, c), (0, p)] σ Q) : w_X11_hardens [(27, 0), (0, c), (0, p)] σ (fun r τ => Q r τ ∧ r.1 = 0) := by
  simp only [w_X11_hardens_e, and_true] at h ⊢
  exact h
theorem t2_hardens {c p : Int} {σ : Mem} {Q : AV → Mem → Prop} (h : w_X12_hardens [(28, 5000), (0, c), (0, p)] σ Q) : w_X12_hardens [(28, 5000), (0, c), (0, p)] σ (fun r τ => Q r τ ∧ r.1 = 0) := by
  simp only [w_X12_hardens_e, and_true] at h ⊢
  exact h
theorem t1_whose {c : Int} {σ : Mem} {Q : AV → Mem → Prop} (h : w_X11_whose [(27, 0), (0, c)] σ Q) : w_X11_whose [(27, 0), (0, c)] σ (fun r τ => Q r τ ∧ r.1 = 0) := by
  simp only [w_X11_whose_e, and_true] at h ⊢
  exact h
theorem t2_whose {c : Int} {σ : Mem} {Q : AV → Mem → Prop} (h : w_X12_whose [(28, 5000), (0, c)] σ Q) : w_X12_whose [(28, 5000), (0, c)] σ (fun r τ => Q r τ ∧ r.1 = 0) := by
  simp only [w_X12_whose_e, and_true] at h ⊢
  exact h
theorem t1_following {c v : Int} {σ : Mem} {Q : AV → Mem → Prop} (h : w_X11_following [(27, 0), (0, c), (0, v)] σ Q) : w_X11_following [(27, 0), (0, c), (0, v)] σ (fun r τ => Q r τ ∧ r.1 = 0) := by
  simp only [w_X11_following_e, and_true] at h ⊢
  exact h
theorem t2_following {c v : Int} {σ : Mem} {Q : AV → Mem → Prop} (h : w_X12_following [(28, 5000), (0, c), (0, v)] σ Q) : w_X12_following [(28, 5000), (0, c), (0, v)] σ (fun r τ => Q r τ ∧ r.1 = 0) := by
  simp only [w_X12_following_e, and_true] at h ⊢
  exact h
theorem t1_game {o r p x y w : Int} {σ : Mem} {Q : AV → Mem → Prop} (h : w_X11_game [(27, 0), (0, o), (0, r), (0, p), (0, x), (0, y), (0, w)] σ Q) : w_X11_game [(27, 0), (0, o), (0, r), (0, p), (0, x), (0, y), (0, w)] σ (fun r τ => Q r τ ∧ r.1 = 0) := by
  simp only [w_X11_game_e, and_true] at h ⊢
  exact h
theorem t2_game {o r p x y w : Int} {σ : Mem} {Q : AV → Mem → Prop} (h : w_X12_game [(28, 5000), (0, o), (0, r), (0, p), (0, x), (0, y), (0, w)] σ Q) : w_X12_game [(28, 5000), (0, o), (0, r), (0, p), (0, x), (0, y), (0, w)] σ (fun r τ => Q r τ ∧ r.1 = 0) := by
  simp only [w_X12_game_e, and_true] at h ⊢
  exact h
theorem t1_rests {o r p i : Int} {σ : Mem} {Q : AV → Mem → Prop} (h : w_X11_rests [(27, 0), (0, o), (0, r), (0, p), (0, i)] σ Q) : w_X11_rests [(27, 0), (0, o), (0, r), (0, p), (0, i)] σ (fun r τ => Q r τ ∧ r.1 = 0) := by
  simp only [w_X11_rests_e, and_true] at h ⊢
  exact h
theorem t2_rests {o r p i : Int} {σ : Mem} {Q : AV → Mem → Prop} (h : w_X12_rests [(28, 5000), (0, o), (0, r), (0, p), (0, i)] σ Q) : w_X12_rests [(28, 5000), (0, o), (0, r), (0, p), (0, i)] σ (fun r τ => Q r τ ∧ r.1 = 0) := by
  simp only [w_X12_rests_e, and_true] at h ⊢
  exact h
theorem t1_tickets {p v w : Int} {σ : Mem} {Q : AV → Mem → Prop} (h : w_X11_tickets [(27, 0), (0, p), (0, v), (0, w)] σ Q) : w_X11_tickets [(27, 0), (0, p), (0, v), (0, w)] σ (fun r τ => Q r τ ∧ r.1 = 0) := by
  simp only [w_X11_tickets_e, and_true] at h ⊢
  exact h
theorem t2_tickets {d : Nat} {p v w : Int} {σ : Mem} {Q : AV → Mem → Prop} (h : w_X12_tickets d [(28, 5000), (0, p), (0, v), (0, w)] σ Q) : w_X12_tickets d [(28, 5000), (0, p), (0, v), (0, w)] σ (fun r τ => Q r τ ∧ r.1 = 0) := by
  simp only [w_X12_tickets_e, and_true] at h ⊢
  exact h
theorem t1_most {p w : Int} {σ : Mem} {Q : AV → Mem → Prop} (h : w_X11_most [(27, 0), (0, p), (0, w)] σ Q) : w_X11_most [(27, 0), (0, p), (0, w)] σ (fun r τ => Q r τ ∧ r.1 = 0) := by
  simp only [w_X11_most_e, and_true] at h ⊢
  exact h
theorem t2_most {d : Nat} {p w : Int} {σ : Mem} {Q : AV → Mem → Prop} (h : w_X12_most d [(28, 5000), (0, p), (0, w)] σ Q) : w_X12_most d [(28, 5000), (0, p), (0, w)] σ (fun r τ => Q r τ ∧ r.1 = 0) := by
  simp only [w_X12_most_e, and_true] at h ⊢
  exact h
theorem t1_borne {N w : Int} {σ : Mem} {Q : AV → Mem → Prop} (h : w_X11_borne [(27, 0), (0, N), (0, w)] σ Q) : w_X11_borne [(27, 0), (0, N), (0, w)] σ (fun r τ => Q r τ ∧ r.1 = 0) := by
  simp only [w_X11_borne_e, and_true] at h ⊢
  exact h
theorem t2_borne {d : Nat} {N w : Int} {σ : Mem} {Q : AV → Mem → Prop} (h : w_X12_borne d [(28, 5000), (0, N), (0, w)] σ Q) : w_X12_borne d [(28, 5000), (0, N), (0, w)] σ (fun r τ => Q r τ ∧ r.1 = 0) := by
  simp only [w_X12_borne_e, and_true] at h ⊢
  exact h
theorem t1_peak {p w : Int} {σ : Mem} {Q : AV → Mem → Prop} (h : w_X11_peak [(27, 0), (0, p), (0, w)] σ Q) : w_X11_peak [(27, 0), (0, p), (0, w)] σ (fun r τ => Q r τ ∧ r.1 = 0) := by
  simp only [w_X11_peak_e, and_true] at h ⊢
  exact h
theorem t2_peak {p w : Int} {σ : Mem} {Q : AV → Mem → Prop} (h : w_X12_peak [(28, 5000), (0, p), (0, w)] σ Q) : w_X12_peak [(28, 5000), (0, p), (0, w)] σ (fun r τ => Q r τ ∧ r.1 = 0) := by
  simp only [w_X12_peak_e, and_true] at h ⊢
  exact h
theorem t1_house {t : Int} {σ : Mem} {Q : AV → Mem → Prop} (h : w_X11_house [(27, 0), (0, t)] σ Q) : w_X11_house [(27, 0), (0, t)] σ (fun r τ => Q r τ ∧ r.1 = 0) := by
  simp only [w_X11_house_e, and_true] at h ⊢
  exact h
theorem t2_house {t : Int} {σ : Mem} {Q : AV → Mem → Prop} (h : w_X12_house [(28, 5000), (0, t)] σ Q) : w_X12_house [(28, 5000), (0, t)] σ (fun r τ => Q r τ ∧ r.1 = 0) := by
  simp only [w_X12_house_e, and_true] at h ⊢
  exact h
theorem t1_all {w : Int} {σ : Mem} {Q : AV → Mem → Prop} (h : w_X11_all [(27, 0), (0, w)] σ Q) : w_X11_all [(27, 0), (0, w)] σ (fun r τ => Q r τ ∧ r.1 = 0) := by
  simp only [w_X11_all_e, and_true] at h ⊢
  exact h
theorem t2_all {w : Int} {σ : Mem} {Q : AV → Mem → Prop} (h : w_X12_all [(28, 5000), (0, w)] σ Q) : w_X12_all [(28, 5000), (0, w)] σ (fun r τ => Q r τ ∧ r.1 = 0) := by
  simp only [w_X12_all_e, and_true] at h ⊢
  exact h
theorem t1_count {w : Int} {σ : Mem} {Q : AV → Mem → Prop} (h : w_X11_count [(27, 0), (0, w)] σ Q) : w_X11_count [(27, 0), (0, w)] σ (fun r τ => Q r τ ∧ r.1 = 0) := by
  simp only [w_X11_count_e, and_true] at h ⊢
  exact h
theorem t2_count {w : Int} {σ : Mem} {Q : AV → Mem → Prop} (h : w_X12_count [(28, 5000), (0, w)] σ Q) : w_X12_count [(28, 5000), (0, w)] σ (fun r τ => Q r τ ∧ r.1 = 0) := by
  simp only [w_X12_count_e, and_true] at h ⊢
  exact h
theorem t1_heart {c v : Int} {σ : Mem} {Q : AV → Mem → Prop} (h : w_X11_heart [(27, 0), (0, c), (0, v)] σ Q) : w_X11_heart [(27, 0), (0, c), (0, v)] σ (fun r τ => Q r τ ∧ r.1 = 0) := by
  simp only [w_X11_heart_e, and_true] at h ⊢
  exact h
theorem t2_heart {c v : Int} {σ : Mem} {Q : AV → Mem → Prop} (h : w_X12_heart [(28, 5000), (0, c), (0, v)] σ Q) : w_X12_heart [(28, 5000), (0, c), (0, v)] σ (fun r τ => Q r τ ∧ r.1 = 0) := by
  simp only [w_X12_heart_e, and_true] at h ⊢
  exact h
theorem t1_give {c v : Int} {σ : Mem} {Q : AV → Mem → Prop} (h : w_X11_give [(27, 0), (0, c), (0, v)] σ Q) : w_X11_give [(27, 0), (0, c), (0, v)] σ (fun r τ => Q r τ ∧ r.1 = 0) := by
  simp only [w_X11_give_e, and_true] at h ⊢
  exact h
theorem t2_give {c v : Int} {σ : Mem} {Q : AV → Mem → Prop} (h : w_X12_give [(28, 5000), (0, c), (0, v)] σ Q) : w_X12_give [(28, 5000), (0, c), (0, v)] σ (fun r τ => Q r τ ∧ r.1 = 0) := by
  simp only [w_X12_give_e, and_true] at h ⊢
  exact h
theorem t1_price {v : Int} {σ : Mem} {Q : AV → Mem → Prop} (h : w_X11_price [(27, 0), (0, v)] σ Q) : w_X11_price [(27, 0), (0, v)] σ (fun r τ => Q r τ ∧ r.1 = 0) := by
  simp only [w_X11_price_e, and_true] at h ⊢
  exact h
theorem t2_price {v : Int} {σ : Mem} {Q : AV → Mem → Prop} (h : w_X12_price [(28, 5000), (0, v)] σ Q) : w_X12_price [(28, 5000), (0, v)] σ (fun r τ => Q r τ ∧ r.1 = 0) := by
  simp only [w_X12_price_e, and_true] at h ⊢
  exact h
theorem t1_ill {t : Int} {σ : Mem} {Q : AV → Mem → Prop} (h : w_X11_ill [(27, 0), (0, t)] σ Q) : w_X11_ill [(27, 0), (0, t)] σ (fun r τ => Q r τ ∧ r.1 = 0) := by
  simp only [w_X11_ill_e, and_true] at h ⊢
  exact h
theorem t2_ill {t : Int} {σ : Mem} {Q : AV → Mem → Prop} (h : w_X12_ill [(28, 5000), (0, t)] σ Q) : w_X12_ill [(28, 5000), (0, t)] σ (fun r τ => Q r τ ∧ r.1 = 0) := by
  simp only [w_X12_ill_e, and_true] at h ⊢
  exact h
theorem t1_change {c t : Int} {σ : Mem} {Q : AV → Mem → Prop} (h : w_X11_change [(27, 0), (0, c), (0, t)] σ Q) : w_X11_change [(27, 0), (0, c), (0, t)] σ (fun r τ => Q r τ ∧ r.1 = 0) := by
  simp only [w_X11_change_e, and_true] at h ⊢
  exact h
theorem t2_change {c t : Int} {σ : Mem} {Q : AV → Mem → Prop} (h : w_X12_change [(28, 5000), (0, c), (0, t)] σ Q) : w_X12_change [(28, 5000), (0, c), (0, t)] σ (fun r τ => Q r τ ∧ r.1 = 0) := by
  simp only [w_X12_change_e, and_true] at h ⊢
  exact h
theorem t1_evening {p : Int} {σ : Mem} {Q : AV → Mem → Prop} (h : w_X11_evening [(27, 0), (0, p)] σ Q) : w_X11_evening [(27, 0), (0, p)] σ (fun r τ => Q r τ ∧ r.1 = 0) := by
  simp only [w_X11_evening_e, and_true] at h ⊢
  exact h
theorem t2_evening {p : Int} {σ : Mem} {Q : AV → Mem → Prop} (h : w_X12_evening [(28, 5000), (0, p)] σ Q) : w_X12_evening [(28, 5000), (0, p)] σ (fun r τ => Q r τ ∧ r.1 = 0) := by
  simp only [w_X12_evening_e, and_true] at h ⊢
  exact h
theorem t1_undo {σ : Mem} {Q : AV → Mem → Prop} (h : w_X11_undo [(27, 0)] σ Q) : w_X11_undo [(27, 0)] σ (fun r τ => Q r τ ∧ r.1 = 0) := by
  simp only [w_X11_undo_e, and_true] at h ⊢
  exact h
theorem t2_undo {σ : Mem} {Q : AV → Mem → Prop} (h : w_X12_undo [(28, 5000)] σ Q) : w_X12_undo [(28, 5000)] σ (fun r τ => Q r τ ∧ r.1 = 0) := by
  simp only [w_X12_undo_e, and_true] at h ⊢
  exact h
theorem t1_back {σ : Mem} {Q : AV → Mem → Prop} (h : w_X11_back [(27, 0)] σ Q) : w_X11_back [(27, 0)] σ (fun r τ => Q r τ ∧ r.1 = 0) := by
  simp only [w_X11_back_e, and_true] at h ⊢
  exact h
theorem t2_back {σ : Mem} {Q : AV → Mem → Prop} (h : w_X12_back [(28, 5000)] σ Q) : w_X12_back [(28, 5000)] σ (fun r τ => Q r τ ∧ r.1 = 0) := by
  simp only [w_X12_back_e, and_true] at h ⊢
  exact h
theorem t1_image {σ : Mem} {Q : AV → Mem → Prop} (h : w_X11_image [(27, 0)] σ Q) : w_X11_image [(27, 0)] σ (fun r τ => Q r τ ∧ r.1 = 0) := by
  simp only [w_X11_image_e, and_true] at h ⊢
  exact h
theorem t2_image {σ : Mem} {Q : AV → Mem → Prop} (h : w_X12_image [(28, 5000)] σ Q) : w_X12_image [(28, 5000)] σ (fun r τ => Q r τ ∧ r.1 = 0) := by
  simp only [w_X12_image_e, and_true] at h ⊢
  exact h
theorem t1_flu {v : Int} {σ : Mem} {Q : AV → Mem → Prop} (h : w_X11_flu [(27, 0), (0, v)] σ Q) : w_X11_flu [(27, 0), (0, v)] σ (fun r τ => Q r τ ∧ r.1 = 0) := by
  simp only [w_X11_flu_e, and_true] at h ⊢
  exact h
theorem t2_flu {v : Int} {σ : Mem} {Q : AV → Mem → Prop} (h : w_X12_flu [(28, 5000), (0, v)] σ Q) : w_X12_flu [(28, 5000), (0, v)] σ (fun r τ => Q r τ ∧ r.1 = 0) := by
  simp only [w_X12_flu_e, and_true] at h ⊢
  exact h
theorem t1_law {v : Int} {σ : Mem} {Q : AV → Mem → Prop} (h : w_X11_law [(27, 0), (0, v)] σ Q) : w_X11_law [(27, 0), (0, v)] σ (fun r τ => Q r τ ∧ r.1 = 0) := by
  simp only [w_X11_law_e, and_true] at h ⊢
  exact h
theorem t2_law {v : Int} {σ : Mem} {Q : AV → Mem → Prop} (h : w_X12_law [(28, 5000), (0, v)] σ Q) : w_X12_law [(28, 5000), (0, v)] σ (fun r τ => Q r τ ∧ r.1 = 0) := by
  simp only [w_X12_law_e, and_true] at h ⊢
  exact h
theorem t1_howled {c p k v u : Int} {σ : Mem} {Q : AV → Mem → Prop} (h : w_X11_howled [(27, 0), (0, c), (0, p), (0, k), (0, v), (0, u)] σ Q) : w_X11_howled [(27, 0), (0, c), (0, p), (0, k), (0, v), (0, u)] σ (fun r τ => Q r τ ∧ r.1 = 0) := by
  simp only [w_X11_howled_e, and_true] at h ⊢
  exact h
theorem t2_howled {c p k v u : Int} {σ : Mem} {Q : AV → Mem → Prop} (h : w_X12_howled [(28, 5000), (0, c), (0, p), (0, k), (0, v), (0, u)] σ Q) : w_X12_howled [(28, 5000), (0, c), (0, p), (0, k), (0, v), (0, u)] σ (fun r τ => Q r τ ∧ r.1 = 0) := by
  simp only [w_X12_howled_e, and_true] at h ⊢
  exact h
theorem t1_end {n : Int} {σ : Mem} {Q : AV → Mem → Prop} (h : w_X11_end [(27, 0), (0, n)] σ Q) : w_X11_end [(27, 0), (0, n)] σ (fun r τ => Q r τ ∧ r.1 = 0) := by
  simp only [w_X11_end_e, and_true] at h ⊢
  exact h
theorem t2_end {n : Int} {σ : Mem} {Q : AV → Mem → Prop} (h : w_X12_end [(28, 5000), (0, n)] σ Q) : w_X12_end [(28, 5000), (0, n)] σ (fun r τ => Q r τ ∧ r.1 = 0) := by
  simp only [w_X12_end_e, and_true] at h ⊢
  exact h
theorem t1_feed {a b c d e : Int} {σ : Mem} {Q : AV → Mem → Prop} (h : w_X11_feed [(27, 0), (0, a), (0, b), (0, c), (0, d), (0, e)] σ Q) : w_X11_feed [(27, 0), (0, a), (0, b), (0, c), (0, d), (0, e)] σ (fun r τ => Q r τ ∧ r.1 = 0) := by
  simp only [w_X11_feed_e, and_true] at h ⊢
  exact h
theorem t2_feed {a b c d e : Int} {σ : Mem} {Q : AV → Mem → Prop} (h : w_X12_feed [(28, 5000), (0, a), (0, b), (0, c), (0, d), (0, e)] σ Q) : w_X12_feed [(28, 5000), (0, a), (0, b), (0, c), (0, d), (0, e)] σ (fun r τ => Q r τ ∧ r.1 = 0) := by
  simp only [w_X12_feed_e, and_true] at h ⊢
  exact h
theorem t1_perform {s : Int} {σ : Mem} {Q : AV → Mem → Prop} (h : w_X11_perform [(27, 0), (0, s)] σ Q) : w_X11_perform [(27, 0), (0, s)] σ (fun r τ => Q r τ ∧ r.1 = 0) := by
  simp only [w_X11_perform_e, and_true] at h ⊢
  exact h
theorem t2_perform {s : Int} {σ : Mem} {Q : AV → Mem → Prop} (h : w_X12_perform [(28, 5000), (0, s)] σ Q) : w_X12_perform [(28, 5000), (0, s)] σ (fun r τ => Q r τ ∧ r.1 = 0) := by
  simp only [w_X12_perform_e, and_true] at h ⊢
  exact h
theorem t1_run {s w : Int} {σ : Mem} {Q : AV → Mem → Prop} (h : w_X11_run [(27, 0), (0, s), (0, w)] σ Q) : w_X11_run [(27, 0), (0, s), (0, w)] σ (fun r τ => Q r τ ∧ r.1 = 0) := by
  simp only [w_X11_run_e, and_true] at h ⊢
  exact h
theorem t2_run {s w : Int} {σ : Mem} {Q : AV → Mem → Prop} (h : w_X12_run [(28, 5000), (0, s), (0, w)] σ Q) : w_X12_run [(28, 5000), (0, s), (0, w)] σ (fun r τ => Q r τ ∧ r.1 = 0) := by
  simp only [w_X12_run_e, and_true] at h ⊢
  exact h
theorem t1_years {N sd : Int} {σ : Mem} {Q : AV → Mem → Prop} (h : w_X11_years [(27, 0), (0, N), (1, sd)] σ Q) : w_X11_years [(27, 0), (0, N), (1, sd)] σ (fun r τ => Q r τ ∧ r.1 = 0) := by
  simp only [w_X11_years_e, and_true] at h ⊢
  exact h
theorem t2_years {N sd : Int} {σ : Mem} {Q : AV → Mem → Prop} (h : w_X12_years [(28, 5000), (0, N), (1, sd)] σ Q) : w_X12_years [(28, 5000), (0, N), (1, sd)] σ (fun r τ => Q r τ ∧ r.1 = 0) := by
  simp only [w_X12_years_e, and_true] at h ⊢
  exact h
theorem t1_fault {s : Int} {σ : Mem} {Q : AV → Mem → Prop} (h : w_X11_fault [(27, 0), (0, s)] σ Q) : w_X11_fault [(27, 0), (0, s)] σ (fun r τ => Q r τ ∧ r.1 = 0) := by
  simp only [w_X11_fault_e, w_X6_read_e, w_X3_read_e, w_X7_read_e, and_true] at h ⊢
  exact h
theorem t2_fault {s : Int} {σ : Mem} {Q : AV → Mem → Prop} (h : w_X12_fault [(28, 5000), (0, s)] σ Q) : w_X12_fault [(28, 5000), (0, s)] σ (fun r τ => Q r τ ∧ r.1 = 0) := by
  simp only [w_X12_fault_e, and_true] at h ⊢
  exact h
theorem t1_text {s : Int} {σ : Mem} {Q : AV → Mem → Prop} (h : w_X11_text [(27, 0), (0, s)] σ Q) : w_X11_text [(27, 0), (0, s)] σ (fun r τ => Q r τ ∧ r.1 = 0) := by
  simp only [w_X11_text_e, w_X11_takeHouse_e, w_X11_takeLaw_e, w_X11_takeSeason_e, and_true] at h ⊢
  exact h
theorem t2_text {s : Int} {σ : Mem} {Q : AV → Mem → Prop} (h : w_X12_text [(28, 5000), (0, s)] σ Q) : w_X12_text [(28, 5000), (0, s)] σ (fun r τ => Q r τ ∧ r.1 = 0) := by
  simp only [w_X12_text_e, and_true] at h ⊢
  exact h
theorem dpt_tk {σ : Mem} (h : RR σ) : (σ 5000 29).toNat ≤ 6 := by have := (RR_n h).2.1; omega
theorem dpt_bo (N : Int) : (max 0 (min 4 N)).toNat ≤ 4 := by omega
theorem RR_9 {σ μ : Mem} (h : RR σ) (q : ∀ b, b ≠ 9000 → μ b = σ b) : RR μ := by
  have nn := RR_n h
  obtain ⟨h1, h2, h3, h4, h5, h6, h7, h8, h9, h10, h11⟩ := h
  refine ⟨tapeR_c (by rw [q 1 (by decide)]) (q 2 (by decide)) (by rw [q 5000 (by decide)]) (q 5001 (by decide)) h1, houR_c (q 4 (by decide)) (q 5 (by decide)) (q 7 (by decide)) (q 8 (by decide)) (fun x _ => by rw [q 5000 (by decide)]) (fun b hb => q b (by omega)) h2, lawR_c (by rw [q 0 (by decide)]) (by rw [q 0 (by decide)]) (by rw [q 26 (by decide)]) (q 12 (by decide)) ⟨by rw [q 5000 (by decide)], by rw [q 5000 (by decide)]⟩ (q 5002 (by decide)) (q 5003 (by decide)) (fun l l0 l1 => q _ (by omega)) nn.2.2.2.2 h3, seaR_c (by rw [q 13 (by decide)]) (q 14 (by decide)) (q 15 (by decide)) (by rw [q 5000 (by decide)]) (q 5013 (by decide)) (q 5014 (by decide)) h4, howR_c (by rw [q 41 (by decide)]) (q 42 (by decide)) (fun x _ => by rw [q 5000 (by decide)]) (q 5024 (by decide)) h5, nowR_c nn.2.1.2 (fun j _ _ => by rw [q 16 (by decide)]) (fun b b0 b1 => q b (by omega)) (q 32 (by decide)) (by rw [q 31 (by decide)]) ⟨by rw [q 5000 (by decide)], by rw [q 5000 (by decide)]⟩ (q 5015 (by decide)) h6, pastR_c (fun x _ => by rw [q 31 (by decide)]) (q 32 (by decide)) (q 33 (by decide)) (fun x _ => by rw [q 5000 (by decide)]) (q 5023 (by decide)) h7, imR_c (fun x _ => by rw [q 31 (by decide)]) (q 34 (by decide)) (q 35 (by decide)) (fun x _ => by rw [q 5000 (by decide)]) (q 5026 (by decide)) h8, livR_c (q (-2) (by decide)) (by rw [q 5000 (by decide)]) h9, mskR_c (mOk_c (by rw [q 5000 (by decide)]) (fun b hb => q b (by omega)) h10.1) (by rw [q 0 (by decide)]) ⟨by rw [q 5000 (by decide)], by rw [q 5000 (by decide)], by rw [q 5000 (by decide)]⟩ (q 5007 (by decide)) (q 5011 (by decide)) (q 5005 (by decide)) h10, ringR_c (q 32 (by decide)) (q 35 (by decide)) h11⟩
