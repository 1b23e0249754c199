/-! copies of rows of ints -/
def cpy (σ : Mem) (a sp b dp n : Int) : Mem := fun c j => if c = b ∧ dp ≤ j ∧ j < dp + n then σ a (sp + (j - dp)) else σ c j
theorem cpy_o (σ : Mem) {a sp b dp n c : Int} (h : c ≠ b) : cpy σ a sp b dp n c = σ c := by
  funext j; unfold cpy; rw [if_neg]; rintro ⟨h1, -⟩; exact h h1
def vCopy (T : Int → Kd) (n : Nat) : VT := fun _ K ls st σ => ∃ m dp b sp a st', st = (0, m) :: (0, dp) :: (8, b) :: (0, sp) :: (8, a) :: st' ∧ 0 ≤ a ∧ 0 ≤ b ∧ 0 ≤ sp ∧ 0 ≤ dp ∧ 0 ≤ m ∧ sp + m ≤ alen T σ a ∧ dp + m ≤ alen T σ b ∧ alen T σ a ≤ 2147483647 ∧ alen T σ b ≤ 2147483647 ∧ acok st' 8 = true ∧ K n ls st' (cpy σ a sp b dp m)
theorem vCopy_e (T : Int → Kd) (n : Nat) (Q) (K) (ls st : List AV) (m dp b sp a : Int) (σ : Mem) : vCopy T n Q K ls ((0, m) :: (0, dp) :: (8, b) :: (0, sp) :: (8, a) :: st) σ = (0 ≤ a ∧ 0 ≤ b ∧ 0 ≤ sp ∧ 0 ≤ dp ∧ 0 ≤ m ∧ sp + m ≤ alen T σ a ∧ dp + m ≤ alen T σ b ∧ alen T σ a ≤ 2147483647 ∧ alen T σ b ≤ 2147483647 ∧ acok st 8 = true ∧ K n ls st (cpy σ a sp b dp m)) := by
  apply propext; constructor
  · rintro ⟨m', dp', b', sp', a', st', h, h1⟩; cases h; exact h1
  · intro h1; exact ⟨m, dp, b, sp, a, st, rfl, h1⟩
theorem i32_cl {z : Int} (h : 0 ≤ z) (h2 : z ≤ 2147483647) : (Int32.ofInt z).toNatClampNeg = z.toNat ∧ ¬ Int32.ofInt z < 0 := by
  have hr : InR z := ⟨by omega, by omega⟩
  refine ⟨by rw [Int32.toNatClampNeg, hr.toInt], fun hz => ?_⟩
  have := (ir_lt hr ir_0).mp hz
  omega
theorem okt_copy {X : amX} {T9 : Int → Kd} {own : String} {cc : ByteArray} {ret : Option FieldType} {L pc : Nat} (e1 : XT X = T9) (hB : amB X own cc ret L) (hd1 : 1 ≤ XD X) {index : Nat} (hl0 : Cond.methodLink own index arraycopyName ∈ TBL) (hna : Cond.native arraycopyName ∈ TBL) (hsta : Cond.static arraycopyName ∈ TBL) (hin : Cond.initialized "java/lang/System" ∈ TBL) (hd : decode cc pc = .ok (.invokestatic index, 3)) : amOK X pc (vCopy T9 (pc + 3)) := by
  subst e1
  obtain ⟨p, l, e, s, m, args, below, meth, c0, D, ca, n0, T, ρ0, σ0, dd, mc, ms, nL, Q⟩ := X
  obtain ⟨hx, hb, hr, hml, hnL, hown, hts, hlocks, hK0, hA0, hst0⟩ := hB
  intro K ls st σ hK h ρ H locs LS kk n hW hS hl hokl hoks hk hn hag
  obtain ⟨m9, dp, b, sp, a, st', rfl, ha, hb9, hsp, hdp, hm9, hla, hlb, hma, hmb, hac, h⟩ := h
  dsimp only [XT] at hla hlb hma hmb h
  obtain ⟨h67, hcat⟩ := acok_67 _ _ hac
  have o1 := okl_c.mp hoks
  have o2 := okl_c.mp o1.2
  have o3 := okl_c.mp o2.2
  have o4 := okl_c.mp o3.2
  have o5 := okl_c.mp o4.2
  obtain ⟨hliveb, htgb⟩ := okv_at o3.1 (by decide) hb9
  obtain ⟨hlivea, htga⟩ := okv_at o5.1 (by decide) ha
  obtain ⟨V, hnd, hV, hV0, hP, hD, hcl⟩ := id hW
  obtain ⟨Na, hTa⟩ := tg_arr htga (by decide)
  obtain ⟨Nb, hTb⟩ := tg_arr htgb (by decide)
  obtain ⟨qa, hqa, hqa2⟩ := ws_at (ρ := ρ) (ca := ca) (T := T) (σ := σ) ((hV a).mpr hlivea)
  obtain ⟨qb, hqb, hqb2⟩ := ws_at (ρ := ρ) (ca := ca) (T := T) (σ := σ) ((hV b).mpr hliveb)
  rw [hTa] at hqa2
  rw [hTb] at hqb2
  rw [alen_of hTa] at hla hma
  rw [alen_of hTb] at hlb hmb
  obtain ⟨cm1, cm2⟩ := i32_cl hm9 (by omega)
  obtain ⟨cd1, cd2⟩ := i32_cl hdp (by omega)
  obtain ⟨cs1, cs2⟩ := i32_cl hsp (by omega)
  simp only [List.map_cons]
  rw [am_val_p ρ (t := 8) (z := a) (by decide) ha, am_val_p ρ (t := 8) (z := b) (by decide) hb9]
  have hset : (am_ws ρ ca T σ V).set qb (ρ b, .inl (ca 8, (am_len σ b Nb).toNat, .inl (va_cpy (fun j => Int32.ofInt (σ a j)) (fun j => Int32.ofInt (σ b j)) (Int32.ofInt sp).toNatClampNeg (Int32.ofInt dp).toNatClampNeg (Int32.ofInt m9).toNatClampNeg))) = am_ws ρ ca T (cpy σ a sp b dp m9) V := by
    refine ws_set hnd hqb (fun c hc _ j => by rw [cpy_o σ hc]) ?_
    rw [hTb, cm1, cd1, cs1]
    have hlen : am_len (cpy σ a sp b dp m9) b Nb = am_len σ b Nb := by
      unfold am_len cpy
      rw [if_neg (c := b = b ∧ dp ≤ -1 ∧ -1 < dp + m9) (by omega)]
    simp only [am_cell, am_con, hlen]
    congr 4
    funext j
    unfold va_cpy cpy
    by_cases hj : dp.toNat ≤ j ∧ j < dp.toNat + m9.toNat
    · rw [if_pos hj, if_pos (by omega)]
      show Int32.ofInt (σ a ((sp.toNat + (j - dp.toNat) : Nat) : Int)) = _
      rw [show ((sp.toNat + (j - dp.toNat) : Nat) : Int) = sp + ((j : Int) - dp) by omega]
    · rw [if_neg hj, if_neg (by omega)]
  refine va_copyi hx hb (hml.trans hl.1.symm) hown (hts _ hl0) (hts _ hna) (hts _ hsta) (hts _ hin) hK0 hP hD hS qa qb 0 0 hqa2 hqb2 rfl rfl rfl cs2 cd2 cm2 (by rw [cs1, cm1]; show sp.toNat + m9.toNat ≤ (am_len σ a Na).toNat; omega) (by rw [cd1, cm1]; show dp.toNat + m9.toNat ≤ (am_len σ b Nb).toNat; omega) (fun _ _ => rfl) hd1 ?_ hd (fun H1 locs1 hP1 hD1 hS1 => ?_)
  · have := hcat ρ
    have h9 : nativeFrameWords "java/lang/System" "arraycopy" 5 ≤ 40 := by decide +kernel
    show _ + _ ≤ 64 * dd
    have : 1 ≤ dd := hd1
    omega
  have hP1 : va_P D vwCl (am_ws ρ ca T (cpy σ a sp b dp m9) V) H1 := by rw [← hset]; exact hP1
  have hD1 : va_D (fun q => n0 ≤ q) (am_ws ρ ca T (cpy σ a sp b dp m9) V) := by rw [← hset]; exact hD1
  have hok9 : ∀ v, okv T σ v → okv T (cpy σ a sp b dp m9) v := fun v hv => by
    unfold okv at hv ⊢
    rw [cpy_o σ (show (-2 : Int) ≠ b by omega)]
    exact hv
  refine hK _ _ _ _ h ρ H1 locs1 LS kk n (amW_put hb9 hnd hV hV0 (fun c hc j => by rw [cpy_o σ hc]) hP1 hD1 (fun c hcV => ?_)) hS1 hl (fun v hv => hok9 v (hokl v hv)) (fun v hv => hok9 v (o5.2 v hv)) hk hn ⟨fun c hc => by rw [cpy_o σ (show (-2 : Int) ≠ b by omega)]; exact hag.1 c hc, hag.2⟩
  by_cases hcb : c = b
  · subst hcb
    unfold am_closed
    rw [hTb]
    intro h9; cases h9
  · have hc9 := hcl c hcV
    unfold am_closed at hc9 ⊢
    cases hTc : T c with
    | inl y =>
      rw [hTc] at hc9
      intro j hj hf
      rw [cpy_o σ hcb]
      exact hok9 _ (hc9 j hj hf)
    | inr y =>
      rw [hTc] at hc9
      intro hy j hj
      simp only [am_len] at hj hc9
      rw [cpy_o σ hcb] at hj ⊢
      exact hok9 _ (hc9 hy j hj)
theorem ok_callSN {X : amX} {own : String} {cc : ByteArray} {ret : Option FieldType} {L pc : Nat} (hB : amB X own cc ret L) {y : MethodName} {cy : ByteArray} {maxL d' k index : Nat} {ry : Option FieldType} {P : WP} {host : String} (hP : ∀ av σ Q, P av σ Q → amCall d' 0 0 (XT X) y cy maxL ry av σ Q) (hnest : (own, index, y, host) ∈ amNest) (h2 : Cond.initialized y.cls ∈ TBL) (h3 : Cond.code y cy maxL ry ∈ TBL) (h4 : y.cls ≠ "java/lang/invoke/MethodHandle" ∧ y.cls ≠ "java/lang/invoke/VarHandle") (h5 : (parseMethodDescriptor y.desc).map (fun d => d.parameters.length) = some k) (h6 : maxL ≤ 45) (hdd : d' + 1 ≤ XD X) (hin : Cond.static y ∈ TBL) (hd : decode cc pc = .ok (.invokestatic index, 3)) : amOK X pc (vCallS P k (pc + 3)) := by
  obtain ⟨p, l, e, s, m, args, below, meth, c0, D, ca, n0, T, ρ0, σ0, dd, mc, ms, nL, Q⟩ := X
  obtain ⟨hx, hb, hr, hml, hnL, hown, hts, hlocks, hK0, hA0, hst0⟩ := hB
  intro K ls st σ hK h ρ H locs LS kk n hW hS hl hokl hoks hk hn hag
  obtain ⟨av, st', rfl, hlen, hac, h⟩ := h
  obtain ⟨h67, hcat⟩ := acok_67 _ _ hac
  have hoks1 : okl T σ av ∧ okl T σ st' := ⟨fun v hv => hoks v (List.mem_append_left _ (List.mem_reverse.mpr hv)), fun v hv => hoks v (List.mem_append_right _ hv)⟩
  obtain ⟨hoks0, hoks2⟩ := hoks1
  have hM := hP _ _ _ h l D ca n0 ρ
  have hcn : va_CN (amR dd mc ms) s args own index y host cy maxL ry (.code y cy maxL ry :: TBL) (amR d' 0 0) 0 0 k := by
    refine ⟨⟨rfl, rfl, hdd, ?_, ?_, List.mem_cons_self⟩, hts _ h3, hts _ h2, h4, fun sig hs => ?_, (hst0.2.2.2.2 _ hnest).use rfl⟩
    · show 8 + (maxL + 11) + 64 * d' ≤ 64 * dd
      have : d' + 1 ≤ dd := hdd
      omega
    · intro w hw a' U hWm
      have hwT : w ∈ TBL := (List.mem_cons.mp hw).elim (fun e => e ▸ h3) id
      exact word_at hWm (tb_good w hwT).2 (hts w hwT)
    · rw [hs] at h5
      simpa using h5.symm
  have hrun := va_runSN (g := F0 m pc LS ((av.reverse ++ st').map (am_val ρ))) (cells := kk) (slots := n) (locs := locs) (below := below) (meth := meth) (e := e) (p := p) (As := av.map (am_val ρ)) (rest := st'.map (am_val ρ)) ⟨hx, hb, hml, hown, hts⟩ hM ⟨hcn, hts _ hin, trivial⟩
    ⟨amPc.blind, fun U hU hWm => ⟨rfl, by rw [hU]; exact Nat.le_trans hA0 hS.1, by rw [hU]; exact hW, va_K.moved hWm.alike hK0, hst0.move hWm (fun b h1 h2 => by rw [hU]; exact hS.2.1 b h1 h2) hag.2, hoks0⟩⟩ rfl (by simpa using hlen) hl.1 (by simp [List.map_append, List.map_reverse]) (lv_room (hcat ρ)) hd ⟨by show kk + 0 ≤ mc; omega, by show n + 0 ≤ ms; omega⟩
  refine am_go hrun hS (fun r σ' ρ' H1 locs1 hq hW' hokr hag' hS' => ?_)
  · obtain ⟨hr6, hr7, hKn⟩ := hq
    have := hK _ _ _ _ hKn ρ' H1 locs1 LS kk n hW' hS' (by rw [ag_lvl hag' ls 0 hokl]; exact hl) (fun v hv => okv_ag hag' (hokl v hv)) (okl_c.mpr ⟨hokr, fun v hv => okv_ag hag' (hoks2 v hv)⟩) hk hn (ag_tr hag hag')
    rw [List.map_cons, ag_st hag' hoks2 h67] at this
    have e9 : amQr ρ' r = some (am_val ρ' r) := by unfold amQr; rw [if_neg hr6]
    rw [e9]
    exact this
theorem alen_cpy (T : Int → Kd) (σ : Mem) (a sp b dp n c : Int) (h : 0 ≤ dp) : alen T (cpy σ a sp b dp n) c = alen T σ c := alen_cong (by unfold cpy; rw [if_neg]; omega)
