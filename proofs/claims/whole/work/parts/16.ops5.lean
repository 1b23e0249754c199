theorem cl_up_arr {T : Int → Kd} {σ : Mem} {a i x : Int} {t : Nat} {N : Int} (ha : 0 ≤ a) (hT : T a = .inr (t, N)) (ht : t ≠ 11) : am_closed T (up σ a i x) a := by
  unfold am_closed
  rw [hT]
  intro h; exact absurd h ht
theorem am_len_up {σ : Mem} {a b i x N : Int} (hi : 0 ≤ i) : am_len (up σ a i x) b N = am_len σ b N := by
  unfold am_len
  rw [up_n σ (Or.inr (show (-1 : Int) ≠ i by omega))]

def vIast (T : Int → Kd) (n : Nat) : VT := fun _ K ls st σ => ∃ x i a st', st = (0, x) :: (0, i) :: (8, a) :: st' ∧ 0 ≤ a ∧ 0 ≤ i ∧ i < alen T σ a ∧ alen T σ a ≤ 2147483647 ∧ K n ls st' (up σ a i (x))
theorem vIast_e (T : Int → Kd) (n : Nat) (Q) (K) (ls st : List AV) (x i a : Int) (σ : Mem) : vIast T n Q K ls ((0, x) :: (0, i) :: (8, a) :: st) σ = (0 ≤ a ∧ 0 ≤ i ∧ i < alen T σ a ∧ alen T σ a ≤ 2147483647 ∧ K n ls st (up σ a i (x))) := by
  apply propext; constructor
  · rintro ⟨x', i', a', st', h, h1⟩; cases h; exact h1
  · intro h1; exact ⟨x, i, a, st, rfl, h1⟩
theorem ok_iastore {X : amX} {own : String} {cc : ByteArray} {ret : Option FieldType} {L pc : Nat} (hB : amB X own cc ret L) (hd : decode cc pc = .ok (.iastore, 1)) : amOK X pc (vIast (XT X) (pc + 1)) := by
  obtain ⟨p, l, e, s, m, args, below, meth, c0, D, ca, n0, T, ρ0, σ0, dd, mc, ms, nL, Q⟩ := X
  obtain ⟨hx, hb, hr, hml, hnL, hown, hts, hlocks, hK0, hA0, hst0⟩ := hB
  intro K ls st σ hK h ρ H locs LS kk n hW hS hl hokl hoks hk hn hag
  obtain ⟨x, i, a, st', rfl, ha, h0, h1, h2, h⟩ := h
  dsimp only [XT] at h1 h2 h
  obtain ⟨hlive, htg⟩ := okv_at (okl_c.mp (okl_c.mp (okl_c.mp hoks).2).2).1 (by decide) ha
  obtain ⟨V, hnd, hV, hV0, hP, hD, hcl⟩ := id hW
  obtain ⟨N, hTa⟩ := tg_arr htg (by decide)
  obtain ⟨q, hq, hq2⟩ := ws_at (ρ := ρ) (ca := ca) (T := T) (σ := σ) ((hV a).mpr hlive)
  rw [hTa] at hq2
  rw [alen_of hTa] at h1 h2
  obtain ⟨hin, hcl2⟩ := vp_in_am h0 h1 h2
  rw [List.map_cons, List.map_cons, List.map_cons]
  rw [am_val_p ρ (t := 8) (z := a) (by decide) ha]
  have hset : (am_ws ρ ca T σ V).set q (ρ a, .inl (ca 8, (am_len σ a N).toNat, .inl (upd (fun j => Int32.ofInt (σ a j)) (Int32.ofInt i).toNatClampNeg (Int32.ofInt x)))) = am_ws ρ ca T (up σ a i (x)) V := by
    refine ws_set hnd hq (fun b hb _ j => up_n σ (Or.inl hb)) ?_
    rw [hTa, hcl2]
    simp only [am_cell, am_con, am_len_up h0]
    congr 4
    funext j
    unfold upd
    by_cases hj : j = i.toNat
    · subst hj
      rw [if_pos rfl, Int.toNat_of_nonneg h0, up_s]
    · rw [if_neg hj, up_n σ (Or.inr (by omega))]
  refine va_iast hx hb hK0 hP hD hS q 0 hq2 rfl hin hd (fun H1 locs1 hP1 hD1 hS1 => ?_)
  have hP1 : va_P D vwCl (am_ws ρ ca T (up σ a i (x)) V) H1 := by rw [← hset]; exact hP1
  have hD1 : va_D (fun q => n0 ≤ q) (am_ws ρ ca T (up σ a i (x)) V) := by rw [← hset]; exact hD1
  refine hK _ _ _ _ h ρ H1 locs1 LS kk n (amW_put ha hnd hV hV0 (fun b hb j => up_n σ (Or.inl hb)) hP1 hD1 (fun b hbV => ?_)) hS1 hl (okl_up ha hokl) (okl_up ha (okl_c.mp (okl_c.mp (okl_c.mp hoks).2).2).2) hk hn (ag_up ha hag)
  by_cases hba : b = a
  · subst hba
    exact cl_up_arr ha hTa (by decide)
  · exact cl_up_o ha hba (hcl b hbV)

def vLast (T : Int → Kd) (n : Nat) : VT := fun _ K ls st σ => ∃ x i a st', st = (1, x) :: (0, i) :: (9, a) :: st' ∧ 0 ≤ a ∧ 0 ≤ i ∧ i < alen T σ a ∧ alen T σ a ≤ 2147483647 ∧ K n ls st' (up σ a i (x))
theorem vLast_e (T : Int → Kd) (n : Nat) (Q) (K) (ls st : List AV) (x i a : Int) (σ : Mem) : vLast T n Q K ls ((1, x) :: (0, i) :: (9, a) :: st) σ = (0 ≤ a ∧ 0 ≤ i ∧ i < alen T σ a ∧ alen T σ a ≤ 2147483647 ∧ K n ls st (up σ a i (x))) := by
  apply propext; constructor
  · rintro ⟨x', i', a', st', h, h1⟩; cases h; exact h1
  · intro h1; exact ⟨x, i, a, st, rfl, h1⟩
theorem ok_lastore {X : amX} {own : String} {cc : ByteArray} {ret : Option FieldType} {L pc : Nat} (hB : amB X own cc ret L) (hd : decode cc pc = .ok (.lastore, 1)) : amOK X pc (vLast (XT X) (pc + 1)) := by
  obtain ⟨p, l, e, s, m, args, below, meth, c0, D, ca, n0, T, ρ0, σ0, dd, mc, ms, nL, Q⟩ := X
  obtain ⟨hx, hb, hr, hml, hnL, hown, hts, hlocks, hK0, hA0, hst0⟩ := hB
  intro K ls st σ hK h ρ H locs LS kk n hW hS hl hokl hoks hk hn hag
  obtain ⟨x, i, a, st', rfl, ha, h0, h1, h2, h⟩ := h
  dsimp only [XT] at h1 h2 h
  obtain ⟨hlive, htg⟩ := okv_at (okl_c.mp (okl_c.mp (okl_c.mp hoks).2).2).1 (by decide) ha
  obtain ⟨V, hnd, hV, hV0, hP, hD, hcl⟩ := id hW
  obtain ⟨N, hTa⟩ := tg_arr htg (by decide)
  obtain ⟨q, hq, hq2⟩ := ws_at (ρ := ρ) (ca := ca) (T := T) (σ := σ) ((hV a).mpr hlive)
  rw [hTa] at hq2
  rw [alen_of hTa] at h1 h2
  obtain ⟨hin, hcl2⟩ := vp_in_am h0 h1 h2
  rw [List.map_cons, List.map_cons, List.map_cons]
  rw [am_val_p ρ (t := 9) (z := a) (by decide) ha]
  have hset : (am_ws ρ ca T σ V).set q (ρ a, .inl (ca 9, (am_len σ a N).toNat, .inr (.inl (vp_updL (fun j => Int64.ofInt (σ a j)) (Int32.ofInt i).toNatClampNeg (Int64.ofInt x))))) = am_ws ρ ca T (up σ a i (x)) V := by
    refine ws_set hnd hq (fun b hb _ j => up_n σ (Or.inl hb)) ?_
    rw [hTa, hcl2]
    simp only [am_cell, am_con, am_len_up h0]
    congr 5
    funext j
    unfold vp_updL
    by_cases hj : j = i.toNat
    · subst hj
      rw [if_pos rfl, Int.toNat_of_nonneg h0, up_s]
    · rw [if_neg hj, up_n σ (Or.inr (by omega))]
  refine va_last hx hb hK0 hP hD hS q 1 hq2 rfl hin hd (fun H1 locs1 hP1 hD1 hS1 => ?_)
  have hP1 : va_P D vwCl (am_ws ρ ca T (up σ a i (x)) V) H1 := by rw [← hset]; exact hP1
  have hD1 : va_D (fun q => n0 ≤ q) (am_ws ρ ca T (up σ a i (x)) V) := by rw [← hset]; exact hD1
  refine hK _ _ _ _ h ρ H1 locs1 LS kk n (amW_put ha hnd hV hV0 (fun b hb j => up_n σ (Or.inl hb)) hP1 hD1 (fun b hbV => ?_)) hS1 hl (okl_up ha hokl) (okl_up ha (okl_c.mp (okl_c.mp (okl_c.mp hoks).2).2).2) hk hn (ag_up ha hag)
  by_cases hba : b = a
  · subst hba
    exact cl_up_arr ha hTa (by decide)
  · exact cl_up_o ha hba (hcl b hbV)

def vBast (T : Int → Kd) (n : Nat) : VT := fun _ K ls st σ => ∃ x i a st', st = (0, x) :: (0, i) :: (10, a) :: st' ∧ 0 ≤ a ∧ 0 ≤ i ∧ i < alen T σ a ∧ alen T σ a ≤ 2147483647 ∧ K n ls st' (up σ a i (amI2b x))
theorem vBast_e (T : Int → Kd) (n : Nat) (Q) (K) (ls st : List AV) (x i a : Int) (σ : Mem) : vBast T n Q K ls ((0, x) :: (0, i) :: (10, a) :: st) σ = (0 ≤ a ∧ 0 ≤ i ∧ i < alen T σ a ∧ alen T σ a ≤ 2147483647 ∧ K n ls st (up σ a i (amI2b x))) := by
  apply propext; constructor
  · rintro ⟨x', i', a', st', h, h1⟩; cases h; exact h1
  · intro h1; exact ⟨x, i, a, st, rfl, h1⟩
theorem ok_bastore {X : amX} {own : String} {cc : ByteArray} {ret : Option FieldType} {L pc : Nat} (hB : amB X own cc ret L) (hd : decode cc pc = .ok (.bastore, 1)) : amOK X pc (vBast (XT X) (pc + 1)) := by
  obtain ⟨p, l, e, s, m, args, below, meth, c0, D, ca, n0, T, ρ0, σ0, dd, mc, ms, nL, Q⟩ := X
  obtain ⟨hx, hb, hr, hml, hnL, hown, hts, hlocks, hK0, hA0, hst0⟩ := hB
  intro K ls st σ hK h ρ H locs LS kk n hW hS hl hokl hoks hk hn hag
  obtain ⟨x, i, a, st', rfl, ha, h0, h1, h2, h⟩ := h
  dsimp only [XT] at h1 h2 h
  obtain ⟨hlive, htg⟩ := okv_at (okl_c.mp (okl_c.mp (okl_c.mp hoks).2).2).1 (by decide) ha
  obtain ⟨V, hnd, hV, hV0, hP, hD, hcl⟩ := id hW
  obtain ⟨N, hTa⟩ := tg_arr htg (by decide)
  obtain ⟨q, hq, hq2⟩ := ws_at (ρ := ρ) (ca := ca) (T := T) (σ := σ) ((hV a).mpr hlive)
  rw [hTa] at hq2
  rw [alen_of hTa] at h1 h2
  obtain ⟨hin, hcl2⟩ := vp_in_am h0 h1 h2
  rw [List.map_cons, List.map_cons, List.map_cons]
  rw [am_val_p ρ (t := 10) (z := a) (by decide) ha]
  have hset : (am_ws ρ ca T σ V).set q (ρ a, .inl (ca 10, (am_len σ a N).toNat, .inl (upd (fun j => Int32.ofInt (σ a j)) (Int32.ofInt i).toNatClampNeg (vp_nar .byte (Int32.ofInt x))))) = am_ws ρ ca T (up σ a i (amI2b x)) V := by
    refine ws_set hnd hq (fun b hb _ j => up_n σ (Or.inl hb)) ?_
    rw [hTa, hcl2]
    simp only [am_cell, am_con, am_len_up h0]
    congr 4
    funext j
    unfold upd
    by_cases hj : j = i.toNat
    · subst hj
      rw [if_pos rfl, Int.toNat_of_nonneg h0, up_s]; rw [vp_nar_byte, amI2b, Int32.ofInt_toInt]
    · rw [if_neg hj, up_n σ (Or.inr (by omega))]
  refine va_bast hx hb hK0 hP hD hS q 2 hq2 rfl hin hd (fun H1 locs1 hP1 hD1 hS1 => ?_)
  have hP1 : va_P D vwCl (am_ws ρ ca T (up σ a i (amI2b x)) V) H1 := by rw [← hset]; exact hP1
  have hD1 : va_D (fun q => n0 ≤ q) (am_ws ρ ca T (up σ a i (amI2b x)) V) := by rw [← hset]; exact hD1
  refine hK _ _ _ _ h ρ H1 locs1 LS kk n (amW_put ha hnd hV hV0 (fun b hb j => up_n σ (Or.inl hb)) hP1 hD1 (fun b hbV => ?_)) hS1 hl (okl_up ha hokl) (okl_up ha (okl_c.mp (okl_c.mp (okl_c.mp hoks).2).2).2) hk hn (ag_up ha hag)
  by_cases hba : b = a
  · subst hba
    exact cl_up_arr ha hTa (by decide)
  · exact cl_up_o ha hba (hcl b hbV)

def vAast (T : Int → Kd) (n : Nat) : VT := fun _ K ls st σ => ∃ x i a st', st = (18, x) :: (0, i) :: (11, a) :: st' ∧ 0 ≤ x ∧ 0 ≤ a ∧ 0 ≤ i ∧ i < alen T σ a ∧ alen T σ a ≤ 2147483647 ∧ K n ls st' (up σ a i x)
theorem vAast_e (T : Int → Kd) (n : Nat) (Q) (K) (ls st : List AV) (x i a : Int) (σ : Mem) : vAast T n Q K ls ((18, x) :: (0, i) :: (11, a) :: st) σ = (0 ≤ x ∧ 0 ≤ a ∧ 0 ≤ i ∧ i < alen T σ a ∧ alen T σ a ≤ 2147483647 ∧ K n ls st (up σ a i x)) := by
  apply propext; constructor
  · rintro ⟨x', i', a', st', h, h1⟩; cases h; exact h1
  · intro h1; exact ⟨x, i, a, st, rfl, h1⟩
theorem ok_aastore {X : amX} {own : String} {cc : ByteArray} {ret : Option FieldType} {L pc : Nat} (hB : amB X own cc ret L) (hT : amTok (XT X)) (hd : decode cc pc = .ok (.aastore, 1)) : amOK X pc (vAast (XT X) (pc + 1)) := by
  obtain ⟨p, l, e, s, m, args, below, meth, c0, D, ca, n0, T, ρ0, σ0, dd, mc, ms, nL, Q⟩ := X
  obtain ⟨hx, hb, hr, hml, hnL, hown, hts, hlocks, hK0, hA0, hst0⟩ := hB
  intro K ls st σ hK h ρ H locs LS kk n hW hS hl hokl hoks hk hn hag
  obtain ⟨x, i, a, st', rfl, hx0, ha, h0, h1, h2, h⟩ := h
  dsimp only [XT] at h1 h2 h
  obtain ⟨hlive, htg⟩ := okv_at (okl_c.mp (okl_c.mp (okl_c.mp hoks).2).2).1 (by decide) ha
  obtain ⟨hlivex, htgx⟩ := okv_at (okl_c.mp hoks).1 (by decide) hx0
  obtain ⟨V, hnd, hV, hV0, hP, hD, hcl⟩ := id hW
  obtain ⟨N, hTa⟩ := tg_arr htg (by decide)
  obtain ⟨cr, hTx⟩ := tg_obj (c := 2) htgx (fun x9 hx9 => hT x x9 hx9)
  obtain ⟨q, hq, hq2⟩ := ws_at (ρ := ρ) (ca := ca) (T := T) (σ := σ) ((hV a).mpr hlive)
  obtain ⟨qx, hqx, hqx2⟩ := ws_at (ρ := ρ) (ca := ca) (T := T) (σ := σ) ((hV x).mpr hlivex)
  rw [hTa] at hq2
  rw [hTx] at hqx2
  rw [alen_of hTa] at h1 h2
  obtain ⟨hin, hcl2⟩ := vp_in_am h0 h1 h2
  rw [List.map_cons, List.map_cons, List.map_cons]
  rw [am_val_p ρ (t := 11) (z := a) (by decide) ha, am_val_p ρ (t := 18) (z := x) (by decide) hx0]
  have hset : (am_ws ρ ca T σ V).set q (ρ a, .inl (ca 11, (am_len σ a N).toNat, .inr (.inr (.inr (.inr (va_up (fun j => if σ a j < 0 then none else some (ρ (σ a j))) (Int32.ofInt i).toNatClampNeg (some (ρ x)))))))) = am_ws ρ ca T (up σ a i x) V := by
    refine ws_set hnd hq (fun b hb _ j => up_n σ (Or.inl hb)) ?_
    rw [hTa, hcl2]
    simp only [am_cell, am_con, am_len_up h0]
    congr 7
    funext j
    unfold va_up
    by_cases hj : j = i.toNat
    · subst hj
      rw [if_pos rfl, Int.toNat_of_nonneg h0, up_s, if_neg (by omega)]
    · rw [if_neg hj, up_n σ (Or.inr (by omega))]
  refine va_astq hx hb hK0 hP hD hS q 3 qx 2 hq2 (r := (RX2, TX2, 2)) rfl hqx2 rfl hin hd (fun H1 locs1 hP1 hD1 hS1 => ?_)
  have hP1 : va_P D vwCl (am_ws ρ ca T (up σ a i x) V) H1 := by rw [← hset]; exact hP1
  have hD1 : va_D (fun q => n0 ≤ q) (am_ws ρ ca T (up σ a i x) V) := by rw [← hset]; exact hD1
  refine hK _ _ _ _ h ρ H1 locs1 LS kk n (amW_put ha hnd hV hV0 (fun b hb j => up_n σ (Or.inl hb)) hP1 hD1 (fun b hbV => ?_)) hS1 hl (okl_up ha hokl) (okl_up ha (okl_c.mp (okl_c.mp (okl_c.mp hoks).2).2).2) hk hn (ag_up ha hag)
  by_cases hba : b = a
  · subst hba
    have hc := hcl b hbV
    unfold am_closed at hc ⊢
    rw [hTa] at hc ⊢
    intro _ j hj
    simp only [am_len_up h0] at hj
    by_cases hji : (j : Int) = i
    · rw [hji, up_s]
      exact (okv_up ha).mpr (okl_c.mp hoks).1
    · rw [up_n σ (Or.inr hji)]
      exact (okv_up ha).mpr (hc rfl j hj)
  · exact cl_up_o ha hba (hcl b hbV)

theorem i32_nat (z : Int) (h : 0 ≤ z) : Int32.ofNat z.toNat = Int32.ofInt z := by
  rw [← Int32.ofInt_eq_ofNat, Int.toNat_of_nonneg h]
def vAlen (T : Int → Kd) (n : Nat) : VT := fun _ K ls st σ => ∃ t a st', st = (t, a) :: st' ∧ (((t = 8 ∨ t = 9 ∨ t = 10 ∨ t = 11) ∧ 0 ≤ a ∧ 0 ≤ alen T σ a ∧ K n ls ((0, alen T σ a) :: st') σ) ∨ (t = 5 ∧ 21000 ≤ a ∧ a < 21005 ∧ K n ls ((0, sal a) :: st') σ) ∨ (t = 3 ∧ 20100 ≤ a ∧ a < 20111 ∧ K n ls ((0, stl a) :: st') σ))

theorem vAlen_e8 (T : Int → Kd) (n : Nat) (Q) (K) (ls st : List AV) (a : Int) (σ : Mem) : vAlen T n Q K ls ((8, a) :: st) σ = (0 ≤ a ∧ 0 ≤ alen T σ a ∧ K n ls ((0, alen T σ a) :: st) σ) := by
  apply propext; constructor
  · rintro ⟨t', a', st', h, h1⟩; cases h; rcases h1 with ⟨-, h1⟩ | ⟨h1, -⟩ | ⟨h1, -⟩
    · exact h1
    · cases h1
    · cases h1
  · intro h1; exact ⟨_, a, st, rfl, Or.inl ⟨by simp, h1⟩⟩

theorem vAlen_e9 (T : Int → Kd) (n : Nat) (Q) (K) (ls st : List AV) (a : Int) (σ : Mem) : vAlen T n Q K ls ((9, a) :: st) σ = (0 ≤ a ∧ 0 ≤ alen T σ a ∧ K n ls ((0, alen T σ a) :: st) σ) := by
  apply propext; constructor
  · rintro ⟨t', a', st', h, h1⟩; cases h; rcases h1 with ⟨-, h1⟩ | ⟨h1, -⟩ | ⟨h1, -⟩
    · exact h1
    · cases h1
    · cases h1
  · intro h1; exact ⟨_, a, st, rfl, Or.inl ⟨by simp, h1⟩⟩

theorem vAlen_e10 (T : Int → Kd) (n : Nat) (Q) (K) (ls st : List AV) (a : Int) (σ : Mem) : vAlen T n Q K ls ((10, a) :: st) σ = (0 ≤ a ∧ 0 ≤ alen T σ a ∧ K n ls ((0, alen T σ a) :: st) σ) := by
  apply propext; constructor
  · rintro ⟨t', a', st', h, h1⟩; cases h; rcases h1 with ⟨-, h1⟩ | ⟨h1, -⟩ | ⟨h1, -⟩
    · exact h1
    · cases h1
    · cases h1
  · intro h1; exact ⟨_, a, st, rfl, Or.inl ⟨by simp, h1⟩⟩

theorem vAlen_e11 (T : Int → Kd) (n : Nat) (Q) (K) (ls st : List AV) (a : Int) (σ : Mem) : vAlen T n Q K ls ((11, a) :: st) σ = (0 ≤ a ∧ 0 ≤ alen T σ a ∧ K n ls ((0, alen T σ a) :: st) σ) := by
  apply propext; constructor
  · rintro ⟨t', a', st', h, h1⟩; cases h; rcases h1 with ⟨-, h1⟩ | ⟨h1, -⟩ | ⟨h1, -⟩
    · exact h1
    · cases h1
    · cases h1
  · intro h1; exact ⟨_, a, st, rfl, Or.inl ⟨by simp, h1⟩⟩

theorem vAlen_e5 (T : Int → Kd) (n : Nat) (Q) (K) (ls st : List AV) (a : Int) (σ : Mem) : vAlen T n Q K ls ((5, a) :: st) σ = (21000 ≤ a ∧ a < 21005 ∧ K n ls ((0, sal a) :: st) σ) := by
  apply propext; constructor
  · rintro ⟨t', a', st', h, h1⟩; cases h; rcases h1 with ⟨h1, -⟩ | ⟨-, h1⟩ | ⟨h1, -⟩
    · simp at h1
    · exact h1
    · cases h1
  · intro h1; exact ⟨_, a, st, rfl, Or.inr (Or.inl ⟨rfl, h1⟩)⟩
theorem vAlen_e3 (T : Int → Kd) (n : Nat) (Q) (K) (ls st : List AV) (a : Int) (σ : Mem) : vAlen T n Q K ls ((3, a) :: st) σ = (20100 ≤ a ∧ a < 20111 ∧ K n ls ((0, stl a) :: st) σ) := by
  apply propext; constructor
  · rintro ⟨t', a', st', h, h1⟩; cases h; rcases h1 with ⟨h1, -⟩ | ⟨h1, -⟩ | ⟨-, h1⟩
    · simp at h1
    · cases h1
    · exact h1
  · intro h1; exact ⟨_, a, st, rfl, Or.inr (Or.inr ⟨rfl, h1⟩)⟩
theorem ok_arraylength {X : amX} {own : String} {cc : ByteArray} {ret : Option FieldType} {L pc : Nat} (hB : amB X own cc ret L) (hd : decode cc pc = .ok (.arraylength, 1)) : amOK X pc (vAlen (XT X) (pc + 1)) := by
  obtain ⟨p, l, e, s, m, args, below, meth, c0, D, ca, n0, T, ρ0, σ0, dd, mc, ms, nL, Q⟩ := X
  obtain ⟨hx, hb, hr, hml, hnL, hown, hts, hlocks, hK0, hA0, hst0⟩ := hB
  intro K ls st σ hK h ρ H locs LS kk n hW hS hl hokl hoks hk hn hag
  obtain ⟨t, a, st', rfl, h⟩ := h
  rcases h with ⟨ht, ha, h1, h⟩ | ⟨rfl, ha, ha2, h⟩ | ⟨rfl, ha, ha2, h⟩
  · dsimp only [XT] at h1 h
    obtain ⟨hlive, htg⟩ := okv_at (okl_c.mp hoks).1 (by omega) ha
    obtain ⟨V, hnd, hV, hV0, hP, hD, hcl⟩ := id hW
    obtain ⟨N, hTa⟩ := tg_arr htg (by omega)
    obtain ⟨q, hq, hq2⟩ := ws_at (ρ := ρ) (ca := ca) (T := T) (σ := σ) ((hV a).mpr hlive)
    rw [hTa] at hq2
    rw [alen_of hTa] at h1 h
    have key := hK _ _ _ _ h ρ H locs LS kk n hW hS hl hokl (okl_c.mpr ⟨okv_s (by decide), (okl_c.mp hoks).2⟩) hk hn hag
    rw [List.map_cons] at key ⊢
    rw [am_val_p ρ (t := t) (z := a) (by omega) ha]
    obtain ⟨t0, ty, hty⟩ : ∃ (t0 : Nat) (ty : FieldType), (amTys ca)[t0]? = some (ca t, ty) := by
      rcases ht with rfl | rfl | rfl | rfl
      · exact ⟨0, _, rfl⟩
      · exact ⟨1, _, rfl⟩
      · exact ⟨2, _, rfl⟩
      · exact ⟨3, _, rfl⟩
    exact va_alen hx hb hK0 hP q t0 hq2 hty (i32_nat _ h1) hd key
  · obtain ⟨k9, q9, hk9, hz9, hn9, hq9⟩ := sa_at ha ha2
    have hT9 := (hst0.2.1 k9 q9 hk9).2
    have key := hK _ _ _ _ h ρ H locs LS kk n hW hS hl hokl (okl_c.mpr ⟨okv_s (by decide), (okl_c.mp hoks).2⟩) hk hn hag
    rw [List.map_cons] at key ⊢
    rw [am_val_p ρ (t := 5) (z := a) (by decide) (by omega), hag.2 a (by omega), hz9]
    refine va_tlen hx hb hT9 hS (v := Int32.ofInt (sal a)) ?_ hd key
    rw [show sal a = (q9.2.length : Int) by unfold sal; rw [hq9]]
    exact (Int32.ofInt_eq_ofNat).symm
  · obtain ⟨k9, q9, hk9, hz9, hn9, hq9⟩ := st_at ha ha2
    have hT9 := (hst0.1 k9 q9 hk9).2.2.2.2
    have key := hK _ _ _ _ h ρ H locs LS kk n hW hS hl hokl (okl_c.mpr ⟨okv_s (by decide), (okl_c.mp hoks).2⟩) hk hn hag
    rw [List.map_cons] at key ⊢
    rw [am_val_p ρ (t := 3) (z := a) (by decide) (by omega), hag.2 a (by omega), hz9]
    refine va_tlen hx hb hT9 hS (v := Int32.ofInt (stl a)) ?_ hd key
    rw [show stl a = (q9.2.2.2.length : Int) by unfold stl; rw [hq9]]
    exact (Int32.ofInt_eq_ofNat).symm
def vGets (z : Int) (n : Nat) : VT := fun _ K ls st σ => K n ls ((5, z) :: st) σ
theorem vGets_e (z : Int) (n : Nat) (Q) (K) (ls st : List AV) (σ : Mem) : vGets z n Q K ls st σ = K n ls ((5, z) :: st) σ := rfl
theorem ok_gets {X : amX} {own : String} {cc : ByteArray} {ret : Option FieldType} {L pc : Nat} (hB : amB X own cc ret L) {k index : Nat} {q : String × List Int} (hq : amSA[k]? = some q) {z : Int} (hz : z = 21000 + k) (hl0 : Cond.fieldLink own index "ArmchairHouse$Plan" q.1 "[I" ∈ TBL) (hd : decode cc pc = .ok (.getstatic index, 3)) : amOK X pc (vGets z (pc + 3)) := by
  obtain ⟨p, l, e, s, m, args, below, meth, c0, D, ca, n0, T, ρ0, σ0, dd, mc, ms, nL, Q⟩ := X
  obtain ⟨hx, hb, hr, hml, hnL, hown, hts, hlocks, hK0, hA0, hst0⟩ := hB
  intro K ls st σ hK h ρ H locs LS kk n hW hS hl hokl hoks hk hn hag
  have key := hK _ _ _ _ h ρ H locs LS kk n hW hS hl hokl (okl_c.mpr ⟨okv_k (by decide) (by omega), hoks⟩) hk hn hag
  rw [List.map_cons, am_val_p ρ (t := 5) (z := z) (by decide) (by omega), hag.2 z (by omega), hz] at key
  exact va_gets hx hb (hst0.2.1 k q hq).1 hS hown (hts _ hl0) (fun _ h9 => h9) hd key
def vCompact (n : Nat) : VT := fun _ K ls st σ => K n ls ((0, 1) :: st) σ
theorem vCompact_e (n : Nat) (Q) (K) (ls st : List AV) (σ : Mem) : vCompact n Q K ls st σ = K n ls ((0, 1) :: st) σ := rfl
theorem ok_compact {X : amX} {own : String} {cc : ByteArray} {ret : Option FieldType} {L pc : Nat} (hB : amB X own cc ret L) {index : Nat} (hl0 : Cond.fieldLink own index "java/lang/String" "COMPACT_STRINGS" "Z" ∈ TBL) (hd : decode cc pc = .ok (.getstatic index, 3)) : amOK X pc (vCompact (pc + 3)) := by
  obtain ⟨p, l, e, s, m, args, below, meth, c0, D, ca, n0, T, ρ0, σ0, dd, mc, ms, nL, Q⟩ := X
  obtain ⟨hx, hb, hr, hml, hnL, hown, hts, hlocks, hK0, hA0, hst0⟩ := hB
  intro K ls st σ hK h ρ H locs LS kk n hW hS hl hokl hoks hk hn hag
  have key := hK _ _ _ _ h ρ H locs LS kk n hW hS hl hokl (okl_c.mpr ⟨okv_s (by decide), hoks⟩) hk hn hag
  exact va_gets hx hb hst0.2.2.1 hS hown (hts _ hl0) (fun _ h9 => h9) hd key
def vLdcS (z : Int) (n : Nat) : VT := fun _ K ls st σ => K n ls ((4, z) :: st) σ
theorem vLdcS_e (z : Int) (n : Nat) (Q) (K) (ls st : List AV) (σ : Mem) : vLdcS z n Q K ls st σ = K n ls ((4, z) :: st) σ := rfl
theorem ok_ldcS {X : amX} {own : String} {cc : ByteArray} {ret : Option FieldType} {L pc : Nat} (hB : amB X own cc ret L) {k index : Nat} {q : String × Nat × String × List Int} (hq : amStr[k]? = some q) (ho : q.1 = own) (hi : q.2.1 = index) {z : Int} (hz : z = 20000 + k) (hd : decode cc pc = .ok (.ldc index, 2)) : amOK X pc (vLdcS z (pc + 2)) := by
  obtain ⟨p, l, e, s, m, args, below, meth, c0, D, ca, n0, T, ρ0, σ0, dd, mc, ms, nL, Q⟩ := X
  obtain ⟨hx, hb, hr, hml, hnL, hown, hts, hlocks, hK0, hA0, hst0⟩ := hB
  intro K ls st σ hK h ρ H locs LS kk n hW hS hl hokl hoks hk hn hag
  have key := hK _ _ _ _ h ρ H locs LS kk n hW hS hl hokl (okl_c.mpr ⟨okv_k (by decide) (by omega), hoks⟩) hk hn hag
  rw [List.map_cons, am_val_p ρ (t := 4) (z := z) (by decide) (by omega), hag.2 z (by omega), hz] at key
  have hR := (hst0.1 k q hq).1
  rw [ho, hi] at hR
  exact va_ldcS hx hb hown hR hd key
