/-! making rows; calls of methods that make cells; contracts with something more known of the state (E) -/
abbrev Xn (X : amX) : Nat := X.2.2.2.2.2.2.2.2.2.2.2.1
def dfa (z : Int) : Int → Int := fun j => if j = -1 then z else 0
def dfq (z : Int) : Int → Int := fun j => if j = -1 then z else -1
theorem dfa_n (z : Int) (j : Nat) : dfa z (j : Int) = 0 := by unfold dfa; rw [if_neg (by omega)]
theorem dfq_n (z : Int) (j : Nat) : dfq z (j : Int) = -1 := by unfold dfq; rw [if_neg (by omega)]
def isNA (T : Int → Kd) (a : Int) (t : Nat) (z : Int) : Prop := ∃ N, T a = .inr (t, N) ∧ (N = z ∨ N < 0)
def vNewA (T : Int → Kd) (t : Nat) (f : Int → Int → Int) (g : List AV → Mem → Int) (MC MS L n : Nat) : VT := fun _ K ls st σ => ∃ z st', st = (0, z) :: st' ∧ L + 1 < ls.length ∧ acok st' 8 = true ∧ nl σ (g ls σ) ∧ isNA T (g ls σ) t z ∧ (0 ≤ z ∧ z ≤ 100000) ∧ (lg ls L).2 + 1 ≤ MC ∧ (lg ls (L + 1)).2 + z ≤ MS ∧ K n (cnt ls L 1 z) ((t, g ls σ) :: st') (newm σ (g ls σ) (f z))
theorem vNewA_e (T : Int → Kd) (t : Nat) (f : Int → Int → Int) (g : List AV → Mem → Int) (MC MS L n : Nat) (Q) (K) (ls st : List AV) (z : Int) (σ : Mem) : vNewA T t f g MC MS L n Q K ls ((0, z) :: st) σ = (L + 1 < ls.length ∧ acok st 8 = true ∧ nl σ (g ls σ) ∧ isNA T (g ls σ) t z ∧ (0 ≤ z ∧ z ≤ 100000) ∧ (lg ls L).2 + 1 ≤ MC ∧ (lg ls (L + 1)).2 + z ≤ MS ∧ K n (cnt ls L 1 z) ((t, g ls σ) :: st) (newm σ (g ls σ) (f z))) := by
  apply propext; constructor
  · rintro ⟨z', st', h, h1⟩; cases h; exact h1
  · intro h1; exact ⟨z, st, rfl, h1⟩
theorem newm_con8 {ρ : Int → Nat} {σ : Mem} {a z : Int} : am_con ρ (newm σ a (dfa z)) a 8 = .inl (fun _ => Int32.ofInt 0) := by
  rw [con_n (by decide) (by decide), newm_s]
  congr 1
theorem newm_con10 {ρ : Int → Nat} {σ : Mem} {a z : Int} : am_con ρ (newm σ a (dfa z)) a 10 = .inl (fun _ => Int32.ofInt 0) := by
  rw [con_n (by decide) (by decide), newm_s]
  congr 1
theorem newm_con9 {ρ : Int → Nat} {σ : Mem} {a z : Int} : am_con ρ (newm σ a (dfa z)) a 9 = .inr (.inl (fun _ => Int64.ofInt 0)) := by
  show Sum.inr (Sum.inl (fun j : Nat => Int64.ofInt (newm σ a (dfa z) a j))) = _
  rw [newm_s]
  congr 2
theorem ok_newA8 {X : amX} {own : String} {cc : ByteArray} {ret : Option FieldType} {L pc : Nat} (hB : amB X own cc ret L) {T : Int → Kd} {MC MS : Nat} (e1 : XT X = T) (e3 : XC X = MC) (e4 : XS X = MS) (harr : Cond.arrayClass .int ∈ TBL) (g : List AV → Mem → Int) (hd : decode cc pc = .ok (.newarray .int, 2)) : amOK X pc (vNewA T 8 dfa g MC MS L (pc + 2)) := by
  obtain ⟨p, l, e, s, m, args, below, meth, c0, D, ca, n0, T', ρ0, σ0, dd, mc, ms, nL, Q⟩ := X
  obtain ⟨hx, hb, hr, hml, hnL, hown, hts, hlocks, hK0, hA0, hst0⟩ := hB
  intro K ls st σ hK h ρ H locs LS kk n hW hS hl hokl hoks hk hn hag
  dsimp only [XT, XC, XS] at e1 e3 e4
  subst e1 e3 e4 hnL
  obtain ⟨z, st', rfl, hlen, hac, ⟨ha, ha2, hna⟩, ⟨N, hTa, hN⟩, ⟨z0, z1⟩, hc1, hc2, h⟩ := h
  obtain ⟨h67, -⟩ := acok_67 _ _ hac
  generalize g ls σ = a at *
  obtain ⟨V, hnd, hV, hV0, hP, hD, hcls⟩ := id hW
  obtain ⟨cz1, cz2⟩ := i32_cl z0 (by omega)
  rw [List.map_cons]
  have hcon : ∀ ρ' : Int → Nat, am_con ρ' (newm σ a (dfa z)) a 8 = am_con ρ (newm σ a (dfa z)) a 8 := fun ρ' => con_new (by decide) rfl
  refine va_newa (D := D) hx hb (atype := .int) (hts _ harr) (ty := .int) rfl hK0 hP hD hS (fun q hq => Nat.le_trans hA0 hq) (n := Int32.ofInt z) (N' := z.toNat) (a0 := (z.toNat, am_con ρ (newm σ a (dfa z)) a 8)) ?_ cz2 cz1 ?_ (by show kk + 1 ≤ mc; omega) (by show n + z.toNat ≤ ms; omega) hd (fun q cA H1 hK1 hP1 hD1 hS1 => ?_)
  · intro cA
    show vp_cell cA (z.toNat, _) = _
    rw [newm_con8]
    rfl
  · exact Nat.le_trans (Nat.mul_le_mul_left _ (show componentBytes .int ≤ 8 by decide)) (by omega)
  · have hcA : cA = ca 8 := by
      have r1 := (hK0.2 0 _ (am_ty8 ca)).2
      have r2 := (hK1.2 4 (cA, .int) rfl).2
      have r1 : s.vm.findClass ("[" ++ (FieldType.int).toString) = some (ca 8) := r1
      have r2 : s.vm.findClass ("[" ++ (FieldType.int).toString) = some cA := r2
      rw [r1] at r2
      exact (Option.some.inj r2).symm
    subst hcA
    have hlz : am_len (newm σ a (dfa z)) a N = z := by
      unfold am_len
      rcases hN with hN | hN
      · rw [if_neg (by omega)]; exact hN
      · rw [if_pos hN, newm_s]; rfl
    have he : (Sum.inl (ca 8, z.toNat, am_con ρ (newm σ a (dfa z)) a 8) : va_E) = am_cell (upr ρ a q) ca (newm σ a (dfa z)) a (T' a) := by
      rw [hTa]
      show _ = Sum.inl (ca 8, (am_len (newm σ a (dfa z)) a N).toNat, am_con (upr ρ a q) (newm σ a (dfa z)) a 8)
      rw [hlz, hcon (upr ρ a q)]
    have hcn : am_closed T' (newm σ a (dfa z)) a := by
      unfold am_closed
      rw [hTa]
      intro h11; exact absurd (show (8 : Nat) = 11 from h11) (by decide)
    have hW1 := amW_new ha ha2 hna hnd hV hV0 hcls he hP1 hD1 hcn
    have hokv : okv T' (newm σ a (dfa z)) (8, a) := ⟨fun _ => Or.inr ⟨newm_l σ ha, by rw [hTa]; rfl⟩, fun _ h6 => absurd (show (8 : Nat) < 6 from h6) (by decide)⟩
    have hoks2 := (okl_c.mp hoks).2
    have key := hK _ _ _ _ h (upr ρ a q) H1 locs LS (kk + 1) (n + z.toNat) hW1 hS1 (lv_cnt (by rw [lvl_new ha ha2 hna hokl]; exact hl)) (okl_cnt (okl_new ha hokl)) (okl_c.mpr ⟨hokv, okl_new ha hoks2⟩) (by rw [cnt_0 hlen]; omega) (by rw [cnt_1 hlen]; omega) (ag_new ha ha2 hna hag)
    rw [List.map_cons, st_new ha ha2 hna hoks2 h67, am_val_p _ (by decide) ha, upr_s] at key
    exact key
theorem ok_newA9 {X : amX} {own : String} {cc : ByteArray} {ret : Option FieldType} {L pc : Nat} (hB : amB X own cc ret L) {T : Int → Kd} {MC MS : Nat} (e1 : XT X = T) (e3 : XC X = MC) (e4 : XS X = MS) (harr : Cond.arrayClass .long ∈ TBL) (g : List AV → Mem → Int) (hd : decode cc pc = .ok (.newarray .long, 2)) : amOK X pc (vNewA T 9 dfa g MC MS L (pc + 2)) := by
  obtain ⟨p, l, e, s, m, args, below, meth, c0, D, ca, n0, T', ρ0, σ0, dd, mc, ms, nL, Q⟩ := X
  obtain ⟨hx, hb, hr, hml, hnL, hown, hts, hlocks, hK0, hA0, hst0⟩ := hB
  intro K ls st σ hK h ρ H locs LS kk n hW hS hl hokl hoks hk hn hag
  dsimp only [XT, XC, XS] at e1 e3 e4
  subst e1 e3 e4 hnL
  obtain ⟨z, st', rfl, hlen, hac, ⟨ha, ha2, hna⟩, ⟨N, hTa, hN⟩, ⟨z0, z1⟩, hc1, hc2, h⟩ := h
  obtain ⟨h67, -⟩ := acok_67 _ _ hac
  generalize g ls σ = a at *
  obtain ⟨V, hnd, hV, hV0, hP, hD, hcls⟩ := id hW
  obtain ⟨cz1, cz2⟩ := i32_cl z0 (by omega)
  rw [List.map_cons]
  have hcon : ∀ ρ' : Int → Nat, am_con ρ' (newm σ a (dfa z)) a 9 = am_con ρ (newm σ a (dfa z)) a 9 := fun ρ' => con_new (by decide) rfl
  refine va_newa (D := D) hx hb (atype := .long) (hts _ harr) (ty := .long) rfl hK0 hP hD hS (fun q hq => Nat.le_trans hA0 hq) (n := Int32.ofInt z) (N' := z.toNat) (a0 := (z.toNat, am_con ρ (newm σ a (dfa z)) a 9)) ?_ cz2 cz1 ?_ (by show kk + 1 ≤ mc; omega) (by show n + z.toNat ≤ ms; omega) hd (fun q cA H1 hK1 hP1 hD1 hS1 => ?_)
  · intro cA
    show vp_cell cA (z.toNat, _) = _
    rw [newm_con9]
    rfl
  · exact Nat.le_trans (Nat.mul_le_mul_left _ (show componentBytes .long ≤ 8 by decide)) (by omega)
  · have hcA : cA = ca 9 := by
      have r1 := (hK0.2 1 _ (am_ty9 ca)).2
      have r2 := (hK1.2 4 (cA, .long) rfl).2
      have r1 : s.vm.findClass ("[" ++ (FieldType.long).toString) = some (ca 9) := r1
      have r2 : s.vm.findClass ("[" ++ (FieldType.long).toString) = some cA := r2
      rw [r1] at r2
      exact (Option.some.inj r2).symm
    subst hcA
    have hlz : am_len (newm σ a (dfa z)) a N = z := by
      unfold am_len
      rcases hN with hN | hN
      · rw [if_neg (by omega)]; exact hN
      · rw [if_pos hN, newm_s]; rfl
    have he : (Sum.inl (ca 9, z.toNat, am_con ρ (newm σ a (dfa z)) a 9) : va_E) = am_cell (upr ρ a q) ca (newm σ a (dfa z)) a (T' a) := by
      rw [hTa]
      show _ = Sum.inl (ca 9, (am_len (newm σ a (dfa z)) a N).toNat, am_con (upr ρ a q) (newm σ a (dfa z)) a 9)
      rw [hlz, hcon (upr ρ a q)]
    have hcn : am_closed T' (newm σ a (dfa z)) a := by
      unfold am_closed
      rw [hTa]
      intro h11; exact absurd (show (9 : Nat) = 11 from h11) (by decide)
    have hW1 := amW_new ha ha2 hna hnd hV hV0 hcls he hP1 hD1 hcn
    have hokv : okv T' (newm σ a (dfa z)) (9, a) := ⟨fun _ => Or.inr ⟨newm_l σ ha, by rw [hTa]; rfl⟩, fun _ h6 => absurd (show (9 : Nat) < 6 from h6) (by decide)⟩
    have hoks2 := (okl_c.mp hoks).2
    have key := hK _ _ _ _ h (upr ρ a q) H1 locs LS (kk + 1) (n + z.toNat) hW1 hS1 (lv_cnt (by rw [lvl_new ha ha2 hna hokl]; exact hl)) (okl_cnt (okl_new ha hokl)) (okl_c.mpr ⟨hokv, okl_new ha hoks2⟩) (by rw [cnt_0 hlen]; omega) (by rw [cnt_1 hlen]; omega) (ag_new ha ha2 hna hag)
    rw [List.map_cons, st_new ha ha2 hna hoks2 h67, am_val_p _ (by decide) ha, upr_s] at key
    exact key
theorem ok_newA10 {X : amX} {own : String} {cc : ByteArray} {ret : Option FieldType} {L pc : Nat} (hB : amB X own cc ret L) {T : Int → Kd} {MC MS : Nat} (e1 : XT X = T) (e3 : XC X = MC) (e4 : XS X = MS) (harr : Cond.arrayClass .byte ∈ TBL) (g : List AV → Mem → Int) (hd : decode cc pc = .ok (.newarray .byte, 2)) : amOK X pc (vNewA T 10 dfa g MC MS L (pc + 2)) := by
  obtain ⟨p, l, e, s, m, args, below, meth, c0, D, ca, n0, T', ρ0, σ0, dd, mc, ms, nL, Q⟩ := X
  obtain ⟨hx, hb, hr, hml, hnL, hown, hts, hlocks, hK0, hA0, hst0⟩ := hB
  intro K ls st σ hK h ρ H locs LS kk n hW hS hl hokl hoks hk hn hag
  dsimp only [XT, XC, XS] at e1 e3 e4
  subst e1 e3 e4 hnL
  obtain ⟨z, st', rfl, hlen, hac, ⟨ha, ha2, hna⟩, ⟨N, hTa, hN⟩, ⟨z0, z1⟩, hc1, hc2, h⟩ := h
  obtain ⟨h67, -⟩ := acok_67 _ _ hac
  generalize g ls σ = a at *
  obtain ⟨V, hnd, hV, hV0, hP, hD, hcls⟩ := id hW
  obtain ⟨cz1, cz2⟩ := i32_cl z0 (by omega)
  rw [List.map_cons]
  have hcon : ∀ ρ' : Int → Nat, am_con ρ' (newm σ a (dfa z)) a 10 = am_con ρ (newm σ a (dfa z)) a 10 := fun ρ' => con_new (by decide) rfl
  refine va_newa (D := D) hx hb (atype := .byte) (hts _ harr) (ty := .byte) rfl hK0 hP hD hS (fun q hq => Nat.le_trans hA0 hq) (n := Int32.ofInt z) (N' := z.toNat) (a0 := (z.toNat, am_con ρ (newm σ a (dfa z)) a 10)) ?_ cz2 cz1 ?_ (by show kk + 1 ≤ mc; omega) (by show n + z.toNat ≤ ms; omega) hd (fun q cA H1 hK1 hP1 hD1 hS1 => ?_)
  · intro cA
    show vp_cell cA (z.toNat, _) = _
    rw [newm_con10]
    rfl
  · exact Nat.le_trans (Nat.mul_le_mul_left _ (show componentBytes .byte ≤ 8 by decide)) (by omega)
  · have hcA : cA = ca 10 := by
      have r1 := (hK0.2 2 _ (am_ty10 ca)).2
      have r2 := (hK1.2 4 (cA, .byte) rfl).2
      have r1 : s.vm.findClass ("[" ++ (FieldType.byte).toString) = some (ca 10) := r1
      have r2 : s.vm.findClass ("[" ++ (FieldType.byte).toString) = some cA := r2
      rw [r1] at r2
      exact (Option.some.inj r2).symm
    subst hcA
    have hlz : am_len (newm σ a (dfa z)) a N = z := by
      unfold am_len
      rcases hN with hN | hN
      · rw [if_neg (by omega)]; exact hN
      · rw [if_pos hN, newm_s]; rfl
    have he : (Sum.inl (ca 10, z.toNat, am_con ρ (newm σ a (dfa z)) a 10) : va_E) = am_cell (upr ρ a q) ca (newm σ a (dfa z)) a (T' a) := by
      rw [hTa]
      show _ = Sum.inl (ca 10, (am_len (newm σ a (dfa z)) a N).toNat, am_con (upr ρ a q) (newm σ a (dfa z)) a 10)
      rw [hlz, hcon (upr ρ a q)]
    have hcn : am_closed T' (newm σ a (dfa z)) a := by
      unfold am_closed
      rw [hTa]
      intro h11; exact absurd (show (10 : Nat) = 11 from h11) (by decide)
    have hW1 := amW_new ha ha2 hna hnd hV hV0 hcls he hP1 hD1 hcn
    have hokv : okv T' (newm σ a (dfa z)) (10, a) := ⟨fun _ => Or.inr ⟨newm_l σ ha, by rw [hTa]; rfl⟩, fun _ h6 => absurd (show (10 : Nat) < 6 from h6) (by decide)⟩
    have hoks2 := (okl_c.mp hoks).2
    have key := hK _ _ _ _ h (upr ρ a q) H1 locs LS (kk + 1) (n + z.toNat) hW1 hS1 (lv_cnt (by rw [lvl_new ha ha2 hna hokl]; exact hl)) (okl_cnt (okl_new ha hokl)) (okl_c.mpr ⟨hokv, okl_new ha hoks2⟩) (by rw [cnt_0 hlen]; omega) (by rw [cnt_1 hlen]; omega) (ag_new ha ha2 hna hag)
    rw [List.map_cons, st_new ha ha2 hna hoks2 h67, am_val_p _ (by decide) ha, upr_s] at key
    exact key
theorem ok_newQ {X : amX} {own : String} {cc : ByteArray} {ret : Option FieldType} {L pc : Nat} (hB : amB X own cc ret L) {T : Int → Kd} {MC MS : Nat} (e1 : XT X = T) (e3 : XC X = MC) (e4 : XS X = MS) {index : Nat} (hE : va_AO "ArmchairHouse$Law" (Xst X)) (hcl : Cond.classLink own index "ArmchairHouse$Law" ∈ TBL) (g : List AV → Mem → Int) (hd : decode cc pc = .ok (.anewarray index, 3)) : amOK X pc (vNewA T 11 dfq g MC MS L (pc + 3)) := by
  obtain ⟨p, l, e, s, m, args, below, meth, c0, D, ca, n0, T', ρ0, σ0, dd, mc, ms, nL, Q⟩ := X
  obtain ⟨hx, hb, hr, hml, hnL, hown, hts, hlocks, hK0, hA0, hst0⟩ := hB
  intro K ls st σ hK h ρ H locs LS kk n hW hS hl hokl hoks hk hn hag
  dsimp only [XT, XC, XS] at e1 e3 e4
  subst e1 e3 e4 hnL
  obtain ⟨z, st', rfl, hlen, hac, ⟨ha, ha2, hna⟩, ⟨N, hTa, hN⟩, ⟨z0, z1⟩, hc1, hc2, h⟩ := h
  obtain ⟨h67, -⟩ := acok_67 _ _ hac
  generalize g ls σ = a at *
  obtain ⟨V, hnd, hV, hV0, hP, hD, hcls⟩ := id hW
  obtain ⟨cz1, cz2⟩ := i32_cl z0 (by omega)
  rw [List.map_cons]
  refine va_newq (D := D) hx hb hown (hts _ hcl) hE hK0 hP hD hS (fun q hq => Nat.le_trans hA0 hq) (n := Int32.ofInt z) (N' := z.toNat) cz2 cz1 (by omega) (by show kk + 1 ≤ mc; omega) (by show n + z.toNat ≤ ms; omega) hd (fun q cA H1 hK1 hP1 hD1 hS1 => ?_)
  · have hcA : cA = ca 11 := by
      obtain ⟨-, -, -, -, -, r1⟩ := (hK0.2 3 _ (am_ty11 ca)).2
      obtain ⟨-, -, -, -, -, r2⟩ := (hK1.2 4 (cA, .object "ArmchairHouse$Law") rfl).2
      rw [r1] at r2
      exact (Option.some.inj r2).symm
    subst hcA
    have hlz : am_len (newm σ a (dfq z)) a N = z := by
      unfold am_len
      rcases hN with hN | hN
      · rw [if_neg (by omega)]; exact hN
      · rw [if_pos hN, newm_s]; rfl
    have he : (Sum.inl (ca 11, z.toNat, .inr (.inr (.inr (.inr (fun _ => none))))) : va_E) = am_cell (upr ρ a q) ca (newm σ a (dfq z)) a (T' a) := by
      rw [hTa]
      show _ = Sum.inl (ca 11, (am_len (newm σ a (dfq z)) a N).toNat, Sum.inr (Sum.inr (Sum.inr (Sum.inr (fun j : Nat => if newm σ a (dfq z) a j < 0 then none else some (upr ρ a q (newm σ a (dfq z) a j)))))))
      rw [hlz, newm_s]
      congr 7
    have hcn : am_closed T' (newm σ a (dfq z)) a := by
      unfold am_closed
      rw [hTa]
      intro h11 j hj
      rw [newm_s, dfq_n]
      exact ⟨fun _ => Or.inl (by decide), fun _ _ => Or.inl (by decide)⟩
    have hW1 := amW_new ha ha2 hna hnd hV hV0 hcls he hP1 hD1 hcn
    have hokv : okv T' (newm σ a (dfq z)) (11, a) := ⟨fun _ => Or.inr ⟨newm_l σ ha, by rw [hTa]; rfl⟩, fun _ h6 => absurd (show (11 : Nat) < 6 from h6) (by decide)⟩
    have hoks2 := (okl_c.mp hoks).2
    have key := hK _ _ _ _ h (upr ρ a q) H1 locs LS (kk + 1) (n + z.toNat) hW1 hS1 (lv_cnt (by rw [lvl_new ha ha2 hna hokl]; exact hl)) (okl_cnt (okl_new ha hokl)) (okl_c.mpr ⟨hokv, okl_new ha hoks2⟩) (by rw [cnt_0 hlen]; omega) (by rw [cnt_1 hlen]; omega) (ag_new ha ha2 hna hag)
    rw [List.map_cons, st_new ha ha2 hna hoks2 h67, am_val_p _ (by decide) ha, upr_s] at key
    exact key
/-- contracts with more known of the state -/
def eMove (E : Nat → State → Prop) : Prop := ∀ (n0 : Nat) (s U : State), E n0 s → s.WarmedH U.vm → (∀ a : Nat, a < s.heap.size → ¬ n0 ≤ a → U.heap[a]? = s.heap[a]?) → E n0 U
def amPcE (E : Nat → State → Prop) (D : va_G) (ca : Nat → ClassId) (T : Int → Kd) (n0 : Nat) (ρ0 : Int → Nat) (σ0 : Mem) (av : List AV) : Array Value → State → Prop := fun v U => amPc D ca T n0 ρ0 σ0 av v U ∧ E n0 U
def amCallE (E : Nat → State → Prop) (d mc ms : Nat) (T : Int → Kd) (y : MethodName) (cc : ByteArray) (maxL : Nat) (ret : Option FieldType) (av : List AV) (σ0 : Mem) (Q : AV → Mem → Prop) : Prop :=
  ∀ (l : Launch) (D : va_G) (ca : Nat → ClassId) (n0 : Nat) (ρ0 : Int → Nat), Met l y (.code y cc maxL ret :: TBL) (amR d mc ms) (amPcE E D ca T n0 ρ0 σ0 av) (amQc D ca T n0 ρ0 σ0 Q) mc ms (fun q => n0 ≤ q)
theorem amPcE.blind {E : Nat → State → Prop} (hE : eMove E) {D : va_G} {ca : Nat → ClassId} {T : Int → Kd} {n0 : Nat} {ρ0 : Int → Nat} {σ0 : Mem} {av : List AV} : FrameBlind (amPcE E D ca T n0 ρ0 σ0 av) := by
  intro a U g mk ⟨h1, h2⟩
  exact ⟨amPc.blind a U g mk h1, hE n0 U _ h2 (State.WarmedH.refl U) (fun _ _ _ => rfl)⟩
abbrev Eno : Nat → State → Prop := fun _ _ => True
theorem Eno_m : eMove Eno := fun _ _ _ _ _ _ => trivial
def Elaw : Nat → State → Prop := fun _ U => va_AO "ArmchairHouse$Law" U
theorem Elaw_m : eMove Elaw := fun _ _ _ h hW _ => va_AO.moved hW.alike h
/-- a call of a constructor -/
def vCallI (P : WP) (t k mc' ms' MC MS L n : Nat) : VT := fun _ K ls st σ => ∃ a av st', st = av.reverse ++ (t, a) :: st' ∧ av.length = k ∧ 0 ≤ a ∧ L + 1 < ls.length ∧ acok st' 8 = true ∧ (lg ls L).2 + mc' ≤ MC ∧ (lg ls (L + 1)).2 + ms' ≤ MS ∧ P ((t, a) :: av) σ (fun r σ' => r.1 = 6 ∧ K n (cnt ls L mc' ms') st' σ')
theorem vCallI_g (P : WP) (t k mc' ms' MC MS L n : Nat) (Q) (K) (ls st : List AV) (a : Int) (av : List AV) (σ : Mem) (hk : av.length = k) : vCallI P t k mc' ms' MC MS L n Q K ls (av.reverse ++ (t, a) :: st) σ = (0 ≤ a ∧ L + 1 < ls.length ∧ acok st 8 = true ∧ (lg ls L).2 + mc' ≤ MC ∧ (lg ls (L + 1)).2 + ms' ≤ MS ∧ P ((t, a) :: av) σ (fun r σ' => r.1 = 6 ∧ K n (cnt ls L mc' ms') st σ')) := by
  apply propext; constructor
  · rintro ⟨a', av', st', h, h1, h2⟩
    obtain ⟨h8, h9⟩ := rev_app h (hk.trans h1.symm)
    subst h8; cases h9; exact h2
  · intro h; exact ⟨a, av, st, rfl, hk, h⟩
theorem vCallI_e0 (P : WP) (t mc' ms' MC MS L n : Nat) (Q) (K) (ls st : List AV) (a : Int) (σ : Mem) : vCallI P t 0 mc' ms' MC MS L n Q K ls ((t, a) :: st) σ = (0 ≤ a ∧ L + 1 < ls.length ∧ acok st 8 = true ∧ (lg ls L).2 + mc' ≤ MC ∧ (lg ls (L + 1)).2 + ms' ≤ MS ∧ P [(t, a)] σ (fun r σ' => r.1 = 6 ∧ K n (cnt ls L mc' ms') st σ')) := vCallI_g P t 0 mc' ms' MC MS L n Q K ls st a [] σ rfl
theorem vCallI_e1 (P : WP) (t mc' ms' MC MS L n : Nat) (Q) (K) (ls st : List AV) (a : Int) (v0 : AV) (σ : Mem) : vCallI P t 1 mc' ms' MC MS L n Q K ls (v0 :: (t, a) :: st) σ = (0 ≤ a ∧ L + 1 < ls.length ∧ acok st 8 = true ∧ (lg ls L).2 + mc' ≤ MC ∧ (lg ls (L + 1)).2 + ms' ≤ MS ∧ P [(t, a), v0] σ (fun r σ' => r.1 = 6 ∧ K n (cnt ls L mc' ms') st σ')) := vCallI_g P t 1 mc' ms' MC MS L n Q K ls st a [v0] σ rfl
theorem vCallI_e2 (P : WP) (t mc' ms' MC MS L n : Nat) (Q) (K) (ls st : List AV) (a : Int) (v0 v1 : AV) (σ : Mem) : vCallI P t 2 mc' ms' MC MS L n Q K ls (v1 :: v0 :: (t, a) :: st) σ = (0 ≤ a ∧ L + 1 < ls.length ∧ acok st 8 = true ∧ (lg ls L).2 + mc' ≤ MC ∧ (lg ls (L + 1)).2 + ms' ≤ MS ∧ P [(t, a), v0, v1] σ (fun r σ' => r.1 = 6 ∧ K n (cnt ls L mc' ms') st σ')) := vCallI_g P t 2 mc' ms' MC MS L n Q K ls st a [v0, v1] σ rfl
theorem vCallI_e3 (P : WP) (t mc' ms' MC MS L n : Nat) (Q) (K) (ls st : List AV) (a : Int) (v0 v1 v2 : AV) (σ : Mem) : vCallI P t 3 mc' ms' MC MS L n Q K ls (v2 :: v1 :: v0 :: (t, a) :: st) σ = (0 ≤ a ∧ L + 1 < ls.length ∧ acok st 8 = true ∧ (lg ls L).2 + mc' ≤ MC ∧ (lg ls (L + 1)).2 + ms' ≤ MS ∧ P [(t, a), v0, v1, v2] σ (fun r σ' => r.1 = 6 ∧ K n (cnt ls L mc' ms') st σ')) := vCallI_g P t 3 mc' ms' MC MS L n Q K ls st a [v0, v1, v2] σ rfl
/-- a call of a method that makes cells -/
def vCallMA (P : WP) (t k mc' ms' MC MS L n : Nat) : VT := fun _ K ls st σ => ∃ a av st', st = av.reverse ++ (t, a) :: st' ∧ av.length = k ∧ 0 ≤ a ∧ L + 1 < ls.length ∧ acok st' 8 = true ∧ (lg ls L).2 + mc' ≤ MC ∧ (lg ls (L + 1)).2 + ms' ≤ MS ∧ P ((t, a) :: av) σ (fun r σ' => r.1 ≠ 6 ∧ r.1 ≠ 7 ∧ K n (cnt ls L mc' ms') (r :: st') σ')
theorem vCallMA_g (P : WP) (t k mc' ms' MC MS L n : Nat) (Q) (K) (ls st : List AV) (a : Int) (av : List AV) (σ : Mem) (hk : av.length = k) : vCallMA P t k mc' ms' MC MS L n Q K ls (av.reverse ++ (t, a) :: st) σ = (0 ≤ a ∧ L + 1 < ls.length ∧ acok st 8 = true ∧ (lg ls L).2 + mc' ≤ MC ∧ (lg ls (L + 1)).2 + ms' ≤ MS ∧ P ((t, a) :: av) σ (fun r σ' => r.1 ≠ 6 ∧ r.1 ≠ 7 ∧ K n (cnt ls L mc' ms') (r :: st) σ')) := by
  apply propext; constructor
  · rintro ⟨a', av', st', h, h1, h2⟩
    obtain ⟨h8, h9⟩ := rev_app h (hk.trans h1.symm)
    subst h8; cases h9; exact h2
  · intro h; exact ⟨a, av, st, rfl, hk, h⟩
theorem vCallMA_e0 (P : WP) (t mc' ms' MC MS L n : Nat) (Q) (K) (ls st : List AV) (a : Int) (σ : Mem) : vCallMA P t 0 mc' ms' MC MS L n Q K ls ((t, a) :: st) σ = (0 ≤ a ∧ L + 1 < ls.length ∧ acok st 8 = true ∧ (lg ls L).2 + mc' ≤ MC ∧ (lg ls (L + 1)).2 + ms' ≤ MS ∧ P [(t, a)] σ (fun r σ' => r.1 ≠ 6 ∧ r.1 ≠ 7 ∧ K n (cnt ls L mc' ms') (r :: st) σ')) := vCallMA_g P t 0 mc' ms' MC MS L n Q K ls st a [] σ rfl
theorem vCallMA_e1 (P : WP) (t mc' ms' MC MS L n : Nat) (Q) (K) (ls st : List AV) (a : Int) (v0 : AV) (σ : Mem) : vCallMA P t 1 mc' ms' MC MS L n Q K ls (v0 :: (t, a) :: st) σ = (0 ≤ a ∧ L + 1 < ls.length ∧ acok st 8 = true ∧ (lg ls L).2 + mc' ≤ MC ∧ (lg ls (L + 1)).2 + ms' ≤ MS ∧ P [(t, a), v0] σ (fun r σ' => r.1 ≠ 6 ∧ r.1 ≠ 7 ∧ K n (cnt ls L mc' ms') (r :: st) σ')) := vCallMA_g P t 1 mc' ms' MC MS L n Q K ls st a [v0] σ rfl
def vCallSA (P : WP) (k mc' ms' MC MS L n : Nat) : VT := fun _ K ls st σ => ∃ av st', st = av.reverse ++ st' ∧ av.length = k ∧ L + 1 < ls.length ∧ acok st' 8 = true ∧ (lg ls L).2 + mc' ≤ MC ∧ (lg ls (L + 1)).2 + ms' ≤ MS ∧ P av σ (fun r σ' => r.1 ≠ 6 ∧ r.1 ≠ 7 ∧ K n (cnt ls L mc' ms') (r :: st') σ')
theorem vCallSA_g (P : WP) (k mc' ms' MC MS L n : Nat) (Q) (K) (ls st : List AV) (av : List AV) (σ : Mem) (hk : av.length = k) : vCallSA P k mc' ms' MC MS L n Q K ls (av.reverse ++ st) σ = (L + 1 < ls.length ∧ acok st 8 = true ∧ (lg ls L).2 + mc' ≤ MC ∧ (lg ls (L + 1)).2 + ms' ≤ MS ∧ P av σ (fun r σ' => r.1 ≠ 6 ∧ r.1 ≠ 7 ∧ K n (cnt ls L mc' ms') (r :: st) σ')) := by
  apply propext; constructor
  · rintro ⟨av', st', h, h1, h2⟩
    obtain ⟨h8, h9⟩ := rev_app h (hk.trans h1.symm)
    subst h8; cases h9; exact h2
  · intro h; exact ⟨av, st, rfl, hk, h⟩
theorem vCallSA_e2 (P : WP) (mc' ms' MC MS L n : Nat) (Q) (K) (ls st : List AV) (v0 v1 : AV) (σ : Mem) : vCallSA P 2 mc' ms' MC MS L n Q K ls (v1 :: v0 :: st) σ = (L + 1 < ls.length ∧ acok st 8 = true ∧ (lg ls L).2 + mc' ≤ MC ∧ (lg ls (L + 1)).2 + ms' ≤ MS ∧ P [v0, v1] σ (fun r σ' => r.1 ≠ 6 ∧ r.1 ≠ 7 ∧ K n (cnt ls L mc' ms') (r :: st) σ')) := vCallSA_g P 2 mc' ms' MC MS L n Q K ls st [v0, v1] σ rfl
theorem ok_callI {X : amX} {own : String} {cc : ByteArray} {ret : Option FieldType} {L pc : Nat} (hB : amB X own cc ret L) {MC MS : Nat} (e3 : XC X = MC) (e4 : XS X = MS) {E : Nat → State → Prop} (hEm : eMove E) (hE : E (Xn X) (Xst X)) {y : MethodName} {cy : ByteArray} {maxL d' mc' ms' k index : Nat} {P : WP} (hP : ∀ av σ Q, P av σ Q → amCallE E d' mc' ms' (XT X) y cy maxL none av σ Q) (hL : amLk own index y cy maxL none k) (hdd : d' + 1 ≤ XD X) (hy : y.name = "<init>") {t : Nat} (ht : 8 ≤ t) (hin : Cond.instanceMethod y ∈ TBL) (hd : decode cc pc = .ok (.invokespecial index, 3)) : amOK X pc (vCallI P t k mc' ms' MC MS L (pc + 3)) := by
  obtain ⟨p, l, e, s, m, args, below, meth, c0, D, ca, n0, T, ρ0, σ0, dd, mc, ms, nL, Q⟩ := X
  obtain ⟨hx, hb, hr, hml, hnL, hown, hts, hlocks, hK0, hA0, hst0⟩ := hB
  intro K ls st σ hK h ρ H locs LS kk n hW hS hl hokl hoks hk hn hag
  dsimp only [XC, XS] at e3 e4
  subst e3 e4 hnL
  obtain ⟨a, av, st', rfl, hlen, ha, hln, hac, hc1, hc2, h⟩ := h
  obtain ⟨h67, hcat⟩ := acok_67 _ _ hac
  have hoks1 : okl T σ av ∧ okv T σ (t, a) ∧ okl T σ st' := ⟨fun v hv => hoks v (List.mem_append_left _ (List.mem_reverse.mpr hv)), hoks _ (List.mem_append_right _ List.mem_cons_self), fun v hv => hoks v (List.mem_append_right _ (List.mem_cons_of_mem _ hv))⟩
  obtain ⟨hoks0, hoka, hoks2⟩ := hoks1
  have hM := hP _ _ _ h l D ca n0 ρ
  have hva : am_val ρ (t, a) = .ref (ρ a) := am_val_p ρ (by omega) ha
  have hrun := va_runI (g := F0 m pc LS ((av.reverse ++ (t, a) :: st').map (am_val ρ))) (cells := kk) (slots := n) (locs := locs) (below := below) (meth := meth) (e := e) (p := p) (As := av.map (am_val ρ)) (rest := st'.map (am_val ρ)) (b := ρ a) ⟨hx, hb, hml, hown, hts⟩ hM ⟨hL.B (d := dd) (mc := mc) (ms := ms) hts hdd, hy, hts _ hin⟩
    ⟨amPcE.blind hEm, fun U hU hWm => ⟨⟨by rw [List.map_cons, hva], by rw [hU]; exact Nat.le_trans hA0 hS.1, by rw [hU]; exact hW, va_K.moved hWm.alike hK0, hst0.move hWm (fun b h1 h2 => by rw [hU]; exact hS.2.1 b h1 h2) hag.2, okl_c.mpr ⟨hoka, hoks0⟩⟩, hEm n0 s U hE hWm (fun b h1 h2 => by rw [hU]; exact hS.2.1 b h1 h2)⟩⟩ rfl (by simpa using hlen) hl.1 (by simp [List.map_append, List.map_reverse, hva]) (lv_room (hcat ρ)) hd ⟨by show kk + mc' ≤ mc; omega, by show n + ms' ≤ ms; omega⟩
  refine am_go hrun hS (fun r σ' ρ' H1 locs1 hq hW' hokr hag' hS' => ?_)
  · obtain ⟨hr6, hKn⟩ := hq
    have := hK _ _ _ _ hKn ρ' H1 locs1 LS (kk + mc') (n + ms') hW' hS' (lv_cnt (by rw [ag_lvl hag' ls 0 hokl]; exact hl)) (okl_cnt (fun v hv => okv_ag hag' (hokl v hv))) (fun v hv => okv_ag hag' (hoks2 v hv)) (by rw [cnt_0 hln]; omega) (by rw [cnt_1 hln]; omega) (ag_tr hag hag')
    rw [ag_st hag' hoks2 h67] at this
    have e9 : amQr ρ' r = none := by unfold amQr; rw [if_pos hr6]
    rw [e9]
    exact this

theorem ok_callIN {X : amX} {own : String} {cc : ByteArray} {ret : Option FieldType} {L pc : Nat} (hB : amB X own cc ret L) {MC MS : Nat} (e3 : XC X = MC) (e4 : XS X = MS) {E : Nat → State → Prop} (hEm : eMove E) (hE : E (Xn X) (Xst X)) {y : MethodName} {cy : ByteArray} {maxL d' mc' ms' k index : Nat} {P : WP} (hP : ∀ av σ Q, P av σ Q → amCallE E d' mc' ms' (XT X) y cy maxL none av σ Q) {host : String} (hnest : (own, index, y, host) ∈ amNest) (h2 : Cond.initialized y.cls ∈ TBL) (h3 : Cond.code y cy maxL none ∈ TBL) (h4 : y.cls ≠ "java/lang/invoke/MethodHandle" ∧ y.cls ≠ "java/lang/invoke/VarHandle") (h5 : (parseMethodDescriptor y.desc).map (fun d => d.parameters.length) = some k) (h6 : maxL ≤ 45) (hdd : d' + 1 ≤ XD X) (hy : y.name = "<init>") {t : Nat} (ht : 8 ≤ t) (hin : Cond.instanceMethod y ∈ TBL) (hd : decode cc pc = .ok (.invokespecial index, 3)) : amOK X pc (vCallI P t k mc' ms' MC MS L (pc + 3)) := by
  obtain ⟨p, l, e, s, m, args, below, meth, c0, D, ca, n0, T, ρ0, σ0, dd, mc, ms, nL, Q⟩ := X
  obtain ⟨hx, hb, hr, hml, hnL, hown, hts, hlocks, hK0, hA0, hst0⟩ := hB
  intro K ls st σ hK h ρ H locs LS kk n hW hS hl hokl hoks hk hn hag
  dsimp only [XC, XS] at e3 e4
  subst e3 e4 hnL
  obtain ⟨a, av, st', rfl, hlen, ha, hln, hac, hc1, hc2, h⟩ := h
  obtain ⟨h67, hcat⟩ := acok_67 _ _ hac
  have hoks1 : okl T σ av ∧ okv T σ (t, a) ∧ okl T σ st' := ⟨fun v hv => hoks v (List.mem_append_left _ (List.mem_reverse.mpr hv)), hoks _ (List.mem_append_right _ List.mem_cons_self), fun v hv => hoks v (List.mem_append_right _ (List.mem_cons_of_mem _ hv))⟩
  obtain ⟨hoks0, hoka, hoks2⟩ := hoks1
  have hM := hP _ _ _ h l D ca n0 ρ
  have hva : am_val ρ (t, a) = .ref (ρ a) := am_val_p ρ (by omega) ha
  have hcn : va_CN (amR dd mc ms) s args own index y host cy maxL none (.code y cy maxL none :: TBL) (amR d' mc' ms') mc' ms' k := by
    refine ⟨⟨rfl, rfl, hdd, ?_, ?_, List.mem_cons_self⟩, hts _ h3, hts _ h2, h4, fun sig hs => ?_, (hst0.2.2.2.2 _ hnest).use rfl⟩
    · show 8 + (maxL + 11) + 64 * d' ≤ 64 * dd
      have : d' + 1 ≤ dd := hdd
      omega
    · intro w hw a' U hWm
      have hwT : w ∈ TBL := (List.mem_cons.mp hw).elim (fun e => e ▸ h3) id
      exact word_at hWm (tb_good w hwT).2 (hts w hwT)
    · rw [hs] at h5
      simpa using h5.symm
  have hrun := va_runIN (g := F0 m pc LS ((av.reverse ++ (t, a) :: st').map (am_val ρ))) (cells := kk) (slots := n) (locs := locs) (below := below) (meth := meth) (e := e) (p := p) (As := av.map (am_val ρ)) (rest := st'.map (am_val ρ)) (b := ρ a) ⟨hx, hb, hml, hown, hts⟩ hM ⟨hcn, hy, hts _ hin⟩
    ⟨amPcE.blind hEm, fun U hU hWm => ⟨⟨by rw [List.map_cons, hva], by rw [hU]; exact Nat.le_trans hA0 hS.1, by rw [hU]; exact hW, va_K.moved hWm.alike hK0, hst0.move hWm (fun b h1 h2 => by rw [hU]; exact hS.2.1 b h1 h2) hag.2, okl_c.mpr ⟨hoka, hoks0⟩⟩, hEm n0 s U hE hWm (fun b h1 h2 => by rw [hU]; exact hS.2.1 b h1 h2)⟩⟩ rfl (by simpa using hlen) hl.1 (by simp [List.map_append, List.map_reverse, hva]) (lv_room (hcat ρ)) hd ⟨by show kk + mc' ≤ mc; omega, by show n + ms' ≤ ms; omega⟩
  refine am_go hrun hS (fun r σ' ρ' H1 locs1 hq hW' hokr hag' hS' => ?_)
  · obtain ⟨hr6, hKn⟩ := hq
    have := hK _ _ _ _ hKn ρ' H1 locs1 LS (kk + mc') (n + ms') hW' hS' (lv_cnt (by rw [ag_lvl hag' ls 0 hokl]; exact hl)) (okl_cnt (fun v hv => okv_ag hag' (hokl v hv))) (fun v hv => okv_ag hag' (hoks2 v hv)) (by rw [cnt_0 hln]; omega) (by rw [cnt_1 hln]; omega) (ag_tr hag hag')
    rw [ag_st hag' hoks2 h67] at this
    have e9 : amQr ρ' r = none := by unfold amQr; rw [if_pos hr6]
    rw [e9]
    exact this

theorem ok_callMA {X : amX} {own : String} {cc : ByteArray} {ret : Option FieldType} {L pc : Nat} (hB : amB X own cc ret L) {MC MS : Nat} (e3 : XC X = MC) (e4 : XS X = MS) {E : Nat → State → Prop} (hEm : eMove E) (hE : E (Xn X) (Xst X)) {y : MethodName} {cy : ByteArray} {maxL d' mc' ms' k index : Nat} {ry : Option FieldType} {P : WP} (hP : ∀ av σ Q, P av σ Q → amCallE E d' mc' ms' (XT X) y cy maxL ry av σ Q) (hT : amTok (XT X)) (hL : amLk own index y cy maxL ry k) (hdd : d' + 1 ≤ XD X) {c t : Nat} {C : String} {Tt : u_T} {N : Nat} (hc : vwCl[c]? = some (C, Tt, N)) (ht : t = 16 + c) (hC : y.cls = C) (hin : Cond.instanceMethod y ∈ TBL) (hse : Cond.selects C y y ∈ TBL) (hd : decode cc pc = .ok (.invokevirtual index, 3)) : amOK X pc (vCallMA P t k mc' ms' MC MS L (pc + 3)) := by
  obtain ⟨p, l, e, s, m, args, below, meth, c0, D, ca, n0, T, ρ0, σ0, dd, mc, ms, nL, Q⟩ := X
  obtain ⟨hx, hb, hr, hml, hnL, hown, hts, hlocks, hK0, hA0, hst0⟩ := hB
  intro K ls st σ hK h ρ H locs LS kk n hW hS hl hokl hoks hk hn hag
  dsimp only [XC, XS] at e3 e4
  subst e3 e4 hnL
  obtain ⟨a, av, st', rfl, hlen, ha, hln, hac, hc1, hc2, h⟩ := h
  obtain ⟨h67, hcat⟩ := acok_67 _ _ hac
  have hoks1 : okl T σ av ∧ okv T σ (t, a) ∧ okl T σ st' := ⟨fun v hv => hoks v (List.mem_append_left _ (List.mem_reverse.mpr hv)), hoks _ (List.mem_append_right _ List.mem_cons_self), fun v hv => hoks v (List.mem_append_right _ (List.mem_cons_of_mem _ hv))⟩
  obtain ⟨hoks0, hoka, hoks2⟩ := hoks1
  have hM := hP _ _ _ h l D ca n0 ρ
  have hva : am_val ρ (t, a) = .ref (ρ a) := am_val_p ρ (by omega) ha
  subst ht
  obtain ⟨hlive, htg⟩ := okv_at hoka (by omega) ha
  obtain ⟨V, hnd, hV, hV0, hPh, hD, hcl⟩ := id hW
  obtain ⟨cr, hTa⟩ := tg_obj htg (fun x hx => hT a x hx)
  obtain ⟨q, hq, hq2⟩ := ws_at (ρ := ρ) (ca := ca) (T := T) (σ := σ) ((hV a).mpr hlive)
  rw [hTa] at hq2
  have hrun := va_runV (g := F0 m pc LS ((av.reverse ++ (16 + c, a) :: st').map (am_val ρ))) (cells := kk) (slots := n) (locs := locs) (below := below) (meth := meth) (e := e) (p := p) (As := av.map (am_val ρ)) (rest := st'.map (am_val ρ)) (b := ρ a) ⟨hx, hb, hml, hown, hts⟩ hM ⟨hL.B (d := dd) (mc := mc) (ms := ms) hts hdd, hts _ hin, hts _ hse⟩
    ⟨amPcE.blind hEm, va_recv hK0 hPh hc hq2, fun U hU hWm => ⟨⟨by rw [List.map_cons, hva], by rw [hU]; exact Nat.le_trans hA0 hS.1, by rw [hU]; exact hW, va_K.moved hWm.alike hK0, hst0.move hWm (fun b h1 h2 => by rw [hU]; exact hS.2.1 b h1 h2) hag.2, okl_c.mpr ⟨hoka, hoks0⟩⟩, hEm n0 s U hE hWm (fun b h1 h2 => by rw [hU]; exact hS.2.1 b h1 h2)⟩⟩ rfl (by simpa using hlen) hl.1 (by simp [List.map_append, List.map_reverse, hva]) (lv_room (hcat ρ)) hd ⟨by show kk + mc' ≤ mc; omega, by show n + ms' ≤ ms; omega⟩
  refine am_go hrun hS (fun r σ' ρ' H1 locs1 hq hW' hokr hag' hS' => ?_)
  · obtain ⟨hr6, hr7, hKn⟩ := hq
    have := hK _ _ _ _ hKn ρ' H1 locs1 LS (kk + mc') (n + ms') hW' hS' (lv_cnt (by rw [ag_lvl hag' ls 0 hokl]; exact hl)) (okl_cnt (fun v hv => okv_ag hag' (hokl v hv))) (okl_c.mpr ⟨hokr, fun v hv => okv_ag hag' (hoks2 v hv)⟩) (by rw [cnt_0 hln]; omega) (by rw [cnt_1 hln]; omega) (ag_tr hag hag')
    rw [List.map_cons, ag_st hag' hoks2 h67] at this
    have e9 : amQr ρ' r = some (am_val ρ' r) := by unfold amQr; rw [if_neg hr6]
    rw [e9]
    exact this

theorem ok_callSA {X : amX} {own : String} {cc : ByteArray} {ret : Option FieldType} {L pc : Nat} (hB : amB X own cc ret L) {MC MS : Nat} (e3 : XC X = MC) (e4 : XS X = MS) {E : Nat → State → Prop} (hEm : eMove E) (hE : E (Xn X) (Xst X)) {y : MethodName} {cy : ByteArray} {maxL d' mc' ms' k index : Nat} {ry : Option FieldType} {P : WP} (hP : ∀ av σ Q, P av σ Q → amCallE E d' mc' ms' (XT X) y cy maxL ry av σ Q) (hL : amLk own index y cy maxL ry k) (hdd : d' + 1 ≤ XD X) (hin : Cond.static y ∈ TBL) (hd : decode cc pc = .ok (.invokestatic index, 3)) : amOK X pc (vCallSA P k mc' ms' MC MS L (pc + 3)) := by
  obtain ⟨p, l, e, s, m, args, below, meth, c0, D, ca, n0, T, ρ0, σ0, dd, mc, ms, nL, Q⟩ := X
  obtain ⟨hx, hb, hr, hml, hnL, hown, hts, hlocks, hK0, hA0, hst0⟩ := hB
  intro K ls st σ hK h ρ H locs LS kk n hW hS hl hokl hoks hk hn hag
  dsimp only [XC, XS] at e3 e4
  subst e3 e4 hnL
  obtain ⟨av, st', rfl, hlen, hln, hac, hc1, hc2, h⟩ := h
  obtain ⟨h67, hcat⟩ := acok_67 _ _ hac
  have hoks1 : okl T σ av ∧ okl T σ st' := ⟨fun v hv => hoks v (List.mem_append_left _ (List.mem_reverse.mpr hv)), fun v hv => hoks v (List.mem_append_right _ hv)⟩
  obtain ⟨hoks0, hoks2⟩ := hoks1
  have hM := hP _ _ _ h l D ca n0 ρ
  have hrun := va_runS (g := F0 m pc LS ((av.reverse ++ st').map (am_val ρ))) (cells := kk) (slots := n) (locs := locs) (below := below) (meth := meth) (e := e) (p := p) (As := av.map (am_val ρ)) (rest := st'.map (am_val ρ)) ⟨hx, hb, hml, hown, hts⟩ hM ⟨hL.B (d := dd) (mc := mc) (ms := ms) hts hdd, hts _ hin⟩
    ⟨amPcE.blind hEm, fun U hU hWm => ⟨⟨rfl, by rw [hU]; exact Nat.le_trans hA0 hS.1, by rw [hU]; exact hW, va_K.moved hWm.alike hK0, hst0.move hWm (fun b h1 h2 => by rw [hU]; exact hS.2.1 b h1 h2) hag.2, hoks0⟩, hEm n0 s U hE hWm (fun b h1 h2 => by rw [hU]; exact hS.2.1 b h1 h2)⟩⟩ rfl (by simpa using hlen) hl.1 (by simp [List.map_append, List.map_reverse]) (lv_room (hcat ρ)) hd ⟨by show kk + mc' ≤ mc; omega, by show n + ms' ≤ ms; omega⟩
  refine am_go hrun hS (fun r σ' ρ' H1 locs1 hq hW' hokr hag' hS' => ?_)
  · obtain ⟨hr6, hr7, hKn⟩ := hq
    have := hK _ _ _ _ hKn ρ' H1 locs1 LS (kk + mc') (n + ms') hW' hS' (lv_cnt (by rw [ag_lvl hag' ls 0 hokl]; exact hl)) (okl_cnt (fun v hv => okv_ag hag' (hokl v hv))) (okl_c.mpr ⟨hokr, fun v hv => okv_ag hag' (hoks2 v hv)⟩) (by rw [cnt_0 hln]; omega) (by rw [cnt_1 hln]; omega) (ag_tr hag hag')
    rw [List.map_cons, ag_st hag' hoks2 h67] at this
    have e9 : amQr ρ' r = some (am_val ρ' r) := by unfold amQr; rw [if_neg hr6]
    rw [e9]
    exact this

/-- Object's constructor -/
def vObj (n : Nat) : VT := fun _ K ls st σ => ∃ t a st', st = (t, a) :: st' ∧ 8 ≤ t ∧ 0 ≤ a ∧ acok st' 8 = true ∧ K n ls st' σ
theorem vObj_e (n : Nat) (Q) (K) (ls st : List AV) (t : Nat) (a : Int) (σ : Mem) : vObj n Q K ls ((t, a) :: st) σ = (8 ≤ t ∧ 0 ≤ a ∧ acok st 8 = true ∧ K n ls st σ) := by
  apply propext; constructor
  · rintro ⟨t', a', st', h, h1⟩; cases h; exact h1
  · intro h1; exact ⟨t, a, st, rfl, h1⟩
theorem ok_obj {X : amX} {own : String} {cc : ByteArray} {ret : Option FieldType} {L pc index : Nat} (hB : amB X own cc ret L) (hd1 : 1 ≤ XD X) (hl0 : Cond.methodLink own index Lib.objectInit ∈ TBL) (hin : Cond.instanceMethod Lib.objectInit ∈ TBL) (hco : Cond.code Lib.objectInit ⟨#[0xb1]⟩ 1 none ∈ TBL) (hd : decode cc pc = .ok (.invokespecial index, 3)) : amOK X pc (vObj (pc + 3)) := by
  obtain ⟨p, l, e, s, m, args, below, meth, c0, D, ca, n0, T, ρ0, σ0, dd, mc, ms, nL, Q⟩ := X
  obtain ⟨hx, hb, hr, hml, hnL, hown, hts, hlocks, hK0, hA0, hst0⟩ := hB
  intro K ls st σ hK h ρ H locs LS kk n hW hS hl hokl hoks hk hn hag
  obtain ⟨t, a, st', rfl, ht, ha, hac, h⟩ := h
  obtain ⟨h67, hcat⟩ := acok_67 _ _ hac
  have key := hK _ _ _ _ h ρ H locs LS kk n hW hS hl hokl (okl_c.mp hoks).2 hk hn hag
  rw [List.map_cons, am_val_p ρ (by omega) ha]
  dsimp only [XD] at hd1
  refine W.objInit hx hb hown (hts _ hl0) (hts _ hin) (hts _ hco) (g := F0 m pc LS (.ref (ρ a) :: st'.map (am_val ρ))) rfl (hl.1.trans hml.symm) rfl hd hd1 ?_ key
  have := hcat ρ
  show 2 * 0 + ((st'.map (am_val ρ)).map fun v => v.category).sum + 12 ≤ 64 * dd
  omega
/-- putting a String's reference into a final field -/
theorem ok_putS {X : amX} {own : String} {cc : ByteArray} {ret : Option FieldType} {L pc : Nat} {C : String} {Tt : u_T} {N c k index t : Nat} {ty0 : Nat → FieldType} {ty : FieldType} (hB : amB X own cc ret L) (hT : amTok (XT X)) {T : Int → Kd} (e1 : XT X = T) (hF : amFp own c k index C Tt N ty0 ty) (hrt : ∀ v : Value, (v = .null ∨ ∃ b, v = .ref b) → narrow ty v = v ∧ fits ty v = true) (hfin : (Tt k).2.2.2 = true) (hin2 : (XM X).name = "<init>") (hdecl : (Tt k).1 = own) (ht : t = 16 + c) {kz : Int} (hz : kz = (k : Int)) (hf : amF c k = 2) (htr : amTag c k = 4) (hd : decode cc pc = .ok (.putfield index, 3)) : amOK X pc (vPutR T t k 4 kz (pc + 3)) := by
  obtain ⟨p, l, e, s, m, args, below, meth, c0, D, ca, n0, T', ρ0, σ0, dd, mc, ms, nL, Q⟩ := X
  obtain ⟨hx, hb, hr, hml, hnL, hown, hts, hlocks, hK0, hA0, hst0⟩ := hB
  intro K ls st σ hK h ρ H locs LS kk n hW hS hl hokl hoks hk hn hag
  dsimp only [XT] at e1 hT
  subst e1
  obtain ⟨x, y, a, st', rfl, ha, hy, hneg, hno, h⟩ := h
  subst hz ht
  obtain ⟨hF, hty0, hnm, hty⟩ := hF
  obtain ⟨hlive, htg⟩ := okv_at (okl_c.mp (okl_c.mp hoks).2).1 (by omega) ha
  have hov := (okl_c.mp hoks).1
  obtain ⟨V, hnd, hV, hV0, hP, hD, hcl⟩ := id hW
  obtain ⟨cr, hTa⟩ := tg_obj htg (fun x hx => hT a x hx)
  have hno2 : cr k = none := by rw [hTa] at hno; exact hno
  obtain ⟨q, hq, hq2⟩ := ws_at (ρ := ρ) (ca := ca) (T := T') (σ := σ) ((hV a).mpr hlive)
  rw [hTa] at hq2
  rw [List.map_cons, List.map_cons]
  rw [am_val_p ρ (by omega) ha]
  have hy2 : 2 ≤ y := by omega
  have hvv : am_val ρ (y, x) = am_val ρ (8, x) := by rw [am_val_r ρ x hy2, am_val_r ρ x (by decide)]
  have hvk : am_val ρ (8, x) = .null ∨ ∃ b, am_val ρ (8, x) = .ref b := by
    rw [am_val_r ρ x (by decide)]; split
    · exact Or.inl rfl
    · exact Or.inr ⟨_, rfl⟩
  have hset : (am_ws ρ ca T' σ V).set q (ρ a, .inr (c, ((List.range (amN c)).map (am_fv ρ σ a c cr)).set k (am_val ρ (8, x)))) = am_ws ρ ca T' (up σ a k x) V := by
    refine ws_set hnd hq (fun b hb _ j => up_n σ (Or.inl hb)) ?_
    rw [hTa, am_fs_set hF.N hF.2.2.1 (x := x) (by unfold am_fv; rw [hf, up_s, hno2]; rfl)]; rfl
  rw [hvv]
  refine va_putF (D := D) (ci := c) (C := C) (T := Tt) (N := N) (ty := ty) hx hb hts hF.2.1 ty0 hty0 hnm hown hK0 hP hD hS q hq2 hF.1 k hF.2.2.1 (hts _ hF.2.2.2) (fun _ h9 => h9) hfin hin2 hdecl hty (hrt _ hvk).1 (hrt _ hvk).2 (by simp [hF.N]; exact hF.2.2.1) hd (fun H1 locs1 hP1 hD1 hS1 => ?_)
  have hP1 : va_P D vwCl (am_ws ρ ca T' (up σ a k x) V) H1 := by rw [← hset]; exact hP1
  have hD1 : va_D (fun q => n0 ≤ q) (am_ws ρ ca T' (up σ a k x) V) := by rw [← hset]; exact hD1
  refine hK _ _ _ _ h ρ H1 locs1 LS kk n (amW_put ha hnd hV hV0 (fun b hb j => up_n σ (Or.inl hb)) hP1 hD1 (fun b hbV => ?_)) hS1 hl (okl_up ha hokl) (okl_up ha (okl_c.mp (okl_c.mp hoks).2).2) hk hn (ag_up ha hag)
  by_cases hba : b = a
  · subst hba
    have hc := hcl b hbV
    unfold am_closed at hc ⊢
    rw [hTa] at hc ⊢
    intro j hj hfj
    by_cases hjk : j = k
    · subst hjk
      show okv T' (up σ b j x) (amTag c j, (cr j).getD (up σ b j x b j))
      rw [hno2, up_s]
      refine (okv_up ha).mpr ?_
      rcases hy with rfl | rfl
      · rw [htr]; exact hov
      · have hx0 : x < 0 := by
          rcases hov.1 (show 8 ≤ 15 by decide) with h | h
          · exact h
          · exfalso
            have h22 : tg (T' x) = 15 := h.2
            cases hTx : T' x with
            | inl z => rw [hTx] at h22; simp only [tg] at h22; omega
            | inr z => rw [hTx] at h22; simp only [tg] at h22; have := hT x z hTx; omega
        exact ⟨fun _ => Or.inl hx0, fun _ _ => Or.inl hx0⟩
    · rw [up_n σ (Or.inr (by omega))]
      exact (okv_up ha).mpr (hc j hj hfj)
  · exact cl_up_o ha hba (hcl b hbV)
theorem okt_putRF {X : amX} {T : Int → Kd} {own : String} {cc : ByteArray} {ret : Option FieldType} {L pc : Nat} {C : String} {Tt : u_T} {N c k index t : Nat} {ty0 : Nat → FieldType} {ty : FieldType} (e1 : XT X = T) (hB : amB X own cc ret L) (hT : amTok (XT X)) (hF : amFp own c k index C Tt N ty0 ty) (hrt : ∀ v : Value, (v = .null ∨ ∃ b, v = .ref b) → narrow ty v = v ∧ fits ty v = true) (hfin : (Tt k).2.2.2 = true) (hin2 : (XM X).name = "<init>") (hdecl : (Tt k).1 = own) (ht : t = 16 + c) {kz : Int} (hz : kz = (k : Int)) (hf : amF c k = 2) {tr : Nat} (htr : amTag c k = tr) (h2 : 2 ≤ tr) (h6r : ¬ tr < 6) (hd : decode cc pc = .ok (.putfield index, 3)) : amOK X pc (vPutR T t k tr kz (pc + 3)) := e1 ▸ ok_putRF hB hT hF hrt hfin hin2 hdecl ht hz hf htr h2 h6r hd
/-- methods that make cells -/
theorem am_methodE {E : Nat → State → Prop} {d mc ms : Nat} {T : Int → Kd} {y : MethodName} {cc : ByteArray} {maxL w : Nat} {ret : Option FieldType} {av : List AV} {σ0 : Mem} {Q : AV → Mem → Prop} {A : Nat → VT} (own : String)
    (hA : ∀ X : amX, XT X = T → XD X = d → XC X = mc → XS X = ms → (XM X).name = y.name → E (Xn X) (Xst X) → amB X own cc ret maxL → ∀ pc, amOK X pc (A pc)) (hown : y.cls = own) (hy : plainFor y = true) (hav : Nat.ble (entA av).length maxL = true) (h67 : av.all (fun v => v.1 != 6 && v.1 != 7) = true) (f : Nat)
    (he : vcs A [] (fun _ _ _ _ => False) Q f 0 (entl av w) [] σ0) : amCallE E d mc ms T y cc maxL ret av σ0 Q := by
  subst hown
  have hav := Nat.le_of_ble_eq_true hav
  have h67 : ∀ v ∈ av, v.1 ≠ 6 ∧ v.1 ≠ 7 := fun v hv => by
    have := List.all_eq_true.mp h67 v hv
    simpa using this
  intro l D ca n0 ρ0
  refine va_MetF (cc := cc) (maxL := maxL) (ret := ret) hy rfl ?_
  intro p e s m args below meth c s₁ B hml hv
  obtain ⟨⟨rfl, hn0, hW, hK0, hst, hok⟩, hE⟩ := hv
  have hts0 := atoms_spec (ws := .code y cc maxL ret :: TBL) B.pre
  have hB : amB (p, l, e, s, m, (av.map (am_val ρ0)).toArray, below, meth, c, D, ca, n0, T, ρ0, σ0, d, mc, ms, maxL, Q) y.cls cc ret maxL :=
    ⟨B.exec, B.bytes, B.returns, hml, rfl, findClass_of_methodNamed B.named, fun w hw => hts0 w (List.mem_cons_of_mem _ hw), B.notSynchronized, hK0, hn0, hst⟩
  have hA' := hA _ rfl rfl rfl rfl (name_of_methodNamed B.named B.method).1 hE hB
  have hJ := vcs_sound hA' (fun pc ls st σ h => absurd h id) f 0 _ _ _ he
  rw [lg_entry_eq]
  have hl := lv_entry (av.map (am_val ρ0)) (n := maxL) (by rw [ent_len]; exact hav)
  refine hJ ρ0 s.heap [] _ 0 0 hW va_S.rf (lv_mono hl ?_) ?_ okl_nil ?_ ?_ ⟨fun a ha => ⟨ha, rfl⟩, fun _ _ => rfl⟩
  · intro q hq
    unfold entl at hq
    rw [lvl_app, lvl_rep, List.append_nil, ent_args ρ0 av 0 h67] at hq
    exact hq
  · intro v hv
    rcases List.mem_append.mp hv with h | h
    · exact entA_ok av hok v h
    · rw [(List.mem_replicate.mp h).2]; exact okv_s (by decide)
  · rw [ent_lg hav]; exact ⟨Int.le_refl _, Int.natCast_nonneg _⟩
  · rw [ent_lg (by omega)]; exact ⟨Int.le_refl _, Int.natCast_nonneg _⟩
