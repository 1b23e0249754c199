theorem am_cell_cong {ρ ρ' : Int → Nat} {ca : Nat → ClassId} {σ σ' : Mem} {a : Int} {kd : Kd} (h : ∀ k, σ' a k = σ a k) (hr : ρ' = ρ) : am_cell ρ' ca σ' a kd = am_cell ρ ca σ a kd := by
  subst hr
  have h' : σ' a = σ a := funext h
  cases kd with
  | inl x =>
    have h2 : am_fv ρ' σ' a x.1 x.2 = am_fv ρ' σ a x.1 x.2 := funext fun k => by simp only [am_fv, h']
    simp only [am_cell, h2]
  | inr x => simp only [am_cell, am_len, am_con, h']
def up (σ : Mem) (a k v : Int) : Mem := fun b j => if b = a ∧ j = k then v else σ b j
theorem up_s (σ : Mem) (a k v : Int) : up σ a k v a k = v := by simp [up]
theorem up_n (σ : Mem) {a k v b j : Int} (h : b ≠ a ∨ j ≠ k) : up σ a k v b j = σ b j := by
  unfold up; rw [if_neg]; rintro ⟨h1, h2⟩; rcases h with h | h
  · exact h h1
  · exact h h2
theorem up_na (σ : Mem) {a k v b : Int} (h : b ≠ a) : up σ a k v b = σ b := funext fun j => up_n σ (Or.inl h)
theorem lvl_in (ρ : Int → Nat) : ∀ (ls : List AV) (i j : Nat) (v : AV), ls[j]? = some v → v.1 ≠ 6 → v.1 ≠ 7 → (i + j, am_val ρ v) ∈ lvl ρ i ls := by
  intro ls
  induction ls with
  | nil => intro i j v h; simp at h
  | cons w ls ih =>
    intro i j v h h6 h7
    cases j with
    | zero =>
      simp at h; subst h
      simp [lvl, h6, h7]
    | succ j =>
      simp at h
      have := ih (i + 1) j v h h6 h7
      rw [show i + 1 + j = i + (j + 1) by omega] at this
      unfold lvl
      split
      · exact this
      · exact List.mem_cons_of_mem _ this
theorem lvl_of (ρ : Int → Nat) : ∀ (ls : List AV) (i : Nat) (q : Nat × Value), q ∈ lvl ρ i ls → ∃ (j : Nat) (v : AV), q = (i + j, am_val ρ v) ∧ ls[j]? = some v ∧ v.1 ≠ 6 ∧ v.1 ≠ 7 := by
  intro ls
  induction ls with
  | nil => intro i q h; simp [lvl] at h
  | cons w ls ih =>
    intro i q h
    unfold lvl at h
    split at h
    · obtain ⟨j, v, h1, h2, h3⟩ := ih _ _ h
      exact ⟨j + 1, v, by rw [h1]; congr 1; omega, by simpa using h2, h3⟩
    · rename_i hw
      rcases List.mem_cons.mp h with h | h
      · exact ⟨0, w, by rw [h]; rfl, rfl, fun e => hw (Or.inl e), fun e => hw (Or.inr e)⟩
      · obtain ⟨j, v, h1, h2, h3⟩ := ih _ _ h
        exact ⟨j + 1, v, by rw [h1]; congr 1; omega, by simpa using h2, h3⟩
theorem lg_some {ls : List AV} {i : Nat} (h : (lg ls i).1 ≠ 6) : ls[i]? = some (lg ls i) := by
  unfold lg at h ⊢
  rw [List.getD_eq_getElem?_getD] at h ⊢
  cases hh : ls[i]? with
  | none => simp [hh] at h
  | some v => simp
theorem lg_ok {T : Int → Kd} {σ : Mem} {ls : List AV} {i : Nat} (h : okl T σ ls) : okv T σ (lg ls i) := by
  by_cases h6 : (lg ls i).1 = 6
  · exact ⟨fun h8 => by omega, fun _ h => by omega⟩
  · exact h _ (List.mem_of_getElem? (lg_some h6))
theorem lv_read {ρ : Int → Nat} {LS : Array Slot} {nL : Nat} {ls : List AV} (h : lv_has LS nL (lvl ρ 0 ls)) {i : Nat} (h6 : (lg ls i).1 ≠ 6) (h7 : (lg ls i).1 ≠ 7) : LS[i]? = some (.val (am_val ρ (lg ls i))) := by
  have := h.2.2 _ (lvl_in ρ ls 0 i _ (lg_some h6) h6 h7)
  simpa using this
theorem lv_mono {LS : Array Slot} {n : Nat} {l l' : List (Nat × Value)} (h : lv_has LS n l) (hs : ∀ q ∈ l', q ∈ l) : lv_has LS n l' := ⟨h.1, h.2.1, fun q hq => h.2.2 q (hs q hq)⟩
theorem am_cat (ρ : Int → Nat) {v : AV} (h : v.1 ≠ 1) : (am_val ρ v).category = 1 := by
  obtain ⟨t, z⟩ := v
  match t, h with
  | 0, _ => rfl
  | t + 2, _ => rw [am_val_r ρ z (by omega)]; split <;> rfl
/-- no long stands before place i -/
def okst (ls : List AV) : Nat → Bool
  | 0 => true
  | i + 1 => (lg ls i).1 != 1
theorem lv_st1 {ρ : Int → Nat} {ls : List AV} {i : Nat} {v : AV} (hk : okst ls i = true) :
    ∀ q ∈ lvl ρ 0 (ls.set i v), q ∈ (i, am_val ρ v) :: (lvl ρ 0 ls).filter (fun q => !(q.1 == i) && !(q.1 + 1 == i && q.2.category == 2)) := by
  intro q hq
  obtain ⟨j, w, h1, h2, h6, h7⟩ := lvl_of ρ _ _ _ hq
  rw [Nat.zero_add] at h1
  by_cases hj : j = i
  · subst hj
    have hlt : j < ls.length := by
      have := (List.getElem?_eq_some_iff.mp h2).1
      simpa using this
    rw [List.getElem?_set_self hlt] at h2
    cases h2
    rw [h1]; exact List.mem_cons_self
  · rw [List.getElem?_set_ne (fun e => hj e.symm)] at h2
    refine List.mem_cons_of_mem _ (List.mem_filter.mpr ⟨?_, ?_⟩)
    · have := lvl_in ρ ls 0 j w h2 h6 h7
      rw [Nat.zero_add] at this
      rw [h1]; exact this
    · rw [h1]
      simp only [Bool.and_eq_true, Bool.not_eq_true', beq_eq_false_iff_ne, ne_eq, Bool.and_eq_false_iff]
      refine ⟨hj, ?_⟩
      by_cases hji : j + 1 = i
      · right
        subst hji
        have hw : lg ls j = w := by unfold lg; rw [List.getD_eq_getElem?_getD, h2]; rfl
        simp only [okst, hw, bne_iff_ne, ne_eq] at hk
        rw [am_cat ρ hk]; decide
      · left; exact hji
theorem lv_st2 {ρ : Int → Nat} {ls : List AV} {i : Nat} {v : AV} (hk : okst ls i = true) :
    ∀ q ∈ lvl ρ 0 ((ls.set i v).set (i + 1) (7, 0)), q ∈ (i, am_val ρ v) :: (lvl ρ 0 ls).filter (fun q => !(q.1 == i) && (!(q.1 == i + 1) && !(q.1 + 1 == i && q.2.category == 2))) := by
  intro q hq
  obtain ⟨j, w, h1, h2, h6, h7⟩ := lvl_of ρ _ _ _ hq
  rw [Nat.zero_add] at h1
  by_cases hj1 : j = i + 1
  · subst hj1
    have hlt : i + 1 < (ls.set i v).length := by
      have := (List.getElem?_eq_some_iff.mp h2).1
      simpa using this
    rw [List.getElem?_set_self hlt] at h2
    cases h2
    exact absurd rfl h7
  · rw [List.getElem?_set_ne (fun e => hj1 e.symm)] at h2
    by_cases hj : j = i
    · subst hj
      have hlt : j < ls.length := by
        have := (List.getElem?_eq_some_iff.mp h2).1
        simpa using this
      rw [List.getElem?_set_self hlt] at h2
      cases h2
      rw [h1]; exact List.mem_cons_self
    · rw [List.getElem?_set_ne (fun e => hj e.symm)] at h2
      refine List.mem_cons_of_mem _ (List.mem_filter.mpr ⟨?_, ?_⟩)
      · have := lvl_in ρ ls 0 j w h2 h6 h7
        rw [Nat.zero_add] at this
        rw [h1]; exact this
      · rw [h1]
        simp only [Bool.and_eq_true, Bool.not_eq_true', beq_eq_false_iff_ne, ne_eq, Bool.and_eq_false_iff]
        refine ⟨hj, hj1, ?_⟩
        by_cases hji : j + 1 = i
        · right
          subst hji
          have hw : lg ls j = w := by unfold lg; rw [List.getD_eq_getElem?_getD, h2]; rfl
          simp only [okst, hw, bne_iff_ne, ne_eq] at hk
          rw [am_cat ρ hk]; decide
        · left; exact hji
theorem okl_set {T : Int → Kd} {σ : Mem} {ls : List AV} {i : Nat} {v : AV} (h : okl T σ ls) (hv : okv T σ v) : okl T σ (ls.set i v) := fun w hw => (List.mem_or_eq_of_mem_set hw).elim (h w) (fun e => e ▸ hv)
theorem lg_set {ls : List AV} {i n : Nat} {v : AV} (h : i < n) : lg (ls.set i v) n = lg ls n := by
  unfold lg
  rw [List.getD_eq_getElem?_getD, List.getD_eq_getElem?_getD, List.getElem?_set_ne (by omega)]
abbrev InR (z : Int) : Prop := -2147483648 ≤ z ∧ z ≤ 2147483647
abbrev InL (z : Int) : Prop := -9223372036854775808 ≤ z ∧ z ≤ 9223372036854775807
theorem InR.toInt {z : Int} (h : InR z) : (Int32.ofInt z).toInt = z := by
  unfold InR at h
  exact Int32.toInt_ofInt_of_le (by omega) (by omega)
theorem InL.toInt {z : Int} (h : InL z) : (Int64.ofInt z).toInt = z := by
  unfold InL at h
  exact Int64.toInt_ofInt_of_le (by omega) (by omega)
theorem ir_lt {a b : Int} (ha : InR a) (hb : InR b) : Int32.ofInt a < Int32.ofInt b ↔ a < b := by
  rw [Int32.lt_iff_toInt_lt, ha.toInt, hb.toInt]
theorem ir_le {a b : Int} (ha : InR a) (hb : InR b) : Int32.ofInt a ≤ Int32.ofInt b ↔ a ≤ b := by
  rw [Int32.le_iff_toInt_le, ha.toInt, hb.toInt]
theorem ir_eq {a b : Int} (ha : InR a) (hb : InR b) : Int32.ofInt a = Int32.ofInt b ↔ a = b := by
  constructor
  · intro h; have := congrArg Int32.toInt h; rwa [ha.toInt, hb.toInt] at this
  · intro h; rw [h]
theorem il_lt {a b : Int} (ha : InL a) (hb : InL b) : Int64.ofInt a < Int64.ofInt b ↔ a < b := by
  rw [Int64.lt_iff_toInt_lt, ha.toInt, hb.toInt]
theorem ir_0 : InR 0 := by unfold InR; omega
theorem ir_z : (0 : Int32) = Int32.ofInt 0 := rfl
theorem vp_in_am {i n : Int} (h0 : 0 ≤ i) (h1 : i < n) (hn : n ≤ 2147483647) : vp_in (Int32.ofInt i) n.toNat ∧ (Int32.ofInt i).toNatClampNeg = i.toNat := by
  have hr : InR i := by unfold InR; omega
  refine ⟨vp_in_iff.mpr ?_, ?_⟩
  · rw [hr.toInt]; omega
  · rw [Int32.toNatClampNeg, hr.toInt]
theorem ir_tdiv {a b : Int} (ha : InR a) (hb : InR b) : Int32.ofInt (Int.tdiv a b) = Int32.ofInt a / Int32.ofInt b := by
  have h1 : Int32.minValue.toInt = -2147483648 := rfl
  have h2 : Int32.maxValue.toInt = 2147483647 := rfl
  unfold InR at ha hb
  exact Int32.ofInt_tdiv (by omega) (by omega) (by omega) (by omega)
theorem il_tdiv {a b : Int} (ha : InL a) (hb : InL b) : Int64.ofInt (Int.tdiv a b) = Int64.ofInt a / Int64.ofInt b := by
  have h1 : Int64.minValue.toInt = -9223372036854775808 := rfl
  have h2 : Int64.maxValue.toInt = 9223372036854775807 := rfl
  unfold InL at ha hb
  exact Int64.ofInt_tdiv (by omega) (by omega) (by omega) (by omega)
theorem il_eq {a b : Int} (ha : InL a) (hb : InL b) : Int64.ofInt a = Int64.ofInt b ↔ a = b := by
  constructor
  · intro h; have := congrArg Int64.toInt h; rwa [ha.toInt, hb.toInt] at this
  · intro h; rw [h]
