/-! numbers: what the int operations give -/
theorem bv_ofInt (x : Int) : (Int32.ofInt x).toBitVec.toNat = (x % 4294967296).toNat := by
  show (BitVec.ofInt 32 x).toNat = _
  rw [BitVec.toNat_ofInt]; rfl
theorem nI_toInt' {n : Nat} (h : n < 2 ^ 31) : (nI n).toInt = (n : Int) := nI_toInt h
theorem amIand_mask (x m : Int) (k : Nat) (hk : k ≤ 30) (hm : (Int32.ofInt m).toBitVec.toNat = 2 ^ k - 1) : amIand x m = x % (2 ^ k : Nat) := by
  unfold amIand
  rw [pk_and (Int32.ofInt x) k hm]
  have h2 : 2 ^ k ≤ 2 ^ 30 := Nat.pow_le_pow_right (by decide) hk
  have hp : 0 < 2 ^ k := Nat.pow_pos (by decide)
  have hlt : (Int32.ofInt x).toBitVec.toNat % 2 ^ k < 2 ^ k := Nat.mod_lt _ hp
  rw [nI_toInt (by omega), bv_ofInt, Int.natCast_emod, Int.toNat_of_nonneg (Int.emod_nonneg _ (by decide))]
  have hd : ((2 ^ k : Nat) : Int) ∣ 4294967296 := by
    have : (2 ^ k : Nat) ∣ 2 ^ 32 := Nat.pow_dvd_pow 2 (by omega)
    exact Int.ofNat_dvd.mpr this
  exact Int.emod_emod_of_dvd _ hd
theorem amIand_255 (x : Int) : amIand x 255 = x % 256 := amIand_mask x 255 8 (by decide) (by decide)
theorem amIand_1 (x : Int) : amIand x 1 = x % 2 := amIand_mask x 1 1 (by decide) (by decide)
theorem amIand_3 (x : Int) : amIand x 3 = x % 4 := amIand_mask x 3 2 (by decide) (by decide)
theorem amIand_63 (x : Int) : amIand x 63 = x % 64 := amIand_mask x 63 6 (by decide) (by decide)
theorem amIand_127 (x : Int) : amIand x 127 = x % 128 := amIand_mask x 127 7 (by decide) (by decide)
theorem amI2c_e (x : Int) : amI2c x = x % 65536 := by
  unfold amI2c
  rw [pk_char, nI_toInt (by have := Nat.mod_lt (Int32.ofInt x).toBitVec.toNat (show 0 < 65536 by decide); omega), bv_ofInt, Int.natCast_emod, Int.toNat_of_nonneg (Int.emod_nonneg _ (by decide))]
  exact Int.emod_emod_of_dvd _ (by decide)
theorem sh_and : ∀ k : Nat, k < 32 → ((Int32.ofInt (k : Int) &&& 31).toBitVec.smod 32).toNat = k := by decide +kernel
theorem amIshr_e {x i : Int} (hx : InR x) (h0 : 0 ≤ i) (h1 : i < 32) : amIshr x i = x / (2 ^ i.toNat : Nat) := by
  unfold amIshr
  obtain ⟨k, rfl⟩ : ∃ k : Nat, i = k := ⟨i.toNat, by omega⟩
  rw [pk_shr _ _ k (sh_and k (by omega)), hx.toInt, Int.shiftRight_eq_div_pow]
  simp
theorem amIshl_nat {a i : Int} (ha : 0 ≤ a) (h0 : 0 ≤ i) (h1 : i < 32) (h2 : a * (2 ^ i.toNat : Nat) < 2147483648) : amIshl a i = a * (2 ^ i.toNat : Nat) := by
  unfold amIshl
  obtain ⟨k, rfl⟩ : ∃ k : Nat, i = k := ⟨i.toNat, by omega⟩
  obtain ⟨n, rfl⟩ : ∃ n : Nat, a = n := ⟨a.toNat, by omega⟩
  simp only [Int.toNat_natCast] at h2 ⊢
  have h3 : n * 2 ^ k < 2 ^ 31 := by
    have : ((n * 2 ^ k : Nat) : Int) < 2147483648 := by rw [Int.natCast_mul]; exact h2
    omega
  rw [Int32.ofInt_eq_ofNat]
  have := pk_shlN (n := n) (Int32.ofInt (k : Int) &&& 31) k (sh_and k (by omega)) (by omega)
  unfold nI at this
  rw [this]
  have h4 := nI_toInt (n := n * 2 ^ k) h3
  unfold nI at h4
  rw [h4, Int.natCast_mul]
theorem sh_and2 : ∀ k : Nat, k < 32 → (((Int32.ofInt (k : Int)).toUInt32 &&& Int32.toUInt32 31).toBitVec % 32).toNat = k := by decide +kernel
theorem amIushr_e {x i : Int} (h0 : 0 ≤ i) (h1 : i < 32) (hi : 0 < i ∨ (0 ≤ x ∧ x < 2147483648)) : amIushr x i = (x % 4294967296) / (2 ^ i.toNat : Nat) := by
  unfold amIushr
  obtain ⟨k, rfl⟩ : ∃ k : Nat, i = k := ⟨i.toNat, by omega⟩
  simp only [Int.toNat_natCast]
  have h := pk_ushr (Int32.ofInt x) (Int32.ofInt (k : Int)) k (sh_and2 k (by omega))
  rw [bv_ofInt] at h
  have hm0 := Int.emod_nonneg x (show (4294967296 : Int) ≠ 0 by decide)
  have hm1 := Int.emod_lt_of_pos x (show (0 : Int) < 4294967296 by decide)
  have hq : ((x % 4294967296).toNat / 2 ^ k : Nat) < 2 ^ 31 := by
    by_cases hk : k = 0
    · subst hk
      rcases hi with hi | hi
      · omega
      · rw [Int.emod_eq_of_lt hi.1 (by omega)]
        simp; omega
    · have : 2 ≤ 2 ^ k := by
        have := Nat.pow_le_pow_right (show 0 < 2 by decide) (show 1 ≤ k by omega)
        simpa using this
      exact Nat.div_lt_of_lt_mul (Nat.lt_of_lt_of_le (show (x % 4294967296).toNat < 2 * 2 ^ 31 by omega) (Nat.mul_le_mul_right _ this))
  generalize ((Int32.ofInt x).toUInt32 >>> ((Int32.ofInt (k : Int)).toUInt32 &&& Int32.toUInt32 31)).toInt32 = y at h ⊢
  have hy : y.toInt = (y.toBitVec.toNat : Int) := by
    show y.toBitVec.toInt = _
    rw [BitVec.toInt_eq_toNat_of_lt]
    rw [h]; omega
  rw [hy, h, Int.natCast_ediv, Int.toNat_of_nonneg hm0]
theorem amI2b_nat {x : Int} (h0 : 0 ≤ x) (h1 : x < 128) : amI2b x = x := by
  unfold amI2b
  have h : ∀ k : Nat, k < 128 → (Int32.ofInt (k : Int)).toInt8.toInt32.toInt = (k : Int) := by decide +kernel
  obtain ⟨k, rfl⟩ : ∃ k : Nat, x = k := ⟨x.toNat, by omega⟩
  exact h k (by omega)
theorem stv_bd0 : ∀ k, k < 11 → ∀ j, j < ((amStr.getD k ("", 0, "", [])).2.2.2).length → 0 ≤ ((amStr.getD k ("", 0, "", [])).2.2.2).getD j 0 ∧ ((amStr.getD k ("", 0, "", [])).2.2.2).getD j 0 < 128 := by decide +kernel
theorem stv_bd {z i : Int} (h0 : 20100 ≤ z) (h1 : z < 20111) (hi : 0 ≤ i) (hj : i < stl z) : 0 ≤ stv z i ∧ stv z i < 128 := by
  unfold stv; unfold stl at hj
  exact stv_bd0 _ (by omega) _ (by omega)
theorem stl_nn (z : Int) : 0 ≤ stl z := Int.natCast_nonneg _
/-- the first place from i on, within n, where f gives c; -1: none -/
def fidx (f : Int → Int) (c i : Int) : Nat → Int
  | 0 => -1
  | n + 1 => if f i = c then i else fidx f c (i + 1) n
theorem fidx_none {f : Int → Int} {c : Int} : ∀ (n : Nat) (i : Int), (∀ j, i ≤ j → j < i + n → f j ≠ c) → fidx f c i n = -1 := by
  intro n
  induction n with
  | zero => intro i _; rfl
  | succ n ih =>
    intro i h
    unfold fidx
    rw [if_neg (h i (by omega) (by omega))]
    exact ih (i + 1) (fun j h1 h2 => h j (by omega) (by omega))
theorem amI2b_all : ∀ k : Nat, k < 256 → amI2b (k : Int) = if k < 128 then (k : Int) else (k : Int) - 256 := by decide +kernel
theorem fidx_b8 {z ch : Int} (h0 : 20100 ≤ z) (h1 : z < 20111) (hc : 0 ≤ ch) (hc2 : ch ≤ 255) {i : Int} {n : Nat} (hi : 0 ≤ i) (hn : i + n ≤ stl z) : fidx (stv z) (amI2b ch) i n = fidx (stv z) ch i n := by
  obtain ⟨k, rfl⟩ : ∃ k : Nat, ch = k := ⟨ch.toNat, by omega⟩
  have hb := amI2b_all k (by omega)
  by_cases hk : k < 128
  · rw [hb, if_pos hk]
  · rw [if_neg hk] at hb
    rw [fidx_none n i, fidx_none n i]
    · intro j h2 h3
      have := stv_bd (z := z) (i := j) h0 h1 (by omega) (by omega)
      omega
    · intro j h2 h3
      have := stv_bd (z := z) (i := j) h0 h1 (by omega) (by omega)
      omega
