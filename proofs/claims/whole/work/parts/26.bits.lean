/-! numbers: what the int operations give -/
theorem bv_ofInt (x : Int) : (Int32.ofInt x).toBitVec.toNat = (x % 4294967296).toNat := by
  show (BitVec.ofInt 32 x).toNat = _
  rw [BitVec.toNat_ofInt]; rfl
theorem nI_toInt' {n : Nat} (h : n < 2 ^ 31) : (nI n).toInt = (n : Int) := nI_toInt h
theorem amIand_mask (x m : Int) (k : Nat) (hk : k ≤ 30) (hm : (Int32.ofInt m).toBitVec.toNat = 2 ^ k - 1) : amIand x m = x % (2 ^ k : Nat) := by
  unfold amIand
  rw [pk_and (Int32.ofInt x) k hm]
  have h2 : 2 ^ k ≤ 2 ^ 30 := Nat.pow_le_pow_right (by decide) hk
  have hp : 0 < 2 ^ k := Nat.pow_pos (by decide)
  have hlt : (Int32.ofInt x).toBitVec.toNat % 2 ^ k < 2 ^ k := Nat.mod_lt _ hp
  rw [nI_toInt (by omega), bv_ofInt, Int.natCast_emod, Int.toNat_of_nonneg (Int.emod_nonneg _ (by decide))]
  have hd : ((2 ^ k : Nat) : Int) ∣ 4294967296 := by
    have : (2 ^ k : Nat) ∣ 2 ^ 32 := Nat.pow_dvd_pow 2 (by omega)
    exact Int.ofNat_dvd.mpr this
  exact Int.emod_emod_of_dvd _ hd
theorem amIand_255 (x : Int) : amIand x 255 = x % 256 := amIand_mask x 255 8 (by decide) (by decide)
theorem amIand_1 (x : Int) : amIand x 1 = x % 2 := amIand_mask x 1 1 (by decide) (by decide)
theorem amIand_3 (x : Int) : amIand x 3 = x % 4 := amIand_mask x 3 2 (by decide) (by decide)
theorem amIand_63 (x : Int) : amIand x 63 = x % 64 := amIand_mask x 63 6 (by decide) (by decide)
theorem amIand_127 (x : Int) : amIand x 127 = x % 128 := amIand_mask x 127 7 (by decide) (by decide)
theorem amI2c_e (x : Int) : amI2c x = x % 65536 := by
  unfold amI2c
  rw [pk_char, nI_toInt (by have := Nat.mod_lt (Int32.ofInt x).toBitVec.toNat (show 0 < 65536 by decide); omega), bv_ofInt, Int.natCast_emod, Int.toNat_of_nonneg (Int.emod_nonneg _ (by decide))]
  exact Int.emod_emod_of_dvd _ (by decide)
theorem sh_and : ∀ k : Nat, k < 32 → ((Int32.ofInt (k : Int) &&& 31).toBitVec.smod 32).toNat = k := by decide +kernel
theorem amIshr_e {x i : Int} (hx : InR x) (h0 : 0 ≤ i) (h1 : i < 32) : amIshr x i = x / (2 ^ i.toNat : Nat) := by
  unfold amIshr
  obtain ⟨k, rfl⟩ : ∃ k : Nat, i = k := ⟨i.toNat, by omega⟩
  rw [pk_shr _ _ k (sh_and k (by omega)), hx.toInt, Int.shiftRight_eq_div_pow]
  simp
theorem amIshl_nat {a i : Int} (ha : 0 ≤ a) (h0 : 0 ≤ i) (h1 : i < 32) (h2 : a * (2 ^ i.toNat : Nat) < 2147483648) : amIshl a i = a * (2 ^ i.toNat : Nat) := by
  unfold amIshl
  obtain ⟨k, rfl⟩ : ∃ k : Nat, i = k := ⟨i.toNat, by omega⟩
  obtain ⟨n, rfl⟩ : ∃ n : Nat, a = n := ⟨a.toNat, by omega⟩
  simp only [Int.toNat_natCast] at h2 ⊢
  have h3 : n * 2 ^ k < 2 ^ 31 := by
    have : ((n * 2 ^ k : Nat) : Int) < 2147483648 := by rw [Int.natCast_mul]; exact h2
    omega
  rw [Int32.ofInt_eq_ofNat]
  have := pk_shlN (n := n) (Int32.ofInt (k : Int) &&& 31) k (sh_and k (by omega)) (by omega)
  unfold nI at this
  rw [this]
  have h4 := nI_toInt (n := n * 2 ^ k) h3
  unfold nI at h4
  rw [h4, Int.natCast_mul]
theorem sh_and2 : ∀ k : Nat, k < 32 → (((Int32.ofInt (k : Int)).toUInt32 &&& Int32.toUInt32 31).toBitVec % 32).toNat = k := by decide +kernel
theorem amIushr_e {x i : Int} (h0 : 0 ≤ i) (h1 : i < 32) (hi : 0 < i ∨ (0 ≤ x ∧ x < 2147483648)) : amIushr x i = (x % 4294967296) / (2 ^ i.toNat : Nat) := by
  unfold amIushr
  obtain ⟨k, rfl⟩ : ∃ k : Nat, i = k := ⟨i.toNat, by omega⟩
  simp only [Int.toNat_natCast]
  have h := pk_ushr (Int32.ofInt x) (Int32.ofInt (k : Int)) k (sh_and2 k (by omega))
  rw [bv_ofInt] at h
  have hm0 := Int.emod_nonneg x (show (4294967296 : Int) ≠ 0 by decide)
  have hm1 := Int.emod_lt_of_pos x (show (0 : Int) < 4294967296 by decide)
  have hq : ((x % 4294967296).toNat / 2 ^ k : Nat) < 2 ^ 31 := by
    by_cases hk : k = 0
    · subst hk
      rcases hi with hi | hi
      · omega
      · rw [Int.emod_eq_of_lt hi.1 (by omega)]
        simp; omega
    · have : 2 ≤ 2 ^ k := by
        have := Nat.pow_le_pow_right (show 0 < 2 by decide) (show 1 ≤ k by omega)
        simpa using this
      exact Nat.div_lt_of_lt_mul (Nat.lt_of_lt_of_le (show (x % 4294967296).toNat < 2 * 2 ^ 31 by omega) (Nat.mul_le_mul_right _ this))
  generalize ((Int32.ofInt x).toUInt32 >>> ((Int32.ofInt (k : Int)).toUInt32 &&& Int32.toUInt32 31)).toInt32 = y at h ⊢
  have hy : y.toInt = (y.toBitVec.toNat : Int) := by
    show y.toBitVec.toInt = _
    rw [BitVec.toInt_eq_toNat_of_lt]
    rw [h]; omega
  rw [hy, h, Int.natCast_ediv, Int.toNat_of_nonneg hm0]
theorem amI2b_nat {x : Int} (h0 : 0 ≤ x) (h1 : x < 128) : amI2b x = x := by
  unfold amI2b
  have h : ∀ k : Nat, k < 128 → (Int32.ofInt (k : Int)).toInt8.toInt32.toInt = (k : Int) := by decide +kernel
  obtain ⟨k, rfl⟩ : ∃ k : Nat, x = k := ⟨x.toNat, by omega⟩
  exact h k (by omega)
theorem stv_bd0 : ∀ k, k < 11 → ∀ j, j < ((amStr.getD k ("", 0, "", [])).2.2.2).length → 0 ≤ ((amStr.getD k ("", 0, "", [])).2.2.2).getD j 0 ∧ ((amStr.getD k ("", 0, "", [])).2.2.2).getD j 0 < 128 := by decide +kernel
theorem stv_bd {z i : Int} (h0 : 20100 ≤ z) (h1 : z < 20111) (hi : 0 ≤ i) (hj : i < stl z) : 0 ≤ stv z i ∧ stv z i < 128 := by
  unfold stv; unfold stl at hj
  exact stv_bd0 _ (by omega) _ (by omega)
theorem stl_nn (z : Int) : 0 ≤ stl z := Int.natCast_nonneg _
/-- the first place from i on, within n, where f gives c; -1: none -/
def fidx (f : Int → Int) (c i : Int) : Nat → Int
  | 0 => -1
  | n + 1 => if f i = c then i else fidx f c (i + 1) n
theorem fidx_none {f : Int → Int} {c : Int} : ∀ (n : Nat) (i : Int), (∀ j, i ≤ j → j < i + n → f j ≠ c) → fidx f c i n = -1 := by
  intro n
  induction n with
  | zero => intro i _; rfl
  | succ n ih =>
    intro i h
    unfold fidx
    rw [if_neg (h i (by omega) (by omega))]
    exact ih (i + 1) (fun j h1 h2 => h j (by omega) (by omega))
theorem amI2b_all : ∀ k : Nat, k < 256 → amI2b (k : Int) = if k < 128 then (k : Int) else (k : Int) - 256 := by decide +kernel
theorem fidx_b8 {z ch : Int} (h0 : 20100 ≤ z) (h1 : z < 20111) (hc : 0 ≤ ch) (hc2 : ch ≤ 255) {i : Int} {n : Nat} (hi : 0 ≤ i) (hn : i + n ≤ stl z) : fidx (stv z) (amI2b ch) i n = fidx (stv z) ch i n := by
  obtain ⟨k, rfl⟩ : ∃ k : Nat, ch = k := ⟨ch.toNat, by omega⟩
  have hb := amI2b_all k (by omega)
  by_cases hk : k < 128
  · rw [hb, if_pos hk]
  · rw [if_neg hk] at hb
    rw [fidx_none n i, fidx_none n i]
    · intro j h2 h3
      have := stv_bd (z := z) (i := j) h0 h1 (by omega) (by omega)
      omega
    · intro j h2 h3
      have := stv_bd (z := z) (i := j) h0 h1 (by omega) (by omega)
      omega
def fillm (σ : Mem) (a n v : Int) : Mem := fun b j => if b = a ∧ 0 ≤ j ∧ j < n then v else σ b j
theorem fillm_o (σ : Mem) {a n v b : Int} (h : b ≠ a) : fillm σ a n v b = σ b := by
  funext j; unfold fillm; rw [if_neg]; rintro ⟨h1, -⟩; exact h h1
theorem fillm_0 (σ : Mem) (a v : Int) : fillm σ a 0 v = σ := by
  funext b j; unfold fillm; rw [if_neg]; omega
theorem fillm_s (σ : Mem) {a n v : Int} (h : 0 ≤ n) : up (fillm σ a n v) a n v = fillm σ a (n + 1) v := by
  funext b j; unfold up fillm
  by_cases h1 : b = a ∧ j = n
  · rw [if_pos h1, if_pos (by omega)]
  · rw [if_neg h1]
    by_cases h2 : b = a ∧ 0 ≤ j ∧ j < n
    · rw [if_pos h2, if_pos (by omega)]
    · rw [if_neg h2, if_neg (by omega)]
theorem alen_cong {T : Int → Kd} {σ σ' : Mem} {a : Int} (h : σ' a (-1) = σ a (-1)) : alen T σ' a = alen T σ a := by
  unfold alen am_len; rw [h]
theorem alen_fillm (T : Int → Kd) (σ : Mem) (a n v b : Int) : alen T (fillm σ a n v) b = alen T σ b := alen_cong (by unfold fillm; rw [if_neg]; omega)
theorem alen_up (T : Int → Kd) (σ : Mem) (a k v b : Int) (h : 0 ≤ k) : alen T (up σ a k v) b = alen T σ b := alen_cong (up_n σ (Or.inr (by omega)))
def bcx (x : Int) : Int :=
  let v1 := x - amIand (amIushr x 1) 1431655765
  let v2 := amIand v1 858993459 + amIand (amIushr v1 2) 858993459
  let v3 := amIand (v2 + amIushr v2 4) 252645135
  let v4 := v3 + amIushr v3 8
  let v5 := v4 + amIushr v4 16
  amIand v5 63
/-- how many of the first six bits are set -/
def popc (x : Int) : Int := x % 2 + x / 2 % 2 + x / 4 % 2 + x / 8 % 2 + x / 16 % 2 + x / 32 % 2
theorem bcx_popc0 : ∀ k : Nat, k < 64 → bcx (k : Int) = popc (k : Int) := by decide +kernel
theorem bcx_popc {x : Int} (h0 : 0 ≤ x) (h1 : x < 64) : bcx x = popc x := by
  obtain ⟨k, rfl⟩ : ∃ k : Nat, x = k := ⟨x.toNat, by omega⟩
  exact bcx_popc0 k (by omega)
theorem amLxor_neg {a b : Int} (ha : InL a) (hb : InL b) (h : 0 < b) : (amLxor a b < 0) = (a < 0) := by
  apply propext
  have key : ∀ z : Int, InL z → (BitVec.msb (Int64.ofInt z).toBitVec = true ↔ z < 0) := by
    intro z hz
    rw [BitVec.msb_eq_toInt]
    have : (Int64.ofInt z).toBitVec.toInt = z := hz.toInt
    rw [this]; simp
  have hm : BitVec.msb (Int64.ofInt a ^^^ Int64.ofInt b).toBitVec = (BitVec.msb (Int64.ofInt a).toBitVec ^^ BitVec.msb (Int64.ofInt b).toBitVec) := by
    rw [Int64.toBitVec_xor, BitVec.msb_xor]
  have hb0 : BitVec.msb (Int64.ofInt b).toBitVec = false := by
    cases hx : BitVec.msb (Int64.ofInt b).toBitVec with
    | false => rfl
    | true => exact absurd ((key b hb).mp hx) (by omega)
  unfold amLxor
  have h9 : ((Int64.ofInt a ^^^ Int64.ofInt b).toInt < 0) ↔ BitVec.msb (Int64.ofInt a ^^^ Int64.ofInt b).toBitVec = true := by
    rw [BitVec.msb_eq_toInt, decide_eq_true_iff]; exact Iff.rfl
  rw [h9, hm, hb0, Bool.xor_false]
  exact key a ha
theorem amLxor_in (a b : Int) : InL (amLxor a b) := by
  unfold amLxor InL
  have h1 := Int64.le_toInt (Int64.ofInt a ^^^ Int64.ofInt b)
  have h2 := Int64.toInt_lt (Int64.ofInt a ^^^ Int64.ofInt b)
  omega
theorem fd_pos {x y : Int} (hx : 0 ≤ x) (hy : 0 < y) : x.tdiv y = x / y ∧ x.tmod y = x % y := ⟨Int.tdiv_eq_ediv_of_nonneg hx, Int.tmod_eq_emod_of_nonneg hx⟩
theorem fd_neg {x y : Int} (hx : x < 0) (hy : 0 < y) : (x.tdiv y * y = x → x / y = x.tdiv y ∧ x % y = 0) ∧ (x.tdiv y * y ≠ x → x / y = x.tdiv y - 1 ∧ x % y = x - x.tdiv y * y + y) ∧ -y < x - x.tdiv y * y ∧ x - x.tdiv y * y ≤ 0 ∧ x ≤ x.tdiv y * y ∧ x.tdiv y * y ≤ 0 ∧ x ≤ x.tdiv y ∧ x.tdiv y ≤ 0 := by
  have e1 : x.tdiv y = -((-x) / y) := by
    have : x.tdiv y = -((-x).tdiv y) := by rw [Int.neg_tdiv, Int.neg_neg]
    rw [this, (fd_pos (by omega) hy).1]
  have h1 := Int.mul_ediv_add_emod (-x) y
  have h2 := Int.emod_nonneg (-x) (show y ≠ 0 by omega)
  have h3 := Int.emod_lt_of_pos (-x) hy
  have h4 : 0 ≤ (-x) / y := Int.ediv_nonneg (by omega) (by omega)
  have h5 : (-x) / y ≤ -x := Int.ediv_le_self _ (by omega)
  rw [e1]
  generalize (-x) / y = q at *
  generalize (-x) % y = r at *
  have h6 : -q * y = -(y * q) := by rw [Int.neg_mul, Int.mul_comm]
  have h7 : 0 ≤ y * q := Int.mul_nonneg (by omega) h4
  rw [h6]
  have uq : ∀ a b : Int, b + y * a = x → 0 ≤ b → b < y → x / y = a ∧ x % y = b := fun a b g1 g2 g3 => (Int.ediv_emod_unique hy).mpr ⟨g1, g2, g3⟩
  refine ⟨fun h => ?_, fun h => ?_, by omega, by omega, by omega, by omega, by omega, by omega⟩
  · exact uq _ _ (by rw [Int.mul_neg]; omega) (by omega) (by omega)
  · have := uq (-q - 1) (y - r) (by rw [Int.mul_sub, Int.mul_neg]; omega) (by omega) (by omega)
    exact ⟨this.1, by rw [this.2]; omega⟩
theorem amLxor_nn {a b : Int} (ha : InL a) (hb : InL b) (h : 0 < b) : (0 ≤ amLxor a b) = (0 ≤ a) := by
  have := amLxor_neg ha hb h
  apply propext
  have h2 : amLxor a b < 0 ↔ a < 0 := by rw [this]
  omega
theorem up_up (σ : Mem) (a k v w : Int) : up (up σ a k v) a k w = up σ a k w := by
  funext b j; unfold up
  by_cases h : b = a ∧ j = k
  · rw [if_pos h, if_pos h]
  · rw [if_neg h, if_neg h, if_neg h]
theorem up_id (σ : Mem) (a k : Int) : up σ a k (σ a k) = σ := by
  funext b j; unfold up
  by_cases h : b = a ∧ j = k
  · rw [if_pos h, h.1, h.2]
  · rw [if_neg h]
theorem up_at (σ : Mem) (a k v b j : Int) : up σ a k v b j = if b = a ∧ j = k then v else σ b j := rfl
theorem Qe {Q : AV → Mem → Prop} {t : Nat} {a b : Int} {σ : Mem} (h : Q (t, a) σ) (e : a = b) : Q (t, b) σ := e ▸ h
theorem Qm {Q : AV → Mem → Prop} {t : Nat} {a b : Int} {σ σ' : Mem} (h : Q (t, a) σ) (e : a = b) (e2 : σ = σ') : Q (t, b) σ' := e ▸ e2 ▸ h
/-- a byte of a number -/
def bte (x s : Int) : Int := (x / s) % 256
theorem bte_24 (x : Int) : amIand (amIushr x 24) 255 = bte x 16777216 := by
  rw [amIand_255, amIushr_e (by omega) (by omega) (Or.inl (by omega))]; unfold bte; simp; omega
theorem bte_16 (x : Int) : amIand (amIushr x 16) 255 = bte x 65536 := by
  rw [amIand_255, amIushr_e (by omega) (by omega) (Or.inl (by omega))]; unfold bte; simp; omega
theorem bte_8 (x : Int) : amIand (amIushr x 8) 255 = bte x 256 := by
  rw [amIand_255, amIushr_e (by omega) (by omega) (Or.inl (by omega))]; unfold bte; simp; omega
theorem amIushr_0 {x : Int} (hx : InR x) : amIushr x 0 = x := by
  unfold amIushr
  have h : ((Int32.ofInt x).toUInt32 >>> ((Int32.ofInt 0).toUInt32 &&& Int32.toUInt32 31)).toInt32 = Int32.ofInt x := by
    apply Int32.toBitVec_inj.mp
    have := pk_ushr (Int32.ofInt x) (Int32.ofInt 0) 0 (by decide)
    simp only [Nat.pow_zero, Nat.div_one] at this
    exact BitVec.eq_of_toNat_eq this
  rw [h, hx.toInt]
theorem bte_0 {x : Int} (hx : InR x) : amIand (amIushr x 0) 255 = bte x 1 := by
  rw [amIushr_0 hx, amIand_255]; unfold bte; omega
theorem bte_bd (x s : Int) : 0 ≤ bte x s ∧ bte x s < 256 := by unfold bte; omega
/-- how many bytes of a number are not 0 -/
def nzc (x : Int) : Int := min (bte x 16777216) 1 + min (bte x 65536) 1 + min (bte x 256) 1 + min (bte x 1) 1
