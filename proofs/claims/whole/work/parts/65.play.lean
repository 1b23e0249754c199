/-! Stage: who is there still, MINUTE by MINUTE -/
theorem bt_sub0 : ∀ x : Nat, x < 64 → ∀ j : Nat, j < 6 → ∀ i : Nat, i < 6 → bt (x : Int) (j : Int) = 1 → bt ((x : Int) - 2 ^ j) (i : Int) = (if i = j then 0 else bt (x : Int) (i : Int)) ∧ 0 ≤ (x : Int) - 2 ^ j := by decide +kernel
theorem bt_clr0 : ∀ x : Nat, x < 64 → ∀ j : Nat, j < 6 → bt (x : Int) (j : Int) = 1 → amIand (x : Int) (amIxor (amIshl 1 (j : Int)) (-1)) = (x : Int) - 2 ^ j := by decide +kernel
theorem bt_sub {x i : Int} {j : Nat} (h0 : 0 ≤ x) (h1 : x < 64) (hj : j < 6) (i0 : 0 ≤ i) (i1 : i < 6) (hb : bt x j = 1) : bt (x - 2 ^ j) i = (if i = j then 0 else bt x i) ∧ 0 ≤ x - 2 ^ j := by
  have := bt_sub0 x.toNat (by omega) j hj i.toNat (by omega)
  rw [show ((x.toNat : Nat) : Int) = x by omega, show ((i.toNat : Nat) : Int) = i by omega] at this
  obtain ⟨a, b⟩ := this hb
  refine ⟨?_, b⟩
  rw [a]
  by_cases c : i = j
  · rw [if_pos c, if_pos (by omega)]
  · rw [if_neg c, if_neg (by omega)]
theorem bt_clr {x : Int} {j : Nat} (h0 : 0 ≤ x) (h1 : x < 64) (hj : j < 6) (hb : bt x j = 1) : amIand x (amIxor (amIshl 1 (j : Int)) (-1)) = x - 2 ^ j := by
  have := bt_clr0 x.toNat (by omega) j hj
  rw [show ((x.toNat : Nat) : Int) = x by omega] at this
  exact this hb
theorem bt_0 (i : Int) : bt 0 i = 0 := by unfold bt; rw [Int.zero_ediv]; rfl
theorem pmin_e (σ : Mem) (p i : Int) : pmin σ p i = pval σ p 1 i 3 := rfl
theorem popc_b (x : Int) : 0 ≤ popc x ∧ popc x ≤ 6 := by unfold popc; omega
theorem popc_p0 : ∀ x : Nat, x < 64 → 0 < x → 1 ≤ popc (x : Int) := by decide +kernel
theorem popc_p {x : Int} (h0 : 0 < x) (h1 : x < 64) : 1 ≤ popc x := by
  have := popc_p0 x.toNat (by omega) (by omega)
  rw [show ((x.toNat : Nat) : Int) = x by omega] at this
  exact this
/-- who is there still, when the first j CHAIRS of b have felt -/
def stI (g : Int → Int) (L b : Int) : Nat → Int
  | 0 => b
  | j + 1 => if bt b j = 1 ∧ L ≤ g j then stI g L b j - 2 ^ j else stI g L b j
theorem stI_b {g : Int → Int} {L b : Int} (h0 : 0 ≤ b) (h1 : b < 64) : ∀ j : Nat, j ≤ 6 → 0 ≤ stI g L b j ∧ stI g L b j ≤ b ∧ ∀ i, 0 ≤ i → i < 6 → bt (stI g L b j) i = if i < j ∧ bt b i = 1 ∧ L ≤ g i then 0 else bt b i := by
  intro j
  induction j with
  | zero => intro _; exact ⟨h0, Int.le_refl _, fun i i0 i1 => by rw [if_neg (by omega)]; rfl⟩
  | succ j ih =>
    intro hj
    obtain ⟨a, b1, c⟩ := ih (by omega)
    unfold stI
    by_cases d : bt b j = 1 ∧ L ≤ g j
    · rw [if_pos d]
      have hbj : bt (stI g L b j) j = 1 := by rw [c j (by omega) (by omega), if_neg (by omega)]; exact d.1
      have hp : (0 : Int) < 2 ^ j := Int.pow_pos (by decide)
      refine ⟨(bt_sub a (by omega) (by omega) (i := 0) (by omega) (by omega) hbj).2, by omega, fun i i0 i1 => ?_⟩
      rw [(bt_sub a (by omega) (by omega) i0 i1 hbj).1, c i i0 i1]
      by_cases e : i = j
      · rw [if_pos e, if_pos ⟨by omega, by rw [e]; exact d⟩]
      · rw [if_neg e]
        by_cases f : i < j ∧ bt b i = 1 ∧ L ≤ g i
        · rw [if_pos f, if_pos ⟨by omega, f.2⟩]
        · rw [if_neg f, if_neg (by rintro ⟨q1, q2⟩; exact f ⟨by omega, q2⟩)]
    · rw [if_neg d]
      refine ⟨a, b1, fun i i0 i1 => ?_⟩
      rw [c i i0 i1]
      by_cases f : i < j ∧ bt b i = 1 ∧ L ≤ g i
      · rw [if_pos f, if_pos ⟨by omega, f.2⟩]
      · rw [if_neg f, if_neg (by
          rintro ⟨q1, q2⟩
          by_cases e : i = j
          · subst e; exact d q2
          · exact f ⟨by omega, q2⟩)]
theorem it_ij {i : Int} {j : Nat} (e : i ≠ j) (x y : Int) : (if i < (j : Int) then x else y) = if i < ((j + 1 : Nat) : Int) then x else y := by
  by_cases c : i < j
  · rw [if_pos c, if_pos (by omega)]
  · rw [if_neg c, if_neg (by omega)]
abbrev GM : Type := Int → Int → Int → Int
def stM (g : GM) (L S : Int) : Nat → Int
  | 0 => S
  | k + 1 => stI (fun i => g i (popc (stM g L S k)) k) L (stM g L S k) 6
def flM (g : GM) (L S : Int) : Nat → Int → Int
  | 0, _ => 0
  | k + 1, i => flM g L S k i + if bt (stM g L S k) i = 1 then g i (popc (stM g L S k)) k else 0
def oaM (g : GM) (L S : Int) : Nat → Int → Int
  | 0, _ => -1
  | k + 1, i => if bt (stM g L S k) i = 1 ∧ L ≤ g i (popc (stM g L S k)) k then k else oaM g L S k i
theorem stM_b (g : GM) (L : Int) {S : Int} (h0 : 0 ≤ S) (h1 : S < 64) : ∀ k, 0 ≤ stM g L S k ∧ stM g L S k < 64 := by
  intro k
  induction k with
  | zero => exact ⟨h0, h1⟩
  | succ k ih =>
    have := stI_b (g := fun i => g i (popc (stM g L S k)) k) (L := L) ih.1 ih.2 6 (Nat.le_refl _)
    unfold stM; omega
theorem stM_bit (g : GM) (L : Int) {S : Int} (h0 : 0 ≤ S) (h1 : S < 64) (k : Nat) {i : Int} (i0 : 0 ≤ i) (i1 : i < 6) : bt (stM g L S (k + 1)) i = if bt (stM g L S k) i = 1 ∧ L ≤ g i (popc (stM g L S k)) k then 0 else bt (stM g L S k) i := by
  obtain ⟨a, b⟩ := stM_b g L h0 h1 k
  have := (stI_b (g := fun i => g i (popc (stM g L S k)) k) (L := L) a b 6 (Nat.le_refl _)).2.2 i i0 i1
  rw [show stM g L S (k + 1) = stI (fun i => g i (popc (stM g L S k)) k) L (stM g L S k) 6 from rfl, this]
  by_cases c : bt (stM g L S k) i = 1 ∧ L ≤ g i (popc (stM g L S k)) k
  · rw [if_pos c, if_pos ⟨by omega, c⟩]
  · rw [if_neg c, if_neg (fun q => c q.2)]
theorem stM_sub (g : GM) (L : Int) {S : Int} (h0 : 0 ≤ S) (h1 : S < 64) {i : Int} (i0 : 0 ≤ i) (i1 : i < 6) : ∀ k, bt (stM g L S k) i = 1 → bt S i = 1 := by
  intro k
  induction k with
  | zero => exact id
  | succ k ih =>
    intro h
    rw [stM_bit g L h0 h1 k i0 i1] at h
    split at h
    · omega
    · exact ih h
theorem stM_z (g : GM) (L : Int) {S : Int} {k : Nat} (h : stM g L S k = 0) : ∀ d : Nat, stM g L S (k + d) = 0 ∧ ∀ i, flM g L S (k + d) i = flM g L S k i ∧ oaM g L S (k + d) i = oaM g L S k i := by
  intro d
  induction d with
  | zero => exact ⟨h, fun i => ⟨rfl, rfl⟩⟩
  | succ d ih =>
    obtain ⟨a, b⟩ := ih
    refine ⟨?_, fun i => ⟨?_, ?_⟩⟩
    · rw [← Nat.add_assoc, stM, a]
      have e : ∀ (f : Int → Int) (j : Nat), stI f L 0 j = 0 := by
        intro f j
        induction j with
        | zero => rfl
        | succ j ih => rw [stI, if_neg (by rw [bt_0]; omega), ih]
      exact e _ 6
    · rw [← Nat.add_assoc, flM, a, bt_0, if_neg (by decide), (b i).1]; omega
    · rw [← Nat.add_assoc, oaM, a, bt_0, if_neg (by omega), (b i).2]

theorem wd_189 : Cond.fieldLink RX9 22 "ArmchairHouse$Stage" "felt" "[I" ∈ TBL := tb_tab (List.mem_of_getElem? (i := 189) (by decide +kernel)) rfl
theorem fl_X9_22 : amFl RX9 9 4 22 RX9 TX9 9 := ⟨rfl, inT_9, by decide, wd_189⟩
theorem wd_193 : Cond.fieldLink RX9 25 "ArmchairHouse$Stage" "ledOut" "[I" ∈ TBL := tb_tab (List.mem_of_getElem? (i := 193) (by decide +kernel)) rfl
theorem fl_X9_25 : amFl RX9 9 5 25 RX9 TX9 9 := ⟨rfl, inT_9, by decide, wd_193⟩
def a_X9_clearFelt : AC := [(0, vI 0 1), (1, vIstore 2 2), (2, vIload 2 3), (3, vI 6 5), (5, vIcGe 36 8), (8, vIload 1 9), (9, vIload 2 10), (10, vIshr 11), (11, vI 1 12), (12, vIand 13), (13, vIfEq 30 16), (16, vAload 0 17), (17, vGetR TT 25 4 8 20), (20, vIload 2 21), (21, vI 0 22), (22, vIast TT 23), (23, vAload 0 24), (24, vGetR TT 25 5 8 27), (27, vIload 2 28), (28, vI (-1) 29), (29, vIast TT 30), (30, vIinc 2 1 33), (33, vGoto 2), (36, vVret)]
theorem k_X9_clearFelt_0 : look a_X9_clearFelt 0 = vI 0 1 := rfl
theorem k_X9_clearFelt_1 : look a_X9_clearFelt 1 = vIstore 2 2 := rfl
theorem k_X9_clearFelt_2 : look a_X9_clearFelt 2 = vIload 2 3 := rfl
theorem k_X9_clearFelt_3 : look a_X9_clearFelt 3 = vI 6 5 := rfl
theorem k_X9_clearFelt_5 : look a_X9_clearFelt 5 = vIcGe 36 8 := rfl
theorem k_X9_clearFelt_8 : look a_X9_clearFelt 8 = vIload 1 9 := rfl
theorem k_X9_clearFelt_9 : look a_X9_clearFelt 9 = vIload 2 10 := rfl
theorem k_X9_clearFelt_10 : look a_X9_clearFelt 10 = vIshr 11 := rfl
theorem k_X9_clearFelt_11 : look a_X9_clearFelt 11 = vI 1 12 := rfl
theorem k_X9_clearFelt_12 : look a_X9_clearFelt 12 = vIand 13 := rfl
theorem k_X9_clearFelt_13 : look a_X9_clearFelt 13 = vIfEq 30 16 := rfl
theorem k_X9_clearFelt_16 : look a_X9_clearFelt 16 = vAload 0 17 := rfl
theorem k_X9_clearFelt_17 : look a_X9_clearFelt 17 = vGetR TT 25 4 8 20 := rfl
theorem k_X9_clearFelt_20 : look a_X9_clearFelt 20 = vIload 2 21 := rfl
theorem k_X9_clearFelt_21 : look a_X9_clearFelt 21 = vI 0 22 := rfl
theorem k_X9_clearFelt_22 : look a_X9_clearFelt 22 = vIast TT 23 := rfl
theorem k_X9_clearFelt_23 : look a_X9_clearFelt 23 = vAload 0 24 := rfl
theorem k_X9_clearFelt_24 : look a_X9_clearFelt 24 = vGetR TT 25 5 8 27 := rfl
theorem k_X9_clearFelt_27 : look a_X9_clearFelt 27 = vIload 2 28 := rfl
theorem k_X9_clearFelt_28 : look a_X9_clearFelt 28 = vI (-1) 29 := rfl
theorem k_X9_clearFelt_29 : look a_X9_clearFelt 29 = vIast TT 30 := rfl
theorem k_X9_clearFelt_30 : look a_X9_clearFelt 30 = vIinc 2 1 33 := rfl
theorem k_X9_clearFelt_33 : look a_X9_clearFelt 33 = vGoto 2 := rfl
theorem k_X9_clearFelt_36 : look a_X9_clearFelt 36 = vVret := rfl
theorem o_X9_clearFelt {X : amX} (e1 : XT X = TT) (e2 : XD X = 0) (hB : amB X RX9 cX9_clearFelt (none) 3) : ∀ pc, amOK X pc (look a_X9_clearFelt pc) := by
  have hT : amTok (XT X) := e1 ▸ TT_ok
  refine look_ok ?_
  unfold a_X9_clearFelt
  refine fc (ok_iconst hB dX9_clearFelt_0) ?_
  refine fc (ok_istore_n hB (by decide) dX9_clearFelt_1) ?_
  refine fc (ok_iload_n hB dX9_clearFelt_2) ?_
  refine fc (ok_bipush hB dX9_clearFelt_3 (by decide)) ?_
  refine fc (ok_icmp_ge hB (t := 36) (by decide) dX9_clearFelt_5) ?_
  refine fc (ok_iload_n hB dX9_clearFelt_8) ?_
  refine fc (ok_iload_n hB dX9_clearFelt_9) ?_
  refine fc (ok_ishr hB dX9_clearFelt_10) ?_
  refine fc (ok_iconst hB dX9_clearFelt_11) ?_
  refine fc (ok_iand hB dX9_clearFelt_12) ?_
  refine fc (ok_if_eq hB (t := 30) (by decide) dX9_clearFelt_13) ?_
  refine fc (ok_aload_n hB dX9_clearFelt_16) ?_
  refine fc (okt_getR e1 hB hT fl_X9_22 rfl af_9_4 at_9_4 (by decide) dX9_clearFelt_17) ?_
  refine fc (ok_iload_n hB dX9_clearFelt_20) ?_
  refine fc (ok_iconst hB dX9_clearFelt_21) ?_
  refine fc (okt_iastore e1 hB dX9_clearFelt_22) ?_
  refine fc (ok_aload_n hB dX9_clearFelt_23) ?_
  refine fc (okt_getR e1 hB hT fl_X9_25 rfl af_9_5 at_9_5 (by decide) dX9_clearFelt_24) ?_
  refine fc (ok_iload_n hB dX9_clearFelt_27) ?_
  refine fc (ok_iconst hB dX9_clearFelt_28) ?_
  refine fc (okt_iastore e1 hB dX9_clearFelt_29) ?_
  refine fc (ok_iinc hB (by decide) dX9_clearFelt_30) ?_
  refine fc (ok_goto hB (t := 2) (by decide) dX9_clearFelt_33) ?_
  refine fc (ok_vret hB dX9_clearFelt_36) ?_
  exact fn
def clr (σ : Mem) (S : Int) (m : Int) : Mem := fun b j => if (b = 29 ∨ b = 30) ∧ 0 ≤ j ∧ j < m ∧ bt S j = 1 then (if b = 29 then 0 else -1) else σ b j
def inv_clr (σ : Mem) (S : Int) (n pc : Nat) (ls st : List AV) (σ' : Mem) : Prop := pc = 2 ∧ st = [] ∧ ∃ k : Nat, ls = [(25, 26), (0, S), (0, (k : Int))] ∧ k + n = 6 ∧ σ' = clr σ S k
def w_X9_clearFelt : WP := fun av σ Q => ∃ (S : Int), av = [(25, 26), (0, S)] ∧ (0 ≤ S ∧ S < 64 ∧ Q (6, 0) (clr σ S 6))
theorem w_X9_clearFelt_e (S : Int) (σ : Mem) (Q : AV → Mem → Prop) : w_X9_clearFelt [(25, 26), (0, S)] σ Q = (0 ≤ S ∧ S < 64 ∧ Q (6, 0) (clr σ S 6)) := by
  apply propext; constructor
  · rintro ⟨S', h9, hb9⟩; cases h9; exact hb9
  · intro hb9; exact ⟨S, rfl, hb9⟩
theorem clr_0 (σ : Mem) (S : Int) : clr σ S (0 : Nat) = σ := by
  funext b j; unfold clr; rw [if_neg (by omega)]
theorem clr_t {σ : Mem} {S : Int} {k : Nat} (h : bt S k = 1) : up (up (clr σ S k) 29 k 0) 30 k (-1) = clr σ S (k + 1 : Nat) := by
  funext b j; unfold up clr
  by_cases c : (b = 29 ∨ b = 30) ∧ j = k
  · obtain ⟨c1, c2⟩ := c
    subst c2
    rcases c1 with rfl | rfl
    · rw [if_neg (by omega), if_pos ⟨rfl, rfl⟩, if_pos ⟨Or.inl rfl, by omega, by omega, h⟩]; rfl
    · rw [if_pos ⟨rfl, rfl⟩, if_pos ⟨Or.inr rfl, by omega, by omega, h⟩]; rfl
  · rw [if_neg (by omega), if_neg (by omega)]
    by_cases d : (b = 29 ∨ b = 30) ∧ 0 ≤ j ∧ j < k ∧ bt S j = 1
    · rw [if_pos d, if_pos (show (b = 29 ∨ b = 30) ∧ 0 ≤ j ∧ j < ((k + 1 : Nat) : Int) ∧ bt S j = 1 from ⟨d.1, d.2.1, by omega, d.2.2.2⟩)]
    · rw [if_neg d, if_neg (by rintro ⟨q1, q2, q3, q4⟩; exact d ⟨q1, q2, by omega, q4⟩)]
theorem clr_f {σ : Mem} {S : Int} {k : Nat} (h : bt S k ≠ 1) : clr σ S k = clr σ S (k + 1 : Nat) := by
  funext b j; unfold clr
  by_cases d : (b = 29 ∨ b = 30) ∧ 0 ≤ j ∧ j < k ∧ bt S j = 1
  · rw [if_pos d, if_pos (show (b = 29 ∨ b = 30) ∧ 0 ≤ j ∧ j < ((k + 1 : Nat) : Int) ∧ bt S j = 1 from ⟨d.1, d.2.1, by omega, d.2.2.2⟩)]
  · rw [if_neg d, if_neg (by
      rintro ⟨q1, q2, q3, q4⟩
      by_cases e : j = k
      · subst e; exact h q4
      · exact d ⟨q1, q2, by omega, q4⟩)]
set_option maxRecDepth 100000 in
set_option maxHeartbeats 4000000 in
theorem s_X9_clearFelt : ∀ av σ Q, w_X9_clearFelt av σ Q → amCall 0 0 0 TT yX9_clearFelt cX9_clearFelt 3 (none) av σ Q := by
  rintro av σ Q ⟨S, rfl, h0, h1, h⟩
  have hb : ∀ i, 0 ≤ i → i < 32 → amIand (amIshr S i) 1 = bt S i := fun i a b => bt_e ⟨by omega, by omega⟩ a b
  refine am_m [2] (inv_clr σ S) (own := RX9) (A := look a_X9_clearFelt) (fun X e1 e2 hB => o_X9_clearFelt e1 e2 hB) rfl (by decide +kernel) rfl rfl ?_ ⟨60, ?_⟩ (w := 3)
  · rintro n pc ls st σ' ⟨rfl, rfl, k, rfl, hk, rfl⟩
    refine ⟨60, ?_⟩
    by_cases ck : k < 6
    · have hbk := hb k (by omega) (by omega)
      simp only [↓reduceIte, inR_0, inR_1, inR_m, vI_e, vL_e, vNull_e, vIload_e, vLload_e, vAload_e, vIstore_e, vLstore_e, vAstore_e, vIinc_e, vIadd_e, vIsub_e, vImul_e, vIand_e, vIor_e, vIxor_e, vIshl_e, vIshr_e, vIushr_e, vIdiv_e, vIrem_e, vLadd_e, vLsub_e, vLmul_e, vLand_e, vLor_e, vLxor_e, vLdiv_e, vLrem_e, vLushr_e, vLshl_e, vLcmp_e, vIneg_e, vI2l_e, vL2i_e, vI2b_e, vI2c_e, vDup_e, vPop_e, vDup2_e, vGoto_e, vIcEq_e, vIfEq_e, vIcNe_e, vIfNe_e, vIcLt_e, vIfLt_e, vIcGe_e, vIfGe_e, vIcGt_e, vIfGt_e, vIcLe_e, vIfLe_e, vNonnull_e, vSw_e, vGetI_e, vGetL_e, vGetR_e, vPutI_e, vPutZ_e, vPutL_e, vPutR_e, vIald_e, vIald_s, vLald_e, vBald_e, vBald_s, vAald_e, vIast_e, vLast_e, vBast_e, vAast_e, vAlen_e8, vAlen_e9, vAlen_e10, vAlen_e11, vAlen_e5, vAlen_e3, vGets_e, vCompact_e, vLdcS_e, vIret_e, vZret_e, vCret_e, vBret_e, vLret_e, vVret_e, vAret_e, vCallM_e0, vCallMV_e0, vCallS_e0, vCallSV_e0, vCallM_e1, vCallMV_e1, vCallS_e1, vCallSV_e1, vCallM_e2, vCallMV_e2, vCallS_e2, vCallSV_e2, vCallM_e3, vCallMV_e3, vCallS_e3, vCallSV_e3, vCallM_e4, vCallMV_e4, vCallS_e4, vCallSV_e4, vCallM_e5, vCallMV_e5, vCallS_e5, vCallSV_e5, vCallM_e6, vCallMV_e6, vCallS_e6, vCallSV_e6, vCallM_e7, vCallMV_e7, vCallS_e7, vCallSV_e7, vBad_e, vStrVal_e, vStrCod_e, vForm_e, vCallT_e0, vCallT_e1, vCallT_e2, vCopy_e, rf_0_0, rf_0_1, rf_0_2, rf_0_3, rf_0_4, rf_0_7, rf_0_10, rf_0_11, rf_0_12, rf_0_13, rf_0_14, rf_0_15, rf_0_16, rf_1_0, rf_3_0, rf_3_1, rf_6_0, rf_6_1, rf_9_0, rf_9_1, rf_9_3, rf_13_0, rf_13_1, rf_13_2, rf_16_0, rf_16_1, rf_16_2, rf_16_3, rf_21_0, rf_21_1, rf_21_2, rf_21_3, rf_26_0, rf_26_1, rf_26_2, rf_26_3, rf_26_4, rf_26_5, rf_26_6, rf_31_0, rf_31_2, rf_31_5, rf_31_6, rf_36_0, rf_36_1, rf_36_2, rf_36_3, rf_39_0, rf_39_1, rf_39_2, rf_41_0, rf_41_1, rf_41_2, rf_41_3, rf_5000_1, rf_5000_2, rf_5000_3, rf_5000_4, rf_5000_5, rf_5000_15, rf_5000_16, rf_5000_18, rf_5000_19, rf_5000_20, rf_5000_21, rf_5000_22, rf_5000_23, rf_5000_24, rf_5000_25, rf_5000_26, rf_5000_27, rf_5000_36, rf_5000_37, rf_5000_40, rf_5000_41, rf_5000_42, rf_5000_43, rf_5000_44, rf_5000_45, rf_5000_47, rf_5000_52, rf_5000_54, rf_5000_55, rf_100_0, rf_100_1, rf_103_0, rf_103_1, rf_106_0, rf_106_1, rf_109_0, rf_109_1, al_2, al_4, al_5, al_7, al_8, al_10, al_11, al_12, al_14, al_15, al_17, al_18, al_19, al_20, al_22, al_23, al_24, al_25, al_27, al_28, al_29, al_30, al_32, al_33, al_34, al_35, al_37, al_38, al_40, al_42, al_5001, al_5002, al_5003, al_5004, al_5005, al_5006, al_5007, al_5008, al_5009, al_5010, al_5011, al_5012, al_5013, al_5014, al_5015, al_5016, al_5017, al_5018, al_5019, al_5020, al_5021, al_5022, al_5023, al_5024, al_5025, al_5026, al_9000, al_101, al_102, al_104, al_105, al_107, al_108, al_110, al_111, vcs_e, lg_c0, lg_cs, lg_nil, set_c0, set_cs, okst_0, okst_s, acok_n, acok_c, List.contains_nil, List.contains_cons, Bool.or_false, Bool.false_or, Bool.false_eq_true, if_false, if_true, ite_self, ne_eq, true_and, and_true, not_false_eq_true, not_true_eq_false, false_imp_iff, true_imp_iff, Nat.ble_eq, Bool.and_eq_true, reduceCtorEq, or_false, false_or, or_true, true_or, false_and, and_false, and_self, Int.reduceLE, Int.reduceAdd, Int.reduceSub, Int.reduceMul, Int.reduceNeg, Int.reduceLT, Int.reduceEq, Int.reduceNe, Nat.reduceBEq, Nat.reduceBNe, Nat.reduceEqDiff, amCmp_in, amCmp_lt, amCmp_le, amCmp_gt, amCmp_ge, amCmp_eq, amCmp_ne, Nat.reduceLeDiff, Nat.reduceSub, Bool.and_true, Bool.true_and, Bool.and_self, Bool.or_true, Bool.true_or, isRf_3, isRf_4, isRf_5, isRf_8, isRf_9, isRf_10, isRf_11, isRf_15, isRf_16, isRf_17, isRf_18, isRf_19, isRf_20, isRf_21, isRf_22, isRf_23, isRf_24, isRf_25, isRf_26, isRf_27, isRf_28, k_X9_clearFelt_0, k_X9_clearFelt_1, k_X9_clearFelt_2, k_X9_clearFelt_3, k_X9_clearFelt_5, k_X9_clearFelt_8, k_X9_clearFelt_9, k_X9_clearFelt_10, k_X9_clearFelt_11, k_X9_clearFelt_12, k_X9_clearFelt_13, k_X9_clearFelt_16, k_X9_clearFelt_17, k_X9_clearFelt_20, k_X9_clearFelt_21, k_X9_clearFelt_22, k_X9_clearFelt_23, k_X9_clearFelt_24, k_X9_clearFelt_27, k_X9_clearFelt_28, k_X9_clearFelt_29, k_X9_clearFelt_30, k_X9_clearFelt_33, k_X9_clearFelt_36, hbk]
      have b01 := bt_b S k
      by_cases c : bt S k = 1
      · have i9 : ∃ k', k' < n ∧ inv_clr σ S k' 2 [(25, 26), (0, S), (0, (k : Int) + 1)] [] (up (up (clr σ S k) 29 k 0) 30 k (-1)) := ⟨n - 1, by omega, rfl, rfl, k + 1, rfl, by omega, clr_t c⟩
        repeat' (first | assumption | apply And.intro | intro _)
        all_goals first | omega | exact absurd trivial (by assumption) | exact i9
      · have i9 : ∃ k', k' < n ∧ inv_clr σ S k' 2 [(25, 26), (0, S), (0, (k : Int) + 1)] [] (clr σ S k) := ⟨n - 1, by omega, rfl, rfl, k + 1, rfl, by omega, clr_f c⟩
        repeat' (first | assumption | apply And.intro | intro _)
        all_goals first | omega | exact absurd trivial (by assumption) | exact i9
    · have e6 : k = 6 := by omega
      subst e6
      simp only [↓reduceIte, inR_0, inR_1, inR_m, vI_e, vL_e, vNull_e, vIload_e, vLload_e, vAload_e, vIstore_e, vLstore_e, vAstore_e, vIinc_e, vIadd_e, vIsub_e, vImul_e, vIand_e, vIor_e, vIxor_e, vIshl_e, vIshr_e, vIushr_e, vIdiv_e, vIrem_e, vLadd_e, vLsub_e, vLmul_e, vLand_e, vLor_e, vLxor_e, vLdiv_e, vLrem_e, vLushr_e, vLshl_e, vLcmp_e, vIneg_e, vI2l_e, vL2i_e, vI2b_e, vI2c_e, vDup_e, vPop_e, vDup2_e, vGoto_e, vIcEq_e, vIfEq_e, vIcNe_e, vIfNe_e, vIcLt_e, vIfLt_e, vIcGe_e, vIfGe_e, vIcGt_e, vIfGt_e, vIcLe_e, vIfLe_e, vNonnull_e, vSw_e, vGetI_e, vGetL_e, vGetR_e, vPutI_e, vPutZ_e, vPutL_e, vPutR_e, vIald_e, vIald_s, vLald_e, vBald_e, vBald_s, vAald_e, vIast_e, vLast_e, vBast_e, vAast_e, vAlen_e8, vAlen_e9, vAlen_e10, vAlen_e11, vAlen_e5, vAlen_e3, vGets_e, vCompact_e, vLdcS_e, vIret_e, vZret_e, vCret_e, vBret_e, vLret_e, vVret_e, vAret_e, vCallM_e0, vCallMV_e0, vCallS_e0, vCallSV_e0, vCallM_e1, vCallMV_e1, vCallS_e1, vCallSV_e1, vCallM_e2, vCallMV_e2, vCallS_e2, vCallSV_e2, vCallM_e3, vCallMV_e3, vCallS_e3, vCallSV_e3, vCallM_e4, vCallMV_e4, vCallS_e4, vCallSV_e4, vCallM_e5, vCallMV_e5, vCallS_e5, vCallSV_e5, vCallM_e6, vCallMV_e6, vCallS_e6, vCallSV_e6, vCallM_e7, vCallMV_e7, vCallS_e7, vCallSV_e7, vBad_e, vStrVal_e, vStrCod_e, vForm_e, vCallT_e0, vCallT_e1, vCallT_e2, vCopy_e, rf_0_0, rf_0_1, rf_0_2, rf_0_3, rf_0_4, rf_0_7, rf_0_10, rf_0_11, rf_0_12, rf_0_13, rf_0_14, rf_0_15, rf_0_16, rf_1_0, rf_3_0, rf_3_1, rf_6_0, rf_6_1, rf_9_0, rf_9_1, rf_9_3, rf_13_0, rf_13_1, rf_13_2, rf_16_0, rf_16_1, rf_16_2, rf_16_3, rf_21_0, rf_21_1, rf_21_2, rf_21_3, rf_26_0, rf_26_1, rf_26_2, rf_26_3, rf_26_4, rf_26_5, rf_26_6, rf_31_0, rf_31_2, rf_31_5, rf_31_6, rf_36_0, rf_36_1, rf_36_2, rf_36_3, rf_39_0, rf_39_1, rf_39_2, rf_41_0, rf_41_1, rf_41_2, rf_41_3, rf_5000_1, rf_5000_2, rf_5000_3, rf_5000_4, rf_5000_5, rf_5000_15, rf_5000_16, rf_5000_18, rf_5000_19, rf_5000_20, rf_5000_21, rf_5000_22, rf_5000_23, rf_5000_24, rf_5000_25, rf_5000_26, rf_5000_27, rf_5000_36, rf_5000_37, rf_5000_40, rf_5000_41, rf_5000_42, rf_5000_43, rf_5000_44, rf_5000_45, rf_5000_47, rf_5000_52, rf_5000_54, rf_5000_55, rf_100_0, rf_100_1, rf_103_0, rf_103_1, rf_106_0, rf_106_1, rf_109_0, rf_109_1, al_2, al_4, al_5, al_7, al_8, al_10, al_11, al_12, al_14, al_15, al_17, al_18, al_19, al_20, al_22, al_23, al_24, al_25, al_27, al_28, al_29, al_30, al_32, al_33, al_34, al_35, al_37, al_38, al_40, al_42, al_5001, al_5002, al_5003, al_5004, al_5005, al_5006, al_5007, al_5008, al_5009, al_5010, al_5011, al_5012, al_5013, al_5014, al_5015, al_5016, al_5017, al_5018, al_5019, al_5020, al_5021, al_5022, al_5023, al_5024, al_5025, al_5026, al_9000, al_101, al_102, al_104, al_105, al_107, al_108, al_110, al_111, vcs_e, lg_c0, lg_cs, lg_nil, set_c0, set_cs, okst_0, okst_s, acok_n, acok_c, List.contains_nil, List.contains_cons, Bool.or_false, Bool.false_or, Bool.false_eq_true, if_false, if_true, ite_self, ne_eq, true_and, and_true, not_false_eq_true, not_true_eq_false, false_imp_iff, true_imp_iff, Nat.ble_eq, Bool.and_eq_true, reduceCtorEq, or_false, false_or, or_true, true_or, false_and, and_false, and_self, Int.reduceLE, Int.reduceAdd, Int.reduceSub, Int.reduceMul, Int.reduceNeg, Int.reduceLT, Int.reduceEq, Int.reduceNe, Nat.reduceBEq, Nat.reduceBNe, Nat.reduceEqDiff, amCmp_in, amCmp_lt, amCmp_le, amCmp_gt, amCmp_ge, amCmp_eq, amCmp_ne, Nat.reduceLeDiff, Nat.reduceSub, Bool.and_true, Bool.true_and, Bool.and_self, Bool.or_true, Bool.true_or, isRf_3, isRf_4, isRf_5, isRf_8, isRf_9, isRf_10, isRf_11, isRf_15, isRf_16, isRf_17, isRf_18, isRf_19, isRf_20, isRf_21, isRf_22, isRf_23, isRf_24, isRf_25, isRf_26, isRf_27, isRf_28, k_X9_clearFelt_0, k_X9_clearFelt_1, k_X9_clearFelt_2, k_X9_clearFelt_3, k_X9_clearFelt_5, k_X9_clearFelt_8, k_X9_clearFelt_9, k_X9_clearFelt_10, k_X9_clearFelt_11, k_X9_clearFelt_12, k_X9_clearFelt_13, k_X9_clearFelt_16, k_X9_clearFelt_17, k_X9_clearFelt_20, k_X9_clearFelt_21, k_X9_clearFelt_22, k_X9_clearFelt_23, k_X9_clearFelt_24, k_X9_clearFelt_27, k_X9_clearFelt_28, k_X9_clearFelt_29, k_X9_clearFelt_30, k_X9_clearFelt_33, k_X9_clearFelt_36]
      repeat' (first | assumption | apply And.intro | intro _)
      all_goals first | omega | exact absurd trivial (by assumption) | exact h
  · change vcs _ _ _ _ 60 0 [(25, 26), (0, S), (6, 0)] [] σ
    simp only [↓reduceIte, inR_0, inR_1, inR_m, vI_e, vL_e, vNull_e, vIload_e, vLload_e, vAload_e, vIstore_e, vLstore_e, vAstore_e, vIinc_e, vIadd_e, vIsub_e, vImul_e, vIand_e, vIor_e, vIxor_e, vIshl_e, vIshr_e, vIushr_e, vIdiv_e, vIrem_e, vLadd_e, vLsub_e, vLmul_e, vLand_e, vLor_e, vLxor_e, vLdiv_e, vLrem_e, vLushr_e, vLshl_e, vLcmp_e, vIneg_e, vI2l_e, vL2i_e, vI2b_e, vI2c_e, vDup_e, vPop_e, vDup2_e, vGoto_e, vIcEq_e, vIfEq_e, vIcNe_e, vIfNe_e, vIcLt_e, vIfLt_e, vIcGe_e, vIfGe_e, vIcGt_e, vIfGt_e, vIcLe_e, vIfLe_e, vNonnull_e, vSw_e, vGetI_e, vGetL_e, vGetR_e, vPutI_e, vPutZ_e, vPutL_e, vPutR_e, vIald_e, vIald_s, vLald_e, vBald_e, vBald_s, vAald_e, vIast_e, vLast_e, vBast_e, vAast_e, vAlen_e8, vAlen_e9, vAlen_e10, vAlen_e11, vAlen_e5, vAlen_e3, vGets_e, vCompact_e, vLdcS_e, vIret_e, vZret_e, vCret_e, vBret_e, vLret_e, vVret_e, vAret_e, vCallM_e0, vCallMV_e0, vCallS_e0, vCallSV_e0, vCallM_e1, vCallMV_e1, vCallS_e1, vCallSV_e1, vCallM_e2, vCallMV_e2, vCallS_e2, vCallSV_e2, vCallM_e3, vCallMV_e3, vCallS_e3, vCallSV_e3, vCallM_e4, vCallMV_e4, vCallS_e4, vCallSV_e4, vCallM_e5, vCallMV_e5, vCallS_e5, vCallSV_e5, vCallM_e6, vCallMV_e6, vCallS_e6, vCallSV_e6, vCallM_e7, vCallMV_e7, vCallS_e7, vCallSV_e7, vBad_e, vStrVal_e, vStrCod_e, vForm_e, vCallT_e0, vCallT_e1, vCallT_e2, vCopy_e, rf_0_0, rf_0_1, rf_0_2, rf_0_3, rf_0_4, rf_0_7, rf_0_10, rf_0_11, rf_0_12, rf_0_13, rf_0_14, rf_0_15, rf_0_16, rf_1_0, rf_3_0, rf_3_1, rf_6_0, rf_6_1, rf_9_0, rf_9_1, rf_9_3, rf_13_0, rf_13_1, rf_13_2, rf_16_0, rf_16_1, rf_16_2, rf_16_3, rf_21_0, rf_21_1, rf_21_2, rf_21_3, rf_26_0, rf_26_1, rf_26_2, rf_26_3, rf_26_4, rf_26_5, rf_26_6, rf_31_0, rf_31_2, rf_31_5, rf_31_6, rf_36_0, rf_36_1, rf_36_2, rf_36_3, rf_39_0, rf_39_1, rf_39_2, rf_41_0, rf_41_1, rf_41_2, rf_41_3, rf_5000_1, rf_5000_2, rf_5000_3, rf_5000_4, rf_5000_5, rf_5000_15, rf_5000_16, rf_5000_18, rf_5000_19, rf_5000_20, rf_5000_21, rf_5000_22, rf_5000_23, rf_5000_24, rf_5000_25, rf_5000_26, rf_5000_27, rf_5000_36, rf_5000_37, rf_5000_40, rf_5000_41, rf_5000_42, rf_5000_43, rf_5000_44, rf_5000_45, rf_5000_47, rf_5000_52, rf_5000_54, rf_5000_55, rf_100_0, rf_100_1, rf_103_0, rf_103_1, rf_106_0, rf_106_1, rf_109_0, rf_109_1, al_2, al_4, al_5, al_7, al_8, al_10, al_11, al_12, al_14, al_15, al_17, al_18, al_19, al_20, al_22, al_23, al_24, al_25, al_27, al_28, al_29, al_30, al_32, al_33, al_34, al_35, al_37, al_38, al_40, al_42, al_5001, al_5002, al_5003, al_5004, al_5005, al_5006, al_5007, al_5008, al_5009, al_5010, al_5011, al_5012, al_5013, al_5014, al_5015, al_5016, al_5017, al_5018, al_5019, al_5020, al_5021, al_5022, al_5023, al_5024, al_5025, al_5026, al_9000, al_101, al_102, al_104, al_105, al_107, al_108, al_110, al_111, vcs_e, lg_c0, lg_cs, lg_nil, set_c0, set_cs, okst_0, okst_s, acok_n, acok_c, List.contains_nil, List.contains_cons, Bool.or_false, Bool.false_or, Bool.false_eq_true, if_false, if_true, ite_self, ne_eq, true_and, and_true, not_false_eq_true, not_true_eq_false, false_imp_iff, true_imp_iff, Nat.ble_eq, Bool.and_eq_true, reduceCtorEq, or_false, false_or, or_true, true_or, false_and, and_false, and_self, Int.reduceLE, Int.reduceAdd, Int.reduceSub, Int.reduceMul, Int.reduceNeg, Int.reduceLT, Int.reduceEq, Int.reduceNe, Nat.reduceBEq, Nat.reduceBNe, Nat.reduceEqDiff, amCmp_in, amCmp_lt, amCmp_le, amCmp_gt, amCmp_ge, amCmp_eq, amCmp_ne, Nat.reduceLeDiff, Nat.reduceSub, Bool.and_true, Bool.true_and, Bool.and_self, Bool.or_true, Bool.true_or, isRf_3, isRf_4, isRf_5, isRf_8, isRf_9, isRf_10, isRf_11, isRf_15, isRf_16, isRf_17, isRf_18, isRf_19, isRf_20, isRf_21, isRf_22, isRf_23, isRf_24, isRf_25, isRf_26, isRf_27, isRf_28, k_X9_clearFelt_0, k_X9_clearFelt_1, k_X9_clearFelt_2, k_X9_clearFelt_3, k_X9_clearFelt_5, k_X9_clearFelt_8, k_X9_clearFelt_9, k_X9_clearFelt_10, k_X9_clearFelt_11, k_X9_clearFelt_12, k_X9_clearFelt_13, k_X9_clearFelt_16, k_X9_clearFelt_17, k_X9_clearFelt_20, k_X9_clearFelt_21, k_X9_clearFelt_22, k_X9_clearFelt_23, k_X9_clearFelt_24, k_X9_clearFelt_27, k_X9_clearFelt_28, k_X9_clearFelt_29, k_X9_clearFelt_30, k_X9_clearFelt_33, k_X9_clearFelt_36]
    exact ⟨6, rfl, rfl, 0, rfl, rfl, (clr_0 σ S).symm⟩
theorem wd_793 : Cond.methodLink RX9 89 yX9_clearFelt ∈ TBL := tb_tab (List.mem_of_getElem? (i := 793) (by decide +kernel)) rfl
theorem wd_796 : Cond.code yX9_clearFelt cX9_clearFelt 3 (none) ∈ TBL := tb_tab (List.mem_of_getElem? (i := 796) (by decide +kernel)) rfl
theorem lk_X9_89 : amLk RX9 89 yX9_clearFelt cX9_clearFelt 3 (none) 1 := ⟨wd_793, wd_7, wd_796, by decide +kernel, by decide +kernel, by decide⟩
theorem wd_795 : Cond.instanceMethod yX9_clearFelt ∈ TBL := tb_tab (List.mem_of_getElem? (i := 795) (by decide +kernel)) rfl
theorem sl_X9_clearFelt : Cond.selects RX9 yX9_clearFelt yX9_clearFelt ∈ TBL := tb_sel (List.mem_of_getElem? (i := 23) (by decide +kernel)) rfl
theorem wd_797 : Cond.methodLink RX9 93 yX6_leads ∈ TBL := tb_tab (List.mem_of_getElem? (i := 797) (by decide +kernel)) rfl
theorem wd_723 : Cond.code yX6_leads cX6_leads 1 (some .int) ∈ TBL := tb_tab (List.mem_of_getElem? (i := 723) (by decide +kernel)) rfl
theorem lk_X9_93 : amLk RX9 93 yX6_leads cX6_leads 1 (some .int) 0 := ⟨wd_797, wd_3, wd_723, by decide +kernel, by decide +kernel, by decide⟩
theorem wd_721 : Cond.instanceMethod yX6_leads ∈ TBL := tb_tab (List.mem_of_getElem? (i := 721) (by decide +kernel)) rfl
theorem wd_722 : Cond.selects RX6 yX6_leads yX6_leads ∈ TBL := tb_tab (List.mem_of_getElem? (i := 722) (by decide +kernel)) rfl
theorem wd_798 : Cond.methodLink RX9 97 yX6_minutes ∈ TBL := tb_tab (List.mem_of_getElem? (i := 798) (by decide +kernel)) rfl
theorem lk_X9_97 : amLk RX9 97 yX6_minutes cX6_minutes 2 (some .int) 1 := ⟨wd_798, wd_3, wd_801, by decide +kernel, by decide +kernel, by decide⟩
theorem wd_802 : Cond.methodLink RX9 101 yJ6_bitCount_0f7a4 ∈ TBL := tb_tab (List.mem_of_getElem? (i := 802) (by decide +kernel)) rfl
theorem wd_26 : Cond.initialized RJ6 ∈ TBL := tb_tab (List.mem_of_getElem? (i := 26) (by decide +kernel)) rfl
theorem wd_804 : Cond.code yJ6_bitCount_0f7a4 cJ6_bitCount_0f7a4 1 (some .int) ∈ TBL := tb_tab (List.mem_of_getElem? (i := 804) (by decide +kernel)) rfl
theorem lk_X9_101 : amLk RX9 101 yJ6_bitCount_0f7a4 cJ6_bitCount_0f7a4 1 (some .int) 1 := ⟨wd_802, wd_26, wd_804, by decide +kernel, by decide +kernel, by decide⟩
theorem wd_803 : Cond.static yJ6_bitCount_0f7a4 ∈ TBL := tb_tab (List.mem_of_getElem? (i := 803) (by decide +kernel)) rfl
theorem wd_808 : Cond.methodLink RX9 106 yX9_movedByTable ∈ TBL := tb_tab (List.mem_of_getElem? (i := 808) (by decide +kernel)) rfl
theorem wd_811 : Cond.code yX9_movedByTable cX9_movedByTable 5 (some .int) ∈ TBL := tb_tab (List.mem_of_getElem? (i := 811) (by decide +kernel)) rfl
theorem lk_X9_106 : amLk RX9 106 yX9_movedByTable cX9_movedByTable 5 (some .int) 3 := ⟨wd_808, wd_7, wd_811, by decide +kernel, by decide +kernel, by decide⟩
theorem wd_810 : Cond.instanceMethod yX9_movedByTable ∈ TBL := tb_tab (List.mem_of_getElem? (i := 810) (by decide +kernel)) rfl
theorem sl_X9_movedByTable : Cond.selects RX9 yX9_movedByTable yX9_movedByTable ∈ TBL := tb_sel (List.mem_of_getElem? (i := 24) (by decide +kernel)) rfl
def a_X9_playGroup : AC := [(0, vAload 0 1), (1, vIload 1 2), (2, vCallMV w_X9_clearFelt 25 1 5), (5, vAload 0 6), (6, vGetR TT 25 0 22 9), (9, vCallM w_X6_leads 22 0 12), (12, vIstore 2 13), (13, vAload 0 14), (14, vGetR TT 25 0 22 17), (17, vAload 0 18), (18, vGetI 25 7 21), (21, vCallM w_X6_minutes 22 1 24), (24, vIstore 3 25), (25, vIload 1 26), (26, vIstore 4 28), (28, vI 0 29), (29, vIstore 5 31), (31, vIload 5 33), (33, vIload 3 34), (34, vIcGe 135 37), (37, vIload 4 39), (39, vIfEq 135 42), (42, vIload 4 44), (44, vIstore 6 46), (46, vIload 6 48), (48, vCallS w_J6_bitCount_0f7a4 1 51), (51, vIstore 7 53), (53, vI 0 54), (54, vIstore 8 56), (56, vIload 8 58), (58, vI 6 60), (60, vIcGe 129 63), (63, vIload 6 65), (65, vIload 8 67), (67, vIshr 68), (68, vI 1 69), (69, vIand 70), (70, vIfEq 123 73), (73, vAload 0 74), (74, vIload 8 76), (76, vIload 5 78), (78, vIload 7 80), (80, vCallM w_X9_movedByTable 25 3 83), (83, vIstore 9 85), (85, vAload 0 86), (86, vGetR TT 25 4 8 89), (89, vIload 8 91), (91, vDup2 92), (92, vIald TT 93), (93, vIload 9 95), (95, vIadd 96), (96, vIast TT 97), (97, vIload 9 99), (99, vIload 2 100), (100, vIcLt 123 103), (103, vAload 0 104), (104, vGetR TT 25 5 8 107), (107, vIload 8 109), (109, vIload 5 111), (111, vIast TT 112), (112, vIload 4 114), (114, vI 1 115), (115, vIload 8 117), (117, vIshl 118), (118, vI (-1) 119), (119, vIxor 120), (120, vIand 121), (121, vIstore 4 123), (123, vIinc 8 1 126), (126, vGoto 56), (129, vIinc 5 1 132), (132, vGoto 31), (135, vVret)]
theorem k_X9_playGroup_0 : look a_X9_playGroup 0 = vAload 0 1 := rfl
theorem k_X9_playGroup_1 : look a_X9_playGroup 1 = vIload 1 2 := rfl
theorem k_X9_playGroup_2 : look a_X9_playGroup 2 = vCallMV w_X9_clearFelt 25 1 5 := rfl
theorem k_X9_playGroup_5 : look a_X9_playGroup 5 = vAload 0 6 := rfl
theorem k_X9_playGroup_6 : look a_X9_playGroup 6 = vGetR TT 25 0 22 9 := rfl
theorem k_X9_playGroup_9 : look a_X9_playGroup 9 = vCallM w_X6_leads 22 0 12 := rfl
theorem k_X9_playGroup_12 : look a_X9_playGroup 12 = vIstore 2 13 := rfl
theorem k_X9_playGroup_13 : look a_X9_playGroup 13 = vAload 0 14 := rfl
theorem k_X9_playGroup_14 : look a_X9_playGroup 14 = vGetR TT 25 0 22 17 := rfl
theorem k_X9_playGroup_17 : look a_X9_playGroup 17 = vAload 0 18 := rfl
theorem k_X9_playGroup_18 : look a_X9_playGroup 18 = vGetI 25 7 21 := rfl
theorem k_X9_playGroup_21 : look a_X9_playGroup 21 = vCallM w_X6_minutes 22 1 24 := rfl
theorem k_X9_playGroup_24 : look a_X9_playGroup 24 = vIstore 3 25 := rfl
theorem k_X9_playGroup_25 : look a_X9_playGroup 25 = vIload 1 26 := rfl
theorem k_X9_playGroup_26 : look a_X9_playGroup 26 = vIstore 4 28 := rfl
theorem k_X9_playGroup_28 : look a_X9_playGroup 28 = vI 0 29 := rfl
theorem k_X9_playGroup_29 : look a_X9_playGroup 29 = vIstore 5 31 := rfl
theorem k_X9_playGroup_31 : look a_X9_playGroup 31 = vIload 5 33 := rfl
theorem k_X9_playGroup_33 : look a_X9_playGroup 33 = vIload 3 34 := rfl
theorem k_X9_playGroup_34 : look a_X9_playGroup 34 = vIcGe 135 37 := rfl
theorem k_X9_playGroup_37 : look a_X9_playGroup 37 = vIload 4 39 := rfl
theorem k_X9_playGroup_39 : look a_X9_playGroup 39 = vIfEq 135 42 := rfl
theorem k_X9_playGroup_42 : look a_X9_playGroup 42 = vIload 4 44 := rfl
theorem k_X9_playGroup_44 : look a_X9_playGroup 44 = vIstore 6 46 := rfl
theorem k_X9_playGroup_46 : look a_X9_playGroup 46 = vIload 6 48 := rfl
theorem k_X9_playGroup_48 : look a_X9_playGroup 48 = vCallS w_J6_bitCount_0f7a4 1 51 := rfl
theorem k_X9_playGroup_51 : look a_X9_playGroup 51 = vIstore 7 53 := rfl
theorem k_X9_playGroup_53 : look a_X9_playGroup 53 = vI 0 54 := rfl
theorem k_X9_playGroup_54 : look a_X9_playGroup 54 = vIstore 8 56 := rfl
theorem k_X9_playGroup_56 : look a_X9_playGroup 56 = vIload 8 58 := rfl
theorem k_X9_playGroup_58 : look a_X9_playGroup 58 = vI 6 60 := rfl
theorem k_X9_playGroup_60 : look a_X9_playGroup 60 = vIcGe 129 63 := rfl
theorem k_X9_playGroup_63 : look a_X9_playGroup 63 = vIload 6 65 := rfl
theorem k_X9_playGroup_65 : look a_X9_playGroup 65 = vIload 8 67 := rfl
theorem k_X9_playGroup_67 : look a_X9_playGroup 67 = vIshr 68 := rfl
theorem k_X9_playGroup_68 : look a_X9_playGroup 68 = vI 1 69 := rfl
theorem k_X9_playGroup_69 : look a_X9_playGroup 69 = vIand 70 := rfl
theorem k_X9_playGroup_70 : look a_X9_playGroup 70 = vIfEq 123 73 := rfl
theorem k_X9_playGroup_73 : look a_X9_playGroup 73 = vAload 0 74 := rfl
theorem k_X9_playGroup_74 : look a_X9_playGroup 74 = vIload 8 76 := rfl
theorem k_X9_playGroup_76 : look a_X9_playGroup 76 = vIload 5 78 := rfl
theorem k_X9_playGroup_78 : look a_X9_playGroup 78 = vIload 7 80 := rfl
theorem k_X9_playGroup_80 : look a_X9_playGroup 80 = vCallM w_X9_movedByTable 25 3 83 := rfl
theorem k_X9_playGroup_83 : look a_X9_playGroup 83 = vIstore 9 85 := rfl
theorem k_X9_playGroup_85 : look a_X9_playGroup 85 = vAload 0 86 := rfl
theorem k_X9_playGroup_86 : look a_X9_playGroup 86 = vGetR TT 25 4 8 89 := rfl
theorem k_X9_playGroup_89 : look a_X9_playGroup 89 = vIload 8 91 := rfl
theorem k_X9_playGroup_91 : look a_X9_playGroup 91 = vDup2 92 := rfl
theorem k_X9_playGroup_92 : look a_X9_playGroup 92 = vIald TT 93 := rfl
theorem k_X9_playGroup_93 : look a_X9_playGroup 93 = vIload 9 95 := rfl
theorem k_X9_playGroup_95 : look a_X9_playGroup 95 = vIadd 96 := rfl
theorem k_X9_playGroup_96 : look a_X9_playGroup 96 = vIast TT 97 := rfl
theorem k_X9_playGroup_97 : look a_X9_playGroup 97 = vIload 9 99 := rfl
theorem k_X9_playGroup_99 : look a_X9_playGroup 99 = vIload 2 100 := rfl
theorem k_X9_playGroup_100 : look a_X9_playGroup 100 = vIcLt 123 103 := rfl
theorem k_X9_playGroup_103 : look a_X9_playGroup 103 = vAload 0 104 := rfl
theorem k_X9_playGroup_104 : look a_X9_playGroup 104 = vGetR TT 25 5 8 107 := rfl
theorem k_X9_playGroup_107 : look a_X9_playGroup 107 = vIload 8 109 := rfl
theorem k_X9_playGroup_109 : look a_X9_playGroup 109 = vIload 5 111 := rfl
theorem k_X9_playGroup_111 : look a_X9_playGroup 111 = vIast TT 112 := rfl
theorem k_X9_playGroup_112 : look a_X9_playGroup 112 = vIload 4 114 := rfl
theorem k_X9_playGroup_114 : look a_X9_playGroup 114 = vI 1 115 := rfl
theorem k_X9_playGroup_115 : look a_X9_playGroup 115 = vIload 8 117 := rfl
theorem k_X9_playGroup_117 : look a_X9_playGroup 117 = vIshl 118 := rfl
theorem k_X9_playGroup_118 : look a_X9_playGroup 118 = vI (-1) 119 := rfl
theorem k_X9_playGroup_119 : look a_X9_playGroup 119 = vIxor 120 := rfl
theorem k_X9_playGroup_120 : look a_X9_playGroup 120 = vIand 121 := rfl
theorem k_X9_playGroup_121 : look a_X9_playGroup 121 = vIstore 4 123 := rfl
theorem k_X9_playGroup_123 : look a_X9_playGroup 123 = vIinc 8 1 126 := rfl
theorem k_X9_playGroup_126 : look a_X9_playGroup 126 = vGoto 56 := rfl
theorem k_X9_playGroup_129 : look a_X9_playGroup 129 = vIinc 5 1 132 := rfl
theorem k_X9_playGroup_132 : look a_X9_playGroup 132 = vGoto 31 := rfl
theorem k_X9_playGroup_135 : look a_X9_playGroup 135 = vVret := rfl
theorem o_X9_playGroup {X : amX} (e1 : XT X = TT) (e2 : XD X = 4) (hB : amB X RX9 cX9_playGroup (none) 10) : ∀ pc, amOK X pc (look a_X9_playGroup pc) := by
  have hT : amTok (XT X) := e1 ▸ TT_ok
  refine look_ok ?_
  unfold a_X9_playGroup
  refine fc (ok_aload_n hB dX9_playGroup_0) ?_
  refine fc (ok_iload_n hB dX9_playGroup_1) ?_
  refine fc (ok_callMV hB hT (e1 ▸ s_X9_clearFelt) lk_X9_89 (by rw [e2]; decide) (c := 9) rfl rfl rfl wd_795 sl_X9_clearFelt dX9_playGroup_2) ?_
  refine fc (ok_aload_n hB dX9_playGroup_5) ?_
  refine fc (okt_getR e1 hB hT fl_X9_35 rfl af_9_0 at_9_0 (by decide) dX9_playGroup_6) ?_
  refine fc (ok_callM hB hT (e1 ▸ s_X6_leads) lk_X9_93 (by rw [e2]; decide) (c := 6) rfl rfl rfl wd_721 wd_722 dX9_playGroup_9) ?_
  refine fc (ok_istore_n hB (by decide) dX9_playGroup_12) ?_
  refine fc (ok_aload_n hB dX9_playGroup_13) ?_
  refine fc (okt_getR e1 hB hT fl_X9_35 rfl af_9_0 at_9_0 (by decide) dX9_playGroup_14) ?_
  refine fc (ok_aload_n hB dX9_playGroup_17) ?_
  refine fc (ok_getI hB hT fl_X9_28 rfl rfl (Or.inl af_9_7) dX9_playGroup_18) ?_
  refine fc (ok_callM hB hT (e1 ▸ s_X6_minutes) lk_X9_97 (by rw [e2]; decide) (c := 6) rfl rfl rfl wd_799 wd_800 dX9_playGroup_21) ?_
  refine fc (ok_istore_n hB (by decide) dX9_playGroup_24) ?_
  refine fc (ok_iload_n hB dX9_playGroup_25) ?_
  refine fc (ok_istore hB (by decide) dX9_playGroup_26) ?_
  refine fc (ok_iconst hB dX9_playGroup_28) ?_
  refine fc (ok_istore hB (by decide) dX9_playGroup_29) ?_
  refine fc (ok_iload hB dX9_playGroup_31) ?_
  refine fc (ok_iload_n hB dX9_playGroup_33) ?_
  refine fc (ok_icmp_ge hB (t := 135) (by decide) dX9_playGroup_34) ?_
  refine fc (ok_iload hB dX9_playGroup_37) ?_
  refine fc (ok_if_eq hB (t := 135) (by decide) dX9_playGroup_39) ?_
  refine fc (ok_iload hB dX9_playGroup_42) ?_
  refine fc (ok_istore hB (by decide) dX9_playGroup_44) ?_
  refine fc (ok_iload hB dX9_playGroup_46) ?_
  refine fc (ok_callS hB (e1 ▸ s_J6_bitCount_0f7a4) lk_X9_101 (by rw [e2]; decide) wd_803 dX9_playGroup_48) ?_
  refine fc (ok_istore hB (by decide) dX9_playGroup_51) ?_
  refine fc (ok_iconst hB dX9_playGroup_53) ?_
  refine fc (ok_istore hB (by decide) dX9_playGroup_54) ?_
  refine fc (ok_iload hB dX9_playGroup_56) ?_
  refine fc (ok_bipush hB dX9_playGroup_58 (by decide)) ?_
  refine fc (ok_icmp_ge hB (t := 129) (by decide) dX9_playGroup_60) ?_
  refine fc (ok_iload hB dX9_playGroup_63) ?_
  refine fc (ok_iload hB dX9_playGroup_65) ?_
  refine fc (ok_ishr hB dX9_playGroup_67) ?_
  refine fc (ok_iconst hB dX9_playGroup_68) ?_
  refine fc (ok_iand hB dX9_playGroup_69) ?_
  refine fc (ok_if_eq hB (t := 123) (by decide) dX9_playGroup_70) ?_
  refine fc (ok_aload_n hB dX9_playGroup_73) ?_
  refine fc (ok_iload hB dX9_playGroup_74) ?_
  refine fc (ok_iload hB dX9_playGroup_76) ?_
  refine fc (ok_iload hB dX9_playGroup_78) ?_
  refine fc (ok_callM hB hT (e1 ▸ s_X9_movedByTable) lk_X9_106 (by rw [e2]; decide) (c := 9) rfl rfl rfl wd_810 sl_X9_movedByTable dX9_playGroup_80) ?_
  refine fc (ok_istore hB (by decide) dX9_playGroup_83) ?_
  refine fc (ok_aload_n hB dX9_playGroup_85) ?_
  refine fc (okt_getR e1 hB hT fl_X9_22 rfl af_9_4 at_9_4 (by decide) dX9_playGroup_86) ?_
  refine fc (ok_iload hB dX9_playGroup_89) ?_
  refine fc (ok_dup2 hB dX9_playGroup_91) ?_
  refine fc (okt_iaload e1 hB dX9_playGroup_92) ?_
  refine fc (ok_iload hB dX9_playGroup_93) ?_
  refine fc (ok_iadd hB dX9_playGroup_95) ?_
  refine fc (okt_iastore e1 hB dX9_playGroup_96) ?_
  refine fc (ok_iload hB dX9_playGroup_97) ?_
  refine fc (ok_iload_n hB dX9_playGroup_99) ?_
  refine fc (ok_icmp_lt hB (t := 123) (by decide) dX9_playGroup_100) ?_
  refine fc (ok_aload_n hB dX9_playGroup_103) ?_
  refine fc (okt_getR e1 hB hT fl_X9_25 rfl af_9_5 at_9_5 (by decide) dX9_playGroup_104) ?_
  refine fc (ok_iload hB dX9_playGroup_107) ?_
  refine fc (ok_iload hB dX9_playGroup_109) ?_
  refine fc (okt_iastore e1 hB dX9_playGroup_111) ?_
  refine fc (ok_iload hB dX9_playGroup_112) ?_
  refine fc (ok_iconst hB dX9_playGroup_114) ?_
  refine fc (ok_iload hB dX9_playGroup_115) ?_
  refine fc (ok_ishl hB dX9_playGroup_117) ?_
  refine fc (ok_iconst hB dX9_playGroup_118) ?_
  refine fc (ok_ixor hB dX9_playGroup_119) ?_
  refine fc (ok_iand hB dX9_playGroup_120) ?_
  refine fc (ok_istore hB (by decide) dX9_playGroup_121) ?_
  refine fc (ok_iinc hB (by decide) dX9_playGroup_123) ?_
  refine fc (ok_goto hB (t := 56) (by decide) dX9_playGroup_126) ?_
  refine fc (ok_iinc hB (by decide) dX9_playGroup_129) ?_
  refine fc (ok_goto hB (t := 31) (by decide) dX9_playGroup_132) ?_
  refine fc (ok_vret hB dX9_playGroup_135) ?_
  exact fn
def inv_pg (m σ0 : Mem) (a t p S L M : Int) (n pc : Nat) (ls st : List AV) (σ' : Mem) : Prop := st = [] ∧ ∃ (k : Nat) (v6 v7 v8 v9 : AV), (k : Int) ≤ M ∧ SO m σ' a t p ∧
  ((pc = 31 ∧ (n : Int) = (M - k) * 8 ∧ ls = [(25, 26), (0, S), (0, L), (0, M), (0, stM (gmv m a t p) L S k), (0, (k : Int)), v6, v7, v8, v9] ∧ (∀ i, 0 ≤ i → i < 6 → σ' 29 i = if bt S i = 1 then flM (gmv m a t p) L S k i else σ0 29 i) ∧ (∀ i, 0 ≤ i → i < 6 → σ' 30 i = if bt S i = 1 then oaM (gmv m a t p) L S k i else σ0 30 i)) ∨
   (pc = 56 ∧ (k : Int) < M ∧ stM (gmv m a t p) L S k ≠ 0 ∧ ∃ j : Nat, j ≤ 6 ∧ (n : Int) = (M - k) * 8 - 1 - j ∧ ls = [(25, 26), (0, S), (0, L), (0, M), (0, stI (fun i => gmv m a t p i (popc (stM (gmv m a t p) L S k)) k) L (stM (gmv m a t p) L S k) j), (0, (k : Int)), (0, stM (gmv m a t p) L S k), (0, popc (stM (gmv m a t p) L S k)), (0, (j : Int)), v9] ∧ (∀ i, 0 ≤ i → i < 6 → σ' 29 i = if bt S i = 1 then (if i < j then flM (gmv m a t p) L S (k + 1) i else flM (gmv m a t p) L S k i) else σ0 29 i) ∧ (∀ i, 0 ≤ i → i < 6 → σ' 30 i = if bt S i = 1 then (if i < j then oaM (gmv m a t p) L S (k + 1) i else oaM (gmv m a t p) L S k i) else σ0 30 i)))
def w_X9_playGroup : WP := fun av σ Q => ∃ (S : Int), av = [(25, 26), (0, S)] ∧ (∃ (m : Mem) (a t p : Int), stOk m a ∧ SO m σ a t p ∧ InR t ∧ InR p ∧ pval m 6 1 p 3 ≤ 9 ∧ 0 ≤ S ∧ S < 64 ∧ (∀ τ, SO m τ a t p → (∀ i, 0 ≤ i → i < 6 → τ 29 i = if bt S i = 1 then flM (gmv m a t p) (pval m 6 0 0 0) S (pval m 6 1 p 3).toNat i else σ 29 i) → (∀ i, 0 ≤ i → i < 6 → τ 30 i = if bt S i = 1 then oaM (gmv m a t p) (pval m 6 0 0 0) S (pval m 6 1 p 3).toNat i else σ 30 i) → Q (6, 0) τ))
theorem w_X9_playGroup_e (S : Int) (σ : Mem) (Q : AV → Mem → Prop) : w_X9_playGroup [(25, 26), (0, S)] σ Q = (∃ (m : Mem) (a t p : Int), stOk m a ∧ SO m σ a t p ∧ InR t ∧ InR p ∧ pval m 6 1 p 3 ≤ 9 ∧ 0 ≤ S ∧ S < 64 ∧ (∀ τ, SO m τ a t p → (∀ i, 0 ≤ i → i < 6 → τ 29 i = if bt S i = 1 then flM (gmv m a t p) (pval m 6 0 0 0) S (pval m 6 1 p 3).toNat i else σ 29 i) → (∀ i, 0 ≤ i → i < 6 → τ 30 i = if bt S i = 1 then oaM (gmv m a t p) (pval m 6 0 0 0) S (pval m 6 1 p 3).toNat i else σ 30 i) → Q (6, 0) τ)) := by
  apply propext; constructor
  · rintro ⟨S', h9, hb9⟩; cases h9; exact hb9
  · intro hb9; exact ⟨S, rfl, hb9⟩

set_option maxRecDepth 100000 in
set_option maxHeartbeats 4000000 in
theorem s_X9_playGroup : ∀ av σ Q, w_X9_playGroup av σ Q → amCall 4 0 0 TT yX9_playGroup cX9_playGroup 10 (none) av σ Q := by
  rintro av σ Q ⟨S, rfl, m, a, t, p, hst, hS, ht, hp, hM9, hS0, hS1, h⟩
  have hB := hst.2.1
  have hL := pval_b hB 0 0 0
  have hM := pval_b hB 1 p 3
  generalize hLe : pval m 6 0 0 0 = L at *
  generalize hMe : pval m 6 1 p 3 = M at *
  have hcl : SO m (clr σ S 6) a t p := by
    obtain ⟨⟨q1, q2⟩, q3, q4, q5, q6⟩ := hS
    have e : ∀ b, b ≠ 29 → b ≠ 30 → clr σ S 6 b = σ b := fun b h1 h2 => by funext j; unfold clr; rw [if_neg (by omega)]
    refine ⟨⟨fun b h1 h2 h3 h4 h5 h6 h7 h8 h9 => by rw [e b h4 h5]; exact q1 b h1 h2 h3 h4 h5 h6 h7 h8 h9, ?_⟩, ?_, ?_, ?_, ?_⟩
    · rw [e 26 (by decide) (by decide)]; exact q2
    · rw [e 26 (by decide) (by decide)]; exact q3
    · rw [e 26 (by decide) (by decide)]; exact q4
    · rw [e 26 (by decide) (by decide)]; exact q5
    · unfold tblOk; rw [e 28 (by decide) (by decide)]; exact q6
  refine am_m [31, 56] (inv_pg m σ a t p S L M) (own := RX9) (A := look a_X9_playGroup) (fun X e1 e2 hB => o_X9_playGroup e1 e2 hB) rfl (by decide +kernel) rfl rfl ?_ ⟨90, ?_⟩ (w := 10)
  · rintro n pc ls st σ' ⟨rfl, k, v6, v7, v8, v9, hk, hSO, ⟨rfl, hn, rfl, hf, ho⟩ | ⟨rfl, hkM, hnz, j, hj, hn, rfl, hf, ho⟩⟩
    · have sb := stM_b (gmv m a t p) L hS0 hS1 k
      refine ⟨60, ?_⟩
      simp only [↓reduceIte, inR_0, inR_1, inR_m, vSw2_e, swP_n, swP_c, vI_e, vL_e, vNull_e, vIload_e, vLload_e, vAload_e, vIstore_e, vLstore_e, vAstore_e, vIinc_e, vIadd_e, vIsub_e, vImul_e, vIand_e, vIor_e, vIxor_e, vIshl_e, vIshr_e, vIushr_e, vIdiv_e, vIrem_e, vLadd_e, vLsub_e, vLmul_e, vLand_e, vLor_e, vLxor_e, vLdiv_e, vLrem_e, vLushr_e, vLshl_e, vLcmp_e, vIneg_e, vI2l_e, vL2i_e, vI2b_e, vI2c_e, vDup_e, vPop_e, vDup2_e, vGoto_e, vIcEq_e, vIfEq_e, vIcNe_e, vIfNe_e, vIcLt_e, vIfLt_e, vIcGe_e, vIfGe_e, vIcGt_e, vIfGt_e, vIcLe_e, vIfLe_e, vNonnull_e, vSw_e, vGetI_e, vGetL_e, vGetR_e, vPutI_e, vPutZ_e, vPutL_e, vPutR_e, vIald_e, vIald_s, vLald_e, vBald_e, vBald_s, vAald_e, vIast_e, vLast_e, vBast_e, vAast_e, vAlen_e8, vAlen_e9, vAlen_e10, vAlen_e11, vAlen_e5, vAlen_e3, vGets_e, vCompact_e, vLdcS_e, vIret_e, vZret_e, vCret_e, vBret_e, vLret_e, vVret_e, vAret_e, vCallM_e0, vCallMV_e0, vCallS_e0, vCallSV_e0, vCallM_e1, vCallMV_e1, vCallS_e1, vCallSV_e1, vCallM_e2, vCallMV_e2, vCallS_e2, vCallSV_e2, vCallM_e3, vCallMV_e3, vCallS_e3, vCallSV_e3, vCallM_e4, vCallMV_e4, vCallS_e4, vCallSV_e4, vCallM_e5, vCallMV_e5, vCallS_e5, vCallSV_e5, vCallM_e6, vCallMV_e6, vCallS_e6, vCallSV_e6, vCallM_e7, vCallMV_e7, vCallS_e7, vCallSV_e7, vBad_e, vStrVal_e, vStrCod_e, vForm_e, vCallT_e0, vCallT_e1, vCallT_e2, vCopy_e, rf_0_0, rf_0_1, rf_0_2, rf_0_3, rf_0_4, rf_0_7, rf_0_10, rf_0_11, rf_0_12, rf_0_13, rf_0_14, rf_0_15, rf_0_16, rf_1_0, rf_3_0, rf_3_1, rf_6_0, rf_6_1, rf_9_0, rf_9_1, rf_9_3, rf_13_0, rf_13_1, rf_13_2, rf_16_0, rf_16_1, rf_16_2, rf_16_3, rf_21_0, rf_21_1, rf_21_2, rf_21_3, rf_26_0, rf_26_1, rf_26_2, rf_26_3, rf_26_4, rf_26_5, rf_26_6, rf_31_0, rf_31_2, rf_31_5, rf_31_6, rf_36_0, rf_36_1, rf_36_2, rf_36_3, rf_39_0, rf_39_1, rf_39_2, rf_41_0, rf_41_1, rf_41_2, rf_41_3, rf_5000_1, rf_5000_2, rf_5000_3, rf_5000_4, rf_5000_5, rf_5000_15, rf_5000_16, rf_5000_18, rf_5000_19, rf_5000_20, rf_5000_21, rf_5000_22, rf_5000_23, rf_5000_24, rf_5000_25, rf_5000_26, rf_5000_27, rf_5000_36, rf_5000_37, rf_5000_40, rf_5000_41, rf_5000_42, rf_5000_43, rf_5000_44, rf_5000_45, rf_5000_47, rf_5000_52, rf_5000_54, rf_5000_55, rf_100_0, rf_100_1, rf_103_0, rf_103_1, rf_106_0, rf_106_1, rf_109_0, rf_109_1, al_2, al_4, al_5, al_7, al_8, al_10, al_11, al_12, al_14, al_15, al_17, al_18, al_19, al_20, al_22, al_23, al_24, al_25, al_27, al_28, al_29, al_30, al_32, al_33, al_34, al_35, al_37, al_38, al_40, al_42, al_5001, al_5002, al_5003, al_5004, al_5005, al_5006, al_5007, al_5008, al_5009, al_5010, al_5011, al_5012, al_5013, al_5014, al_5015, al_5016, al_5017, al_5018, al_5019, al_5020, al_5021, al_5022, al_5023, al_5024, al_5025, al_5026, al_9000, al_101, al_102, al_104, al_105, al_107, al_108, al_110, al_111, vcs_e, lg_c0, lg_cs, lg_nil, set_c0, set_cs, okst_0, okst_s, acok_n, acok_c, List.contains_nil, List.contains_cons, Bool.or_false, Bool.false_or, Bool.false_eq_true, if_false, if_true, ite_self, ne_eq, true_and, and_true, not_false_eq_true, not_true_eq_false, false_imp_iff, true_imp_iff, Nat.ble_eq, Bool.and_eq_true, reduceCtorEq, or_false, false_or, or_true, true_or, false_and, and_false, and_self, Int.reduceLE, Int.reduceAdd, Int.reduceSub, Int.reduceMul, Int.reduceNeg, Int.reduceLT, Int.reduceEq, Int.reduceNe, Nat.reduceBEq, Nat.reduceBNe, Nat.reduceEqDiff, amCmp_in, amCmp_lt, amCmp_le, amCmp_gt, amCmp_ge, amCmp_eq, amCmp_ne, Nat.reduceLeDiff, Nat.reduceSub, Bool.and_true, Bool.true_and, Bool.and_self, Bool.or_true, Bool.true_or, isRf_3, isRf_4, isRf_5, isRf_8, isRf_9, isRf_10, isRf_11, isRf_15, isRf_16, isRf_17, isRf_18, isRf_19, isRf_20, isRf_21, isRf_22, isRf_23, isRf_24, isRf_25, isRf_26, isRf_27, isRf_28, k_X9_playGroup_0, k_X9_playGroup_1, k_X9_playGroup_2, k_X9_playGroup_5, k_X9_playGroup_6, k_X9_playGroup_9, k_X9_playGroup_12, k_X9_playGroup_13, k_X9_playGroup_14, k_X9_playGroup_17, k_X9_playGroup_18, k_X9_playGroup_21, k_X9_playGroup_24, k_X9_playGroup_25, k_X9_playGroup_26, k_X9_playGroup_28, k_X9_playGroup_29, k_X9_playGroup_31, k_X9_playGroup_33, k_X9_playGroup_34, k_X9_playGroup_37, k_X9_playGroup_39, k_X9_playGroup_42, k_X9_playGroup_44, k_X9_playGroup_46, k_X9_playGroup_48, k_X9_playGroup_51, k_X9_playGroup_53, k_X9_playGroup_54, k_X9_playGroup_56, k_X9_playGroup_58, k_X9_playGroup_60, k_X9_playGroup_63, k_X9_playGroup_65, k_X9_playGroup_67, k_X9_playGroup_68, k_X9_playGroup_69, k_X9_playGroup_70, k_X9_playGroup_73, k_X9_playGroup_74, k_X9_playGroup_76, k_X9_playGroup_78, k_X9_playGroup_80, k_X9_playGroup_83, k_X9_playGroup_85, k_X9_playGroup_86, k_X9_playGroup_89, k_X9_playGroup_91, k_X9_playGroup_92, k_X9_playGroup_93, k_X9_playGroup_95, k_X9_playGroup_96, k_X9_playGroup_97, k_X9_playGroup_99, k_X9_playGroup_100, k_X9_playGroup_103, k_X9_playGroup_104, k_X9_playGroup_107, k_X9_playGroup_109, k_X9_playGroup_111, k_X9_playGroup_112, k_X9_playGroup_114, k_X9_playGroup_115, k_X9_playGroup_117, k_X9_playGroup_118, k_X9_playGroup_119, k_X9_playGroup_120, k_X9_playGroup_121, k_X9_playGroup_123, k_X9_playGroup_126, k_X9_playGroup_129, k_X9_playGroup_132, k_X9_playGroup_135, w_J6_bitCount_0f7a4_e, w_X6_leads_e, w_X6_minutes_e, w_X9_clearFelt_e, w_X9_movedByTable_e, bcx_popc sb.1 sb.2]
      by_cases c1 : (k : Int) < M
      · by_cases c2 : stM (gmv m a t p) L S k = 0
        · have hz := (stM_z (gmv m a t p) L c2 (M.toNat - k)).2
          rw [show k + (M.toNat - k) = M.toNat by omega] at hz
          have hh := h σ' hSO (fun i i0 i1 => by rw [hf i i0 i1, (hz i).1]) (fun i i0 i1 => by rw [ho i i0 i1, (hz i).2])
          repeat' (first | assumption | apply And.intro | intro _)
          all_goals first | omega | exact absurd trivial (by assumption) | exact hh
        · have i9 : ∃ k', k' < n ∧ inv_pg m σ a t p S L M k' 56 [(25, 26), (0, S), (0, L), (0, M), (0, stM (gmv m a t p) L S k), (0, (k : Int)), (0, stM (gmv m a t p) L S k), (0, popc (stM (gmv m a t p) L S k)), (0, 0), v9] [] σ' :=
            ⟨n - 1, by omega, rfl, k, v6, v7, v8, v9, hk, hSO, Or.inr ⟨rfl, c1, c2, 0, by omega, by omega, rfl, fun i i0 i1 => by rw [hf i i0 i1, if_neg (show ¬ i < ((0 : Nat) : Int) by omega)], fun i i0 i1 => by rw [ho i i0 i1, if_neg (show ¬ i < ((0 : Nat) : Int) by omega)]⟩⟩
          repeat' (first | assumption | apply And.intro | intro _)
          all_goals first | omega | exact absurd trivial (by assumption) | exact i9
      · have e1 : k = M.toNat := by omega
        subst e1
        have hh := h σ' hSO hf ho
        repeat' (first | assumption | apply And.intro | intro _)
        all_goals first | omega | exact absurd trivial (by assumption) | exact hh
    · have sb := stM_b (gmv m a t p) L hS0 hS1 k
      obtain ⟨ib0, ib1, ib2⟩ := stI_b (g := fun i => gmv m a t p i (popc (stM (gmv m a t p) L S k)) k) (L := L) sb.1 sb.2 j hj
      have pb := popc_b (stM (gmv m a t p) L S k)
      have pb1 := popc_p (x := stM (gmv m a t p) L S k) (by omega) sb.2
      refine ⟨90, ?_⟩
      by_cases cj : j < 6
      · have hbj := bt_e (x := stM (gmv m a t p) L S k) (i := j) ⟨by omega, by omega⟩ (by omega) (by omega)
        have b01 := bt_b (stM (gmv m a t p) L S k) j
        have gb := gmv_b m (a := a) (t := t) (p := p) (i := j) (k := k) pb1
        have fl1 : ∀ i, flM (gmv m a t p) L S (k + 1) i = flM (gmv m a t p) L S k i + if bt (stM (gmv m a t p) L S k) i = 1 then gmv m a t p i (popc (stM (gmv m a t p) L S k)) k else 0 := fun i => rfl
        have oa1 : ∀ i, oaM (gmv m a t p) L S (k + 1) i = if bt (stM (gmv m a t p) L S k) i = 1 ∧ L ≤ gmv m a t p i (popc (stM (gmv m a t p) L S k)) k then (k : Int) else oaM (gmv m a t p) L S k i := fun i => rfl
        have sIj : stI (fun i => gmv m a t p i (popc (stM (gmv m a t p) L S k)) k) L (stM (gmv m a t p) L S k) (j + 1) = if bt (stM (gmv m a t p) L S k) j = 1 ∧ L ≤ gmv m a t p j (popc (stM (gmv m a t p) L S k)) k then stI (fun i => gmv m a t p i (popc (stM (gmv m a t p) L S k)) k) L (stM (gmv m a t p) L S k) j - 2 ^ j else stI (fun i => gmv m a t p i (popc (stM (gmv m a t p) L S k)) k) L (stM (gmv m a t p) L S k) j := rfl
        simp only [↓reduceIte, inR_0, inR_1, inR_m, vSw2_e, swP_n, swP_c, vI_e, vL_e, vNull_e, vIload_e, vLload_e, vAload_e, vIstore_e, vLstore_e, vAstore_e, vIinc_e, vIadd_e, vIsub_e, vImul_e, vIand_e, vIor_e, vIxor_e, vIshl_e, vIshr_e, vIushr_e, vIdiv_e, vIrem_e, vLadd_e, vLsub_e, vLmul_e, vLand_e, vLor_e, vLxor_e, vLdiv_e, vLrem_e, vLushr_e, vLshl_e, vLcmp_e, vIneg_e, vI2l_e, vL2i_e, vI2b_e, vI2c_e, vDup_e, vPop_e, vDup2_e, vGoto_e, vIcEq_e, vIfEq_e, vIcNe_e, vIfNe_e, vIcLt_e, vIfLt_e, vIcGe_e, vIfGe_e, vIcGt_e, vIfGt_e, vIcLe_e, vIfLe_e, vNonnull_e, vSw_e, vGetI_e, vGetL_e, vGetR_e, vPutI_e, vPutZ_e, vPutL_e, vPutR_e, vIald_e, vIald_s, vLald_e, vBald_e, vBald_s, vAald_e, vIast_e, vLast_e, vBast_e, vAast_e, vAlen_e8, vAlen_e9, vAlen_e10, vAlen_e11, vAlen_e5, vAlen_e3, vGets_e, vCompact_e, vLdcS_e, vIret_e, vZret_e, vCret_e, vBret_e, vLret_e, vVret_e, vAret_e, vCallM_e0, vCallMV_e0, vCallS_e0, vCallSV_e0, vCallM_e1, vCallMV_e1, vCallS_e1, vCallSV_e1, vCallM_e2, vCallMV_e2, vCallS_e2, vCallSV_e2, vCallM_e3, vCallMV_e3, vCallS_e3, vCallSV_e3, vCallM_e4, vCallMV_e4, vCallS_e4, vCallSV_e4, vCallM_e5, vCallMV_e5, vCallS_e5, vCallSV_e5, vCallM_e6, vCallMV_e6, vCallS_e6, vCallSV_e6, vCallM_e7, vCallMV_e7, vCallS_e7, vCallSV_e7, vBad_e, vStrVal_e, vStrCod_e, vForm_e, vCallT_e0, vCallT_e1, vCallT_e2, vCopy_e, rf_0_0, rf_0_1, rf_0_2, rf_0_3, rf_0_4, rf_0_7, rf_0_10, rf_0_11, rf_0_12, rf_0_13, rf_0_14, rf_0_15, rf_0_16, rf_1_0, rf_3_0, rf_3_1, rf_6_0, rf_6_1, rf_9_0, rf_9_1, rf_9_3, rf_13_0, rf_13_1, rf_13_2, rf_16_0, rf_16_1, rf_16_2, rf_16_3, rf_21_0, rf_21_1, rf_21_2, rf_21_3, rf_26_0, rf_26_1, rf_26_2, rf_26_3, rf_26_4, rf_26_5, rf_26_6, rf_31_0, rf_31_2, rf_31_5, rf_31_6, rf_36_0, rf_36_1, rf_36_2, rf_36_3, rf_39_0, rf_39_1, rf_39_2, rf_41_0, rf_41_1, rf_41_2, rf_41_3, rf_5000_1, rf_5000_2, rf_5000_3, rf_5000_4, rf_5000_5, rf_5000_15, rf_5000_16, rf_5000_18, rf_5000_19, rf_5000_20, rf_5000_21, rf_5000_22, rf_5000_23, rf_5000_24, rf_5000_25, rf_5000_26, rf_5000_27, rf_5000_36, rf_5000_37, rf_5000_40, rf_5000_41, rf_5000_42, rf_5000_43, rf_5000_44, rf_5000_45, rf_5000_47, rf_5000_52, rf_5000_54, rf_5000_55, rf_100_0, rf_100_1, rf_103_0, rf_103_1, rf_106_0, rf_106_1, rf_109_0, rf_109_1, al_2, al_4, al_5, al_7, al_8, al_10, al_11, al_12, al_14, al_15, al_17, al_18, al_19, al_20, al_22, al_23, al_24, al_25, al_27, al_28, al_29, al_30, al_32, al_33, al_34, al_35, al_37, al_38, al_40, al_42, al_5001, al_5002, al_5003, al_5004, al_5005, al_5006, al_5007, al_5008, al_5009, al_5010, al_5011, al_5012, al_5013, al_5014, al_5015, al_5016, al_5017, al_5018, al_5019, al_5020, al_5021, al_5022, al_5023, al_5024, al_5025, al_5026, al_9000, al_101, al_102, al_104, al_105, al_107, al_108, al_110, al_111, vcs_e, lg_c0, lg_cs, lg_nil, set_c0, set_cs, okst_0, okst_s, acok_n, acok_c, List.contains_nil, List.contains_cons, Bool.or_false, Bool.false_or, Bool.false_eq_true, if_false, if_true, ite_self, ne_eq, true_and, and_true, not_false_eq_true, not_true_eq_false, false_imp_iff, true_imp_iff, Nat.ble_eq, Bool.and_eq_true, reduceCtorEq, or_false, false_or, or_true, true_or, false_and, and_false, and_self, Int.reduceLE, Int.reduceAdd, Int.reduceSub, Int.reduceMul, Int.reduceNeg, Int.reduceLT, Int.reduceEq, Int.reduceNe, Nat.reduceBEq, Nat.reduceBNe, Nat.reduceEqDiff, amCmp_in, amCmp_lt, amCmp_le, amCmp_gt, amCmp_ge, amCmp_eq, amCmp_ne, Nat.reduceLeDiff, Nat.reduceSub, Bool.and_true, Bool.true_and, Bool.and_self, Bool.or_true, Bool.true_or, isRf_3, isRf_4, isRf_5, isRf_8, isRf_9, isRf_10, isRf_11, isRf_15, isRf_16, isRf_17, isRf_18, isRf_19, isRf_20, isRf_21, isRf_22, isRf_23, isRf_24, isRf_25, isRf_26, isRf_27, isRf_28, k_X9_playGroup_0, k_X9_playGroup_1, k_X9_playGroup_2, k_X9_playGroup_5, k_X9_playGroup_6, k_X9_playGroup_9, k_X9_playGroup_12, k_X9_playGroup_13, k_X9_playGroup_14, k_X9_playGroup_17, k_X9_playGroup_18, k_X9_playGroup_21, k_X9_playGroup_24, k_X9_playGroup_25, k_X9_playGroup_26, k_X9_playGroup_28, k_X9_playGroup_29, k_X9_playGroup_31, k_X9_playGroup_33, k_X9_playGroup_34, k_X9_playGroup_37, k_X9_playGroup_39, k_X9_playGroup_42, k_X9_playGroup_44, k_X9_playGroup_46, k_X9_playGroup_48, k_X9_playGroup_51, k_X9_playGroup_53, k_X9_playGroup_54, k_X9_playGroup_56, k_X9_playGroup_58, k_X9_playGroup_60, k_X9_playGroup_63, k_X9_playGroup_65, k_X9_playGroup_67, k_X9_playGroup_68, k_X9_playGroup_69, k_X9_playGroup_70, k_X9_playGroup_73, k_X9_playGroup_74, k_X9_playGroup_76, k_X9_playGroup_78, k_X9_playGroup_80, k_X9_playGroup_83, k_X9_playGroup_85, k_X9_playGroup_86, k_X9_playGroup_89, k_X9_playGroup_91, k_X9_playGroup_92, k_X9_playGroup_93, k_X9_playGroup_95, k_X9_playGroup_96, k_X9_playGroup_97, k_X9_playGroup_99, k_X9_playGroup_100, k_X9_playGroup_103, k_X9_playGroup_104, k_X9_playGroup_107, k_X9_playGroup_109, k_X9_playGroup_111, k_X9_playGroup_112, k_X9_playGroup_114, k_X9_playGroup_115, k_X9_playGroup_117, k_X9_playGroup_118, k_X9_playGroup_119, k_X9_playGroup_120, k_X9_playGroup_121, k_X9_playGroup_123, k_X9_playGroup_126, k_X9_playGroup_129, k_X9_playGroup_132, k_X9_playGroup_135, w_J6_bitCount_0f7a4_e, w_X6_leads_e, w_X6_minutes_e, w_X9_clearFelt_e, w_X9_movedByTable_e, hbj]
        by_cases c : bt (stM (gmv m a t p) L S k) j = 1
        · have hSj := stM_sub (gmv m a t p) L hS0 hS1 (i := j) (by omega) (by omega) k c
          have hcl := bt_clr (j := j) ib0 (by omega) (by omega) (by rw [ib2 j (by omega) (by omega), if_neg (by omega)]; exact c)
          by_cases cL : L ≤ gmv m a t p j (popc (stM (gmv m a t p) L S k)) k
          · have i9 : ∀ τ, SO m τ a t p → τ 29 = σ' 29 → τ 30 = σ' 30 → ∃ k', k' < n ∧ inv_pg m σ a t p S L M k' 56 [(25, 26), (0, S), (0, L), (0, M), (0, stI (fun i => gmv m a t p i (popc (stM (gmv m a t p) L S k)) k) L (stM (gmv m a t p) L S k) j - 2 ^ j), (0, (k : Int)), (0, stM (gmv m a t p) L S k), (0, popc (stM (gmv m a t p) L S k)), (0, (j : Int) + 1), (0, gmv m a t p j (popc (stM (gmv m a t p) L S k)) k)] [] (up (up τ 29 j (σ' 29 j + gmv m a t p j (popc (stM (gmv m a t p) L S k)) k)) 30 j k) := fun τ hτ e29 e30 => by
              refine ⟨n - 1, by omega, rfl, k, v6, v7, v8, (0, gmv m a t p j (popc (stM (gmv m a t p) L S k)) k), hk, SO_up (SO_up hτ (Or.inl rfl)) (Or.inr rfl), Or.inr ⟨rfl, hkM, hnz, j + 1, by omega, by omega, ?_, fun i i0 i1 => ?_, fun i i0 i1 => ?_⟩⟩
              · rw [sIj, if_pos ⟨c, cL⟩]; rfl
              · rw [up_na _ (by decide)]
                by_cases e : i = j
                · rw [e, up_s, hf j (by omega) (by omega), if_pos hSj, if_pos hSj, if_neg (by omega), if_pos (by omega), fl1, if_pos c]
                · rw [up_nj _ e, e29, hf i i0 i1, it_ij e]
              · by_cases e : i = j
                · rw [e, up_s, if_pos hSj, if_pos (by omega), oa1, if_pos ⟨c, cL⟩]
                · rw [up_nj _ e, up_na _ (by decide), e30, ho i i0 i1, it_ij e]
            repeat' (first | assumption | apply And.intro | intro _)
            all_goals first | omega | exact absurd trivial (by assumption) | skip
            all_goals
              refine ⟨m, a, t, p, hst, hSO, by omega, by omega, by omega, by omega, by omega, by omega, ht, hp, fun τ hτ e29 e30 => ?_⟩
              have i8 := i9 τ hτ e29 e30
              simp only [e29, hcl]
              repeat' (first | assumption | apply And.intro | intro _)
              all_goals first | omega | exact absurd trivial (by assumption) | exact i8
          · have i9 : ∀ τ, SO m τ a t p → τ 29 = σ' 29 → τ 30 = σ' 30 → ∃ k', k' < n ∧ inv_pg m σ a t p S L M k' 56 [(25, 26), (0, S), (0, L), (0, M), (0, stI (fun i => gmv m a t p i (popc (stM (gmv m a t p) L S k)) k) L (stM (gmv m a t p) L S k) j), (0, (k : Int)), (0, stM (gmv m a t p) L S k), (0, popc (stM (gmv m a t p) L S k)), (0, (j : Int) + 1), (0, gmv m a t p j (popc (stM (gmv m a t p) L S k)) k)] [] (up τ 29 j (σ' 29 j + gmv m a t p j (popc (stM (gmv m a t p) L S k)) k)) := fun τ hτ e29 e30 => by
              refine ⟨n - 1, by omega, rfl, k, v6, v7, v8, (0, gmv m a t p j (popc (stM (gmv m a t p) L S k)) k), hk, SO_up hτ (Or.inl rfl), Or.inr ⟨rfl, hkM, hnz, j + 1, by omega, by omega, ?_, fun i i0 i1 => ?_, fun i i0 i1 => ?_⟩⟩
              · rw [sIj, if_neg (fun q => cL q.2)]; rfl
              · by_cases e : i = j
                · rw [e, up_s, hf j (by omega) (by omega), if_pos hSj, if_pos hSj, if_neg (by omega), if_pos (by omega), fl1, if_pos c]
                · rw [up_nj _ e, e29, hf i i0 i1, it_ij e]
              · rw [up_na _ (by decide), e30, ho i i0 i1]
                by_cases e : i = j
                · rw [e, show oaM (gmv m a t p) L S (k + 1) j = oaM (gmv m a t p) L S k j from (oa1 j).trans (if_neg (fun q => cL q.2)), ite_self, ite_self]
                · rw [it_ij e]
            repeat' (first | assumption | apply And.intro | intro _)
            all_goals first | omega | exact absurd trivial (by assumption) | skip
            all_goals
              refine ⟨m, a, t, p, hst, hSO, by omega, by omega, by omega, by omega, by omega, by omega, ht, hp, fun τ hτ e29 e30 => ?_⟩
              have i8 := i9 τ hτ e29 e30
              simp only [e29]
              repeat' (first | assumption | apply And.intro | intro _)
              all_goals first | omega | exact absurd trivial (by assumption) | exact i8
        · have i9 : ∃ k', k' < n ∧ inv_pg m σ a t p S L M k' 56 [(25, 26), (0, S), (0, L), (0, M), (0, stI (fun i => gmv m a t p i (popc (stM (gmv m a t p) L S k)) k) L (stM (gmv m a t p) L S k) j), (0, (k : Int)), (0, stM (gmv m a t p) L S k), (0, popc (stM (gmv m a t p) L S k)), (0, (j : Int) + 1), v9] [] σ' := by
            refine ⟨n - 1, by omega, rfl, k, v6, v7, v8, v9, hk, hSO, Or.inr ⟨rfl, hkM, hnz, j + 1, by omega, by omega, ?_, fun i i0 i1 => ?_, fun i i0 i1 => ?_⟩⟩
            · rw [sIj, if_neg (fun q => c q.1)]; rfl
            · rw [hf i i0 i1]
              by_cases e : i = j
              · rw [e, show flM (gmv m a t p) L S (k + 1) j = flM (gmv m a t p) L S k j by rw [fl1, if_neg c, Int.add_zero], ite_self, ite_self]
              · rw [it_ij e]
            · rw [ho i i0 i1]
              by_cases e : i = j
              · rw [e, show oaM (gmv m a t p) L S (k + 1) j = oaM (gmv m a t p) L S k j from (oa1 j).trans (if_neg (fun q => c q.1)), ite_self, ite_self]
              · rw [it_ij e]
          repeat' (first | assumption | apply And.intro | intro _)
          all_goals first | omega | exact absurd trivial (by assumption) | exact i9
      · have e6 : j = 6 := by omega
        subst e6
        have i9 : ∃ k', k' < n ∧ inv_pg m σ a t p S L M k' 31 [(25, 26), (0, S), (0, L), (0, M), (0, stM (gmv m a t p) L S (k + 1)), (0, (k : Int) + 1), (0, stM (gmv m a t p) L S k), (0, popc (stM (gmv m a t p) L S k)), (0, ((6 : Nat) : Int)), v9] [] σ' :=
          ⟨n - 1, by omega, rfl, k + 1, _, _, _, _, by omega, hSO, Or.inl ⟨rfl, by omega, rfl, fun i i0 i1 => by rw [hf i i0 i1, if_pos (show i < ((6 : Nat) : Int) by omega)], fun i i0 i1 => by rw [ho i i0 i1, if_pos (show i < ((6 : Nat) : Int) by omega)]⟩⟩
        simp only [↓reduceIte, inR_0, inR_1, inR_m, vSw2_e, swP_n, swP_c, vI_e, vL_e, vNull_e, vIload_e, vLload_e, vAload_e, vIstore_e, vLstore_e, vAstore_e, vIinc_e, vIadd_e, vIsub_e, vImul_e, vIand_e, vIor_e, vIxor_e, vIshl_e, vIshr_e, vIushr_e, vIdiv_e, vIrem_e, vLadd_e, vLsub_e, vLmul_e, vLand_e, vLor_e, vLxor_e, vLdiv_e, vLrem_e, vLushr_e, vLshl_e, vLcmp_e, vIneg_e, vI2l_e, vL2i_e, vI2b_e, vI2c_e, vDup_e, vPop_e, vDup2_e, vGoto_e, vIcEq_e, vIfEq_e, vIcNe_e, vIfNe_e, vIcLt_e, vIfLt_e, vIcGe_e, vIfGe_e, vIcGt_e, vIfGt_e, vIcLe_e, vIfLe_e, vNonnull_e, vSw_e, vGetI_e, vGetL_e, vGetR_e, vPutI_e, vPutZ_e, vPutL_e, vPutR_e, vIald_e, vIald_s, vLald_e, vBald_e, vBald_s, vAald_e, vIast_e, vLast_e, vBast_e, vAast_e, vAlen_e8, vAlen_e9, vAlen_e10, vAlen_e11, vAlen_e5, vAlen_e3, vGets_e, vCompact_e, vLdcS_e, vIret_e, vZret_e, vCret_e, vBret_e, vLret_e, vVret_e, vAret_e, vCallM_e0, vCallMV_e0, vCallS_e0, vCallSV_e0, vCallM_e1, vCallMV_e1, vCallS_e1, vCallSV_e1, vCallM_e2, vCallMV_e2, vCallS_e2, vCallSV_e2, vCallM_e3, vCallMV_e3, vCallS_e3, vCallSV_e3, vCallM_e4, vCallMV_e4, vCallS_e4, vCallSV_e4, vCallM_e5, vCallMV_e5, vCallS_e5, vCallSV_e5, vCallM_e6, vCallMV_e6, vCallS_e6, vCallSV_e6, vCallM_e7, vCallMV_e7, vCallS_e7, vCallSV_e7, vBad_e, vStrVal_e, vStrCod_e, vForm_e, vCallT_e0, vCallT_e1, vCallT_e2, vCopy_e, rf_0_0, rf_0_1, rf_0_2, rf_0_3, rf_0_4, rf_0_7, rf_0_10, rf_0_11, rf_0_12, rf_0_13, rf_0_14, rf_0_15, rf_0_16, rf_1_0, rf_3_0, rf_3_1, rf_6_0, rf_6_1, rf_9_0, rf_9_1, rf_9_3, rf_13_0, rf_13_1, rf_13_2, rf_16_0, rf_16_1, rf_16_2, rf_16_3, rf_21_0, rf_21_1, rf_21_2, rf_21_3, rf_26_0, rf_26_1, rf_26_2, rf_26_3, rf_26_4, rf_26_5, rf_26_6, rf_31_0, rf_31_2, rf_31_5, rf_31_6, rf_36_0, rf_36_1, rf_36_2, rf_36_3, rf_39_0, rf_39_1, rf_39_2, rf_41_0, rf_41_1, rf_41_2, rf_41_3, rf_5000_1, rf_5000_2, rf_5000_3, rf_5000_4, rf_5000_5, rf_5000_15, rf_5000_16, rf_5000_18, rf_5000_19, rf_5000_20, rf_5000_21, rf_5000_22, rf_5000_23, rf_5000_24, rf_5000_25, rf_5000_26, rf_5000_27, rf_5000_36, rf_5000_37, rf_5000_40, rf_5000_41, rf_5000_42, rf_5000_43, rf_5000_44, rf_5000_45, rf_5000_47, rf_5000_52, rf_5000_54, rf_5000_55, rf_100_0, rf_100_1, rf_103_0, rf_103_1, rf_106_0, rf_106_1, rf_109_0, rf_109_1, al_2, al_4, al_5, al_7, al_8, al_10, al_11, al_12, al_14, al_15, al_17, al_18, al_19, al_20, al_22, al_23, al_24, al_25, al_27, al_28, al_29, al_30, al_32, al_33, al_34, al_35, al_37, al_38, al_40, al_42, al_5001, al_5002, al_5003, al_5004, al_5005, al_5006, al_5007, al_5008, al_5009, al_5010, al_5011, al_5012, al_5013, al_5014, al_5015, al_5016, al_5017, al_5018, al_5019, al_5020, al_5021, al_5022, al_5023, al_5024, al_5025, al_5026, al_9000, al_101, al_102, al_104, al_105, al_107, al_108, al_110, al_111, vcs_e, lg_c0, lg_cs, lg_nil, set_c0, set_cs, okst_0, okst_s, acok_n, acok_c, List.contains_nil, List.contains_cons, Bool.or_false, Bool.false_or, Bool.false_eq_true, if_false, if_true, ite_self, ne_eq, true_and, and_true, not_false_eq_true, not_true_eq_false, false_imp_iff, true_imp_iff, Nat.ble_eq, Bool.and_eq_true, reduceCtorEq, or_false, false_or, or_true, true_or, false_and, and_false, and_self, Int.reduceLE, Int.reduceAdd, Int.reduceSub, Int.reduceMul, Int.reduceNeg, Int.reduceLT, Int.reduceEq, Int.reduceNe, Nat.reduceBEq, Nat.reduceBNe, Nat.reduceEqDiff, amCmp_in, amCmp_lt, amCmp_le, amCmp_gt, amCmp_ge, amCmp_eq, amCmp_ne, Nat.reduceLeDiff, Nat.reduceSub, Bool.and_true, Bool.true_and, Bool.and_self, Bool.or_true, Bool.true_or, isRf_3, isRf_4, isRf_5, isRf_8, isRf_9, isRf_10, isRf_11, isRf_15, isRf_16, isRf_17, isRf_18, isRf_19, isRf_20, isRf_21, isRf_22, isRf_23, isRf_24, isRf_25, isRf_26, isRf_27, isRf_28, k_X9_playGroup_0, k_X9_playGroup_1, k_X9_playGroup_2, k_X9_playGroup_5, k_X9_playGroup_6, k_X9_playGroup_9, k_X9_playGroup_12, k_X9_playGroup_13, k_X9_playGroup_14, k_X9_playGroup_17, k_X9_playGroup_18, k_X9_playGroup_21, k_X9_playGroup_24, k_X9_playGroup_25, k_X9_playGroup_26, k_X9_playGroup_28, k_X9_playGroup_29, k_X9_playGroup_31, k_X9_playGroup_33, k_X9_playGroup_34, k_X9_playGroup_37, k_X9_playGroup_39, k_X9_playGroup_42, k_X9_playGroup_44, k_X9_playGroup_46, k_X9_playGroup_48, k_X9_playGroup_51, k_X9_playGroup_53, k_X9_playGroup_54, k_X9_playGroup_56, k_X9_playGroup_58, k_X9_playGroup_60, k_X9_playGroup_63, k_X9_playGroup_65, k_X9_playGroup_67, k_X9_playGroup_68, k_X9_playGroup_69, k_X9_playGroup_70, k_X9_playGroup_73, k_X9_playGroup_74, k_X9_playGroup_76, k_X9_playGroup_78, k_X9_playGroup_80, k_X9_playGroup_83, k_X9_playGroup_85, k_X9_playGroup_86, k_X9_playGroup_89, k_X9_playGroup_91, k_X9_playGroup_92, k_X9_playGroup_93, k_X9_playGroup_95, k_X9_playGroup_96, k_X9_playGroup_97, k_X9_playGroup_99, k_X9_playGroup_100, k_X9_playGroup_103, k_X9_playGroup_104, k_X9_playGroup_107, k_X9_playGroup_109, k_X9_playGroup_111, k_X9_playGroup_112, k_X9_playGroup_114, k_X9_playGroup_115, k_X9_playGroup_117, k_X9_playGroup_118, k_X9_playGroup_119, k_X9_playGroup_120, k_X9_playGroup_121, k_X9_playGroup_123, k_X9_playGroup_126, k_X9_playGroup_129, k_X9_playGroup_132, k_X9_playGroup_135]
        repeat' (first | assumption | apply And.intro | intro _)
        all_goals first | omega | exact absurd trivial (by assumption) | exact i9
  · change vcs _ _ _ _ 90 0 [(25, 26), (0, S), (6, 0), (6, 0), (6, 0), (6, 0), (6, 0), (6, 0), (6, 0), (6, 0)] [] σ
    obtain ⟨⟨hF, -⟩, s6, s7, s8, -⟩ := id hcl
    have pv : ∀ x y z, pval (clr σ S 6) 6 x y z = pval m 6 x y z := SF_pval hcl.1
    simp only [↓reduceIte, inR_0, inR_1, inR_m, vSw2_e, swP_n, swP_c, vI_e, vL_e, vNull_e, vIload_e, vLload_e, vAload_e, vIstore_e, vLstore_e, vAstore_e, vIinc_e, vIadd_e, vIsub_e, vImul_e, vIand_e, vIor_e, vIxor_e, vIshl_e, vIshr_e, vIushr_e, vIdiv_e, vIrem_e, vLadd_e, vLsub_e, vLmul_e, vLand_e, vLor_e, vLxor_e, vLdiv_e, vLrem_e, vLushr_e, vLshl_e, vLcmp_e, vIneg_e, vI2l_e, vL2i_e, vI2b_e, vI2c_e, vDup_e, vPop_e, vDup2_e, vGoto_e, vIcEq_e, vIfEq_e, vIcNe_e, vIfNe_e, vIcLt_e, vIfLt_e, vIcGe_e, vIfGe_e, vIcGt_e, vIfGt_e, vIcLe_e, vIfLe_e, vNonnull_e, vSw_e, vGetI_e, vGetL_e, vGetR_e, vPutI_e, vPutZ_e, vPutL_e, vPutR_e, vIald_e, vIald_s, vLald_e, vBald_e, vBald_s, vAald_e, vIast_e, vLast_e, vBast_e, vAast_e, vAlen_e8, vAlen_e9, vAlen_e10, vAlen_e11, vAlen_e5, vAlen_e3, vGets_e, vCompact_e, vLdcS_e, vIret_e, vZret_e, vCret_e, vBret_e, vLret_e, vVret_e, vAret_e, vCallM_e0, vCallMV_e0, vCallS_e0, vCallSV_e0, vCallM_e1, vCallMV_e1, vCallS_e1, vCallSV_e1, vCallM_e2, vCallMV_e2, vCallS_e2, vCallSV_e2, vCallM_e3, vCallMV_e3, vCallS_e3, vCallSV_e3, vCallM_e4, vCallMV_e4, vCallS_e4, vCallSV_e4, vCallM_e5, vCallMV_e5, vCallS_e5, vCallSV_e5, vCallM_e6, vCallMV_e6, vCallS_e6, vCallSV_e6, vCallM_e7, vCallMV_e7, vCallS_e7, vCallSV_e7, vBad_e, vStrVal_e, vStrCod_e, vForm_e, vCallT_e0, vCallT_e1, vCallT_e2, vCopy_e, rf_0_0, rf_0_1, rf_0_2, rf_0_3, rf_0_4, rf_0_7, rf_0_10, rf_0_11, rf_0_12, rf_0_13, rf_0_14, rf_0_15, rf_0_16, rf_1_0, rf_3_0, rf_3_1, rf_6_0, rf_6_1, rf_9_0, rf_9_1, rf_9_3, rf_13_0, rf_13_1, rf_13_2, rf_16_0, rf_16_1, rf_16_2, rf_16_3, rf_21_0, rf_21_1, rf_21_2, rf_21_3, rf_26_0, rf_26_1, rf_26_2, rf_26_3, rf_26_4, rf_26_5, rf_26_6, rf_31_0, rf_31_2, rf_31_5, rf_31_6, rf_36_0, rf_36_1, rf_36_2, rf_36_3, rf_39_0, rf_39_1, rf_39_2, rf_41_0, rf_41_1, rf_41_2, rf_41_3, rf_5000_1, rf_5000_2, rf_5000_3, rf_5000_4, rf_5000_5, rf_5000_15, rf_5000_16, rf_5000_18, rf_5000_19, rf_5000_20, rf_5000_21, rf_5000_22, rf_5000_23, rf_5000_24, rf_5000_25, rf_5000_26, rf_5000_27, rf_5000_36, rf_5000_37, rf_5000_40, rf_5000_41, rf_5000_42, rf_5000_43, rf_5000_44, rf_5000_45, rf_5000_47, rf_5000_52, rf_5000_54, rf_5000_55, rf_100_0, rf_100_1, rf_103_0, rf_103_1, rf_106_0, rf_106_1, rf_109_0, rf_109_1, al_2, al_4, al_5, al_7, al_8, al_10, al_11, al_12, al_14, al_15, al_17, al_18, al_19, al_20, al_22, al_23, al_24, al_25, al_27, al_28, al_29, al_30, al_32, al_33, al_34, al_35, al_37, al_38, al_40, al_42, al_5001, al_5002, al_5003, al_5004, al_5005, al_5006, al_5007, al_5008, al_5009, al_5010, al_5011, al_5012, al_5013, al_5014, al_5015, al_5016, al_5017, al_5018, al_5019, al_5020, al_5021, al_5022, al_5023, al_5024, al_5025, al_5026, al_9000, al_101, al_102, al_104, al_105, al_107, al_108, al_110, al_111, vcs_e, lg_c0, lg_cs, lg_nil, set_c0, set_cs, okst_0, okst_s, acok_n, acok_c, List.contains_nil, List.contains_cons, Bool.or_false, Bool.false_or, Bool.false_eq_true, if_false, if_true, ite_self, ne_eq, true_and, and_true, not_false_eq_true, not_true_eq_false, false_imp_iff, true_imp_iff, Nat.ble_eq, Bool.and_eq_true, reduceCtorEq, or_false, false_or, or_true, true_or, false_and, and_false, and_self, Int.reduceLE, Int.reduceAdd, Int.reduceSub, Int.reduceMul, Int.reduceNeg, Int.reduceLT, Int.reduceEq, Int.reduceNe, Nat.reduceBEq, Nat.reduceBNe, Nat.reduceEqDiff, amCmp_in, amCmp_lt, amCmp_le, amCmp_gt, amCmp_ge, amCmp_eq, amCmp_ne, Nat.reduceLeDiff, Nat.reduceSub, Bool.and_true, Bool.true_and, Bool.and_self, Bool.or_true, Bool.true_or, isRf_3, isRf_4, isRf_5, isRf_8, isRf_9, isRf_10, isRf_11, isRf_15, isRf_16, isRf_17, isRf_18, isRf_19, isRf_20, isRf_21, isRf_22, isRf_23, isRf_24, isRf_25, isRf_26, isRf_27, isRf_28, k_X9_playGroup_0, k_X9_playGroup_1, k_X9_playGroup_2, k_X9_playGroup_5, k_X9_playGroup_6, k_X9_playGroup_9, k_X9_playGroup_12, k_X9_playGroup_13, k_X9_playGroup_14, k_X9_playGroup_17, k_X9_playGroup_18, k_X9_playGroup_21, k_X9_playGroup_24, k_X9_playGroup_25, k_X9_playGroup_26, k_X9_playGroup_28, k_X9_playGroup_29, k_X9_playGroup_31, k_X9_playGroup_33, k_X9_playGroup_34, k_X9_playGroup_37, k_X9_playGroup_39, k_X9_playGroup_42, k_X9_playGroup_44, k_X9_playGroup_46, k_X9_playGroup_48, k_X9_playGroup_51, k_X9_playGroup_53, k_X9_playGroup_54, k_X9_playGroup_56, k_X9_playGroup_58, k_X9_playGroup_60, k_X9_playGroup_63, k_X9_playGroup_65, k_X9_playGroup_67, k_X9_playGroup_68, k_X9_playGroup_69, k_X9_playGroup_70, k_X9_playGroup_73, k_X9_playGroup_74, k_X9_playGroup_76, k_X9_playGroup_78, k_X9_playGroup_80, k_X9_playGroup_83, k_X9_playGroup_85, k_X9_playGroup_86, k_X9_playGroup_89, k_X9_playGroup_91, k_X9_playGroup_92, k_X9_playGroup_93, k_X9_playGroup_95, k_X9_playGroup_96, k_X9_playGroup_97, k_X9_playGroup_99, k_X9_playGroup_100, k_X9_playGroup_103, k_X9_playGroup_104, k_X9_playGroup_107, k_X9_playGroup_109, k_X9_playGroup_111, k_X9_playGroup_112, k_X9_playGroup_114, k_X9_playGroup_115, k_X9_playGroup_117, k_X9_playGroup_118, k_X9_playGroup_119, k_X9_playGroup_120, k_X9_playGroup_121, k_X9_playGroup_123, k_X9_playGroup_126, k_X9_playGroup_129, k_X9_playGroup_132, k_X9_playGroup_135, w_J6_bitCount_0f7a4_e, w_X6_leads_e, w_X6_minutes_e, w_X9_clearFelt_e, w_X9_movedByTable_e, s7, pmin_e, pv, hLe, hMe]
    have i9 : ∃ k', inv_pg m σ a t p S L M k' 31 [(25, 26), (0, S), (0, L), (0, M), (0, S), (0, 0), (6, 0), (6, 0), (6, 0), (6, 0)] [] (clr σ S 6) := by
      refine ⟨(M * 8).toNat, rfl, 0, _, _, _, _, by omega, hcl, Or.inl ⟨rfl, by omega, rfl, fun i i0 i1 => ?_, fun i i0 i1 => ?_⟩⟩
      · unfold clr
        by_cases c : bt S i = 1
        · rw [if_pos ⟨Or.inl rfl, i0, i1, c⟩, if_pos c]; rfl
        · rw [if_neg (fun q => c q.2.2.2), if_neg c]
      · unfold clr
        by_cases c : bt S i = 1
        · rw [if_pos ⟨Or.inr rfl, i0, i1, c⟩, if_pos c]; rfl
        · rw [if_neg (fun q => c q.2.2.2), if_neg c]
    repeat' (first | assumption | apply And.intro | intro _)
    all_goals first | omega | exact absurd trivial (by assumption) | exact Or.inr rfl | exact i9
