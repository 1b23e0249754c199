/-! the reference reads LAWS -/
theorem kval_none {L : Int → Int} : ∀ {K : List CL}, K.any (chd L) = false → kval L K = 0 := by
  intro K
  induction K with
  | nil => intro _; rfl
  | cons k K ih =>
    intro h
    rw [List.any_cons, Bool.or_eq_false_iff] at h
    obtain ⟨c, g⟩ := k
    cases c with
    | none => exact absurd (show (true : Bool) = false from h.1) (by decide)
    | some c =>
      have hc : val L c = 0 := by
        have := h.1
        unfold chd at this
        simpa using this
      unfold kval; rw [if_pos hc]; exact ih h.2
theorem kval_app {L : Int → Int} (k : CL) : ∀ (K : List CL), kval L (K ++ [k]) = if K.any (chd L) = true then kval L K else if chd L k = true then val L k.2 else 0 := by
  intro K
  induction K with
  | nil =>
    obtain ⟨c, g⟩ := k
    cases c with
    | none => rfl
    | some c =>
      show (if val L c = 0 then (0 : Int) else val L g) = if (false = true) then _ else if (val L c != 0) = true then val L g else 0
      by_cases h : val L c = 0
      · rw [if_pos h, if_neg (by decide), if_neg (by simp [h])]
      · rw [if_neg h, if_neg (by decide), if_pos (by simpa using h)]
  | cons k' K ih =>
    obtain ⟨c, g⟩ := k'
    cases c with
    | none =>
      show val L g = if (true || K.any (chd L)) = true then val L g else _
      rw [if_pos (by simp)]
    | some c =>
      show (if val L c = 0 then kval L (K ++ [k]) else val L g) = if ((val L c != 0) || K.any (chd L)) = true then (if val L c = 0 then kval L K else val L g) else _
      by_cases h : val L c = 0
      · rw [if_pos h, if_pos h, ih]
        have e : ((val L c != 0) || K.any (chd L)) = K.any (chd L) := by rw [h]; simp
        rw [e]
      · rw [if_neg h, if_neg h, if_pos (by simp [h])]
/-- what is found by clauses K -/
def fnM (m : Mem) (K : List CL) : Mem := up (up m 5000 17 (if K.any (chd (mL m)) = true then 1 else 0)) 5000 14 (kval (mL m) K)
theorem fn_o (m : Mem) (K : List CL) {b : Int} (h : b ≠ 5000) : fnM m K b = m b := by unfold fnM; rw [up_na _ h, up_na _ h]
theorem fn_k (m : Mem) (K : List CL) {k : Int} (h : k ≠ 14) (h' : k ≠ 17) : fnM m K 5000 k = m 5000 k := by unfold fnM; rw [up_nj _ h, up_nj _ h']
theorem fn_14 (m : Mem) (K : List CL) : fnM m K 5000 14 = kval (mL m) K := by unfold fnM; rw [up_s]
theorem fn_17 (m : Mem) (K : List CL) : fnM m K 5000 17 = if K.any (chd (mL m)) = true then 1 else 0 := by unfold fnM; rw [up_nj _ (by decide), up_s]
theorem fn_17b (m : Mem) (K : List CL) : fnM m K 5000 17 = 0 ∨ fnM m K 5000 17 = 1 := by rw [fn_17]; split <;> omega
theorem fn_L (m : Mem) (K : List CL) : mL (fnM m K) = mL m := by funext j; unfold mL; rw [fn_o _ _ (by decide)]
theorem fn_tx {m : Mem} (h : txOk m) (K : List CL) : mtx (fnM m K) = mtx m ∧ txOk (fnM m K) := by
  have hT := tx_T h
  constructor
  · funext i; unfold mtx
    rw [fn_k _ _ (by decide) (by decide), fn_k _ _ (by decide) (by decide), fn_k _ _ (by decide) (by decide), fn_o _ _ (by omega)]
  · unfold txOk
    rw [fn_k _ _ (by decide) (by decide), fn_k _ _ (by decide) (by decide), fn_k _ _ (by decide) (by decide), fn_o _ _ (by omega)]
    exact h
theorem clF_fn (m : Mem) (K : List CL) (k : CL) : clF (fnM m K) k = fnM m (K ++ [k]) := by
  unfold clF
  rw [fn_17, fn_L]
  have ea : (K ++ [k]).any (chd (mL m)) = (K.any (chd (mL m)) || chd (mL m) k) := by simp
  have ek := kval_app (L := mL m) k K
  by_cases h : K.any (chd (mL m)) = true
  · rw [if_neg (fun o => by rw [if_pos h] at o; exact absurd o.1 (by decide))]
    rw [if_pos h] at ek
    unfold fnM
    rw [ek, ea, h, Bool.true_or]
  · rw [if_neg h] at ek
    by_cases hc : chd (mL m) k = true
    · rw [if_pos ⟨if_neg h, hc⟩]
      rw [if_pos hc] at ek
      unfold fnM
      rw [ek, ea, hc, Bool.or_true, if_pos rfl]
      funext b j; unfold up; (repeat' split) <;> first | rfl | omega
    · rw [if_neg (fun o => hc o.2)]
      rw [if_neg hc] at ek
      have h' : K.any (chd (mL m)) = false := by simpa using h
      have hc' : chd (mL m) k = false := by simpa using hc
      unfold fnM
      rw [ek, ea, h', hc', kval_none h']; rfl
def lpre (K0 : List CL) (R : Int ⊕ List CL) : Int ⊕ List CL := match R with
  | .inl q => .inl q
  | .inr K => .inr (K0 ++ K)
theorem lpre_lpre (A B : List CL) (R : Int ⊕ List CL) : lpre A (lpre B R) = lpre (A ++ B) R := by
  cases R with
  | inl q => rfl
  | inr K => show Sum.inr (A ++ (B ++ K)) = Sum.inr (A ++ B ++ K); rw [List.append_assoc]
/-- behind a clause -/
def gLc (t : Int → Int) (n : Int) (f : Nat) (x : Int × CL) : Int ⊕ List CL := if t (sk t n x.1) = 59 then lpre [x.2] (gLw t n f (sk t n x.1 + 1)) else if t (sk t n x.1) = -1 then .inr [x.2] else .inl (sk t n x.1)
theorem gLw_c (t : Int → Int) (n : Int) (f : Nat) (p : Int) : gLw t n (f + 1) p = match gCl t n p with | .inl q => .inl q | .inr x => gLc t n f x := by
  rw [gLw]
  cases gCl t n p with
  | inl q => rfl
  | inr x =>
    dsimp only
    unfold gLc
    by_cases c : t (sk t n x.1) = 59
    · rw [if_pos c, if_pos c]
      cases gLw t n f (sk t n x.1 + 1) <;> rfl
    · rw [if_neg c, if_neg c]
def txt (σ : Mem) (a b n i : Int) : Int := if 0 ≤ i ∧ i < n then σ a (b + i) % 256 else -1
def txtOk (σ : Mem) (a b n : Int) : Prop := 0 ≤ n ∧ n ≤ 240 ∧ ((a = 5001 ∧ b = 0) ∨ (a = 5002 ∧ 0 ≤ b ∧ b ≤ 720)) ∧ ∀ i, 0 ≤ i → i < n → -128 ≤ σ a (b + i) ∧ σ a (b + i) ≤ 127
/-- what reading may change -/
def GF (σ τ : Mem) : Prop := (∀ b, b ≠ 5000 → τ b = σ b) ∧ ∀ k, k ≠ 5 → (k < 8 ∨ 14 < k) → k ≠ 17 → τ 5000 k = σ 5000 k
def lwB (σ : Mem) (a b n : Int) : Mem := up (stsM σ a b n) 5000 13 121
theorem lwB_tx {σ : Mem} {a b n : Int} (h : txtOk σ a b n) : txOk (lwB σ a b n) ∧ mtx (lwB σ a b n) = txt σ a b n ∧ lwB σ a b n 5000 9 = n ∧ mL (lwB σ a b n) = mL σ ∧ lwB σ a b n 5000 13 = 121 := by
  obtain ⟨h0, h1, h2, h3⟩ := h
  have e9 : lwB σ a b n 5000 9 = n := rfl
  have e5 : lwB σ a b n 5000 5 = a := rfl
  have e8 : lwB σ a b n 5000 8 = b := rfl
  have eo : ∀ c, c ≠ 5000 → lwB σ a b n c = σ c := fun c hc => by unfold lwB stsM; simp only [up_na _ hc]
  refine ⟨?_, ?_, e9, ?_, rfl⟩
  · unfold txOk
    rw [e9, e5, e8, eo a (by omega)]
    exact ⟨h0, h1, h2, h3⟩
  · funext i; unfold mtx txt
    rw [e9, e5, e8, eo a (by omega)]
  · funext j; unfold mL; rw [eo _ (by decide)]
theorem lwB_GF (σ : Mem) (a b n : Int) (K : List CL) (p f d : Int) : GF σ (rdM (fnM (lwB σ a b n) K) p f d) := by
  refine ⟨fun c hc => ?_, fun k h5 h8 h17 => ?_⟩
  · rw [rd_r _ _ _ _ hc, fn_o _ _ hc]; unfold lwB stsM; simp only [up_na _ hc]
  · rw [rd_o _ _ _ _ (by omega), fn_k _ _ (by omega) h17]
    unfold lwB stsM
    rw [up_nj _ (by omega), up_nj _ (by omega), up_nj _ (by omega), up_nj _ (by omega), up_nj _ (by omega), up_nj _ (by omega)]
theorem lwB_s (σ : Mem) (a b n : Int) : up (up (up (up (stsM σ a b n) 5000 13 121) 5000 12 0) 5000 17 0) 5000 14 0 = rdM (fnM (lwB σ a b n) []) 0 (-1) 0 := by
  have e : kval (mL (lwB σ a b n)) [] = 0 := rfl
  funext c j
  unfold rdM fnM
  rw [e]
  unfold lwB stsM up
  simp only [List.any_nil]
  (repeat' split) <;> first | rfl | omega

theorem wd_1508 : Cond.methodLink RX12 222 yX12_starts ∈ TBL := tb_tab (List.mem_of_getElem? (i := 1508) (by decide +kernel)) rfl
theorem wd_1511 : Cond.code yX12_starts cX12_starts 4 (none) ∈ TBL := tb_tab (List.mem_of_getElem? (i := 1511) (by decide +kernel)) rfl
theorem lk_X12_222 : amLk RX12 222 yX12_starts cX12_starts 4 (none) 3 := ⟨wd_1508, wd_12, wd_1511, by decide +kernel, by decide +kernel, by decide⟩
theorem wd_1510 : Cond.instanceMethod yX12_starts ∈ TBL := tb_tab (List.mem_of_getElem? (i := 1510) (by decide +kernel)) rfl
theorem sl_X12_starts : Cond.selects RX12 yX12_starts yX12_starts ∈ TBL := tb_sel (List.mem_of_getElem? (i := 49) (by decide +kernel)) rfl
theorem fp_X12_216 : amFp RX12 12 13 216 RX12 TX12 57 tyX12 .int := ⟨fl_X12_216, tyX12_ok, nmX12, by decide +kernel⟩
theorem wd_1569 : Cond.methodLink RX12 226 yX12_clause ∈ TBL := tb_tab (List.mem_of_getElem? (i := 1569) (by decide +kernel)) rfl
theorem wd_1572 : Cond.code yX12_clause cX12_clause 5 (none) ∈ TBL := tb_tab (List.mem_of_getElem? (i := 1572) (by decide +kernel)) rfl
theorem lk_X12_226 : amLk RX12 226 yX12_clause cX12_clause 5 (none) 0 := ⟨wd_1569, wd_12, wd_1572, by decide +kernel, by decide +kernel, by decide⟩
theorem wd_1571 : Cond.instanceMethod yX12_clause ∈ TBL := tb_tab (List.mem_of_getElem? (i := 1571) (by decide +kernel)) rfl
theorem sl_X12_clause : Cond.selects RX12 yX12_clause yX12_clause ∈ TBL := tb_sel (List.mem_of_getElem? (i := 59) (by decide +kernel)) rfl
def a_X12_goThrough  : AC := [(0, vAload 0 1), (1, vAload 1 2), (2, vIload 2 3), (3, vIload 3 4), (4, vCallMV w_X12_starts 28 3 7), (7, vAload 0 8), (8, vI 121 10), (10, vPutI 28 13 13), (13, vAload 0 14), (14, vI 0 15), (15, vPutI 28 12 18), (18, vAload 0 19), (19, vI 0 20), (20, vPutZ 28 17 23), (23, vAload 0 24), (24, vI 0 25), (25, vPutI 28 14 28), (28, vAload 0 29), (29, vCallMV w_X12_clause 28 0 32), (32, vAload 0 33), (33, vGetI 28 11 36), (36, vI (-1) 37), (37, vIcNe 66 40), (40, vAload 0 41), (41, vCallM w_X12_look 28 0 44), (44, vI 59 46), (46, vIcNe 66 49), (49, vAload 0 50), (50, vDup 51), (51, vGetI 28 10 54), (54, vI 1 55), (55, vIadd 56), (56, vPutI 28 10 59), (59, vAload 0 60), (60, vCallMV w_X12_clause 28 0 63), (63, vGoto 32), (66, vAload 0 67), (67, vGetI 28 11 70), (70, vI (-1) 71), (71, vIcNe 87 74), (74, vAload 0 75), (75, vCallM w_X12_look 28 0 78), (78, vI (-1) 79), (79, vIcEq 87 82), (82, vAload 0 83), (83, vCallM w_X12_fails 28 0 86), (86, vPop 87), (87, vVret)]
theorem k_X12_goThrough_0  : look a_X12_goThrough 0 = vAload 0 1 := rfl
theorem k_X12_goThrough_1  : look a_X12_goThrough 1 = vAload 1 2 := rfl
theorem k_X12_goThrough_2  : look a_X12_goThrough 2 = vIload 2 3 := rfl
theorem k_X12_goThrough_3  : look a_X12_goThrough 3 = vIload 3 4 := rfl
theorem k_X12_goThrough_4  : look a_X12_goThrough 4 = vCallMV w_X12_starts 28 3 7 := rfl
theorem k_X12_goThrough_7  : look a_X12_goThrough 7 = vAload 0 8 := rfl
theorem k_X12_goThrough_8  : look a_X12_goThrough 8 = vI 121 10 := rfl
theorem k_X12_goThrough_10  : look a_X12_goThrough 10 = vPutI 28 13 13 := rfl
theorem k_X12_goThrough_13  : look a_X12_goThrough 13 = vAload 0 14 := rfl
theorem k_X12_goThrough_14  : look a_X12_goThrough 14 = vI 0 15 := rfl
theorem k_X12_goThrough_15  : look a_X12_goThrough 15 = vPutI 28 12 18 := rfl
theorem k_X12_goThrough_18  : look a_X12_goThrough 18 = vAload 0 19 := rfl
theorem k_X12_goThrough_19  : look a_X12_goThrough 19 = vI 0 20 := rfl
theorem k_X12_goThrough_20  : look a_X12_goThrough 20 = vPutZ 28 17 23 := rfl
theorem k_X12_goThrough_23  : look a_X12_goThrough 23 = vAload 0 24 := rfl
theorem k_X12_goThrough_24  : look a_X12_goThrough 24 = vI 0 25 := rfl
theorem k_X12_goThrough_25  : look a_X12_goThrough 25 = vPutI 28 14 28 := rfl
theorem k_X12_goThrough_28  : look a_X12_goThrough 28 = vAload 0 29 := rfl
theorem k_X12_goThrough_29  : look a_X12_goThrough 29 = vCallMV w_X12_clause 28 0 32 := rfl
theorem k_X12_goThrough_32  : look a_X12_goThrough 32 = vAload 0 33 := rfl
theorem k_X12_goThrough_33  : look a_X12_goThrough 33 = vGetI 28 11 36 := rfl
theorem k_X12_goThrough_36  : look a_X12_goThrough 36 = vI (-1) 37 := rfl
theorem k_X12_goThrough_37  : look a_X12_goThrough 37 = vIcNe 66 40 := rfl
theorem k_X12_goThrough_40  : look a_X12_goThrough 40 = vAload 0 41 := rfl
theorem k_X12_goThrough_41  : look a_X12_goThrough 41 = vCallM w_X12_look 28 0 44 := rfl
theorem k_X12_goThrough_44  : look a_X12_goThrough 44 = vI 59 46 := rfl
theorem k_X12_goThrough_46  : look a_X12_goThrough 46 = vIcNe 66 49 := rfl
theorem k_X12_goThrough_49  : look a_X12_goThrough 49 = vAload 0 50 := rfl
theorem k_X12_goThrough_50  : look a_X12_goThrough 50 = vDup 51 := rfl
theorem k_X12_goThrough_51  : look a_X12_goThrough 51 = vGetI 28 10 54 := rfl
theorem k_X12_goThrough_54  : look a_X12_goThrough 54 = vI 1 55 := rfl
theorem k_X12_goThrough_55  : look a_X12_goThrough 55 = vIadd 56 := rfl
theorem k_X12_goThrough_56  : look a_X12_goThrough 56 = vPutI 28 10 59 := rfl
theorem k_X12_goThrough_59  : look a_X12_goThrough 59 = vAload 0 60 := rfl
theorem k_X12_goThrough_60  : look a_X12_goThrough 60 = vCallMV w_X12_clause 28 0 63 := rfl
theorem k_X12_goThrough_63  : look a_X12_goThrough 63 = vGoto 32 := rfl
theorem k_X12_goThrough_66  : look a_X12_goThrough 66 = vAload 0 67 := rfl
theorem k_X12_goThrough_67  : look a_X12_goThrough 67 = vGetI 28 11 70 := rfl
theorem k_X12_goThrough_70  : look a_X12_goThrough 70 = vI (-1) 71 := rfl
theorem k_X12_goThrough_71  : look a_X12_goThrough 71 = vIcNe 87 74 := rfl
theorem k_X12_goThrough_74  : look a_X12_goThrough 74 = vAload 0 75 := rfl
theorem k_X12_goThrough_75  : look a_X12_goThrough 75 = vCallM w_X12_look 28 0 78 := rfl
theorem k_X12_goThrough_78  : look a_X12_goThrough 78 = vI (-1) 79 := rfl
theorem k_X12_goThrough_79  : look a_X12_goThrough 79 = vIcEq 87 82 := rfl
theorem k_X12_goThrough_82  : look a_X12_goThrough 82 = vAload 0 83 := rfl
theorem k_X12_goThrough_83  : look a_X12_goThrough 83 = vCallM w_X12_fails 28 0 86 := rfl
theorem k_X12_goThrough_86  : look a_X12_goThrough 86 = vPop 87 := rfl
theorem k_X12_goThrough_87  : look a_X12_goThrough 87 = vVret := rfl
theorem o_X12_goThrough {X : amX}   (e1 : XT X = TT) (e2 : XD X = 55) (hB : amB X RX12 cX12_goThrough (none) 4) : ∀ pc, amOK X pc (look a_X12_goThrough pc) := by
  have hT : amTok (XT X) := e1 ▸ TT_ok
  refine look_ok ?_
  unfold a_X12_goThrough
  refine fc (ok_aload_n hB dX12_goThrough_0) ?_
  refine fc (ok_aload_n hB dX12_goThrough_1) ?_
  refine fc (ok_iload_n hB dX12_goThrough_2) ?_
  refine fc (ok_iload_n hB dX12_goThrough_3) ?_
  refine fc (ok_callMV hB hT (e1 ▸ s_X12_starts) lk_X12_222 (by rw [e2]; omega) (c := 12) rfl rfl rfl wd_1510 sl_X12_starts dX12_goThrough_4) ?_
  refine fc (ok_aload_n hB dX12_goThrough_7) ?_
  refine fc (ok_bipush hB dX12_goThrough_8 (by decide)) ?_
  refine fc (ok_putI hB hT fp_X12_216 rfl rfl rfl af_12_13 dX12_goThrough_10) ?_
  refine fc (ok_aload_n hB dX12_goThrough_13) ?_
  refine fc (ok_iconst hB dX12_goThrough_14) ?_
  refine fc (ok_putI hB hT fp_X12_146 rfl rfl rfl af_12_12 dX12_goThrough_15) ?_
  refine fc (ok_aload_n hB dX12_goThrough_18) ?_
  refine fc (ok_iconst hB dX12_goThrough_19) ?_
  refine fc (ok_putZ hB hT fp_X12_212 rfl rfl rfl af_12_17 dX12_goThrough_20) ?_
  refine fc (ok_aload_n hB dX12_goThrough_23) ?_
  refine fc (ok_iconst hB dX12_goThrough_24) ?_
  refine fc (ok_putI hB hT fp_X12_219 rfl rfl rfl af_12_14 dX12_goThrough_25) ?_
  refine fc (ok_aload_n hB dX12_goThrough_28) ?_
  refine fc (ok_callMV hB hT (e1 ▸ s_X12_clause) lk_X12_226 (by rw [e2]; omega) (c := 12) rfl rfl rfl wd_1571 sl_X12_clause dX12_goThrough_29) ?_
  refine fc (ok_aload_n hB dX12_goThrough_32) ?_
  refine fc (ok_getI hB hT fl_X12_143 rfl rfl (Or.inl af_12_11) dX12_goThrough_33) ?_
  refine fc (ok_iconst hB dX12_goThrough_36) ?_
  refine fc (ok_icmp_ne hB (t := 66) (by decide) dX12_goThrough_37) ?_
  refine fc (ok_aload_n hB dX12_goThrough_40) ?_
  refine fc (ok_callM hB hT (e1 ▸ s_X12_look) lk_X12_153 (by rw [e2]; omega) (c := 12) rfl rfl rfl wd_1521 sl_X12_look dX12_goThrough_41) ?_
  refine fc (ok_bipush hB dX12_goThrough_44 (by decide)) ?_
  refine fc (ok_icmp_ne hB (t := 66) (by decide) dX12_goThrough_46) ?_
  refine fc (ok_aload_n hB dX12_goThrough_49) ?_
  refine fc (ok_dup hB dX12_goThrough_50) ?_
  refine fc (ok_getI hB hT fl_X12_134 rfl rfl (Or.inl af_12_10) dX12_goThrough_51) ?_
  refine fc (ok_iconst hB dX12_goThrough_54) ?_
  refine fc (ok_iadd hB dX12_goThrough_55) ?_
  refine fc (ok_putI hB hT fp_X12_134 rfl rfl rfl af_12_10 dX12_goThrough_56) ?_
  refine fc (ok_aload_n hB dX12_goThrough_59) ?_
  refine fc (ok_callMV hB hT (e1 ▸ s_X12_clause) lk_X12_226 (by rw [e2]; omega) (c := 12) rfl rfl rfl wd_1571 sl_X12_clause dX12_goThrough_60) ?_
  refine fc (ok_goto hB (t := 32) (by decide) dX12_goThrough_63) ?_
  refine fc (ok_aload_n hB dX12_goThrough_66) ?_
  refine fc (ok_getI hB hT fl_X12_143 rfl rfl (Or.inl af_12_11) dX12_goThrough_67) ?_
  refine fc (ok_iconst hB dX12_goThrough_70) ?_
  refine fc (ok_icmp_ne hB (t := 87) (by decide) dX12_goThrough_71) ?_
  refine fc (ok_aload_n hB dX12_goThrough_74) ?_
  refine fc (ok_callM hB hT (e1 ▸ s_X12_look) lk_X12_153 (by rw [e2]; omega) (c := 12) rfl rfl rfl wd_1521 sl_X12_look dX12_goThrough_75) ?_
  refine fc (ok_iconst hB dX12_goThrough_78) ?_
  refine fc (ok_icmp_eq hB (t := 87) (by decide) dX12_goThrough_79) ?_
  refine fc (ok_aload_n hB dX12_goThrough_82) ?_
  refine fc (ok_callM hB hT (e1 ▸ s_X12_fails) lk_X12_149 (by rw [e2]; omega) (c := 12) rfl rfl rfl wd_1525 sl_X12_fails dX12_goThrough_83) ?_
  refine fc (ok_pop hB dX12_goThrough_86) ?_
  refine fc (ok_vret hB dX12_goThrough_87) ?_
  exact fn
def inv_gth (m : Mem) (G : Int ⊕ List CL) (a b nn : Int) (n pc : Nat) (ls st : List AV) (σ' : Mem) : Prop := pc = 32 ∧ st = [] ∧ ls = [(28, 5000), (10, a), (0, b), (0, nn)] ∧
  ((n = 0 ∧ ∃ K f p d, σ' = rdM (fnM m K) p f d ∧ G = .inl f ∧ 0 ≤ f ∧ f ≤ 240) ∨
   (∃ (f : Nat) (K : List CL) (x : Int × CL) (p : Int), n = f + 1 ∧ σ' = rdM (fnM m (K ++ [x.2])) p (-1) 0 ∧ 0 ≤ p ∧ p ≤ m 5000 9 ∧ sk (mtx m) (m 5000 9) p = sk (mtx m) (m 5000 9) x.1 ∧ 0 ≤ x.1 ∧ x.1 ≤ m 5000 9 ∧ m 5000 9 - x.1 < f ∧ G = lpre K (gLc (mtx m) (m 5000 9) f x)))
def w_X12_goThrough : WP := fun av σ Q => ∃ (a : Int) (b : Int) (n : Int), av = [(28, 5000), (10, a), (0, b), (0, n)] ∧ (txtOk σ a b n ∧ lbd (mL σ) ∧ (∀ τ f, gLw (txt σ a b n) n 241 0 = .inl f → 0 ≤ f → f ≤ 240 → GF σ τ → τ 5000 11 = f → Q (6, 0) τ) ∧ (∀ τ K, gLw (txt σ a b n) n 241 0 = .inr K → GF σ τ → τ 5000 11 = -1 → τ 5000 14 = kval (mL σ) K → Q (6, 0) τ))
theorem w_X12_goThrough_e (a : Int) (b : Int) (n : Int) (σ : Mem) (Q : AV → Mem → Prop) : w_X12_goThrough [(28, 5000), (10, a), (0, b), (0, n)] σ Q = (txtOk σ a b n ∧ lbd (mL σ) ∧ (∀ τ f, gLw (txt σ a b n) n 241 0 = .inl f → 0 ≤ f → f ≤ 240 → GF σ τ → τ 5000 11 = f → Q (6, 0) τ) ∧ (∀ τ K, gLw (txt σ a b n) n 241 0 = .inr K → GF σ τ → τ 5000 11 = -1 → τ 5000 14 = kval (mL σ) K → Q (6, 0) τ)) := by
  apply propext; constructor
  · rintro ⟨a', b', n', h9, hb9⟩; cases h9; exact hb9
  · intro hb9; exact ⟨a, b, n, rfl, hb9⟩

set_option maxRecDepth 100000 in
set_option maxHeartbeats 4000000 in
theorem s_X12_goThrough   : ∀ av σ Q, w_X12_goThrough  av σ Q → amCall (55) 0 0 TT yX12_goThrough cX12_goThrough 4 (none) av σ Q := by
  rintro av σ Q ⟨a, b, n, rfl, htx, hL, hq1, hq2⟩
  obtain ⟨ht, em, e9, eL, e13⟩ := lwB_tx htx
  have hs := lwB_s σ a b n
  have hGF := lwB_GF σ a b n
  rw [← em] at hq1 hq2
  rw [← eL] at hq2 hL
  generalize hm : lwB σ a b n = m at *
  have hn : n = m 5000 9 := e9.symm
  have n0 := ht.1
  have n1 := ht.2.1
  have ha : a = 5001 ∨ a = 5002 := by have := htx.2.2.1; omega
  have a0 : 0 ≤ a := by omega
  rw [hn] at hq1 hq2
  have mt : ∀ K p f d, mtx (rdM (fnM m K) p f d) = mtx m := fun K p f d => by rw [mtx_rd (fn_tx ht K).2, (fn_tx ht K).1]
  have f9 : ∀ K, fnM m K 5000 9 = m 5000 9 := fun K => fn_k m K (by decide) (by decide)
  have f13 : ∀ K, fnM m K 5000 13 = 121 := fun K => (fn_k m K (by decide) (by decide)).trans e13
  have mk : ∀ K p f d, msk (rdM (fnM m K) p f d) = sk (mtx m) (m 5000 9) p := fun K p f d => by unfold msk; rw [mt, rd_9, f9, rd_10]
  have tO : ∀ K p f d, txOk (rdM (fnM m K) p f d) := fun K p f d => txOk_rd (fn_tx ht K).2 p f d
  have hrd : ∀ K q, 0 ≤ q → q ≤ m 5000 9 → rdOk (rdM (fnM m K) q (-1) 0) 6 := fun K q a b => rdOk_rd (fn_tx ht K).2 (by rw [fn_L]; exact hL) a (by rw [f9]; exact b) rfl (by decide)
  have ltn : ∀ q, mtx m q ≠ -1 → q < m 5000 9 := fun q h => sk_lt (mtx_n ht) h
  have k17 : ∀ K, fnM m K 5000 17 = 0 ∨ fnM m K 5000 17 = 1 := fn_17b m
  have crd : ∀ K k p f d p' f' d', rdM (clF (rdM (fnM m K) p f d) k) p' f' d' = rdM (fnM m (K ++ [k])) p' f' d' := fun K k p f d p' f' d' => by rw [clF_rd, clF_fn]
  generalize hG : gLw (mtx m) (m 5000 9) 241 0 = G at *
  refine am_m [32] (inv_gth m G a b n) (own := RX12) (A := look a_X12_goThrough) (fun X e1 e2 hB => o_X12_goThrough e1 e2 hB) rfl (by decide +kernel) rfl rfl ?_ ⟨90, ?_⟩ (w := 4)
  · rintro n' pc ls st σ' ⟨rfl, rfl, rfl, ⟨rfl, K, f, p, d, rfl, rfl, f0, f1⟩ | ⟨f, K, x, p, rfl, rfl, p0, p1, hsk, x0, x1, hf, hGx⟩⟩
    · have h0 := hq1 (rdM (fnM m K) p f d) f rfl f0 f1 (hGF K p f d) rfl
      refine ⟨90, ?_⟩
      simp only [↓reduceIte, inR_0, inR_1, inR_m, vSw2_e, swP_n, swP_c, vI_e, vL_e, vNull_e, vIload_e, vLload_e, vAload_e, vIstore_e, vLstore_e, vAstore_e, vIinc_e, vIadd_e, vIsub_e, vImul_e, vIand_e, vIor_e, vIxor_e, vIshl_e, vIshr_e, vIushr_e, vIdiv_e, vIrem_e, vLadd_e, vLsub_e, vLmul_e, vLand_e, vLor_e, vLxor_e, vLdiv_e, vLrem_e, vLushr_e, vLshl_e, vLcmp_e, vIneg_e, vI2l_e, vL2i_e, vI2b_e, vI2c_e, vDup_e, vPop_e, vDup2_e, vGoto_e, vIcEq_e, vIfEq_e, vIcNe_e, vIfNe_e, vIcLt_e, vIfLt_e, vIcGe_e, vIfGe_e, vIcGt_e, vIfGt_e, vIcLe_e, vIfLe_e, vNonnull_e, vSw_e, vGetI_e, vGetL_e, vGetR_e, vPutI_e, vPutZ_e, vPutL_e, vPutR_e, vIald_e, vIald_s, vLald_e, vBald_e, vBald_s, vAald_e, vIast_e, vLast_e, vBast_e, vAast_e, vAlen_e8, vAlen_e9, vAlen_e10, vAlen_e11, vAlen_e5, vAlen_e3, vGets_e, vCompact_e, vLdcS_e, vIret_e, vZret_e, vCret_e, vBret_e, vLret_e, vVret_e, vAret_e, vCallM_e0, vCallMV_e0, vCallS_e0, vCallSV_e0, vCallM_e1, vCallMV_e1, vCallS_e1, vCallSV_e1, vCallM_e2, vCallMV_e2, vCallS_e2, vCallSV_e2, vCallM_e3, vCallMV_e3, vCallS_e3, vCallSV_e3, vCallM_e4, vCallMV_e4, vCallS_e4, vCallSV_e4, vCallM_e5, vCallMV_e5, vCallS_e5, vCallSV_e5, vCallM_e6, vCallMV_e6, vCallS_e6, vCallSV_e6, vCallM_e7, vCallMV_e7, vCallS_e7, vCallSV_e7, vBad_e, vStrVal_e, vStrCod_e, vForm_e, vCallT_e0, vCallT_e1, vCallT_e2, vCopy_e, rf_0_0, rf_0_1, rf_0_2, rf_0_3, rf_0_4, rf_0_7, rf_0_10, rf_0_11, rf_0_12, rf_0_13, rf_0_14, rf_0_15, rf_0_16, rf_1_0, rf_3_0, rf_3_1, rf_6_0, rf_6_1, rf_9_0, rf_9_1, rf_9_3, rf_13_0, rf_13_1, rf_13_2, rf_16_0, rf_16_1, rf_16_2, rf_16_3, rf_21_0, rf_21_1, rf_21_2, rf_21_3, rf_26_0, rf_26_1, rf_26_2, rf_26_3, rf_26_4, rf_26_5, rf_26_6, rf_31_0, rf_31_2, rf_31_5, rf_31_6, rf_36_0, rf_36_1, rf_36_2, rf_36_3, rf_39_0, rf_39_1, rf_39_2, rf_41_0, rf_41_1, rf_41_2, rf_41_3, rf_5000_1, rf_5000_2, rf_5000_3, rf_5000_4, rf_5000_5, rf_5000_15, rf_5000_16, rf_5000_18, rf_5000_19, rf_5000_20, rf_5000_21, rf_5000_22, rf_5000_23, rf_5000_24, rf_5000_25, rf_5000_26, rf_5000_27, rf_5000_36, rf_5000_37, rf_5000_40, rf_5000_41, rf_5000_42, rf_5000_43, rf_5000_44, rf_5000_45, rf_5000_47, rf_5000_52, rf_5000_54, rf_5000_55, rf_100_0, rf_100_1, rf_103_0, rf_103_1, rf_106_0, rf_106_1, rf_109_0, rf_109_1, al_2, al_4, al_5, al_7, al_8, al_10, al_11, al_12, al_14, al_15, al_17, al_18, al_19, al_20, al_22, al_23, al_24, al_25, al_27, al_28, al_29, al_30, al_32, al_33, al_34, al_35, al_37, al_38, al_40, al_42, al_5001, al_5002, al_5003, al_5004, al_5005, al_5006, al_5007, al_5008, al_5009, al_5010, al_5011, al_5012, al_5013, al_5014, al_5015, al_5016, al_5017, al_5018, al_5019, al_5020, al_5021, al_5022, al_5023, al_5024, al_5025, al_5026, al_9000, al_101, al_102, al_104, al_105, al_107, al_108, al_110, al_111, vcs_e, lg_c0, lg_cs, lg_nil, set_c0, set_cs, okst_0, okst_s, acok_n, acok_c, List.contains_nil, List.contains_cons, Bool.or_false, Bool.false_or, Bool.false_eq_true, if_false, if_true, ite_self, ne_eq, true_and, and_true, not_false_eq_true, not_true_eq_false, false_imp_iff, true_imp_iff, Nat.ble_eq, Bool.and_eq_true, reduceCtorEq, or_false, false_or, or_true, true_or, false_and, and_false, and_self, Int.reduceLE, Int.reduceAdd, Int.reduceSub, Int.reduceMul, Int.reduceNeg, Int.reduceLT, Int.reduceEq, Int.reduceNe, Nat.reduceBEq, Nat.reduceBNe, Nat.reduceEqDiff, amCmp_in, amCmp_lt, amCmp_le, amCmp_gt, amCmp_ge, amCmp_eq, amCmp_ne, Nat.reduceLeDiff, Nat.reduceSub, Bool.and_true, Bool.true_and, Bool.and_self, Bool.or_true, Bool.true_or, isRf_3, isRf_4, isRf_5, isRf_8, isRf_9, isRf_10, isRf_11, isRf_15, isRf_16, isRf_17, isRf_18, isRf_19, isRf_20, isRf_21, isRf_22, isRf_23, isRf_24, isRf_25, isRf_26, isRf_27, isRf_28, k_X12_goThrough_0, k_X12_goThrough_1, k_X12_goThrough_2, k_X12_goThrough_3, k_X12_goThrough_4, k_X12_goThrough_7, k_X12_goThrough_8, k_X12_goThrough_10, k_X12_goThrough_13, k_X12_goThrough_14, k_X12_goThrough_15, k_X12_goThrough_18, k_X12_goThrough_19, k_X12_goThrough_20, k_X12_goThrough_23, k_X12_goThrough_24, k_X12_goThrough_25, k_X12_goThrough_28, k_X12_goThrough_29, k_X12_goThrough_32, k_X12_goThrough_33, k_X12_goThrough_36, k_X12_goThrough_37, k_X12_goThrough_40, k_X12_goThrough_41, k_X12_goThrough_44, k_X12_goThrough_46, k_X12_goThrough_49, k_X12_goThrough_50, k_X12_goThrough_51, k_X12_goThrough_54, k_X12_goThrough_55, k_X12_goThrough_56, k_X12_goThrough_59, k_X12_goThrough_60, k_X12_goThrough_63, k_X12_goThrough_66, k_X12_goThrough_67, k_X12_goThrough_70, k_X12_goThrough_71, k_X12_goThrough_74, k_X12_goThrough_75, k_X12_goThrough_78, k_X12_goThrough_79, k_X12_goThrough_82, k_X12_goThrough_83, k_X12_goThrough_86, k_X12_goThrough_87, w_X12_clause_e, w_X12_fails_e, w_X12_look_e, w_X12_starts_e, rd_11]
      repeat' (first | assumption | exact tO _ _ _ _ | exact hrd _ _ (by omega) (by omega) | exact htx | exact hL | apply And.intro | intro _)
      all_goals first | omega | exact absurd trivial (by assumption) | exact h0
    · have sb := sk_b (mtx m) x1
      have tb := mtx_b ht (sk (mtx m) (m 5000 9) x.1)
      have sks := sk_sk (mtx m) x1
      unfold gLc at hGx
      generalize hq : sk (mtx m) (m 5000 9) x.1 = q at *
      by_cases c : mtx m q = 59
      · have hlt := ltn q (by omega)
        rw [if_pos c, lpre_lpre] at hGx
        obtain ⟨f, rfl⟩ : ∃ f', f = f' + 1 := ⟨f - 1, by omega⟩
        rw [gLw_c] at hGx
        have cb := gCl_b (mtx_n ht) (p := q + 1) (by omega) (by omega)
        have i1 : ∀ f' p' d, gCl (mtx m) (m 5000 9) (q + 1) = .inl f' → ∃ k, k < f + 1 + 1 ∧ inv_gth m G a b n k 32 [(28, 5000), (10, a), (0, b), (0, n)] [] (rdM (fnM m (K ++ [x.2])) p' f' d) := fun f' p' d e => by
          rw [e] at cb hGx
          have cb' : q + 1 ≤ f' ∧ f' ≤ m 5000 9 := cb
          exact ⟨0, by omega, rfl, rfl, rfl, Or.inl ⟨rfl, K ++ [x.2], f', p', d, rfl, hGx, by omega, by omega⟩⟩
        have i2 : ∀ y p', gCl (mtx m) (m 5000 9) (q + 1) = .inr y → 0 ≤ p' → p' ≤ m 5000 9 → sk (mtx m) (m 5000 9) p' = sk (mtx m) (m 5000 9) y.1 → ∃ k, k < f + 1 + 1 ∧ inv_gth m G a b n k 32 [(28, 5000), (10, a), (0, b), (0, n)] [] (rdM (fnM m (K ++ [x.2] ++ [y.2])) p' (-1) 0) := fun y p' e h0 h1 h2 => by
          rw [e] at cb hGx
          have cb' : q + 1 < y.1 ∧ y.1 ≤ m 5000 9 := cb
          exact ⟨f + 1, by omega, rfl, rfl, rfl, Or.inr ⟨f, K ++ [x.2], y, p', rfl, rfl, h0, h1, h2, by omega, by omega, by omega, hGx⟩⟩
        have h17 := k17 (K ++ [x.2])
        refine ⟨90, ?_⟩
        simp only [↓reduceIte, inR_0, inR_1, inR_m, vSw2_e, swP_n, swP_c, vI_e, vL_e, vNull_e, vIload_e, vLload_e, vAload_e, vIstore_e, vLstore_e, vAstore_e, vIinc_e, vIadd_e, vIsub_e, vImul_e, vIand_e, vIor_e, vIxor_e, vIshl_e, vIshr_e, vIushr_e, vIdiv_e, vIrem_e, vLadd_e, vLsub_e, vLmul_e, vLand_e, vLor_e, vLxor_e, vLdiv_e, vLrem_e, vLushr_e, vLshl_e, vLcmp_e, vIneg_e, vI2l_e, vL2i_e, vI2b_e, vI2c_e, vDup_e, vPop_e, vDup2_e, vGoto_e, vIcEq_e, vIfEq_e, vIcNe_e, vIfNe_e, vIcLt_e, vIfLt_e, vIcGe_e, vIfGe_e, vIcGt_e, vIfGt_e, vIcLe_e, vIfLe_e, vNonnull_e, vSw_e, vGetI_e, vGetL_e, vGetR_e, vPutI_e, vPutZ_e, vPutL_e, vPutR_e, vIald_e, vIald_s, vLald_e, vBald_e, vBald_s, vAald_e, vIast_e, vLast_e, vBast_e, vAast_e, vAlen_e8, vAlen_e9, vAlen_e10, vAlen_e11, vAlen_e5, vAlen_e3, vGets_e, vCompact_e, vLdcS_e, vIret_e, vZret_e, vCret_e, vBret_e, vLret_e, vVret_e, vAret_e, vCallM_e0, vCallMV_e0, vCallS_e0, vCallSV_e0, vCallM_e1, vCallMV_e1, vCallS_e1, vCallSV_e1, vCallM_e2, vCallMV_e2, vCallS_e2, vCallSV_e2, vCallM_e3, vCallMV_e3, vCallS_e3, vCallSV_e3, vCallM_e4, vCallMV_e4, vCallS_e4, vCallSV_e4, vCallM_e5, vCallMV_e5, vCallS_e5, vCallSV_e5, vCallM_e6, vCallMV_e6, vCallS_e6, vCallSV_e6, vCallM_e7, vCallMV_e7, vCallS_e7, vCallSV_e7, vBad_e, vStrVal_e, vStrCod_e, vForm_e, vCallT_e0, vCallT_e1, vCallT_e2, vCopy_e, rf_0_0, rf_0_1, rf_0_2, rf_0_3, rf_0_4, rf_0_7, rf_0_10, rf_0_11, rf_0_12, rf_0_13, rf_0_14, rf_0_15, rf_0_16, rf_1_0, rf_3_0, rf_3_1, rf_6_0, rf_6_1, rf_9_0, rf_9_1, rf_9_3, rf_13_0, rf_13_1, rf_13_2, rf_16_0, rf_16_1, rf_16_2, rf_16_3, rf_21_0, rf_21_1, rf_21_2, rf_21_3, rf_26_0, rf_26_1, rf_26_2, rf_26_3, rf_26_4, rf_26_5, rf_26_6, rf_31_0, rf_31_2, rf_31_5, rf_31_6, rf_36_0, rf_36_1, rf_36_2, rf_36_3, rf_39_0, rf_39_1, rf_39_2, rf_41_0, rf_41_1, rf_41_2, rf_41_3, rf_5000_1, rf_5000_2, rf_5000_3, rf_5000_4, rf_5000_5, rf_5000_15, rf_5000_16, rf_5000_18, rf_5000_19, rf_5000_20, rf_5000_21, rf_5000_22, rf_5000_23, rf_5000_24, rf_5000_25, rf_5000_26, rf_5000_27, rf_5000_36, rf_5000_37, rf_5000_40, rf_5000_41, rf_5000_42, rf_5000_43, rf_5000_44, rf_5000_45, rf_5000_47, rf_5000_52, rf_5000_54, rf_5000_55, rf_100_0, rf_100_1, rf_103_0, rf_103_1, rf_106_0, rf_106_1, rf_109_0, rf_109_1, al_2, al_4, al_5, al_7, al_8, al_10, al_11, al_12, al_14, al_15, al_17, al_18, al_19, al_20, al_22, al_23, al_24, al_25, al_27, al_28, al_29, al_30, al_32, al_33, al_34, al_35, al_37, al_38, al_40, al_42, al_5001, al_5002, al_5003, al_5004, al_5005, al_5006, al_5007, al_5008, al_5009, al_5010, al_5011, al_5012, al_5013, al_5014, al_5015, al_5016, al_5017, al_5018, al_5019, al_5020, al_5021, al_5022, al_5023, al_5024, al_5025, al_5026, al_9000, al_101, al_102, al_104, al_105, al_107, al_108, al_110, al_111, vcs_e, lg_c0, lg_cs, lg_nil, set_c0, set_cs, okst_0, okst_s, acok_n, acok_c, List.contains_nil, List.contains_cons, Bool.or_false, Bool.false_or, Bool.false_eq_true, if_false, if_true, ite_self, ne_eq, true_and, and_true, not_false_eq_true, not_true_eq_false, false_imp_iff, true_imp_iff, Nat.ble_eq, Bool.and_eq_true, reduceCtorEq, or_false, false_or, or_true, true_or, false_and, and_false, and_self, Int.reduceLE, Int.reduceAdd, Int.reduceSub, Int.reduceMul, Int.reduceNeg, Int.reduceLT, Int.reduceEq, Int.reduceNe, Nat.reduceBEq, Nat.reduceBNe, Nat.reduceEqDiff, amCmp_in, amCmp_lt, amCmp_le, amCmp_gt, amCmp_ge, amCmp_eq, amCmp_ne, Nat.reduceLeDiff, Nat.reduceSub, Bool.and_true, Bool.true_and, Bool.and_self, Bool.or_true, Bool.true_or, isRf_3, isRf_4, isRf_5, isRf_8, isRf_9, isRf_10, isRf_11, isRf_15, isRf_16, isRf_17, isRf_18, isRf_19, isRf_20, isRf_21, isRf_22, isRf_23, isRf_24, isRf_25, isRf_26, isRf_27, isRf_28, k_X12_goThrough_0, k_X12_goThrough_1, k_X12_goThrough_2, k_X12_goThrough_3, k_X12_goThrough_4, k_X12_goThrough_7, k_X12_goThrough_8, k_X12_goThrough_10, k_X12_goThrough_13, k_X12_goThrough_14, k_X12_goThrough_15, k_X12_goThrough_18, k_X12_goThrough_19, k_X12_goThrough_20, k_X12_goThrough_23, k_X12_goThrough_24, k_X12_goThrough_25, k_X12_goThrough_28, k_X12_goThrough_29, k_X12_goThrough_32, k_X12_goThrough_33, k_X12_goThrough_36, k_X12_goThrough_37, k_X12_goThrough_40, k_X12_goThrough_41, k_X12_goThrough_44, k_X12_goThrough_46, k_X12_goThrough_49, k_X12_goThrough_50, k_X12_goThrough_51, k_X12_goThrough_54, k_X12_goThrough_55, k_X12_goThrough_56, k_X12_goThrough_59, k_X12_goThrough_60, k_X12_goThrough_63, k_X12_goThrough_66, k_X12_goThrough_67, k_X12_goThrough_70, k_X12_goThrough_71, k_X12_goThrough_74, k_X12_goThrough_75, k_X12_goThrough_78, k_X12_goThrough_79, k_X12_goThrough_82, k_X12_goThrough_83, k_X12_goThrough_86, k_X12_goThrough_87, w_X12_clause_e, w_X12_fails_e, w_X12_look_e, w_X12_starts_e, mt, mk, crd, rd_9, rd_10, rd_11, rd_12, rd_13, rd_17, f9, f13, rd_u10, rd_rd, hsk, c]
        repeat' (first | assumption | exact tO _ _ _ _ | exact hrd _ _ (by omega) (by omega) | exact htx | exact hL | apply And.intro | intro _)
        all_goals first | omega | exact absurd trivial (by assumption) | exact tO _ _ _ _ | exact hrd _ _ (by omega) (by omega) | exact i1 _ _ _ (by assumption) | exact i2 _ _ (by assumption) (by assumption) (by assumption) (by assumption)
      · rw [if_neg c] at hGx
        by_cases c2 : mtx m q = -1
        · rw [if_pos c2] at hGx
          have h0 := hq2 (rdM (fnM m (K ++ [x.2])) q (-1) 0) (K ++ [x.2]) hGx (hGF _ _ _ _) rfl (by rw [rd_o _ _ _ _ (by decide), fn_14])
          refine ⟨90, ?_⟩
          simp only [↓reduceIte, inR_0, inR_1, inR_m, vSw2_e, swP_n, swP_c, vI_e, vL_e, vNull_e, vIload_e, vLload_e, vAload_e, vIstore_e, vLstore_e, vAstore_e, vIinc_e, vIadd_e, vIsub_e, vImul_e, vIand_e, vIor_e, vIxor_e, vIshl_e, vIshr_e, vIushr_e, vIdiv_e, vIrem_e, vLadd_e, vLsub_e, vLmul_e, vLand_e, vLor_e, vLxor_e, vLdiv_e, vLrem_e, vLushr_e, vLshl_e, vLcmp_e, vIneg_e, vI2l_e, vL2i_e, vI2b_e, vI2c_e, vDup_e, vPop_e, vDup2_e, vGoto_e, vIcEq_e, vIfEq_e, vIcNe_e, vIfNe_e, vIcLt_e, vIfLt_e, vIcGe_e, vIfGe_e, vIcGt_e, vIfGt_e, vIcLe_e, vIfLe_e, vNonnull_e, vSw_e, vGetI_e, vGetL_e, vGetR_e, vPutI_e, vPutZ_e, vPutL_e, vPutR_e, vIald_e, vIald_s, vLald_e, vBald_e, vBald_s, vAald_e, vIast_e, vLast_e, vBast_e, vAast_e, vAlen_e8, vAlen_e9, vAlen_e10, vAlen_e11, vAlen_e5, vAlen_e3, vGets_e, vCompact_e, vLdcS_e, vIret_e, vZret_e, vCret_e, vBret_e, vLret_e, vVret_e, vAret_e, vCallM_e0, vCallMV_e0, vCallS_e0, vCallSV_e0, vCallM_e1, vCallMV_e1, vCallS_e1, vCallSV_e1, vCallM_e2, vCallMV_e2, vCallS_e2, vCallSV_e2, vCallM_e3, vCallMV_e3, vCallS_e3, vCallSV_e3, vCallM_e4, vCallMV_e4, vCallS_e4, vCallSV_e4, vCallM_e5, vCallMV_e5, vCallS_e5, vCallSV_e5, vCallM_e6, vCallMV_e6, vCallS_e6, vCallSV_e6, vCallM_e7, vCallMV_e7, vCallS_e7, vCallSV_e7, vBad_e, vStrVal_e, vStrCod_e, vForm_e, vCallT_e0, vCallT_e1, vCallT_e2, vCopy_e, rf_0_0, rf_0_1, rf_0_2, rf_0_3, rf_0_4, rf_0_7, rf_0_10, rf_0_11, rf_0_12, rf_0_13, rf_0_14, rf_0_15, rf_0_16, rf_1_0, rf_3_0, rf_3_1, rf_6_0, rf_6_1, rf_9_0, rf_9_1, rf_9_3, rf_13_0, rf_13_1, rf_13_2, rf_16_0, rf_16_1, rf_16_2, rf_16_3, rf_21_0, rf_21_1, rf_21_2, rf_21_3, rf_26_0, rf_26_1, rf_26_2, rf_26_3, rf_26_4, rf_26_5, rf_26_6, rf_31_0, rf_31_2, rf_31_5, rf_31_6, rf_36_0, rf_36_1, rf_36_2, rf_36_3, rf_39_0, rf_39_1, rf_39_2, rf_41_0, rf_41_1, rf_41_2, rf_41_3, rf_5000_1, rf_5000_2, rf_5000_3, rf_5000_4, rf_5000_5, rf_5000_15, rf_5000_16, rf_5000_18, rf_5000_19, rf_5000_20, rf_5000_21, rf_5000_22, rf_5000_23, rf_5000_24, rf_5000_25, rf_5000_26, rf_5000_27, rf_5000_36, rf_5000_37, rf_5000_40, rf_5000_41, rf_5000_42, rf_5000_43, rf_5000_44, rf_5000_45, rf_5000_47, rf_5000_52, rf_5000_54, rf_5000_55, rf_100_0, rf_100_1, rf_103_0, rf_103_1, rf_106_0, rf_106_1, rf_109_0, rf_109_1, al_2, al_4, al_5, al_7, al_8, al_10, al_11, al_12, al_14, al_15, al_17, al_18, al_19, al_20, al_22, al_23, al_24, al_25, al_27, al_28, al_29, al_30, al_32, al_33, al_34, al_35, al_37, al_38, al_40, al_42, al_5001, al_5002, al_5003, al_5004, al_5005, al_5006, al_5007, al_5008, al_5009, al_5010, al_5011, al_5012, al_5013, al_5014, al_5015, al_5016, al_5017, al_5018, al_5019, al_5020, al_5021, al_5022, al_5023, al_5024, al_5025, al_5026, al_9000, al_101, al_102, al_104, al_105, al_107, al_108, al_110, al_111, vcs_e, lg_c0, lg_cs, lg_nil, set_c0, set_cs, okst_0, okst_s, acok_n, acok_c, List.contains_nil, List.contains_cons, Bool.or_false, Bool.false_or, Bool.false_eq_true, if_false, if_true, ite_self, ne_eq, true_and, and_true, not_false_eq_true, not_true_eq_false, false_imp_iff, true_imp_iff, Nat.ble_eq, Bool.and_eq_true, reduceCtorEq, or_false, false_or, or_true, true_or, false_and, and_false, and_self, Int.reduceLE, Int.reduceAdd, Int.reduceSub, Int.reduceMul, Int.reduceNeg, Int.reduceLT, Int.reduceEq, Int.reduceNe, Nat.reduceBEq, Nat.reduceBNe, Nat.reduceEqDiff, amCmp_in, amCmp_lt, amCmp_le, amCmp_gt, amCmp_ge, amCmp_eq, amCmp_ne, Nat.reduceLeDiff, Nat.reduceSub, Bool.and_true, Bool.true_and, Bool.and_self, Bool.or_true, Bool.true_or, isRf_3, isRf_4, isRf_5, isRf_8, isRf_9, isRf_10, isRf_11, isRf_15, isRf_16, isRf_17, isRf_18, isRf_19, isRf_20, isRf_21, isRf_22, isRf_23, isRf_24, isRf_25, isRf_26, isRf_27, isRf_28, k_X12_goThrough_0, k_X12_goThrough_1, k_X12_goThrough_2, k_X12_goThrough_3, k_X12_goThrough_4, k_X12_goThrough_7, k_X12_goThrough_8, k_X12_goThrough_10, k_X12_goThrough_13, k_X12_goThrough_14, k_X12_goThrough_15, k_X12_goThrough_18, k_X12_goThrough_19, k_X12_goThrough_20, k_X12_goThrough_23, k_X12_goThrough_24, k_X12_goThrough_25, k_X12_goThrough_28, k_X12_goThrough_29, k_X12_goThrough_32, k_X12_goThrough_33, k_X12_goThrough_36, k_X12_goThrough_37, k_X12_goThrough_40, k_X12_goThrough_41, k_X12_goThrough_44, k_X12_goThrough_46, k_X12_goThrough_49, k_X12_goThrough_50, k_X12_goThrough_51, k_X12_goThrough_54, k_X12_goThrough_55, k_X12_goThrough_56, k_X12_goThrough_59, k_X12_goThrough_60, k_X12_goThrough_63, k_X12_goThrough_66, k_X12_goThrough_67, k_X12_goThrough_70, k_X12_goThrough_71, k_X12_goThrough_74, k_X12_goThrough_75, k_X12_goThrough_78, k_X12_goThrough_79, k_X12_goThrough_82, k_X12_goThrough_83, k_X12_goThrough_86, k_X12_goThrough_87, w_X12_clause_e, w_X12_fails_e, w_X12_look_e, w_X12_starts_e, mt, mk, rd_9, rd_10, rd_11, f9, rd_u10, rd_rd, hsk, sks, c2]
          repeat' (first | assumption | exact tO _ _ _ _ | exact hrd _ _ (by omega) (by omega) | exact htx | exact hL | apply And.intro | intro _)
          all_goals first | omega | exact absurd trivial (by assumption) | exact h0 | exact tO _ _ _ _
        · rw [if_neg c2] at hGx
          have h0 := hq1 (rdM (fnM m (K ++ [x.2])) q q 0) q hGx (by omega) (by omega) (hGF _ _ _ _) rfl
          refine ⟨90, ?_⟩
          simp only [↓reduceIte, inR_0, inR_1, inR_m, vSw2_e, swP_n, swP_c, vI_e, vL_e, vNull_e, vIload_e, vLload_e, vAload_e, vIstore_e, vLstore_e, vAstore_e, vIinc_e, vIadd_e, vIsub_e, vImul_e, vIand_e, vIor_e, vIxor_e, vIshl_e, vIshr_e, vIushr_e, vIdiv_e, vIrem_e, vLadd_e, vLsub_e, vLmul_e, vLand_e, vLor_e, vLxor_e, vLdiv_e, vLrem_e, vLushr_e, vLshl_e, vLcmp_e, vIneg_e, vI2l_e, vL2i_e, vI2b_e, vI2c_e, vDup_e, vPop_e, vDup2_e, vGoto_e, vIcEq_e, vIfEq_e, vIcNe_e, vIfNe_e, vIcLt_e, vIfLt_e, vIcGe_e, vIfGe_e, vIcGt_e, vIfGt_e, vIcLe_e, vIfLe_e, vNonnull_e, vSw_e, vGetI_e, vGetL_e, vGetR_e, vPutI_e, vPutZ_e, vPutL_e, vPutR_e, vIald_e, vIald_s, vLald_e, vBald_e, vBald_s, vAald_e, vIast_e, vLast_e, vBast_e, vAast_e, vAlen_e8, vAlen_e9, vAlen_e10, vAlen_e11, vAlen_e5, vAlen_e3, vGets_e, vCompact_e, vLdcS_e, vIret_e, vZret_e, vCret_e, vBret_e, vLret_e, vVret_e, vAret_e, vCallM_e0, vCallMV_e0, vCallS_e0, vCallSV_e0, vCallM_e1, vCallMV_e1, vCallS_e1, vCallSV_e1, vCallM_e2, vCallMV_e2, vCallS_e2, vCallSV_e2, vCallM_e3, vCallMV_e3, vCallS_e3, vCallSV_e3, vCallM_e4, vCallMV_e4, vCallS_e4, vCallSV_e4, vCallM_e5, vCallMV_e5, vCallS_e5, vCallSV_e5, vCallM_e6, vCallMV_e6, vCallS_e6, vCallSV_e6, vCallM_e7, vCallMV_e7, vCallS_e7, vCallSV_e7, vBad_e, vStrVal_e, vStrCod_e, vForm_e, vCallT_e0, vCallT_e1, vCallT_e2, vCopy_e, rf_0_0, rf_0_1, rf_0_2, rf_0_3, rf_0_4, rf_0_7, rf_0_10, rf_0_11, rf_0_12, rf_0_13, rf_0_14, rf_0_15, rf_0_16, rf_1_0, rf_3_0, rf_3_1, rf_6_0, rf_6_1, rf_9_0, rf_9_1, rf_9_3, rf_13_0, rf_13_1, rf_13_2, rf_16_0, rf_16_1, rf_16_2, rf_16_3, rf_21_0, rf_21_1, rf_21_2, rf_21_3, rf_26_0, rf_26_1, rf_26_2, rf_26_3, rf_26_4, rf_26_5, rf_26_6, rf_31_0, rf_31_2, rf_31_5, rf_31_6, rf_36_0, rf_36_1, rf_36_2, rf_36_3, rf_39_0, rf_39_1, rf_39_2, rf_41_0, rf_41_1, rf_41_2, rf_41_3, rf_5000_1, rf_5000_2, rf_5000_3, rf_5000_4, rf_5000_5, rf_5000_15, rf_5000_16, rf_5000_18, rf_5000_19, rf_5000_20, rf_5000_21, rf_5000_22, rf_5000_23, rf_5000_24, rf_5000_25, rf_5000_26, rf_5000_27, rf_5000_36, rf_5000_37, rf_5000_40, rf_5000_41, rf_5000_42, rf_5000_43, rf_5000_44, rf_5000_45, rf_5000_47, rf_5000_52, rf_5000_54, rf_5000_55, rf_100_0, rf_100_1, rf_103_0, rf_103_1, rf_106_0, rf_106_1, rf_109_0, rf_109_1, al_2, al_4, al_5, al_7, al_8, al_10, al_11, al_12, al_14, al_15, al_17, al_18, al_19, al_20, al_22, al_23, al_24, al_25, al_27, al_28, al_29, al_30, al_32, al_33, al_34, al_35, al_37, al_38, al_40, al_42, al_5001, al_5002, al_5003, al_5004, al_5005, al_5006, al_5007, al_5008, al_5009, al_5010, al_5011, al_5012, al_5013, al_5014, al_5015, al_5016, al_5017, al_5018, al_5019, al_5020, al_5021, al_5022, al_5023, al_5024, al_5025, al_5026, al_9000, al_101, al_102, al_104, al_105, al_107, al_108, al_110, al_111, vcs_e, lg_c0, lg_cs, lg_nil, set_c0, set_cs, okst_0, okst_s, acok_n, acok_c, List.contains_nil, List.contains_cons, Bool.or_false, Bool.false_or, Bool.false_eq_true, if_false, if_true, ite_self, ne_eq, true_and, and_true, not_false_eq_true, not_true_eq_false, false_imp_iff, true_imp_iff, Nat.ble_eq, Bool.and_eq_true, reduceCtorEq, or_false, false_or, or_true, true_or, false_and, and_false, and_self, Int.reduceLE, Int.reduceAdd, Int.reduceSub, Int.reduceMul, Int.reduceNeg, Int.reduceLT, Int.reduceEq, Int.reduceNe, Nat.reduceBEq, Nat.reduceBNe, Nat.reduceEqDiff, amCmp_in, amCmp_lt, amCmp_le, amCmp_gt, amCmp_ge, amCmp_eq, amCmp_ne, Nat.reduceLeDiff, Nat.reduceSub, Bool.and_true, Bool.true_and, Bool.and_self, Bool.or_true, Bool.true_or, isRf_3, isRf_4, isRf_5, isRf_8, isRf_9, isRf_10, isRf_11, isRf_15, isRf_16, isRf_17, isRf_18, isRf_19, isRf_20, isRf_21, isRf_22, isRf_23, isRf_24, isRf_25, isRf_26, isRf_27, isRf_28, k_X12_goThrough_0, k_X12_goThrough_1, k_X12_goThrough_2, k_X12_goThrough_3, k_X12_goThrough_4, k_X12_goThrough_7, k_X12_goThrough_8, k_X12_goThrough_10, k_X12_goThrough_13, k_X12_goThrough_14, k_X12_goThrough_15, k_X12_goThrough_18, k_X12_goThrough_19, k_X12_goThrough_20, k_X12_goThrough_23, k_X12_goThrough_24, k_X12_goThrough_25, k_X12_goThrough_28, k_X12_goThrough_29, k_X12_goThrough_32, k_X12_goThrough_33, k_X12_goThrough_36, k_X12_goThrough_37, k_X12_goThrough_40, k_X12_goThrough_41, k_X12_goThrough_44, k_X12_goThrough_46, k_X12_goThrough_49, k_X12_goThrough_50, k_X12_goThrough_51, k_X12_goThrough_54, k_X12_goThrough_55, k_X12_goThrough_56, k_X12_goThrough_59, k_X12_goThrough_60, k_X12_goThrough_63, k_X12_goThrough_66, k_X12_goThrough_67, k_X12_goThrough_70, k_X12_goThrough_71, k_X12_goThrough_74, k_X12_goThrough_75, k_X12_goThrough_78, k_X12_goThrough_79, k_X12_goThrough_82, k_X12_goThrough_83, k_X12_goThrough_86, k_X12_goThrough_87, w_X12_clause_e, w_X12_fails_e, w_X12_look_e, w_X12_starts_e, mt, mk, rd_9, rd_10, rd_11, f9, rd_u10, rd_rd, fa_n, hsk, sks]
          repeat' (first | assumption | exact tO _ _ _ _ | exact hrd _ _ (by omega) (by omega) | exact htx | exact hL | apply And.intro | intro _)
          all_goals first | omega | exact absurd trivial (by assumption) | exact h0 | exact tO _ _ _ _
  · change vcs _ _ _ _ 90 0 [(28, 5000), (10, a), (0, b), (0, n)] [] σ
    have cb := gCl_b (mtx_n ht) (p := 0) (by omega) (by omega)
    rw [gLw_c] at hG
    have i1 : ∀ f' p' d, gCl (mtx m) (m 5000 9) 0 = .inl f' → ∃ k, inv_gth m G a b n k 32 [(28, 5000), (10, a), (0, b), (0, n)] [] (rdM (fnM m []) p' f' d) := fun f' p' d e => by
      rw [e] at cb hG
      have cb' : 0 ≤ f' ∧ f' ≤ m 5000 9 := cb
      exact ⟨0, rfl, rfl, rfl, Or.inl ⟨rfl, [], f', p', d, rfl, hG.symm, by omega, by omega⟩⟩
    have i2 : ∀ y p', gCl (mtx m) (m 5000 9) 0 = .inr y → 0 ≤ p' → p' ≤ m 5000 9 → sk (mtx m) (m 5000 9) p' = sk (mtx m) (m 5000 9) y.1 → ∃ k, inv_gth m G a b n k 32 [(28, 5000), (10, a), (0, b), (0, n)] [] (rdM (fnM m ([] ++ [y.2])) p' (-1) 0) := fun y p' e h0 h1 h2 => by
      rw [e] at cb hG
      have cb' : 0 < y.1 ∧ y.1 ≤ m 5000 9 := cb
      refine ⟨241, rfl, rfl, rfl, Or.inr ⟨240, [], y, p', rfl, rfl, h0, h1, h2, by omega, by omega, by omega, ?_⟩⟩
      rw [← hG]; dsimp only; cases gLc (mtx m) (m 5000 9) 240 y <;> rfl
    have h17 := k17 []
    simp only [↓reduceIte, inR_0, inR_1, inR_m, vSw2_e, swP_n, swP_c, vI_e, vL_e, vNull_e, vIload_e, vLload_e, vAload_e, vIstore_e, vLstore_e, vAstore_e, vIinc_e, vIadd_e, vIsub_e, vImul_e, vIand_e, vIor_e, vIxor_e, vIshl_e, vIshr_e, vIushr_e, vIdiv_e, vIrem_e, vLadd_e, vLsub_e, vLmul_e, vLand_e, vLor_e, vLxor_e, vLdiv_e, vLrem_e, vLushr_e, vLshl_e, vLcmp_e, vIneg_e, vI2l_e, vL2i_e, vI2b_e, vI2c_e, vDup_e, vPop_e, vDup2_e, vGoto_e, vIcEq_e, vIfEq_e, vIcNe_e, vIfNe_e, vIcLt_e, vIfLt_e, vIcGe_e, vIfGe_e, vIcGt_e, vIfGt_e, vIcLe_e, vIfLe_e, vNonnull_e, vSw_e, vGetI_e, vGetL_e, vGetR_e, vPutI_e, vPutZ_e, vPutL_e, vPutR_e, vIald_e, vIald_s, vLald_e, vBald_e, vBald_s, vAald_e, vIast_e, vLast_e, vBast_e, vAast_e, vAlen_e8, vAlen_e9, vAlen_e10, vAlen_e11, vAlen_e5, vAlen_e3, vGets_e, vCompact_e, vLdcS_e, vIret_e, vZret_e, vCret_e, vBret_e, vLret_e, vVret_e, vAret_e, vCallM_e0, vCallMV_e0, vCallS_e0, vCallSV_e0, vCallM_e1, vCallMV_e1, vCallS_e1, vCallSV_e1, vCallM_e2, vCallMV_e2, vCallS_e2, vCallSV_e2, vCallM_e3, vCallMV_e3, vCallS_e3, vCallSV_e3, vCallM_e4, vCallMV_e4, vCallS_e4, vCallSV_e4, vCallM_e5, vCallMV_e5, vCallS_e5, vCallSV_e5, vCallM_e6, vCallMV_e6, vCallS_e6, vCallSV_e6, vCallM_e7, vCallMV_e7, vCallS_e7, vCallSV_e7, vBad_e, vStrVal_e, vStrCod_e, vForm_e, vCallT_e0, vCallT_e1, vCallT_e2, vCopy_e, rf_0_0, rf_0_1, rf_0_2, rf_0_3, rf_0_4, rf_0_7, rf_0_10, rf_0_11, rf_0_12, rf_0_13, rf_0_14, rf_0_15, rf_0_16, rf_1_0, rf_3_0, rf_3_1, rf_6_0, rf_6_1, rf_9_0, rf_9_1, rf_9_3, rf_13_0, rf_13_1, rf_13_2, rf_16_0, rf_16_1, rf_16_2, rf_16_3, rf_21_0, rf_21_1, rf_21_2, rf_21_3, rf_26_0, rf_26_1, rf_26_2, rf_26_3, rf_26_4, rf_26_5, rf_26_6, rf_31_0, rf_31_2, rf_31_5, rf_31_6, rf_36_0, rf_36_1, rf_36_2, rf_36_3, rf_39_0, rf_39_1, rf_39_2, rf_41_0, rf_41_1, rf_41_2, rf_41_3, rf_5000_1, rf_5000_2, rf_5000_3, rf_5000_4, rf_5000_5, rf_5000_15, rf_5000_16, rf_5000_18, rf_5000_19, rf_5000_20, rf_5000_21, rf_5000_22, rf_5000_23, rf_5000_24, rf_5000_25, rf_5000_26, rf_5000_27, rf_5000_36, rf_5000_37, rf_5000_40, rf_5000_41, rf_5000_42, rf_5000_43, rf_5000_44, rf_5000_45, rf_5000_47, rf_5000_52, rf_5000_54, rf_5000_55, rf_100_0, rf_100_1, rf_103_0, rf_103_1, rf_106_0, rf_106_1, rf_109_0, rf_109_1, al_2, al_4, al_5, al_7, al_8, al_10, al_11, al_12, al_14, al_15, al_17, al_18, al_19, al_20, al_22, al_23, al_24, al_25, al_27, al_28, al_29, al_30, al_32, al_33, al_34, al_35, al_37, al_38, al_40, al_42, al_5001, al_5002, al_5003, al_5004, al_5005, al_5006, al_5007, al_5008, al_5009, al_5010, al_5011, al_5012, al_5013, al_5014, al_5015, al_5016, al_5017, al_5018, al_5019, al_5020, al_5021, al_5022, al_5023, al_5024, al_5025, al_5026, al_9000, al_101, al_102, al_104, al_105, al_107, al_108, al_110, al_111, vcs_e, lg_c0, lg_cs, lg_nil, set_c0, set_cs, okst_0, okst_s, acok_n, acok_c, List.contains_nil, List.contains_cons, Bool.or_false, Bool.false_or, Bool.false_eq_true, if_false, if_true, ite_self, ne_eq, true_and, and_true, not_false_eq_true, not_true_eq_false, false_imp_iff, true_imp_iff, Nat.ble_eq, Bool.and_eq_true, reduceCtorEq, or_false, false_or, or_true, true_or, false_and, and_false, and_self, Int.reduceLE, Int.reduceAdd, Int.reduceSub, Int.reduceMul, Int.reduceNeg, Int.reduceLT, Int.reduceEq, Int.reduceNe, Nat.reduceBEq, Nat.reduceBNe, Nat.reduceEqDiff, amCmp_in, amCmp_lt, amCmp_le, amCmp_gt, amCmp_ge, amCmp_eq, amCmp_ne, Nat.reduceLeDiff, Nat.reduceSub, Bool.and_true, Bool.true_and, Bool.and_self, Bool.or_true, Bool.true_or, isRf_3, isRf_4, isRf_5, isRf_8, isRf_9, isRf_10, isRf_11, isRf_15, isRf_16, isRf_17, isRf_18, isRf_19, isRf_20, isRf_21, isRf_22, isRf_23, isRf_24, isRf_25, isRf_26, isRf_27, isRf_28, k_X12_goThrough_0, k_X12_goThrough_1, k_X12_goThrough_2, k_X12_goThrough_3, k_X12_goThrough_4, k_X12_goThrough_7, k_X12_goThrough_8, k_X12_goThrough_10, k_X12_goThrough_13, k_X12_goThrough_14, k_X12_goThrough_15, k_X12_goThrough_18, k_X12_goThrough_19, k_X12_goThrough_20, k_X12_goThrough_23, k_X12_goThrough_24, k_X12_goThrough_25, k_X12_goThrough_28, k_X12_goThrough_29, k_X12_goThrough_32, k_X12_goThrough_33, k_X12_goThrough_36, k_X12_goThrough_37, k_X12_goThrough_40, k_X12_goThrough_41, k_X12_goThrough_44, k_X12_goThrough_46, k_X12_goThrough_49, k_X12_goThrough_50, k_X12_goThrough_51, k_X12_goThrough_54, k_X12_goThrough_55, k_X12_goThrough_56, k_X12_goThrough_59, k_X12_goThrough_60, k_X12_goThrough_63, k_X12_goThrough_66, k_X12_goThrough_67, k_X12_goThrough_70, k_X12_goThrough_71, k_X12_goThrough_74, k_X12_goThrough_75, k_X12_goThrough_78, k_X12_goThrough_79, k_X12_goThrough_82, k_X12_goThrough_83, k_X12_goThrough_86, k_X12_goThrough_87, w_X12_clause_e, w_X12_fails_e, w_X12_look_e, w_X12_starts_e, hs, mt, mk, crd, rd_9, rd_10, rd_11, rd_12, rd_13, rd_17, f9, f13, rd_u10, rd_rd]
    repeat' (first | assumption | exact tO _ _ _ _ | exact hrd _ _ (by omega) (by omega) | exact htx | exact hL | apply And.intro | intro _)
    all_goals first | omega | exact absurd trivial (by assumption) | exact tO _ _ _ _ | exact hrd _ _ (by omega) (by omega) | exact i1 _ _ _ (by assumption) | exact i2 _ _ (by assumption) (by assumption) (by assumption) (by assumption)
