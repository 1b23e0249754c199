/-! Plan: reading a HOUSE -/
def filv (v : Int → Int) (kind index : Int) : Int → Int := fun j => if 0 ≤ kind ∧ kind < 4 ∧ 0 ≤ index ∧ index < mostK kind ∧ (firstK kind + index) * 4 ≤ j ∧ j < (firstK kind + index) * 4 + 4 then sav 21002 (kind * 4 + (j - (firstK kind + index) * 4)) else v j
theorem fillU_row (σ : Mem) (p k i : Int) : fillU σ p k i (p + 1) = filv (σ (p + 1)) k i := by
  funext j; unfold fillU filv
  by_cases h : 0 ≤ k ∧ k < 4 ∧ 0 ≤ i ∧ i < mostK k ∧ (firstK k + i) * 4 ≤ j ∧ j < (firstK k + i) * 4 + 4
  · rw [if_pos ⟨rfl, h⟩, if_pos h]
  · rw [if_neg (fun g => h g.2), if_neg h]
theorem filv_B {v : Int → Int} (h : rowB v) (k i : Int) : rowB (filv v k i) := by
  intro j h0 h1; unfold filv; split
  · exact (sav_b (by omega) (by omega)).2.2
  · exact h j h0 h1
def hK (t : Int → Int) (n p : Int) : Int := kindF (t (sk t n p))
def hR (t : Int → Int) (n p : Int) (c v : Int → Int) : Int × Int × (Int → Int) := hIt t n (hK t n p) (firstK (hK t n p) + c (hK t n p)) 5 0 (sk t n p + 1) (filv v (hK t n p) (c (hK t n p)))
noncomputable def hfin (c v : Int → Int) (n : Int) : Int := @ite Int (hWhole c v) (Classical.propDecidable _) (-1) n
theorem hfin_t {c v : Int → Int} {n : Int} (h : hWhole c v) : hfin c v n = -1 := by unfold hfin; exact if_pos h
theorem hfin_f {c v : Int → Int} {n : Int} (h : ¬ hWhole c v) : hfin c v n = n := by unfold hfin; exact if_neg h
/-- the clauses: fault, place, counts, numbers -/
noncomputable def hCls (t : Int → Int) (n : Int) : Nat → Int → (Int → Int) → (Int → Int) → Int × Int × (Int → Int) × (Int → Int)
  | 0, p, c, v => (n, p, c, v)
  | f + 1, p, c, v =>
    if 0 ≤ hK t n p ∧ c (hK t n p) < mostK (hK t n p) then
      if (hR t n p c v).1 ≠ -1 then ((hR t n p c v).1, (hR t n p c v).2.1, upf c (hK t n p) (c (hK t n p) + 1), (hR t n p c v).2.2)
      else if t (sk t n (hR t n p c v).2.1) = -1 then (hfin (upf c (hK t n p) (c (hK t n p) + 1)) (hR t n p c v).2.2 n, sk t n (hR t n p c v).2.1, upf c (hK t n p) (c (hK t n p) + 1), (hR t n p c v).2.2)
      else hCls t n f (sk t n (hR t n p c v).2.1 + 1) (upf c (hK t n p) (c (hK t n p) + 1)) (hR t n p c v).2.2
    else (sk t n p, sk t n p, c, v)
def cntB (c : Int → Int) : Prop := ∀ k, 0 ≤ k → k < 4 → 0 ≤ c k ∧ c k ≤ 6
def hst (σ : Mem) (p : Int) (c v : Int → Int) (pos : Int) : Mem := up (setv (setv σ (p + 2) c) (p + 1) v) 1 2 pos
theorem hst_c {σ : Mem} {p : Int} (hp : 3 ≤ p ∧ p ≤ 6) (c v : Int → Int) (x : Int) : hst σ p c v x (p + 2) = c := by
  unfold hst; rw [up_na _ (by omega), setv_o _ _ (by omega), setv_s]
theorem hst_v {σ : Mem} {p : Int} (hp : 3 ≤ p ∧ p ≤ 6) (c v : Int → Int) (x : Int) : hst σ p c v x (p + 1) = v := by
  unfold hst; rw [up_na _ (by omega), setv_s]
theorem hst_11 {σ : Mem} {p : Int} (hp : 3 ≤ p ∧ p ≤ 6) (c v : Int → Int) (x : Int) : hst σ p c v x 1 1 = σ 1 1 := by
  unfold hst; rw [up_n _ (Or.inr (by decide)), setv_o _ _ (by omega), setv_o _ _ (by omega)]
theorem hst_12 {σ : Mem} {p : Int} (c v : Int → Int) (x : Int) : hst σ p c v x 1 2 = x := by unfold hst; rw [up_s]
theorem hst_2 {σ : Mem} {p : Int} (hp : 3 ≤ p ∧ p ≤ 6) (c v : Int → Int) (x : Int) : hst σ p c v x 2 = σ 2 := by
  unfold hst; rw [up_na _ (by omega), setv_o _ _ (by omega), setv_o _ _ (by omega)]
theorem hst_up {σ : Mem} {p : Int} (c v : Int → Int) (x y : Int) : up (hst σ p c v x) 1 2 y = hst σ p c v y := by unfold hst; rw [up_up]
theorem hst_cl {σ : Mem} {p : Int} (hp : 3 ≤ p ∧ p ≤ 6) (c v : Int → Int) (x k w : Int) (v' : Int → Int) (y : Int) : up (setv (up (hst σ p c v x) (p + 2) k w) (p + 1) v') 1 2 y = hst σ p (upf c k w) v' y := by
  unfold hst
  funext b j
  unfold up setv upf
  dsimp only
  (repeat' split) <;> first | rfl | omega | (subst_vars; omega) | simp_all

theorem wd_388 : Cond.methodLink RX6 18 yJ7_fill_53178 ∈ TBL := tb_tab (List.mem_of_getElem? (i := 388) (by decide +kernel)) rfl
theorem wd_13 : Cond.initialized RJ7 ∈ TBL := tb_tab (List.mem_of_getElem? (i := 13) (by decide +kernel)) rfl
theorem wd_390 : Cond.code yJ7_fill_53178 cJ7_fill_53178 4 (none) ∈ TBL := tb_tab (List.mem_of_getElem? (i := 390) (by decide +kernel)) rfl
theorem lk_X6_18 : amLk RX6 18 yJ7_fill_53178 cJ7_fill_53178 4 (none) 2 := ⟨wd_388, wd_13, wd_390, by decide +kernel, by decide +kernel, by decide⟩
theorem wd_389 : Cond.static yJ7_fill_53178 ∈ TBL := tb_tab (List.mem_of_getElem? (i := 389) (by decide +kernel)) rfl
theorem wd_404 : Cond.methodLink RX6 34 yX6_readClause ∈ TBL := tb_tab (List.mem_of_getElem? (i := 404) (by decide +kernel)) rfl
theorem wd_407 : Cond.code yX6_readClause cX6_readClause 8 (some .int) ∈ TBL := tb_tab (List.mem_of_getElem? (i := 407) (by decide +kernel)) rfl
theorem lk_X6_34 : amLk RX6 34 yX6_readClause cX6_readClause 8 (some .int) 1 := ⟨wd_404, wd_3, wd_407, by decide +kernel, by decide +kernel, by decide⟩
theorem wd_406 : Cond.instanceMethod yX6_readClause ∈ TBL := tb_tab (List.mem_of_getElem? (i := 406) (by decide +kernel)) rfl
theorem sl_X6_readClause : Cond.selects RX6 yX6_readClause yX6_readClause ∈ TBL := tb_sel (List.mem_of_getElem? (i := 1) (by decide +kernel)) rfl
theorem wd_560 : Cond.methodLink RX6 42 yX6_isWhole ∈ TBL := tb_tab (List.mem_of_getElem? (i := 560) (by decide +kernel)) rfl
theorem wd_563 : Cond.code yX6_isWhole cX6_isWhole 2 (some .boolean) ∈ TBL := tb_tab (List.mem_of_getElem? (i := 563) (by decide +kernel)) rfl
theorem lk_X6_42 : amLk RX6 42 yX6_isWhole cX6_isWhole 2 (some .boolean) 0 := ⟨wd_560, wd_3, wd_563, by decide +kernel, by decide +kernel, by decide⟩
theorem wd_562 : Cond.instanceMethod yX6_isWhole ∈ TBL := tb_tab (List.mem_of_getElem? (i := 562) (by decide +kernel)) rfl
theorem sl_X6_isWhole : Cond.selects RX6 yX6_isWhole yX6_isWhole ∈ TBL := tb_sel (List.mem_of_getElem? (i := 4) (by decide +kernel)) rfl
theorem wd_44 : Cond.fieldLink RX6 46 "ArmchairHouse$Tape" "length" "I" ∈ TBL := tb_tab (List.mem_of_getElem? (i := 44) (by decide +kernel)) rfl
theorem fl_X6_46 : amFl RX6 10 1 46 RX10 TX10 3 := ⟨rfl, inT_10, by decide, wd_44⟩
def a_X6_read : AC := [(0, vAload 0 1), (1, vGetR TT 22 1 8 4), (4, vI 0 5), (5, vCallSV w_J7_fill_53178 2 8), (8, vAload 0 9), (9, vI 0 10), (10, vI 0 11), (11, vCallMV w_X6_fillUntold 22 2 14), (14, vAload 1 15), (15, vI 0 16), (16, vPutI 26 2 19), (19, vI 0 20), (20, vIstore 2 21), (21, vIload 2 22), (22, vI 240 25), (25, vIcGt 81 28), (28, vAload 0 29), (29, vAload 1 30), (30, vCallM w_X6_readClause 22 1 33), (33, vIstore 3 34), (34, vIload 3 35), (35, vI (-1) 36), (36, vIcEq 41 39), (39, vIload 3 40), (40, vIret), (41, vAload 1 42), (42, vCallM w_X10_ahead 26 0 45), (45, vI (-1) 46), (46, vIcNe 65 49), (49, vAload 0 50), (50, vCallM w_X6_isWhole 22 0 53), (53, vIfEq 60 56), (56, vI (-1) 57), (57, vGoto 64), (60, vAload 1 61), (61, vGetI 26 1 64), (64, vIret), (65, vAload 1 66), (66, vDup 67), (67, vGetI 26 2 70), (70, vI 1 71), (71, vIadd 72), (72, vPutI 26 2 75), (75, vIinc 2 1 78), (78, vGoto 21), (81, vAload 1 82), (82, vGetI 26 1 85), (85, vIret)]
theorem k_X6_read_0 : look a_X6_read 0 = vAload 0 1 := rfl
theorem k_X6_read_1 : look a_X6_read 1 = vGetR TT 22 1 8 4 := rfl
theorem k_X6_read_4 : look a_X6_read 4 = vI 0 5 := rfl
theorem k_X6_read_5 : look a_X6_read 5 = vCallSV w_J7_fill_53178 2 8 := rfl
theorem k_X6_read_8 : look a_X6_read 8 = vAload 0 9 := rfl
theorem k_X6_read_9 : look a_X6_read 9 = vI 0 10 := rfl
theorem k_X6_read_10 : look a_X6_read 10 = vI 0 11 := rfl
theorem k_X6_read_11 : look a_X6_read 11 = vCallMV w_X6_fillUntold 22 2 14 := rfl
theorem k_X6_read_14 : look a_X6_read 14 = vAload 1 15 := rfl
theorem k_X6_read_15 : look a_X6_read 15 = vI 0 16 := rfl
theorem k_X6_read_16 : look a_X6_read 16 = vPutI 26 2 19 := rfl
theorem k_X6_read_19 : look a_X6_read 19 = vI 0 20 := rfl
theorem k_X6_read_20 : look a_X6_read 20 = vIstore 2 21 := rfl
theorem k_X6_read_21 : look a_X6_read 21 = vIload 2 22 := rfl
theorem k_X6_read_22 : look a_X6_read 22 = vI 240 25 := rfl
theorem k_X6_read_25 : look a_X6_read 25 = vIcGt 81 28 := rfl
theorem k_X6_read_28 : look a_X6_read 28 = vAload 0 29 := rfl
theorem k_X6_read_29 : look a_X6_read 29 = vAload 1 30 := rfl
theorem k_X6_read_30 : look a_X6_read 30 = vCallM w_X6_readClause 22 1 33 := rfl
theorem k_X6_read_33 : look a_X6_read 33 = vIstore 3 34 := rfl
theorem k_X6_read_34 : look a_X6_read 34 = vIload 3 35 := rfl
theorem k_X6_read_35 : look a_X6_read 35 = vI (-1) 36 := rfl
theorem k_X6_read_36 : look a_X6_read 36 = vIcEq 41 39 := rfl
theorem k_X6_read_39 : look a_X6_read 39 = vIload 3 40 := rfl
theorem k_X6_read_40 : look a_X6_read 40 = vIret := rfl
theorem k_X6_read_41 : look a_X6_read 41 = vAload 1 42 := rfl
theorem k_X6_read_42 : look a_X6_read 42 = vCallM w_X10_ahead 26 0 45 := rfl
theorem k_X6_read_45 : look a_X6_read 45 = vI (-1) 46 := rfl
theorem k_X6_read_46 : look a_X6_read 46 = vIcNe 65 49 := rfl
theorem k_X6_read_49 : look a_X6_read 49 = vAload 0 50 := rfl
theorem k_X6_read_50 : look a_X6_read 50 = vCallM w_X6_isWhole 22 0 53 := rfl
theorem k_X6_read_53 : look a_X6_read 53 = vIfEq 60 56 := rfl
theorem k_X6_read_56 : look a_X6_read 56 = vI (-1) 57 := rfl
theorem k_X6_read_57 : look a_X6_read 57 = vGoto 64 := rfl
theorem k_X6_read_60 : look a_X6_read 60 = vAload 1 61 := rfl
theorem k_X6_read_61 : look a_X6_read 61 = vGetI 26 1 64 := rfl
theorem k_X6_read_64 : look a_X6_read 64 = vIret := rfl
theorem k_X6_read_65 : look a_X6_read 65 = vAload 1 66 := rfl
theorem k_X6_read_66 : look a_X6_read 66 = vDup 67 := rfl
theorem k_X6_read_67 : look a_X6_read 67 = vGetI 26 2 70 := rfl
theorem k_X6_read_70 : look a_X6_read 70 = vI 1 71 := rfl
theorem k_X6_read_71 : look a_X6_read 71 = vIadd 72 := rfl
theorem k_X6_read_72 : look a_X6_read 72 = vPutI 26 2 75 := rfl
theorem k_X6_read_75 : look a_X6_read 75 = vIinc 2 1 78 := rfl
theorem k_X6_read_78 : look a_X6_read 78 = vGoto 21 := rfl
theorem k_X6_read_81 : look a_X6_read 81 = vAload 1 82 := rfl
theorem k_X6_read_82 : look a_X6_read 82 = vGetI 26 1 85 := rfl
theorem k_X6_read_85 : look a_X6_read 85 = vIret := rfl
theorem o_X6_read {X : amX} (e1 : XT X = TT) (e2 : XD X = 6) (hB : amB X RX6 cX6_read (some .int) 4) : ∀ pc, amOK X pc (look a_X6_read pc) := by
  have hT : amTok (XT X) := e1 ▸ TT_ok
  refine look_ok ?_
  unfold a_X6_read
  refine fc (ok_aload_n hB dX6_read_0) ?_
  refine fc (okt_getR e1 hB hT fl_X6_15 rfl af_6_1 at_6_1 (by decide) dX6_read_1) ?_
  refine fc (ok_iconst hB dX6_read_4) ?_
  refine fc (ok_callSV hB (e1 ▸ s_J7_fill_53178) lk_X6_18 (by rw [e2]; decide) wd_389 dX6_read_5) ?_
  refine fc (ok_aload_n hB dX6_read_8) ?_
  refine fc (ok_iconst hB dX6_read_9) ?_
  refine fc (ok_iconst hB dX6_read_10) ?_
  refine fc (ok_callMV hB hT (e1 ▸ s_X6_fillUntold) lk_X6_24 (by rw [e2]; decide) (c := 6) rfl rfl rfl wd_393 sl_X6_fillUntold dX6_read_11) ?_
  refine fc (ok_aload_n hB dX6_read_14) ?_
  refine fc (ok_iconst hB dX6_read_15) ?_
  refine fc (ok_putI hB hT fp_X6_28 rfl rfl rfl af_10_2 dX6_read_16) ?_
  refine fc (ok_iconst hB dX6_read_19) ?_
  refine fc (ok_istore_n hB (by decide) dX6_read_20) ?_
  refine fc (ok_iload_n hB dX6_read_21) ?_
  refine fc (ok_sipush hB dX6_read_22 (by decide)) ?_
  refine fc (ok_icmp_gt hB (t := 81) (by decide) dX6_read_25) ?_
  refine fc (ok_aload_n hB dX6_read_28) ?_
  refine fc (ok_aload_n hB dX6_read_29) ?_
  refine fc (ok_callM hB hT (e1 ▸ s_X6_readClause) lk_X6_34 (by rw [e2]; decide) (c := 6) rfl rfl rfl wd_406 sl_X6_readClause dX6_read_30) ?_
  refine fc (ok_istore_n hB (by decide) dX6_read_33) ?_
  refine fc (ok_iload_n hB dX6_read_34) ?_
  refine fc (ok_iconst hB dX6_read_35) ?_
  refine fc (ok_icmp_eq hB (t := 41) (by decide) dX6_read_36) ?_
  refine fc (ok_iload_n hB dX6_read_39) ?_
  refine fc (ok_iret hB dX6_read_40) ?_
  refine fc (ok_aload_n hB dX6_read_41) ?_
  refine fc (ok_callM hB hT (e1 ▸ s_X10_ahead) lk_X6_38 (by rw [e2]; decide) (c := 10) rfl rfl rfl wd_409 wd_410 dX6_read_42) ?_
  refine fc (ok_iconst hB dX6_read_45) ?_
  refine fc (ok_icmp_ne hB (t := 65) (by decide) dX6_read_46) ?_
  refine fc (ok_aload_n hB dX6_read_49) ?_
  refine fc (ok_callM hB hT (e1 ▸ s_X6_isWhole) lk_X6_42 (by rw [e2]; decide) (c := 6) rfl rfl rfl wd_562 sl_X6_isWhole dX6_read_50) ?_
  refine fc (ok_if_eq hB (t := 60) (by decide) dX6_read_53) ?_
  refine fc (ok_iconst hB dX6_read_56) ?_
  refine fc (ok_goto hB (t := 64) (by decide) dX6_read_57) ?_
  refine fc (ok_aload_n hB dX6_read_60) ?_
  refine fc (ok_getI hB hT fl_X6_46 rfl rfl (Or.inl af_10_1) dX6_read_61) ?_
  refine fc (ok_iret hB dX6_read_64) ?_
  refine fc (ok_aload_n hB dX6_read_65) ?_
  refine fc (ok_dup hB dX6_read_66) ?_
  refine fc (ok_getI hB hT fl_X6_28 rfl rfl (Or.inl af_10_2) dX6_read_67) ?_
  refine fc (ok_iconst hB dX6_read_70) ?_
  refine fc (ok_iadd hB dX6_read_71) ?_
  refine fc (ok_putI hB hT fp_X6_28 rfl rfl rfl af_10_2 dX6_read_72) ?_
  refine fc (ok_iinc hB (by decide) dX6_read_75) ?_
  refine fc (ok_goto hB (t := 21) (by decide) dX6_read_78) ?_
  refine fc (ok_aload_n hB dX6_read_81) ?_
  refine fc (ok_getI hB hT fl_X6_46 rfl rfl (Or.inl af_10_1) dX6_read_82) ?_
  refine fc (ok_iret hB dX6_read_85) ?_
  exact fn
def inv_read (σ : Mem) (p : Int) (R : Int × Int × (Int → Int) × (Int → Int)) (n pc : Nat) (ls st : List AV) (σ' : Mem) : Prop := pc = 21 ∧ st = [] ∧ ∃ (i pos : Int) (c v : Int → Int) (v3 : AV), ls = [(22, p), (26, 1), (0, i), v3] ∧ σ' = hst σ p c v pos ∧ 0 ≤ i ∧ i + n = 241 ∧ 0 ≤ pos ∧ pos ≤ σ 1 1 ∧ cntB c ∧ rowB v ∧ hCls (tsg σ) (σ 1 1) n pos c v = R
def w_X6_read : WP := fun av σ Q => ∃ (p : Int) (u : Int), av = [(22, p), (26, u)] ∧ (u = 1 ∧ isP p ∧ planB σ p ∧ tapeOk σ ∧ Q (0, (hCls (tsg σ) (σ 1 1) 241 0 (fillm σ (p + 2) 4 0 (p + 2)) (filv (σ (p + 1)) 0 0)).1) (hst σ p (hCls (tsg σ) (σ 1 1) 241 0 (fillm σ (p + 2) 4 0 (p + 2)) (filv (σ (p + 1)) 0 0)).2.2.1 (hCls (tsg σ) (σ 1 1) 241 0 (fillm σ (p + 2) 4 0 (p + 2)) (filv (σ (p + 1)) 0 0)).2.2.2 (hCls (tsg σ) (σ 1 1) 241 0 (fillm σ (p + 2) 4 0 (p + 2)) (filv (σ (p + 1)) 0 0)).2.1))
theorem w_X6_read_e (p : Int) (u : Int) (σ : Mem) (Q : AV → Mem → Prop) : w_X6_read [(22, p), (26, u)] σ Q = (u = 1 ∧ isP p ∧ planB σ p ∧ tapeOk σ ∧ Q (0, (hCls (tsg σ) (σ 1 1) 241 0 (fillm σ (p + 2) 4 0 (p + 2)) (filv (σ (p + 1)) 0 0)).1) (hst σ p (hCls (tsg σ) (σ 1 1) 241 0 (fillm σ (p + 2) 4 0 (p + 2)) (filv (σ (p + 1)) 0 0)).2.2.1 (hCls (tsg σ) (σ 1 1) 241 0 (fillm σ (p + 2) 4 0 (p + 2)) (filv (σ (p + 1)) 0 0)).2.2.2 (hCls (tsg σ) (σ 1 1) 241 0 (fillm σ (p + 2) 4 0 (p + 2)) (filv (σ (p + 1)) 0 0)).2.1)) := by
  apply propext; constructor
  · rintro ⟨p', u', h9, hb9⟩; cases h9; exact hb9
  · intro hb9; exact ⟨p, u, rfl, hb9⟩

set_option maxRecDepth 100000 in
set_option maxHeartbeats 4000000 in
theorem s_X6_read : ∀ av σ Q, w_X6_read av σ Q → amCall 6 0 0 TT yX6_read cX6_read 4 (some .int) av σ Q := by
  rintro av σ Q ⟨p, u, rfl, rfl, hp, hB, ht, h⟩
  have hpb := isP_b hp
  have ht0 := ht.1
  have ht1 := ht.2.1
  have hte : ∀ i, σ 1 1 ≤ i → tsg σ i = -1 := fun i hi => (tsg_bd ht i).2.2.2 hi
  generalize hR9 : hCls (tsg σ) (σ 1 1) 241 0 (fillm σ (p + 2) 4 0 (p + 2)) (filv (σ (p + 1)) 0 0) = R at h
  refine am_m [21] (inv_read σ p R) (own := RX6) (A := look a_X6_read) (fun X e1 e2 hB => o_X6_read e1 e2 hB) rfl (by decide +kernel) rfl rfl ?_ ⟨90, ?_⟩ (w := 4)
  · rintro n pc ls st σ' ⟨rfl, rfl, i, pos, c, v, v3, rfl, rfl, hi0, hin, hp0, hp1, hc, hv, hr⟩
    have Mt : ∀ c v x, tsg (hst σ p c v x) = tsg σ := fun c v x => tsg_cong (hst_11 hpb c v x) (hst_2 hpb c v x)
    have MtO : ∀ c v x, tapeOk (hst σ p c v x) = True := fun c v x => eq_true (by
      unfold tapeOk; rw [hst_11 hpb, hst_2 hpb]; exact ht)
    have MB : ∀ c v x, cntB c → rowB v → planB (hst σ p c v x) p := fun c v x g1 g2 => by
      refine ⟨fun k a b => ?_, fun j a b => ?_⟩
      · rw [hst_c hpb]; exact g1 k a b
      · rw [hst_v hpb]; exact g2 j a b
    have Mk : ∀ c v x, tsk (hst σ p c v x) = sk (tsg σ) (σ 1 1) x := fun c v x => by
      rw [tsk_sk, Mt, hst_11 hpb, hst_12 ]
    have Mf : ∀ c v x k i, fillU (hst σ p c v x) p k i (p + 1) = filv v k i := fun c v x k i => by rw [fillU_row, hst_v hpb]
    have s1 := sk_b (tsg σ) hp1
    have kb := kindF_b (tsg σ (sk (tsg σ) (σ 1 1) pos))
    have MB1 : planB (hst σ p c v pos) p = True := eq_true (MB c v pos hc hv)
    have ehK : kindF (tsg σ (sk (tsg σ) (σ 1 1) pos)) = hK (tsg σ) (σ 1 1) pos := rfl
    have ehR : hIt (tsg σ) (σ 1 1) (hK (tsg σ) (σ 1 1) pos) (firstK (hK (tsg σ) (σ 1 1) pos) + c (hK (tsg σ) (σ 1 1) pos)) 5 0 (sk (tsg σ) (σ 1 1) pos + 1) (filv v (hK (tsg σ) (σ 1 1) pos) (c (hK (tsg σ) (σ 1 1) pos))) = hR (tsg σ) (σ 1 1) pos c v := rfl
    rw [ehK] at kb
    have hrb : 0 ≤ hK (tsg σ) (σ 1 1) pos → -1 ≤ (hR (tsg σ) (σ 1 1) pos c v).1 ∧ (hR (tsg σ) (σ 1 1) pos c v).1 ≤ σ 1 1 ∧ sk (tsg σ) (σ 1 1) pos + 1 ≤ (hR (tsg σ) (σ 1 1) pos c v).2.1 ∧ (hR (tsg σ) (σ 1 1) pos c v).2.1 ≤ σ 1 1 ∧ rowB (hR (tsg σ) (σ 1 1) pos c v).2.2 := fun g => by
      have := sk_lt hte (kindF_n (s := tsg σ (sk (tsg σ) (σ 1 1) pos)) g)
      exact hIt_b hte ht0 5 0 _ _ (by omega) (by omega) (filv_B hv _ _)
    refine ⟨90, ?_⟩
    simp only [vI_e, vL_e, vNull_e, vIload_e, vLload_e, vAload_e, vIstore_e, vLstore_e, vAstore_e, vIinc_e, vIadd_e, vIsub_e, vImul_e, vIand_e, vIor_e, vIxor_e, vIshl_e, vIshr_e, vIushr_e, vIdiv_e, vIrem_e, vLadd_e, vLsub_e, vLmul_e, vLand_e, vLor_e, vLxor_e, vLdiv_e, vLrem_e, vLushr_e, vLshl_e, vLcmp_e, vIneg_e, vI2l_e, vL2i_e, vI2b_e, vI2c_e, vDup_e, vPop_e, vDup2_e, vGoto_e, vIcEq_e, vIfEq_e, vIcNe_e, vIfNe_e, vIcLt_e, vIfLt_e, vIcGe_e, vIfGe_e, vIcGt_e, vIfGt_e, vIcLe_e, vIfLe_e, vNonnull_e, vSw_e, vGetI_e, vGetL_e, vGetR_e, vPutI_e, vPutZ_e, vPutL_e, vPutR_e, vIald_e, vIald_s, vLald_e, vBald_e, vBald_s, vAald_e, vIast_e, vLast_e, vBast_e, vAast_e, vAlen_e8, vAlen_e9, vAlen_e10, vAlen_e11, vAlen_e5, vAlen_e3, vGets_e, vCompact_e, vLdcS_e, vIret_e, vZret_e, vCret_e, vBret_e, vLret_e, vVret_e, vAret_e, vCallM_e0, vCallMV_e0, vCallS_e0, vCallSV_e0, vCallM_e1, vCallMV_e1, vCallS_e1, vCallSV_e1, vCallM_e2, vCallMV_e2, vCallS_e2, vCallSV_e2, vCallM_e3, vCallMV_e3, vCallS_e3, vCallSV_e3, vCallM_e4, vCallMV_e4, vCallS_e4, vCallSV_e4, vCallM_e5, vCallMV_e5, vCallS_e5, vCallSV_e5, vCallM_e6, vCallMV_e6, vCallS_e6, vCallSV_e6, vCallM_e7, vCallMV_e7, vCallS_e7, vCallSV_e7, vBad_e, vStrVal_e, vStrCod_e, vForm_e, vCallT_e0, vCallT_e1, vCallT_e2, vCopy_e, rf_0_0, rf_0_1, rf_0_2, rf_0_3, rf_0_4, rf_0_7, rf_0_10, rf_0_11, rf_0_12, rf_0_13, rf_0_14, rf_0_15, rf_0_16, rf_1_0, rf_3_0, rf_3_1, rf_6_0, rf_6_1, rf_9_0, rf_9_1, rf_9_3, rf_13_0, rf_13_1, rf_13_2, rf_16_0, rf_16_1, rf_16_2, rf_16_3, rf_21_0, rf_21_1, rf_21_2, rf_21_3, rf_26_0, rf_26_1, rf_26_2, rf_26_3, rf_26_4, rf_26_5, rf_26_6, rf_31_0, rf_31_2, rf_31_5, rf_31_6, rf_36_0, rf_36_1, rf_36_2, rf_36_3, rf_39_0, rf_39_1, rf_39_2, rf_41_0, rf_41_1, rf_41_2, rf_41_3, rf_5000_1, rf_5000_2, rf_5000_3, rf_5000_4, rf_5000_5, rf_5000_15, rf_5000_16, rf_5000_18, rf_5000_19, rf_5000_20, rf_5000_21, rf_5000_22, rf_5000_23, rf_5000_24, rf_5000_25, rf_5000_26, rf_5000_27, rf_5000_36, rf_5000_37, rf_5000_40, rf_5000_41, rf_5000_42, rf_5000_43, rf_5000_44, rf_5000_45, rf_5000_47, rf_5000_52, rf_5000_54, rf_5000_55, rf_100_0, rf_100_1, rf_103_0, rf_103_1, rf_106_0, rf_106_1, rf_109_0, rf_109_1, al_2, al_4, al_5, al_7, al_8, al_10, al_11, al_12, al_14, al_15, al_17, al_18, al_19, al_20, al_22, al_23, al_24, al_25, al_27, al_28, al_29, al_30, al_32, al_33, al_34, al_35, al_37, al_38, al_40, al_42, al_5001, al_5002, al_5003, al_5004, al_5005, al_5006, al_5007, al_5008, al_5009, al_5010, al_5011, al_5012, al_5013, al_5014, al_5015, al_5016, al_5017, al_5018, al_5019, al_5020, al_5021, al_5022, al_5023, al_5024, al_5025, al_5026, al_9000, al_101, al_102, al_104, al_105, al_107, al_108, al_110, al_111, vcs_e, lg_c0, lg_cs, lg_nil, set_c0, set_cs, okst_0, okst_s, acok_n, acok_c, List.contains_nil, List.contains_cons, Bool.or_false, Bool.false_or, Bool.false_eq_true, if_false, if_true, ite_self, ne_eq, true_and, and_true, not_false_eq_true, not_true_eq_false, false_imp_iff, true_imp_iff, Nat.ble_eq, Bool.and_eq_true, reduceCtorEq, or_false, false_or, or_true, true_or, false_and, and_false, and_self, Int.reduceLE, Int.reduceAdd, Int.reduceSub, Int.reduceMul, Int.reduceNeg, Int.reduceLT, Int.reduceEq, Int.reduceNe, Nat.reduceBEq, Nat.reduceBNe, Nat.reduceEqDiff, amCmp_in, amCmp_lt, amCmp_le, amCmp_gt, amCmp_ge, amCmp_eq, amCmp_ne, Nat.reduceLeDiff, Nat.reduceSub, Bool.and_true, Bool.true_and, Bool.and_self, Bool.or_true, Bool.true_or, isRf_3, isRf_4, isRf_5, isRf_8, isRf_9, isRf_10, isRf_11, isRf_15, isRf_16, isRf_17, isRf_18, isRf_19, isRf_20, isRf_21, isRf_22, isRf_23, isRf_24, isRf_25, isRf_26, isRf_27, isRf_28, k_X6_read_0, k_X6_read_1, k_X6_read_4, k_X6_read_5, k_X6_read_8, k_X6_read_9, k_X6_read_10, k_X6_read_11, k_X6_read_14, k_X6_read_15, k_X6_read_16, k_X6_read_19, k_X6_read_20, k_X6_read_21, k_X6_read_22, k_X6_read_25, k_X6_read_28, k_X6_read_29, k_X6_read_30, k_X6_read_33, k_X6_read_34, k_X6_read_35, k_X6_read_36, k_X6_read_39, k_X6_read_40, k_X6_read_41, k_X6_read_42, k_X6_read_45, k_X6_read_46, k_X6_read_49, k_X6_read_50, k_X6_read_53, k_X6_read_56, k_X6_read_57, k_X6_read_60, k_X6_read_61, k_X6_read_64, k_X6_read_65, k_X6_read_66, k_X6_read_67, k_X6_read_70, k_X6_read_71, k_X6_read_72, k_X6_read_75, k_X6_read_78, k_X6_read_81, k_X6_read_82, k_X6_read_85, w_J7_fill_53178_e, w_X10_ahead_e, w_X6_fillUntold_e, w_X6_isWhole_e, w_X6_readClause_e, Mt, MtO, MB1, Mk, Mf, hst_11 hpb, hst_12, hst_c hpb, hst_v hpb, hst_cl hpb, hst_up, skp_fold, ehK, ehR]
    cases n with
    | zero =>
      unfold hCls at hr
      rw [← hr] at h
      repeat' (first | assumption | apply And.intro | intro _)
      all_goals first | omega | exact h
    | succ n =>
      unfold hCls at hr
      generalize hrg : hR (tsg σ) (σ 1 1) pos c v = r at *
      generalize hkg : hK (tsg σ) (σ 1 1) pos = kd at *
      split at hr
      · rename_i c1
        obtain ⟨g1, g2, g3, g4, g5⟩ := hrb c1.1
        have hmk := mostK_b kd
        have hcb := hc kd c1.1 kb.2
        have hc' : cntB (upf c kd (c kd + 1)) := fun k a b => by
          unfold upf; split
          · omega
          · exact hc k a b
        have s2 := sk_b (tsg σ) g4
        have tb := tsg_bd ht (sk (tsg σ) (σ 1 1) r.2.1)
        have MB2 : ∀ x, planB (hst σ p (upf c kd (c kd + 1)) r.2.2 x) p := fun x => MB _ _ x hc' g5
        split at hr
        · rename_i c2
          rw [← hr] at h
          repeat' (first | assumption | apply And.intro | intro _)
          all_goals first | omega | exact h
        · rename_i c2
          have hr1 : r.1 = -1 := by omega
          split at hr
          · rename_i c3
            rw [← hr] at h
            dsimp only at h
            have q1 : hWhole (upf c kd (c kd + 1)) r.2.2 → Q (0, -1) (hst σ p (upf c kd (c kd + 1)) r.2.2 (sk (tsg σ) (σ 1 1) r.2.1)) := fun g => by rw [hfin_t g] at h; exact h
            have q2 : ¬ hWhole (upf c kd (c kd + 1)) r.2.2 → Q (0, σ 1 1) (hst σ p (upf c kd (c kd + 1)) r.2.2 (sk (tsg σ) (σ 1 1) r.2.1)) := fun g => by rw [hfin_f g] at h; exact h
            have MB3 := MB2 (sk (tsg σ) (σ 1 1) r.2.1)
            repeat' (first | assumption | apply And.intro | intro _)
            all_goals first | omega | exact q1 (by assumption) | exact q2 (by assumption)
          · rename_i c3
            have s3 := sk_lt hte (q := sk (tsg σ) (σ 1 1) r.2.1) c3
            repeat' (first | assumption | apply And.intro | intro _)
            all_goals first | omega | exact ⟨n, by omega, rfl, rfl, _, _, _, _, _, rfl, rfl, by omega, by omega, by omega, by omega, hc', g5, hr⟩
      · rename_i c1
        rw [← hr] at h
        repeat' (first | assumption | apply And.intro | intro _)
        all_goals first | omega | exact h
  · change vcs _ _ _ _ 90 0 [(22, p), (26, 1), (6, 0), (6, 0)] [] σ
    have al : ∀ τ, alen TT τ (p + 2) = 4 := fun τ => alP_2 hp τ
    have rl : ∀ τ, rfv TT τ p 1 = p + 2 := fun τ => rfP_1 hp τ
    simp only [vI_e, vL_e, vNull_e, vIload_e, vLload_e, vAload_e, vIstore_e, vLstore_e, vAstore_e, vIinc_e, vIadd_e, vIsub_e, vImul_e, vIand_e, vIor_e, vIxor_e, vIshl_e, vIshr_e, vIushr_e, vIdiv_e, vIrem_e, vLadd_e, vLsub_e, vLmul_e, vLand_e, vLor_e, vLxor_e, vLdiv_e, vLrem_e, vLushr_e, vLshl_e, vLcmp_e, vIneg_e, vI2l_e, vL2i_e, vI2b_e, vI2c_e, vDup_e, vPop_e, vDup2_e, vGoto_e, vIcEq_e, vIfEq_e, vIcNe_e, vIfNe_e, vIcLt_e, vIfLt_e, vIcGe_e, vIfGe_e, vIcGt_e, vIfGt_e, vIcLe_e, vIfLe_e, vNonnull_e, vSw_e, vGetI_e, vGetL_e, vGetR_e, vPutI_e, vPutZ_e, vPutL_e, vPutR_e, vIald_e, vIald_s, vLald_e, vBald_e, vBald_s, vAald_e, vIast_e, vLast_e, vBast_e, vAast_e, vAlen_e8, vAlen_e9, vAlen_e10, vAlen_e11, vAlen_e5, vAlen_e3, vGets_e, vCompact_e, vLdcS_e, vIret_e, vZret_e, vCret_e, vBret_e, vLret_e, vVret_e, vAret_e, vCallM_e0, vCallMV_e0, vCallS_e0, vCallSV_e0, vCallM_e1, vCallMV_e1, vCallS_e1, vCallSV_e1, vCallM_e2, vCallMV_e2, vCallS_e2, vCallSV_e2, vCallM_e3, vCallMV_e3, vCallS_e3, vCallSV_e3, vCallM_e4, vCallMV_e4, vCallS_e4, vCallSV_e4, vCallM_e5, vCallMV_e5, vCallS_e5, vCallSV_e5, vCallM_e6, vCallMV_e6, vCallS_e6, vCallSV_e6, vCallM_e7, vCallMV_e7, vCallS_e7, vCallSV_e7, vBad_e, vStrVal_e, vStrCod_e, vForm_e, vCallT_e0, vCallT_e1, vCallT_e2, vCopy_e, rf_0_0, rf_0_1, rf_0_2, rf_0_3, rf_0_4, rf_0_7, rf_0_10, rf_0_11, rf_0_12, rf_0_13, rf_0_14, rf_0_15, rf_0_16, rf_1_0, rf_3_0, rf_3_1, rf_6_0, rf_6_1, rf_9_0, rf_9_1, rf_9_3, rf_13_0, rf_13_1, rf_13_2, rf_16_0, rf_16_1, rf_16_2, rf_16_3, rf_21_0, rf_21_1, rf_21_2, rf_21_3, rf_26_0, rf_26_1, rf_26_2, rf_26_3, rf_26_4, rf_26_5, rf_26_6, rf_31_0, rf_31_2, rf_31_5, rf_31_6, rf_36_0, rf_36_1, rf_36_2, rf_36_3, rf_39_0, rf_39_1, rf_39_2, rf_41_0, rf_41_1, rf_41_2, rf_41_3, rf_5000_1, rf_5000_2, rf_5000_3, rf_5000_4, rf_5000_5, rf_5000_15, rf_5000_16, rf_5000_18, rf_5000_19, rf_5000_20, rf_5000_21, rf_5000_22, rf_5000_23, rf_5000_24, rf_5000_25, rf_5000_26, rf_5000_27, rf_5000_36, rf_5000_37, rf_5000_40, rf_5000_41, rf_5000_42, rf_5000_43, rf_5000_44, rf_5000_45, rf_5000_47, rf_5000_52, rf_5000_54, rf_5000_55, rf_100_0, rf_100_1, rf_103_0, rf_103_1, rf_106_0, rf_106_1, rf_109_0, rf_109_1, al_2, al_4, al_5, al_7, al_8, al_10, al_11, al_12, al_14, al_15, al_17, al_18, al_19, al_20, al_22, al_23, al_24, al_25, al_27, al_28, al_29, al_30, al_32, al_33, al_34, al_35, al_37, al_38, al_40, al_42, al_5001, al_5002, al_5003, al_5004, al_5005, al_5006, al_5007, al_5008, al_5009, al_5010, al_5011, al_5012, al_5013, al_5014, al_5015, al_5016, al_5017, al_5018, al_5019, al_5020, al_5021, al_5022, al_5023, al_5024, al_5025, al_5026, al_9000, al_101, al_102, al_104, al_105, al_107, al_108, al_110, al_111, vcs_e, lg_c0, lg_cs, lg_nil, set_c0, set_cs, okst_0, okst_s, acok_n, acok_c, List.contains_nil, List.contains_cons, Bool.or_false, Bool.false_or, Bool.false_eq_true, if_false, if_true, ite_self, ne_eq, true_and, and_true, not_false_eq_true, not_true_eq_false, false_imp_iff, true_imp_iff, Nat.ble_eq, Bool.and_eq_true, reduceCtorEq, or_false, false_or, or_true, true_or, false_and, and_false, and_self, Int.reduceLE, Int.reduceAdd, Int.reduceSub, Int.reduceMul, Int.reduceNeg, Int.reduceLT, Int.reduceEq, Int.reduceNe, Nat.reduceBEq, Nat.reduceBNe, Nat.reduceEqDiff, amCmp_in, amCmp_lt, amCmp_le, amCmp_gt, amCmp_ge, amCmp_eq, amCmp_ne, Nat.reduceLeDiff, Nat.reduceSub, Bool.and_true, Bool.true_and, Bool.and_self, Bool.or_true, Bool.true_or, isRf_3, isRf_4, isRf_5, isRf_8, isRf_9, isRf_10, isRf_11, isRf_15, isRf_16, isRf_17, isRf_18, isRf_19, isRf_20, isRf_21, isRf_22, isRf_23, isRf_24, isRf_25, isRf_26, isRf_27, isRf_28, k_X6_read_0, k_X6_read_1, k_X6_read_4, k_X6_read_5, k_X6_read_8, k_X6_read_9, k_X6_read_10, k_X6_read_11, k_X6_read_14, k_X6_read_15, k_X6_read_16, k_X6_read_19, k_X6_read_20, k_X6_read_21, k_X6_read_22, k_X6_read_25, k_X6_read_28, k_X6_read_29, k_X6_read_30, k_X6_read_33, k_X6_read_34, k_X6_read_35, k_X6_read_36, k_X6_read_39, k_X6_read_40, k_X6_read_41, k_X6_read_42, k_X6_read_45, k_X6_read_46, k_X6_read_49, k_X6_read_50, k_X6_read_53, k_X6_read_56, k_X6_read_57, k_X6_read_60, k_X6_read_61, k_X6_read_64, k_X6_read_65, k_X6_read_66, k_X6_read_67, k_X6_read_70, k_X6_read_71, k_X6_read_72, k_X6_read_75, k_X6_read_78, k_X6_read_81, k_X6_read_82, k_X6_read_85, w_J7_fill_53178_e, w_X10_ahead_e, w_X6_fillUntold_e, w_X6_isWhole_e, w_X6_readClause_e, al, rl]
    have em : up (fillU (fillm σ (p + 2) 4 0) p 0 0) 1 2 0 = hst σ p (fillm σ (p + 2) 4 0 (p + 2)) (filv (σ (p + 1)) 0 0) 0 := by
      rw [fillU_setv, fillU_row, fillm_o σ (by omega)]
      unfold hst
      congr 2
      funext b j
      unfold setv
      split
      · rename_i g; rw [g]
      · rename_i g; rw [fillm_o σ g]
    rw [em]
    repeat' (first | assumption | apply And.intro | intro _)
    all_goals first
      | omega
      | (refine ⟨241, rfl, rfl, 0, 0, _, _, _, rfl, rfl, by omega, by omega, by omega, by omega, ?_, filv_B hB.2 _ _, hR9⟩
         intro k a b
         unfold fillm
         rw [if_pos ⟨rfl, a, b⟩]; omega)
