/-! the reference reads: text 5000.5, begins 8, ends 9, at 10, fault 11, deep 12 -/
def rdM (σ : Mem) (p f d : Int) : Mem := fun b j => if b = 5000 ∧ j = 10 then p else if b = 5000 ∧ j = 11 then f else if b = 5000 ∧ j = 12 then d else σ b j
theorem rd_10 (σ : Mem) (p f d : Int) : rdM σ p f d 5000 10 = p := rfl
theorem rd_11 (σ : Mem) (p f d : Int) : rdM σ p f d 5000 11 = f := rfl
theorem rd_12 (σ : Mem) (p f d : Int) : rdM σ p f d 5000 12 = d := rfl
theorem rd_o (σ : Mem) (p f d : Int) {k : Int} (h : k < 10 ∨ 12 < k) : rdM σ p f d 5000 k = σ 5000 k := by
  unfold rdM; rw [if_neg (by omega), if_neg (by omega), if_neg (by omega)]
theorem rd_5 (σ : Mem) (p f d : Int) : rdM σ p f d 5000 5 = σ 5000 5 := rd_o σ p f d (by decide)
theorem rd_8 (σ : Mem) (p f d : Int) : rdM σ p f d 5000 8 = σ 5000 8 := rd_o σ p f d (by decide)
theorem rd_9 (σ : Mem) (p f d : Int) : rdM σ p f d 5000 9 = σ 5000 9 := rd_o σ p f d (by decide)
theorem rd_r (σ : Mem) (p f d : Int) {b : Int} (h : b ≠ 5000) : rdM σ p f d b = σ b := by
  funext j; unfold rdM; rw [if_neg (fun q => h q.1), if_neg (fun q => h q.1), if_neg (fun q => h q.1)]
theorem rd_rd (σ : Mem) (p f d p' f' d' : Int) : rdM (rdM σ p f d) p' f' d' = rdM σ p' f' d' := by
  funext b j; unfold rdM; (repeat' split) <;> rfl
theorem rd_u10 (σ : Mem) (p f d v : Int) : up (rdM σ p f d) 5000 10 v = rdM σ v f d := by
  funext b j; unfold up rdM; (repeat' split) <;> first | rfl | omega
theorem rd_u11 (σ : Mem) (p f d v : Int) : up (rdM σ p f d) 5000 11 v = rdM σ p v d := by
  funext b j; unfold up rdM; (repeat' split) <;> first | rfl | omega
theorem rd_u12 (σ : Mem) (p f d v : Int) : up (rdM σ p f d) 5000 12 v = rdM σ p f v := by
  funext b j; unfold up rdM; (repeat' split) <;> first | rfl | omega
theorem rd_id (σ : Mem) : rdM σ (σ 5000 10) (σ 5000 11) (σ 5000 12) = σ := by
  funext b j; unfold rdM
  split
  · rename_i h; rw [h.1, h.2]
  · split
    · rename_i h; rw [h.1, h.2]
    · split
      · rename_i h; rw [h.1, h.2]
      · rfl
theorem rd_of {σ : Mem} {p f d : Int} (h1 : σ 5000 10 = p) (h2 : σ 5000 11 = f) (h3 : σ 5000 12 = d) : σ = rdM σ p f d := by
  rw [← h1, ← h2, ← h3]; exact (rd_id σ).symm
/-- the sign at place i of what is read; -1: none -/
def mtx (σ : Mem) (i : Int) : Int := if 0 ≤ i ∧ i < σ 5000 9 then σ (σ 5000 5) (σ 5000 8 + i) % 256 else -1
def txOk (σ : Mem) : Prop := 0 ≤ σ 5000 9 ∧ σ 5000 9 ≤ 240 ∧ ((σ 5000 5 = 5001 ∧ σ 5000 8 = 0) ∨ (σ 5000 5 = 5002 ∧ 0 ≤ σ 5000 8 ∧ σ 5000 8 ≤ 720)) ∧ ∀ i, 0 ≤ i → i < σ 5000 9 → -128 ≤ σ (σ 5000 5) (σ 5000 8 + i) ∧ σ (σ 5000 5) (σ 5000 8 + i) ≤ 127
theorem tx_T {σ : Mem} (h : txOk σ) : 5001 ≤ σ 5000 5 ∧ σ 5000 5 ≤ 5002 ∧ ∃ A, (∀ τ, alen TT τ (σ 5000 5) = A) ∧ 0 ≤ σ 5000 8 ∧ σ 5000 8 + σ 5000 9 ≤ A ∧ A ≤ 960 := by
  obtain ⟨h0, h1, h2, -⟩ := h
  rcases h2 with ⟨e, e2⟩ | ⟨e, e2, e3⟩
  · refine ⟨by omega, by omega, 240, fun τ => by rw [e]; rfl, by omega, by omega, by omega⟩
  · refine ⟨by omega, by omega, 960, fun τ => by rw [e]; rfl, by omega, by omega, by omega⟩
theorem mtx_b {σ : Mem} (h : txOk σ) (i : Int) : -1 ≤ mtx σ i ∧ mtx σ i ≤ 255 ∧ (σ 5000 9 ≤ i → mtx σ i = -1) := by
  unfold mtx
  split
  · refine ⟨by omega, by omega, fun _ => by omega⟩
  · exact ⟨by omega, by omega, fun _ => rfl⟩
theorem mtx_in {σ : Mem} (h : txOk σ) {i : Int} (i0 : 0 ≤ i) (i1 : i < σ 5000 9) : mtx σ i = σ (σ 5000 5) (σ 5000 8 + i) % 256 ∧ -128 ≤ σ (σ 5000 5) (σ 5000 8 + i) ∧ σ (σ 5000 5) (σ 5000 8 + i) ≤ 127 := by
  refine ⟨?_, h.2.2.2 i i0 i1⟩
  unfold mtx; rw [if_pos ⟨i0, i1⟩]
theorem mtx_n {σ : Mem} (h : txOk σ) : ∀ i, σ 5000 9 ≤ i → mtx σ i = -1 := fun i hi => (mtx_b h i).2.2 hi
theorem mtx_rd {σ : Mem} (h : txOk σ) (p f d : Int) : mtx (rdM σ p f d) = mtx σ := by
  have hT := tx_T h
  funext i; unfold mtx
  rw [rd_9, rd_5, rd_8, rd_r σ p f d (by omega)]
theorem txOk_rd {σ : Mem} (h : txOk σ) (p f d : Int) : txOk (rdM σ p f d) := by
  have hT := tx_T h
  unfold txOk
  rw [rd_9, rd_5, rd_8, rd_r σ p f d (by omega)]; exact h
/-- the letters -/
def mLi (j : Int) : Int := if j = 0 then 102 else if j = 1 then 104 else if j = 2 then 100 else if j = 3 then 110 else if j = 4 then 107 else 101
def mL (σ : Mem) : Int → Int := fun j => σ 5004 (mLi j)
theorem mL_rd (σ : Mem) (p f d : Int) : mL (rdM σ p f d) = mL σ := by
  funext j; unfold mL; rw [rd_r σ p f d (by decide)]
theorem mLi_lix {c : Int} (h : 0 ≤ lix c) : mLi (lix c) = c := by
  unfold lix at h ⊢
  unfold mLi
  repeat' split at h
  all_goals first | omega | skip
  all_goals (rename_i e; subst e; decide)
/-- where it stands behind the blanks -/
abbrev msk (σ : Mem) : Int := sk (mtx σ) (σ 5000 9) (σ 5000 10)

theorem wd_1314 : Cond.fieldLink RX12 137 "ArmchairHouseModel" "ends" "I" ∈ TBL := tb_tab (List.mem_of_getElem? (i := 1314) (by decide +kernel)) rfl
theorem fl_X12_137 : amFl RX12 12 9 137 RX12 TX12 57 := ⟨rfl, inT_12, by decide, wd_1314⟩
theorem wd_1310 : Cond.fieldLink RX12 23 "ArmchairHouseModel" "text" "[B" ∈ TBL := tb_tab (List.mem_of_getElem? (i := 1310) (by decide +kernel)) rfl
theorem fl_X12_23 : amFl RX12 12 5 23 RX12 TX12 57 := ⟨rfl, inT_12, by decide, wd_1310⟩
theorem wd_1313 : Cond.fieldLink RX12 140 "ArmchairHouseModel" "begins" "I" ∈ TBL := tb_tab (List.mem_of_getElem? (i := 1313) (by decide +kernel)) rfl
theorem fl_X12_140 : amFl RX12 12 8 140 RX12 TX12 57 := ⟨rfl, inT_12, by decide, wd_1313⟩
theorem fp_X12_134 : amFp RX12 12 10 134 RX12 TX12 57 tyX12 .int := ⟨fl_X12_134, tyX12_ok, nmX12, by decide +kernel⟩
def a_X12_look : AC := [(0, vAload 0 1), (1, vGetI 28 10 4), (4, vAload 0 5), (5, vGetI 28 9 8), (8, vIcGe 43 11), (11, vAload 0 12), (12, vGetR TT 28 5 10 15), (15, vAload 0 16), (16, vGetI 28 8 19), (19, vAload 0 20), (20, vGetI 28 10 23), (23, vIadd 24), (24, vBald TT 25), (25, vI 32 27), (27, vIcNe 43 30), (30, vAload 0 31), (31, vDup 32), (32, vGetI 28 10 35), (35, vI 1 36), (36, vIadd 37), (37, vPutI 28 10 40), (40, vGoto 0), (43, vAload 0 44), (44, vGetI 28 10 47), (47, vAload 0 48), (48, vGetI 28 9 51), (51, vIcGe 75 54), (54, vAload 0 55), (55, vGetR TT 28 5 10 58), (58, vAload 0 59), (59, vGetI 28 8 62), (62, vAload 0 63), (63, vGetI 28 10 66), (66, vIadd 67), (67, vBald TT 68), (68, vI 255 71), (71, vIand 72), (72, vGoto 76), (75, vI (-1) 76), (76, vIret)]
theorem k_X12_look_0 : look a_X12_look 0 = vAload 0 1 := rfl
theorem k_X12_look_1 : look a_X12_look 1 = vGetI 28 10 4 := rfl
theorem k_X12_look_4 : look a_X12_look 4 = vAload 0 5 := rfl
theorem k_X12_look_5 : look a_X12_look 5 = vGetI 28 9 8 := rfl
theorem k_X12_look_8 : look a_X12_look 8 = vIcGe 43 11 := rfl
theorem k_X12_look_11 : look a_X12_look 11 = vAload 0 12 := rfl
theorem k_X12_look_12 : look a_X12_look 12 = vGetR TT 28 5 10 15 := rfl
theorem k_X12_look_15 : look a_X12_look 15 = vAload 0 16 := rfl
theorem k_X12_look_16 : look a_X12_look 16 = vGetI 28 8 19 := rfl
theorem k_X12_look_19 : look a_X12_look 19 = vAload 0 20 := rfl
theorem k_X12_look_20 : look a_X12_look 20 = vGetI 28 10 23 := rfl
theorem k_X12_look_23 : look a_X12_look 23 = vIadd 24 := rfl
theorem k_X12_look_24 : look a_X12_look 24 = vBald TT 25 := rfl
theorem k_X12_look_25 : look a_X12_look 25 = vI 32 27 := rfl
theorem k_X12_look_27 : look a_X12_look 27 = vIcNe 43 30 := rfl
theorem k_X12_look_30 : look a_X12_look 30 = vAload 0 31 := rfl
theorem k_X12_look_31 : look a_X12_look 31 = vDup 32 := rfl
theorem k_X12_look_32 : look a_X12_look 32 = vGetI 28 10 35 := rfl
theorem k_X12_look_35 : look a_X12_look 35 = vI 1 36 := rfl
theorem k_X12_look_36 : look a_X12_look 36 = vIadd 37 := rfl
theorem k_X12_look_37 : look a_X12_look 37 = vPutI 28 10 40 := rfl
theorem k_X12_look_40 : look a_X12_look 40 = vGoto 0 := rfl
theorem k_X12_look_43 : look a_X12_look 43 = vAload 0 44 := rfl
theorem k_X12_look_44 : look a_X12_look 44 = vGetI 28 10 47 := rfl
theorem k_X12_look_47 : look a_X12_look 47 = vAload 0 48 := rfl
theorem k_X12_look_48 : look a_X12_look 48 = vGetI 28 9 51 := rfl
theorem k_X12_look_51 : look a_X12_look 51 = vIcGe 75 54 := rfl
theorem k_X12_look_54 : look a_X12_look 54 = vAload 0 55 := rfl
theorem k_X12_look_55 : look a_X12_look 55 = vGetR TT 28 5 10 58 := rfl
theorem k_X12_look_58 : look a_X12_look 58 = vAload 0 59 := rfl
theorem k_X12_look_59 : look a_X12_look 59 = vGetI 28 8 62 := rfl
theorem k_X12_look_62 : look a_X12_look 62 = vAload 0 63 := rfl
theorem k_X12_look_63 : look a_X12_look 63 = vGetI 28 10 66 := rfl
theorem k_X12_look_66 : look a_X12_look 66 = vIadd 67 := rfl
theorem k_X12_look_67 : look a_X12_look 67 = vBald TT 68 := rfl
theorem k_X12_look_68 : look a_X12_look 68 = vI 255 71 := rfl
theorem k_X12_look_71 : look a_X12_look 71 = vIand 72 := rfl
theorem k_X12_look_72 : look a_X12_look 72 = vGoto 76 := rfl
theorem k_X12_look_75 : look a_X12_look 75 = vI (-1) 76 := rfl
theorem k_X12_look_76 : look a_X12_look 76 = vIret := rfl
theorem o_X12_look {X : amX} (e1 : XT X = TT) (e2 : XD X = 0) (hB : amB X RX12 cX12_look (some .int) 1) : ∀ pc, amOK X pc (look a_X12_look pc) := by
  have hT : amTok (XT X) := e1 ▸ TT_ok
  refine look_ok ?_
  unfold a_X12_look
  refine fc (ok_aload_n hB dX12_look_0) ?_
  refine fc (ok_getI hB hT fl_X12_134 rfl rfl (Or.inl af_12_10) dX12_look_1) ?_
  refine fc (ok_aload_n hB dX12_look_4) ?_
  refine fc (ok_getI hB hT fl_X12_137 rfl rfl (Or.inl af_12_9) dX12_look_5) ?_
  refine fc (ok_icmp_ge hB (t := 43) (by decide) dX12_look_8) ?_
  refine fc (ok_aload_n hB dX12_look_11) ?_
  refine fc (okt_getR e1 hB hT fl_X12_23 rfl af_12_5 at_12_5 (by decide) dX12_look_12) ?_
  refine fc (ok_aload_n hB dX12_look_15) ?_
  refine fc (ok_getI hB hT fl_X12_140 rfl rfl (Or.inl af_12_8) dX12_look_16) ?_
  refine fc (ok_aload_n hB dX12_look_19) ?_
  refine fc (ok_getI hB hT fl_X12_134 rfl rfl (Or.inl af_12_10) dX12_look_20) ?_
  refine fc (ok_iadd hB dX12_look_23) ?_
  refine fc (okt_baload e1 hB dX12_look_24) ?_
  refine fc (ok_bipush hB dX12_look_25 (by decide)) ?_
  refine fc (ok_icmp_ne hB (t := 43) (by decide) dX12_look_27) ?_
  refine fc (ok_aload_n hB dX12_look_30) ?_
  refine fc (ok_dup hB dX12_look_31) ?_
  refine fc (ok_getI hB hT fl_X12_134 rfl rfl (Or.inl af_12_10) dX12_look_32) ?_
  refine fc (ok_iconst hB dX12_look_35) ?_
  refine fc (ok_iadd hB dX12_look_36) ?_
  refine fc (ok_putI hB hT fp_X12_134 rfl rfl rfl af_12_10 dX12_look_37) ?_
  refine fc (ok_goto hB (t := 0) (by decide) dX12_look_40) ?_
  refine fc (ok_aload_n hB dX12_look_43) ?_
  refine fc (ok_getI hB hT fl_X12_134 rfl rfl (Or.inl af_12_10) dX12_look_44) ?_
  refine fc (ok_aload_n hB dX12_look_47) ?_
  refine fc (ok_getI hB hT fl_X12_137 rfl rfl (Or.inl af_12_9) dX12_look_48) ?_
  refine fc (ok_icmp_ge hB (t := 75) (by decide) dX12_look_51) ?_
  refine fc (ok_aload_n hB dX12_look_54) ?_
  refine fc (okt_getR e1 hB hT fl_X12_23 rfl af_12_5 at_12_5 (by decide) dX12_look_55) ?_
  refine fc (ok_aload_n hB dX12_look_58) ?_
  refine fc (ok_getI hB hT fl_X12_140 rfl rfl (Or.inl af_12_8) dX12_look_59) ?_
  refine fc (ok_aload_n hB dX12_look_62) ?_
  refine fc (ok_getI hB hT fl_X12_134 rfl rfl (Or.inl af_12_10) dX12_look_63) ?_
  refine fc (ok_iadd hB dX12_look_66) ?_
  refine fc (okt_baload e1 hB dX12_look_67) ?_
  refine fc (ok_sipush hB dX12_look_68 (by decide)) ?_
  refine fc (ok_iand hB dX12_look_71) ?_
  refine fc (ok_goto hB (t := 76) (by decide) dX12_look_72) ?_
  refine fc (ok_iconst hB dX12_look_75) ?_
  refine fc (ok_iret hB dX12_look_76) ?_
  exact fn
def inv_look (σ : Mem) (p : Int) (n pc : Nat) (ls st : List AV) (σ' : Mem) : Prop := pc = 0 ∧ st = [] ∧ ls = [(28, 5000)] ∧ ∃ q, σ' = up σ 5000 10 q ∧ 0 ≤ q ∧ q + n = σ 5000 9 ∧ skp (mtx σ) q n = p
def w_X12_look : WP := fun av σ Q => av = [(28, 5000)] ∧ (txOk σ ∧ 0 ≤ σ 5000 10 ∧ σ 5000 10 ≤ σ 5000 9 ∧ Q (0, mtx σ (msk σ)) (up σ 5000 10 (msk σ)))
theorem w_X12_look_e  (σ : Mem) (Q : AV → Mem → Prop) : w_X12_look [(28, 5000)] σ Q = (txOk σ ∧ 0 ≤ σ 5000 10 ∧ σ 5000 10 ≤ σ 5000 9 ∧ Q (0, mtx σ (msk σ)) (up σ 5000 10 (msk σ))) := by
  apply propext; constructor
  · rintro ⟨h9, hb9⟩; cases h9; exact hb9
  · intro hb9; exact ⟨rfl, hb9⟩

set_option maxRecDepth 100000 in
set_option maxHeartbeats 4000000 in
theorem s_X12_look : ∀ av σ Q, w_X12_look av σ Q → amCall 0 0 0 TT yX12_look cX12_look 1 (some .int) av σ Q := by
  rintro av σ Q ⟨rfl, ht, h0, h1, h⟩
  obtain ⟨t0, t1, A, hA, a0, a1, a2⟩ := tx_T ht
  have n0 := ht.1
  have n1 := ht.2.1
  have hsb := sk_b (mtx σ) h1
  have hp : skp (mtx σ) (σ 5000 10) (σ 5000 9 - σ 5000 10).toNat = msk σ := rfl
  have t00 : 0 ≤ σ 5000 5 := by omega
  generalize msk σ = p at *
  have hu : ∀ q, up σ 5000 10 q (σ 5000 5) = σ (σ 5000 5) := fun q => up_na _ (by omega)
  have u5 : ∀ q, up σ 5000 10 q 5000 5 = σ 5000 5 := fun q => up_nj _ (by decide)
  have u8 : ∀ q, up σ 5000 10 q 5000 8 = σ 5000 8 := fun q => up_nj _ (by decide)
  have u9 : ∀ q, up σ 5000 10 q 5000 9 = σ 5000 9 := fun q => up_nj _ (by decide)
  refine am_m [0] (inv_look σ p) (own := RX12) (A := look a_X12_look) (fun X e1 e2 hB => o_X12_look e1 e2 hB) rfl (by decide +kernel) rfl rfl ?_ ⟨60, ?_⟩ (w := 1)
  · rintro n pc ls st σ' ⟨rfl, rfl, rfl, q, rfl, hq0, hq1, hs⟩
    refine ⟨60, ?_⟩
    simp only [↓reduceIte, inR_0, inR_1, inR_m, vSw2_e, swP_n, swP_c, vI_e, vL_e, vNull_e, vIload_e, vLload_e, vAload_e, vIstore_e, vLstore_e, vAstore_e, vIinc_e, vIadd_e, vIsub_e, vImul_e, vIand_e, vIor_e, vIxor_e, vIshl_e, vIshr_e, vIushr_e, vIdiv_e, vIrem_e, vLadd_e, vLsub_e, vLmul_e, vLand_e, vLor_e, vLxor_e, vLdiv_e, vLrem_e, vLushr_e, vLshl_e, vLcmp_e, vIneg_e, vI2l_e, vL2i_e, vI2b_e, vI2c_e, vDup_e, vPop_e, vDup2_e, vGoto_e, vIcEq_e, vIfEq_e, vIcNe_e, vIfNe_e, vIcLt_e, vIfLt_e, vIcGe_e, vIfGe_e, vIcGt_e, vIfGt_e, vIcLe_e, vIfLe_e, vNonnull_e, vSw_e, vGetI_e, vGetL_e, vGetR_e, vPutI_e, vPutZ_e, vPutL_e, vPutR_e, vIald_e, vIald_s, vLald_e, vBald_e, vBald_s, vAald_e, vIast_e, vLast_e, vBast_e, vAast_e, vAlen_e8, vAlen_e9, vAlen_e10, vAlen_e11, vAlen_e5, vAlen_e3, vGets_e, vCompact_e, vLdcS_e, vIret_e, vZret_e, vCret_e, vBret_e, vLret_e, vVret_e, vAret_e, vCallM_e0, vCallMV_e0, vCallS_e0, vCallSV_e0, vCallM_e1, vCallMV_e1, vCallS_e1, vCallSV_e1, vCallM_e2, vCallMV_e2, vCallS_e2, vCallSV_e2, vCallM_e3, vCallMV_e3, vCallS_e3, vCallSV_e3, vCallM_e4, vCallMV_e4, vCallS_e4, vCallSV_e4, vCallM_e5, vCallMV_e5, vCallS_e5, vCallSV_e5, vCallM_e6, vCallMV_e6, vCallS_e6, vCallSV_e6, vCallM_e7, vCallMV_e7, vCallS_e7, vCallSV_e7, vBad_e, vStrVal_e, vStrCod_e, vForm_e, vCallT_e0, vCallT_e1, vCallT_e2, vCopy_e, rf_0_0, rf_0_1, rf_0_2, rf_0_3, rf_0_4, rf_0_7, rf_0_10, rf_0_11, rf_0_12, rf_0_13, rf_0_14, rf_0_15, rf_0_16, rf_1_0, rf_3_0, rf_3_1, rf_6_0, rf_6_1, rf_9_0, rf_9_1, rf_9_3, rf_13_0, rf_13_1, rf_13_2, rf_16_0, rf_16_1, rf_16_2, rf_16_3, rf_21_0, rf_21_1, rf_21_2, rf_21_3, rf_26_0, rf_26_1, rf_26_2, rf_26_3, rf_26_4, rf_26_5, rf_26_6, rf_31_0, rf_31_2, rf_31_5, rf_31_6, rf_36_0, rf_36_1, rf_36_2, rf_36_3, rf_39_0, rf_39_1, rf_39_2, rf_41_0, rf_41_1, rf_41_2, rf_41_3, rf_5000_1, rf_5000_2, rf_5000_3, rf_5000_4, rf_5000_5, rf_5000_15, rf_5000_16, rf_5000_18, rf_5000_19, rf_5000_20, rf_5000_21, rf_5000_22, rf_5000_23, rf_5000_24, rf_5000_25, rf_5000_26, rf_5000_27, rf_5000_36, rf_5000_37, rf_5000_40, rf_5000_41, rf_5000_42, rf_5000_43, rf_5000_44, rf_5000_45, rf_5000_47, rf_5000_52, rf_5000_54, rf_5000_55, rf_100_0, rf_100_1, rf_103_0, rf_103_1, rf_106_0, rf_106_1, rf_109_0, rf_109_1, al_2, al_4, al_5, al_7, al_8, al_10, al_11, al_12, al_14, al_15, al_17, al_18, al_19, al_20, al_22, al_23, al_24, al_25, al_27, al_28, al_29, al_30, al_32, al_33, al_34, al_35, al_37, al_38, al_40, al_42, al_5001, al_5002, al_5003, al_5004, al_5005, al_5006, al_5007, al_5008, al_5009, al_5010, al_5011, al_5012, al_5013, al_5014, al_5015, al_5016, al_5017, al_5018, al_5019, al_5020, al_5021, al_5022, al_5023, al_5024, al_5025, al_5026, al_9000, al_101, al_102, al_104, al_105, al_107, al_108, al_110, al_111, vcs_e, lg_c0, lg_cs, lg_nil, set_c0, set_cs, okst_0, okst_s, acok_n, acok_c, List.contains_nil, List.contains_cons, Bool.or_false, Bool.false_or, Bool.false_eq_true, if_false, if_true, ite_self, ne_eq, true_and, and_true, not_false_eq_true, not_true_eq_false, false_imp_iff, true_imp_iff, Nat.ble_eq, Bool.and_eq_true, reduceCtorEq, or_false, false_or, or_true, true_or, false_and, and_false, and_self, Int.reduceLE, Int.reduceAdd, Int.reduceSub, Int.reduceMul, Int.reduceNeg, Int.reduceLT, Int.reduceEq, Int.reduceNe, Nat.reduceBEq, Nat.reduceBNe, Nat.reduceEqDiff, amCmp_in, amCmp_lt, amCmp_le, amCmp_gt, amCmp_ge, amCmp_eq, amCmp_ne, Nat.reduceLeDiff, Nat.reduceSub, Bool.and_true, Bool.true_and, Bool.and_self, Bool.or_true, Bool.true_or, isRf_3, isRf_4, isRf_5, isRf_8, isRf_9, isRf_10, isRf_11, isRf_15, isRf_16, isRf_17, isRf_18, isRf_19, isRf_20, isRf_21, isRf_22, isRf_23, isRf_24, isRf_25, isRf_26, isRf_27, isRf_28, k_X12_look_0, k_X12_look_1, k_X12_look_4, k_X12_look_5, k_X12_look_8, k_X12_look_11, k_X12_look_12, k_X12_look_15, k_X12_look_16, k_X12_look_19, k_X12_look_20, k_X12_look_23, k_X12_look_24, k_X12_look_25, k_X12_look_27, k_X12_look_30, k_X12_look_31, k_X12_look_32, k_X12_look_35, k_X12_look_36, k_X12_look_37, k_X12_look_40, k_X12_look_43, k_X12_look_44, k_X12_look_47, k_X12_look_48, k_X12_look_51, k_X12_look_54, k_X12_look_55, k_X12_look_58, k_X12_look_59, k_X12_look_62, k_X12_look_63, k_X12_look_66, k_X12_look_67, k_X12_look_68, k_X12_look_71, k_X12_look_72, k_X12_look_75, k_X12_look_76, up_s, up_up, hu, u5, u8, u9, hA, t00, amIand_255]
    cases n with
    | zero =>
      unfold skp at hs
      subst hs
      have hn := mtx_n ht q (by omega)
      rw [hn] at h
      repeat' (first | assumption | apply And.intro | intro _)
      all_goals first | exact h | omega
    | succ n =>
      unfold skp at hs
      obtain ⟨e1, e2, e3⟩ := mtx_in ht hq0 (by omega)
      by_cases c : mtx σ q = 32
      · rw [if_pos c] at hs
        repeat' (first | assumption | apply And.intro | intro _)
        all_goals first | omega | exact ⟨n, by omega, rfl, rfl, rfl, q + 1, rfl, by omega, by omega, hs⟩
      · rw [if_neg c] at hs
        subst hs
        rw [e1] at h
        repeat' (first | assumption | apply And.intro | intro _)
        all_goals first | exact h | omega
  · change vcs _ _ _ _ 60 0 [(28, 5000)] [] σ
    simp only [↓reduceIte, inR_0, inR_1, inR_m, vI_e, vL_e, vNull_e, vIload_e, vLload_e, vAload_e, vIstore_e, vLstore_e, vAstore_e, vIinc_e, vIadd_e, vIsub_e, vImul_e, vIand_e, vIor_e, vIxor_e, vIshl_e, vIshr_e, vIushr_e, vIdiv_e, vIrem_e, vLadd_e, vLsub_e, vLmul_e, vLand_e, vLor_e, vLxor_e, vLdiv_e, vLrem_e, vLushr_e, vLshl_e, vLcmp_e, vIneg_e, vI2l_e, vL2i_e, vI2b_e, vI2c_e, vDup_e, vPop_e, vDup2_e, vGoto_e, vIcEq_e, vIfEq_e, vIcNe_e, vIfNe_e, vIcLt_e, vIfLt_e, vIcGe_e, vIfGe_e, vIcGt_e, vIfGt_e, vIcLe_e, vIfLe_e, vNonnull_e, vSw_e, vGetI_e, vGetL_e, vGetR_e, vPutI_e, vPutZ_e, vPutL_e, vPutR_e, vIald_e, vIald_s, vLald_e, vBald_e, vBald_s, vAald_e, vIast_e, vLast_e, vBast_e, vAast_e, vAlen_e8, vAlen_e9, vAlen_e10, vAlen_e11, vAlen_e5, vAlen_e3, vGets_e, vCompact_e, vLdcS_e, vIret_e, vZret_e, vCret_e, vBret_e, vLret_e, vVret_e, vAret_e, vCallM_e0, vCallMV_e0, vCallS_e0, vCallSV_e0, vCallM_e1, vCallMV_e1, vCallS_e1, vCallSV_e1, vCallM_e2, vCallMV_e2, vCallS_e2, vCallSV_e2, vCallM_e3, vCallMV_e3, vCallS_e3, vCallSV_e3, vCallM_e4, vCallMV_e4, vCallS_e4, vCallSV_e4, vCallM_e5, vCallMV_e5, vCallS_e5, vCallSV_e5, vCallM_e6, vCallMV_e6, vCallS_e6, vCallSV_e6, vCallM_e7, vCallMV_e7, vCallS_e7, vCallSV_e7, vBad_e, vStrVal_e, vStrCod_e, vForm_e, vCallT_e0, vCallT_e1, vCallT_e2, vCopy_e, rf_0_0, rf_0_1, rf_0_2, rf_0_3, rf_0_4, rf_0_7, rf_0_10, rf_0_11, rf_0_12, rf_0_13, rf_0_14, rf_0_15, rf_0_16, rf_1_0, rf_3_0, rf_3_1, rf_6_0, rf_6_1, rf_9_0, rf_9_1, rf_9_3, rf_13_0, rf_13_1, rf_13_2, rf_16_0, rf_16_1, rf_16_2, rf_16_3, rf_21_0, rf_21_1, rf_21_2, rf_21_3, rf_26_0, rf_26_1, rf_26_2, rf_26_3, rf_26_4, rf_26_5, rf_26_6, rf_31_0, rf_31_2, rf_31_5, rf_31_6, rf_36_0, rf_36_1, rf_36_2, rf_36_3, rf_39_0, rf_39_1, rf_39_2, rf_41_0, rf_41_1, rf_41_2, rf_41_3, rf_5000_1, rf_5000_2, rf_5000_3, rf_5000_4, rf_5000_5, rf_5000_15, rf_5000_16, rf_5000_18, rf_5000_19, rf_5000_20, rf_5000_21, rf_5000_22, rf_5000_23, rf_5000_24, rf_5000_25, rf_5000_26, rf_5000_27, rf_5000_36, rf_5000_37, rf_5000_40, rf_5000_41, rf_5000_42, rf_5000_43, rf_5000_44, rf_5000_45, rf_5000_47, rf_5000_52, rf_5000_54, rf_5000_55, rf_100_0, rf_100_1, rf_103_0, rf_103_1, rf_106_0, rf_106_1, rf_109_0, rf_109_1, al_2, al_4, al_5, al_7, al_8, al_10, al_11, al_12, al_14, al_15, al_17, al_18, al_19, al_20, al_22, al_23, al_24, al_25, al_27, al_28, al_29, al_30, al_32, al_33, al_34, al_35, al_37, al_38, al_40, al_42, al_5001, al_5002, al_5003, al_5004, al_5005, al_5006, al_5007, al_5008, al_5009, al_5010, al_5011, al_5012, al_5013, al_5014, al_5015, al_5016, al_5017, al_5018, al_5019, al_5020, al_5021, al_5022, al_5023, al_5024, al_5025, al_5026, al_9000, al_101, al_102, al_104, al_105, al_107, al_108, al_110, al_111, vcs_e, lg_c0, lg_cs, lg_nil, set_c0, set_cs, okst_0, okst_s, acok_n, acok_c, List.contains_nil, List.contains_cons, Bool.or_false, Bool.false_or, Bool.false_eq_true, if_false, if_true, ite_self, ne_eq, true_and, and_true, not_false_eq_true, not_true_eq_false, false_imp_iff, true_imp_iff, Nat.ble_eq, Bool.and_eq_true, reduceCtorEq, or_false, false_or, or_true, true_or, false_and, and_false, and_self, Int.reduceLE, Int.reduceAdd, Int.reduceSub, Int.reduceMul, Int.reduceNeg, Int.reduceLT, Int.reduceEq, Int.reduceNe, Nat.reduceBEq, Nat.reduceBNe, Nat.reduceEqDiff, amCmp_in, amCmp_lt, amCmp_le, amCmp_gt, amCmp_ge, amCmp_eq, amCmp_ne, Nat.reduceLeDiff, Nat.reduceSub, Bool.and_true, Bool.true_and, Bool.and_self, Bool.or_true, Bool.true_or, isRf_3, isRf_4, isRf_5, isRf_8, isRf_9, isRf_10, isRf_11, isRf_15, isRf_16, isRf_17, isRf_18, isRf_19, isRf_20, isRf_21, isRf_22, isRf_23, isRf_24, isRf_25, isRf_26, isRf_27, isRf_28]
    exact ⟨(σ 5000 9 - σ 5000 10).toNat, rfl, rfl, rfl, σ 5000 10, (up_id σ 5000 10).symm, h0, by omega, hp⟩
def a_X12_here : AC := [(0, vAload 0 1), (1, vGetI 28 10 4), (4, vAload 0 5), (5, vGetI 28 9 8), (8, vIcGe 32 11), (11, vAload 0 12), (12, vGetR TT 28 5 10 15), (15, vAload 0 16), (16, vGetI 28 8 19), (19, vAload 0 20), (20, vGetI 28 10 23), (23, vIadd 24), (24, vBald TT 25), (25, vI 255 28), (28, vIand 29), (29, vGoto 33), (32, vI (-1) 33), (33, vIret)]
theorem k_X12_here_0 : look a_X12_here 0 = vAload 0 1 := rfl
theorem k_X12_here_1 : look a_X12_here 1 = vGetI 28 10 4 := rfl
theorem k_X12_here_4 : look a_X12_here 4 = vAload 0 5 := rfl
theorem k_X12_here_5 : look a_X12_here 5 = vGetI 28 9 8 := rfl
theorem k_X12_here_8 : look a_X12_here 8 = vIcGe 32 11 := rfl
theorem k_X12_here_11 : look a_X12_here 11 = vAload 0 12 := rfl
theorem k_X12_here_12 : look a_X12_here 12 = vGetR TT 28 5 10 15 := rfl
theorem k_X12_here_15 : look a_X12_here 15 = vAload 0 16 := rfl
theorem k_X12_here_16 : look a_X12_here 16 = vGetI 28 8 19 := rfl
theorem k_X12_here_19 : look a_X12_here 19 = vAload 0 20 := rfl
theorem k_X12_here_20 : look a_X12_here 20 = vGetI 28 10 23 := rfl
theorem k_X12_here_23 : look a_X12_here 23 = vIadd 24 := rfl
theorem k_X12_here_24 : look a_X12_here 24 = vBald TT 25 := rfl
theorem k_X12_here_25 : look a_X12_here 25 = vI 255 28 := rfl
theorem k_X12_here_28 : look a_X12_here 28 = vIand 29 := rfl
theorem k_X12_here_29 : look a_X12_here 29 = vGoto 33 := rfl
theorem k_X12_here_32 : look a_X12_here 32 = vI (-1) 33 := rfl
theorem k_X12_here_33 : look a_X12_here 33 = vIret := rfl
theorem o_X12_here {X : amX} (e1 : XT X = TT) (e2 : XD X = 0) (hB : amB X RX12 cX12_here (some .int) 1) : ∀ pc, amOK X pc (look a_X12_here pc) := by
  have hT : amTok (XT X) := e1 ▸ TT_ok
  refine look_ok ?_
  unfold a_X12_here
  refine fc (ok_aload_n hB dX12_here_0) ?_
  refine fc (ok_getI hB hT fl_X12_134 rfl rfl (Or.inl af_12_10) dX12_here_1) ?_
  refine fc (ok_aload_n hB dX12_here_4) ?_
  refine fc (ok_getI hB hT fl_X12_137 rfl rfl (Or.inl af_12_9) dX12_here_5) ?_
  refine fc (ok_icmp_ge hB (t := 32) (by decide) dX12_here_8) ?_
  refine fc (ok_aload_n hB dX12_here_11) ?_
  refine fc (okt_getR e1 hB hT fl_X12_23 rfl af_12_5 at_12_5 (by decide) dX12_here_12) ?_
  refine fc (ok_aload_n hB dX12_here_15) ?_
  refine fc (ok_getI hB hT fl_X12_140 rfl rfl (Or.inl af_12_8) dX12_here_16) ?_
  refine fc (ok_aload_n hB dX12_here_19) ?_
  refine fc (ok_getI hB hT fl_X12_134 rfl rfl (Or.inl af_12_10) dX12_here_20) ?_
  refine fc (ok_iadd hB dX12_here_23) ?_
  refine fc (okt_baload e1 hB dX12_here_24) ?_
  refine fc (ok_sipush hB dX12_here_25 (by decide)) ?_
  refine fc (ok_iand hB dX12_here_28) ?_
  refine fc (ok_goto hB (t := 33) (by decide) dX12_here_29) ?_
  refine fc (ok_iconst hB dX12_here_32) ?_
  refine fc (ok_iret hB dX12_here_33) ?_
  exact fn

def w_X12_here : WP := fun av σ Q => av = [(28, 5000)] ∧ (txOk σ ∧ 0 ≤ σ 5000 10 ∧ σ 5000 10 ≤ σ 5000 9 ∧ Q (0, mtx σ (σ 5000 10)) σ)
theorem w_X12_here_e  (σ : Mem) (Q : AV → Mem → Prop) : w_X12_here [(28, 5000)] σ Q = (txOk σ ∧ 0 ≤ σ 5000 10 ∧ σ 5000 10 ≤ σ 5000 9 ∧ Q (0, mtx σ (σ 5000 10)) σ) := by
  apply propext; constructor
  · rintro ⟨h9, hb9⟩; cases h9; exact hb9
  · intro hb9; exact ⟨rfl, hb9⟩

set_option maxRecDepth 100000 in
set_option maxHeartbeats 4000000 in
theorem s_X12_here : ∀ av σ Q, w_X12_here av σ Q → amCall 0 0 0 TT yX12_here cX12_here 1 (some .int) av σ Q := by
  rintro av σ Q ⟨rfl, ht, h0, h1, h⟩
  obtain ⟨t0, t1, A, hA, a0, a1, a2⟩ := tx_T ht
  have n1 := ht.2.1
  have t00 : 0 ≤ σ 5000 5 := by omega
  refine am_m0 (own := RX12) (A := look a_X12_here) (fun X e1 e2 hB => o_X12_here e1 e2 hB) rfl (by decide +kernel) rfl rfl 190 (w := 1) ?_
  change vcs _ _ _ _ 190 0 [(28, 5000)] [] σ
  simp only [↓reduceIte, inR_0, inR_1, inR_m, vSw2_e, swP_n, swP_c, vI_e, vL_e, vNull_e, vIload_e, vLload_e, vAload_e, vIstore_e, vLstore_e, vAstore_e, vIinc_e, vIadd_e, vIsub_e, vImul_e, vIand_e, vIor_e, vIxor_e, vIshl_e, vIshr_e, vIushr_e, vIdiv_e, vIrem_e, vLadd_e, vLsub_e, vLmul_e, vLand_e, vLor_e, vLxor_e, vLdiv_e, vLrem_e, vLushr_e, vLshl_e, vLcmp_e, vIneg_e, vI2l_e, vL2i_e, vI2b_e, vI2c_e, vDup_e, vPop_e, vDup2_e, vGoto_e, vIcEq_e, vIfEq_e, vIcNe_e, vIfNe_e, vIcLt_e, vIfLt_e, vIcGe_e, vIfGe_e, vIcGt_e, vIfGt_e, vIcLe_e, vIfLe_e, vNonnull_e, vSw_e, vGetI_e, vGetL_e, vGetR_e, vPutI_e, vPutZ_e, vPutL_e, vPutR_e, vIald_e, vIald_s, vLald_e, vBald_e, vBald_s, vAald_e, vIast_e, vLast_e, vBast_e, vAast_e, vAlen_e8, vAlen_e9, vAlen_e10, vAlen_e11, vAlen_e5, vAlen_e3, vGets_e, vCompact_e, vLdcS_e, vIret_e, vZret_e, vCret_e, vBret_e, vLret_e, vVret_e, vAret_e, vCallM_e0, vCallMV_e0, vCallS_e0, vCallSV_e0, vCallM_e1, vCallMV_e1, vCallS_e1, vCallSV_e1, vCallM_e2, vCallMV_e2, vCallS_e2, vCallSV_e2, vCallM_e3, vCallMV_e3, vCallS_e3, vCallSV_e3, vCallM_e4, vCallMV_e4, vCallS_e4, vCallSV_e4, vCallM_e5, vCallMV_e5, vCallS_e5, vCallSV_e5, vCallM_e6, vCallMV_e6, vCallS_e6, vCallSV_e6, vCallM_e7, vCallMV_e7, vCallS_e7, vCallSV_e7, vBad_e, vStrVal_e, vStrCod_e, vForm_e, vCallT_e0, vCallT_e1, vCallT_e2, vCopy_e, rf_0_0, rf_0_1, rf_0_2, rf_0_3, rf_0_4, rf_0_7, rf_0_10, rf_0_11, rf_0_12, rf_0_13, rf_0_14, rf_0_15, rf_0_16, rf_1_0, rf_3_0, rf_3_1, rf_6_0, rf_6_1, rf_9_0, rf_9_1, rf_9_3, rf_13_0, rf_13_1, rf_13_2, rf_16_0, rf_16_1, rf_16_2, rf_16_3, rf_21_0, rf_21_1, rf_21_2, rf_21_3, rf_26_0, rf_26_1, rf_26_2, rf_26_3, rf_26_4, rf_26_5, rf_26_6, rf_31_0, rf_31_2, rf_31_5, rf_31_6, rf_36_0, rf_36_1, rf_36_2, rf_36_3, rf_39_0, rf_39_1, rf_39_2, rf_41_0, rf_41_1, rf_41_2, rf_41_3, rf_5000_1, rf_5000_2, rf_5000_3, rf_5000_4, rf_5000_5, rf_5000_15, rf_5000_16, rf_5000_18, rf_5000_19, rf_5000_20, rf_5000_21, rf_5000_22, rf_5000_23, rf_5000_24, rf_5000_25, rf_5000_26, rf_5000_27, rf_5000_36, rf_5000_37, rf_5000_40, rf_5000_41, rf_5000_42, rf_5000_43, rf_5000_44, rf_5000_45, rf_5000_47, rf_5000_52, rf_5000_54, rf_5000_55, rf_100_0, rf_100_1, rf_103_0, rf_103_1, rf_106_0, rf_106_1, rf_109_0, rf_109_1, al_2, al_4, al_5, al_7, al_8, al_10, al_11, al_12, al_14, al_15, al_17, al_18, al_19, al_20, al_22, al_23, al_24, al_25, al_27, al_28, al_29, al_30, al_32, al_33, al_34, al_35, al_37, al_38, al_40, al_42, al_5001, al_5002, al_5003, al_5004, al_5005, al_5006, al_5007, al_5008, al_5009, al_5010, al_5011, al_5012, al_5013, al_5014, al_5015, al_5016, al_5017, al_5018, al_5019, al_5020, al_5021, al_5022, al_5023, al_5024, al_5025, al_5026, al_9000, al_101, al_102, al_104, al_105, al_107, al_108, al_110, al_111, vcs_e, lg_c0, lg_cs, lg_nil, set_c0, set_cs, okst_0, okst_s, acok_n, acok_c, List.contains_nil, List.contains_cons, Bool.or_false, Bool.false_or, Bool.false_eq_true, if_false, if_true, ite_self, ne_eq, true_and, and_true, not_false_eq_true, not_true_eq_false, false_imp_iff, true_imp_iff, Nat.ble_eq, Bool.and_eq_true, reduceCtorEq, or_false, false_or, or_true, true_or, false_and, and_false, and_self, Int.reduceLE, Int.reduceAdd, Int.reduceSub, Int.reduceMul, Int.reduceNeg, Int.reduceLT, Int.reduceEq, Int.reduceNe, Nat.reduceBEq, Nat.reduceBNe, Nat.reduceEqDiff, amCmp_in, amCmp_lt, amCmp_le, amCmp_gt, amCmp_ge, amCmp_eq, amCmp_ne, Nat.reduceLeDiff, Nat.reduceSub, Bool.and_true, Bool.true_and, Bool.and_self, Bool.or_true, Bool.true_or, isRf_3, isRf_4, isRf_5, isRf_8, isRf_9, isRf_10, isRf_11, isRf_15, isRf_16, isRf_17, isRf_18, isRf_19, isRf_20, isRf_21, isRf_22, isRf_23, isRf_24, isRf_25, isRf_26, isRf_27, isRf_28, k_X12_here_0, k_X12_here_1, k_X12_here_4, k_X12_here_5, k_X12_here_8, k_X12_here_11, k_X12_here_12, k_X12_here_15, k_X12_here_16, k_X12_here_19, k_X12_here_20, k_X12_here_23, k_X12_here_24, k_X12_here_25, k_X12_here_28, k_X12_here_29, k_X12_here_32, k_X12_here_33, up_s, up_nj, up_na, up_up, savR_o, cpy_o, fillm_o, setAud_o, setv_o, setv_s, Int.reduceNe, Int.reduceEq, Int.reduceLT, Int.reduceAdd, not_false_eq_true, ne_eq, or_true, true_or, hA, t00, amIand_255]
  by_cases c : σ 5000 10 < σ 5000 9
  · obtain ⟨e1, e2, e3⟩ := mtx_in ht h0 c
    rw [e1] at h
    repeat' (first | assumption | apply And.intro | intro _)
    all_goals first | omega | exact absurd trivial (by assumption) | exact h
  · rw [mtx_n ht _ (by omega)] at h
    repeat' (first | assumption | apply And.intro | intro _)
    all_goals first | omega | exact absurd trivial (by assumption) | exact h
def a_X12_isDigit : AC := [(0, vAload 0 1), (1, vGetI 28 10 4), (4, vAload 0 5), (5, vGetI 28 9 8), (8, vIcGe 53 11), (11, vAload 0 12), (12, vGetR TT 28 5 10 15), (15, vAload 0 16), (16, vGetI 28 8 19), (19, vAload 0 20), (20, vGetI 28 10 23), (23, vIadd 24), (24, vBald TT 25), (25, vI 48 27), (27, vIcLt 53 30), (30, vAload 0 31), (31, vGetR TT 28 5 10 34), (34, vAload 0 35), (35, vGetI 28 8 38), (38, vAload 0 39), (39, vGetI 28 10 42), (42, vIadd 43), (43, vBald TT 44), (44, vI 57 46), (46, vIcGt 53 49), (49, vI 1 50), (50, vGoto 54), (53, vI 0 54), (54, vZret)]
theorem k_X12_isDigit_0 : look a_X12_isDigit 0 = vAload 0 1 := rfl
theorem k_X12_isDigit_1 : look a_X12_isDigit 1 = vGetI 28 10 4 := rfl
theorem k_X12_isDigit_4 : look a_X12_isDigit 4 = vAload 0 5 := rfl
theorem k_X12_isDigit_5 : look a_X12_isDigit 5 = vGetI 28 9 8 := rfl
theorem k_X12_isDigit_8 : look a_X12_isDigit 8 = vIcGe 53 11 := rfl
theorem k_X12_isDigit_11 : look a_X12_isDigit 11 = vAload 0 12 := rfl
theorem k_X12_isDigit_12 : look a_X12_isDigit 12 = vGetR TT 28 5 10 15 := rfl
theorem k_X12_isDigit_15 : look a_X12_isDigit 15 = vAload 0 16 := rfl
theorem k_X12_isDigit_16 : look a_X12_isDigit 16 = vGetI 28 8 19 := rfl
theorem k_X12_isDigit_19 : look a_X12_isDigit 19 = vAload 0 20 := rfl
theorem k_X12_isDigit_20 : look a_X12_isDigit 20 = vGetI 28 10 23 := rfl
theorem k_X12_isDigit_23 : look a_X12_isDigit 23 = vIadd 24 := rfl
theorem k_X12_isDigit_24 : look a_X12_isDigit 24 = vBald TT 25 := rfl
theorem k_X12_isDigit_25 : look a_X12_isDigit 25 = vI 48 27 := rfl
theorem k_X12_isDigit_27 : look a_X12_isDigit 27 = vIcLt 53 30 := rfl
theorem k_X12_isDigit_30 : look a_X12_isDigit 30 = vAload 0 31 := rfl
theorem k_X12_isDigit_31 : look a_X12_isDigit 31 = vGetR TT 28 5 10 34 := rfl
theorem k_X12_isDigit_34 : look a_X12_isDigit 34 = vAload 0 35 := rfl
theorem k_X12_isDigit_35 : look a_X12_isDigit 35 = vGetI 28 8 38 := rfl
theorem k_X12_isDigit_38 : look a_X12_isDigit 38 = vAload 0 39 := rfl
theorem k_X12_isDigit_39 : look a_X12_isDigit 39 = vGetI 28 10 42 := rfl
theorem k_X12_isDigit_42 : look a_X12_isDigit 42 = vIadd 43 := rfl
theorem k_X12_isDigit_43 : look a_X12_isDigit 43 = vBald TT 44 := rfl
theorem k_X12_isDigit_44 : look a_X12_isDigit 44 = vI 57 46 := rfl
theorem k_X12_isDigit_46 : look a_X12_isDigit 46 = vIcGt 53 49 := rfl
theorem k_X12_isDigit_49 : look a_X12_isDigit 49 = vI 1 50 := rfl
theorem k_X12_isDigit_50 : look a_X12_isDigit 50 = vGoto 54 := rfl
theorem k_X12_isDigit_53 : look a_X12_isDigit 53 = vI 0 54 := rfl
theorem k_X12_isDigit_54 : look a_X12_isDigit 54 = vZret := rfl
theorem o_X12_isDigit {X : amX} (e1 : XT X = TT) (e2 : XD X = 0) (hB : amB X RX12 cX12_isDigit (some .boolean) 1) : ∀ pc, amOK X pc (look a_X12_isDigit pc) := by
  have hT : amTok (XT X) := e1 ▸ TT_ok
  refine look_ok ?_
  unfold a_X12_isDigit
  refine fc (ok_aload_n hB dX12_isDigit_0) ?_
  refine fc (ok_getI hB hT fl_X12_134 rfl rfl (Or.inl af_12_10) dX12_isDigit_1) ?_
  refine fc (ok_aload_n hB dX12_isDigit_4) ?_
  refine fc (ok_getI hB hT fl_X12_137 rfl rfl (Or.inl af_12_9) dX12_isDigit_5) ?_
  refine fc (ok_icmp_ge hB (t := 53) (by decide) dX12_isDigit_8) ?_
  refine fc (ok_aload_n hB dX12_isDigit_11) ?_
  refine fc (okt_getR e1 hB hT fl_X12_23 rfl af_12_5 at_12_5 (by decide) dX12_isDigit_12) ?_
  refine fc (ok_aload_n hB dX12_isDigit_15) ?_
  refine fc (ok_getI hB hT fl_X12_140 rfl rfl (Or.inl af_12_8) dX12_isDigit_16) ?_
  refine fc (ok_aload_n hB dX12_isDigit_19) ?_
  refine fc (ok_getI hB hT fl_X12_134 rfl rfl (Or.inl af_12_10) dX12_isDigit_20) ?_
  refine fc (ok_iadd hB dX12_isDigit_23) ?_
  refine fc (okt_baload e1 hB dX12_isDigit_24) ?_
  refine fc (ok_bipush hB dX12_isDigit_25 (by decide)) ?_
  refine fc (ok_icmp_lt hB (t := 53) (by decide) dX12_isDigit_27) ?_
  refine fc (ok_aload_n hB dX12_isDigit_30) ?_
  refine fc (okt_getR e1 hB hT fl_X12_23 rfl af_12_5 at_12_5 (by decide) dX12_isDigit_31) ?_
  refine fc (ok_aload_n hB dX12_isDigit_34) ?_
  refine fc (ok_getI hB hT fl_X12_140 rfl rfl (Or.inl af_12_8) dX12_isDigit_35) ?_
  refine fc (ok_aload_n hB dX12_isDigit_38) ?_
  refine fc (ok_getI hB hT fl_X12_134 rfl rfl (Or.inl af_12_10) dX12_isDigit_39) ?_
  refine fc (ok_iadd hB dX12_isDigit_42) ?_
  refine fc (okt_baload e1 hB dX12_isDigit_43) ?_
  refine fc (ok_bipush hB dX12_isDigit_44 (by decide)) ?_
  refine fc (ok_icmp_gt hB (t := 53) (by decide) dX12_isDigit_46) ?_
  refine fc (ok_iconst hB dX12_isDigit_49) ?_
  refine fc (ok_goto hB (t := 54) (by decide) dX12_isDigit_50) ?_
  refine fc (ok_iconst hB dX12_isDigit_53) ?_
  refine fc (ok_zret hB dX12_isDigit_54) ?_
  exact fn

def w_X12_isDigit : WP := fun av σ Q => av = [(28, 5000)] ∧ (txOk σ ∧ 0 ≤ σ 5000 10 ∧ σ 5000 10 ≤ σ 5000 9 ∧ Q (0, if 48 ≤ mtx σ (σ 5000 10) ∧ mtx σ (σ 5000 10) ≤ 57 then 1 else 0) σ)
theorem w_X12_isDigit_e  (σ : Mem) (Q : AV → Mem → Prop) : w_X12_isDigit [(28, 5000)] σ Q = (txOk σ ∧ 0 ≤ σ 5000 10 ∧ σ 5000 10 ≤ σ 5000 9 ∧ Q (0, if 48 ≤ mtx σ (σ 5000 10) ∧ mtx σ (σ 5000 10) ≤ 57 then 1 else 0) σ) := by
  apply propext; constructor
  · rintro ⟨h9, hb9⟩; cases h9; exact hb9
  · intro hb9; exact ⟨rfl, hb9⟩

set_option maxRecDepth 100000 in
set_option maxHeartbeats 4000000 in
theorem s_X12_isDigit : ∀ av σ Q, w_X12_isDigit av σ Q → amCall 0 0 0 TT yX12_isDigit cX12_isDigit 1 (some .boolean) av σ Q := by
  rintro av σ Q ⟨rfl, ht, h0, h1, h⟩
  obtain ⟨t0, t1, A, hA, a0, a1, a2⟩ := tx_T ht
  have n1 := ht.2.1
  have t00 : 0 ≤ σ 5000 5 := by omega
  refine am_m0 (own := RX12) (A := look a_X12_isDigit) (fun X e1 e2 hB => o_X12_isDigit e1 e2 hB) rfl (by decide +kernel) rfl rfl 190 (w := 1) ?_
  change vcs _ _ _ _ 190 0 [(28, 5000)] [] σ
  simp only [↓reduceIte, inR_0, inR_1, inR_m, vSw2_e, swP_n, swP_c, vI_e, vL_e, vNull_e, vIload_e, vLload_e, vAload_e, vIstore_e, vLstore_e, vAstore_e, vIinc_e, vIadd_e, vIsub_e, vImul_e, vIand_e, vIor_e, vIxor_e, vIshl_e, vIshr_e, vIushr_e, vIdiv_e, vIrem_e, vLadd_e, vLsub_e, vLmul_e, vLand_e, vLor_e, vLxor_e, vLdiv_e, vLrem_e, vLushr_e, vLshl_e, vLcmp_e, vIneg_e, vI2l_e, vL2i_e, vI2b_e, vI2c_e, vDup_e, vPop_e, vDup2_e, vGoto_e, vIcEq_e, vIfEq_e, vIcNe_e, vIfNe_e, vIcLt_e, vIfLt_e, vIcGe_e, vIfGe_e, vIcGt_e, vIfGt_e, vIcLe_e, vIfLe_e, vNonnull_e, vSw_e, vGetI_e, vGetL_e, vGetR_e, vPutI_e, vPutZ_e, vPutL_e, vPutR_e, vIald_e, vIald_s, vLald_e, vBald_e, vBald_s, vAald_e, vIast_e, vLast_e, vBast_e, vAast_e, vAlen_e8, vAlen_e9, vAlen_e10, vAlen_e11, vAlen_e5, vAlen_e3, vGets_e, vCompact_e, vLdcS_e, vIret_e, vZret_e, vCret_e, vBret_e, vLret_e, vVret_e, vAret_e, vCallM_e0, vCallMV_e0, vCallS_e0, vCallSV_e0, vCallM_e1, vCallMV_e1, vCallS_e1, vCallSV_e1, vCallM_e2, vCallMV_e2, vCallS_e2, vCallSV_e2, vCallM_e3, vCallMV_e3, vCallS_e3, vCallSV_e3, vCallM_e4, vCallMV_e4, vCallS_e4, vCallSV_e4, vCallM_e5, vCallMV_e5, vCallS_e5, vCallSV_e5, vCallM_e6, vCallMV_e6, vCallS_e6, vCallSV_e6, vCallM_e7, vCallMV_e7, vCallS_e7, vCallSV_e7, vBad_e, vStrVal_e, vStrCod_e, vForm_e, vCallT_e0, vCallT_e1, vCallT_e2, vCopy_e, rf_0_0, rf_0_1, rf_0_2, rf_0_3, rf_0_4, rf_0_7, rf_0_10, rf_0_11, rf_0_12, rf_0_13, rf_0_14, rf_0_15, rf_0_16, rf_1_0, rf_3_0, rf_3_1, rf_6_0, rf_6_1, rf_9_0, rf_9_1, rf_9_3, rf_13_0, rf_13_1, rf_13_2, rf_16_0, rf_16_1, rf_16_2, rf_16_3, rf_21_0, rf_21_1, rf_21_2, rf_21_3, rf_26_0, rf_26_1, rf_26_2, rf_26_3, rf_26_4, rf_26_5, rf_26_6, rf_31_0, rf_31_2, rf_31_5, rf_31_6, rf_36_0, rf_36_1, rf_36_2, rf_36_3, rf_39_0, rf_39_1, rf_39_2, rf_41_0, rf_41_1, rf_41_2, rf_41_3, rf_5000_1, rf_5000_2, rf_5000_3, rf_5000_4, rf_5000_5, rf_5000_15, rf_5000_16, rf_5000_18, rf_5000_19, rf_5000_20, rf_5000_21, rf_5000_22, rf_5000_23, rf_5000_24, rf_5000_25, rf_5000_26, rf_5000_27, rf_5000_36, rf_5000_37, rf_5000_40, rf_5000_41, rf_5000_42, rf_5000_43, rf_5000_44, rf_5000_45, rf_5000_47, rf_5000_52, rf_5000_54, rf_5000_55, rf_100_0, rf_100_1, rf_103_0, rf_103_1, rf_106_0, rf_106_1, rf_109_0, rf_109_1, al_2, al_4, al_5, al_7, al_8, al_10, al_11, al_12, al_14, al_15, al_17, al_18, al_19, al_20, al_22, al_23, al_24, al_25, al_27, al_28, al_29, al_30, al_32, al_33, al_34, al_35, al_37, al_38, al_40, al_42, al_5001, al_5002, al_5003, al_5004, al_5005, al_5006, al_5007, al_5008, al_5009, al_5010, al_5011, al_5012, al_5013, al_5014, al_5015, al_5016, al_5017, al_5018, al_5019, al_5020, al_5021, al_5022, al_5023, al_5024, al_5025, al_5026, al_9000, al_101, al_102, al_104, al_105, al_107, al_108, al_110, al_111, vcs_e, lg_c0, lg_cs, lg_nil, set_c0, set_cs, okst_0, okst_s, acok_n, acok_c, List.contains_nil, List.contains_cons, Bool.or_false, Bool.false_or, Bool.false_eq_true, if_false, if_true, ite_self, ne_eq, true_and, and_true, not_false_eq_true, not_true_eq_false, false_imp_iff, true_imp_iff, Nat.ble_eq, Bool.and_eq_true, reduceCtorEq, or_false, false_or, or_true, true_or, false_and, and_false, and_self, Int.reduceLE, Int.reduceAdd, Int.reduceSub, Int.reduceMul, Int.reduceNeg, Int.reduceLT, Int.reduceEq, Int.reduceNe, Nat.reduceBEq, Nat.reduceBNe, Nat.reduceEqDiff, amCmp_in, amCmp_lt, amCmp_le, amCmp_gt, amCmp_ge, amCmp_eq, amCmp_ne, Nat.reduceLeDiff, Nat.reduceSub, Bool.and_true, Bool.true_and, Bool.and_self, Bool.or_true, Bool.true_or, isRf_3, isRf_4, isRf_5, isRf_8, isRf_9, isRf_10, isRf_11, isRf_15, isRf_16, isRf_17, isRf_18, isRf_19, isRf_20, isRf_21, isRf_22, isRf_23, isRf_24, isRf_25, isRf_26, isRf_27, isRf_28, k_X12_isDigit_0, k_X12_isDigit_1, k_X12_isDigit_4, k_X12_isDigit_5, k_X12_isDigit_8, k_X12_isDigit_11, k_X12_isDigit_12, k_X12_isDigit_15, k_X12_isDigit_16, k_X12_isDigit_19, k_X12_isDigit_20, k_X12_isDigit_23, k_X12_isDigit_24, k_X12_isDigit_25, k_X12_isDigit_27, k_X12_isDigit_30, k_X12_isDigit_31, k_X12_isDigit_34, k_X12_isDigit_35, k_X12_isDigit_38, k_X12_isDigit_39, k_X12_isDigit_42, k_X12_isDigit_43, k_X12_isDigit_44, k_X12_isDigit_46, k_X12_isDigit_49, k_X12_isDigit_50, k_X12_isDigit_53, k_X12_isDigit_54, up_s, up_nj, up_na, up_up, savR_o, cpy_o, fillm_o, setAud_o, setv_o, setv_s, Int.reduceNe, Int.reduceEq, Int.reduceLT, Int.reduceAdd, not_false_eq_true, ne_eq, or_true, true_or, hA, t00]
  by_cases c : σ 5000 10 < σ 5000 9
  · obtain ⟨e1, e2, e3⟩ := mtx_in ht h0 c
    rw [e1] at h
    by_cases d : 48 ≤ σ (σ 5000 5) (σ 5000 8 + σ 5000 10) % 256 ∧ σ (σ 5000 5) (σ 5000 8 + σ 5000 10) % 256 ≤ 57
    · rw [if_pos d] at h
      repeat' (first | assumption | apply And.intro | intro _)
      all_goals first | omega | exact absurd trivial (by assumption) | exact h
    · rw [if_neg d] at h
      repeat' (first | assumption | apply And.intro | intro _)
      all_goals first | omega | exact absurd trivial (by assumption) | exact h
  · rw [mtx_n ht _ (by omega), if_neg (by omega)] at h
    repeat' (first | assumption | apply And.intro | intro _)
    all_goals first | omega | exact absurd trivial (by assumption) | exact h
theorem wd_1317 : Cond.fieldLink RX12 146 "ArmchairHouseModel" "deep" "I" ∈ TBL := tb_tab (List.mem_of_getElem? (i := 1317) (by decide +kernel)) rfl
theorem fl_X12_146 : amFl RX12 12 12 146 RX12 TX12 57 := ⟨rfl, inT_12, by decide, wd_1317⟩
theorem wd_1523 : Cond.methodLink RX12 149 yX12_fails ∈ TBL := tb_tab (List.mem_of_getElem? (i := 1523) (by decide +kernel)) rfl
theorem wd_1526 : Cond.code yX12_fails cX12_fails 1 (some .boolean) ∈ TBL := tb_tab (List.mem_of_getElem? (i := 1526) (by decide +kernel)) rfl
theorem lk_X12_149 : amLk RX12 149 yX12_fails cX12_fails 1 (some .boolean) 0 := ⟨wd_1523, wd_12, wd_1526, by decide +kernel, by decide +kernel, by decide⟩
theorem wd_1525 : Cond.instanceMethod yX12_fails ∈ TBL := tb_tab (List.mem_of_getElem? (i := 1525) (by decide +kernel)) rfl
theorem sl_X12_fails : Cond.selects RX12 yX12_fails yX12_fails ∈ TBL := tb_sel (List.mem_of_getElem? (i := 52) (by decide +kernel)) rfl
theorem fp_X12_146 : amFp RX12 12 12 146 RX12 TX12 57 tyX12 .int := ⟨fl_X12_146, tyX12_ok, nmX12, by decide +kernel⟩
def a_X12_goesIn : AC := [(0, vAload 0 1), (1, vGetI 28 12 4), (4, vI 6 6), (6, vIcNe 14 9), (9, vAload 0 10), (10, vCallM w_X12_fails 28 0 13), (13, vZret), (14, vAload 0 15), (15, vDup 16), (16, vGetI 28 12 19), (19, vI 1 20), (20, vIadd 21), (21, vPutI 28 12 24), (24, vAload 0 25), (25, vDup 26), (26, vGetI 28 10 29), (29, vI 1 30), (30, vIadd 31), (31, vPutI 28 10 34), (34, vI 1 35), (35, vZret)]
theorem k_X12_goesIn_0 : look a_X12_goesIn 0 = vAload 0 1 := rfl
theorem k_X12_goesIn_1 : look a_X12_goesIn 1 = vGetI 28 12 4 := rfl
theorem k_X12_goesIn_4 : look a_X12_goesIn 4 = vI 6 6 := rfl
theorem k_X12_goesIn_6 : look a_X12_goesIn 6 = vIcNe 14 9 := rfl
theorem k_X12_goesIn_9 : look a_X12_goesIn 9 = vAload 0 10 := rfl
theorem k_X12_goesIn_10 : look a_X12_goesIn 10 = vCallM w_X12_fails 28 0 13 := rfl
theorem k_X12_goesIn_13 : look a_X12_goesIn 13 = vZret := rfl
theorem k_X12_goesIn_14 : look a_X12_goesIn 14 = vAload 0 15 := rfl
theorem k_X12_goesIn_15 : look a_X12_goesIn 15 = vDup 16 := rfl
theorem k_X12_goesIn_16 : look a_X12_goesIn 16 = vGetI 28 12 19 := rfl
theorem k_X12_goesIn_19 : look a_X12_goesIn 19 = vI 1 20 := rfl
theorem k_X12_goesIn_20 : look a_X12_goesIn 20 = vIadd 21 := rfl
theorem k_X12_goesIn_21 : look a_X12_goesIn 21 = vPutI 28 12 24 := rfl
theorem k_X12_goesIn_24 : look a_X12_goesIn 24 = vAload 0 25 := rfl
theorem k_X12_goesIn_25 : look a_X12_goesIn 25 = vDup 26 := rfl
theorem k_X12_goesIn_26 : look a_X12_goesIn 26 = vGetI 28 10 29 := rfl
theorem k_X12_goesIn_29 : look a_X12_goesIn 29 = vI 1 30 := rfl
theorem k_X12_goesIn_30 : look a_X12_goesIn 30 = vIadd 31 := rfl
theorem k_X12_goesIn_31 : look a_X12_goesIn 31 = vPutI 28 10 34 := rfl
theorem k_X12_goesIn_34 : look a_X12_goesIn 34 = vI 1 35 := rfl
theorem k_X12_goesIn_35 : look a_X12_goesIn 35 = vZret := rfl
theorem o_X12_goesIn {X : amX} (e1 : XT X = TT) (e2 : XD X = 1) (hB : amB X RX12 cX12_goesIn (some .boolean) 1) : ∀ pc, amOK X pc (look a_X12_goesIn pc) := by
  have hT : amTok (XT X) := e1 ▸ TT_ok
  refine look_ok ?_
  unfold a_X12_goesIn
  refine fc (ok_aload_n hB dX12_goesIn_0) ?_
  refine fc (ok_getI hB hT fl_X12_146 rfl rfl (Or.inl af_12_12) dX12_goesIn_1) ?_
  refine fc (ok_bipush hB dX12_goesIn_4 (by decide)) ?_
  refine fc (ok_icmp_ne hB (t := 14) (by decide) dX12_goesIn_6) ?_
  refine fc (ok_aload_n hB dX12_goesIn_9) ?_
  refine fc (ok_callM hB hT (e1 ▸ s_X12_fails) lk_X12_149 (by rw [e2]; decide) (c := 12) rfl rfl rfl wd_1525 sl_X12_fails dX12_goesIn_10) ?_
  refine fc (ok_zret hB dX12_goesIn_13) ?_
  refine fc (ok_aload_n hB dX12_goesIn_14) ?_
  refine fc (ok_dup hB dX12_goesIn_15) ?_
  refine fc (ok_getI hB hT fl_X12_146 rfl rfl (Or.inl af_12_12) dX12_goesIn_16) ?_
  refine fc (ok_iconst hB dX12_goesIn_19) ?_
  refine fc (ok_iadd hB dX12_goesIn_20) ?_
  refine fc (ok_putI hB hT fp_X12_146 rfl rfl rfl af_12_12 dX12_goesIn_21) ?_
  refine fc (ok_aload_n hB dX12_goesIn_24) ?_
  refine fc (ok_dup hB dX12_goesIn_25) ?_
  refine fc (ok_getI hB hT fl_X12_134 rfl rfl (Or.inl af_12_10) dX12_goesIn_26) ?_
  refine fc (ok_iconst hB dX12_goesIn_29) ?_
  refine fc (ok_iadd hB dX12_goesIn_30) ?_
  refine fc (ok_putI hB hT fp_X12_134 rfl rfl rfl af_12_10 dX12_goesIn_31) ?_
  refine fc (ok_iconst hB dX12_goesIn_34) ?_
  refine fc (ok_zret hB dX12_goesIn_35) ?_
  exact fn

def w_X12_goesIn : WP := fun av σ Q => av = [(28, 5000)] ∧ (InR (σ 5000 10) ∧ σ 5000 10 < 1000 ∧ InR (σ 5000 11) ∧ 0 ≤ σ 5000 12 ∧ σ 5000 12 ≤ 6 ∧ (σ 5000 12 = 6 → Q (0, 0) (faM σ)) ∧ (σ 5000 12 < 6 → Q (0, 1) (up (up σ 5000 12 (σ 5000 12 + 1)) 5000 10 (σ 5000 10 + 1))))
theorem w_X12_goesIn_e  (σ : Mem) (Q : AV → Mem → Prop) : w_X12_goesIn [(28, 5000)] σ Q = (InR (σ 5000 10) ∧ σ 5000 10 < 1000 ∧ InR (σ 5000 11) ∧ 0 ≤ σ 5000 12 ∧ σ 5000 12 ≤ 6 ∧ (σ 5000 12 = 6 → Q (0, 0) (faM σ)) ∧ (σ 5000 12 < 6 → Q (0, 1) (up (up σ 5000 12 (σ 5000 12 + 1)) 5000 10 (σ 5000 10 + 1)))) := by
  apply propext; constructor
  · rintro ⟨h9, hb9⟩; cases h9; exact hb9
  · intro hb9; exact ⟨rfl, hb9⟩

set_option maxRecDepth 100000 in
set_option maxHeartbeats 4000000 in
theorem s_X12_goesIn : ∀ av σ Q, w_X12_goesIn av σ Q → amCall 1 0 0 TT yX12_goesIn cX12_goesIn 1 (some .boolean) av σ Q := by
  rintro av σ Q ⟨rfl, ha, ha2, hf, d0, d1, h1, h2⟩
  refine am_m0 (own := RX12) (A := look a_X12_goesIn) (fun X e1 e2 hB => o_X12_goesIn e1 e2 hB) rfl (by decide +kernel) rfl rfl 190 (w := 1) ?_
  change vcs _ _ _ _ 190 0 [(28, 5000)] [] σ
  simp only [↓reduceIte, inR_0, inR_1, inR_m, vSw2_e, swP_n, swP_c, vI_e, vL_e, vNull_e, vIload_e, vLload_e, vAload_e, vIstore_e, vLstore_e, vAstore_e, vIinc_e, vIadd_e, vIsub_e, vImul_e, vIand_e, vIor_e, vIxor_e, vIshl_e, vIshr_e, vIushr_e, vIdiv_e, vIrem_e, vLadd_e, vLsub_e, vLmul_e, vLand_e, vLor_e, vLxor_e, vLdiv_e, vLrem_e, vLushr_e, vLshl_e, vLcmp_e, vIneg_e, vI2l_e, vL2i_e, vI2b_e, vI2c_e, vDup_e, vPop_e, vDup2_e, vGoto_e, vIcEq_e, vIfEq_e, vIcNe_e, vIfNe_e, vIcLt_e, vIfLt_e, vIcGe_e, vIfGe_e, vIcGt_e, vIfGt_e, vIcLe_e, vIfLe_e, vNonnull_e, vSw_e, vGetI_e, vGetL_e, vGetR_e, vPutI_e, vPutZ_e, vPutL_e, vPutR_e, vIald_e, vIald_s, vLald_e, vBald_e, vBald_s, vAald_e, vIast_e, vLast_e, vBast_e, vAast_e, vAlen_e8, vAlen_e9, vAlen_e10, vAlen_e11, vAlen_e5, vAlen_e3, vGets_e, vCompact_e, vLdcS_e, vIret_e, vZret_e, vCret_e, vBret_e, vLret_e, vVret_e, vAret_e, vCallM_e0, vCallMV_e0, vCallS_e0, vCallSV_e0, vCallM_e1, vCallMV_e1, vCallS_e1, vCallSV_e1, vCallM_e2, vCallMV_e2, vCallS_e2, vCallSV_e2, vCallM_e3, vCallMV_e3, vCallS_e3, vCallSV_e3, vCallM_e4, vCallMV_e4, vCallS_e4, vCallSV_e4, vCallM_e5, vCallMV_e5, vCallS_e5, vCallSV_e5, vCallM_e6, vCallMV_e6, vCallS_e6, vCallSV_e6, vCallM_e7, vCallMV_e7, vCallS_e7, vCallSV_e7, vBad_e, vStrVal_e, vStrCod_e, vForm_e, vCallT_e0, vCallT_e1, vCallT_e2, vCopy_e, rf_0_0, rf_0_1, rf_0_2, rf_0_3, rf_0_4, rf_0_7, rf_0_10, rf_0_11, rf_0_12, rf_0_13, rf_0_14, rf_0_15, rf_0_16, rf_1_0, rf_3_0, rf_3_1, rf_6_0, rf_6_1, rf_9_0, rf_9_1, rf_9_3, rf_13_0, rf_13_1, rf_13_2, rf_16_0, rf_16_1, rf_16_2, rf_16_3, rf_21_0, rf_21_1, rf_21_2, rf_21_3, rf_26_0, rf_26_1, rf_26_2, rf_26_3, rf_26_4, rf_26_5, rf_26_6, rf_31_0, rf_31_2, rf_31_5, rf_31_6, rf_36_0, rf_36_1, rf_36_2, rf_36_3, rf_39_0, rf_39_1, rf_39_2, rf_41_0, rf_41_1, rf_41_2, rf_41_3, rf_5000_1, rf_5000_2, rf_5000_3, rf_5000_4, rf_5000_5, rf_5000_15, rf_5000_16, rf_5000_18, rf_5000_19, rf_5000_20, rf_5000_21, rf_5000_22, rf_5000_23, rf_5000_24, rf_5000_25, rf_5000_26, rf_5000_27, rf_5000_36, rf_5000_37, rf_5000_40, rf_5000_41, rf_5000_42, rf_5000_43, rf_5000_44, rf_5000_45, rf_5000_47, rf_5000_52, rf_5000_54, rf_5000_55, rf_100_0, rf_100_1, rf_103_0, rf_103_1, rf_106_0, rf_106_1, rf_109_0, rf_109_1, al_2, al_4, al_5, al_7, al_8, al_10, al_11, al_12, al_14, al_15, al_17, al_18, al_19, al_20, al_22, al_23, al_24, al_25, al_27, al_28, al_29, al_30, al_32, al_33, al_34, al_35, al_37, al_38, al_40, al_42, al_5001, al_5002, al_5003, al_5004, al_5005, al_5006, al_5007, al_5008, al_5009, al_5010, al_5011, al_5012, al_5013, al_5014, al_5015, al_5016, al_5017, al_5018, al_5019, al_5020, al_5021, al_5022, al_5023, al_5024, al_5025, al_5026, al_9000, al_101, al_102, al_104, al_105, al_107, al_108, al_110, al_111, vcs_e, lg_c0, lg_cs, lg_nil, set_c0, set_cs, okst_0, okst_s, acok_n, acok_c, List.contains_nil, List.contains_cons, Bool.or_false, Bool.false_or, Bool.false_eq_true, if_false, if_true, ite_self, ne_eq, true_and, and_true, not_false_eq_true, not_true_eq_false, false_imp_iff, true_imp_iff, Nat.ble_eq, Bool.and_eq_true, reduceCtorEq, or_false, false_or, or_true, true_or, false_and, and_false, and_self, Int.reduceLE, Int.reduceAdd, Int.reduceSub, Int.reduceMul, Int.reduceNeg, Int.reduceLT, Int.reduceEq, Int.reduceNe, Nat.reduceBEq, Nat.reduceBNe, Nat.reduceEqDiff, amCmp_in, amCmp_lt, amCmp_le, amCmp_gt, amCmp_ge, amCmp_eq, amCmp_ne, Nat.reduceLeDiff, Nat.reduceSub, Bool.and_true, Bool.true_and, Bool.and_self, Bool.or_true, Bool.true_or, isRf_3, isRf_4, isRf_5, isRf_8, isRf_9, isRf_10, isRf_11, isRf_15, isRf_16, isRf_17, isRf_18, isRf_19, isRf_20, isRf_21, isRf_22, isRf_23, isRf_24, isRf_25, isRf_26, isRf_27, isRf_28, k_X12_goesIn_0, k_X12_goesIn_1, k_X12_goesIn_4, k_X12_goesIn_6, k_X12_goesIn_9, k_X12_goesIn_10, k_X12_goesIn_13, k_X12_goesIn_14, k_X12_goesIn_15, k_X12_goesIn_16, k_X12_goesIn_19, k_X12_goesIn_20, k_X12_goesIn_21, k_X12_goesIn_24, k_X12_goesIn_25, k_X12_goesIn_26, k_X12_goesIn_29, k_X12_goesIn_30, k_X12_goesIn_31, k_X12_goesIn_34, k_X12_goesIn_35, w_X12_fails_e, up_s, up_nj, up_na, up_up, savR_o, cpy_o, fillm_o, setAud_o, setv_o, setv_s, Int.reduceNe, Int.reduceEq, Int.reduceLT, Int.reduceAdd, not_false_eq_true, ne_eq, or_true, true_or]
  repeat' (first | assumption | apply And.intro | intro _)
  all_goals first | omega | exact absurd trivial (by assumption) | exact h1 (by omega) | exact h2 (by omega)
theorem wd_1519 : Cond.methodLink RX12 153 yX12_look ∈ TBL := tb_tab (List.mem_of_getElem? (i := 1519) (by decide +kernel)) rfl
theorem wd_1522 : Cond.code yX12_look cX12_look 1 (some .int) ∈ TBL := tb_tab (List.mem_of_getElem? (i := 1522) (by decide +kernel)) rfl
theorem lk_X12_153 : amLk RX12 153 yX12_look cX12_look 1 (some .int) 0 := ⟨wd_1519, wd_12, wd_1522, by decide +kernel, by decide +kernel, by decide⟩
theorem wd_1521 : Cond.instanceMethod yX12_look ∈ TBL := tb_tab (List.mem_of_getElem? (i := 1521) (by decide +kernel)) rfl
theorem sl_X12_look : Cond.selects RX12 yX12_look yX12_look ∈ TBL := tb_sel (List.mem_of_getElem? (i := 51) (by decide +kernel)) rfl
def a_X12_takes : AC := [(0, vAload 0 1), (1, vGetI 28 11 4), (4, vI (-1) 5), (5, vIcNe 16 8), (8, vAload 0 9), (9, vCallM w_X12_look 28 0 12), (12, vIload 1 13), (13, vIcEq 21 16), (16, vAload 0 17), (17, vCallM w_X12_fails 28 0 20), (20, vZret), (21, vAload 0 22), (22, vDup 23), (23, vGetI 28 10 26), (26, vI 1 27), (27, vIadd 28), (28, vPutI 28 10 31), (31, vI 1 32), (32, vZret)]
theorem k_X12_takes_0 : look a_X12_takes 0 = vAload 0 1 := rfl
theorem k_X12_takes_1 : look a_X12_takes 1 = vGetI 28 11 4 := rfl
theorem k_X12_takes_4 : look a_X12_takes 4 = vI (-1) 5 := rfl
theorem k_X12_takes_5 : look a_X12_takes 5 = vIcNe 16 8 := rfl
theorem k_X12_takes_8 : look a_X12_takes 8 = vAload 0 9 := rfl
theorem k_X12_takes_9 : look a_X12_takes 9 = vCallM w_X12_look 28 0 12 := rfl
theorem k_X12_takes_12 : look a_X12_takes 12 = vIload 1 13 := rfl
theorem k_X12_takes_13 : look a_X12_takes 13 = vIcEq 21 16 := rfl
theorem k_X12_takes_16 : look a_X12_takes 16 = vAload 0 17 := rfl
theorem k_X12_takes_17 : look a_X12_takes 17 = vCallM w_X12_fails 28 0 20 := rfl
theorem k_X12_takes_20 : look a_X12_takes 20 = vZret := rfl
theorem k_X12_takes_21 : look a_X12_takes 21 = vAload 0 22 := rfl
theorem k_X12_takes_22 : look a_X12_takes 22 = vDup 23 := rfl
theorem k_X12_takes_23 : look a_X12_takes 23 = vGetI 28 10 26 := rfl
theorem k_X12_takes_26 : look a_X12_takes 26 = vI 1 27 := rfl
theorem k_X12_takes_27 : look a_X12_takes 27 = vIadd 28 := rfl
theorem k_X12_takes_28 : look a_X12_takes 28 = vPutI 28 10 31 := rfl
theorem k_X12_takes_31 : look a_X12_takes 31 = vI 1 32 := rfl
theorem k_X12_takes_32 : look a_X12_takes 32 = vZret := rfl
theorem o_X12_takes {X : amX} (e1 : XT X = TT) (e2 : XD X = 1) (hB : amB X RX12 cX12_takes (some .boolean) 2) : ∀ pc, amOK X pc (look a_X12_takes pc) := by
  have hT : amTok (XT X) := e1 ▸ TT_ok
  refine look_ok ?_
  unfold a_X12_takes
  refine fc (ok_aload_n hB dX12_takes_0) ?_
  refine fc (ok_getI hB hT fl_X12_143 rfl rfl (Or.inl af_12_11) dX12_takes_1) ?_
  refine fc (ok_iconst hB dX12_takes_4) ?_
  refine fc (ok_icmp_ne hB (t := 16) (by decide) dX12_takes_5) ?_
  refine fc (ok_aload_n hB dX12_takes_8) ?_
  refine fc (ok_callM hB hT (e1 ▸ s_X12_look) lk_X12_153 (by rw [e2]; decide) (c := 12) rfl rfl rfl wd_1521 sl_X12_look dX12_takes_9) ?_
  refine fc (ok_iload_n hB dX12_takes_12) ?_
  refine fc (ok_icmp_eq hB (t := 21) (by decide) dX12_takes_13) ?_
  refine fc (ok_aload_n hB dX12_takes_16) ?_
  refine fc (ok_callM hB hT (e1 ▸ s_X12_fails) lk_X12_149 (by rw [e2]; decide) (c := 12) rfl rfl rfl wd_1525 sl_X12_fails dX12_takes_17) ?_
  refine fc (ok_zret hB dX12_takes_20) ?_
  refine fc (ok_aload_n hB dX12_takes_21) ?_
  refine fc (ok_dup hB dX12_takes_22) ?_
  refine fc (ok_getI hB hT fl_X12_134 rfl rfl (Or.inl af_12_10) dX12_takes_23) ?_
  refine fc (ok_iconst hB dX12_takes_26) ?_
  refine fc (ok_iadd hB dX12_takes_27) ?_
  refine fc (ok_putI hB hT fp_X12_134 rfl rfl rfl af_12_10 dX12_takes_28) ?_
  refine fc (ok_iconst hB dX12_takes_31) ?_
  refine fc (ok_zret hB dX12_takes_32) ?_
  exact fn

def w_X12_takes : WP := fun av σ Q => ∃ (c : Int), av = [(28, 5000), (0, c)] ∧ (InR c ∧ InR (σ 5000 11) ∧ (σ 5000 11 ≠ -1 → Q (0, 0) σ) ∧ (σ 5000 11 = -1 → txOk σ ∧ 0 ≤ σ 5000 10 ∧ σ 5000 10 ≤ σ 5000 9 ∧ (mtx σ (msk σ) ≠ c → Q (0, 0) (up (up σ 5000 10 (msk σ)) 5000 11 (msk σ))) ∧ (mtx σ (msk σ) = c → Q (0, 1) (up σ 5000 10 (msk σ + 1)))))
theorem w_X12_takes_e (c : Int) (σ : Mem) (Q : AV → Mem → Prop) : w_X12_takes [(28, 5000), (0, c)] σ Q = (InR c ∧ InR (σ 5000 11) ∧ (σ 5000 11 ≠ -1 → Q (0, 0) σ) ∧ (σ 5000 11 = -1 → txOk σ ∧ 0 ≤ σ 5000 10 ∧ σ 5000 10 ≤ σ 5000 9 ∧ (mtx σ (msk σ) ≠ c → Q (0, 0) (up (up σ 5000 10 (msk σ)) 5000 11 (msk σ))) ∧ (mtx σ (msk σ) = c → Q (0, 1) (up σ 5000 10 (msk σ + 1))))) := by
  apply propext; constructor
  · rintro ⟨c', h9, hb9⟩; cases h9; exact hb9
  · intro hb9; exact ⟨c, rfl, hb9⟩

set_option maxRecDepth 100000 in
set_option maxHeartbeats 4000000 in
theorem s_X12_takes : ∀ av σ Q, w_X12_takes av σ Q → amCall 1 0 0 TT yX12_takes cX12_takes 2 (some .boolean) av σ Q := by
  rintro av σ Q ⟨c, rfl, hc, hf, h1, h2⟩
  by_cases cf : σ 5000 11 = -1
  · obtain ⟨ht, h0, h1', h3, h4⟩ := h2 cf
    have hsb := sk_b (mtx σ) h1'
    have n1 := ht.2.1
    have tb := mtx_b ht (msk σ)
    generalize hg : msk σ = p at *
    have ff : faM (up σ 5000 10 p) = up (up σ 5000 10 p) 5000 11 p := by
      unfold faM; rw [if_pos (by rw [up_nj _ (by decide)]; exact cf), up_s]
    refine am_m0 (own := RX12) (A := look a_X12_takes) (fun X e1 e2 hB => o_X12_takes e1 e2 hB) rfl (by decide +kernel) rfl rfl 190 (w := 2) ?_
    change vcs _ _ _ _ 190 0 [(28, 5000), (0, c)] [] σ
    simp only [↓reduceIte, inR_0, inR_1, inR_m, vSw2_e, swP_n, swP_c, vI_e, vL_e, vNull_e, vIload_e, vLload_e, vAload_e, vIstore_e, vLstore_e, vAstore_e, vIinc_e, vIadd_e, vIsub_e, vImul_e, vIand_e, vIor_e, vIxor_e, vIshl_e, vIshr_e, vIushr_e, vIdiv_e, vIrem_e, vLadd_e, vLsub_e, vLmul_e, vLand_e, vLor_e, vLxor_e, vLdiv_e, vLrem_e, vLushr_e, vLshl_e, vLcmp_e, vIneg_e, vI2l_e, vL2i_e, vI2b_e, vI2c_e, vDup_e, vPop_e, vDup2_e, vGoto_e, vIcEq_e, vIfEq_e, vIcNe_e, vIfNe_e, vIcLt_e, vIfLt_e, vIcGe_e, vIfGe_e, vIcGt_e, vIfGt_e, vIcLe_e, vIfLe_e, vNonnull_e, vSw_e, vGetI_e, vGetL_e, vGetR_e, vPutI_e, vPutZ_e, vPutL_e, vPutR_e, vIald_e, vIald_s, vLald_e, vBald_e, vBald_s, vAald_e, vIast_e, vLast_e, vBast_e, vAast_e, vAlen_e8, vAlen_e9, vAlen_e10, vAlen_e11, vAlen_e5, vAlen_e3, vGets_e, vCompact_e, vLdcS_e, vIret_e, vZret_e, vCret_e, vBret_e, vLret_e, vVret_e, vAret_e, vCallM_e0, vCallMV_e0, vCallS_e0, vCallSV_e0, vCallM_e1, vCallMV_e1, vCallS_e1, vCallSV_e1, vCallM_e2, vCallMV_e2, vCallS_e2, vCallSV_e2, vCallM_e3, vCallMV_e3, vCallS_e3, vCallSV_e3, vCallM_e4, vCallMV_e4, vCallS_e4, vCallSV_e4, vCallM_e5, vCallMV_e5, vCallS_e5, vCallSV_e5, vCallM_e6, vCallMV_e6, vCallS_e6, vCallSV_e6, vCallM_e7, vCallMV_e7, vCallS_e7, vCallSV_e7, vBad_e, vStrVal_e, vStrCod_e, vForm_e, vCallT_e0, vCallT_e1, vCallT_e2, vCopy_e, rf_0_0, rf_0_1, rf_0_2, rf_0_3, rf_0_4, rf_0_7, rf_0_10, rf_0_11, rf_0_12, rf_0_13, rf_0_14, rf_0_15, rf_0_16, rf_1_0, rf_3_0, rf_3_1, rf_6_0, rf_6_1, rf_9_0, rf_9_1, rf_9_3, rf_13_0, rf_13_1, rf_13_2, rf_16_0, rf_16_1, rf_16_2, rf_16_3, rf_21_0, rf_21_1, rf_21_2, rf_21_3, rf_26_0, rf_26_1, rf_26_2, rf_26_3, rf_26_4, rf_26_5, rf_26_6, rf_31_0, rf_31_2, rf_31_5, rf_31_6, rf_36_0, rf_36_1, rf_36_2, rf_36_3, rf_39_0, rf_39_1, rf_39_2, rf_41_0, rf_41_1, rf_41_2, rf_41_3, rf_5000_1, rf_5000_2, rf_5000_3, rf_5000_4, rf_5000_5, rf_5000_15, rf_5000_16, rf_5000_18, rf_5000_19, rf_5000_20, rf_5000_21, rf_5000_22, rf_5000_23, rf_5000_24, rf_5000_25, rf_5000_26, rf_5000_27, rf_5000_36, rf_5000_37, rf_5000_40, rf_5000_41, rf_5000_42, rf_5000_43, rf_5000_44, rf_5000_45, rf_5000_47, rf_5000_52, rf_5000_54, rf_5000_55, rf_100_0, rf_100_1, rf_103_0, rf_103_1, rf_106_0, rf_106_1, rf_109_0, rf_109_1, al_2, al_4, al_5, al_7, al_8, al_10, al_11, al_12, al_14, al_15, al_17, al_18, al_19, al_20, al_22, al_23, al_24, al_25, al_27, al_28, al_29, al_30, al_32, al_33, al_34, al_35, al_37, al_38, al_40, al_42, al_5001, al_5002, al_5003, al_5004, al_5005, al_5006, al_5007, al_5008, al_5009, al_5010, al_5011, al_5012, al_5013, al_5014, al_5015, al_5016, al_5017, al_5018, al_5019, al_5020, al_5021, al_5022, al_5023, al_5024, al_5025, al_5026, al_9000, al_101, al_102, al_104, al_105, al_107, al_108, al_110, al_111, vcs_e, lg_c0, lg_cs, lg_nil, set_c0, set_cs, okst_0, okst_s, acok_n, acok_c, List.contains_nil, List.contains_cons, Bool.or_false, Bool.false_or, Bool.false_eq_true, if_false, if_true, ite_self, ne_eq, true_and, and_true, not_false_eq_true, not_true_eq_false, false_imp_iff, true_imp_iff, Nat.ble_eq, Bool.and_eq_true, reduceCtorEq, or_false, false_or, or_true, true_or, false_and, and_false, and_self, Int.reduceLE, Int.reduceAdd, Int.reduceSub, Int.reduceMul, Int.reduceNeg, Int.reduceLT, Int.reduceEq, Int.reduceNe, Nat.reduceBEq, Nat.reduceBNe, Nat.reduceEqDiff, amCmp_in, amCmp_lt, amCmp_le, amCmp_gt, amCmp_ge, amCmp_eq, amCmp_ne, Nat.reduceLeDiff, Nat.reduceSub, Bool.and_true, Bool.true_and, Bool.and_self, Bool.or_true, Bool.true_or, isRf_3, isRf_4, isRf_5, isRf_8, isRf_9, isRf_10, isRf_11, isRf_15, isRf_16, isRf_17, isRf_18, isRf_19, isRf_20, isRf_21, isRf_22, isRf_23, isRf_24, isRf_25, isRf_26, isRf_27, isRf_28, k_X12_takes_0, k_X12_takes_1, k_X12_takes_4, k_X12_takes_5, k_X12_takes_8, k_X12_takes_9, k_X12_takes_12, k_X12_takes_13, k_X12_takes_16, k_X12_takes_17, k_X12_takes_20, k_X12_takes_21, k_X12_takes_22, k_X12_takes_23, k_X12_takes_26, k_X12_takes_27, k_X12_takes_28, k_X12_takes_31, k_X12_takes_32, w_X12_fails_e, w_X12_look_e, up_s, up_nj, up_na, up_up, savR_o, cpy_o, fillm_o, setAud_o, setv_o, setv_s, Int.reduceNe, Int.reduceEq, Int.reduceLT, Int.reduceAdd, not_false_eq_true, ne_eq, or_true, true_or, hg, ff, cf]
    repeat' (first | assumption | apply And.intro | intro _)
    all_goals first | omega | exact absurd trivial (by assumption) | exact h3 (by omega) | exact h4 (by omega)
  · have h1' := h1 cf
    have ff : faM σ = σ := by unfold faM; rw [if_neg cf]
    refine am_m0 (own := RX12) (A := look a_X12_takes) (fun X e1 e2 hB => o_X12_takes e1 e2 hB) rfl (by decide +kernel) rfl rfl 190 (w := 2) ?_
    change vcs _ _ _ _ 190 0 [(28, 5000), (0, c)] [] σ
    simp only [↓reduceIte, inR_0, inR_1, inR_m, vSw2_e, swP_n, swP_c, vI_e, vL_e, vNull_e, vIload_e, vLload_e, vAload_e, vIstore_e, vLstore_e, vAstore_e, vIinc_e, vIadd_e, vIsub_e, vImul_e, vIand_e, vIor_e, vIxor_e, vIshl_e, vIshr_e, vIushr_e, vIdiv_e, vIrem_e, vLadd_e, vLsub_e, vLmul_e, vLand_e, vLor_e, vLxor_e, vLdiv_e, vLrem_e, vLushr_e, vLshl_e, vLcmp_e, vIneg_e, vI2l_e, vL2i_e, vI2b_e, vI2c_e, vDup_e, vPop_e, vDup2_e, vGoto_e, vIcEq_e, vIfEq_e, vIcNe_e, vIfNe_e, vIcLt_e, vIfLt_e, vIcGe_e, vIfGe_e, vIcGt_e, vIfGt_e, vIcLe_e, vIfLe_e, vNonnull_e, vSw_e, vGetI_e, vGetL_e, vGetR_e, vPutI_e, vPutZ_e, vPutL_e, vPutR_e, vIald_e, vIald_s, vLald_e, vBald_e, vBald_s, vAald_e, vIast_e, vLast_e, vBast_e, vAast_e, vAlen_e8, vAlen_e9, vAlen_e10, vAlen_e11, vAlen_e5, vAlen_e3, vGets_e, vCompact_e, vLdcS_e, vIret_e, vZret_e, vCret_e, vBret_e, vLret_e, vVret_e, vAret_e, vCallM_e0, vCallMV_e0, vCallS_e0, vCallSV_e0, vCallM_e1, vCallMV_e1, vCallS_e1, vCallSV_e1, vCallM_e2, vCallMV_e2, vCallS_e2, vCallSV_e2, vCallM_e3, vCallMV_e3, vCallS_e3, vCallSV_e3, vCallM_e4, vCallMV_e4, vCallS_e4, vCallSV_e4, vCallM_e5, vCallMV_e5, vCallS_e5, vCallSV_e5, vCallM_e6, vCallMV_e6, vCallS_e6, vCallSV_e6, vCallM_e7, vCallMV_e7, vCallS_e7, vCallSV_e7, vBad_e, vStrVal_e, vStrCod_e, vForm_e, vCallT_e0, vCallT_e1, vCallT_e2, vCopy_e, rf_0_0, rf_0_1, rf_0_2, rf_0_3, rf_0_4, rf_0_7, rf_0_10, rf_0_11, rf_0_12, rf_0_13, rf_0_14, rf_0_15, rf_0_16, rf_1_0, rf_3_0, rf_3_1, rf_6_0, rf_6_1, rf_9_0, rf_9_1, rf_9_3, rf_13_0, rf_13_1, rf_13_2, rf_16_0, rf_16_1, rf_16_2, rf_16_3, rf_21_0, rf_21_1, rf_21_2, rf_21_3, rf_26_0, rf_26_1, rf_26_2, rf_26_3, rf_26_4, rf_26_5, rf_26_6, rf_31_0, rf_31_2, rf_31_5, rf_31_6, rf_36_0, rf_36_1, rf_36_2, rf_36_3, rf_39_0, rf_39_1, rf_39_2, rf_41_0, rf_41_1, rf_41_2, rf_41_3, rf_5000_1, rf_5000_2, rf_5000_3, rf_5000_4, rf_5000_5, rf_5000_15, rf_5000_16, rf_5000_18, rf_5000_19, rf_5000_20, rf_5000_21, rf_5000_22, rf_5000_23, rf_5000_24, rf_5000_25, rf_5000_26, rf_5000_27, rf_5000_36, rf_5000_37, rf_5000_40, rf_5000_41, rf_5000_42, rf_5000_43, rf_5000_44, rf_5000_45, rf_5000_47, rf_5000_52, rf_5000_54, rf_5000_55, rf_100_0, rf_100_1, rf_103_0, rf_103_1, rf_106_0, rf_106_1, rf_109_0, rf_109_1, al_2, al_4, al_5, al_7, al_8, al_10, al_11, al_12, al_14, al_15, al_17, al_18, al_19, al_20, al_22, al_23, al_24, al_25, al_27, al_28, al_29, al_30, al_32, al_33, al_34, al_35, al_37, al_38, al_40, al_42, al_5001, al_5002, al_5003, al_5004, al_5005, al_5006, al_5007, al_5008, al_5009, al_5010, al_5011, al_5012, al_5013, al_5014, al_5015, al_5016, al_5017, al_5018, al_5019, al_5020, al_5021, al_5022, al_5023, al_5024, al_5025, al_5026, al_9000, al_101, al_102, al_104, al_105, al_107, al_108, al_110, al_111, vcs_e, lg_c0, lg_cs, lg_nil, set_c0, set_cs, okst_0, okst_s, acok_n, acok_c, List.contains_nil, List.contains_cons, Bool.or_false, Bool.false_or, Bool.false_eq_true, if_false, if_true, ite_self, ne_eq, true_and, and_true, not_false_eq_true, not_true_eq_false, false_imp_iff, true_imp_iff, Nat.ble_eq, Bool.and_eq_true, reduceCtorEq, or_false, false_or, or_true, true_or, false_and, and_false, and_self, Int.reduceLE, Int.reduceAdd, Int.reduceSub, Int.reduceMul, Int.reduceNeg, Int.reduceLT, Int.reduceEq, Int.reduceNe, Nat.reduceBEq, Nat.reduceBNe, Nat.reduceEqDiff, amCmp_in, amCmp_lt, amCmp_le, amCmp_gt, amCmp_ge, amCmp_eq, amCmp_ne, Nat.reduceLeDiff, Nat.reduceSub, Bool.and_true, Bool.true_and, Bool.and_self, Bool.or_true, Bool.true_or, isRf_3, isRf_4, isRf_5, isRf_8, isRf_9, isRf_10, isRf_11, isRf_15, isRf_16, isRf_17, isRf_18, isRf_19, isRf_20, isRf_21, isRf_22, isRf_23, isRf_24, isRf_25, isRf_26, isRf_27, isRf_28, k_X12_takes_0, k_X12_takes_1, k_X12_takes_4, k_X12_takes_5, k_X12_takes_8, k_X12_takes_9, k_X12_takes_12, k_X12_takes_13, k_X12_takes_16, k_X12_takes_17, k_X12_takes_20, k_X12_takes_21, k_X12_takes_22, k_X12_takes_23, k_X12_takes_26, k_X12_takes_27, k_X12_takes_28, k_X12_takes_31, k_X12_takes_32, w_X12_fails_e, w_X12_look_e, up_s, up_nj, up_na, up_up, savR_o, cpy_o, fillm_o, setAud_o, setv_o, setv_s, Int.reduceNe, Int.reduceEq, Int.reduceLT, Int.reduceAdd, not_false_eq_true, ne_eq, or_true, true_or, ff]
    repeat' (first | assumption | apply And.intro | intro _)
    all_goals first | omega | exact absurd trivial (by assumption) | exact h1'
theorem wd_1611 : Cond.constantLong RX12 156 (-1000000) ∈ TBL := tb_tab (List.mem_of_getElem? (i := 1611) (by decide +kernel)) rfl
theorem wd_1612 : Cond.constantLong RX12 158 1000000 ∈ TBL := tb_tab (List.mem_of_getElem? (i := 1612) (by decide +kernel)) rfl
theorem wd_1613 : Cond.methodLink RX12 160 yJ9_min_f86c9 ∈ TBL := tb_tab (List.mem_of_getElem? (i := 1613) (by decide +kernel)) rfl
theorem lk_X12_160 : amLk RX12 160 yJ9_min_f86c9 cJ9_min_f86c9 4 (some .long) 2 := ⟨wd_1613, wd_16, wd_1023, by decide +kernel, by decide +kernel, by decide⟩
theorem wd_1614 : Cond.methodLink RX12 166 yJ9_max_f86c9 ∈ TBL := tb_tab (List.mem_of_getElem? (i := 1614) (by decide +kernel)) rfl
theorem wd_1616 : Cond.code yJ9_max_f86c9 cJ9_max_f86c9 4 (some .long) ∈ TBL := tb_tab (List.mem_of_getElem? (i := 1616) (by decide +kernel)) rfl
theorem lk_X12_166 : amLk RX12 166 yJ9_max_f86c9 cJ9_max_f86c9 4 (some .long) 2 := ⟨wd_1614, wd_16, wd_1616, by decide +kernel, by decide +kernel, by decide⟩
theorem wd_1615 : Cond.static yJ9_max_f86c9 ∈ TBL := tb_tab (List.mem_of_getElem? (i := 1615) (by decide +kernel)) rfl
def a_X12_within : AC := [(0, vL (-1000000) 3), (3, vL 1000000 6), (6, vLload 0 7), (7, vCallS w_J9_min_f86c9 2 10), (10, vCallS w_J9_max_f86c9 2 13), (13, vL2i 14), (14, vIret)]
theorem k_X12_within_0 : look a_X12_within 0 = vL (-1000000) 3 := rfl
theorem k_X12_within_3 : look a_X12_within 3 = vL 1000000 6 := rfl
theorem k_X12_within_6 : look a_X12_within 6 = vLload 0 7 := rfl
theorem k_X12_within_7 : look a_X12_within 7 = vCallS w_J9_min_f86c9 2 10 := rfl
theorem k_X12_within_10 : look a_X12_within 10 = vCallS w_J9_max_f86c9 2 13 := rfl
theorem k_X12_within_13 : look a_X12_within 13 = vL2i 14 := rfl
theorem k_X12_within_14 : look a_X12_within 14 = vIret := rfl
theorem o_X12_within {X : amX} (e1 : XT X = TT) (e2 : XD X = 1) (hB : amB X RX12 cX12_within (some .int) 2) : ∀ pc, amOK X pc (look a_X12_within pc) := by
  have hT : amTok (XT X) := e1 ▸ TT_ok
  refine look_ok ?_
  unfold a_X12_within
  refine fc (ok_ldc2 hB wd_1611 rfl dX12_within_0) ?_
  refine fc (ok_ldc2 hB wd_1612 rfl dX12_within_3) ?_
  refine fc (ok_lload_n hB dX12_within_6) ?_
  refine fc (ok_callS hB (e1 ▸ s_J9_min_f86c9) lk_X12_160 (by rw [e2]; decide) wd_1022 dX12_within_7) ?_
  refine fc (ok_callS hB (e1 ▸ s_J9_max_f86c9) lk_X12_166 (by rw [e2]; decide) wd_1615 dX12_within_10) ?_
  refine fc (ok_l2i hB dX12_within_13) ?_
  refine fc (ok_iret hB dX12_within_14) ?_
  exact fn

def w_X12_within : WP := fun av σ Q => ∃ (v : Int), av = [(1, v)] ∧ (InL v ∧ Q (0, clm v) σ)
theorem w_X12_within_e (v : Int) (σ : Mem) (Q : AV → Mem → Prop) : w_X12_within [(1, v)] σ Q = (InL v ∧ Q (0, clm v) σ) := by
  apply propext; constructor
  · rintro ⟨v', h9, hb9⟩; cases h9; exact hb9
  · intro hb9; exact ⟨v, rfl, hb9⟩

set_option maxRecDepth 100000 in
set_option maxHeartbeats 4000000 in
theorem s_X12_within : ∀ av σ Q, w_X12_within av σ Q → amCall 1 0 0 TT yX12_within cX12_within 2 (some .int) av σ Q := by
  rintro av σ Q ⟨v, rfl, hv, h⟩
  refine am_m0 (own := RX12) (A := look a_X12_within) (fun X e1 e2 hB => o_X12_within e1 e2 hB) rfl (by decide +kernel) rfl rfl 190 (w := 2) ?_
  change vcs _ _ _ _ 190 0 [(1, v), (7, 0)] [] σ
  simp only [↓reduceIte, inR_0, inR_1, inR_m, vSw2_e, swP_n, swP_c, vI_e, vL_e, vNull_e, vIload_e, vLload_e, vAload_e, vIstore_e, vLstore_e, vAstore_e, vIinc_e, vIadd_e, vIsub_e, vImul_e, vIand_e, vIor_e, vIxor_e, vIshl_e, vIshr_e, vIushr_e, vIdiv_e, vIrem_e, vLadd_e, vLsub_e, vLmul_e, vLand_e, vLor_e, vLxor_e, vLdiv_e, vLrem_e, vLushr_e, vLshl_e, vLcmp_e, vIneg_e, vI2l_e, vL2i_e, vI2b_e, vI2c_e, vDup_e, vPop_e, vDup2_e, vGoto_e, vIcEq_e, vIfEq_e, vIcNe_e, vIfNe_e, vIcLt_e, vIfLt_e, vIcGe_e, vIfGe_e, vIcGt_e, vIfGt_e, vIcLe_e, vIfLe_e, vNonnull_e, vSw_e, vGetI_e, vGetL_e, vGetR_e, vPutI_e, vPutZ_e, vPutL_e, vPutR_e, vIald_e, vIald_s, vLald_e, vBald_e, vBald_s, vAald_e, vIast_e, vLast_e, vBast_e, vAast_e, vAlen_e8, vAlen_e9, vAlen_e10, vAlen_e11, vAlen_e5, vAlen_e3, vGets_e, vCompact_e, vLdcS_e, vIret_e, vZret_e, vCret_e, vBret_e, vLret_e, vVret_e, vAret_e, vCallM_e0, vCallMV_e0, vCallS_e0, vCallSV_e0, vCallM_e1, vCallMV_e1, vCallS_e1, vCallSV_e1, vCallM_e2, vCallMV_e2, vCallS_e2, vCallSV_e2, vCallM_e3, vCallMV_e3, vCallS_e3, vCallSV_e3, vCallM_e4, vCallMV_e4, vCallS_e4, vCallSV_e4, vCallM_e5, vCallMV_e5, vCallS_e5, vCallSV_e5, vCallM_e6, vCallMV_e6, vCallS_e6, vCallSV_e6, vCallM_e7, vCallMV_e7, vCallS_e7, vCallSV_e7, vBad_e, vStrVal_e, vStrCod_e, vForm_e, vCallT_e0, vCallT_e1, vCallT_e2, vCopy_e, rf_0_0, rf_0_1, rf_0_2, rf_0_3, rf_0_4, rf_0_7, rf_0_10, rf_0_11, rf_0_12, rf_0_13, rf_0_14, rf_0_15, rf_0_16, rf_1_0, rf_3_0, rf_3_1, rf_6_0, rf_6_1, rf_9_0, rf_9_1, rf_9_3, rf_13_0, rf_13_1, rf_13_2, rf_16_0, rf_16_1, rf_16_2, rf_16_3, rf_21_0, rf_21_1, rf_21_2, rf_21_3, rf_26_0, rf_26_1, rf_26_2, rf_26_3, rf_26_4, rf_26_5, rf_26_6, rf_31_0, rf_31_2, rf_31_5, rf_31_6, rf_36_0, rf_36_1, rf_36_2, rf_36_3, rf_39_0, rf_39_1, rf_39_2, rf_41_0, rf_41_1, rf_41_2, rf_41_3, rf_5000_1, rf_5000_2, rf_5000_3, rf_5000_4, rf_5000_5, rf_5000_15, rf_5000_16, rf_5000_18, rf_5000_19, rf_5000_20, rf_5000_21, rf_5000_22, rf_5000_23, rf_5000_24, rf_5000_25, rf_5000_26, rf_5000_27, rf_5000_36, rf_5000_37, rf_5000_40, rf_5000_41, rf_5000_42, rf_5000_43, rf_5000_44, rf_5000_45, rf_5000_47, rf_5000_52, rf_5000_54, rf_5000_55, rf_100_0, rf_100_1, rf_103_0, rf_103_1, rf_106_0, rf_106_1, rf_109_0, rf_109_1, al_2, al_4, al_5, al_7, al_8, al_10, al_11, al_12, al_14, al_15, al_17, al_18, al_19, al_20, al_22, al_23, al_24, al_25, al_27, al_28, al_29, al_30, al_32, al_33, al_34, al_35, al_37, al_38, al_40, al_42, al_5001, al_5002, al_5003, al_5004, al_5005, al_5006, al_5007, al_5008, al_5009, al_5010, al_5011, al_5012, al_5013, al_5014, al_5015, al_5016, al_5017, al_5018, al_5019, al_5020, al_5021, al_5022, al_5023, al_5024, al_5025, al_5026, al_9000, al_101, al_102, al_104, al_105, al_107, al_108, al_110, al_111, vcs_e, lg_c0, lg_cs, lg_nil, set_c0, set_cs, okst_0, okst_s, acok_n, acok_c, List.contains_nil, List.contains_cons, Bool.or_false, Bool.false_or, Bool.false_eq_true, if_false, if_true, ite_self, ne_eq, true_and, and_true, not_false_eq_true, not_true_eq_false, false_imp_iff, true_imp_iff, Nat.ble_eq, Bool.and_eq_true, reduceCtorEq, or_false, false_or, or_true, true_or, false_and, and_false, and_self, Int.reduceLE, Int.reduceAdd, Int.reduceSub, Int.reduceMul, Int.reduceNeg, Int.reduceLT, Int.reduceEq, Int.reduceNe, Nat.reduceBEq, Nat.reduceBNe, Nat.reduceEqDiff, amCmp_in, amCmp_lt, amCmp_le, amCmp_gt, amCmp_ge, amCmp_eq, amCmp_ne, Nat.reduceLeDiff, Nat.reduceSub, Bool.and_true, Bool.true_and, Bool.and_self, Bool.or_true, Bool.true_or, isRf_3, isRf_4, isRf_5, isRf_8, isRf_9, isRf_10, isRf_11, isRf_15, isRf_16, isRf_17, isRf_18, isRf_19, isRf_20, isRf_21, isRf_22, isRf_23, isRf_24, isRf_25, isRf_26, isRf_27, isRf_28, k_X12_within_0, k_X12_within_3, k_X12_within_6, k_X12_within_7, k_X12_within_10, k_X12_within_13, k_X12_within_14, w_J9_max_f86c9_e, w_J9_min_f86c9_e, up_s, up_nj, up_na, up_up, savR_o, cpy_o, fillm_o, setAud_o, setv_o, setv_s, Int.reduceNe, Int.reduceEq, Int.reduceLT, Int.reduceAdd, not_false_eq_true, ne_eq, or_true, true_or]
  have e : amL2i (if (-1000000 : Int) < (if v < 1000000 then v else 1000000) then (if v < 1000000 then v else 1000000) else -1000000) = clm v := by
    unfold clm
    rw [l2i_in (by (repeat' split) <;> omega)]
    (repeat' split) <;> omega
  repeat' (first | assumption | apply And.intro | intro _)
  all_goals first | omega | exact absurd trivial (by assumption) | skip
  all_goals (first | (rw [e]; exact h) | exact ⟨by decide, by decide⟩)
def a_X12_isSign : AC := [(0, vIload 0 1), (1, vI 61 3), (3, vIcEq 18 6), (6, vIload 0 7), (7, vI 60 9), (9, vIcEq 18 12), (12, vIload 0 13), (13, vI 62 15), (15, vIcNe 22 18), (18, vI 1 19), (19, vGoto 23), (22, vI 0 23), (23, vZret)]
theorem k_X12_isSign_0 : look a_X12_isSign 0 = vIload 0 1 := rfl
theorem k_X12_isSign_1 : look a_X12_isSign 1 = vI 61 3 := rfl
theorem k_X12_isSign_3 : look a_X12_isSign 3 = vIcEq 18 6 := rfl
theorem k_X12_isSign_6 : look a_X12_isSign 6 = vIload 0 7 := rfl
theorem k_X12_isSign_7 : look a_X12_isSign 7 = vI 60 9 := rfl
theorem k_X12_isSign_9 : look a_X12_isSign 9 = vIcEq 18 12 := rfl
theorem k_X12_isSign_12 : look a_X12_isSign 12 = vIload 0 13 := rfl
theorem k_X12_isSign_13 : look a_X12_isSign 13 = vI 62 15 := rfl
theorem k_X12_isSign_15 : look a_X12_isSign 15 = vIcNe 22 18 := rfl
theorem k_X12_isSign_18 : look a_X12_isSign 18 = vI 1 19 := rfl
theorem k_X12_isSign_19 : look a_X12_isSign 19 = vGoto 23 := rfl
theorem k_X12_isSign_22 : look a_X12_isSign 22 = vI 0 23 := rfl
theorem k_X12_isSign_23 : look a_X12_isSign 23 = vZret := rfl
theorem o_X12_isSign {X : amX} (e1 : XT X = TT) (e2 : XD X = 0) (hB : amB X RX12 cX12_isSign (some .boolean) 1) : ∀ pc, amOK X pc (look a_X12_isSign pc) := by
  have hT : amTok (XT X) := e1 ▸ TT_ok
  refine look_ok ?_
  unfold a_X12_isSign
  refine fc (ok_iload_n hB dX12_isSign_0) ?_
  refine fc (ok_bipush hB dX12_isSign_1 (by decide)) ?_
  refine fc (ok_icmp_eq hB (t := 18) (by decide) dX12_isSign_3) ?_
  refine fc (ok_iload_n hB dX12_isSign_6) ?_
  refine fc (ok_bipush hB dX12_isSign_7 (by decide)) ?_
  refine fc (ok_icmp_eq hB (t := 18) (by decide) dX12_isSign_9) ?_
  refine fc (ok_iload_n hB dX12_isSign_12) ?_
  refine fc (ok_bipush hB dX12_isSign_13 (by decide)) ?_
  refine fc (ok_icmp_ne hB (t := 22) (by decide) dX12_isSign_15) ?_
  refine fc (ok_iconst hB dX12_isSign_18) ?_
  refine fc (ok_goto hB (t := 23) (by decide) dX12_isSign_19) ?_
  refine fc (ok_iconst hB dX12_isSign_22) ?_
  refine fc (ok_zret hB dX12_isSign_23) ?_
  exact fn

def w_X12_isSign : WP := fun av σ Q => ∃ (c : Int), av = [(0, c)] ∧ (InR c ∧ (isSg c → Q (0, 1) σ) ∧ (¬ isSg c → Q (0, 0) σ))
theorem w_X12_isSign_e (c : Int) (σ : Mem) (Q : AV → Mem → Prop) : w_X12_isSign [(0, c)] σ Q = (InR c ∧ (isSg c → Q (0, 1) σ) ∧ (¬ isSg c → Q (0, 0) σ)) := by
  apply propext; constructor
  · rintro ⟨c', h9, hb9⟩; cases h9; exact hb9
  · intro hb9; exact ⟨c, rfl, hb9⟩

set_option maxRecDepth 100000 in
set_option maxHeartbeats 4000000 in
theorem s_X12_isSign : ∀ av σ Q, w_X12_isSign av σ Q → amCall 0 0 0 TT yX12_isSign cX12_isSign 1 (some .boolean) av σ Q := by
  rintro av σ Q ⟨c, rfl, hc, h1, h2⟩
  refine am_m0 (own := RX12) (A := look a_X12_isSign) (fun X e1 e2 hB => o_X12_isSign e1 e2 hB) rfl (by decide +kernel) rfl rfl 190 (w := 1) ?_
  change vcs _ _ _ _ 190 0 [(0, c)] [] σ
  simp only [↓reduceIte, inR_0, inR_1, inR_m, vSw2_e, swP_n, swP_c, vI_e, vL_e, vNull_e, vIload_e, vLload_e, vAload_e, vIstore_e, vLstore_e, vAstore_e, vIinc_e, vIadd_e, vIsub_e, vImul_e, vIand_e, vIor_e, vIxor_e, vIshl_e, vIshr_e, vIushr_e, vIdiv_e, vIrem_e, vLadd_e, vLsub_e, vLmul_e, vLand_e, vLor_e, vLxor_e, vLdiv_e, vLrem_e, vLushr_e, vLshl_e, vLcmp_e, vIneg_e, vI2l_e, vL2i_e, vI2b_e, vI2c_e, vDup_e, vPop_e, vDup2_e, vGoto_e, vIcEq_e, vIfEq_e, vIcNe_e, vIfNe_e, vIcLt_e, vIfLt_e, vIcGe_e, vIfGe_e, vIcGt_e, vIfGt_e, vIcLe_e, vIfLe_e, vNonnull_e, vSw_e, vGetI_e, vGetL_e, vGetR_e, vPutI_e, vPutZ_e, vPutL_e, vPutR_e, vIald_e, vIald_s, vLald_e, vBald_e, vBald_s, vAald_e, vIast_e, vLast_e, vBast_e, vAast_e, vAlen_e8, vAlen_e9, vAlen_e10, vAlen_e11, vAlen_e5, vAlen_e3, vGets_e, vCompact_e, vLdcS_e, vIret_e, vZret_e, vCret_e, vBret_e, vLret_e, vVret_e, vAret_e, vCallM_e0, vCallMV_e0, vCallS_e0, vCallSV_e0, vCallM_e1, vCallMV_e1, vCallS_e1, vCallSV_e1, vCallM_e2, vCallMV_e2, vCallS_e2, vCallSV_e2, vCallM_e3, vCallMV_e3, vCallS_e3, vCallSV_e3, vCallM_e4, vCallMV_e4, vCallS_e4, vCallSV_e4, vCallM_e5, vCallMV_e5, vCallS_e5, vCallSV_e5, vCallM_e6, vCallMV_e6, vCallS_e6, vCallSV_e6, vCallM_e7, vCallMV_e7, vCallS_e7, vCallSV_e7, vBad_e, vStrVal_e, vStrCod_e, vForm_e, vCallT_e0, vCallT_e1, vCallT_e2, vCopy_e, rf_0_0, rf_0_1, rf_0_2, rf_0_3, rf_0_4, rf_0_7, rf_0_10, rf_0_11, rf_0_12, rf_0_13, rf_0_14, rf_0_15, rf_0_16, rf_1_0, rf_3_0, rf_3_1, rf_6_0, rf_6_1, rf_9_0, rf_9_1, rf_9_3, rf_13_0, rf_13_1, rf_13_2, rf_16_0, rf_16_1, rf_16_2, rf_16_3, rf_21_0, rf_21_1, rf_21_2, rf_21_3, rf_26_0, rf_26_1, rf_26_2, rf_26_3, rf_26_4, rf_26_5, rf_26_6, rf_31_0, rf_31_2, rf_31_5, rf_31_6, rf_36_0, rf_36_1, rf_36_2, rf_36_3, rf_39_0, rf_39_1, rf_39_2, rf_41_0, rf_41_1, rf_41_2, rf_41_3, rf_5000_1, rf_5000_2, rf_5000_3, rf_5000_4, rf_5000_5, rf_5000_15, rf_5000_16, rf_5000_18, rf_5000_19, rf_5000_20, rf_5000_21, rf_5000_22, rf_5000_23, rf_5000_24, rf_5000_25, rf_5000_26, rf_5000_27, rf_5000_36, rf_5000_37, rf_5000_40, rf_5000_41, rf_5000_42, rf_5000_43, rf_5000_44, rf_5000_45, rf_5000_47, rf_5000_52, rf_5000_54, rf_5000_55, rf_100_0, rf_100_1, rf_103_0, rf_103_1, rf_106_0, rf_106_1, rf_109_0, rf_109_1, al_2, al_4, al_5, al_7, al_8, al_10, al_11, al_12, al_14, al_15, al_17, al_18, al_19, al_20, al_22, al_23, al_24, al_25, al_27, al_28, al_29, al_30, al_32, al_33, al_34, al_35, al_37, al_38, al_40, al_42, al_5001, al_5002, al_5003, al_5004, al_5005, al_5006, al_5007, al_5008, al_5009, al_5010, al_5011, al_5012, al_5013, al_5014, al_5015, al_5016, al_5017, al_5018, al_5019, al_5020, al_5021, al_5022, al_5023, al_5024, al_5025, al_5026, al_9000, al_101, al_102, al_104, al_105, al_107, al_108, al_110, al_111, vcs_e, lg_c0, lg_cs, lg_nil, set_c0, set_cs, okst_0, okst_s, acok_n, acok_c, List.contains_nil, List.contains_cons, Bool.or_false, Bool.false_or, Bool.false_eq_true, if_false, if_true, ite_self, ne_eq, true_and, and_true, not_false_eq_true, not_true_eq_false, false_imp_iff, true_imp_iff, Nat.ble_eq, Bool.and_eq_true, reduceCtorEq, or_false, false_or, or_true, true_or, false_and, and_false, and_self, Int.reduceLE, Int.reduceAdd, Int.reduceSub, Int.reduceMul, Int.reduceNeg, Int.reduceLT, Int.reduceEq, Int.reduceNe, Nat.reduceBEq, Nat.reduceBNe, Nat.reduceEqDiff, amCmp_in, amCmp_lt, amCmp_le, amCmp_gt, amCmp_ge, amCmp_eq, amCmp_ne, Nat.reduceLeDiff, Nat.reduceSub, Bool.and_true, Bool.true_and, Bool.and_self, Bool.or_true, Bool.true_or, isRf_3, isRf_4, isRf_5, isRf_8, isRf_9, isRf_10, isRf_11, isRf_15, isRf_16, isRf_17, isRf_18, isRf_19, isRf_20, isRf_21, isRf_22, isRf_23, isRf_24, isRf_25, isRf_26, isRf_27, isRf_28, k_X12_isSign_0, k_X12_isSign_1, k_X12_isSign_3, k_X12_isSign_6, k_X12_isSign_7, k_X12_isSign_9, k_X12_isSign_12, k_X12_isSign_13, k_X12_isSign_15, k_X12_isSign_18, k_X12_isSign_19, k_X12_isSign_22, k_X12_isSign_23, up_s, up_nj, up_na, up_up, savR_o, cpy_o, fillm_o, setAud_o, setv_o, setv_s, Int.reduceNe, Int.reduceEq, Int.reduceLT, Int.reduceAdd, not_false_eq_true, ne_eq, or_true, true_or]
  repeat' (first | assumption | apply And.intro | intro _)
  all_goals first | omega | exact absurd trivial (by assumption) | exact h1 (by omega) | exact h2 (by omega)
/-- whether a sign is among those of a String -/
theorem fidx_s (f : Int → Int) (c i : Int) (n : Nat) : fidx f c i (n + 1) = if f i = c then i else fidx f c (i + 1) n := rfl
theorem fidx_z (f : Int → Int) (c i : Int) : fidx f c i 0 = -1 := rfl
def amg (z c : Int) : Int := if 0 ≤ fidx (stv (z + 100)) c 0 (stl (z + 100)).toNat then 1 else 0
theorem wd_1532 : Cond.methodLink RX12 114 yJ0_length_8abf5 ∈ TBL := tb_tab (List.mem_of_getElem? (i := 1532) (by decide +kernel)) rfl
theorem lk_X12_114 : amLk RX12 114 yJ0_length_8abf5 cJ0_length_8abf5 1 (some .int) 0 := ⟨wd_1532, wd_14, wd_437, by decide +kernel, by decide +kernel, by decide⟩
theorem wd_1536 : Cond.methodLink RX12 120 yJ0_charAt_5068e ∈ TBL := tb_tab (List.mem_of_getElem? (i := 1536) (by decide +kernel)) rfl
theorem lk_X12_120 : amLk RX12 120 yJ0_charAt_5068e cJ0_charAt_5068e 2 (some .char) 1 := ⟨wd_1536, wd_14, wd_520, by decide +kernel, by decide +kernel, by decide⟩
def a_X12_isAmong : AC := [(0, vI 0 1), (1, vIstore 2 2), (2, vIload 2 3), (3, vAload 0 4), (4, vCallT w_J0_length_8abf5 0 7), (7, vIcGe 27 10), (10, vAload 0 11), (11, vIload 2 12), (12, vCallT w_J0_charAt_5068e 1 15), (15, vIload 1 16), (16, vIcNe 21 19), (19, vI 1 20), (20, vZret), (21, vIinc 2 1 24), (24, vGoto 2), (27, vI 0 28), (28, vZret)]
theorem k_X12_isAmong_0 : look a_X12_isAmong 0 = vI 0 1 := rfl
theorem k_X12_isAmong_1 : look a_X12_isAmong 1 = vIstore 2 2 := rfl
theorem k_X12_isAmong_2 : look a_X12_isAmong 2 = vIload 2 3 := rfl
theorem k_X12_isAmong_3 : look a_X12_isAmong 3 = vAload 0 4 := rfl
theorem k_X12_isAmong_4 : look a_X12_isAmong 4 = vCallT w_J0_length_8abf5 0 7 := rfl
theorem k_X12_isAmong_7 : look a_X12_isAmong 7 = vIcGe 27 10 := rfl
theorem k_X12_isAmong_10 : look a_X12_isAmong 10 = vAload 0 11 := rfl
theorem k_X12_isAmong_11 : look a_X12_isAmong 11 = vIload 2 12 := rfl
theorem k_X12_isAmong_12 : look a_X12_isAmong 12 = vCallT w_J0_charAt_5068e 1 15 := rfl
theorem k_X12_isAmong_15 : look a_X12_isAmong 15 = vIload 1 16 := rfl
theorem k_X12_isAmong_16 : look a_X12_isAmong 16 = vIcNe 21 19 := rfl
theorem k_X12_isAmong_19 : look a_X12_isAmong 19 = vI 1 20 := rfl
theorem k_X12_isAmong_20 : look a_X12_isAmong 20 = vZret := rfl
theorem k_X12_isAmong_21 : look a_X12_isAmong 21 = vIinc 2 1 24 := rfl
theorem k_X12_isAmong_24 : look a_X12_isAmong 24 = vGoto 2 := rfl
theorem k_X12_isAmong_27 : look a_X12_isAmong 27 = vI 0 28 := rfl
theorem k_X12_isAmong_28 : look a_X12_isAmong 28 = vZret := rfl
theorem o_X12_isAmong {X : amX} (e1 : XT X = TT) (e2 : XD X = 4) (hB : amB X RX12 cX12_isAmong (some .boolean) 3) : ∀ pc, amOK X pc (look a_X12_isAmong pc) := by
  have hT : amTok (XT X) := e1 ▸ TT_ok
  refine look_ok ?_
  unfold a_X12_isAmong
  refine fc (ok_iconst hB dX12_isAmong_0) ?_
  refine fc (ok_istore_n hB (by decide) dX12_isAmong_1) ?_
  refine fc (ok_iload_n hB dX12_isAmong_2) ?_
  refine fc (ok_aload_n hB dX12_isAmong_3) ?_
  refine fc (ok_callT hB (e1 ▸ s_J0_length_8abf5) lk_X12_114 (by rw [e2]; decide) rfl wd_435 wd_436 dX12_isAmong_4) ?_
  refine fc (ok_icmp_ge hB (t := 27) (by decide) dX12_isAmong_7) ?_
  refine fc (ok_aload_n hB dX12_isAmong_10) ?_
  refine fc (ok_iload_n hB dX12_isAmong_11) ?_
  refine fc (ok_callT hB (e1 ▸ s_J0_charAt_5068e) lk_X12_120 (by rw [e2]; decide) rfl wd_518 wd_519 dX12_isAmong_12) ?_
  refine fc (ok_iload_n hB dX12_isAmong_15) ?_
  refine fc (ok_icmp_ne hB (t := 21) (by decide) dX12_isAmong_16) ?_
  refine fc (ok_iconst hB dX12_isAmong_19) ?_
  refine fc (ok_zret hB dX12_isAmong_20) ?_
  refine fc (ok_iinc hB (by decide) dX12_isAmong_21) ?_
  refine fc (ok_goto hB (t := 2) (by decide) dX12_isAmong_24) ?_
  refine fc (ok_iconst hB dX12_isAmong_27) ?_
  refine fc (ok_zret hB dX12_isAmong_28) ?_
  exact fn
def inv_amg (σ : Mem) (z c : Int) (n pc : Nat) (ls st : List AV) (σ' : Mem) : Prop := pc = 2 ∧ st = [] ∧ σ' = σ ∧ ∃ k : Nat, ls = [(4, z), (0, c), (0, (k : Int))] ∧ (k : Int) + n = stl (z + 100) ∧ fidx (stv (z + 100)) c k n = fidx (stv (z + 100)) c 0 (stl (z + 100)).toNat
def w_X12_isAmong : WP := fun av σ Q => ∃ (z : Int) (c : Int), av = [(4, z), (0, c)] ∧ (20000 ≤ z ∧ z < 20011 ∧ stl (z + 100) ≤ 100 ∧ InR c ∧ Q (0, amg z c) σ)
theorem w_X12_isAmong_e (z : Int) (c : Int) (σ : Mem) (Q : AV → Mem → Prop) : w_X12_isAmong [(4, z), (0, c)] σ Q = (20000 ≤ z ∧ z < 20011 ∧ stl (z + 100) ≤ 100 ∧ InR c ∧ Q (0, amg z c) σ) := by
  apply propext; constructor
  · rintro ⟨z', c', h9, hb9⟩; cases h9; exact hb9
  · intro hb9; exact ⟨z, c, rfl, hb9⟩

set_option maxRecDepth 100000 in
set_option maxHeartbeats 4000000 in
theorem s_X12_isAmong : ∀ av σ Q, w_X12_isAmong av σ Q → amCall 4 0 0 TT yX12_isAmong cX12_isAmong 3 (some .boolean) av σ Q := by
  rintro av σ Q ⟨z, c, rfl, z0, z1, zl, hc, h⟩
  have ln := stl_nn (z + 100)
  refine am_m [2] (inv_amg σ z c) (own := RX12) (A := look a_X12_isAmong) (fun X e1 e2 hB => o_X12_isAmong e1 e2 hB) rfl (by decide +kernel) rfl rfl ?_ ⟨60, ?_⟩ (w := 3)
  · rintro n pc ls st σ' ⟨rfl, rfl, rfl, k, rfl, hk, hF⟩
    refine ⟨60, ?_⟩
    simp only [↓reduceIte, inR_0, inR_1, inR_m, vSw2_e, swP_n, swP_c, vI_e, vL_e, vNull_e, vIload_e, vLload_e, vAload_e, vIstore_e, vLstore_e, vAstore_e, vIinc_e, vIadd_e, vIsub_e, vImul_e, vIand_e, vIor_e, vIxor_e, vIshl_e, vIshr_e, vIushr_e, vIdiv_e, vIrem_e, vLadd_e, vLsub_e, vLmul_e, vLand_e, vLor_e, vLxor_e, vLdiv_e, vLrem_e, vLushr_e, vLshl_e, vLcmp_e, vIneg_e, vI2l_e, vL2i_e, vI2b_e, vI2c_e, vDup_e, vPop_e, vDup2_e, vGoto_e, vIcEq_e, vIfEq_e, vIcNe_e, vIfNe_e, vIcLt_e, vIfLt_e, vIcGe_e, vIfGe_e, vIcGt_e, vIfGt_e, vIcLe_e, vIfLe_e, vNonnull_e, vSw_e, vGetI_e, vGetL_e, vGetR_e, vPutI_e, vPutZ_e, vPutL_e, vPutR_e, vIald_e, vIald_s, vLald_e, vBald_e, vBald_s, vAald_e, vIast_e, vLast_e, vBast_e, vAast_e, vAlen_e8, vAlen_e9, vAlen_e10, vAlen_e11, vAlen_e5, vAlen_e3, vGets_e, vCompact_e, vLdcS_e, vIret_e, vZret_e, vCret_e, vBret_e, vLret_e, vVret_e, vAret_e, vCallM_e0, vCallMV_e0, vCallS_e0, vCallSV_e0, vCallM_e1, vCallMV_e1, vCallS_e1, vCallSV_e1, vCallM_e2, vCallMV_e2, vCallS_e2, vCallSV_e2, vCallM_e3, vCallMV_e3, vCallS_e3, vCallSV_e3, vCallM_e4, vCallMV_e4, vCallS_e4, vCallSV_e4, vCallM_e5, vCallMV_e5, vCallS_e5, vCallSV_e5, vCallM_e6, vCallMV_e6, vCallS_e6, vCallSV_e6, vCallM_e7, vCallMV_e7, vCallS_e7, vCallSV_e7, vBad_e, vStrVal_e, vStrCod_e, vForm_e, vCallT_e0, vCallT_e1, vCallT_e2, vCopy_e, rf_0_0, rf_0_1, rf_0_2, rf_0_3, rf_0_4, rf_0_7, rf_0_10, rf_0_11, rf_0_12, rf_0_13, rf_0_14, rf_0_15, rf_0_16, rf_1_0, rf_3_0, rf_3_1, rf_6_0, rf_6_1, rf_9_0, rf_9_1, rf_9_3, rf_13_0, rf_13_1, rf_13_2, rf_16_0, rf_16_1, rf_16_2, rf_16_3, rf_21_0, rf_21_1, rf_21_2, rf_21_3, rf_26_0, rf_26_1, rf_26_2, rf_26_3, rf_26_4, rf_26_5, rf_26_6, rf_31_0, rf_31_2, rf_31_5, rf_31_6, rf_36_0, rf_36_1, rf_36_2, rf_36_3, rf_39_0, rf_39_1, rf_39_2, rf_41_0, rf_41_1, rf_41_2, rf_41_3, rf_5000_1, rf_5000_2, rf_5000_3, rf_5000_4, rf_5000_5, rf_5000_15, rf_5000_16, rf_5000_18, rf_5000_19, rf_5000_20, rf_5000_21, rf_5000_22, rf_5000_23, rf_5000_24, rf_5000_25, rf_5000_26, rf_5000_27, rf_5000_36, rf_5000_37, rf_5000_40, rf_5000_41, rf_5000_42, rf_5000_43, rf_5000_44, rf_5000_45, rf_5000_47, rf_5000_52, rf_5000_54, rf_5000_55, rf_100_0, rf_100_1, rf_103_0, rf_103_1, rf_106_0, rf_106_1, rf_109_0, rf_109_1, al_2, al_4, al_5, al_7, al_8, al_10, al_11, al_12, al_14, al_15, al_17, al_18, al_19, al_20, al_22, al_23, al_24, al_25, al_27, al_28, al_29, al_30, al_32, al_33, al_34, al_35, al_37, al_38, al_40, al_42, al_5001, al_5002, al_5003, al_5004, al_5005, al_5006, al_5007, al_5008, al_5009, al_5010, al_5011, al_5012, al_5013, al_5014, al_5015, al_5016, al_5017, al_5018, al_5019, al_5020, al_5021, al_5022, al_5023, al_5024, al_5025, al_5026, al_9000, al_101, al_102, al_104, al_105, al_107, al_108, al_110, al_111, vcs_e, lg_c0, lg_cs, lg_nil, set_c0, set_cs, okst_0, okst_s, acok_n, acok_c, List.contains_nil, List.contains_cons, Bool.or_false, Bool.false_or, Bool.false_eq_true, if_false, if_true, ite_self, ne_eq, true_and, and_true, not_false_eq_true, not_true_eq_false, false_imp_iff, true_imp_iff, Nat.ble_eq, Bool.and_eq_true, reduceCtorEq, or_false, false_or, or_true, true_or, false_and, and_false, and_self, Int.reduceLE, Int.reduceAdd, Int.reduceSub, Int.reduceMul, Int.reduceNeg, Int.reduceLT, Int.reduceEq, Int.reduceNe, Nat.reduceBEq, Nat.reduceBNe, Nat.reduceEqDiff, amCmp_in, amCmp_lt, amCmp_le, amCmp_gt, amCmp_ge, amCmp_eq, amCmp_ne, Nat.reduceLeDiff, Nat.reduceSub, Bool.and_true, Bool.true_and, Bool.and_self, Bool.or_true, Bool.true_or, isRf_3, isRf_4, isRf_5, isRf_8, isRf_9, isRf_10, isRf_11, isRf_15, isRf_16, isRf_17, isRf_18, isRf_19, isRf_20, isRf_21, isRf_22, isRf_23, isRf_24, isRf_25, isRf_26, isRf_27, isRf_28, k_X12_isAmong_0, k_X12_isAmong_1, k_X12_isAmong_2, k_X12_isAmong_3, k_X12_isAmong_4, k_X12_isAmong_7, k_X12_isAmong_10, k_X12_isAmong_11, k_X12_isAmong_12, k_X12_isAmong_15, k_X12_isAmong_16, k_X12_isAmong_19, k_X12_isAmong_20, k_X12_isAmong_21, k_X12_isAmong_24, k_X12_isAmong_27, k_X12_isAmong_28, w_J0_charAt_5068e_e, w_J0_length_8abf5_e]
    cases n with
    | zero =>
      have e : amg z c = 0 := by
        unfold amg; rw [← hF, fidx_z, if_neg (by decide)]
      rw [e] at h
      repeat' (first | assumption | apply And.intro | intro _)
      all_goals first | exact h | omega
    | succ n =>
      rw [fidx_s] at hF
      have sb := stv_bd (z := z + 100) (i := k) (by omega) (by omega) (by omega) (by omega)
      by_cases d : stv (z + 100) k = c
      · have e : amg z c = 1 := by
          unfold amg; rw [← hF, if_pos d, if_pos (by omega)]
        rw [e] at h
        repeat' (first | assumption | apply And.intro | intro _)
        all_goals first | exact h | omega
      · rw [if_neg d] at hF
        have i9 : ∃ k', k' < n + 1 ∧ inv_amg σ' z c k' 2 [(4, z), (0, c), (0, (k : Int) + 1)] [] σ' := ⟨n, by omega, rfl, rfl, rfl, k + 1, rfl, by omega, hF⟩
        repeat' (first | assumption | apply And.intro | intro _)
        all_goals first | exact i9 | omega
  · change vcs _ _ _ _ 60 0 [(4, z), (0, c), (6, 0)] [] σ
    simp only [↓reduceIte, inR_0, inR_1, inR_m, vI_e, vL_e, vNull_e, vIload_e, vLload_e, vAload_e, vIstore_e, vLstore_e, vAstore_e, vIinc_e, vIadd_e, vIsub_e, vImul_e, vIand_e, vIor_e, vIxor_e, vIshl_e, vIshr_e, vIushr_e, vIdiv_e, vIrem_e, vLadd_e, vLsub_e, vLmul_e, vLand_e, vLor_e, vLxor_e, vLdiv_e, vLrem_e, vLushr_e, vLshl_e, vLcmp_e, vIneg_e, vI2l_e, vL2i_e, vI2b_e, vI2c_e, vDup_e, vPop_e, vDup2_e, vGoto_e, vIcEq_e, vIfEq_e, vIcNe_e, vIfNe_e, vIcLt_e, vIfLt_e, vIcGe_e, vIfGe_e, vIcGt_e, vIfGt_e, vIcLe_e, vIfLe_e, vNonnull_e, vSw_e, vGetI_e, vGetL_e, vGetR_e, vPutI_e, vPutZ_e, vPutL_e, vPutR_e, vIald_e, vIald_s, vLald_e, vBald_e, vBald_s, vAald_e, vIast_e, vLast_e, vBast_e, vAast_e, vAlen_e8, vAlen_e9, vAlen_e10, vAlen_e11, vAlen_e5, vAlen_e3, vGets_e, vCompact_e, vLdcS_e, vIret_e, vZret_e, vCret_e, vBret_e, vLret_e, vVret_e, vAret_e, vCallM_e0, vCallMV_e0, vCallS_e0, vCallSV_e0, vCallM_e1, vCallMV_e1, vCallS_e1, vCallSV_e1, vCallM_e2, vCallMV_e2, vCallS_e2, vCallSV_e2, vCallM_e3, vCallMV_e3, vCallS_e3, vCallSV_e3, vCallM_e4, vCallMV_e4, vCallS_e4, vCallSV_e4, vCallM_e5, vCallMV_e5, vCallS_e5, vCallSV_e5, vCallM_e6, vCallMV_e6, vCallS_e6, vCallSV_e6, vCallM_e7, vCallMV_e7, vCallS_e7, vCallSV_e7, vBad_e, vStrVal_e, vStrCod_e, vForm_e, vCallT_e0, vCallT_e1, vCallT_e2, vCopy_e, rf_0_0, rf_0_1, rf_0_2, rf_0_3, rf_0_4, rf_0_7, rf_0_10, rf_0_11, rf_0_12, rf_0_13, rf_0_14, rf_0_15, rf_0_16, rf_1_0, rf_3_0, rf_3_1, rf_6_0, rf_6_1, rf_9_0, rf_9_1, rf_9_3, rf_13_0, rf_13_1, rf_13_2, rf_16_0, rf_16_1, rf_16_2, rf_16_3, rf_21_0, rf_21_1, rf_21_2, rf_21_3, rf_26_0, rf_26_1, rf_26_2, rf_26_3, rf_26_4, rf_26_5, rf_26_6, rf_31_0, rf_31_2, rf_31_5, rf_31_6, rf_36_0, rf_36_1, rf_36_2, rf_36_3, rf_39_0, rf_39_1, rf_39_2, rf_41_0, rf_41_1, rf_41_2, rf_41_3, rf_5000_1, rf_5000_2, rf_5000_3, rf_5000_4, rf_5000_5, rf_5000_15, rf_5000_16, rf_5000_18, rf_5000_19, rf_5000_20, rf_5000_21, rf_5000_22, rf_5000_23, rf_5000_24, rf_5000_25, rf_5000_26, rf_5000_27, rf_5000_36, rf_5000_37, rf_5000_40, rf_5000_41, rf_5000_42, rf_5000_43, rf_5000_44, rf_5000_45, rf_5000_47, rf_5000_52, rf_5000_54, rf_5000_55, rf_100_0, rf_100_1, rf_103_0, rf_103_1, rf_106_0, rf_106_1, rf_109_0, rf_109_1, al_2, al_4, al_5, al_7, al_8, al_10, al_11, al_12, al_14, al_15, al_17, al_18, al_19, al_20, al_22, al_23, al_24, al_25, al_27, al_28, al_29, al_30, al_32, al_33, al_34, al_35, al_37, al_38, al_40, al_42, al_5001, al_5002, al_5003, al_5004, al_5005, al_5006, al_5007, al_5008, al_5009, al_5010, al_5011, al_5012, al_5013, al_5014, al_5015, al_5016, al_5017, al_5018, al_5019, al_5020, al_5021, al_5022, al_5023, al_5024, al_5025, al_5026, al_9000, al_101, al_102, al_104, al_105, al_107, al_108, al_110, al_111, vcs_e, lg_c0, lg_cs, lg_nil, set_c0, set_cs, okst_0, okst_s, acok_n, acok_c, List.contains_nil, List.contains_cons, Bool.or_false, Bool.false_or, Bool.false_eq_true, if_false, if_true, ite_self, ne_eq, true_and, and_true, not_false_eq_true, not_true_eq_false, false_imp_iff, true_imp_iff, Nat.ble_eq, Bool.and_eq_true, reduceCtorEq, or_false, false_or, or_true, true_or, false_and, and_false, and_self, Int.reduceLE, Int.reduceAdd, Int.reduceSub, Int.reduceMul, Int.reduceNeg, Int.reduceLT, Int.reduceEq, Int.reduceNe, Nat.reduceBEq, Nat.reduceBNe, Nat.reduceEqDiff, amCmp_in, amCmp_lt, amCmp_le, amCmp_gt, amCmp_ge, amCmp_eq, amCmp_ne, Nat.reduceLeDiff, Nat.reduceSub, Bool.and_true, Bool.true_and, Bool.and_self, Bool.or_true, Bool.true_or, isRf_3, isRf_4, isRf_5, isRf_8, isRf_9, isRf_10, isRf_11, isRf_15, isRf_16, isRf_17, isRf_18, isRf_19, isRf_20, isRf_21, isRf_22, isRf_23, isRf_24, isRf_25, isRf_26, isRf_27, isRf_28, k_X12_isAmong_0, k_X12_isAmong_1, k_X12_isAmong_2, k_X12_isAmong_3, k_X12_isAmong_4, k_X12_isAmong_7, k_X12_isAmong_10, k_X12_isAmong_11, k_X12_isAmong_12, k_X12_isAmong_15, k_X12_isAmong_16, k_X12_isAmong_19, k_X12_isAmong_20, k_X12_isAmong_21, k_X12_isAmong_24, k_X12_isAmong_27, k_X12_isAmong_28]
    exact ⟨(stl (z + 100)).toNat, rfl, rfl, rfl, 0, rfl, by omega, rfl⟩
def a_X12_spotOf : AC := [(0, vI 0 1), (1, vIstore 2 2), (2, vIload 2 3), (3, vAload 0 4), (4, vCallT w_J0_length_8abf5 0 7), (7, vIcGe 27 10), (10, vAload 0 11), (11, vIload 2 12), (12, vCallT w_J0_charAt_5068e 1 15), (15, vIload 1 16), (16, vIcNe 21 19), (19, vIload 2 20), (20, vIret), (21, vIinc 2 1 24), (24, vGoto 2), (27, vI (-1) 28), (28, vIret)]
theorem k_X12_spotOf_0 : look a_X12_spotOf 0 = vI 0 1 := rfl
theorem k_X12_spotOf_1 : look a_X12_spotOf 1 = vIstore 2 2 := rfl
theorem k_X12_spotOf_2 : look a_X12_spotOf 2 = vIload 2 3 := rfl
theorem k_X12_spotOf_3 : look a_X12_spotOf 3 = vAload 0 4 := rfl
theorem k_X12_spotOf_4 : look a_X12_spotOf 4 = vCallT w_J0_length_8abf5 0 7 := rfl
theorem k_X12_spotOf_7 : look a_X12_spotOf 7 = vIcGe 27 10 := rfl
theorem k_X12_spotOf_10 : look a_X12_spotOf 10 = vAload 0 11 := rfl
theorem k_X12_spotOf_11 : look a_X12_spotOf 11 = vIload 2 12 := rfl
theorem k_X12_spotOf_12 : look a_X12_spotOf 12 = vCallT w_J0_charAt_5068e 1 15 := rfl
theorem k_X12_spotOf_15 : look a_X12_spotOf 15 = vIload 1 16 := rfl
theorem k_X12_spotOf_16 : look a_X12_spotOf 16 = vIcNe 21 19 := rfl
theorem k_X12_spotOf_19 : look a_X12_spotOf 19 = vIload 2 20 := rfl
theorem k_X12_spotOf_20 : look a_X12_spotOf 20 = vIret := rfl
theorem k_X12_spotOf_21 : look a_X12_spotOf 21 = vIinc 2 1 24 := rfl
theorem k_X12_spotOf_24 : look a_X12_spotOf 24 = vGoto 2 := rfl
theorem k_X12_spotOf_27 : look a_X12_spotOf 27 = vI (-1) 28 := rfl
theorem k_X12_spotOf_28 : look a_X12_spotOf 28 = vIret := rfl
theorem o_X12_spotOf {X : amX} (e1 : XT X = TT) (e2 : XD X = 4) (hB : amB X RX12 cX12_spotOf (some .int) 3) : ∀ pc, amOK X pc (look a_X12_spotOf pc) := by
  have hT : amTok (XT X) := e1 ▸ TT_ok
  refine look_ok ?_
  unfold a_X12_spotOf
  refine fc (ok_iconst hB dX12_spotOf_0) ?_
  refine fc (ok_istore_n hB (by decide) dX12_spotOf_1) ?_
  refine fc (ok_iload_n hB dX12_spotOf_2) ?_
  refine fc (ok_aload_n hB dX12_spotOf_3) ?_
  refine fc (ok_callT hB (e1 ▸ s_J0_length_8abf5) lk_X12_114 (by rw [e2]; decide) rfl wd_435 wd_436 dX12_spotOf_4) ?_
  refine fc (ok_icmp_ge hB (t := 27) (by decide) dX12_spotOf_7) ?_
  refine fc (ok_aload_n hB dX12_spotOf_10) ?_
  refine fc (ok_iload_n hB dX12_spotOf_11) ?_
  refine fc (ok_callT hB (e1 ▸ s_J0_charAt_5068e) lk_X12_120 (by rw [e2]; decide) rfl wd_518 wd_519 dX12_spotOf_12) ?_
  refine fc (ok_iload_n hB dX12_spotOf_15) ?_
  refine fc (ok_icmp_ne hB (t := 21) (by decide) dX12_spotOf_16) ?_
  refine fc (ok_iload_n hB dX12_spotOf_19) ?_
  refine fc (ok_iret hB dX12_spotOf_20) ?_
  refine fc (ok_iinc hB (by decide) dX12_spotOf_21) ?_
  refine fc (ok_goto hB (t := 2) (by decide) dX12_spotOf_24) ?_
  refine fc (ok_iconst hB dX12_spotOf_27) ?_
  refine fc (ok_iret hB dX12_spotOf_28) ?_
  exact fn
def inv_spo (σ : Mem) (z c : Int) (n pc : Nat) (ls st : List AV) (σ' : Mem) : Prop := pc = 2 ∧ st = [] ∧ σ' = σ ∧ ∃ k : Nat, ls = [(4, z), (0, c), (0, (k : Int))] ∧ (k : Int) + n = stl (z + 100) ∧ fidx (stv (z + 100)) c k n = fidx (stv (z + 100)) c 0 (stl (z + 100)).toNat
def w_X12_spotOf : WP := fun av σ Q => ∃ (z : Int) (c : Int), av = [(4, z), (0, c)] ∧ (20000 ≤ z ∧ z < 20011 ∧ stl (z + 100) ≤ 100 ∧ InR c ∧ Q (0, fidx (stv (z + 100)) c 0 (stl (z + 100)).toNat) σ)
theorem w_X12_spotOf_e (z : Int) (c : Int) (σ : Mem) (Q : AV → Mem → Prop) : w_X12_spotOf [(4, z), (0, c)] σ Q = (20000 ≤ z ∧ z < 20011 ∧ stl (z + 100) ≤ 100 ∧ InR c ∧ Q (0, fidx (stv (z + 100)) c 0 (stl (z + 100)).toNat) σ) := by
  apply propext; constructor
  · rintro ⟨z', c', h9, hb9⟩; cases h9; exact hb9
  · intro hb9; exact ⟨z, c, rfl, hb9⟩

set_option maxRecDepth 100000 in
set_option maxHeartbeats 4000000 in
theorem s_X12_spotOf : ∀ av σ Q, w_X12_spotOf av σ Q → amCall 4 0 0 TT yX12_spotOf cX12_spotOf 3 (some .int) av σ Q := by
  rintro av σ Q ⟨z, c, rfl, z0, z1, zl, hc, h⟩
  have ln := stl_nn (z + 100)
  refine am_m [2] (inv_spo σ z c) (own := RX12) (A := look a_X12_spotOf) (fun X e1 e2 hB => o_X12_spotOf e1 e2 hB) rfl (by decide +kernel) rfl rfl ?_ ⟨60, ?_⟩ (w := 3)
  · rintro n pc ls st σ' ⟨rfl, rfl, rfl, k, rfl, hk, hF⟩
    refine ⟨60, ?_⟩
    rw [← hF] at h
    simp only [↓reduceIte, inR_0, inR_1, inR_m, vSw2_e, swP_n, swP_c, vI_e, vL_e, vNull_e, vIload_e, vLload_e, vAload_e, vIstore_e, vLstore_e, vAstore_e, vIinc_e, vIadd_e, vIsub_e, vImul_e, vIand_e, vIor_e, vIxor_e, vIshl_e, vIshr_e, vIushr_e, vIdiv_e, vIrem_e, vLadd_e, vLsub_e, vLmul_e, vLand_e, vLor_e, vLxor_e, vLdiv_e, vLrem_e, vLushr_e, vLshl_e, vLcmp_e, vIneg_e, vI2l_e, vL2i_e, vI2b_e, vI2c_e, vDup_e, vPop_e, vDup2_e, vGoto_e, vIcEq_e, vIfEq_e, vIcNe_e, vIfNe_e, vIcLt_e, vIfLt_e, vIcGe_e, vIfGe_e, vIcGt_e, vIfGt_e, vIcLe_e, vIfLe_e, vNonnull_e, vSw_e, vGetI_e, vGetL_e, vGetR_e, vPutI_e, vPutZ_e, vPutL_e, vPutR_e, vIald_e, vIald_s, vLald_e, vBald_e, vBald_s, vAald_e, vIast_e, vLast_e, vBast_e, vAast_e, vAlen_e8, vAlen_e9, vAlen_e10, vAlen_e11, vAlen_e5, vAlen_e3, vGets_e, vCompact_e, vLdcS_e, vIret_e, vZret_e, vCret_e, vBret_e, vLret_e, vVret_e, vAret_e, vCallM_e0, vCallMV_e0, vCallS_e0, vCallSV_e0, vCallM_e1, vCallMV_e1, vCallS_e1, vCallSV_e1, vCallM_e2, vCallMV_e2, vCallS_e2, vCallSV_e2, vCallM_e3, vCallMV_e3, vCallS_e3, vCallSV_e3, vCallM_e4, vCallMV_e4, vCallS_e4, vCallSV_e4, vCallM_e5, vCallMV_e5, vCallS_e5, vCallSV_e5, vCallM_e6, vCallMV_e6, vCallS_e6, vCallSV_e6, vCallM_e7, vCallMV_e7, vCallS_e7, vCallSV_e7, vBad_e, vStrVal_e, vStrCod_e, vForm_e, vCallT_e0, vCallT_e1, vCallT_e2, vCopy_e, rf_0_0, rf_0_1, rf_0_2, rf_0_3, rf_0_4, rf_0_7, rf_0_10, rf_0_11, rf_0_12, rf_0_13, rf_0_14, rf_0_15, rf_0_16, rf_1_0, rf_3_0, rf_3_1, rf_6_0, rf_6_1, rf_9_0, rf_9_1, rf_9_3, rf_13_0, rf_13_1, rf_13_2, rf_16_0, rf_16_1, rf_16_2, rf_16_3, rf_21_0, rf_21_1, rf_21_2, rf_21_3, rf_26_0, rf_26_1, rf_26_2, rf_26_3, rf_26_4, rf_26_5, rf_26_6, rf_31_0, rf_31_2, rf_31_5, rf_31_6, rf_36_0, rf_36_1, rf_36_2, rf_36_3, rf_39_0, rf_39_1, rf_39_2, rf_41_0, rf_41_1, rf_41_2, rf_41_3, rf_5000_1, rf_5000_2, rf_5000_3, rf_5000_4, rf_5000_5, rf_5000_15, rf_5000_16, rf_5000_18, rf_5000_19, rf_5000_20, rf_5000_21, rf_5000_22, rf_5000_23, rf_5000_24, rf_5000_25, rf_5000_26, rf_5000_27, rf_5000_36, rf_5000_37, rf_5000_40, rf_5000_41, rf_5000_42, rf_5000_43, rf_5000_44, rf_5000_45, rf_5000_47, rf_5000_52, rf_5000_54, rf_5000_55, rf_100_0, rf_100_1, rf_103_0, rf_103_1, rf_106_0, rf_106_1, rf_109_0, rf_109_1, al_2, al_4, al_5, al_7, al_8, al_10, al_11, al_12, al_14, al_15, al_17, al_18, al_19, al_20, al_22, al_23, al_24, al_25, al_27, al_28, al_29, al_30, al_32, al_33, al_34, al_35, al_37, al_38, al_40, al_42, al_5001, al_5002, al_5003, al_5004, al_5005, al_5006, al_5007, al_5008, al_5009, al_5010, al_5011, al_5012, al_5013, al_5014, al_5015, al_5016, al_5017, al_5018, al_5019, al_5020, al_5021, al_5022, al_5023, al_5024, al_5025, al_5026, al_9000, al_101, al_102, al_104, al_105, al_107, al_108, al_110, al_111, vcs_e, lg_c0, lg_cs, lg_nil, set_c0, set_cs, okst_0, okst_s, acok_n, acok_c, List.contains_nil, List.contains_cons, Bool.or_false, Bool.false_or, Bool.false_eq_true, if_false, if_true, ite_self, ne_eq, true_and, and_true, not_false_eq_true, not_true_eq_false, false_imp_iff, true_imp_iff, Nat.ble_eq, Bool.and_eq_true, reduceCtorEq, or_false, false_or, or_true, true_or, false_and, and_false, and_self, Int.reduceLE, Int.reduceAdd, Int.reduceSub, Int.reduceMul, Int.reduceNeg, Int.reduceLT, Int.reduceEq, Int.reduceNe, Nat.reduceBEq, Nat.reduceBNe, Nat.reduceEqDiff, amCmp_in, amCmp_lt, amCmp_le, amCmp_gt, amCmp_ge, amCmp_eq, amCmp_ne, Nat.reduceLeDiff, Nat.reduceSub, Bool.and_true, Bool.true_and, Bool.and_self, Bool.or_true, Bool.true_or, isRf_3, isRf_4, isRf_5, isRf_8, isRf_9, isRf_10, isRf_11, isRf_15, isRf_16, isRf_17, isRf_18, isRf_19, isRf_20, isRf_21, isRf_22, isRf_23, isRf_24, isRf_25, isRf_26, isRf_27, isRf_28, k_X12_spotOf_0, k_X12_spotOf_1, k_X12_spotOf_2, k_X12_spotOf_3, k_X12_spotOf_4, k_X12_spotOf_7, k_X12_spotOf_10, k_X12_spotOf_11, k_X12_spotOf_12, k_X12_spotOf_15, k_X12_spotOf_16, k_X12_spotOf_19, k_X12_spotOf_20, k_X12_spotOf_21, k_X12_spotOf_24, k_X12_spotOf_27, k_X12_spotOf_28, w_J0_charAt_5068e_e, w_J0_length_8abf5_e]
    cases n with
    | zero =>
      rw [fidx_z] at h
      repeat' (first | assumption | apply And.intro | intro _)
      all_goals first | exact h | omega
    | succ n =>
      rw [fidx_s] at hF h
      have sb := stv_bd (z := z + 100) (i := k) (by omega) (by omega) (by omega) (by omega)
      by_cases d : stv (z + 100) k = c
      · rw [if_pos d] at h
        repeat' (first | assumption | apply And.intro | intro _)
        all_goals first | exact h | omega
      · rw [if_neg d] at hF h
        have i9 : ∃ k', k' < n + 1 ∧ inv_spo σ' z c k' 2 [(4, z), (0, c), (0, (k : Int) + 1)] [] σ' := ⟨n, by omega, rfl, rfl, rfl, k + 1, rfl, by omega, hF⟩
        repeat' (first | assumption | apply And.intro | intro _)
        all_goals first | exact i9 | omega
  · change vcs _ _ _ _ 60 0 [(4, z), (0, c), (6, 0)] [] σ
    simp only [↓reduceIte, inR_0, inR_1, inR_m, vI_e, vL_e, vNull_e, vIload_e, vLload_e, vAload_e, vIstore_e, vLstore_e, vAstore_e, vIinc_e, vIadd_e, vIsub_e, vImul_e, vIand_e, vIor_e, vIxor_e, vIshl_e, vIshr_e, vIushr_e, vIdiv_e, vIrem_e, vLadd_e, vLsub_e, vLmul_e, vLand_e, vLor_e, vLxor_e, vLdiv_e, vLrem_e, vLushr_e, vLshl_e, vLcmp_e, vIneg_e, vI2l_e, vL2i_e, vI2b_e, vI2c_e, vDup_e, vPop_e, vDup2_e, vGoto_e, vIcEq_e, vIfEq_e, vIcNe_e, vIfNe_e, vIcLt_e, vIfLt_e, vIcGe_e, vIfGe_e, vIcGt_e, vIfGt_e, vIcLe_e, vIfLe_e, vNonnull_e, vSw_e, vGetI_e, vGetL_e, vGetR_e, vPutI_e, vPutZ_e, vPutL_e, vPutR_e, vIald_e, vIald_s, vLald_e, vBald_e, vBald_s, vAald_e, vIast_e, vLast_e, vBast_e, vAast_e, vAlen_e8, vAlen_e9, vAlen_e10, vAlen_e11, vAlen_e5, vAlen_e3, vGets_e, vCompact_e, vLdcS_e, vIret_e, vZret_e, vCret_e, vBret_e, vLret_e, vVret_e, vAret_e, vCallM_e0, vCallMV_e0, vCallS_e0, vCallSV_e0, vCallM_e1, vCallMV_e1, vCallS_e1, vCallSV_e1, vCallM_e2, vCallMV_e2, vCallS_e2, vCallSV_e2, vCallM_e3, vCallMV_e3, vCallS_e3, vCallSV_e3, vCallM_e4, vCallMV_e4, vCallS_e4, vCallSV_e4, vCallM_e5, vCallMV_e5, vCallS_e5, vCallSV_e5, vCallM_e6, vCallMV_e6, vCallS_e6, vCallSV_e6, vCallM_e7, vCallMV_e7, vCallS_e7, vCallSV_e7, vBad_e, vStrVal_e, vStrCod_e, vForm_e, vCallT_e0, vCallT_e1, vCallT_e2, vCopy_e, rf_0_0, rf_0_1, rf_0_2, rf_0_3, rf_0_4, rf_0_7, rf_0_10, rf_0_11, rf_0_12, rf_0_13, rf_0_14, rf_0_15, rf_0_16, rf_1_0, rf_3_0, rf_3_1, rf_6_0, rf_6_1, rf_9_0, rf_9_1, rf_9_3, rf_13_0, rf_13_1, rf_13_2, rf_16_0, rf_16_1, rf_16_2, rf_16_3, rf_21_0, rf_21_1, rf_21_2, rf_21_3, rf_26_0, rf_26_1, rf_26_2, rf_26_3, rf_26_4, rf_26_5, rf_26_6, rf_31_0, rf_31_2, rf_31_5, rf_31_6, rf_36_0, rf_36_1, rf_36_2, rf_36_3, rf_39_0, rf_39_1, rf_39_2, rf_41_0, rf_41_1, rf_41_2, rf_41_3, rf_5000_1, rf_5000_2, rf_5000_3, rf_5000_4, rf_5000_5, rf_5000_15, rf_5000_16, rf_5000_18, rf_5000_19, rf_5000_20, rf_5000_21, rf_5000_22, rf_5000_23, rf_5000_24, rf_5000_25, rf_5000_26, rf_5000_27, rf_5000_36, rf_5000_37, rf_5000_40, rf_5000_41, rf_5000_42, rf_5000_43, rf_5000_44, rf_5000_45, rf_5000_47, rf_5000_52, rf_5000_54, rf_5000_55, rf_100_0, rf_100_1, rf_103_0, rf_103_1, rf_106_0, rf_106_1, rf_109_0, rf_109_1, al_2, al_4, al_5, al_7, al_8, al_10, al_11, al_12, al_14, al_15, al_17, al_18, al_19, al_20, al_22, al_23, al_24, al_25, al_27, al_28, al_29, al_30, al_32, al_33, al_34, al_35, al_37, al_38, al_40, al_42, al_5001, al_5002, al_5003, al_5004, al_5005, al_5006, al_5007, al_5008, al_5009, al_5010, al_5011, al_5012, al_5013, al_5014, al_5015, al_5016, al_5017, al_5018, al_5019, al_5020, al_5021, al_5022, al_5023, al_5024, al_5025, al_5026, al_9000, al_101, al_102, al_104, al_105, al_107, al_108, al_110, al_111, vcs_e, lg_c0, lg_cs, lg_nil, set_c0, set_cs, okst_0, okst_s, acok_n, acok_c, List.contains_nil, List.contains_cons, Bool.or_false, Bool.false_or, Bool.false_eq_true, if_false, if_true, ite_self, ne_eq, true_and, and_true, not_false_eq_true, not_true_eq_false, false_imp_iff, true_imp_iff, Nat.ble_eq, Bool.and_eq_true, reduceCtorEq, or_false, false_or, or_true, true_or, false_and, and_false, and_self, Int.reduceLE, Int.reduceAdd, Int.reduceSub, Int.reduceMul, Int.reduceNeg, Int.reduceLT, Int.reduceEq, Int.reduceNe, Nat.reduceBEq, Nat.reduceBNe, Nat.reduceEqDiff, amCmp_in, amCmp_lt, amCmp_le, amCmp_gt, amCmp_ge, amCmp_eq, amCmp_ne, Nat.reduceLeDiff, Nat.reduceSub, Bool.and_true, Bool.true_and, Bool.and_self, Bool.or_true, Bool.true_or, isRf_3, isRf_4, isRf_5, isRf_8, isRf_9, isRf_10, isRf_11, isRf_15, isRf_16, isRf_17, isRf_18, isRf_19, isRf_20, isRf_21, isRf_22, isRf_23, isRf_24, isRf_25, isRf_26, isRf_27, isRf_28, k_X12_spotOf_0, k_X12_spotOf_1, k_X12_spotOf_2, k_X12_spotOf_3, k_X12_spotOf_4, k_X12_spotOf_7, k_X12_spotOf_10, k_X12_spotOf_11, k_X12_spotOf_12, k_X12_spotOf_15, k_X12_spotOf_16, k_X12_spotOf_19, k_X12_spotOf_20, k_X12_spotOf_21, k_X12_spotOf_24, k_X12_spotOf_27, k_X12_spotOf_28]
    exact ⟨(stl (z + 100)).toNat, rfl, rfl, rfl, 0, rfl, by omega, rfl⟩
def stsM (σ : Mem) (a b n : Int) : Mem := up (up (up (up (up σ 5000 5 a) 5000 8 b) 5000 9 n) 5000 10 0) 5000 11 (-1)
theorem fp_X12_23 : amFp RX12 12 5 23 RX12 TX12 57 tyX12 (.array .byte) := ⟨fl_X12_23, tyX12_ok, nmX12, by decide +kernel⟩
theorem fp_X12_140 : amFp RX12 12 8 140 RX12 TX12 57 tyX12 .int := ⟨fl_X12_140, tyX12_ok, nmX12, by decide +kernel⟩
theorem fp_X12_137 : amFp RX12 12 9 137 RX12 TX12 57 tyX12 .int := ⟨fl_X12_137, tyX12_ok, nmX12, by decide +kernel⟩
def a_X12_starts : AC := [(0, vAload 0 1), (1, vAload 1 2), (2, vPutR TT 28 5 10 5 5), (5, vAload 0 6), (6, vIload 2 7), (7, vPutI 28 8 10), (10, vAload 0 11), (11, vIload 3 12), (12, vPutI 28 9 15), (15, vAload 0 16), (16, vI 0 17), (17, vPutI 28 10 20), (20, vAload 0 21), (21, vI (-1) 22), (22, vPutI 28 11 25), (25, vVret)]
theorem k_X12_starts_0 : look a_X12_starts 0 = vAload 0 1 := rfl
theorem k_X12_starts_1 : look a_X12_starts 1 = vAload 1 2 := rfl
theorem k_X12_starts_2 : look a_X12_starts 2 = vPutR TT 28 5 10 5 5 := rfl
theorem k_X12_starts_5 : look a_X12_starts 5 = vAload 0 6 := rfl
theorem k_X12_starts_6 : look a_X12_starts 6 = vIload 2 7 := rfl
theorem k_X12_starts_7 : look a_X12_starts 7 = vPutI 28 8 10 := rfl
theorem k_X12_starts_10 : look a_X12_starts 10 = vAload 0 11 := rfl
theorem k_X12_starts_11 : look a_X12_starts 11 = vIload 3 12 := rfl
theorem k_X12_starts_12 : look a_X12_starts 12 = vPutI 28 9 15 := rfl
theorem k_X12_starts_15 : look a_X12_starts 15 = vAload 0 16 := rfl
theorem k_X12_starts_16 : look a_X12_starts 16 = vI 0 17 := rfl
theorem k_X12_starts_17 : look a_X12_starts 17 = vPutI 28 10 20 := rfl
theorem k_X12_starts_20 : look a_X12_starts 20 = vAload 0 21 := rfl
theorem k_X12_starts_21 : look a_X12_starts 21 = vI (-1) 22 := rfl
theorem k_X12_starts_22 : look a_X12_starts 22 = vPutI 28 11 25 := rfl
theorem k_X12_starts_25 : look a_X12_starts 25 = vVret := rfl
theorem o_X12_starts {X : amX} (e1 : XT X = TT) (e2 : XD X = 0) (hB : amB X RX12 cX12_starts (none) 4) : ∀ pc, amOK X pc (look a_X12_starts pc) := by
  have hT : amTok (XT X) := e1 ▸ TT_ok
  refine look_ok ?_
  unfold a_X12_starts
  refine fc (ok_aload_n hB dX12_starts_0) ?_
  refine fc (ok_aload_n hB dX12_starts_1) ?_
  refine fc (okt_putR e1 hB hT fp_X12_23 (rt_arr _) rfl rfl rfl af_12_5 at_12_5 (by decide) (by decide) dX12_starts_2) ?_
  refine fc (ok_aload_n hB dX12_starts_5) ?_
  refine fc (ok_iload_n hB dX12_starts_6) ?_
  refine fc (ok_putI hB hT fp_X12_140 rfl rfl rfl af_12_8 dX12_starts_7) ?_
  refine fc (ok_aload_n hB dX12_starts_10) ?_
  refine fc (ok_iload_n hB dX12_starts_11) ?_
  refine fc (ok_putI hB hT fp_X12_137 rfl rfl rfl af_12_9 dX12_starts_12) ?_
  refine fc (ok_aload_n hB dX12_starts_15) ?_
  refine fc (ok_iconst hB dX12_starts_16) ?_
  refine fc (ok_putI hB hT fp_X12_134 rfl rfl rfl af_12_10 dX12_starts_17) ?_
  refine fc (ok_aload_n hB dX12_starts_20) ?_
  refine fc (ok_iconst hB dX12_starts_21) ?_
  refine fc (ok_putI hB hT fp_X12_143 rfl rfl rfl af_12_11 dX12_starts_22) ?_
  refine fc (ok_vret hB dX12_starts_25) ?_
  exact fn

def w_X12_starts : WP := fun av σ Q => ∃ (a : Int) (b : Int) (n : Int), av = [(28, 5000), (10, a), (0, b), (0, n)] ∧ ((a = 5001 ∨ a = 5002) ∧ Q (6, 0) (stsM σ a b n))
theorem w_X12_starts_e (a : Int) (b : Int) (n : Int) (σ : Mem) (Q : AV → Mem → Prop) : w_X12_starts [(28, 5000), (10, a), (0, b), (0, n)] σ Q = ((a = 5001 ∨ a = 5002) ∧ Q (6, 0) (stsM σ a b n)) := by
  apply propext; constructor
  · rintro ⟨a', b', n', h9, hb9⟩; cases h9; exact hb9
  · intro hb9; exact ⟨a, b, n, rfl, hb9⟩

set_option maxRecDepth 100000 in
set_option maxHeartbeats 4000000 in
theorem s_X12_starts : ∀ av σ Q, w_X12_starts av σ Q → amCall 0 0 0 TT yX12_starts cX12_starts 4 (none) av σ Q := by
  rintro av σ Q ⟨a, b, n, rfl, ha, h⟩
  have a0 : 0 ≤ a := by omega
  unfold stsM at h
  refine am_m0 (own := RX12) (A := look a_X12_starts) (fun X e1 e2 hB => o_X12_starts e1 e2 hB) rfl (by decide +kernel) rfl rfl 60 (w := 4) ?_
  change vcs _ _ _ _ 60 0 [(28, 5000), (10, a), (0, b), (0, n)] [] σ
  simp only [↓reduceIte, inR_0, inR_1, inR_m, vSw2_e, swP_n, swP_c, vI_e, vL_e, vNull_e, vIload_e, vLload_e, vAload_e, vIstore_e, vLstore_e, vAstore_e, vIinc_e, vIadd_e, vIsub_e, vImul_e, vIand_e, vIor_e, vIxor_e, vIshl_e, vIshr_e, vIushr_e, vIdiv_e, vIrem_e, vLadd_e, vLsub_e, vLmul_e, vLand_e, vLor_e, vLxor_e, vLdiv_e, vLrem_e, vLushr_e, vLshl_e, vLcmp_e, vIneg_e, vI2l_e, vL2i_e, vI2b_e, vI2c_e, vDup_e, vPop_e, vDup2_e, vGoto_e, vIcEq_e, vIfEq_e, vIcNe_e, vIfNe_e, vIcLt_e, vIfLt_e, vIcGe_e, vIfGe_e, vIcGt_e, vIfGt_e, vIcLe_e, vIfLe_e, vNonnull_e, vSw_e, vGetI_e, vGetL_e, vGetR_e, vPutI_e, vPutZ_e, vPutL_e, vPutR_e, vIald_e, vIald_s, vLald_e, vBald_e, vBald_s, vAald_e, vIast_e, vLast_e, vBast_e, vAast_e, vAlen_e8, vAlen_e9, vAlen_e10, vAlen_e11, vAlen_e5, vAlen_e3, vGets_e, vCompact_e, vLdcS_e, vIret_e, vZret_e, vCret_e, vBret_e, vLret_e, vVret_e, vAret_e, vCallM_e0, vCallMV_e0, vCallS_e0, vCallSV_e0, vCallM_e1, vCallMV_e1, vCallS_e1, vCallSV_e1, vCallM_e2, vCallMV_e2, vCallS_e2, vCallSV_e2, vCallM_e3, vCallMV_e3, vCallS_e3, vCallSV_e3, vCallM_e4, vCallMV_e4, vCallS_e4, vCallSV_e4, vCallM_e5, vCallMV_e5, vCallS_e5, vCallSV_e5, vCallM_e6, vCallMV_e6, vCallS_e6, vCallSV_e6, vCallM_e7, vCallMV_e7, vCallS_e7, vCallSV_e7, vBad_e, vStrVal_e, vStrCod_e, vForm_e, vCallT_e0, vCallT_e1, vCallT_e2, vCopy_e, rf_0_0, rf_0_1, rf_0_2, rf_0_3, rf_0_4, rf_0_7, rf_0_10, rf_0_11, rf_0_12, rf_0_13, rf_0_14, rf_0_15, rf_0_16, rf_1_0, rf_3_0, rf_3_1, rf_6_0, rf_6_1, rf_9_0, rf_9_1, rf_9_3, rf_13_0, rf_13_1, rf_13_2, rf_16_0, rf_16_1, rf_16_2, rf_16_3, rf_21_0, rf_21_1, rf_21_2, rf_21_3, rf_26_0, rf_26_1, rf_26_2, rf_26_3, rf_26_4, rf_26_5, rf_26_6, rf_31_0, rf_31_2, rf_31_5, rf_31_6, rf_36_0, rf_36_1, rf_36_2, rf_36_3, rf_39_0, rf_39_1, rf_39_2, rf_41_0, rf_41_1, rf_41_2, rf_41_3, rf_5000_1, rf_5000_2, rf_5000_3, rf_5000_4, rf_5000_5, rf_5000_15, rf_5000_16, rf_5000_18, rf_5000_19, rf_5000_20, rf_5000_21, rf_5000_22, rf_5000_23, rf_5000_24, rf_5000_25, rf_5000_26, rf_5000_27, rf_5000_36, rf_5000_37, rf_5000_40, rf_5000_41, rf_5000_42, rf_5000_43, rf_5000_44, rf_5000_45, rf_5000_47, rf_5000_52, rf_5000_54, rf_5000_55, rf_100_0, rf_100_1, rf_103_0, rf_103_1, rf_106_0, rf_106_1, rf_109_0, rf_109_1, al_2, al_4, al_5, al_7, al_8, al_10, al_11, al_12, al_14, al_15, al_17, al_18, al_19, al_20, al_22, al_23, al_24, al_25, al_27, al_28, al_29, al_30, al_32, al_33, al_34, al_35, al_37, al_38, al_40, al_42, al_5001, al_5002, al_5003, al_5004, al_5005, al_5006, al_5007, al_5008, al_5009, al_5010, al_5011, al_5012, al_5013, al_5014, al_5015, al_5016, al_5017, al_5018, al_5019, al_5020, al_5021, al_5022, al_5023, al_5024, al_5025, al_5026, al_9000, al_101, al_102, al_104, al_105, al_107, al_108, al_110, al_111, vcs_e, lg_c0, lg_cs, lg_nil, set_c0, set_cs, okst_0, okst_s, acok_n, acok_c, List.contains_nil, List.contains_cons, Bool.or_false, Bool.false_or, Bool.false_eq_true, if_false, if_true, ite_self, ne_eq, true_and, and_true, not_false_eq_true, not_true_eq_false, false_imp_iff, true_imp_iff, Nat.ble_eq, Bool.and_eq_true, reduceCtorEq, or_false, false_or, or_true, true_or, false_and, and_false, and_self, Int.reduceLE, Int.reduceAdd, Int.reduceSub, Int.reduceMul, Int.reduceNeg, Int.reduceLT, Int.reduceEq, Int.reduceNe, Nat.reduceBEq, Nat.reduceBNe, Nat.reduceEqDiff, amCmp_in, amCmp_lt, amCmp_le, amCmp_gt, amCmp_ge, amCmp_eq, amCmp_ne, Nat.reduceLeDiff, Nat.reduceSub, Bool.and_true, Bool.true_and, Bool.and_self, Bool.or_true, Bool.true_or, isRf_3, isRf_4, isRf_5, isRf_8, isRf_9, isRf_10, isRf_11, isRf_15, isRf_16, isRf_17, isRf_18, isRf_19, isRf_20, isRf_21, isRf_22, isRf_23, isRf_24, isRf_25, isRf_26, isRf_27, isRf_28, k_X12_starts_0, k_X12_starts_1, k_X12_starts_2, k_X12_starts_5, k_X12_starts_6, k_X12_starts_7, k_X12_starts_10, k_X12_starts_11, k_X12_starts_12, k_X12_starts_15, k_X12_starts_16, k_X12_starts_17, k_X12_starts_20, k_X12_starts_21, k_X12_starts_22, k_X12_starts_25, a0]
  repeat' (first | assumption | apply And.intro | intro _)
  all_goals first | omega | exact absurd trivial (by assumption) | exact rfl | exact h
theorem amg_4 (c : Int) : amg 20004 c = if c = 121 then 1 else 0 := by
  unfold amg
  have el : (stl (20004 + 100)).toNat = 1 := by decide
  have e0 : stv (20004 + 100) 0 = 121 := by decide
  rw [el]
  simp only [fidx, e0]
  by_cases d : c = 121
  · rw [if_pos d, if_pos d.symm, if_pos (by decide)]
  · rw [if_neg d, if_neg (show ¬ (121 : Int) = c by omega), if_neg (by decide)]
theorem amg_5 (c : Int) : amg 20005 c = if 0 ≤ lix c then 1 else 0 := by
  unfold amg
  have el : (stl (20005 + 100)).toNat = 6 := by decide
  have e0 : stv 20105 0 = 102 := by decide
  have e1 : stv 20105 1 = 104 := by decide
  have e2 : stv 20105 2 = 100 := by decide
  have e3 : stv 20105 3 = 110 := by decide
  have e4 : stv 20105 4 = 107 := by decide
  have e5 : stv 20105 5 = 101 := by decide
  rw [el]
  simp only [fidx, Int.zero_add, Int.reduceAdd, e0, e1, e2, e3, e4, e5]
  unfold lix
  by_cases c0 : c = 102
  · subst c0; decide
  · by_cases c1 : c = 104
    · subst c1; decide
    · by_cases c2 : c = 100
      · subst c2; decide
      · by_cases c3 : c = 110
        · subst c3; decide
        · by_cases c4 : c = 107
          · subst c4; decide
          · by_cases c5 : c = 101
            · subst c5; decide
            · simp only [if_neg (show ¬ (102 : Int) = c by omega), if_neg (show ¬ (104 : Int) = c by omega), if_neg (show ¬ (100 : Int) = c by omega), if_neg (show ¬ (110 : Int) = c by omega), if_neg (show ¬ (107 : Int) = c by omega), if_neg (show ¬ (101 : Int) = c by omega), if_neg c0, if_neg c1, if_neg c2, if_neg c3, if_neg c4, if_neg c5]
