/-! Clues: cell 41 (4 facts), rows 42 -/
theorem LF_SF {σ τ : Mem} (h : LF σ τ) : SF σ τ := SF_LF (SF_rf σ) h
theorem LF_rf (σ : Mem) : LF σ σ := fun _ _ _ _ _ _ => rfl
theorem LF_tr {σ τ υ : Mem} (h : LF σ τ) (h' : LF τ υ) : LF σ υ := fun b h1 h2 h3 h4 h5 => by rw [h' b h1 h2 h3 h4 h5]; exact h b h1 h2 h3 h4 h5
theorem clrB0 : ∀ x : Nat, x < 64 → ∀ j : Nat, j < 6 → popc (amIand (x : Int) (amIxor (amIshl 1 (j : Int)) (-1))) = popc (x : Int) - bt (x : Int) (j : Int) ∧ 0 ≤ amIand (x : Int) (amIxor (amIshl 1 (j : Int)) (-1)) ∧ amIand (x : Int) (amIxor (amIshl 1 (j : Int)) (-1)) < 64 := by decide +kernel
theorem clrB {x c : Int} (h0 : 0 ≤ x) (h1 : x < 64) (c0 : 0 ≤ c) (c1 : c < 6) : bcx (amIand x (amIxor (amIshl 1 c) (-1))) = popc x - bt x c ∧ popc x - bt x c ≤ 5 := by
  have := clrB0 x.toNat (by omega) c.toNat (by omega)
  rw [show ((x.toNat : Nat) : Int) = x by omega, show ((c.toNat : Nat) : Int) = c by omega] at this
  refine ⟨by rw [bcx_popc this.2.1 this.2.2]; exact this.1, ?_⟩
  have hb := popc_b x
  have hbb := bt_b x c
  by_cases e : bt x c = 0
  · have h5 : popc x ≤ 5 := by
      have hc : c = 0 ∨ c = 1 ∨ c = 2 ∨ c = 3 ∨ c = 4 ∨ c = 5 := by omega
      unfold bt at e
      unfold popc
      rcases hc with rfl | rfl | rfl | rfl | rfl | rfl <;> simp at e <;> omega
    omega
  · omega
/-- how many share SITTER t, if CHAIR c has its TICKET -/
def cnO (σ : Mem) (c t : Int) : Int := popc (hbits (σ 18) t (pcnt σ 6 2).toNat) - bt (hbits (σ 18) t (pcnt σ 6 2).toNat) c + 1
theorem popc_bt {x i : Int} (h0 : 0 ≤ x) (h1 : x < 64) (i0 : 0 ≤ i) (i1 : i < 6) : bt x i ≤ popc x := by
  have hb := bt_b x i
  have hp := popc_b x
  by_cases c : bt x i = 1
  · have := popc_bit h0 h1 i0 i1 c; omega
  · omega
def whF (σ : Mem) (c t p k v : Int) : Int := if pval σ 6 1 p 3 ≤ k then (if v ≤ 0 then 1 else 0) else if v ≤ rkV σ (pval σ 6 1 p (k % 3)) (σ 17 c) (pval σ 6 3 t 0) (cnO σ c t) k 0 then 1 else 0
theorem whF_b (σ : Mem) (c t p k v : Int) : whF σ c t p k v = 0 ∨ whF σ c t p k v = 1 := by
  unfold whF
  repeat' split
  all_goals first | exact Or.inl rfl | exact Or.inr rfl
theorem whF_SF {σ τ : Mem} (h : SF σ τ) (hl : lawOk σ) (c t p k v : Int) : whF τ c t p k v = whF σ c t p k v := by
  unfold whF cnO
  rw [SF_pval h, SF_pval h, SF_pval h, SF_rkV h hl, SF_pcnt h, SF_r h (b := 17) (by omega), SF_r h (b := 18) (by omega)]
theorem stOk_SF {σ τ : Mem} (h : SF σ τ) {a : Int} (hs : stOk σ a) : stOk τ a := by
  obtain ⟨ha, hB, hl, h1, h2, h3⟩ := hs
  obtain ⟨ra, ra1, -, -, -⟩ := SF_a h ha
  exact ⟨ha, SF_planB h hB, SF_lawOk h hl, by rw [ra1]; exact h1, by rw [ra]; exact h2, by rw [ra]; exact h3⟩

theorem wd_296 : Cond.fieldLink RX1 19 "ArmchairHouse$Clues" "plan" "LArmchairHouse$Plan;" ∈ TBL := tb_tab (List.mem_of_getElem? (i := 296) (by decide +kernel)) rfl
theorem fl_X1_19 : amFl RX1 1 0 19 RX1 TX1 5 := ⟨rfl, inT_1, by decide, wd_296⟩
theorem wd_1066 : Cond.methodLink RX1 31 yX6_minutes ∈ TBL := tb_tab (List.mem_of_getElem? (i := 1066) (by decide +kernel)) rfl
theorem lk_X1_31 : amLk RX1 31 yX6_minutes cX6_minutes 2 (some .int) 1 := ⟨wd_1066, wd_3, wd_801, by decide +kernel, by decide +kernel, by decide⟩
theorem wd_298 : Cond.fieldLink RX1 27 "ArmchairHouse$Clues" "now" "LArmchairHouse$Audience;" ∈ TBL := tb_tab (List.mem_of_getElem? (i := 298) (by decide +kernel)) rfl
theorem fl_X1_27 : amFl RX1 1 2 27 RX1 TX1 5 := ⟨rfl, inT_1, by decide, wd_298⟩
theorem wd_1057 : Cond.methodLink RX1 37 yX6_many ∈ TBL := tb_tab (List.mem_of_getElem? (i := 1057) (by decide +kernel)) rfl
theorem lk_X1_37 : amLk RX1 37 yX6_many cX6_many 2 (some .int) 1 := ⟨wd_1057, wd_3, wd_559, by decide +kernel, by decide +kernel, by decide⟩
theorem wd_1067 : Cond.methodLink RX1 40 yX0_holders ∈ TBL := tb_tab (List.mem_of_getElem? (i := 1067) (by decide +kernel)) rfl
theorem lk_X1_40 : amLk RX1 40 yX0_holders cX0_holders 5 (some .int) 2 := ⟨wd_1067, wd_6, wd_788, by decide +kernel, by decide +kernel, by decide⟩
theorem wd_297 : Cond.fieldLink RX1 23 "ArmchairHouse$Clues" "stage" "LArmchairHouse$Stage;" ∈ TBL := tb_tab (List.mem_of_getElem? (i := 297) (by decide +kernel)) rfl
theorem fl_X1_23 : amFl RX1 1 1 23 RX1 TX1 5 := ⟨rfl, inT_1, by decide, wd_297⟩
theorem wd_1068 : Cond.methodLink RX1 46 yJ6_bitCount_0f7a4 ∈ TBL := tb_tab (List.mem_of_getElem? (i := 1068) (by decide +kernel)) rfl
theorem lk_X1_46 : amLk RX1 46 yJ6_bitCount_0f7a4 cJ6_bitCount_0f7a4 1 (some .int) 1 := ⟨wd_1068, wd_26, wd_804, by decide +kernel, by decide +kernel, by decide⟩
theorem wd_1069 : Cond.methodLink RX1 51 yX9_reckon ∈ TBL := tb_tab (List.mem_of_getElem? (i := 1069) (by decide +kernel)) rfl
theorem lk_X1_51 : amLk RX1 51 yX9_reckon cX9_reckon 9 (some .int) 7 := ⟨wd_1069, wd_7, wd_816, by decide +kernel, by decide +kernel, by decide⟩
def a_X1_wouldHowl : AC := [(0, vIload 4 2), (2, vAload 0 3), (3, vGetR TT 17 0 22 6), (6, vIload 3 7), (7, vCallM w_X6_minutes 22 1 10), (10, vIcLt 24 13), (13, vIload 5 15), (15, vIfGt 22 18), (18, vI 1 19), (19, vGoto 23), (22, vI 0 23), (23, vZret), (24, vAload 0 25), (25, vGetR TT 17 2 16 28), (28, vIload 2 29), (29, vAload 0 30), (30, vGetR TT 17 0 22 33), (33, vI 2 34), (34, vCallM w_X6_many 22 1 37), (37, vCallM w_X0_holders 16 2 40), (40, vI 1 41), (41, vIload 1 42), (42, vIshl 43), (43, vI (-1) 44), (44, vIxor 45), (45, vIand 46), (46, vIstore 6 48), (48, vAload 0 49), (49, vGetR TT 17 1 25 52), (52, vAload 0 53), (53, vGetR TT 17 2 16 56), (56, vIload 1 57), (57, vIload 2 58), (58, vIload 3 59), (59, vIload 4 61), (61, vIload 6 63), (63, vCallS w_J6_bitCount_0f7a4 1 66), (66, vI 1 67), (67, vIadd 68), (68, vI 0 69), (69, vCallM w_X9_reckon 25 7 72), (72, vIload 5 74), (74, vIcLt 81 77), (77, vI 1 78), (78, vGoto 82), (81, vI 0 82), (82, vZret)]
theorem k_X1_wouldHowl_0 : look a_X1_wouldHowl 0 = vIload 4 2 := rfl
theorem k_X1_wouldHowl_2 : look a_X1_wouldHowl 2 = vAload 0 3 := rfl
theorem k_X1_wouldHowl_3 : look a_X1_wouldHowl 3 = vGetR TT 17 0 22 6 := rfl
theorem k_X1_wouldHowl_6 : look a_X1_wouldHowl 6 = vIload 3 7 := rfl
theorem k_X1_wouldHowl_7 : look a_X1_wouldHowl 7 = vCallM w_X6_minutes 22 1 10 := rfl
theorem k_X1_wouldHowl_10 : look a_X1_wouldHowl 10 = vIcLt 24 13 := rfl
theorem k_X1_wouldHowl_13 : look a_X1_wouldHowl 13 = vIload 5 15 := rfl
theorem k_X1_wouldHowl_15 : look a_X1_wouldHowl 15 = vIfGt 22 18 := rfl
theorem k_X1_wouldHowl_18 : look a_X1_wouldHowl 18 = vI 1 19 := rfl
theorem k_X1_wouldHowl_19 : look a_X1_wouldHowl 19 = vGoto 23 := rfl
theorem k_X1_wouldHowl_22 : look a_X1_wouldHowl 22 = vI 0 23 := rfl
theorem k_X1_wouldHowl_23 : look a_X1_wouldHowl 23 = vZret := rfl
theorem k_X1_wouldHowl_24 : look a_X1_wouldHowl 24 = vAload 0 25 := rfl
theorem k_X1_wouldHowl_25 : look a_X1_wouldHowl 25 = vGetR TT 17 2 16 28 := rfl
theorem k_X1_wouldHowl_28 : look a_X1_wouldHowl 28 = vIload 2 29 := rfl
theorem k_X1_wouldHowl_29 : look a_X1_wouldHowl 29 = vAload 0 30 := rfl
theorem k_X1_wouldHowl_30 : look a_X1_wouldHowl 30 = vGetR TT 17 0 22 33 := rfl
theorem k_X1_wouldHowl_33 : look a_X1_wouldHowl 33 = vI 2 34 := rfl
theorem k_X1_wouldHowl_34 : look a_X1_wouldHowl 34 = vCallM w_X6_many 22 1 37 := rfl
theorem k_X1_wouldHowl_37 : look a_X1_wouldHowl 37 = vCallM w_X0_holders 16 2 40 := rfl
theorem k_X1_wouldHowl_40 : look a_X1_wouldHowl 40 = vI 1 41 := rfl
theorem k_X1_wouldHowl_41 : look a_X1_wouldHowl 41 = vIload 1 42 := rfl
theorem k_X1_wouldHowl_42 : look a_X1_wouldHowl 42 = vIshl 43 := rfl
theorem k_X1_wouldHowl_43 : look a_X1_wouldHowl 43 = vI (-1) 44 := rfl
theorem k_X1_wouldHowl_44 : look a_X1_wouldHowl 44 = vIxor 45 := rfl
theorem k_X1_wouldHowl_45 : look a_X1_wouldHowl 45 = vIand 46 := rfl
theorem k_X1_wouldHowl_46 : look a_X1_wouldHowl 46 = vIstore 6 48 := rfl
theorem k_X1_wouldHowl_48 : look a_X1_wouldHowl 48 = vAload 0 49 := rfl
theorem k_X1_wouldHowl_49 : look a_X1_wouldHowl 49 = vGetR TT 17 1 25 52 := rfl
theorem k_X1_wouldHowl_52 : look a_X1_wouldHowl 52 = vAload 0 53 := rfl
theorem k_X1_wouldHowl_53 : look a_X1_wouldHowl 53 = vGetR TT 17 2 16 56 := rfl
theorem k_X1_wouldHowl_56 : look a_X1_wouldHowl 56 = vIload 1 57 := rfl
theorem k_X1_wouldHowl_57 : look a_X1_wouldHowl 57 = vIload 2 58 := rfl
theorem k_X1_wouldHowl_58 : look a_X1_wouldHowl 58 = vIload 3 59 := rfl
theorem k_X1_wouldHowl_59 : look a_X1_wouldHowl 59 = vIload 4 61 := rfl
theorem k_X1_wouldHowl_61 : look a_X1_wouldHowl 61 = vIload 6 63 := rfl
theorem k_X1_wouldHowl_63 : look a_X1_wouldHowl 63 = vCallS w_J6_bitCount_0f7a4 1 66 := rfl
theorem k_X1_wouldHowl_66 : look a_X1_wouldHowl 66 = vI 1 67 := rfl
theorem k_X1_wouldHowl_67 : look a_X1_wouldHowl 67 = vIadd 68 := rfl
theorem k_X1_wouldHowl_68 : look a_X1_wouldHowl 68 = vI 0 69 := rfl
theorem k_X1_wouldHowl_69 : look a_X1_wouldHowl 69 = vCallM w_X9_reckon 25 7 72 := rfl
theorem k_X1_wouldHowl_72 : look a_X1_wouldHowl 72 = vIload 5 74 := rfl
theorem k_X1_wouldHowl_74 : look a_X1_wouldHowl 74 = vIcLt 81 77 := rfl
theorem k_X1_wouldHowl_77 : look a_X1_wouldHowl 77 = vI 1 78 := rfl
theorem k_X1_wouldHowl_78 : look a_X1_wouldHowl 78 = vGoto 82 := rfl
theorem k_X1_wouldHowl_81 : look a_X1_wouldHowl 81 = vI 0 82 := rfl
theorem k_X1_wouldHowl_82 : look a_X1_wouldHowl 82 = vZret := rfl
theorem o_X1_wouldHowl {X : amX} (e1 : XT X = TT) (e2 : XD X = 3) (hB : amB X RX1 cX1_wouldHowl (some .boolean) 7) : ∀ pc, amOK X pc (look a_X1_wouldHowl pc) := by
  have hT : amTok (XT X) := e1 ▸ TT_ok
  refine look_ok ?_
  unfold a_X1_wouldHowl
  refine fc (ok_iload hB dX1_wouldHowl_0) ?_
  refine fc (ok_aload_n hB dX1_wouldHowl_2) ?_
  refine fc (okt_getR e1 hB hT fl_X1_19 rfl af_1_0 at_1_0 (by decide) dX1_wouldHowl_3) ?_
  refine fc (ok_iload_n hB dX1_wouldHowl_6) ?_
  refine fc (ok_callM hB hT (e1 ▸ s_X6_minutes) lk_X1_31 (by rw [e2]; decide) (c := 6) rfl rfl rfl wd_799 wd_800 dX1_wouldHowl_7) ?_
  refine fc (ok_icmp_lt hB (t := 24) (by decide) dX1_wouldHowl_10) ?_
  refine fc (ok_iload hB dX1_wouldHowl_13) ?_
  refine fc (ok_if_gt hB (t := 22) (by decide) dX1_wouldHowl_15) ?_
  refine fc (ok_iconst hB dX1_wouldHowl_18) ?_
  refine fc (ok_goto hB (t := 23) (by decide) dX1_wouldHowl_19) ?_
  refine fc (ok_iconst hB dX1_wouldHowl_22) ?_
  refine fc (ok_zret hB dX1_wouldHowl_23) ?_
  refine fc (ok_aload_n hB dX1_wouldHowl_24) ?_
  refine fc (okt_getR e1 hB hT fl_X1_27 rfl af_1_2 at_1_2 (by decide) dX1_wouldHowl_25) ?_
  refine fc (ok_iload_n hB dX1_wouldHowl_28) ?_
  refine fc (ok_aload_n hB dX1_wouldHowl_29) ?_
  refine fc (okt_getR e1 hB hT fl_X1_19 rfl af_1_0 at_1_0 (by decide) dX1_wouldHowl_30) ?_
  refine fc (ok_iconst hB dX1_wouldHowl_33) ?_
  refine fc (ok_callM hB hT (e1 ▸ s_X6_many) lk_X1_37 (by rw [e2]; decide) (c := 6) rfl rfl rfl wd_557 wd_558 dX1_wouldHowl_34) ?_
  refine fc (ok_callM hB hT (e1 ▸ s_X0_holders) lk_X1_40 (by rw [e2]; decide) (c := 0) rfl rfl rfl wd_786 wd_787 dX1_wouldHowl_37) ?_
  refine fc (ok_iconst hB dX1_wouldHowl_40) ?_
  refine fc (ok_iload_n hB dX1_wouldHowl_41) ?_
  refine fc (ok_ishl hB dX1_wouldHowl_42) ?_
  refine fc (ok_iconst hB dX1_wouldHowl_43) ?_
  refine fc (ok_ixor hB dX1_wouldHowl_44) ?_
  refine fc (ok_iand hB dX1_wouldHowl_45) ?_
  refine fc (ok_istore hB (by decide) dX1_wouldHowl_46) ?_
  refine fc (ok_aload_n hB dX1_wouldHowl_48) ?_
  refine fc (okt_getR e1 hB hT fl_X1_23 rfl af_1_1 at_1_1 (by decide) dX1_wouldHowl_49) ?_
  refine fc (ok_aload_n hB dX1_wouldHowl_52) ?_
  refine fc (okt_getR e1 hB hT fl_X1_27 rfl af_1_2 at_1_2 (by decide) dX1_wouldHowl_53) ?_
  refine fc (ok_iload_n hB dX1_wouldHowl_56) ?_
  refine fc (ok_iload_n hB dX1_wouldHowl_57) ?_
  refine fc (ok_iload_n hB dX1_wouldHowl_58) ?_
  refine fc (ok_iload hB dX1_wouldHowl_59) ?_
  refine fc (ok_iload hB dX1_wouldHowl_61) ?_
  refine fc (ok_callS hB (e1 ▸ s_J6_bitCount_0f7a4) lk_X1_46 (by rw [e2]; decide) wd_803 dX1_wouldHowl_63) ?_
  refine fc (ok_iconst hB dX1_wouldHowl_66) ?_
  refine fc (ok_iadd hB dX1_wouldHowl_67) ?_
  refine fc (ok_iconst hB dX1_wouldHowl_68) ?_
  refine fc (ok_callM hB hT (e1 ▸ s_X9_reckon) lk_X1_51 (by rw [e2]; decide) (c := 9) rfl rfl rfl wd_814 wd_815 dX1_wouldHowl_69) ?_
  refine fc (ok_iload hB dX1_wouldHowl_72) ?_
  refine fc (ok_icmp_lt hB (t := 81) (by decide) dX1_wouldHowl_74) ?_
  refine fc (ok_iconst hB dX1_wouldHowl_77) ?_
  refine fc (ok_goto hB (t := 82) (by decide) dX1_wouldHowl_78) ?_
  refine fc (ok_iconst hB dX1_wouldHowl_81) ?_
  refine fc (ok_zret hB dX1_wouldHowl_82) ?_
  exact fn

def w_X1_wouldHowl : WP := fun av σ Q => ∃ (c : Int) (t : Int) (p : Int) (k : Int) (v : Int), av = [(17, 41), (0, c), (0, t), (0, p), (0, k), (0, v)] ∧ (0 ≤ c ∧ c < 6 ∧ stOk σ 16 ∧ InR t ∧ InR p ∧ 0 ≤ k ∧ k ≤ 1000 ∧ InR v ∧ (∀ i, 0 ≤ i → i < 6 → InR (σ 18 i)) ∧ (∀ τ, LF σ τ → Q (0, whF σ c t p k v) τ))
theorem w_X1_wouldHowl_e (c : Int) (t : Int) (p : Int) (k : Int) (v : Int) (σ : Mem) (Q : AV → Mem → Prop) : w_X1_wouldHowl [(17, 41), (0, c), (0, t), (0, p), (0, k), (0, v)] σ Q = (0 ≤ c ∧ c < 6 ∧ stOk σ 16 ∧ InR t ∧ InR p ∧ 0 ≤ k ∧ k ≤ 1000 ∧ InR v ∧ (∀ i, 0 ≤ i → i < 6 → InR (σ 18 i)) ∧ (∀ τ, LF σ τ → Q (0, whF σ c t p k v) τ)) := by
  apply propext; constructor
  · rintro ⟨c', t', p', k', v', h9, hb9⟩; cases h9; exact hb9
  · intro hb9; exact ⟨c, t, p, k, v, rfl, hb9⟩

set_option maxRecDepth 100000 in
set_option maxHeartbeats 4000000 in
theorem s_X1_wouldHowl : ∀ av σ Q, w_X1_wouldHowl av σ Q → amCall 3 0 0 TT yX1_wouldHowl cX1_wouldHowl 7 (some .boolean) av σ Q := by
  rintro av σ Q ⟨c, t, p, k, v, rfl, hc0, hc1, hst, ht, hp, hk0, hk1, hv, hse, h⟩
  obtain ⟨ha, hB, hlw, hh, he, hi⟩ := id hst
  have c2 := pcnt_b hB 2
  have mb := pval_b hB 1 p 3
  have hb := hbits_64 (σ 18) t (n := (pcnt σ 6 2).toNat) (by omega)
  obtain ⟨k1, k2⟩ := clrB hb.1 hb.2 hc0 hc1
  have k3 := popc_bt hb.1 hb.2 hc0 hc1
  have e16 : (16 : Int) + 2 = 18 := rfl
  have e17 : (16 : Int) + 1 = 17 := rfl
  have hhc := hh c hc0 hc1
  have bh : bnd (σ 17 c) := ⟨by have := hhc.1; rw [e17] at this; omega, by have := hhc.2; rw [e17] at this; omega⟩
  have ecn : popc (hbits (σ 18) t (pcnt σ 6 2).toNat) - bt (hbits (σ 18) t (pcnt σ 6 2).toNat) c + 1 = cnO σ c t := rfl
  have rb := rkV_b σ (f := pval σ 6 1 p (k % 3)) (h := σ 17 c) (d := pval σ 6 3 t 0) (n := cnO σ c t) (k := k) (e := 0) (by unfold cnO; omega)
  refine am_m0 (own := RX1) (A := look a_X1_wouldHowl) (fun X e1 e2 hB => o_X1_wouldHowl e1 e2 hB) rfl (by decide +kernel) rfl rfl 90 (w := 7) ?_
  change vcs _ _ _ _ 90 0 [(17, 41), (0, c), (0, t), (0, p), (0, k), (0, v), (6, 0)] [] σ
  simp only [↓reduceIte, inR_0, inR_1, inR_m, vSw2_e, swP_n, swP_c, vI_e, vL_e, vNull_e, vIload_e, vLload_e, vAload_e, vIstore_e, vLstore_e, vAstore_e, vIinc_e, vIadd_e, vIsub_e, vImul_e, vIand_e, vIor_e, vIxor_e, vIshl_e, vIshr_e, vIushr_e, vIdiv_e, vIrem_e, vLadd_e, vLsub_e, vLmul_e, vLand_e, vLor_e, vLxor_e, vLdiv_e, vLrem_e, vLushr_e, vLshl_e, vLcmp_e, vIneg_e, vI2l_e, vL2i_e, vI2b_e, vI2c_e, vDup_e, vPop_e, vDup2_e, vGoto_e, vIcEq_e, vIfEq_e, vIcNe_e, vIfNe_e, vIcLt_e, vIfLt_e, vIcGe_e, vIfGe_e, vIcGt_e, vIfGt_e, vIcLe_e, vIfLe_e, vNonnull_e, vSw_e, vGetI_e, vGetL_e, vGetR_e, vPutI_e, vPutZ_e, vPutL_e, vPutR_e, vIald_e, vIald_s, vLald_e, vBald_e, vBald_s, vAald_e, vIast_e, vLast_e, vBast_e, vAast_e, vAlen_e8, vAlen_e9, vAlen_e10, vAlen_e11, vAlen_e5, vAlen_e3, vGets_e, vCompact_e, vLdcS_e, vIret_e, vZret_e, vCret_e, vBret_e, vLret_e, vVret_e, vAret_e, vCallM_e0, vCallMV_e0, vCallS_e0, vCallSV_e0, vCallM_e1, vCallMV_e1, vCallS_e1, vCallSV_e1, vCallM_e2, vCallMV_e2, vCallS_e2, vCallSV_e2, vCallM_e3, vCallMV_e3, vCallS_e3, vCallSV_e3, vCallM_e4, vCallMV_e4, vCallS_e4, vCallSV_e4, vCallM_e5, vCallMV_e5, vCallS_e5, vCallSV_e5, vCallM_e6, vCallMV_e6, vCallS_e6, vCallSV_e6, vCallM_e7, vCallMV_e7, vCallS_e7, vCallSV_e7, vBad_e, vStrVal_e, vStrCod_e, vForm_e, vCallT_e0, vCallT_e1, vCallT_e2, vCopy_e, rf_0_0, rf_0_1, rf_0_2, rf_0_3, rf_0_4, rf_0_7, rf_0_10, rf_0_11, rf_0_12, rf_0_13, rf_0_14, rf_0_15, rf_0_16, rf_1_0, rf_3_0, rf_3_1, rf_6_0, rf_6_1, rf_9_0, rf_9_1, rf_9_3, rf_13_0, rf_13_1, rf_13_2, rf_16_0, rf_16_1, rf_16_2, rf_16_3, rf_21_0, rf_21_1, rf_21_2, rf_21_3, rf_26_0, rf_26_1, rf_26_2, rf_26_3, rf_26_4, rf_26_5, rf_26_6, rf_31_0, rf_31_2, rf_31_5, rf_31_6, rf_36_0, rf_36_1, rf_36_2, rf_36_3, rf_39_0, rf_39_1, rf_39_2, rf_41_0, rf_41_1, rf_41_2, rf_41_3, rf_5000_1, rf_5000_2, rf_5000_3, rf_5000_4, rf_5000_5, rf_5000_15, rf_5000_16, rf_5000_18, rf_5000_19, rf_5000_20, rf_5000_21, rf_5000_22, rf_5000_23, rf_5000_24, rf_5000_25, rf_5000_26, rf_5000_27, rf_5000_36, rf_5000_37, rf_5000_40, rf_5000_41, rf_5000_42, rf_5000_43, rf_5000_44, rf_5000_45, rf_5000_47, rf_5000_52, rf_5000_54, rf_5000_55, rf_100_0, rf_100_1, rf_103_0, rf_103_1, rf_106_0, rf_106_1, rf_109_0, rf_109_1, al_2, al_4, al_5, al_7, al_8, al_10, al_11, al_12, al_14, al_15, al_17, al_18, al_19, al_20, al_22, al_23, al_24, al_25, al_27, al_28, al_29, al_30, al_32, al_33, al_34, al_35, al_37, al_38, al_40, al_42, al_5001, al_5002, al_5003, al_5004, al_5005, al_5006, al_5007, al_5008, al_5009, al_5010, al_5011, al_5012, al_5013, al_5014, al_5015, al_5016, al_5017, al_5018, al_5019, al_5020, al_5021, al_5022, al_5023, al_5024, al_5025, al_5026, al_9000, al_101, al_102, al_104, al_105, al_107, al_108, al_110, al_111, vcs_e, lg_c0, lg_cs, lg_nil, set_c0, set_cs, okst_0, okst_s, acok_n, acok_c, List.contains_nil, List.contains_cons, Bool.or_false, Bool.false_or, Bool.false_eq_true, if_false, if_true, ite_self, ne_eq, true_and, and_true, not_false_eq_true, not_true_eq_false, false_imp_iff, true_imp_iff, Nat.ble_eq, Bool.and_eq_true, reduceCtorEq, or_false, false_or, or_true, true_or, false_and, and_false, and_self, Int.reduceLE, Int.reduceAdd, Int.reduceSub, Int.reduceMul, Int.reduceNeg, Int.reduceLT, Int.reduceEq, Int.reduceNe, Nat.reduceBEq, Nat.reduceBNe, Nat.reduceEqDiff, amCmp_in, amCmp_lt, amCmp_le, amCmp_gt, amCmp_ge, amCmp_eq, amCmp_ne, Nat.reduceLeDiff, Nat.reduceSub, Bool.and_true, Bool.true_and, Bool.and_self, Bool.or_true, Bool.true_or, isRf_3, isRf_4, isRf_5, isRf_8, isRf_9, isRf_10, isRf_11, isRf_15, isRf_16, isRf_17, isRf_18, isRf_19, isRf_20, isRf_21, isRf_22, isRf_23, isRf_24, isRf_25, isRf_26, isRf_27, isRf_28, k_X1_wouldHowl_0, k_X1_wouldHowl_2, k_X1_wouldHowl_3, k_X1_wouldHowl_6, k_X1_wouldHowl_7, k_X1_wouldHowl_10, k_X1_wouldHowl_13, k_X1_wouldHowl_15, k_X1_wouldHowl_18, k_X1_wouldHowl_19, k_X1_wouldHowl_22, k_X1_wouldHowl_23, k_X1_wouldHowl_24, k_X1_wouldHowl_25, k_X1_wouldHowl_28, k_X1_wouldHowl_29, k_X1_wouldHowl_30, k_X1_wouldHowl_33, k_X1_wouldHowl_34, k_X1_wouldHowl_37, k_X1_wouldHowl_40, k_X1_wouldHowl_41, k_X1_wouldHowl_42, k_X1_wouldHowl_43, k_X1_wouldHowl_44, k_X1_wouldHowl_45, k_X1_wouldHowl_46, k_X1_wouldHowl_48, k_X1_wouldHowl_49, k_X1_wouldHowl_52, k_X1_wouldHowl_53, k_X1_wouldHowl_56, k_X1_wouldHowl_57, k_X1_wouldHowl_58, k_X1_wouldHowl_59, k_X1_wouldHowl_61, k_X1_wouldHowl_63, k_X1_wouldHowl_66, k_X1_wouldHowl_67, k_X1_wouldHowl_68, k_X1_wouldHowl_69, k_X1_wouldHowl_72, k_X1_wouldHowl_74, k_X1_wouldHowl_77, k_X1_wouldHowl_78, k_X1_wouldHowl_81, k_X1_wouldHowl_82, w_J6_bitCount_0f7a4_e, w_X0_holders_e, w_X6_many_e, w_X6_minutes_e, w_X9_reckon_e, pmin_e, k1, ecn, e16, e17]
  have cb : 1 ≤ cnO σ c t ∧ cnO σ c t ≤ 6 := by unfold cnO; omega
  unfold whF at h
  by_cases c1 : pval σ 6 1 p 3 ≤ k
  · rw [if_pos c1] at h
    have hh := h σ (LF_rf σ)
    by_cases c2 : v ≤ 0
    · rw [if_pos c2] at hh
      repeat' (first | assumption | apply And.intro | intro _)
      all_goals first | omega | exact absurd trivial (by assumption) | exact Or.inr rfl | exact hh
    · rw [if_neg c2] at hh
      repeat' (first | assumption | apply And.intro | intro _)
      all_goals first | omega | exact absurd trivial (by assumption) | exact Or.inr rfl | exact hh
  · rw [if_neg c1] at h
    by_cases c2 : v ≤ rkV σ (pval σ 6 1 p (k % 3)) (σ 17 c) (pval σ 6 3 t 0) (cnO σ c t) k 0
    · rw [if_pos c2] at h
      repeat' (first | assumption | apply And.intro | intro _)
      all_goals first | omega | exact absurd trivial (by assumption) | exact Or.inr rfl | exact Or.inl rfl | exact hse _ (by assumption) (by assumption) | exact bh | exact hB | exact hlw | exact h _ (by assumption)
    · rw [if_neg c2] at h
      repeat' (first | assumption | apply And.intro | intro _)
      all_goals first | omega | exact absurd trivial (by assumption) | exact Or.inr rfl | exact Or.inl rfl | exact hse _ (by assumption) (by assumption) | exact bh | exact hB | exact hlw | exact h _ (by assumption)
theorem wd_300 : Cond.fieldLink RX1 15 "ArmchairHouse$Clues" "facts" "I" ∈ TBL := tb_tab (List.mem_of_getElem? (i := 300) (by decide +kernel)) rfl
theorem fl_X1_15 : amFl RX1 1 4 15 RX1 TX1 5 := ⟨rfl, inT_1, by decide, wd_300⟩
theorem wd_299 : Cond.fieldLink RX1 11 "ArmchairHouse$Clues" "rows" "[I" ∈ TBL := tb_tab (List.mem_of_getElem? (i := 299) (by decide +kernel)) rfl
theorem fl_X1_11 : amFl RX1 1 3 11 RX1 TX1 5 := ⟨rfl, inT_1, by decide, wd_299⟩
theorem fp_X1_15 : amFp RX1 1 4 15 RX1 TX1 5 tyX1 .int := ⟨fl_X1_15, tyX1_ok, nmX1, by decide +kernel⟩
def a_X1_keep : AC := [(0, vAload 0 1), (1, vGetI 17 4 4), (4, vI 5 5), (5, vImul 6), (6, vIstore 6 8), (8, vIload 6 10), (10, vIfLt 25 13), (13, vIload 6 15), (15, vAload 0 16), (16, vGetR TT 17 3 8 19), (19, vAlen TT 20), (20, vI 5 21), (21, vIsub 22), (22, vIcLe 27 25), (25, vI (-1) 26), (26, vIret), (27, vAload 0 28), (28, vGetR TT 17 3 8 31), (31, vIload 6 33), (33, vIload 1 34), (34, vIast TT 35), (35, vAload 0 36), (36, vGetR TT 17 3 8 39), (39, vIload 6 41), (41, vI 1 42), (42, vIadd 43), (43, vIload 2 44), (44, vIast TT 45), (45, vAload 0 46), (46, vGetR TT 17 3 8 49), (49, vIload 6 51), (51, vI 2 52), (52, vIadd 53), (53, vIload 3 54), (54, vIast TT 55), (55, vAload 0 56), (56, vGetR TT 17 3 8 59), (59, vIload 6 61), (61, vI 3 62), (62, vIadd 63), (63, vIload 4 65), (65, vIast TT 66), (66, vAload 0 67), (67, vGetR TT 17 3 8 70), (70, vIload 6 72), (72, vI 4 73), (73, vIadd 74), (74, vIload 5 76), (76, vIfEq 83 79), (79, vI 1 80), (80, vGoto 84), (83, vI 0 84), (84, vIast TT 85), (85, vAload 0 86), (86, vDup 87), (87, vGetI 17 4 90), (90, vI 1 91), (91, vIadd 92), (92, vPutI 17 4 95), (95, vAload 0 96), (96, vGetI 17 4 99), (99, vIret)]
theorem k_X1_keep_0 : look a_X1_keep 0 = vAload 0 1 := rfl
theorem k_X1_keep_1 : look a_X1_keep 1 = vGetI 17 4 4 := rfl
theorem k_X1_keep_4 : look a_X1_keep 4 = vI 5 5 := rfl
theorem k_X1_keep_5 : look a_X1_keep 5 = vImul 6 := rfl
theorem k_X1_keep_6 : look a_X1_keep 6 = vIstore 6 8 := rfl
theorem k_X1_keep_8 : look a_X1_keep 8 = vIload 6 10 := rfl
theorem k_X1_keep_10 : look a_X1_keep 10 = vIfLt 25 13 := rfl
theorem k_X1_keep_13 : look a_X1_keep 13 = vIload 6 15 := rfl
theorem k_X1_keep_15 : look a_X1_keep 15 = vAload 0 16 := rfl
theorem k_X1_keep_16 : look a_X1_keep 16 = vGetR TT 17 3 8 19 := rfl
theorem k_X1_keep_19 : look a_X1_keep 19 = vAlen TT 20 := rfl
theorem k_X1_keep_20 : look a_X1_keep 20 = vI 5 21 := rfl
theorem k_X1_keep_21 : look a_X1_keep 21 = vIsub 22 := rfl
theorem k_X1_keep_22 : look a_X1_keep 22 = vIcLe 27 25 := rfl
theorem k_X1_keep_25 : look a_X1_keep 25 = vI (-1) 26 := rfl
theorem k_X1_keep_26 : look a_X1_keep 26 = vIret := rfl
theorem k_X1_keep_27 : look a_X1_keep 27 = vAload 0 28 := rfl
theorem k_X1_keep_28 : look a_X1_keep 28 = vGetR TT 17 3 8 31 := rfl
theorem k_X1_keep_31 : look a_X1_keep 31 = vIload 6 33 := rfl
theorem k_X1_keep_33 : look a_X1_keep 33 = vIload 1 34 := rfl
theorem k_X1_keep_34 : look a_X1_keep 34 = vIast TT 35 := rfl
theorem k_X1_keep_35 : look a_X1_keep 35 = vAload 0 36 := rfl
theorem k_X1_keep_36 : look a_X1_keep 36 = vGetR TT 17 3 8 39 := rfl
theorem k_X1_keep_39 : look a_X1_keep 39 = vIload 6 41 := rfl
theorem k_X1_keep_41 : look a_X1_keep 41 = vI 1 42 := rfl
theorem k_X1_keep_42 : look a_X1_keep 42 = vIadd 43 := rfl
theorem k_X1_keep_43 : look a_X1_keep 43 = vIload 2 44 := rfl
theorem k_X1_keep_44 : look a_X1_keep 44 = vIast TT 45 := rfl
theorem k_X1_keep_45 : look a_X1_keep 45 = vAload 0 46 := rfl
theorem k_X1_keep_46 : look a_X1_keep 46 = vGetR TT 17 3 8 49 := rfl
theorem k_X1_keep_49 : look a_X1_keep 49 = vIload 6 51 := rfl
theorem k_X1_keep_51 : look a_X1_keep 51 = vI 2 52 := rfl
theorem k_X1_keep_52 : look a_X1_keep 52 = vIadd 53 := rfl
theorem k_X1_keep_53 : look a_X1_keep 53 = vIload 3 54 := rfl
theorem k_X1_keep_54 : look a_X1_keep 54 = vIast TT 55 := rfl
theorem k_X1_keep_55 : look a_X1_keep 55 = vAload 0 56 := rfl
theorem k_X1_keep_56 : look a_X1_keep 56 = vGetR TT 17 3 8 59 := rfl
theorem k_X1_keep_59 : look a_X1_keep 59 = vIload 6 61 := rfl
theorem k_X1_keep_61 : look a_X1_keep 61 = vI 3 62 := rfl
theorem k_X1_keep_62 : look a_X1_keep 62 = vIadd 63 := rfl
theorem k_X1_keep_63 : look a_X1_keep 63 = vIload 4 65 := rfl
theorem k_X1_keep_65 : look a_X1_keep 65 = vIast TT 66 := rfl
theorem k_X1_keep_66 : look a_X1_keep 66 = vAload 0 67 := rfl
theorem k_X1_keep_67 : look a_X1_keep 67 = vGetR TT 17 3 8 70 := rfl
theorem k_X1_keep_70 : look a_X1_keep 70 = vIload 6 72 := rfl
theorem k_X1_keep_72 : look a_X1_keep 72 = vI 4 73 := rfl
theorem k_X1_keep_73 : look a_X1_keep 73 = vIadd 74 := rfl
theorem k_X1_keep_74 : look a_X1_keep 74 = vIload 5 76 := rfl
theorem k_X1_keep_76 : look a_X1_keep 76 = vIfEq 83 79 := rfl
theorem k_X1_keep_79 : look a_X1_keep 79 = vI 1 80 := rfl
theorem k_X1_keep_80 : look a_X1_keep 80 = vGoto 84 := rfl
theorem k_X1_keep_83 : look a_X1_keep 83 = vI 0 84 := rfl
theorem k_X1_keep_84 : look a_X1_keep 84 = vIast TT 85 := rfl
theorem k_X1_keep_85 : look a_X1_keep 85 = vAload 0 86 := rfl
theorem k_X1_keep_86 : look a_X1_keep 86 = vDup 87 := rfl
theorem k_X1_keep_87 : look a_X1_keep 87 = vGetI 17 4 90 := rfl
theorem k_X1_keep_90 : look a_X1_keep 90 = vI 1 91 := rfl
theorem k_X1_keep_91 : look a_X1_keep 91 = vIadd 92 := rfl
theorem k_X1_keep_92 : look a_X1_keep 92 = vPutI 17 4 95 := rfl
theorem k_X1_keep_95 : look a_X1_keep 95 = vAload 0 96 := rfl
theorem k_X1_keep_96 : look a_X1_keep 96 = vGetI 17 4 99 := rfl
theorem k_X1_keep_99 : look a_X1_keep 99 = vIret := rfl
theorem o_X1_keep {X : amX} (e1 : XT X = TT) (e2 : XD X = 0) (hB : amB X RX1 cX1_keep (some .int) 7) : ∀ pc, amOK X pc (look a_X1_keep pc) := by
  have hT : amTok (XT X) := e1 ▸ TT_ok
  refine look_ok ?_
  unfold a_X1_keep
  refine fc (ok_aload_n hB dX1_keep_0) ?_
  refine fc (ok_getI hB hT fl_X1_15 rfl rfl (Or.inl af_1_4) dX1_keep_1) ?_
  refine fc (ok_iconst hB dX1_keep_4) ?_
  refine fc (ok_imul hB dX1_keep_5) ?_
  refine fc (ok_istore hB (by decide) dX1_keep_6) ?_
  refine fc (ok_iload hB dX1_keep_8) ?_
  refine fc (ok_if_lt hB (t := 25) (by decide) dX1_keep_10) ?_
  refine fc (ok_iload hB dX1_keep_13) ?_
  refine fc (ok_aload_n hB dX1_keep_15) ?_
  refine fc (okt_getR e1 hB hT fl_X1_11 rfl af_1_3 at_1_3 (by decide) dX1_keep_16) ?_
  refine fc (okt_arraylength e1 hB dX1_keep_19) ?_
  refine fc (ok_iconst hB dX1_keep_20) ?_
  refine fc (ok_isub hB dX1_keep_21) ?_
  refine fc (ok_icmp_le hB (t := 27) (by decide) dX1_keep_22) ?_
  refine fc (ok_iconst hB dX1_keep_25) ?_
  refine fc (ok_iret hB dX1_keep_26) ?_
  refine fc (ok_aload_n hB dX1_keep_27) ?_
  refine fc (okt_getR e1 hB hT fl_X1_11 rfl af_1_3 at_1_3 (by decide) dX1_keep_28) ?_
  refine fc (ok_iload hB dX1_keep_31) ?_
  refine fc (ok_iload_n hB dX1_keep_33) ?_
  refine fc (okt_iastore e1 hB dX1_keep_34) ?_
  refine fc (ok_aload_n hB dX1_keep_35) ?_
  refine fc (okt_getR e1 hB hT fl_X1_11 rfl af_1_3 at_1_3 (by decide) dX1_keep_36) ?_
  refine fc (ok_iload hB dX1_keep_39) ?_
  refine fc (ok_iconst hB dX1_keep_41) ?_
  refine fc (ok_iadd hB dX1_keep_42) ?_
  refine fc (ok_iload_n hB dX1_keep_43) ?_
  refine fc (okt_iastore e1 hB dX1_keep_44) ?_
  refine fc (ok_aload_n hB dX1_keep_45) ?_
  refine fc (okt_getR e1 hB hT fl_X1_11 rfl af_1_3 at_1_3 (by decide) dX1_keep_46) ?_
  refine fc (ok_iload hB dX1_keep_49) ?_
  refine fc (ok_iconst hB dX1_keep_51) ?_
  refine fc (ok_iadd hB dX1_keep_52) ?_
  refine fc (ok_iload_n hB dX1_keep_53) ?_
  refine fc (okt_iastore e1 hB dX1_keep_54) ?_
  refine fc (ok_aload_n hB dX1_keep_55) ?_
  refine fc (okt_getR e1 hB hT fl_X1_11 rfl af_1_3 at_1_3 (by decide) dX1_keep_56) ?_
  refine fc (ok_iload hB dX1_keep_59) ?_
  refine fc (ok_iconst hB dX1_keep_61) ?_
  refine fc (ok_iadd hB dX1_keep_62) ?_
  refine fc (ok_iload hB dX1_keep_63) ?_
  refine fc (okt_iastore e1 hB dX1_keep_65) ?_
  refine fc (ok_aload_n hB dX1_keep_66) ?_
  refine fc (okt_getR e1 hB hT fl_X1_11 rfl af_1_3 at_1_3 (by decide) dX1_keep_67) ?_
  refine fc (ok_iload hB dX1_keep_70) ?_
  refine fc (ok_iconst hB dX1_keep_72) ?_
  refine fc (ok_iadd hB dX1_keep_73) ?_
  refine fc (ok_iload hB dX1_keep_74) ?_
  refine fc (ok_if_eq hB (t := 83) (by decide) dX1_keep_76) ?_
  refine fc (ok_iconst hB dX1_keep_79) ?_
  refine fc (ok_goto hB (t := 84) (by decide) dX1_keep_80) ?_
  refine fc (ok_iconst hB dX1_keep_83) ?_
  refine fc (okt_iastore e1 hB dX1_keep_84) ?_
  refine fc (ok_aload_n hB dX1_keep_85) ?_
  refine fc (ok_dup hB dX1_keep_86) ?_
  refine fc (ok_getI hB hT fl_X1_15 rfl rfl (Or.inl af_1_4) dX1_keep_87) ?_
  refine fc (ok_iconst hB dX1_keep_90) ?_
  refine fc (ok_iadd hB dX1_keep_91) ?_
  refine fc (ok_putI hB hT fp_X1_15 rfl rfl rfl af_1_4 dX1_keep_92) ?_
  refine fc (ok_aload_n hB dX1_keep_95) ?_
  refine fc (ok_getI hB hT fl_X1_15 rfl rfl (Or.inl af_1_4) dX1_keep_96) ?_
  refine fc (ok_iret hB dX1_keep_99) ?_
  exact fn

def w_X1_keep : WP := fun av σ Q => ∃ (c : Int) (p : Int) (k : Int) (v : Int) (u : Int), av = [(17, 41), (0, c), (0, p), (0, k), (0, v), (0, u)] ∧ (0 ≤ σ 41 4 ∧ σ 41 4 ≤ 10 ∧ (u = 0 ∨ u = 1) ∧ (if σ 41 4 = 10 then Q (0, -1) σ else Q (0, σ 41 4 + 1) (up (up (up (up (up (up σ 42 (σ 41 4 * 5) c) 42 (σ 41 4 * 5 + 1) p) 42 (σ 41 4 * 5 + 2) k) 42 (σ 41 4 * 5 + 3) v) 42 (σ 41 4 * 5 + 4) u) 41 4 (σ 41 4 + 1))))
theorem w_X1_keep_e (c : Int) (p : Int) (k : Int) (v : Int) (u : Int) (σ : Mem) (Q : AV → Mem → Prop) : w_X1_keep [(17, 41), (0, c), (0, p), (0, k), (0, v), (0, u)] σ Q = (0 ≤ σ 41 4 ∧ σ 41 4 ≤ 10 ∧ (u = 0 ∨ u = 1) ∧ (if σ 41 4 = 10 then Q (0, -1) σ else Q (0, σ 41 4 + 1) (up (up (up (up (up (up σ 42 (σ 41 4 * 5) c) 42 (σ 41 4 * 5 + 1) p) 42 (σ 41 4 * 5 + 2) k) 42 (σ 41 4 * 5 + 3) v) 42 (σ 41 4 * 5 + 4) u) 41 4 (σ 41 4 + 1)))) := by
  apply propext; constructor
  · rintro ⟨c', p', k', v', u', h9, hb9⟩; cases h9; exact hb9
  · intro hb9; exact ⟨c, p, k, v, u, rfl, hb9⟩

set_option maxRecDepth 100000 in
set_option maxHeartbeats 4000000 in
theorem s_X1_keep : ∀ av σ Q, w_X1_keep av σ Q → amCall 0 0 0 TT yX1_keep cX1_keep 7 (some .int) av σ Q := by
  rintro av σ Q ⟨c, p, k, v, u, rfl, h0, h1, hu, h⟩
  refine am_m0 (own := RX1) (A := look a_X1_keep) (fun X e1 e2 hB => o_X1_keep e1 e2 hB) rfl (by decide +kernel) rfl rfl 90 (w := 7) ?_
  change vcs _ _ _ _ 90 0 [(17, 41), (0, c), (0, p), (0, k), (0, v), (0, u), (6, 0)] [] σ
  simp only [↓reduceIte, inR_0, inR_1, inR_m, vSw2_e, swP_n, swP_c, vI_e, vL_e, vNull_e, vIload_e, vLload_e, vAload_e, vIstore_e, vLstore_e, vAstore_e, vIinc_e, vIadd_e, vIsub_e, vImul_e, vIand_e, vIor_e, vIxor_e, vIshl_e, vIshr_e, vIushr_e, vIdiv_e, vIrem_e, vLadd_e, vLsub_e, vLmul_e, vLand_e, vLor_e, vLxor_e, vLdiv_e, vLrem_e, vLushr_e, vLshl_e, vLcmp_e, vIneg_e, vI2l_e, vL2i_e, vI2b_e, vI2c_e, vDup_e, vPop_e, vDup2_e, vGoto_e, vIcEq_e, vIfEq_e, vIcNe_e, vIfNe_e, vIcLt_e, vIfLt_e, vIcGe_e, vIfGe_e, vIcGt_e, vIfGt_e, vIcLe_e, vIfLe_e, vNonnull_e, vSw_e, vGetI_e, vGetL_e, vGetR_e, vPutI_e, vPutZ_e, vPutL_e, vPutR_e, vIald_e, vIald_s, vLald_e, vBald_e, vBald_s, vAald_e, vIast_e, vLast_e, vBast_e, vAast_e, vAlen_e8, vAlen_e9, vAlen_e10, vAlen_e11, vAlen_e5, vAlen_e3, vGets_e, vCompact_e, vLdcS_e, vIret_e, vZret_e, vCret_e, vBret_e, vLret_e, vVret_e, vAret_e, vCallM_e0, vCallMV_e0, vCallS_e0, vCallSV_e0, vCallM_e1, vCallMV_e1, vCallS_e1, vCallSV_e1, vCallM_e2, vCallMV_e2, vCallS_e2, vCallSV_e2, vCallM_e3, vCallMV_e3, vCallS_e3, vCallSV_e3, vCallM_e4, vCallMV_e4, vCallS_e4, vCallSV_e4, vCallM_e5, vCallMV_e5, vCallS_e5, vCallSV_e5, vCallM_e6, vCallMV_e6, vCallS_e6, vCallSV_e6, vCallM_e7, vCallMV_e7, vCallS_e7, vCallSV_e7, vBad_e, vStrVal_e, vStrCod_e, vForm_e, vCallT_e0, vCallT_e1, vCallT_e2, vCopy_e, rf_0_0, rf_0_1, rf_0_2, rf_0_3, rf_0_4, rf_0_7, rf_0_10, rf_0_11, rf_0_12, rf_0_13, rf_0_14, rf_0_15, rf_0_16, rf_1_0, rf_3_0, rf_3_1, rf_6_0, rf_6_1, rf_9_0, rf_9_1, rf_9_3, rf_13_0, rf_13_1, rf_13_2, rf_16_0, rf_16_1, rf_16_2, rf_16_3, rf_21_0, rf_21_1, rf_21_2, rf_21_3, rf_26_0, rf_26_1, rf_26_2, rf_26_3, rf_26_4, rf_26_5, rf_26_6, rf_31_0, rf_31_2, rf_31_5, rf_31_6, rf_36_0, rf_36_1, rf_36_2, rf_36_3, rf_39_0, rf_39_1, rf_39_2, rf_41_0, rf_41_1, rf_41_2, rf_41_3, rf_5000_1, rf_5000_2, rf_5000_3, rf_5000_4, rf_5000_5, rf_5000_15, rf_5000_16, rf_5000_18, rf_5000_19, rf_5000_20, rf_5000_21, rf_5000_22, rf_5000_23, rf_5000_24, rf_5000_25, rf_5000_26, rf_5000_27, rf_5000_36, rf_5000_37, rf_5000_40, rf_5000_41, rf_5000_42, rf_5000_43, rf_5000_44, rf_5000_45, rf_5000_47, rf_5000_52, rf_5000_54, rf_5000_55, rf_100_0, rf_100_1, rf_103_0, rf_103_1, rf_106_0, rf_106_1, rf_109_0, rf_109_1, al_2, al_4, al_5, al_7, al_8, al_10, al_11, al_12, al_14, al_15, al_17, al_18, al_19, al_20, al_22, al_23, al_24, al_25, al_27, al_28, al_29, al_30, al_32, al_33, al_34, al_35, al_37, al_38, al_40, al_42, al_5001, al_5002, al_5003, al_5004, al_5005, al_5006, al_5007, al_5008, al_5009, al_5010, al_5011, al_5012, al_5013, al_5014, al_5015, al_5016, al_5017, al_5018, al_5019, al_5020, al_5021, al_5022, al_5023, al_5024, al_5025, al_5026, al_9000, al_101, al_102, al_104, al_105, al_107, al_108, al_110, al_111, vcs_e, lg_c0, lg_cs, lg_nil, set_c0, set_cs, okst_0, okst_s, acok_n, acok_c, List.contains_nil, List.contains_cons, Bool.or_false, Bool.false_or, Bool.false_eq_true, if_false, if_true, ite_self, ne_eq, true_and, and_true, not_false_eq_true, not_true_eq_false, false_imp_iff, true_imp_iff, Nat.ble_eq, Bool.and_eq_true, reduceCtorEq, or_false, false_or, or_true, true_or, false_and, and_false, and_self, Int.reduceLE, Int.reduceAdd, Int.reduceSub, Int.reduceMul, Int.reduceNeg, Int.reduceLT, Int.reduceEq, Int.reduceNe, Nat.reduceBEq, Nat.reduceBNe, Nat.reduceEqDiff, amCmp_in, amCmp_lt, amCmp_le, amCmp_gt, amCmp_ge, amCmp_eq, amCmp_ne, Nat.reduceLeDiff, Nat.reduceSub, Bool.and_true, Bool.true_and, Bool.and_self, Bool.or_true, Bool.true_or, isRf_3, isRf_4, isRf_5, isRf_8, isRf_9, isRf_10, isRf_11, isRf_15, isRf_16, isRf_17, isRf_18, isRf_19, isRf_20, isRf_21, isRf_22, isRf_23, isRf_24, isRf_25, isRf_26, isRf_27, isRf_28, k_X1_keep_0, k_X1_keep_1, k_X1_keep_4, k_X1_keep_5, k_X1_keep_6, k_X1_keep_8, k_X1_keep_10, k_X1_keep_13, k_X1_keep_15, k_X1_keep_16, k_X1_keep_19, k_X1_keep_20, k_X1_keep_21, k_X1_keep_22, k_X1_keep_25, k_X1_keep_26, k_X1_keep_27, k_X1_keep_28, k_X1_keep_31, k_X1_keep_33, k_X1_keep_34, k_X1_keep_35, k_X1_keep_36, k_X1_keep_39, k_X1_keep_41, k_X1_keep_42, k_X1_keep_43, k_X1_keep_44, k_X1_keep_45, k_X1_keep_46, k_X1_keep_49, k_X1_keep_51, k_X1_keep_52, k_X1_keep_53, k_X1_keep_54, k_X1_keep_55, k_X1_keep_56, k_X1_keep_59, k_X1_keep_61, k_X1_keep_62, k_X1_keep_63, k_X1_keep_65, k_X1_keep_66, k_X1_keep_67, k_X1_keep_70, k_X1_keep_72, k_X1_keep_73, k_X1_keep_74, k_X1_keep_76, k_X1_keep_79, k_X1_keep_80, k_X1_keep_83, k_X1_keep_84, k_X1_keep_85, k_X1_keep_86, k_X1_keep_87, k_X1_keep_90, k_X1_keep_91, k_X1_keep_92, k_X1_keep_95, k_X1_keep_96, k_X1_keep_99, up_s, up_nj, up_na, up_up, savR_o, cpy_o, fillm_o, setAud_o, setv_o, setv_s, Int.reduceNe, Int.reduceEq, Int.reduceLT, Int.reduceAdd, not_false_eq_true, ne_eq, or_true, true_or]
  by_cases c1 : σ 41 4 = 10
  · rw [if_pos c1] at h
    repeat' (first | assumption | apply And.intro | intro _)
    all_goals first | omega | exact absurd trivial (by assumption) | exact h
  · rw [if_neg c1] at h
    rcases hu with rfl | rfl
    · repeat' (first | assumption | apply And.intro | intro _)
      all_goals first | omega | exact absurd trivial (by assumption) | exact h
    · repeat' (first | assumption | apply And.intro | intro _)
      all_goals first | omega | exact absurd trivial (by assumption) | exact h
theorem wd_1062 : Cond.methodLink RX1 57 yX1_wouldHowl ∈ TBL := tb_tab (List.mem_of_getElem? (i := 1062) (by decide +kernel)) rfl
theorem wd_11 : Cond.initialized RX1 ∈ TBL := tb_tab (List.mem_of_getElem? (i := 11) (by decide +kernel)) rfl
theorem wd_1065 : Cond.code yX1_wouldHowl cX1_wouldHowl 7 (some .boolean) ∈ TBL := tb_tab (List.mem_of_getElem? (i := 1065) (by decide +kernel)) rfl
theorem lk_X1_57 : amLk RX1 57 yX1_wouldHowl cX1_wouldHowl 7 (some .boolean) 5 := ⟨wd_1062, wd_11, wd_1065, by decide +kernel, by decide +kernel, by decide⟩
theorem wd_1064 : Cond.instanceMethod yX1_wouldHowl ∈ TBL := tb_tab (List.mem_of_getElem? (i := 1064) (by decide +kernel)) rfl
theorem sl_X1_wouldHowl : Cond.selects RX1 yX1_wouldHowl yX1_wouldHowl ∈ TBL := tb_sel (List.mem_of_getElem? (i := 35) (by decide +kernel)) rfl
def a_X1_fits : AC := [(0, vI 0 1), (1, vIstore 3 2), (2, vIload 3 3), (3, vAload 0 4), (4, vGetI 17 4 7), (7, vI 5 8), (8, vImul 9), (9, vIcGe 95 12), (12, vIload 3 13), (13, vAload 0 14), (14, vGetR TT 17 3 8 17), (17, vAlen TT 18), (18, vI 5 19), (19, vIsub 20), (20, vIcGt 95 23), (23, vAload 0 24), (24, vGetR TT 17 3 8 27), (27, vIload 3 28), (28, vIald TT 29), (29, vIload 1 30), (30, vIcNe 89 33), (33, vAload 0 34), (34, vIload 1 35), (35, vIload 2 36), (36, vAload 0 37), (37, vGetR TT 17 3 8 40), (40, vIload 3 41), (41, vI 1 42), (42, vIadd 43), (43, vIald TT 44), (44, vAload 0 45), (45, vGetR TT 17 3 8 48), (48, vIload 3 49), (49, vI 2 50), (50, vIadd 51), (51, vIald TT 52), (52, vAload 0 53), (53, vGetR TT 17 3 8 56), (56, vIload 3 57), (57, vI 3 58), (58, vIadd 59), (59, vIald TT 60), (60, vCallM w_X1_wouldHowl 17 5 63), (63, vIstore 4 65), (65, vIload 4 67), (67, vAload 0 68), (68, vGetR TT 17 3 8 71), (71, vIload 3 72), (72, vI 4 73), (73, vIadd 74), (74, vIald TT 75), (75, vI 1 76), (76, vIcNe 83 79), (79, vI 1 80), (80, vGoto 84), (83, vI 0 84), (84, vIcEq 89 87), (87, vI 0 88), (88, vZret), (89, vIinc 3 5 92), (92, vGoto 2), (95, vI 1 96), (96, vZret)]
theorem k_X1_fits_0 : look a_X1_fits 0 = vI 0 1 := rfl
theorem k_X1_fits_1 : look a_X1_fits 1 = vIstore 3 2 := rfl
theorem k_X1_fits_2 : look a_X1_fits 2 = vIload 3 3 := rfl
theorem k_X1_fits_3 : look a_X1_fits 3 = vAload 0 4 := rfl
theorem k_X1_fits_4 : look a_X1_fits 4 = vGetI 17 4 7 := rfl
theorem k_X1_fits_7 : look a_X1_fits 7 = vI 5 8 := rfl
theorem k_X1_fits_8 : look a_X1_fits 8 = vImul 9 := rfl
theorem k_X1_fits_9 : look a_X1_fits 9 = vIcGe 95 12 := rfl
theorem k_X1_fits_12 : look a_X1_fits 12 = vIload 3 13 := rfl
theorem k_X1_fits_13 : look a_X1_fits 13 = vAload 0 14 := rfl
theorem k_X1_fits_14 : look a_X1_fits 14 = vGetR TT 17 3 8 17 := rfl
theorem k_X1_fits_17 : look a_X1_fits 17 = vAlen TT 18 := rfl
theorem k_X1_fits_18 : look a_X1_fits 18 = vI 5 19 := rfl
theorem k_X1_fits_19 : look a_X1_fits 19 = vIsub 20 := rfl
theorem k_X1_fits_20 : look a_X1_fits 20 = vIcGt 95 23 := rfl
theorem k_X1_fits_23 : look a_X1_fits 23 = vAload 0 24 := rfl
theorem k_X1_fits_24 : look a_X1_fits 24 = vGetR TT 17 3 8 27 := rfl
theorem k_X1_fits_27 : look a_X1_fits 27 = vIload 3 28 := rfl
theorem k_X1_fits_28 : look a_X1_fits 28 = vIald TT 29 := rfl
theorem k_X1_fits_29 : look a_X1_fits 29 = vIload 1 30 := rfl
theorem k_X1_fits_30 : look a_X1_fits 30 = vIcNe 89 33 := rfl
theorem k_X1_fits_33 : look a_X1_fits 33 = vAload 0 34 := rfl
theorem k_X1_fits_34 : look a_X1_fits 34 = vIload 1 35 := rfl
theorem k_X1_fits_35 : look a_X1_fits 35 = vIload 2 36 := rfl
theorem k_X1_fits_36 : look a_X1_fits 36 = vAload 0 37 := rfl
theorem k_X1_fits_37 : look a_X1_fits 37 = vGetR TT 17 3 8 40 := rfl
theorem k_X1_fits_40 : look a_X1_fits 40 = vIload 3 41 := rfl
theorem k_X1_fits_41 : look a_X1_fits 41 = vI 1 42 := rfl
theorem k_X1_fits_42 : look a_X1_fits 42 = vIadd 43 := rfl
theorem k_X1_fits_43 : look a_X1_fits 43 = vIald TT 44 := rfl
theorem k_X1_fits_44 : look a_X1_fits 44 = vAload 0 45 := rfl
theorem k_X1_fits_45 : look a_X1_fits 45 = vGetR TT 17 3 8 48 := rfl
theorem k_X1_fits_48 : look a_X1_fits 48 = vIload 3 49 := rfl
theorem k_X1_fits_49 : look a_X1_fits 49 = vI 2 50 := rfl
theorem k_X1_fits_50 : look a_X1_fits 50 = vIadd 51 := rfl
theorem k_X1_fits_51 : look a_X1_fits 51 = vIald TT 52 := rfl
theorem k_X1_fits_52 : look a_X1_fits 52 = vAload 0 53 := rfl
theorem k_X1_fits_53 : look a_X1_fits 53 = vGetR TT 17 3 8 56 := rfl
theorem k_X1_fits_56 : look a_X1_fits 56 = vIload 3 57 := rfl
theorem k_X1_fits_57 : look a_X1_fits 57 = vI 3 58 := rfl
theorem k_X1_fits_58 : look a_X1_fits 58 = vIadd 59 := rfl
theorem k_X1_fits_59 : look a_X1_fits 59 = vIald TT 60 := rfl
theorem k_X1_fits_60 : look a_X1_fits 60 = vCallM w_X1_wouldHowl 17 5 63 := rfl
theorem k_X1_fits_63 : look a_X1_fits 63 = vIstore 4 65 := rfl
theorem k_X1_fits_65 : look a_X1_fits 65 = vIload 4 67 := rfl
theorem k_X1_fits_67 : look a_X1_fits 67 = vAload 0 68 := rfl
theorem k_X1_fits_68 : look a_X1_fits 68 = vGetR TT 17 3 8 71 := rfl
theorem k_X1_fits_71 : look a_X1_fits 71 = vIload 3 72 := rfl
theorem k_X1_fits_72 : look a_X1_fits 72 = vI 4 73 := rfl
theorem k_X1_fits_73 : look a_X1_fits 73 = vIadd 74 := rfl
theorem k_X1_fits_74 : look a_X1_fits 74 = vIald TT 75 := rfl
theorem k_X1_fits_75 : look a_X1_fits 75 = vI 1 76 := rfl
theorem k_X1_fits_76 : look a_X1_fits 76 = vIcNe 83 79 := rfl
theorem k_X1_fits_79 : look a_X1_fits 79 = vI 1 80 := rfl
theorem k_X1_fits_80 : look a_X1_fits 80 = vGoto 84 := rfl
theorem k_X1_fits_83 : look a_X1_fits 83 = vI 0 84 := rfl
theorem k_X1_fits_84 : look a_X1_fits 84 = vIcEq 89 87 := rfl
theorem k_X1_fits_87 : look a_X1_fits 87 = vI 0 88 := rfl
theorem k_X1_fits_88 : look a_X1_fits 88 = vZret := rfl
theorem k_X1_fits_89 : look a_X1_fits 89 = vIinc 3 5 92 := rfl
theorem k_X1_fits_92 : look a_X1_fits 92 = vGoto 2 := rfl
theorem k_X1_fits_95 : look a_X1_fits 95 = vI 1 96 := rfl
theorem k_X1_fits_96 : look a_X1_fits 96 = vZret := rfl
theorem o_X1_fits {X : amX} (e1 : XT X = TT) (e2 : XD X = 4) (hB : amB X RX1 cX1_fits (some .boolean) 5) : ∀ pc, amOK X pc (look a_X1_fits pc) := by
  have hT : amTok (XT X) := e1 ▸ TT_ok
  refine look_ok ?_
  unfold a_X1_fits
  refine fc (ok_iconst hB dX1_fits_0) ?_
  refine fc (ok_istore_n hB (by decide) dX1_fits_1) ?_
  refine fc (ok_iload_n hB dX1_fits_2) ?_
  refine fc (ok_aload_n hB dX1_fits_3) ?_
  refine fc (ok_getI hB hT fl_X1_15 rfl rfl (Or.inl af_1_4) dX1_fits_4) ?_
  refine fc (ok_iconst hB dX1_fits_7) ?_
  refine fc (ok_imul hB dX1_fits_8) ?_
  refine fc (ok_icmp_ge hB (t := 95) (by decide) dX1_fits_9) ?_
  refine fc (ok_iload_n hB dX1_fits_12) ?_
  refine fc (ok_aload_n hB dX1_fits_13) ?_
  refine fc (okt_getR e1 hB hT fl_X1_11 rfl af_1_3 at_1_3 (by decide) dX1_fits_14) ?_
  refine fc (okt_arraylength e1 hB dX1_fits_17) ?_
  refine fc (ok_iconst hB dX1_fits_18) ?_
  refine fc (ok_isub hB dX1_fits_19) ?_
  refine fc (ok_icmp_gt hB (t := 95) (by decide) dX1_fits_20) ?_
  refine fc (ok_aload_n hB dX1_fits_23) ?_
  refine fc (okt_getR e1 hB hT fl_X1_11 rfl af_1_3 at_1_3 (by decide) dX1_fits_24) ?_
  refine fc (ok_iload_n hB dX1_fits_27) ?_
  refine fc (okt_iaload e1 hB dX1_fits_28) ?_
  refine fc (ok_iload_n hB dX1_fits_29) ?_
  refine fc (ok_icmp_ne hB (t := 89) (by decide) dX1_fits_30) ?_
  refine fc (ok_aload_n hB dX1_fits_33) ?_
  refine fc (ok_iload_n hB dX1_fits_34) ?_
  refine fc (ok_iload_n hB dX1_fits_35) ?_
  refine fc (ok_aload_n hB dX1_fits_36) ?_
  refine fc (okt_getR e1 hB hT fl_X1_11 rfl af_1_3 at_1_3 (by decide) dX1_fits_37) ?_
  refine fc (ok_iload_n hB dX1_fits_40) ?_
  refine fc (ok_iconst hB dX1_fits_41) ?_
  refine fc (ok_iadd hB dX1_fits_42) ?_
  refine fc (okt_iaload e1 hB dX1_fits_43) ?_
  refine fc (ok_aload_n hB dX1_fits_44) ?_
  refine fc (okt_getR e1 hB hT fl_X1_11 rfl af_1_3 at_1_3 (by decide) dX1_fits_45) ?_
  refine fc (ok_iload_n hB dX1_fits_48) ?_
  refine fc (ok_iconst hB dX1_fits_49) ?_
  refine fc (ok_iadd hB dX1_fits_50) ?_
  refine fc (okt_iaload e1 hB dX1_fits_51) ?_
  refine fc (ok_aload_n hB dX1_fits_52) ?_
  refine fc (okt_getR e1 hB hT fl_X1_11 rfl af_1_3 at_1_3 (by decide) dX1_fits_53) ?_
  refine fc (ok_iload_n hB dX1_fits_56) ?_
  refine fc (ok_iconst hB dX1_fits_57) ?_
  refine fc (ok_iadd hB dX1_fits_58) ?_
  refine fc (okt_iaload e1 hB dX1_fits_59) ?_
  refine fc (ok_callM hB hT (e1 ▸ s_X1_wouldHowl) lk_X1_57 (by rw [e2]; decide) (c := 1) rfl rfl rfl wd_1064 sl_X1_wouldHowl dX1_fits_60) ?_
  refine fc (ok_istore hB (by decide) dX1_fits_63) ?_
  refine fc (ok_iload hB dX1_fits_65) ?_
  refine fc (ok_aload_n hB dX1_fits_67) ?_
  refine fc (okt_getR e1 hB hT fl_X1_11 rfl af_1_3 at_1_3 (by decide) dX1_fits_68) ?_
  refine fc (ok_iload_n hB dX1_fits_71) ?_
  refine fc (ok_iconst hB dX1_fits_72) ?_
  refine fc (ok_iadd hB dX1_fits_73) ?_
  refine fc (okt_iaload e1 hB dX1_fits_74) ?_
  refine fc (ok_iconst hB dX1_fits_75) ?_
  refine fc (ok_icmp_ne hB (t := 83) (by decide) dX1_fits_76) ?_
  refine fc (ok_iconst hB dX1_fits_79) ?_
  refine fc (ok_goto hB (t := 84) (by decide) dX1_fits_80) ?_
  refine fc (ok_iconst hB dX1_fits_83) ?_
  refine fc (ok_icmp_eq hB (t := 89) (by decide) dX1_fits_84) ?_
  refine fc (ok_iconst hB dX1_fits_87) ?_
  refine fc (ok_zret hB dX1_fits_88) ?_
  refine fc (ok_iinc hB (by decide) dX1_fits_89) ?_
  refine fc (ok_goto hB (t := 2) (by decide) dX1_fits_92) ?_
  refine fc (ok_iconst hB dX1_fits_95) ?_
  refine fc (ok_zret hB dX1_fits_96) ?_
  exact fn
def fitP (σ : Mem) (c t n : Int) : Prop := ∀ j : Int, 0 ≤ j → j < n → σ 42 (5 * j) = c → whF σ c t (σ 42 (5 * j + 1)) (σ 42 (5 * j + 2)) (σ 42 (5 * j + 3)) = if σ 42 (5 * j + 4) = 1 then 1 else 0
def cluOk (σ : Mem) : Prop := (0 ≤ σ 41 4 ∧ σ 41 4 ≤ 10) ∧ ∀ j : Int, 0 ≤ j → j < σ 41 4 → InR (σ 42 (5 * j)) ∧ InR (σ 42 (5 * j + 1)) ∧ (0 ≤ σ 42 (5 * j + 2) ∧ σ 42 (5 * j + 2) ≤ 8) ∧ InR (σ 42 (5 * j + 3)) ∧ InR (σ 42 (5 * j + 4))
def inv_fits (σ : Mem) (c t : Int) (n pc : Nat) (ls st : List AV) (σ' : Mem) : Prop := pc = 2 ∧ st = [] ∧ LF σ σ' ∧ ∃ (k : Nat) (v4 : AV), ls = [(17, 41), (0, c), (0, t), (0, 5 * (k : Int)), v4] ∧ (k : Int) + n = σ 41 4 ∧ fitP σ c t k
def w_X1_fits : WP := fun av σ Q => ∃ (c : Int) (t : Int), av = [(17, 41), (0, c), (0, t)] ∧ (0 ≤ c ∧ c < 6 ∧ stOk σ 16 ∧ InR t ∧ (∀ i, 0 ≤ i → i < 6 → InR (σ 18 i)) ∧ cluOk σ ∧ (fitP σ c t (σ 41 4) → ∀ τ, LF σ τ → Q (0, 1) τ) ∧ (¬ fitP σ c t (σ 41 4) → ∀ τ, LF σ τ → Q (0, 0) τ))
theorem w_X1_fits_e (c : Int) (t : Int) (σ : Mem) (Q : AV → Mem → Prop) : w_X1_fits [(17, 41), (0, c), (0, t)] σ Q = (0 ≤ c ∧ c < 6 ∧ stOk σ 16 ∧ InR t ∧ (∀ i, 0 ≤ i → i < 6 → InR (σ 18 i)) ∧ cluOk σ ∧ (fitP σ c t (σ 41 4) → ∀ τ, LF σ τ → Q (0, 1) τ) ∧ (¬ fitP σ c t (σ 41 4) → ∀ τ, LF σ τ → Q (0, 0) τ)) := by
  apply propext; constructor
  · rintro ⟨c', t', h9, hb9⟩; cases h9; exact hb9
  · intro hb9; exact ⟨c, t, rfl, hb9⟩

set_option maxRecDepth 100000 in
set_option maxHeartbeats 4000000 in
theorem s_X1_fits : ∀ av σ Q, w_X1_fits av σ Q → amCall 4 0 0 TT yX1_fits cX1_fits 5 (some .boolean) av σ Q := by
  rintro av σ Q ⟨c, t, rfl, hc0, hc1, hst, ht, hse, hcl, hy, hn⟩
  have hlw := hst.2.2.1
  obtain ⟨⟨f0, f1⟩, hrow⟩ := id hcl
  refine am_m [2] (inv_fits σ c t) (own := RX1) (A := look a_X1_fits) (fun X e1 e2 hB => o_X1_fits e1 e2 hB) rfl (by decide +kernel) rfl rfl ?_ ⟨60, ?_⟩ (w := 5)
  · rintro n pc ls st σ' ⟨rfl, rfl, hF, k, v4, rfl, hk, hfit⟩
    have r41 : σ' 41 = σ 41 := hF 41 (by decide) (by decide) (by decide) (by decide) (by decide)
    have r42 : σ' 42 = σ 42 := hF 42 (by decide) (by decide) (by decide) (by decide) (by decide)
    have r18 : σ' 18 = σ 18 := hF 18 (by decide) (by decide) (by decide) (by decide) (by decide)
    have hS := LF_SF hF
    have hst' := stOk_SF hS hst
    refine ⟨90, ?_⟩
    simp only [↓reduceIte, inR_0, inR_1, inR_m, vSw2_e, swP_n, swP_c, vI_e, vL_e, vNull_e, vIload_e, vLload_e, vAload_e, vIstore_e, vLstore_e, vAstore_e, vIinc_e, vIadd_e, vIsub_e, vImul_e, vIand_e, vIor_e, vIxor_e, vIshl_e, vIshr_e, vIushr_e, vIdiv_e, vIrem_e, vLadd_e, vLsub_e, vLmul_e, vLand_e, vLor_e, vLxor_e, vLdiv_e, vLrem_e, vLushr_e, vLshl_e, vLcmp_e, vIneg_e, vI2l_e, vL2i_e, vI2b_e, vI2c_e, vDup_e, vPop_e, vDup2_e, vGoto_e, vIcEq_e, vIfEq_e, vIcNe_e, vIfNe_e, vIcLt_e, vIfLt_e, vIcGe_e, vIfGe_e, vIcGt_e, vIfGt_e, vIcLe_e, vIfLe_e, vNonnull_e, vSw_e, vGetI_e, vGetL_e, vGetR_e, vPutI_e, vPutZ_e, vPutL_e, vPutR_e, vIald_e, vIald_s, vLald_e, vBald_e, vBald_s, vAald_e, vIast_e, vLast_e, vBast_e, vAast_e, vAlen_e8, vAlen_e9, vAlen_e10, vAlen_e11, vAlen_e5, vAlen_e3, vGets_e, vCompact_e, vLdcS_e, vIret_e, vZret_e, vCret_e, vBret_e, vLret_e, vVret_e, vAret_e, vCallM_e0, vCallMV_e0, vCallS_e0, vCallSV_e0, vCallM_e1, vCallMV_e1, vCallS_e1, vCallSV_e1, vCallM_e2, vCallMV_e2, vCallS_e2, vCallSV_e2, vCallM_e3, vCallMV_e3, vCallS_e3, vCallSV_e3, vCallM_e4, vCallMV_e4, vCallS_e4, vCallSV_e4, vCallM_e5, vCallMV_e5, vCallS_e5, vCallSV_e5, vCallM_e6, vCallMV_e6, vCallS_e6, vCallSV_e6, vCallM_e7, vCallMV_e7, vCallS_e7, vCallSV_e7, vBad_e, vStrVal_e, vStrCod_e, vForm_e, vCallT_e0, vCallT_e1, vCallT_e2, vCopy_e, rf_0_0, rf_0_1, rf_0_2, rf_0_3, rf_0_4, rf_0_7, rf_0_10, rf_0_11, rf_0_12, rf_0_13, rf_0_14, rf_0_15, rf_0_16, rf_1_0, rf_3_0, rf_3_1, rf_6_0, rf_6_1, rf_9_0, rf_9_1, rf_9_3, rf_13_0, rf_13_1, rf_13_2, rf_16_0, rf_16_1, rf_16_2, rf_16_3, rf_21_0, rf_21_1, rf_21_2, rf_21_3, rf_26_0, rf_26_1, rf_26_2, rf_26_3, rf_26_4, rf_26_5, rf_26_6, rf_31_0, rf_31_2, rf_31_5, rf_31_6, rf_36_0, rf_36_1, rf_36_2, rf_36_3, rf_39_0, rf_39_1, rf_39_2, rf_41_0, rf_41_1, rf_41_2, rf_41_3, rf_5000_1, rf_5000_2, rf_5000_3, rf_5000_4, rf_5000_5, rf_5000_15, rf_5000_16, rf_5000_18, rf_5000_19, rf_5000_20, rf_5000_21, rf_5000_22, rf_5000_23, rf_5000_24, rf_5000_25, rf_5000_26, rf_5000_27, rf_5000_36, rf_5000_37, rf_5000_40, rf_5000_41, rf_5000_42, rf_5000_43, rf_5000_44, rf_5000_45, rf_5000_47, rf_5000_52, rf_5000_54, rf_5000_55, rf_100_0, rf_100_1, rf_103_0, rf_103_1, rf_106_0, rf_106_1, rf_109_0, rf_109_1, al_2, al_4, al_5, al_7, al_8, al_10, al_11, al_12, al_14, al_15, al_17, al_18, al_19, al_20, al_22, al_23, al_24, al_25, al_27, al_28, al_29, al_30, al_32, al_33, al_34, al_35, al_37, al_38, al_40, al_42, al_5001, al_5002, al_5003, al_5004, al_5005, al_5006, al_5007, al_5008, al_5009, al_5010, al_5011, al_5012, al_5013, al_5014, al_5015, al_5016, al_5017, al_5018, al_5019, al_5020, al_5021, al_5022, al_5023, al_5024, al_5025, al_5026, al_9000, al_101, al_102, al_104, al_105, al_107, al_108, al_110, al_111, vcs_e, lg_c0, lg_cs, lg_nil, set_c0, set_cs, okst_0, okst_s, acok_n, acok_c, List.contains_nil, List.contains_cons, Bool.or_false, Bool.false_or, Bool.false_eq_true, if_false, if_true, ite_self, ne_eq, true_and, and_true, not_false_eq_true, not_true_eq_false, false_imp_iff, true_imp_iff, Nat.ble_eq, Bool.and_eq_true, reduceCtorEq, or_false, false_or, or_true, true_or, false_and, and_false, and_self, Int.reduceLE, Int.reduceAdd, Int.reduceSub, Int.reduceMul, Int.reduceNeg, Int.reduceLT, Int.reduceEq, Int.reduceNe, Nat.reduceBEq, Nat.reduceBNe, Nat.reduceEqDiff, amCmp_in, amCmp_lt, amCmp_le, amCmp_gt, amCmp_ge, amCmp_eq, amCmp_ne, Nat.reduceLeDiff, Nat.reduceSub, Bool.and_true, Bool.true_and, Bool.and_self, Bool.or_true, Bool.true_or, isRf_3, isRf_4, isRf_5, isRf_8, isRf_9, isRf_10, isRf_11, isRf_15, isRf_16, isRf_17, isRf_18, isRf_19, isRf_20, isRf_21, isRf_22, isRf_23, isRf_24, isRf_25, isRf_26, isRf_27, isRf_28, k_X1_fits_0, k_X1_fits_1, k_X1_fits_2, k_X1_fits_3, k_X1_fits_4, k_X1_fits_7, k_X1_fits_8, k_X1_fits_9, k_X1_fits_12, k_X1_fits_13, k_X1_fits_14, k_X1_fits_17, k_X1_fits_18, k_X1_fits_19, k_X1_fits_20, k_X1_fits_23, k_X1_fits_24, k_X1_fits_27, k_X1_fits_28, k_X1_fits_29, k_X1_fits_30, k_X1_fits_33, k_X1_fits_34, k_X1_fits_35, k_X1_fits_36, k_X1_fits_37, k_X1_fits_40, k_X1_fits_41, k_X1_fits_42, k_X1_fits_43, k_X1_fits_44, k_X1_fits_45, k_X1_fits_48, k_X1_fits_49, k_X1_fits_50, k_X1_fits_51, k_X1_fits_52, k_X1_fits_53, k_X1_fits_56, k_X1_fits_57, k_X1_fits_58, k_X1_fits_59, k_X1_fits_60, k_X1_fits_63, k_X1_fits_65, k_X1_fits_67, k_X1_fits_68, k_X1_fits_71, k_X1_fits_72, k_X1_fits_73, k_X1_fits_74, k_X1_fits_75, k_X1_fits_76, k_X1_fits_79, k_X1_fits_80, k_X1_fits_83, k_X1_fits_84, k_X1_fits_87, k_X1_fits_88, k_X1_fits_89, k_X1_fits_92, k_X1_fits_95, k_X1_fits_96, w_X1_wouldHowl_e, r41, r42, r18, whF_SF hS hlw]
    by_cases hlt : (k : Int) < σ 41 4
    · obtain ⟨g0, g1, g2, g3, g4⟩ := hrow k (by omega) hlt
      have wb := whF_b σ c t (σ 42 (5 * k + 1)) (σ 42 (5 * k + 2)) (σ 42 (5 * k + 3))
      have nx : ∀ τ v, LF σ' τ → (σ 42 (5 * k) = c → whF σ c t (σ 42 (5 * k + 1)) (σ 42 (5 * k + 2)) (σ 42 (5 * k + 3)) = if σ 42 (5 * k + 4) = 1 then 1 else 0) → ∃ k', k' < n ∧ inv_fits σ c t k' 2 [(17, 41), (0, c), (0, t), (0, 5 * (k : Int) + 5), v] [] τ := fun τ v g1 g2 => by
        refine ⟨n - 1, by omega, rfl, rfl, LF_tr hF g1, k + 1, v, ?_, by omega, fun j j0 j1 => ?_⟩
        · rw [show 5 * ((k + 1 : Nat) : Int) = 5 * (k : Int) + 5 by omega]
        · by_cases e : j = k
          · rw [e]; exact g2
          · exact hfit j j0 (by omega)
      have h42 : ∀ τ, LF σ' τ → τ 42 = σ 42 := fun τ hτ => by rw [hτ 42 (by decide) (by decide) (by decide) (by decide) (by decide)]; exact r42
      by_cases c1 : σ 42 (5 * k) = c
      · by_cases c2 : whF σ c t (σ 42 (5 * k + 1)) (σ 42 (5 * k + 2)) (σ 42 (5 * k + 3)) = if σ 42 (5 * k + 4) = 1 then 1 else 0
        · have i9 := fun τ hτ => nx τ (0, whF σ c t (σ 42 (5 * k + 1)) (σ 42 (5 * k + 2)) (σ 42 (5 * k + 3))) hτ (fun _ => c2)
          by_cases c3 : σ 42 (5 * k + 4) = 1
          · rw [if_pos c3] at c2
            simp only [c2] at i9 ⊢
            repeat' (first | assumption | apply And.intro | intro _)
            all_goals first | omega | exact absurd trivial (by assumption) | exact stOk_SF hS hst | exact i9 _ (by assumption) | (have e9 := h42 _ ‹LF σ' _›; simp only [e9] at *; omega)
          · rw [if_neg c3] at c2
            simp only [c2] at i9 ⊢
            repeat' (first | assumption | apply And.intro | intro _)
            all_goals first | omega | exact absurd trivial (by assumption) | exact stOk_SF hS hst | exact i9 _ (by assumption) | (have e9 := h42 _ ‹LF σ' _›; simp only [e9] at *; omega)
        · have hq : ∀ τ, LF σ' τ → Q (0, 0) τ := fun τ hτ => hn (fun g => c2 (g k (by omega) hlt c1)) τ (LF_tr hF hτ)
          by_cases c3 : σ 42 (5 * k + 4) = 1
          · rw [if_pos c3] at c2
            have c2' : whF σ c t (σ 42 (5 * k + 1)) (σ 42 (5 * k + 2)) (σ 42 (5 * k + 3)) = 0 := by omega
            simp only [c2']
            repeat' (first | assumption | apply And.intro | intro _)
            all_goals first | omega | exact absurd trivial (by assumption) | exact stOk_SF hS hst | exact hq _ (by assumption) | (have e9 := h42 _ ‹LF σ' _›; simp only [e9] at *; omega)
          · rw [if_neg c3] at c2
            have c2' : whF σ c t (σ 42 (5 * k + 1)) (σ 42 (5 * k + 2)) (σ 42 (5 * k + 3)) = 1 := by omega
            simp only [c2']
            repeat' (first | assumption | apply And.intro | intro _)
            all_goals first | omega | exact absurd trivial (by assumption) | exact stOk_SF hS hst | exact hq _ (by assumption) | (have e9 := h42 _ ‹LF σ' _›; simp only [e9] at *; omega)
      · have i9 := nx σ' v4 (LF_rf σ') (fun g => absurd g c1)
        repeat' (first | assumption | apply And.intro | intro _)
        all_goals first | omega | exact absurd trivial (by assumption) | exact i9
    · have hh := hy (by rw [show σ 41 4 = (k : Int) by omega]; exact hfit) σ' hF
      repeat' (first | assumption | apply And.intro | intro _)
      all_goals first | omega | exact absurd trivial (by assumption) | exact hh
  · change vcs _ _ _ _ 60 0 [(17, 41), (0, c), (0, t), (6, 0), (6, 0)] [] σ
    simp only [↓reduceIte, inR_0, inR_1, inR_m, vI_e, vL_e, vNull_e, vIload_e, vLload_e, vAload_e, vIstore_e, vLstore_e, vAstore_e, vIinc_e, vIadd_e, vIsub_e, vImul_e, vIand_e, vIor_e, vIxor_e, vIshl_e, vIshr_e, vIushr_e, vIdiv_e, vIrem_e, vLadd_e, vLsub_e, vLmul_e, vLand_e, vLor_e, vLxor_e, vLdiv_e, vLrem_e, vLushr_e, vLshl_e, vLcmp_e, vIneg_e, vI2l_e, vL2i_e, vI2b_e, vI2c_e, vDup_e, vPop_e, vDup2_e, vGoto_e, vIcEq_e, vIfEq_e, vIcNe_e, vIfNe_e, vIcLt_e, vIfLt_e, vIcGe_e, vIfGe_e, vIcGt_e, vIfGt_e, vIcLe_e, vIfLe_e, vNonnull_e, vSw_e, vGetI_e, vGetL_e, vGetR_e, vPutI_e, vPutZ_e, vPutL_e, vPutR_e, vIald_e, vIald_s, vLald_e, vBald_e, vBald_s, vAald_e, vIast_e, vLast_e, vBast_e, vAast_e, vAlen_e8, vAlen_e9, vAlen_e10, vAlen_e11, vAlen_e5, vAlen_e3, vGets_e, vCompact_e, vLdcS_e, vIret_e, vZret_e, vCret_e, vBret_e, vLret_e, vVret_e, vAret_e, vCallM_e0, vCallMV_e0, vCallS_e0, vCallSV_e0, vCallM_e1, vCallMV_e1, vCallS_e1, vCallSV_e1, vCallM_e2, vCallMV_e2, vCallS_e2, vCallSV_e2, vCallM_e3, vCallMV_e3, vCallS_e3, vCallSV_e3, vCallM_e4, vCallMV_e4, vCallS_e4, vCallSV_e4, vCallM_e5, vCallMV_e5, vCallS_e5, vCallSV_e5, vCallM_e6, vCallMV_e6, vCallS_e6, vCallSV_e6, vCallM_e7, vCallMV_e7, vCallS_e7, vCallSV_e7, vBad_e, vStrVal_e, vStrCod_e, vForm_e, vCallT_e0, vCallT_e1, vCallT_e2, vCopy_e, rf_0_0, rf_0_1, rf_0_2, rf_0_3, rf_0_4, rf_0_7, rf_0_10, rf_0_11, rf_0_12, rf_0_13, rf_0_14, rf_0_15, rf_0_16, rf_1_0, rf_3_0, rf_3_1, rf_6_0, rf_6_1, rf_9_0, rf_9_1, rf_9_3, rf_13_0, rf_13_1, rf_13_2, rf_16_0, rf_16_1, rf_16_2, rf_16_3, rf_21_0, rf_21_1, rf_21_2, rf_21_3, rf_26_0, rf_26_1, rf_26_2, rf_26_3, rf_26_4, rf_26_5, rf_26_6, rf_31_0, rf_31_2, rf_31_5, rf_31_6, rf_36_0, rf_36_1, rf_36_2, rf_36_3, rf_39_0, rf_39_1, rf_39_2, rf_41_0, rf_41_1, rf_41_2, rf_41_3, rf_5000_1, rf_5000_2, rf_5000_3, rf_5000_4, rf_5000_5, rf_5000_15, rf_5000_16, rf_5000_18, rf_5000_19, rf_5000_20, rf_5000_21, rf_5000_22, rf_5000_23, rf_5000_24, rf_5000_25, rf_5000_26, rf_5000_27, rf_5000_36, rf_5000_37, rf_5000_40, rf_5000_41, rf_5000_42, rf_5000_43, rf_5000_44, rf_5000_45, rf_5000_47, rf_5000_52, rf_5000_54, rf_5000_55, rf_100_0, rf_100_1, rf_103_0, rf_103_1, rf_106_0, rf_106_1, rf_109_0, rf_109_1, al_2, al_4, al_5, al_7, al_8, al_10, al_11, al_12, al_14, al_15, al_17, al_18, al_19, al_20, al_22, al_23, al_24, al_25, al_27, al_28, al_29, al_30, al_32, al_33, al_34, al_35, al_37, al_38, al_40, al_42, al_5001, al_5002, al_5003, al_5004, al_5005, al_5006, al_5007, al_5008, al_5009, al_5010, al_5011, al_5012, al_5013, al_5014, al_5015, al_5016, al_5017, al_5018, al_5019, al_5020, al_5021, al_5022, al_5023, al_5024, al_5025, al_5026, al_9000, al_101, al_102, al_104, al_105, al_107, al_108, al_110, al_111, vcs_e, lg_c0, lg_cs, lg_nil, set_c0, set_cs, okst_0, okst_s, acok_n, acok_c, List.contains_nil, List.contains_cons, Bool.or_false, Bool.false_or, Bool.false_eq_true, if_false, if_true, ite_self, ne_eq, true_and, and_true, not_false_eq_true, not_true_eq_false, false_imp_iff, true_imp_iff, Nat.ble_eq, Bool.and_eq_true, reduceCtorEq, or_false, false_or, or_true, true_or, false_and, and_false, and_self, Int.reduceLE, Int.reduceAdd, Int.reduceSub, Int.reduceMul, Int.reduceNeg, Int.reduceLT, Int.reduceEq, Int.reduceNe, Nat.reduceBEq, Nat.reduceBNe, Nat.reduceEqDiff, amCmp_in, amCmp_lt, amCmp_le, amCmp_gt, amCmp_ge, amCmp_eq, amCmp_ne, Nat.reduceLeDiff, Nat.reduceSub, Bool.and_true, Bool.true_and, Bool.and_self, Bool.or_true, Bool.true_or, isRf_3, isRf_4, isRf_5, isRf_8, isRf_9, isRf_10, isRf_11, isRf_15, isRf_16, isRf_17, isRf_18, isRf_19, isRf_20, isRf_21, isRf_22, isRf_23, isRf_24, isRf_25, isRf_26, isRf_27, isRf_28, k_X1_fits_0, k_X1_fits_1, k_X1_fits_2, k_X1_fits_3, k_X1_fits_4, k_X1_fits_7, k_X1_fits_8, k_X1_fits_9, k_X1_fits_12, k_X1_fits_13, k_X1_fits_14, k_X1_fits_17, k_X1_fits_18, k_X1_fits_19, k_X1_fits_20, k_X1_fits_23, k_X1_fits_24, k_X1_fits_27, k_X1_fits_28, k_X1_fits_29, k_X1_fits_30, k_X1_fits_33, k_X1_fits_34, k_X1_fits_35, k_X1_fits_36, k_X1_fits_37, k_X1_fits_40, k_X1_fits_41, k_X1_fits_42, k_X1_fits_43, k_X1_fits_44, k_X1_fits_45, k_X1_fits_48, k_X1_fits_49, k_X1_fits_50, k_X1_fits_51, k_X1_fits_52, k_X1_fits_53, k_X1_fits_56, k_X1_fits_57, k_X1_fits_58, k_X1_fits_59, k_X1_fits_60, k_X1_fits_63, k_X1_fits_65, k_X1_fits_67, k_X1_fits_68, k_X1_fits_71, k_X1_fits_72, k_X1_fits_73, k_X1_fits_74, k_X1_fits_75, k_X1_fits_76, k_X1_fits_79, k_X1_fits_80, k_X1_fits_83, k_X1_fits_84, k_X1_fits_87, k_X1_fits_88, k_X1_fits_89, k_X1_fits_92, k_X1_fits_95, k_X1_fits_96]
    exact ⟨(σ 41 4).toNat, rfl, rfl, LF_rf σ, 0, _, rfl, by omega, fun j j0 j1 => by omega⟩
