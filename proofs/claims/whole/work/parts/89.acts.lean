/-! ArmchairHouse: EVENINGS, STEPS, draws -/
theorem lush33 (x : Int) : 0 ≤ amLushr x 33 ∧ amLushr x 33 < 2147483648 := by
  unfold amLushr
  have e : ((Int32.ofInt 33).toInt64.toUInt64 &&& Int64.toUInt64 63) = 33 := by decide
  rw [e]
  generalize (Int64.ofInt x).toUInt64 = u
  have h1 : (u >>> 33).toNat = u.toNat / 2 ^ 33 := by
    rw [UInt64.toNat_shiftRight, Nat.shiftRight_eq_div_pow]; rfl
  have h2 : u.toNat < 2 ^ 64 := u.toNat_lt
  have h3 : (u >>> 33).toNat < 2 ^ 31 := by omega
  have h4 : (u >>> 33).toInt64.toInt = ((u >>> 33).toNat : Int) := by
    show (u >>> 33).toBitVec.toInt = _
    rw [BitVec.toInt_eq_toNat_of_lt]
    · rfl
    · show 2 * (u >>> 33).toNat < 2 ^ 64; omega
  rw [h4]; omega
/-- the rows on which PLAYS hang -/
def SP (σ τ : Mem) (a : Int) : Prop := τ (6 + 1) = σ (6 + 1) ∧ τ (6 + 2) = σ (6 + 2) ∧ τ a = σ a ∧ τ (a + 1) = σ (a + 1) ∧ τ (a + 2) = σ (a + 2) ∧ τ 26 1 = σ 26 1 ∧ (isLw (σ 26 1) → τ (σ 26 1 + 1) = σ (σ 26 1 + 1))
theorem SP_lawOk {σ τ : Mem} {a : Int} (h : SP σ τ a) (hl : lawOk σ) : lawOk τ := by
  obtain ⟨h1, h2, h3, h4, h5, h6, h7⟩ := h
  unfold lawOk
  rw [h6]
  rcases hl with hl | ⟨q1, q2⟩
  · exact Or.inl hl
  · refine Or.inr ⟨q1, ?_⟩
    rw [h7 q1]; exact q2
theorem SP_rkV {σ τ : Mem} {a : Int} (h : SP σ τ a) (hl : lawOk σ) (x1 x2 x3 x4 x5 x6 : Int) : rkV τ x1 x2 x3 x4 x5 x6 = rkV σ x1 x2 x3 x4 x5 x6 := by
  obtain ⟨h1, h2, h3, h4, h5, h6, h7⟩ := h
  unfold rkV lwV
  rw [h6]
  rcases hl with hl | ⟨q1, q2⟩
  · rw [if_pos hl, if_pos hl]
  · rw [h7 q1]
theorem SP_pval {σ τ : Mem} {a : Int} (h : SP σ τ a) (x y z : Int) : pval τ 6 x y z = pval σ 6 x y z := pval_cong h.1 x y z
theorem SP_pcnt {σ τ : Mem} {a : Int} (h : SP σ τ a) (x : Int) : pcnt τ 6 x = pcnt σ 6 x := pcnt_cong h.2.1 x
theorem SP_planB {σ τ : Mem} {a : Int} (h : SP σ τ a) (hp : planB σ 6) : planB τ 6 := by unfold planB; rw [h.1, h.2.1]; exact hp
theorem SP_stOk {σ τ : Mem} {a : Int} (h : SP σ τ a) (hs : stOk σ a) : stOk τ a := by
  obtain ⟨ha, hB, hl, q1, q2, q3⟩ := hs
  exact ⟨ha, SP_planB h hB, SP_lawOk h hl, by rw [h.2.2.2.1]; exact q1, by rw [h.2.2.1]; exact q2, by rw [h.2.2.1]; exact q3⟩
theorem SP_gmv {σ τ : Mem} {a : Int} (h : SP σ τ a) (hs : stOk σ a) (t p : Int) : gmv τ a t p = gmv σ a t p := by
  funext i n k
  unfold gmv
  rw [h.2.2.1, h.2.2.2.1, SP_pval h, SP_pval h, SP_rkV h hs.2.2.1]
theorem SP_pFl {σ τ : Mem} {a : Int} (h : SP σ τ a) (hs : stOk σ a) (p : Int) : pFl τ a p = pFl σ a p ∧ pOa τ a p = pOa σ a p := by
  constructor
  · funext i; unfold pFl; rw [h.2.2.2.2.1, SP_gmv h hs, SP_pval h, SP_pval h, SP_pcnt h]
  · funext i; unfold pOa; rw [h.2.2.2.2.1, SP_gmv h hs, SP_pval h, SP_pval h, SP_pcnt h]
theorem rmM_SP (σ : Mem) : SP σ (rmM σ) 16 :=
  ⟨rmM_o σ (by decide) (by decide), rmM_o σ (by decide) (by decide), rmM_o σ (by decide) (by decide), rmM_o σ (by decide) (by decide), rmM_o σ (by decide) (by decide), by rw [rmM_o σ (by decide) (by decide)], fun h => rmM_o σ (by unfold isLw at h; omega) (by unfold isLw at h; omega)⟩
def wrM (υ : Mem) (p m o : Int) : Mem := up (up υ 32 (υ 31 1 % 128) (pck p m o)) 31 1 (υ 31 1 + 1)
theorem wrM_e (υ : Mem) (p m o : Int) : up (up υ 32 (υ 31 1 % 128) (pck p m o)) 31 1 (υ 31 1 + 1) = wrM υ p m o := rfl
abbrev evMv (σ : Mem) (p : Int) : Int := sumC (pFl σ 16 p) (pcnt σ 6 2).toNat
abbrev evOb (σ : Mem) (p : Int) : Int := outB (pOa σ 16 p) (pcnt σ 6 2).toNat
/-- an EVENING of the log -/
def evS (σ : Mem) (p : Int) (τ : Mem) : Prop := ∃ υ, shP (rmM σ) υ 16 p ∧ τ = wrM υ p (evMv σ p) (evOb σ p)
/-- what ACTS need -/
def xA (σ : Mem) : Prop := xS σ ∧ pastOk σ ∧ auS σ 16 ∧ (∀ i, 0 ≤ i → i < pcnt σ 6 2 → 0 ≤ σ 20 i ∧ σ 20 i ≤ 9999) ∧ pcnt σ 6 1 ≤ 4 ∧ (0 ≤ σ 16 5 ∧ σ 16 5 ≤ 30) ∧ ∀ i, 0 ≤ i → i < pcnt σ 6 2 → 0 ≤ σ 19 i ∧ σ 19 i ≤ 99

theorem wd_757 : Cond.methodLink RX11 213 yX11_canShow ∈ TBL := tb_tab (List.mem_of_getElem? (i := 757) (by decide +kernel)) rfl
theorem wd_760 : Cond.code yX11_canShow cX11_canShow 3 (some .boolean) ∈ TBL := tb_tab (List.mem_of_getElem? (i := 760) (by decide +kernel)) rfl
theorem lk_X11_213 : amLk RX11 213 yX11_canShow cX11_canShow 3 (some .boolean) 2 := ⟨wd_757, wd_1, wd_760, by decide +kernel, by decide +kernel, by decide⟩
theorem wd_759 : Cond.instanceMethod yX11_canShow ∈ TBL := tb_tab (List.mem_of_getElem? (i := 759) (by decide +kernel)) rfl
theorem sl_X11_canShow : Cond.selects RX11 yX11_canShow yX11_canShow ∈ TBL := tb_sel (List.mem_of_getElem? (i := 22) (by decide +kernel)) rfl
theorem wd_771 : Cond.methodLink RX11 221 yX9_show ∈ TBL := tb_tab (List.mem_of_getElem? (i := 771) (by decide +kernel)) rfl
theorem wd_774 : Cond.code yX9_show cX9_show 4 (some .int) ∈ TBL := tb_tab (List.mem_of_getElem? (i := 774) (by decide +kernel)) rfl
theorem lk_X11_221 : amLk RX11 221 yX9_show cX9_show 4 (some .int) 2 := ⟨wd_771, wd_7, wd_774, by decide +kernel, by decide +kernel, by decide⟩
theorem wd_772 : Cond.instanceMethod yX9_show ∈ TBL := tb_tab (List.mem_of_getElem? (i := 772) (by decide +kernel)) rfl
theorem wd_773 : Cond.selects RX9 yX9_show yX9_show ∈ TBL := tb_tab (List.mem_of_getElem? (i := 773) (by decide +kernel)) rfl
theorem wd_860 : Cond.methodLink RX11 228 yX5_write ∈ TBL := tb_tab (List.mem_of_getElem? (i := 860) (by decide +kernel)) rfl
theorem wd_863 : Cond.code yX5_write cX5_write 4 (none) ∈ TBL := tb_tab (List.mem_of_getElem? (i := 863) (by decide +kernel)) rfl
theorem lk_X11_228 : amLk RX11 228 yX5_write cX5_write 4 (none) 3 := ⟨wd_860, wd_8, wd_863, by decide +kernel, by decide +kernel, by decide⟩
theorem wd_861 : Cond.instanceMethod yX5_write ∈ TBL := tb_tab (List.mem_of_getElem? (i := 861) (by decide +kernel)) rfl
theorem wd_862 : Cond.selects RX5 yX5_write yX5_write ∈ TBL := tb_tab (List.mem_of_getElem? (i := 862) (by decide +kernel)) rfl
def a_X11_evening : AC := [(0, vAload 0 1), (1, vAload 0 2), (2, vGetR TT 27 10 16 5), (5, vIload 1 6), (6, vCallM w_X11_canShow 27 2 9), (9, vIfNe 14 12), (12, vI (-1) 13), (13, vIret), (14, vAload 0 15), (15, vGetR TT 27 13 21 18), (18, vAload 0 19), (19, vGetR TT 27 10 16 22), (22, vCallMV w_X5_remember 21 1 25), (25, vAload 0 26), (26, vGetR TT 27 12 25 29), (29, vAload 0 30), (30, vGetR TT 27 10 16 33), (33, vIload 1 34), (34, vCallM w_X9_show 25 2 37), (37, vIstore 2 38), (38, vAload 0 39), (39, vGetR TT 27 13 21 42), (42, vIload 1 43), (43, vIload 2 44), (44, vAload 0 45), (45, vGetR TT 27 12 25 48), (48, vCallM w_X9_outBits 25 0 51), (51, vCallMV w_X5_write 21 3 54), (54, vIload 2 55), (55, vIret)]
theorem k_X11_evening_0 : look a_X11_evening 0 = vAload 0 1 := rfl
theorem k_X11_evening_1 : look a_X11_evening 1 = vAload 0 2 := rfl
theorem k_X11_evening_2 : look a_X11_evening 2 = vGetR TT 27 10 16 5 := rfl
theorem k_X11_evening_5 : look a_X11_evening 5 = vIload 1 6 := rfl
theorem k_X11_evening_6 : look a_X11_evening 6 = vCallM w_X11_canShow 27 2 9 := rfl
theorem k_X11_evening_9 : look a_X11_evening 9 = vIfNe 14 12 := rfl
theorem k_X11_evening_12 : look a_X11_evening 12 = vI (-1) 13 := rfl
theorem k_X11_evening_13 : look a_X11_evening 13 = vIret := rfl
theorem k_X11_evening_14 : look a_X11_evening 14 = vAload 0 15 := rfl
theorem k_X11_evening_15 : look a_X11_evening 15 = vGetR TT 27 13 21 18 := rfl
theorem k_X11_evening_18 : look a_X11_evening 18 = vAload 0 19 := rfl
theorem k_X11_evening_19 : look a_X11_evening 19 = vGetR TT 27 10 16 22 := rfl
theorem k_X11_evening_22 : look a_X11_evening 22 = vCallMV w_X5_remember 21 1 25 := rfl
theorem k_X11_evening_25 : look a_X11_evening 25 = vAload 0 26 := rfl
theorem k_X11_evening_26 : look a_X11_evening 26 = vGetR TT 27 12 25 29 := rfl
theorem k_X11_evening_29 : look a_X11_evening 29 = vAload 0 30 := rfl
theorem k_X11_evening_30 : look a_X11_evening 30 = vGetR TT 27 10 16 33 := rfl
theorem k_X11_evening_33 : look a_X11_evening 33 = vIload 1 34 := rfl
theorem k_X11_evening_34 : look a_X11_evening 34 = vCallM w_X9_show 25 2 37 := rfl
theorem k_X11_evening_37 : look a_X11_evening 37 = vIstore 2 38 := rfl
theorem k_X11_evening_38 : look a_X11_evening 38 = vAload 0 39 := rfl
theorem k_X11_evening_39 : look a_X11_evening 39 = vGetR TT 27 13 21 42 := rfl
theorem k_X11_evening_42 : look a_X11_evening 42 = vIload 1 43 := rfl
theorem k_X11_evening_43 : look a_X11_evening 43 = vIload 2 44 := rfl
theorem k_X11_evening_44 : look a_X11_evening 44 = vAload 0 45 := rfl
theorem k_X11_evening_45 : look a_X11_evening 45 = vGetR TT 27 12 25 48 := rfl
theorem k_X11_evening_48 : look a_X11_evening 48 = vCallM w_X9_outBits 25 0 51 := rfl
theorem k_X11_evening_51 : look a_X11_evening 51 = vCallMV w_X5_write 21 3 54 := rfl
theorem k_X11_evening_54 : look a_X11_evening 54 = vIload 2 55 := rfl
theorem k_X11_evening_55 : look a_X11_evening 55 = vIret := rfl
theorem o_X11_evening {X : amX} (e1 : XT X = TT) (e2 : XD X = 7) (hB : amB X RX11 cX11_evening (some .int) 3) : ∀ pc, amOK X pc (look a_X11_evening pc) := by
  have hT : amTok (XT X) := e1 ▸ TT_ok
  refine look_ok ?_
  unfold a_X11_evening
  refine fc (ok_aload_n hB dX11_evening_0) ?_
  refine fc (ok_aload_n hB dX11_evening_1) ?_
  refine fc (okt_getR e1 hB hT fl_X11_65 rfl af_11_10 at_11_10 (by decide) dX11_evening_2) ?_
  refine fc (ok_iload_n hB dX11_evening_5) ?_
  refine fc (ok_callM hB hT (e1 ▸ s_X11_canShow) lk_X11_213 (by rw [e2]; decide) (c := 11) rfl rfl rfl wd_759 sl_X11_canShow dX11_evening_6) ?_
  refine fc (ok_if_ne hB (t := 14) (by decide) dX11_evening_9) ?_
  refine fc (ok_iconst hB dX11_evening_12) ?_
  refine fc (ok_iret hB dX11_evening_13) ?_
  refine fc (ok_aload_n hB dX11_evening_14) ?_
  refine fc (okt_getR e1 hB hT fl_X11_84 rfl af_11_13 at_11_13 (by decide) dX11_evening_15) ?_
  refine fc (ok_aload_n hB dX11_evening_18) ?_
  refine fc (okt_getR e1 hB hT fl_X11_65 rfl af_11_10 at_11_10 (by decide) dX11_evening_19) ?_
  refine fc (ok_callMV hB hT (e1 ▸ s_X5_remember) lk_X11_217 (by rw [e2]; decide) (c := 5) rfl rfl rfl wd_762 wd_763 dX11_evening_22) ?_
  refine fc (ok_aload_n hB dX11_evening_25) ?_
  refine fc (okt_getR e1 hB hT fl_X11_77 rfl af_11_12 at_11_12 (by decide) dX11_evening_26) ?_
  refine fc (ok_aload_n hB dX11_evening_29) ?_
  refine fc (okt_getR e1 hB hT fl_X11_65 rfl af_11_10 at_11_10 (by decide) dX11_evening_30) ?_
  refine fc (ok_iload_n hB dX11_evening_33) ?_
  refine fc (ok_callM hB hT (e1 ▸ s_X9_show) lk_X11_221 (by rw [e2]; decide) (c := 9) rfl rfl rfl wd_772 wd_773 dX11_evening_34) ?_
  refine fc (ok_istore_n hB (by decide) dX11_evening_37) ?_
  refine fc (ok_aload_n hB dX11_evening_38) ?_
  refine fc (okt_getR e1 hB hT fl_X11_84 rfl af_11_13 at_11_13 (by decide) dX11_evening_39) ?_
  refine fc (ok_iload_n hB dX11_evening_42) ?_
  refine fc (ok_iload_n hB dX11_evening_43) ?_
  refine fc (ok_aload_n hB dX11_evening_44) ?_
  refine fc (okt_getR e1 hB hT fl_X11_77 rfl af_11_12 at_11_12 (by decide) dX11_evening_45) ?_
  refine fc (ok_callM hB hT (e1 ▸ s_X9_outBits) lk_X11_225 (by rw [e2]; decide) (c := 9) rfl rfl rfl wd_857 wd_858 dX11_evening_48) ?_
  refine fc (ok_callMV hB hT (e1 ▸ s_X5_write) lk_X11_228 (by rw [e2]; decide) (c := 5) rfl rfl rfl wd_861 wd_862 dX11_evening_51) ?_
  refine fc (ok_iload_n hB dX11_evening_54) ?_
  refine fc (ok_iret hB dX11_evening_55) ?_
  exact fn

def w_X11_evening : WP := fun av σ Q => ∃ (p : Int), av = [(27, 0), (0, p)] ∧ (InR p ∧ xA σ ∧ (¬ (0 ≤ p ∧ p < pcnt σ 6 1 ∧ σ 16 6 < 999) → Q (0, -1) σ) ∧ (0 ≤ p ∧ p < pcnt σ 6 1 ∧ σ 16 6 < 999 → ∀ τ, evS σ p τ → Q (0, evMv σ p) τ))
theorem w_X11_evening_e (p : Int) (σ : Mem) (Q : AV → Mem → Prop) : w_X11_evening [(27, 0), (0, p)] σ Q = (InR p ∧ xA σ ∧ (¬ (0 ≤ p ∧ p < pcnt σ 6 1 ∧ σ 16 6 < 999) → Q (0, -1) σ) ∧ (0 ≤ p ∧ p < pcnt σ 6 1 ∧ σ 16 6 < 999 → ∀ τ, evS σ p τ → Q (0, evMv σ p) τ)) := by
  apply propext; constructor
  · rintro ⟨p', h9, hb9⟩; cases h9; exact hb9
  · intro hb9; exact ⟨p, rfl, hb9⟩
theorem sh_post {σ υ : Mem} {p : Int} (hst : stOk σ 16) (h9 : pval σ 6 1 p 3 ≤ 9) (h : shP (rmM σ) υ 16 p) : pcnt υ 6 2 = pcnt σ 6 2 ∧ outB (υ 30) (pcnt σ 6 2).toNat = evOb σ p ∧ (∀ i, 0 ≤ i → i < pcnt σ 6 2 → InR (υ 30 i)) ∧ υ 31 1 = σ 31 1 ∧ sumC (pFl (rmM σ) 16 p) (pcnt (rmM σ) 6 2).toNat = evMv σ p := by
  have hP := rmM_SP σ
  have hB := hst.2.1
  have c2 := pcnt_b hB 2
  obtain ⟨h1, h2, h3, h4, h5, h6⟩ := h
  obtain ⟨f1, f2⟩ := SP_pFl hP hst p
  have pc2 : pcnt (rmM σ) 6 2 = pcnt σ 6 2 := SP_pcnt hP 2
  rw [pc2, f1, f2] at h6
  have e8 : υ (6 + 2) = rmM σ (6 + 2) := h1 _ (by decide) (by decide) (by decide) (by decide) (by decide) (by decide) (by decide) (by decide) (by decide) (by decide) (by decide) (by decide)
  have e31 : υ 31 = rmM σ 31 := h1 _ (by decide) (by decide) (by decide) (by decide) (by decide) (by decide) (by decide) (by decide) (by decide) (by decide) (by decide) (by decide)
  refine ⟨by rw [pcnt_cong e8]; exact pc2, outB_cong (fun i i0 i1 => (h6 i i0 (by omega)).2), fun i i0 i1 => ?_, ?_, by rw [f1, pc2]⟩
  · rw [(h6 i i0 i1).2]; have := pOa_b (a := 16) (i := i) hB h9; exact ⟨by omega, by omega⟩
  · rw [e31]; unfold rmM; rw [up_nj _ (by decide), up_nj _ (by decide), up_na _ (by decide), savR_o _ (by decide)]
theorem evMv_b {σ : Mem} {p : Int} (hst : stOk σ 16) (h9 : pval σ 6 1 p 3 ≤ 9) : (0 ≤ evMv σ p ∧ evMv σ p ≤ 6000) ∧ 0 ≤ evOb σ p ∧ evOb σ p < 64 := by
  have hB := hst.2.1
  have c2 := pcnt_b hB 2
  have := sumC_b (f := pFl σ 16 p) (c := 891) (n := (pcnt σ 6 2).toNat) (fun j j0 j1 => pFl_b (a := 16) hB h9 j0 (by omega))
  have := gb_64 (fun i => decide (pOa σ 16 p i ≠ -1)) (n := (pcnt σ 6 2).toNat) (by omega)
  unfold evMv evOb outB; omega
set_option maxRecDepth 100000 in
set_option maxHeartbeats 4000000 in
theorem s_X11_evening : ∀ av σ Q, w_X11_evening av σ Q → amCall 7 0 0 TT yX11_evening cX11_evening 3 (some .int) av σ Q := by
  rintro av σ Q ⟨p, rfl, hp, ⟨⟨hst, hse, h9, hsi⟩, hpa, hau, hte, hp4, hpr, hmo⟩, h1, h2⟩
  have hB := hst.2.1
  have c1 := pcnt_b hB 1
  have c2 := pcnt_b hB 2
  have h9p := h9 p
  have hP := rmM_SP σ
  have hst' := SP_stOk hP hst
  have pc2 : pcnt (rmM σ) 6 2 = pcnt σ 6 2 := SP_pcnt hP 2
  have pc3 : pcnt (rmM σ) 6 3 = pcnt σ 6 3 := SP_pcnt hP 3
  have o18 : rmM σ 18 = σ 18 := rmM_o σ (by decide) (by decide)
  have o20 : rmM σ 20 = σ 20 := rmM_o σ (by decide) (by decide)
  obtain ⟨p1, p2, p3⟩ := id hpa
  have ev := hst.2.2.2.2.1
  have e1 : (16 : Int) + 2 = 18 := rfl
  have e2 : (16 : Int) + 4 = 20 := rfl
  obtain ⟨mb1, mb2⟩ := evMv_b hst h9p
  have hte' : ∀ i, 0 ≤ i → i < pcnt σ 6 2 → (0 ≤ σ 18 i ∧ σ 18 i < pcnt σ 6 3) ∧ 0 ≤ σ 20 i ∧ σ 20 i ≤ 9999 := fun i i0 i1 => ⟨hsi i i0 i1, hte i i0 i1⟩
  refine am_m0 (own := RX11) (A := look a_X11_evening) (fun X e1 e2 hB => o_X11_evening e1 e2 hB) rfl (by decide +kernel) rfl rfl 190 (w := 3) ?_
  change vcs _ _ _ _ 190 0 [(27, 0), (0, p), (6, 0)] [] σ
  simp only [↓reduceIte, inR_0, inR_1, inR_m, vSw2_e, swP_n, swP_c, vI_e, vL_e, vNull_e, vIload_e, vLload_e, vAload_e, vIstore_e, vLstore_e, vAstore_e, vIinc_e, vIadd_e, vIsub_e, vImul_e, vIand_e, vIor_e, vIxor_e, vIshl_e, vIshr_e, vIushr_e, vIdiv_e, vIrem_e, vLadd_e, vLsub_e, vLmul_e, vLand_e, vLor_e, vLxor_e, vLdiv_e, vLrem_e, vLushr_e, vLshl_e, vLcmp_e, vIneg_e, vI2l_e, vL2i_e, vI2b_e, vI2c_e, vDup_e, vPop_e, vDup2_e, vGoto_e, vIcEq_e, vIfEq_e, vIcNe_e, vIfNe_e, vIcLt_e, vIfLt_e, vIcGe_e, vIfGe_e, vIcGt_e, vIfGt_e, vIcLe_e, vIfLe_e, vNonnull_e, vSw_e, vGetI_e, vGetL_e, vGetR_e, vPutI_e, vPutZ_e, vPutL_e, vPutR_e, vIald_e, vIald_s, vLald_e, vBald_e, vBald_s, vAald_e, vIast_e, vLast_e, vBast_e, vAast_e, vAlen_e8, vAlen_e9, vAlen_e10, vAlen_e11, vAlen_e5, vAlen_e3, vGets_e, vCompact_e, vLdcS_e, vIret_e, vZret_e, vCret_e, vBret_e, vLret_e, vVret_e, vAret_e, vCallM_e0, vCallMV_e0, vCallS_e0, vCallSV_e0, vCallM_e1, vCallMV_e1, vCallS_e1, vCallSV_e1, vCallM_e2, vCallMV_e2, vCallS_e2, vCallSV_e2, vCallM_e3, vCallMV_e3, vCallS_e3, vCallSV_e3, vCallM_e4, vCallMV_e4, vCallS_e4, vCallSV_e4, vCallM_e5, vCallMV_e5, vCallS_e5, vCallSV_e5, vCallM_e6, vCallMV_e6, vCallS_e6, vCallSV_e6, vCallM_e7, vCallMV_e7, vCallS_e7, vCallSV_e7, vBad_e, vStrVal_e, vStrCod_e, vForm_e, vCallT_e0, vCallT_e1, vCallT_e2, vCopy_e, rf_0_0, rf_0_1, rf_0_2, rf_0_3, rf_0_4, rf_0_7, rf_0_10, rf_0_11, rf_0_12, rf_0_13, rf_0_14, rf_0_15, rf_0_16, rf_1_0, rf_3_0, rf_3_1, rf_6_0, rf_6_1, rf_9_0, rf_9_1, rf_9_3, rf_13_0, rf_13_1, rf_13_2, rf_16_0, rf_16_1, rf_16_2, rf_16_3, rf_21_0, rf_21_1, rf_21_2, rf_21_3, rf_26_0, rf_26_1, rf_26_2, rf_26_3, rf_26_4, rf_26_5, rf_26_6, rf_31_0, rf_31_2, rf_31_5, rf_31_6, rf_36_0, rf_36_1, rf_36_2, rf_36_3, rf_39_0, rf_39_1, rf_39_2, rf_41_0, rf_41_1, rf_41_2, rf_41_3, rf_5000_1, rf_5000_2, rf_5000_3, rf_5000_4, rf_5000_5, rf_5000_15, rf_5000_16, rf_5000_18, rf_5000_19, rf_5000_20, rf_5000_21, rf_5000_22, rf_5000_23, rf_5000_24, rf_5000_25, rf_5000_26, rf_5000_27, rf_5000_36, rf_5000_37, rf_5000_40, rf_5000_41, rf_5000_42, rf_5000_43, rf_5000_44, rf_5000_45, rf_5000_47, rf_5000_52, rf_5000_54, rf_5000_55, rf_100_0, rf_100_1, rf_103_0, rf_103_1, rf_106_0, rf_106_1, rf_109_0, rf_109_1, al_2, al_4, al_5, al_7, al_8, al_10, al_11, al_12, al_14, al_15, al_17, al_18, al_19, al_20, al_22, al_23, al_24, al_25, al_27, al_28, al_29, al_30, al_32, al_33, al_34, al_35, al_37, al_38, al_40, al_42, al_5001, al_5002, al_5003, al_5004, al_5005, al_5006, al_5007, al_5008, al_5009, al_5010, al_5011, al_5012, al_5013, al_5014, al_5015, al_5016, al_5017, al_5018, al_5019, al_5020, al_5021, al_5022, al_5023, al_5024, al_5025, al_5026, al_9000, al_101, al_102, al_104, al_105, al_107, al_108, al_110, al_111, vcs_e, lg_c0, lg_cs, lg_nil, set_c0, set_cs, okst_0, okst_s, acok_n, acok_c, List.contains_nil, List.contains_cons, Bool.or_false, Bool.false_or, Bool.false_eq_true, if_false, if_true, ite_self, ne_eq, true_and, and_true, not_false_eq_true, not_true_eq_false, false_imp_iff, true_imp_iff, Nat.ble_eq, Bool.and_eq_true, reduceCtorEq, or_false, false_or, or_true, true_or, false_and, and_false, and_self, Int.reduceLE, Int.reduceAdd, Int.reduceSub, Int.reduceMul, Int.reduceNeg, Int.reduceLT, Int.reduceEq, Int.reduceNe, Nat.reduceBEq, Nat.reduceBNe, Nat.reduceEqDiff, amCmp_in, amCmp_lt, amCmp_le, amCmp_gt, amCmp_ge, amCmp_eq, amCmp_ne, Nat.reduceLeDiff, Nat.reduceSub, Bool.and_true, Bool.true_and, Bool.and_self, Bool.or_true, Bool.true_or, isRf_3, isRf_4, isRf_5, isRf_8, isRf_9, isRf_10, isRf_11, isRf_15, isRf_16, isRf_17, isRf_18, isRf_19, isRf_20, isRf_21, isRf_22, isRf_23, isRf_24, isRf_25, isRf_26, isRf_27, isRf_28, k_X11_evening_0, k_X11_evening_1, k_X11_evening_2, k_X11_evening_5, k_X11_evening_6, k_X11_evening_9, k_X11_evening_12, k_X11_evening_13, k_X11_evening_14, k_X11_evening_15, k_X11_evening_18, k_X11_evening_19, k_X11_evening_22, k_X11_evening_25, k_X11_evening_26, k_X11_evening_29, k_X11_evening_30, k_X11_evening_33, k_X11_evening_34, k_X11_evening_37, k_X11_evening_38, k_X11_evening_39, k_X11_evening_42, k_X11_evening_43, k_X11_evening_44, k_X11_evening_45, k_X11_evening_48, k_X11_evening_51, k_X11_evening_54, k_X11_evening_55, w_X11_canShow_e, w_X5_remember_e, w_X5_write_e, w_X9_outBits_e, w_X9_show_e, up_s, up_nj, up_na, up_up, savR_o, cpy_o, fillm_o, setAud_o, setv_o, setv_s, Int.reduceNe, Int.reduceEq, Int.reduceLT, Int.reduceAdd, not_false_eq_true, ne_eq, or_true, true_or, rmM_e, pc2, pc3, o18, o20, e1, e2, SP_pval hP]
  by_cases d : 0 ≤ p ∧ p < pcnt σ 6 1 ∧ σ 16 6 < 999
  · rw [if_pos d]
    have key : ∀ υ, shP (rmM σ) υ 16 p → pcnt υ 6 2 = pcnt σ 6 2 ∧ outB (υ 30) (pcnt σ 6 2).toNat = evOb σ p ∧ (∀ i, 0 ≤ i → i < pcnt σ 6 2 → InR (υ 30 i)) ∧ υ 31 1 = σ 31 1 ∧ sumC (pFl (rmM σ) 16 p) (pcnt σ 6 2).toNat = evMv σ p ∧ Q (0, evMv σ p) (wrM υ p (evMv σ p) (evOb σ p)) := fun υ hυ => by
      obtain ⟨z1, z2, z3, z4, z5⟩ := sh_post hst h9p hυ
      rw [pc2] at z5
      exact ⟨z1, z2, z3, z4, z5, h2 d _ ⟨υ, hυ, rfl⟩⟩
    have f1 := (SP_pFl hP hst p).1
    rw [show sumC (pFl (rmM σ) 16 p) (pcnt σ 6 2).toNat = evMv σ p by rw [f1]]
    repeat' (first | assumption | apply And.intro | intro _)
    all_goals first | omega | exact absurd trivial (by assumption) | exact isA16 | skip
    all_goals
      obtain ⟨z1, z2, z3, z4, z5, z6⟩ := key _ ‹shP (rmM σ) _ 16 p›
      first
        | omega
        | (rw [z1]; omega)
        | exact (z3 _ (by assumption) (by rw [← z1]; assumption)).1
        | exact (z3 _ (by assumption) (by rw [← z1]; assumption)).2
        | (rw [z1, z2]; omega)
        | (rw [z1, z2, wrM_e]; exact z6)
  · rw [if_neg d]
    have hh := h1 d
    repeat' (first | assumption | apply And.intro | intro _)
    all_goals first | omega | exact absurd trivial (by assumption) | exact isA16 | exact hh
theorem wd_322 : Cond.fieldLink RX11 58 "ArmchairHouse" "drawn" "J" ∈ TBL := tb_tab (List.mem_of_getElem? (i := 322) (by decide +kernel)) rfl
theorem fl_X11_58 : amFl RX11 11 9 58 RX11 TX11 17 := ⟨rfl, inT_11, by decide, wd_322⟩
theorem wd_912 : Cond.constantLong RX11 255 6364136223846793005 ∈ TBL := tb_tab (List.mem_of_getElem? (i := 912) (by decide +kernel)) rfl
theorem wd_913 : Cond.constantLong RX11 257 1442695040888963407 ∈ TBL := tb_tab (List.mem_of_getElem? (i := 913) (by decide +kernel)) rfl
theorem fp_X11_58 : amFp RX11 11 9 58 RX11 TX11 17 tyX11 .long := ⟨fl_X11_58, tyX11_ok, nmX11, by decide +kernel⟩
def a_X11_draw : AC := [(0, vAload 0 1), (1, vAload 0 2), (2, vGetL 27 9 5), (5, vL 6364136223846793005 8), (8, vLmul 9), (9, vL 1442695040888963407 12), (12, vLadd 13), (13, vPutL 27 9 16), (16, vIload 1 17), (17, vIfLe 34 20), (20, vAload 0 21), (21, vGetL 27 9 24), (24, vI 33 26), (26, vLushr 27), (27, vIload 1 28), (28, vI2l 29), (29, vLrem 30), (30, vL2i 31), (31, vGoto 35), (34, vI 0 35), (35, vIret)]
theorem k_X11_draw_0 : look a_X11_draw 0 = vAload 0 1 := rfl
theorem k_X11_draw_1 : look a_X11_draw 1 = vAload 0 2 := rfl
theorem k_X11_draw_2 : look a_X11_draw 2 = vGetL 27 9 5 := rfl
theorem k_X11_draw_5 : look a_X11_draw 5 = vL 6364136223846793005 8 := rfl
theorem k_X11_draw_8 : look a_X11_draw 8 = vLmul 9 := rfl
theorem k_X11_draw_9 : look a_X11_draw 9 = vL 1442695040888963407 12 := rfl
theorem k_X11_draw_12 : look a_X11_draw 12 = vLadd 13 := rfl
theorem k_X11_draw_13 : look a_X11_draw 13 = vPutL 27 9 16 := rfl
theorem k_X11_draw_16 : look a_X11_draw 16 = vIload 1 17 := rfl
theorem k_X11_draw_17 : look a_X11_draw 17 = vIfLe 34 20 := rfl
theorem k_X11_draw_20 : look a_X11_draw 20 = vAload 0 21 := rfl
theorem k_X11_draw_21 : look a_X11_draw 21 = vGetL 27 9 24 := rfl
theorem k_X11_draw_24 : look a_X11_draw 24 = vI 33 26 := rfl
theorem k_X11_draw_26 : look a_X11_draw 26 = vLushr 27 := rfl
theorem k_X11_draw_27 : look a_X11_draw 27 = vIload 1 28 := rfl
theorem k_X11_draw_28 : look a_X11_draw 28 = vI2l 29 := rfl
theorem k_X11_draw_29 : look a_X11_draw 29 = vLrem 30 := rfl
theorem k_X11_draw_30 : look a_X11_draw 30 = vL2i 31 := rfl
theorem k_X11_draw_31 : look a_X11_draw 31 = vGoto 35 := rfl
theorem k_X11_draw_34 : look a_X11_draw 34 = vI 0 35 := rfl
theorem k_X11_draw_35 : look a_X11_draw 35 = vIret := rfl
theorem o_X11_draw {X : amX} (e1 : XT X = TT) (e2 : XD X = 0) (hB : amB X RX11 cX11_draw (some .int) 2) : ∀ pc, amOK X pc (look a_X11_draw pc) := by
  have hT : amTok (XT X) := e1 ▸ TT_ok
  refine look_ok ?_
  unfold a_X11_draw
  refine fc (ok_aload_n hB dX11_draw_0) ?_
  refine fc (ok_aload_n hB dX11_draw_1) ?_
  refine fc (ok_getL hB hT fl_X11_58 rfl rfl af_11_9 dX11_draw_2) ?_
  refine fc (ok_ldc2 hB wd_912 rfl dX11_draw_5) ?_
  refine fc (ok_lmul hB dX11_draw_8) ?_
  refine fc (ok_ldc2 hB wd_913 rfl dX11_draw_9) ?_
  refine fc (ok_ladd hB dX11_draw_12) ?_
  refine fc (ok_putL hB hT fp_X11_58 rfl rfl rfl af_11_9 dX11_draw_13) ?_
  refine fc (ok_iload_n hB dX11_draw_16) ?_
  refine fc (ok_if_le hB (t := 34) (by decide) dX11_draw_17) ?_
  refine fc (ok_aload_n hB dX11_draw_20) ?_
  refine fc (ok_getL hB hT fl_X11_58 rfl rfl af_11_9 dX11_draw_21) ?_
  refine fc (ok_bipush hB dX11_draw_24 (by decide)) ?_
  refine fc (ok_lushr hB dX11_draw_26) ?_
  refine fc (ok_iload_n hB dX11_draw_27) ?_
  refine fc (ok_i2l hB dX11_draw_28) ?_
  refine fc (ok_lrem hB dX11_draw_29) ?_
  refine fc (ok_l2i hB dX11_draw_30) ?_
  refine fc (ok_goto hB (t := 35) (by decide) dX11_draw_31) ?_
  refine fc (ok_iconst hB dX11_draw_34) ?_
  refine fc (ok_iret hB dX11_draw_35) ?_
  exact fn
abbrev dN (x : Int) : Int := x * 6364136223846793005 + 1442695040888963407
def w_X11_draw : WP := fun av σ Q => ∃ (b : Int), av = [(27, 0), (0, b)] ∧ (1 ≤ b ∧ b ≤ 1000 ∧ Q (0, amLushr (dN (σ 0 9)) 33 % b) (up σ 0 9 (dN (σ 0 9))))
theorem w_X11_draw_e (b : Int) (σ : Mem) (Q : AV → Mem → Prop) : w_X11_draw [(27, 0), (0, b)] σ Q = (1 ≤ b ∧ b ≤ 1000 ∧ Q (0, amLushr (dN (σ 0 9)) 33 % b) (up σ 0 9 (dN (σ 0 9)))) := by
  apply propext; constructor
  · rintro ⟨b', h9, hb9⟩; cases h9; exact hb9
  · intro hb9; exact ⟨b, rfl, hb9⟩

set_option maxRecDepth 100000 in
set_option maxHeartbeats 4000000 in
theorem s_X11_draw : ∀ av σ Q, w_X11_draw av σ Q → amCall 0 0 0 TT yX11_draw cX11_draw 2 (some .int) av σ Q := by
  rintro av σ Q ⟨b, rfl, h0, h1, h⟩
  have lb := lush33 (dN (σ 0 9))
  have e1 : Int.tmod (amLushr (dN (σ 0 9)) 33) b = amLushr (dN (σ 0 9)) 33 % b := Int.tmod_eq_emod_of_nonneg lb.1
  have e2 := Int.emod_nonneg (amLushr (dN (σ 0 9)) 33) (show b ≠ 0 by omega)
  have e3 := Int.emod_lt_of_pos (amLushr (dN (σ 0 9)) 33) (show 0 < b by omega)
  have e4 := l2i_in (x := amLushr (dN (σ 0 9)) 33 % b) (by omega)
  refine am_m0 (own := RX11) (A := look a_X11_draw) (fun X e1 e2 hB => o_X11_draw e1 e2 hB) rfl (by decide +kernel) rfl rfl 190 (w := 2) ?_
  change vcs _ _ _ _ 190 0 [(27, 0), (0, b)] [] σ
  simp only [↓reduceIte, inR_0, inR_1, inR_m, vSw2_e, swP_n, swP_c, vI_e, vL_e, vNull_e, vIload_e, vLload_e, vAload_e, vIstore_e, vLstore_e, vAstore_e, vIinc_e, vIadd_e, vIsub_e, vImul_e, vIand_e, vIor_e, vIxor_e, vIshl_e, vIshr_e, vIushr_e, vIdiv_e, vIrem_e, vLadd_e, vLsub_e, vLmul_e, vLand_e, vLor_e, vLxor_e, vLdiv_e, vLrem_e, vLushr_e, vLshl_e, vLcmp_e, vIneg_e, vI2l_e, vL2i_e, vI2b_e, vI2c_e, vDup_e, vPop_e, vDup2_e, vGoto_e, vIcEq_e, vIfEq_e, vIcNe_e, vIfNe_e, vIcLt_e, vIfLt_e, vIcGe_e, vIfGe_e, vIcGt_e, vIfGt_e, vIcLe_e, vIfLe_e, vNonnull_e, vSw_e, vGetI_e, vGetL_e, vGetR_e, vPutI_e, vPutZ_e, vPutL_e, vPutR_e, vIald_e, vIald_s, vLald_e, vBald_e, vBald_s, vAald_e, vIast_e, vLast_e, vBast_e, vAast_e, vAlen_e8, vAlen_e9, vAlen_e10, vAlen_e11, vAlen_e5, vAlen_e3, vGets_e, vCompact_e, vLdcS_e, vIret_e, vZret_e, vCret_e, vBret_e, vLret_e, vVret_e, vAret_e, vCallM_e0, vCallMV_e0, vCallS_e0, vCallSV_e0, vCallM_e1, vCallMV_e1, vCallS_e1, vCallSV_e1, vCallM_e2, vCallMV_e2, vCallS_e2, vCallSV_e2, vCallM_e3, vCallMV_e3, vCallS_e3, vCallSV_e3, vCallM_e4, vCallMV_e4, vCallS_e4, vCallSV_e4, vCallM_e5, vCallMV_e5, vCallS_e5, vCallSV_e5, vCallM_e6, vCallMV_e6, vCallS_e6, vCallSV_e6, vCallM_e7, vCallMV_e7, vCallS_e7, vCallSV_e7, vBad_e, vStrVal_e, vStrCod_e, vForm_e, vCallT_e0, vCallT_e1, vCallT_e2, vCopy_e, rf_0_0, rf_0_1, rf_0_2, rf_0_3, rf_0_4, rf_0_7, rf_0_10, rf_0_11, rf_0_12, rf_0_13, rf_0_14, rf_0_15, rf_0_16, rf_1_0, rf_3_0, rf_3_1, rf_6_0, rf_6_1, rf_9_0, rf_9_1, rf_9_3, rf_13_0, rf_13_1, rf_13_2, rf_16_0, rf_16_1, rf_16_2, rf_16_3, rf_21_0, rf_21_1, rf_21_2, rf_21_3, rf_26_0, rf_26_1, rf_26_2, rf_26_3, rf_26_4, rf_26_5, rf_26_6, rf_31_0, rf_31_2, rf_31_5, rf_31_6, rf_36_0, rf_36_1, rf_36_2, rf_36_3, rf_39_0, rf_39_1, rf_39_2, rf_41_0, rf_41_1, rf_41_2, rf_41_3, rf_5000_1, rf_5000_2, rf_5000_3, rf_5000_4, rf_5000_5, rf_5000_15, rf_5000_16, rf_5000_18, rf_5000_19, rf_5000_20, rf_5000_21, rf_5000_22, rf_5000_23, rf_5000_24, rf_5000_25, rf_5000_26, rf_5000_27, rf_5000_36, rf_5000_37, rf_5000_40, rf_5000_41, rf_5000_42, rf_5000_43, rf_5000_44, rf_5000_45, rf_5000_47, rf_5000_52, rf_5000_54, rf_5000_55, rf_100_0, rf_100_1, rf_103_0, rf_103_1, rf_106_0, rf_106_1, rf_109_0, rf_109_1, al_2, al_4, al_5, al_7, al_8, al_10, al_11, al_12, al_14, al_15, al_17, al_18, al_19, al_20, al_22, al_23, al_24, al_25, al_27, al_28, al_29, al_30, al_32, al_33, al_34, al_35, al_37, al_38, al_40, al_42, al_5001, al_5002, al_5003, al_5004, al_5005, al_5006, al_5007, al_5008, al_5009, al_5010, al_5011, al_5012, al_5013, al_5014, al_5015, al_5016, al_5017, al_5018, al_5019, al_5020, al_5021, al_5022, al_5023, al_5024, al_5025, al_5026, al_9000, al_101, al_102, al_104, al_105, al_107, al_108, al_110, al_111, vcs_e, lg_c0, lg_cs, lg_nil, set_c0, set_cs, okst_0, okst_s, acok_n, acok_c, List.contains_nil, List.contains_cons, Bool.or_false, Bool.false_or, Bool.false_eq_true, if_false, if_true, ite_self, ne_eq, true_and, and_true, not_false_eq_true, not_true_eq_false, false_imp_iff, true_imp_iff, Nat.ble_eq, Bool.and_eq_true, reduceCtorEq, or_false, false_or, or_true, true_or, false_and, and_false, and_self, Int.reduceLE, Int.reduceAdd, Int.reduceSub, Int.reduceMul, Int.reduceNeg, Int.reduceLT, Int.reduceEq, Int.reduceNe, Nat.reduceBEq, Nat.reduceBNe, Nat.reduceEqDiff, amCmp_in, amCmp_lt, amCmp_le, amCmp_gt, amCmp_ge, amCmp_eq, amCmp_ne, Nat.reduceLeDiff, Nat.reduceSub, Bool.and_true, Bool.true_and, Bool.and_self, Bool.or_true, Bool.true_or, isRf_3, isRf_4, isRf_5, isRf_8, isRf_9, isRf_10, isRf_11, isRf_15, isRf_16, isRf_17, isRf_18, isRf_19, isRf_20, isRf_21, isRf_22, isRf_23, isRf_24, isRf_25, isRf_26, isRf_27, isRf_28, k_X11_draw_0, k_X11_draw_1, k_X11_draw_2, k_X11_draw_5, k_X11_draw_8, k_X11_draw_9, k_X11_draw_12, k_X11_draw_13, k_X11_draw_16, k_X11_draw_17, k_X11_draw_20, k_X11_draw_21, k_X11_draw_24, k_X11_draw_26, k_X11_draw_27, k_X11_draw_28, k_X11_draw_29, k_X11_draw_30, k_X11_draw_31, k_X11_draw_34, k_X11_draw_35, up_s, up_nj, up_na, up_up, savR_o, cpy_o, fillm_o, setAud_o, setv_o, setv_s, Int.reduceNe, Int.reduceEq, Int.reduceLT, Int.reduceAdd, not_false_eq_true, ne_eq, or_true, true_or]
  unfold dN at *
  simp only [e1, e4]
  repeat' (first | assumption | apply And.intro | intro _)
  all_goals first | omega | exact absurd trivial (by assumption) | exact h
def a_X11_canStep : AC := [(0, vAload 0 1), (1, vGetR TT 27 7 23 4), (4, vIload 1 5), (5, vIload 2 6), (6, vI 1 7), (7, vCallM w_X7_part 23 3 10), (10, vIstore 4 12), (12, vAload 0 13), (13, vGetR TT 27 7 23 16), (16, vIload 1 17), (17, vIload 2 18), (18, vI 0 19), (19, vCallM w_X7_part 23 3 22), (22, vSw2 [(0, 48), (1, 56)] 74), (48, vAload 0 49), (49, vAload 3 50), (50, vIload 4 52), (52, vCallM w_X11_canShow 27 2 55), (55, vZret), (56, vAload 0 57), (57, vAload 3 58), (58, vIload 4 60), (60, vAload 0 61), (61, vGetR TT 27 7 23 64), (64, vIload 1 65), (65, vIload 2 66), (66, vI 2 67), (67, vCallM w_X7_part 23 3 70), (70, vCallM w_X11_canChange 27 3 73), (73, vZret), (74, vAload 0 75), (75, vAload 3 76), (76, vIload 4 78), (78, vCallM w_X11_canFallIll 27 2 81), (81, vZret)]
theorem k_X11_canStep_0 : look a_X11_canStep 0 = vAload 0 1 := rfl
theorem k_X11_canStep_1 : look a_X11_canStep 1 = vGetR TT 27 7 23 4 := rfl
theorem k_X11_canStep_4 : look a_X11_canStep 4 = vIload 1 5 := rfl
theorem k_X11_canStep_5 : look a_X11_canStep 5 = vIload 2 6 := rfl
theorem k_X11_canStep_6 : look a_X11_canStep 6 = vI 1 7 := rfl
theorem k_X11_canStep_7 : look a_X11_canStep 7 = vCallM w_X7_part 23 3 10 := rfl
theorem k_X11_canStep_10 : look a_X11_canStep 10 = vIstore 4 12 := rfl
theorem k_X11_canStep_12 : look a_X11_canStep 12 = vAload 0 13 := rfl
theorem k_X11_canStep_13 : look a_X11_canStep 13 = vGetR TT 27 7 23 16 := rfl
theorem k_X11_canStep_16 : look a_X11_canStep 16 = vIload 1 17 := rfl
theorem k_X11_canStep_17 : look a_X11_canStep 17 = vIload 2 18 := rfl
theorem k_X11_canStep_18 : look a_X11_canStep 18 = vI 0 19 := rfl
theorem k_X11_canStep_19 : look a_X11_canStep 19 = vCallM w_X7_part 23 3 22 := rfl
theorem k_X11_canStep_22 : look a_X11_canStep 22 = vSw2 [(0, 48), (1, 56)] 74 := rfl
theorem k_X11_canStep_48 : look a_X11_canStep 48 = vAload 0 49 := rfl
theorem k_X11_canStep_49 : look a_X11_canStep 49 = vAload 3 50 := rfl
theorem k_X11_canStep_50 : look a_X11_canStep 50 = vIload 4 52 := rfl
theorem k_X11_canStep_52 : look a_X11_canStep 52 = vCallM w_X11_canShow 27 2 55 := rfl
theorem k_X11_canStep_55 : look a_X11_canStep 55 = vZret := rfl
theorem k_X11_canStep_56 : look a_X11_canStep 56 = vAload 0 57 := rfl
theorem k_X11_canStep_57 : look a_X11_canStep 57 = vAload 3 58 := rfl
theorem k_X11_canStep_58 : look a_X11_canStep 58 = vIload 4 60 := rfl
theorem k_X11_canStep_60 : look a_X11_canStep 60 = vAload 0 61 := rfl
theorem k_X11_canStep_61 : look a_X11_canStep 61 = vGetR TT 27 7 23 64 := rfl
theorem k_X11_canStep_64 : look a_X11_canStep 64 = vIload 1 65 := rfl
theorem k_X11_canStep_65 : look a_X11_canStep 65 = vIload 2 66 := rfl
theorem k_X11_canStep_66 : look a_X11_canStep 66 = vI 2 67 := rfl
theorem k_X11_canStep_67 : look a_X11_canStep 67 = vCallM w_X7_part 23 3 70 := rfl
theorem k_X11_canStep_70 : look a_X11_canStep 70 = vCallM w_X11_canChange 27 3 73 := rfl
theorem k_X11_canStep_73 : look a_X11_canStep 73 = vZret := rfl
theorem k_X11_canStep_74 : look a_X11_canStep 74 = vAload 0 75 := rfl
theorem k_X11_canStep_75 : look a_X11_canStep 75 = vAload 3 76 := rfl
theorem k_X11_canStep_76 : look a_X11_canStep 76 = vIload 4 78 := rfl
theorem k_X11_canStep_78 : look a_X11_canStep 78 = vCallM w_X11_canFallIll 27 2 81 := rfl
theorem k_X11_canStep_81 : look a_X11_canStep 81 = vZret := rfl
theorem o_X11_canStep {X : amX} (e1 : XT X = TT) (e2 : XD X = 4) (hB : amB X RX11 cX11_canStep (some .boolean) 5) : ∀ pc, amOK X pc (look a_X11_canStep pc) := by
  have hT : amTok (XT X) := e1 ▸ TT_ok
  refine look_ok ?_
  unfold a_X11_canStep
  refine fc (ok_aload_n hB dX11_canStep_0) ?_
  refine fc (okt_getR e1 hB hT fl_X11_51 rfl af_11_7 at_11_7 (by decide) dX11_canStep_1) ?_
  refine fc (ok_iload_n hB dX11_canStep_4) ?_
  refine fc (ok_iload_n hB dX11_canStep_5) ?_
  refine fc (ok_iconst hB dX11_canStep_6) ?_
  refine fc (ok_callM hB hT (e1 ▸ s_X7_part) lk_X11_274 (by rw [e2]; decide) (c := 7) rfl rfl rfl wd_948 wd_949 dX11_canStep_7) ?_
  refine fc (ok_istore hB (by decide) dX11_canStep_10) ?_
  refine fc (ok_aload_n hB dX11_canStep_12) ?_
  refine fc (okt_getR e1 hB hT fl_X11_51 rfl af_11_7 at_11_7 (by decide) dX11_canStep_13) ?_
  refine fc (ok_iload_n hB dX11_canStep_16) ?_
  refine fc (ok_iload_n hB dX11_canStep_17) ?_
  refine fc (ok_iconst hB dX11_canStep_18) ?_
  refine fc (ok_callM hB hT (e1 ▸ s_X7_part) lk_X11_274 (by rw [e2]; decide) (c := 7) rfl rfl rfl wd_948 wd_949 dX11_canStep_19) ?_
  refine fc (ok_sw2 (by decide) (ok_lookupswitch hB [(0, 48), (1, 56)] dX11_canStep_22 (by decide) (by decide) (by decide))) ?_
  refine fc (ok_aload_n hB dX11_canStep_48) ?_
  refine fc (ok_aload_n hB dX11_canStep_49) ?_
  refine fc (ok_iload hB dX11_canStep_50) ?_
  refine fc (ok_callM hB hT (e1 ▸ s_X11_canShow) lk_X11_213 (by rw [e2]; decide) (c := 11) rfl rfl rfl wd_759 sl_X11_canShow dX11_canStep_52) ?_
  refine fc (ok_zret hB dX11_canStep_55) ?_
  refine fc (ok_aload_n hB dX11_canStep_56) ?_
  refine fc (ok_aload_n hB dX11_canStep_57) ?_
  refine fc (ok_iload hB dX11_canStep_58) ?_
  refine fc (ok_aload_n hB dX11_canStep_60) ?_
  refine fc (okt_getR e1 hB hT fl_X11_51 rfl af_11_7 at_11_7 (by decide) dX11_canStep_61) ?_
  refine fc (ok_iload_n hB dX11_canStep_64) ?_
  refine fc (ok_iload_n hB dX11_canStep_65) ?_
  refine fc (ok_iconst hB dX11_canStep_66) ?_
  refine fc (ok_callM hB hT (e1 ▸ s_X7_part) lk_X11_274 (by rw [e2]; decide) (c := 7) rfl rfl rfl wd_948 wd_949 dX11_canStep_67) ?_
  refine fc (ok_callM hB hT (e1 ▸ s_X11_canChange) lk_X11_232 (by rw [e2]; decide) (c := 11) rfl rfl rfl wd_870 sl_X11_canChange dX11_canStep_70) ?_
  refine fc (ok_zret hB dX11_canStep_73) ?_
  refine fc (ok_aload_n hB dX11_canStep_74) ?_
  refine fc (ok_aload_n hB dX11_canStep_75) ?_
  refine fc (ok_iload hB dX11_canStep_76) ?_
  refine fc (ok_callM hB hT (e1 ▸ s_X11_canFallIll) lk_X11_240 (by rw [e2]; decide) (c := 11) rfl rfl rfl wd_882 sl_X11_canFallIll dX11_canStep_78) ?_
  refine fc (ok_zret hB dX11_canStep_81) ?_
  exact fn
def csP (σ : Mem) (s i a : Int) : Prop := if σ 14 (s * 48 + i * 3) = 0 then (0 ≤ σ 14 (s * 48 + i * 3 + 1) ∧ σ 14 (s * 48 + i * 3 + 1) < pcnt σ 6 1 ∧ σ a 6 < 999) else if σ 14 (s * 48 + i * 3) = 1 then okC σ a (σ 14 (s * 48 + i * 3 + 1)) (σ 14 (s * 48 + i * 3 + 2)) else (0 ≤ σ 14 (s * 48 + i * 3 + 1) ∧ σ 14 (s * 48 + i * 3 + 1) < pcnt σ 6 3 ∧ bt (σ a 4) (σ 14 (s * 48 + i * 3 + 1)) = 0)
def w_X11_canStep : WP := fun av σ Q => ∃ (s : Int) (i : Int) (a : Int), av = [(27, 0), (0, s), (0, i), (16, a)] ∧ (0 ≤ s ∧ s ≤ 4 ∧ 0 ≤ i ∧ i < 16 ∧ isA a ∧ planB σ 6 ∧ InR (σ a 6) ∧ InR (σ a 4) ∧ auS σ a ∧ (∀ j, 0 ≤ j → j ≤ 2 → InR (σ 14 (s * 48 + i * 3 + j))) ∧ (csP σ s i a → Q (0, 1) σ) ∧ (¬ csP σ s i a → Q (0, 0) σ))
theorem w_X11_canStep_e (s : Int) (i : Int) (a : Int) (σ : Mem) (Q : AV → Mem → Prop) : w_X11_canStep [(27, 0), (0, s), (0, i), (16, a)] σ Q = (0 ≤ s ∧ s ≤ 4 ∧ 0 ≤ i ∧ i < 16 ∧ isA a ∧ planB σ 6 ∧ InR (σ a 6) ∧ InR (σ a 4) ∧ auS σ a ∧ (∀ j, 0 ≤ j → j ≤ 2 → InR (σ 14 (s * 48 + i * 3 + j))) ∧ (csP σ s i a → Q (0, 1) σ) ∧ (¬ csP σ s i a → Q (0, 0) σ)) := by
  apply propext; constructor
  · rintro ⟨s', i', a', h9, hb9⟩; cases h9; exact hb9
  · intro hb9; exact ⟨s, i, a, rfl, hb9⟩

set_option maxRecDepth 100000 in
set_option maxHeartbeats 4000000 in
theorem s_X11_canStep : ∀ av σ Q, w_X11_canStep av σ Q → amCall 4 0 0 TT yX11_canStep cX11_canStep 5 (some .boolean) av σ Q := by
  rintro av σ Q ⟨s, i, a, rfl, hs0, hs1, hi0, hi1, ha, hB, he, hil, ⟨u1, u2, u3⟩, hj, hy, hn⟩
  have j0 := hj 0 (by omega) (by omega)
  have j1 := hj 1 (by omega) (by omega)
  have j2 := hj 2 (by omega) (by omega)
  rw [Int.add_zero] at j0
  have z0 : s * 48 + i * 3 + 0 = s * 48 + i * 3 := Int.add_zero _
  refine am_m0 (own := RX11) (A := look a_X11_canStep) (fun X e1 e2 hB => o_X11_canStep e1 e2 hB) rfl (by decide +kernel) rfl rfl 190 (w := 5) ?_
  change vcs _ _ _ _ 190 0 [(27, 0), (0, s), (0, i), (16, a), (6, 0)] [] σ
  simp only [↓reduceIte, inR_0, inR_1, inR_m, vSw2_e, swP_n, swP_c, vI_e, vL_e, vNull_e, vIload_e, vLload_e, vAload_e, vIstore_e, vLstore_e, vAstore_e, vIinc_e, vIadd_e, vIsub_e, vImul_e, vIand_e, vIor_e, vIxor_e, vIshl_e, vIshr_e, vIushr_e, vIdiv_e, vIrem_e, vLadd_e, vLsub_e, vLmul_e, vLand_e, vLor_e, vLxor_e, vLdiv_e, vLrem_e, vLushr_e, vLshl_e, vLcmp_e, vIneg_e, vI2l_e, vL2i_e, vI2b_e, vI2c_e, vDup_e, vPop_e, vDup2_e, vGoto_e, vIcEq_e, vIfEq_e, vIcNe_e, vIfNe_e, vIcLt_e, vIfLt_e, vIcGe_e, vIfGe_e, vIcGt_e, vIfGt_e, vIcLe_e, vIfLe_e, vNonnull_e, vSw_e, vGetI_e, vGetL_e, vGetR_e, vPutI_e, vPutZ_e, vPutL_e, vPutR_e, vIald_e, vIald_s, vLald_e, vBald_e, vBald_s, vAald_e, vIast_e, vLast_e, vBast_e, vAast_e, vAlen_e8, vAlen_e9, vAlen_e10, vAlen_e11, vAlen_e5, vAlen_e3, vGets_e, vCompact_e, vLdcS_e, vIret_e, vZret_e, vCret_e, vBret_e, vLret_e, vVret_e, vAret_e, vCallM_e0, vCallMV_e0, vCallS_e0, vCallSV_e0, vCallM_e1, vCallMV_e1, vCallS_e1, vCallSV_e1, vCallM_e2, vCallMV_e2, vCallS_e2, vCallSV_e2, vCallM_e3, vCallMV_e3, vCallS_e3, vCallSV_e3, vCallM_e4, vCallMV_e4, vCallS_e4, vCallSV_e4, vCallM_e5, vCallMV_e5, vCallS_e5, vCallSV_e5, vCallM_e6, vCallMV_e6, vCallS_e6, vCallSV_e6, vCallM_e7, vCallMV_e7, vCallS_e7, vCallSV_e7, vBad_e, vStrVal_e, vStrCod_e, vForm_e, vCallT_e0, vCallT_e1, vCallT_e2, vCopy_e, rf_0_0, rf_0_1, rf_0_2, rf_0_3, rf_0_4, rf_0_7, rf_0_10, rf_0_11, rf_0_12, rf_0_13, rf_0_14, rf_0_15, rf_0_16, rf_1_0, rf_3_0, rf_3_1, rf_6_0, rf_6_1, rf_9_0, rf_9_1, rf_9_3, rf_13_0, rf_13_1, rf_13_2, rf_16_0, rf_16_1, rf_16_2, rf_16_3, rf_21_0, rf_21_1, rf_21_2, rf_21_3, rf_26_0, rf_26_1, rf_26_2, rf_26_3, rf_26_4, rf_26_5, rf_26_6, rf_31_0, rf_31_2, rf_31_5, rf_31_6, rf_36_0, rf_36_1, rf_36_2, rf_36_3, rf_39_0, rf_39_1, rf_39_2, rf_41_0, rf_41_1, rf_41_2, rf_41_3, rf_5000_1, rf_5000_2, rf_5000_3, rf_5000_4, rf_5000_5, rf_5000_15, rf_5000_16, rf_5000_18, rf_5000_19, rf_5000_20, rf_5000_21, rf_5000_22, rf_5000_23, rf_5000_24, rf_5000_25, rf_5000_26, rf_5000_27, rf_5000_36, rf_5000_37, rf_5000_40, rf_5000_41, rf_5000_42, rf_5000_43, rf_5000_44, rf_5000_45, rf_5000_47, rf_5000_52, rf_5000_54, rf_5000_55, rf_100_0, rf_100_1, rf_103_0, rf_103_1, rf_106_0, rf_106_1, rf_109_0, rf_109_1, al_2, al_4, al_5, al_7, al_8, al_10, al_11, al_12, al_14, al_15, al_17, al_18, al_19, al_20, al_22, al_23, al_24, al_25, al_27, al_28, al_29, al_30, al_32, al_33, al_34, al_35, al_37, al_38, al_40, al_42, al_5001, al_5002, al_5003, al_5004, al_5005, al_5006, al_5007, al_5008, al_5009, al_5010, al_5011, al_5012, al_5013, al_5014, al_5015, al_5016, al_5017, al_5018, al_5019, al_5020, al_5021, al_5022, al_5023, al_5024, al_5025, al_5026, al_9000, al_101, al_102, al_104, al_105, al_107, al_108, al_110, al_111, vcs_e, lg_c0, lg_cs, lg_nil, set_c0, set_cs, okst_0, okst_s, acok_n, acok_c, List.contains_nil, List.contains_cons, Bool.or_false, Bool.false_or, Bool.false_eq_true, if_false, if_true, ite_self, ne_eq, true_and, and_true, not_false_eq_true, not_true_eq_false, false_imp_iff, true_imp_iff, Nat.ble_eq, Bool.and_eq_true, reduceCtorEq, or_false, false_or, or_true, true_or, false_and, and_false, and_self, Int.reduceLE, Int.reduceAdd, Int.reduceSub, Int.reduceMul, Int.reduceNeg, Int.reduceLT, Int.reduceEq, Int.reduceNe, Nat.reduceBEq, Nat.reduceBNe, Nat.reduceEqDiff, amCmp_in, amCmp_lt, amCmp_le, amCmp_gt, amCmp_ge, amCmp_eq, amCmp_ne, Nat.reduceLeDiff, Nat.reduceSub, Bool.and_true, Bool.true_and, Bool.and_self, Bool.or_true, Bool.true_or, isRf_3, isRf_4, isRf_5, isRf_8, isRf_9, isRf_10, isRf_11, isRf_15, isRf_16, isRf_17, isRf_18, isRf_19, isRf_20, isRf_21, isRf_22, isRf_23, isRf_24, isRf_25, isRf_26, isRf_27, isRf_28, k_X11_canStep_0, k_X11_canStep_1, k_X11_canStep_4, k_X11_canStep_5, k_X11_canStep_6, k_X11_canStep_7, k_X11_canStep_10, k_X11_canStep_12, k_X11_canStep_13, k_X11_canStep_16, k_X11_canStep_17, k_X11_canStep_18, k_X11_canStep_19, k_X11_canStep_22, k_X11_canStep_48, k_X11_canStep_49, k_X11_canStep_50, k_X11_canStep_52, k_X11_canStep_55, k_X11_canStep_56, k_X11_canStep_57, k_X11_canStep_58, k_X11_canStep_60, k_X11_canStep_61, k_X11_canStep_64, k_X11_canStep_65, k_X11_canStep_66, k_X11_canStep_67, k_X11_canStep_70, k_X11_canStep_73, k_X11_canStep_74, k_X11_canStep_75, k_X11_canStep_76, k_X11_canStep_78, k_X11_canStep_81, w_X11_canChange_e, w_X11_canFallIll_e, w_X11_canShow_e, w_X7_part_e, up_s, up_nj, up_na, up_up, savR_o, cpy_o, fillm_o, setAud_o, setv_o, setv_s, Int.reduceNe, Int.reduceEq, Int.reduceLT, Int.reduceAdd, not_false_eq_true, ne_eq, or_true, true_or, z0]
  unfold csP okC at hy hn
  generalize σ 14 (s * 48 + i * 3) = k0 at *
  generalize σ 14 (s * 48 + i * 3 + 1) = k1 at *
  generalize σ 14 (s * 48 + i * 3 + 2) = k2 at *
  by_cases c0 : k0 = 0
  · rw [if_pos c0] at hy hn
    by_cases d : 0 ≤ k1 ∧ k1 < pcnt σ 6 1 ∧ σ a 6 < 999
    · have hh := hy d
      rw [if_pos d]
      repeat' (first | assumption | apply And.intro | intro _)
      all_goals first | omega | exact absurd trivial (by assumption) | exact hh | exact Or.inr trivial | exact Or.inl trivial | exact Or.inl rfl | exact Or.inr rfl
    · have hh := hn d
      rw [if_neg d]
      repeat' (first | assumption | apply And.intro | intro _)
      all_goals first | omega | exact absurd trivial (by assumption) | exact hh | exact Or.inr trivial | exact Or.inl trivial | exact Or.inl rfl | exact Or.inr rfl
  · rw [if_neg c0] at hy hn
    by_cases c1 : k0 = 1
    · rw [if_pos c1] at hy hn
      by_cases d : (0 ≤ k1 ∧ k1 < pcnt σ 6 2) ∧ (0 ≤ k2 ∧ k2 < pcnt σ 6 3) ∧ σ (a + 2) k1 ≠ k2 ∧ σ a 5 ≤ σ (a + 3) k1
      · have hh := hy d
        have d' : (0 ≤ k1 ∧ k1 < pcnt σ 6 2) ∧ (0 ≤ k2 ∧ k2 < pcnt σ 6 3) ∧ ¬ σ (a + 2) k1 = k2 ∧ σ a 5 ≤ σ (a + 3) k1 := d
        simp only [if_pos d']
        repeat' (first | assumption | apply And.intro | intro _)
        all_goals first | omega | exact absurd trivial (by assumption) | exact hh | exact Or.inr trivial | exact Or.inl trivial | exact Or.inl rfl | exact Or.inr rfl
      · have hh := hn d
        have d' : ¬ ((0 ≤ k1 ∧ k1 < pcnt σ 6 2) ∧ (0 ≤ k2 ∧ k2 < pcnt σ 6 3) ∧ ¬ σ (a + 2) k1 = k2 ∧ σ a 5 ≤ σ (a + 3) k1) := d
        simp only [if_neg d']
        repeat' (first | assumption | apply And.intro | intro _)
        all_goals first | omega | exact absurd trivial (by assumption) | exact hh | exact Or.inr trivial | exact Or.inl trivial | exact Or.inl rfl | exact Or.inr rfl
    · rw [if_neg c1] at hy hn
      by_cases d : 0 ≤ k1 ∧ k1 < pcnt σ 6 3 ∧ bt (σ a 4) k1 = 0
      · have hh := hy d
        simp only [if_pos d]
        repeat' (first | assumption | apply And.intro | intro _)
        all_goals first | omega | exact absurd trivial (by assumption) | exact hh | exact Or.inr trivial | exact Or.inl trivial | exact Or.inl rfl | exact Or.inr rfl
      · have hh := hn d
        simp only [if_neg d]
        repeat' (first | assumption | apply And.intro | intro _)
        all_goals first | omega | exact absurd trivial (by assumption) | exact hh | exact Or.inr trivial | exact Or.inl trivial | exact Or.inl rfl | exact Or.inr rfl
