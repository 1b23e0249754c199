/-! ACTS by hand side by side: HEART, GIVE, PRICE, CHANGE, ILL, EVENING, UNDO, BACK -/
theorem RR_q2 {σ τ μ : Mem} (h : RR σ) (ht : ∀ b, b < 16 ∨ 20 < b → τ b = rmM σ b) (hm : ∀ b, b ≠ 5015 → μ b = rmb (th0 τ) b) (h15 : ∀ j, 26 ≤ j → j < 208 → μ 5015 j = σ 5015 j) (ha : auR (σ 5000 29) (σ 5000 30) (aud τ 16) (μ 5015)) : RR μ := by
  have ro : ∀ b, b ≠ 31 → b ≠ 33 → rmM σ b = σ b := fun b h1 h2 => rmM_o σ h1 h2
  have hA : AG σ τ := ⟨fun b _ h0 h1 _ _ _ _ _ _ _ => by rw [ht b (by omega), ro b (by omega) (by omega)], by rw [ht 26 (by decide), ro 26 (by decide) (by decide)], fun k _ => by rw [ht 0 (by decide), ro 0 (by decide) (by decide)]⟩
  have k5 : τ 5000 = σ 5000 := by rw [ht 5000 (by decide), ro 5000 (by decide) (by decide)]
  exact RR_quiet h hA (ht 31 (by decide)) (by rw [ht 32 (by decide), ro 32 (by decide) (by decide)]) (ht 33 (by decide)) (by rw [ht 35 (by decide), ro 35 (by decide) (by decide)]) (fun x h0 h48 => by rw [hm 5000 (by decide), rmb_k _ h48, th_k _ h0, k5]) (fun b hb => by rw [hm b (by omega), rmb_o _ (by omega) (by omega), th_o _ (by omega)]) (by rw [hm 5000 (by decide)]) (hm 5023 (by decide)) h15 ha
theorem row_t {σ τ : Mem} (ht : ∀ b, b < 16 ∨ 20 < b → τ b = rmM σ b) : rmb (th0 τ) 5015 = σ 5015 ∧ τ 5000 = σ 5000 ∧ τ 5015 = σ 5015 := by
  have e : τ 5015 = σ 5015 := by rw [ht 5015 (by decide), rmM_o σ (by decide) (by decide)]
  exact ⟨by rw [rmb_15, th_o τ (by decide)]; exact e, by rw [ht 5000 (by decide), rmM_o σ (by decide) (by decide)], e⟩
theorem sim_heart {σ : Mem} (h : RR σ) {c v : Int} (hc : InR c) (hv : InR v) : w_X11_heart [(27, 0), (0, c), (0, v)] σ (fun r τ => w_X12_heart [(28, 5000), (0, c), (0, v)] τ (sQ r)) := by
  have hth := RR_th h
  have n := RR_cnt h
  have nn := RR_n h
  have a := RR_now h
  rw [w_X11_heart_e]
  refine ⟨hc, hv, (RR_plan h).1, fun i i0 i1 => ?_, RR_pastOk h, fun q => ?_, fun q => ?_⟩
  · have := (a.2.2.2.2 i i0 i1).1
    exact ⟨by omega, by omega⟩
  · rw [n.2.1] at q
    rw [w_X12_heart_e]
    refine ⟨hc, hv, mX_B (RR_mX h), fun _ => ⟨rfl, hth⟩, fun z => absurd ⟨z.1, z.2.1, z.2.2.1, z.2.2.2.1, ?_⟩ q⟩
    rw [(a.1 c z.1 z.2.1).1]; exact z.2.2.2.2
  · rw [n.2.1] at q
    have ht : ∀ b, b < 16 ∨ 20 < b → up (rmM σ) 17 c v b = rmM σ b := fun b hb => up_na _ (by omega)
    obtain ⟨r1, k5, r2⟩ := row_t ht
    have hA := AG_up (AG_rm σ) (a := 17) (k := c) (v := v) ⟨by decide, by decide⟩
    have e0 := (a.1 c q.1 q.2.1).1
    rw [w_X12_heart_e]
    refine ⟨hc, hv, mX_B (RR_m h hA).2.1, fun z => absurd ⟨q.1, by rw [k5]; exact q.2.1, q.2.2.1, q.2.2.2.1, by rw [r2, ← e0]; exact q.2.2.2.2⟩ z, fun _ => ⟨by rw [r2, e0], ?_⟩⟩
    refine RR_q2 h ht (fun b hb => up_na _ hb) (fun j j0 j1 => by rw [up_nj _ (by omega), r1]) ?_
    rw [up_row, r1]
    exact auR_c nn.2.1.2 (fun k k0 k1 => by
      rw [aud_u ⟨by decide, by decide⟩ q.1 (by omega) k0 k1, show ((17 : Int) - 17) * 6 + c = c by omega]
      unfold upf; rw [aud_rm σ k1]) (fun _ _ _ => rfl) (auR_h nn.2.1.2 h.2.2.2.2.2.1.1 q.1 q.2.1 q.2.2.1 q.2.2.2.1)
theorem sim_give {σ : Mem} (h : RR σ) {c v : Int} (hc : InR c) (hv : InR v) : w_X11_give [(27, 0), (0, c), (0, v)] σ (fun r τ => w_X12_give [(28, 5000), (0, c), (0, v)] τ (sQ r)) := by
  have hth := RR_th h
  have n := RR_cnt h
  have nn := RR_n h
  have a := RR_now h
  rw [w_X11_give_e]
  refine ⟨hc, hv, (RR_plan h).1, fun i i0 i1 => ?_, RR_pastOk h, fun q => ?_, fun q => ?_⟩
  · have := (a.2.2.2.2 i i0 i1).2.2.1
    exact ⟨by omega, by omega⟩
  · rw [n.2.1] at q
    rw [w_X12_give_e]
    refine ⟨hc, hv, mX_B (RR_mX h), fun j j0 j1 => (a.2.2.1.1 j j0 j1).2.2.1, fun _ => ⟨rfl, hth⟩, fun z => absurd ⟨z.1, z.2.1, z.2.2.1, z.2.2.2.1, ?_⟩ q⟩
    rw [(a.1 c z.1 z.2.1).2.2.1]; exact z.2.2.2.2
  · rw [n.2.1] at q
    have ht : ∀ b, b < 16 ∨ 20 < b → up (rmM σ) 19 c (σ 19 c + v) b = rmM σ b := fun b hb => up_na _ (by omega)
    obtain ⟨r1, k5, r2⟩ := row_t ht
    have hA := AG_up (AG_rm σ) (a := 19) (k := c) (v := σ 19 c + v) ⟨by decide, by decide⟩
    have e0 := (a.1 c q.1 q.2.1).2.2.1
    have b0 := a.2.2.1.1 c q.1 q.2.1
    rw [w_X12_give_e]
    refine ⟨hc, hv, mX_B (RR_m h hA).2.1, fun j j0 j1 => by rw [r2]; exact (a.2.2.1.1 j j0 (by rw [k5] at j1; exact j1)).2.2.1, fun z => absurd ⟨q.1, by rw [k5]; exact q.2.1, q.2.2.1, q.2.2.2.1, by rw [r2, ← e0]; exact q.2.2.2.2⟩ z, fun _ => ⟨by rw [r2, e0], ?_⟩⟩
    refine RR_q2 h ht (fun b hb => up_na _ hb) (fun j j0 j1 => by rw [up_nj _ (by omega), r1]) ?_
    rw [up_row, r1, r2, e0]
    exact auR_c nn.2.1.2 (fun k k0 k1 => by
      rw [aud_u ⟨by decide, by decide⟩ q.1 (by omega) k0 k1, show ((19 : Int) - 17) * 6 + c = c + 12 by omega]
      unfold upf; rw [aud_rm σ k1]) (fun _ _ _ => rfl) (auR_m nn.2.1.2 h.2.2.2.2.2.1.1 q.1 q.2.1 (by omega) (by omega))
theorem sim_price {σ : Mem} (h : RR σ) {v : Int} (hv : InR v) : w_X11_price [(27, 0), (0, v)] σ (fun r τ => w_X12_price [(28, 5000), (0, v)] τ (sQ r)) := by
  have hth := RR_th h
  have n := RR_cnt h
  have nn := RR_n h
  have a := RR_now h
  have p30 := a.2.2.1.2.2.1
  rw [w_X11_price_e]
  refine ⟨hv, (RR_plan h).1, by rw [a.2.1.2.1]; exact ⟨by omega, by omega⟩, RR_pastOk h, fun q => ?_, fun q => ?_⟩
  · rw [n.2.1, a.2.1.2.1] at q
    rw [w_X12_price_e]
    exact ⟨hv, mX_B (RR_mX h), fun _ => ⟨rfl, hth⟩, fun z => absurd ⟨by omega, z.2.1, z.2.2.1, fun y => z.2.2.2 y.symm⟩ q⟩
  · rw [n.2.1] at q
    have ht : ∀ b, b < 16 ∨ 20 < b → up (rmM σ) 16 5 v b = rmM σ b := fun b hb => up_na _ (by omega)
    obtain ⟨r1, k5, r2⟩ := row_t ht
    have hA := AG_up (AG_rm σ) (a := 16) (k := 5) (v := v) ⟨by decide, by decide⟩
    have e0 := a.2.1.2.1
    rw [w_X12_price_e]
    refine ⟨hv, mX_B (RR_m h hA).2.1, fun z => absurd ⟨by rw [k5]; omega, q.2.1, q.2.2.1, by rw [r2, ← e0]; exact fun y => q.2.2.2 y.symm⟩ z, fun _ => ⟨by rw [r2, e0], ?_⟩⟩
    refine RR_q2 h ht (fun b hb => up_na _ hb) (fun j j0 j1 => by rw [up_nj _ (by omega), r1]) ?_
    rw [up_row, r1]
    exact auR_c nn.2.1.2 (fun k k0 k1 => by
      rw [aud_u16 (by decide) (by decide) k1]
      unfold upf; rw [aud_rm σ k1]; rfl) (fun _ _ _ => rfl) (auR_k nn.2.1.2 h.2.2.2.2.2.1.1 (Or.inr ⟨rfl, q.2.1, q.2.2.1⟩))
theorem ill_or0 : ∀ x : Nat, x < 64 → ∀ t : Nat, t < 6 → bt (x : Int) (t : Int) = 0 → amIor (x : Int) (amIshl 1 (t : Int)) = (x : Int) + 2 ^ t ∧ (x : Int) + 2 ^ t < 64 := by decide +kernel
theorem ill_or {x t : Int} (x0 : 0 ≤ x) (x1 : x < 64) (t0 : 0 ≤ t) (t1 : t < 6) (h : bt x t = 0) : amIor x (amIshl 1 t) = x + 2 ^ t.toNat ∧ 0 ≤ x + 2 ^ t.toNat ∧ x + 2 ^ t.toNat < 64 := by
  have e1 : ((x.toNat : Nat) : Int) = x := by omega
  have e2 : ((t.toNat : Nat) : Int) = t := by omega
  have := ill_or0 x.toNat (by omega) t.toNat (by omega) (by rw [e1, e2]; exact h)
  rw [e1, e2] at this
  have p : (0 : Int) < 2 ^ t.toNat := Int.pow_pos (by decide)
  exact ⟨this.1, by omega, this.2⟩
theorem sim_ill {σ : Mem} (h : RR σ) {t : Int} (hv : InR t) : w_X11_ill [(27, 0), (0, t)] σ (fun r τ => w_X12_ill [(28, 5000), (0, t)] τ (sQ r)) := by
  have hth := RR_th h
  have n := RR_cnt h
  have nn := RR_n h
  have a := RR_now h
  have i64 := a.2.2.1.2.1
  rw [w_X11_ill_e]
  refine ⟨hv, (RR_plan h).1, by rw [a.2.1.1]; exact ⟨by omega, by omega⟩, RR_pastOk h, fun q => ?_, fun q => ?_⟩
  · rw [n.2.2, a.2.1.1] at q
    rw [w_X12_ill_e]
    exact ⟨hv, mX_B (RR_mX h), fun _ => ⟨rfl, hth⟩, fun z => absurd z q⟩
  · rw [n.2.2, a.2.1.1] at q
    have io := ill_or i64.1 i64.2 q.1 (by omega) q.2.2
    rw [a.2.1.1, io.1]
    have ht : ∀ b, b < 16 ∨ 20 < b → up (rmM σ) 16 4 (σ 5015 24 + 2 ^ t.toNat) b = rmM σ b := fun b hb => up_na _ (by omega)
    obtain ⟨r1, k5, r2⟩ := row_t ht
    have hA := AG_up (AG_rm σ) (a := 16) (k := 4) (v := σ 5015 24 + 2 ^ t.toNat) ⟨by decide, by decide⟩
    rw [w_X12_ill_e]
    refine ⟨hv, mX_B (RR_m h hA).2.1, fun z => absurd (by rw [k5, r2]; exact q) z, fun _ => ⟨rfl, ?_⟩⟩
    refine RR_q2 h ht (fun b hb => up_na _ hb) (fun j j0 j1 => by rw [up_nj _ (by omega), r1]) ?_
    rw [up_row, r1, r2]
    exact auR_c nn.2.1.2 (fun k k0 k1 => by
      rw [aud_u16 (by decide) (by decide) k1]
      unfold upf; rw [aud_rm σ k1]; rfl) (fun _ _ _ => rfl) (auR_k nn.2.1.2 h.2.2.2.2.2.1.1 (Or.inl ⟨rfl, io.2.1, io.2.2⟩))
theorem okC_eq {σ m : Mem} (hH : eqH σ m) {n s : Int} (hn : auR (m 5000 29) (m 5000 30) (aud σ 16) (m 5015)) (n6 : m 5000 29 ≤ 6) (c t : Int) : okC σ 16 c t ↔ mCC m 5015 c t := by
  obtain ⟨a1, a2, -⟩ := hn
  have k := audk σ
  rw [k.2.1] at a2
  unfold okC mCC
  rw [hH.1, hH.2.2.1]
  have key : ∀ c, 0 ≤ c → c < m 5000 29 → σ 18 c = m 5015 (4 * c + 1) ∧ σ 19 c = m 5015 (4 * c + 2) := fun c c0 c1 => by
    have e := aud16 σ c0 (by omega)
    have b := a1 c c0 c1
    rw [e.2.1, e.2.2.1] at b
    exact ⟨b.2.1, b.2.2.1⟩
  constructor
  · rintro ⟨⟨c0, c1⟩, ⟨t0, t1⟩, h1, h2⟩
    have e := key c c0 c1
    have h1' : σ 18 c ≠ t := h1
    have h2' : σ 16 5 ≤ σ 19 c := h2
    rw [e.1] at h1'
    rw [e.2, a2.2.1] at h2'
    exact ⟨c0, c1, t0, t1, h1', h2'⟩
  · rintro ⟨c0, c1, t0, t1, h1, h2⟩
    have e := key c c0 c1
    refine ⟨⟨c0, c1⟩, ⟨t0, t1⟩, ?_, ?_⟩
    · show σ 18 c ≠ t
      rw [e.1]; exact h1
    · show σ 16 5 ≤ σ 19 c
      rw [e.2, a2.2.1]; exact h2
/-- another TICKET on both sides -/
theorem auR_ch {n s : Int} {f r : Int → Int} (n6 : n ≤ 6) (s6 : s ≤ 6) (h : auR n s f r) {c t : Int} (c0 : 0 ≤ c) (c1 : c < n) (t0 : 0 ≤ t) (t1 : t < s) (hp : r 25 ≤ r (4 * c + 2)) : auR n s (upf (upf f (c + 12) (r (4 * c + 2) - r 25)) (c + 6) t) (upf (upf r (4 * c + 2) (r (4 * c + 2) - r 25)) (4 * c + 1) t) := by
  have b := h.2.2.1.1 c c0 c1
  have p := h.2.2.1.2.2.1
  exact auR_t n6 s6 (auR_m n6 h c0 c1 (by omega) (by omega)) c0 c1 t0 t1
theorem sim_change {σ : Mem} (h : RR σ) {c t : Int} (hc : InR c) (hv : InR t) : w_X11_change [(27, 0), (0, c), (0, t)] σ (fun r τ => w_X12_change [(28, 5000), (0, c), (0, t)] τ (sQ r)) := by
  have hth := RR_th h
  have nn := RR_n h
  have a := RR_now h
  have ok := okC_eq (n := 0) (s := 0) (RR_eqH h) h.2.2.2.2.2.1.1 nn.2.1.2 c t
  rw [w_X11_change_e]
  refine ⟨hc, hv, (RR_plan h).1, RR_auS h, RR_pastOk h, fun q => ?_, fun q => ?_⟩
  · rw [w_X12_change_e]
    exact ⟨hc, hv, mX_B (RR_mX h), fun _ => ⟨rfl, hth⟩, fun z => absurd (ok.mpr z) q⟩
  · have qm := ok.mp q
    obtain ⟨c0, c1, t0, t1, h1, h2⟩ := id qm
    have e := a.1 c c0 c1
    rw [e.2.2.1, a.2.1.2.1]
    have ht : ∀ b, b < 16 ∨ 20 < b → up (up (rmM σ) 19 c (σ 5015 (4 * c + 2) - σ 5015 25)) 18 c t b = rmM σ b := fun b hb => by rw [up_na _ (by omega), up_na _ (by omega)]
    obtain ⟨r1, k5, r2⟩ := row_t ht
    have hA := AG_up (AG_up (AG_rm σ) (a := 19) (k := c) (v := σ 5015 (4 * c + 2) - σ 5015 25) ⟨by decide, by decide⟩) (a := 18) (k := c) (v := t) ⟨by decide, by decide⟩
    rw [w_X12_change_e]
    refine ⟨hc, hv, mX_B (RR_m h hA).2.1, fun z => absurd (by unfold mCC; rw [k5, r2]; exact qm) z, fun _ => ⟨by rw [r2], ?_⟩⟩
    unfold chM
    rw [r1]
    refine RR_q2 h ht (fun b hb => by rw [up_na _ hb, up_na _ hb]) (fun j j0 j1 => by rw [up_nj _ (by omega), up_nj _ (by omega), r1]) ?_
    rw [up_row, up_row, r1]
    refine auR_c nn.2.1.2 (fun k k0 k1 => ?_) (fun j j0 j1 => ?_) (auR_ch nn.2.1.2 nn.2.2.1.2 h.2.2.2.2.2.1.1 c0 c1 t0 t1 h2)
    · rw [aud_u ⟨by decide, by decide⟩ c0 (by omega) k0 k1, show ((18 : Int) - 17) * 6 + c = c + 6 by omega]
      unfold upf
      by_cases y : k = c + 6
      · rw [if_pos y, if_pos y]
      · rw [if_neg y, if_neg y, aud_u ⟨by decide, by decide⟩ c0 (by omega) k0 k1, show ((19 : Int) - 17) * 6 + c = c + 12 by omega]
        unfold upf
        rw [aud_rm σ k1]
    · unfold upf
      by_cases y : j = 4 * c + 2
      · rw [if_pos y, if_neg (by omega), if_pos y]
      · rw [if_neg y]
        by_cases y2 : j = 4 * c + 1
        · rw [if_pos y2, if_pos y2]
        · rw [if_neg y2, if_neg y2, if_neg y]
theorem evS_7 {σ τ : Mem} {p : Int} (h : evS σ p τ) : τ 31 7 = σ 31 7 ∧ τ 31 8 = σ 31 8 := by
  obtain ⟨υ, h1, rfl⟩ := h
  have u31 : υ 31 = rmM σ 31 := h1.1 31 (by decide) (by decide) (by decide) (by decide) (by decide) (by decide) (by decide) (by decide) (by decide) (by decide) (by decide) (by decide)
  have r := rmM_31 σ
  unfold wrM
  rw [up_nj _ (by decide), up_nj _ (by decide), up_na _ (by decide), u31]
  exact ⟨r.2.2.2.1, r.2.2.2.2⟩
theorem sim_evening {σ : Mem} (h : RR σ) {p : Int} (hp : InR p) : w_X11_evening [(27, 0), (0, p)] σ (fun r τ => w_X12_evening [(28, 5000), (0, p)] τ (sQ r)) := by
  have hth := RR_th h
  have n := RR_cnt h
  have a := RR_now h
  have W := RR_W h
  rw [w_X11_evening_e]
  refine ⟨hp, RR_xA h, fun q => ?_, fun q τ hS => ?_⟩
  · rw [n.1, a.2.1.2.2] at q
    rw [w_X12_evening_e]
    exact ⟨hp, RR_mX h, fun _ => ⟨rfl, hth⟩, fun z => absurd z q⟩
  · have ex := evS_x (RR_xA h) ⟨q.1, q.2.1⟩ (by omega) (by omega) hS
    rw [n.1, a.2.1.2.2] at q
    have hA := AF_AG ex.2.1
    obtain ⟨m1, m2, m3, m4, m5, o, k, k5, mo⟩ := RR_m h hA
    have e15 : τ 5015 = σ 5015 := by rw [← th_o τ (show (5015 : Int) ≠ 5000 by decide)]; exact o 5015 (by decide) (by decide)
    rw [w_X12_evening_e]
    refine ⟨hp, m2, fun z => absurd (by rw [k5, e15]; exact q) z, fun _ μ hM => ?_⟩
    obtain ⟨s1, s2, s3, s4⟩ := ev_sim m5 m3 m4 m1 (RR_xS h).1 (RR_min h p) q.1 (by rw [k 28 (by decide)]; exact q.2.1) (by rw [o 5015 (by decide) (by decide)]; exact q.2.2) h.2.2.2.2.2.2.2.2.2.2 hS hM
    have hxm := mEv_x (mX_rmb m1) (by rw [rmb_15, o 5015 (by decide) (by decide)]; omega) hM
    refine ⟨by rw [s3], RR_act h hA (evS_7 hS) (MG_tr (MG_tr (MG_th τ) (MG_rmb _)) hxm.2.1) hxm.1.2.1.1 s1 s2 s4⟩
