/-! TEXT side by side -/
theorem lst_cg {f g : Int → Int} : ∀ (C : List Int) (i : Int), (∀ j, i ≤ j → j < i + C.length → g j = f j) → lst f i C → lst g i C := by
  intro C
  induction C with
  | nil => intro i _ _; trivial
  | cons a C ih =>
    intro i hj h
    have hl : ((a :: C).length : Int) = C.length + 1 := by simp
    rw [hl] at hj
    exact ⟨(hj i (by omega) (by omega)).trans h.1, ih (i + 1) (fun j a b => hj j (by omega) (by omega)) h.2⟩
theorem gLw_b {t : Int → Int} {n : Int} (ht : ∀ i, n ≤ i → t i = -1) : ∀ (f : Nat) (p q : Int), 0 ≤ p → p ≤ n → gLw t n f p = .inl q → 0 ≤ q ∧ q ≤ n := by
  intro f
  induction f with
  | zero => intro p q p0 p1 h; unfold gLw at h; cases h; exact ⟨p0, p1⟩
  | succ f ih =>
    intro p q p0 p1 h
    have hb := gCl_b ht p0 p1
    unfold gLw at h
    cases hg : gCl t n p with
    | inl q' =>
      rw [hg] at h hb
      have hb : p ≤ q' ∧ q' ≤ n := hb
      cases h; omega
    | inr x =>
      rw [hg] at h hb
      have hb : p < x.1 ∧ x.1 ≤ n := hb
      have s1 := sk_b t hb.2
      dsimp only at h
      by_cases c1 : t (sk t n x.1) = 59
      · rw [if_pos c1] at h
        have l1 := sk_lt ht (q := sk t n x.1) (by omega)
        cases hr : gLw t n f (sk t n x.1 + 1) with
        | inl q' => rw [hr] at h; cases h; exact ih _ _ (by omega) (by omega) hr
        | inr K => rw [hr] at h; cases h
      · rw [if_neg c1] at h
        by_cases c2 : t (sk t n x.1) = -1
        · rw [if_pos c2] at h; cases h
        · rw [if_neg c2] at h; cases h; omega
/-- what the reference's TEXT needs, where its rows are as they were -/
theorem TXP {σ t : Mem} (h : RR σ) (q : ∀ b, 5000 ≤ b → t b = σ b) : (InR (hRd (th0 t)).1 ∧ InR (sRd (th0 t)).1) ∧ txtOk (th0 t) 5001 0 (th0 t 5000 6) ∧ rowB (vof (th0 t)) ∧ lbd (mL (th0 t)) ∧ (0 ≤ t 5000 7 ∧ t 5000 7 ≤ 4) ∧ (0 ≤ t 5000 34 ∧ t 5000 34 ≤ 4) ∧ (0 ≤ (hRd (th0 t)).2.2.1 2 ∧ (hRd (th0 t)).2.2.1 2 ≤ 6) ∧ (hRd (th0 t)).1 = (hoF σ).1 ∧ sRd (th0 t) = seF σ ∧ txt (th0 t) 5001 0 (th0 t 5000 6) = tsg σ ∧ th0 t 5000 6 = σ 1 1 := by
  have e6 : th0 t 5000 6 = σ 1 1 := by rw [th_k t (by decide), q 5000 (by decide)]; exact h.1.2.1
  have e5 : th0 t 5001 = σ 5001 := by rw [th_o t (by decide)]; exact q 5001 (by decide)
  have et := tx_eq h.1 e5 e6
  have E := hRd_eq (σ := σ) (m := th0 t) et e6
  have S := sRd_eq (σ := σ) (m := th0 t) et e6
  obtain ⟨c1, c2, c3, c4⟩ := hoF_b h
  have sb := seasF_1 (t := tsg σ) (n := σ 1 1) (fun i hi => (tsg_bd h.1.1 i).2.2.2 hi) 16 0 0 (fun _ => 0) (by decide) h.1.1.1
  have nn := RR_n h
  have t1 := h.1.1.2.1
  have k2 := E.2.1 2 (by decide) (by decide)
  have c2' := c1 2 (by decide) (by decide)
  refine ⟨⟨by rw [E.1]; exact ⟨by omega, by omega⟩, by rw [S]; exact ⟨by have := sb.1; show _ ≤ (seasF _ _ _ _ _ _).1; omega, by have := sb.2; show (seasF _ _ _ _ _ _).1 ≤ _; omega⟩⟩, tx_ok h.1 e5 e6, ?_, ?_, by rw [q 5000 (by decide)]; exact nn.2.2.2, by rw [q 5000 (by decide)]; exact h.2.2.2.1.2.1.1, by rw [k2]; exact c2', E.1, S, et, e6⟩
  · have hv := h.2.1.2.2.2.2.1
    rw [vof_c (m := σ) (by rw [th_o t (by decide)]; exact q 5006 (by decide)) (by rw [th_o t (by decide)]; exact q 5008 (by decide)) (by rw [th_o t (by decide)]; exact q 5010 (by decide)) (by rw [th_o t (by decide)]; exact q 5012 (by decide))]; exact hv
  · have : mL (th0 t) = mL σ := by funext j; unfold mL; rw [th_o t (by decide), q 5004 (by decide)]
    rw [this]; exact h.2.2.2.2.2.2.2.2.2.1.1.2.2
theorem wnM_c (σ : Mem) (i : Int) : wnM σ i (101 + 3 * i) (-1) = σ 9 2 ∧ ∀ j, 0 ≤ j → j < σ 9 2 → i ≥ 0 → wnM σ i (101 + 3 * i) j = σ 10 j := by
  have e : wnM σ i (101 + 3 * i) = cpy (newm (newm σ (100 + 3 * i) (dfv 2)) (101 + 3 * i) (dfa (σ 9 2))) 10 0 (101 + 3 * i) 0 (σ 9 2) (101 + 3 * i) := by
    unfold wnM; rw [up_na _ (by omega), up_na _ (by omega), newm_o _ (by omega) (by omega)]
  rw [e]
  refine ⟨?_, fun j j0 j1 i0 => ?_⟩
  · unfold cpy; rw [if_neg (by omega), newm_s]; rfl
  · rw [cpy_in _ _ _ _ _ _ ⟨j0, by omega⟩, newm_o _ (by omega) (by omega), newm_o _ (by omega) (by omega)]
    congr 1; omega
theorem wnM_l (σ : Mem) {i : Int} (i0 : 0 ≤ i) (a : Int) : wnM σ i (-2) a = if a = 100 + 3 * i ∨ a = 101 + 3 * i ∨ a = 102 + 3 * i then 1 else σ (-2) a := by
  unfold wnM
  rw [up_na _ (by omega), up_na _ (by omega)]
  by_cases c2 : a = 102 + 3 * i
  · rw [c2, newm_l _ (by omega), if_pos (Or.inr (Or.inr rfl))]
  · rw [newm_n _ (by omega) c2, cpy_o _ (by omega)]
    by_cases c1 : a = 101 + 3 * i
    · rw [c1, newm_l _ (by omega), if_pos (Or.inr (Or.inl rfl))]
    · rw [newm_n _ (by omega) c1]
      by_cases c0 : a = 100 + 3 * i
      · rw [c0, newm_l _ (by omega), if_pos (Or.inl rfl)]
      · rw [newm_n _ (by omega) c0, if_neg (by omega)]
/-- a LAW taken -/
theorem RR_law {σ τ υ : Mem} {q : Int} {K : List CL} (h : RR σ) (l4 : σ 0 5 < 4) (hX : RdX σ τ q) (hg : gLw (tsg σ) (σ 1 1) 241 0 = .inr K) (h9 : τ 9 2 = (kcd K []).length) (hl : (kcd K []).length ≤ 240) (hls : lst (τ 10) 0 (kcd K [])) (hF : GF (th0 (tlM τ (σ 0 5))) υ) : υ 5000 7 = σ 0 5 ∧ RR (txL υ) := by
  have nn := RR_n h
  have e57 : σ 0 5 = σ 5000 7 := h.2.2.1.1
  generalize hi : σ 0 5 = i at *
  have i0 : 0 ≤ i := by omega
  -- the class's rows
  have tb : ∀ b, b ≠ 0 → b ≠ 1 → b ≠ 12 → b ≠ -2 → ¬ (9 ≤ b ∧ b ≤ 11) → ¬ (100 + 3 * i ≤ b ∧ b ≤ 102 + 3 * i) → tlM τ i b = σ b := fun b a0 a1 a12 a2 a9 a100 => by
    unfold tlM
    rw [up_na _ a1, up_na _ a0, up_na _ a12, wnM_o τ (by omega) (by omega) (by omega) a2]
    exact hX.1 b a1 (by omega) (by omega) (by omega)
  have tw : ∀ b, 100 ≤ b → b < 5000 → tlM τ i b = wnM τ i b := fun b b0 b1 => by
    unfold tlM
    rw [up_na _ (by omega), up_na _ (by omega), up_na _ (by omega)]
  have t0 : ∀ k, k ≠ 5 → tlM τ i 0 k = σ 0 k := fun k hk => by
    unfold tlM
    rw [up_na _ (by decide), up_nj _ hk, up_na _ (by decide), wnM_o τ (by omega) (by omega) (by omega) (by decide), hX.1 0 (by decide) (by decide) (by decide) (by decide)]
  have t05 : tlM τ i 0 5 = i + 1 := by unfold tlM; rw [up_na _ (by decide), up_s]
  have t11 : tlM τ i 1 1 = 0 := by unfold tlM; rw [up_s]
  have t12 : ∀ j, tlM τ i 12 j = if j = i then 100 + 3 * i else σ 12 j := fun j => by
    unfold tlM
    rw [up_na _ (by decide), up_na _ (by decide)]
    by_cases c : j = i
    · rw [if_pos c, c, up_s]
    · rw [if_neg c, up_nj _ c, wnM_o τ (by omega) (by omega) (by omega) (by decide), hX.1 12 (by decide) (by decide) (by decide) (by decide)]
  have tl2 : ∀ a, tlM τ i (-2) a = if a = 100 + 3 * i ∨ a = 101 + 3 * i ∨ a = 102 + 3 * i then 1 else σ (-2) a := fun a => by
    have : tlM τ i (-2) = wnM τ i (-2) := by unfold tlM; rw [up_na _ (by decide), up_na _ (by decide), up_na _ (by decide)]
    rw [this, wnM_l τ i0, hX.1 (-2) (by decide) (by decide) (by decide) (by decide)]
  have q5 : ∀ b, 5000 ≤ b → tlM τ i b = σ b := fun b hb => tb b (by omega) (by omega) (by omega) (by omega) (by omega) (by omega)
  -- the reference's rows
  have ub : ∀ b, b ≠ 5000 → υ b = tlM τ i b := fun b hb => by rw [hF.1 b hb, th_o _ hb]
  have uk : ∀ x, x ≠ 0 → x ≠ 5 → (x < 8 ∨ 14 < x) → x ≠ 17 → υ 5000 x = σ 5000 x := fun x x0 x5 x8 x17 => by rw [hF.2 x x5 x8 x17, th_k _ x0, q5 5000 (by decide)]
  have u7 : υ 5000 7 = i := by rw [uk 7 (by decide) (by decide) (by decide) (by decide)]; omega
  have u6 : υ 5000 6 = σ 1 1 := by rw [uk 6 (by decide) (by decide) (by decide) (by decide)]; exact h.1.2.1
  have n0 := h.1.1.1
  have n1 := h.1.1.2.1
  have mb : ∀ b, b ≠ 5000 → b ≠ 5002 → b ≠ 5003 → txL υ b = tlM τ i b := fun b b0 b2 b3 => by
    unfold txL; rw [up_na _ b0, up_na _ b3, cpy_oo _ _ _ _ _ _ b2, up_na _ b0]; exact ub b b0
  have m7 : txL υ 5000 7 = i + 1 := by unfold txL; rw [up_s, u7]
  have m6 : txL υ 5000 6 = 0 := by unfold txL; rw [up_nj _ (by decide), up_na _ (by decide), cpy_oo _ _ _ _ _ _ (by decide), up_s]
  have mk : ∀ x, x ≠ 0 → x ≠ 5 → x ≠ 6 → x ≠ 7 → (x < 8 ∨ 14 < x) → x ≠ 17 → txL υ 5000 x = σ 5000 x := fun x x0 x5 x6 x7 x8 x17 => by
    unfold txL; rw [up_nj _ x7, up_na _ (by decide), cpy_oo _ _ _ _ _ _ (by decide), up_nj _ x6]; exact uk x x0 x5 x8 x17
  have m3 : ∀ j, txL υ 5003 j = if j = i then σ 1 1 else σ 5003 j := fun j => by
    unfold txL
    rw [up_na _ (by decide), u7, u6]
    by_cases c : j = i
    · rw [if_pos c, c, up_s]
    · rw [if_neg c, up_nj _ c, cpy_oo _ _ _ _ _ _ (by decide), up_na _ (by decide), ub 5003 (by decide), q5 5003 (by decide)]
  have m2i : ∀ x, 0 ≤ x → x < σ 1 1 → txL υ 5002 (240 * i + x) = σ 5001 x := fun x x0 x1 => by
    unfold txL
    rw [up_na _ (by decide), up_na _ (by decide), u7, u6, cpy_in _ _ _ _ _ _ ⟨by omega, by omega⟩, up_na _ (by decide), ub 5001 (by decide), q5 5001 (by decide)]
    congr 1; omega
  have m2o : ∀ j, j < 240 * i → txL υ 5002 j = σ 5002 j := fun j hj => by
    unfold txL
    rw [up_na _ (by decide), up_na _ (by decide), u7]
    unfold cpy
    rw [if_neg (by omega), up_na _ (by decide), ub 5002 (by decide), q5 5002 (by decide)]
  refine ⟨u7, ?_⟩
  generalize txL υ = μ at *
  obtain ⟨⟨h1, h12, h13⟩, h2, ⟨a1, a2, a3, a4, a5⟩, h4, h5, h6, h7, h8, h9', ⟨⟨⟨b1, b2, b3⟩, bm, bl⟩, h10⟩, h11⟩ := h
  have etx : txt μ 5002 (240 * i) (σ 1 1) = tsg σ := by
    rw [← tx_eq (σ := σ) (m := σ) ⟨h1, h12, h13⟩ rfl rfl]
    funext x
    unfold txt
    by_cases c : 0 ≤ x ∧ x < σ 1 1
    · rw [if_pos c, if_pos c, m2i x c.1 c.2, Int.zero_add]
    · rw [if_neg c, if_neg c]
  have oldT : ∀ l, 0 ≤ l → l < i → txt μ 5002 (240 * l) (μ 5003 l) = txt σ 5002 (240 * l) (σ 5003 l) ∧ μ 5003 l = σ 5003 l ∧ txtOk μ 5002 (240 * l) (σ 5003 l) := fun l l0 l1 => by
    have o := (b3 l l0 (by omega)).1
    have ol := o.2.1
    have e3 : μ 5003 l = σ 5003 l := by rw [m3, if_neg (by omega)]
    refine ⟨?_, e3, o.1, o.2.1, o.2.2.1, fun x x0 x1 => ?_⟩
    · rw [e3]
      funext x
      unfold txt
      by_cases c : 0 ≤ x ∧ x < σ 5003 l
      · rw [if_pos c, if_pos c, m2o _ (by omega)]
      · rw [if_neg c, if_neg c]
    · rw [m2o _ (by omega)]; exact o.2.2.2 x x0 x1
  have oldK : ∀ l, 0 ≤ l → l < i → lwK μ l = lwK σ l := fun l l0 l1 => by
    unfold lwK
    rw [(oldT l l0 l1).1, (oldT l l0 l1).2.1]
  have newK : lwK μ i = K := by
    unfold lwK
    rw [m3, if_pos rfl, etx, hg]
  have hLaws : lawsOk μ := by
    refine ⟨by rw [m7]; omega, by rw [m7]; omega, fun l l0 l1 => ?_⟩
    rw [m7] at l1
    by_cases c : l = i
    · subst c
      rw [m3, if_pos rfl, etx]
      refine ⟨⟨n0, n1, Or.inr ⟨rfl, by omega, by omega⟩, fun x x0 x1 => ?_⟩, K, hg⟩
      rw [m2i x x0 x1]; exact (h13 x x0 x1).1
    · obtain ⟨o1, o2, o3⟩ := oldT l l0 (by omega)
      rw [o1, o2]
      exact ⟨o3, (b3 l l0 (by omega)).2⟩
  have hMem : memOk μ := by
    intro s s0 s1
    obtain ⟨c1, c2⟩ := bm s s0 s1
    have e17 : μ 5017 = σ 5017 := by rw [mb 5017 (by decide) (by decide) (by decide)]; exact q5 _ (by decide)
    have e18 : μ 5018 = σ 5018 := by rw [mb 5018 (by decide) (by decide) (by decide)]; exact q5 _ (by decide)
    rw [e17, e18, m7]
    refine ⟨⟨c1.1, ?_⟩, fun l f hh d n k e l0 l1 hd he => ?_⟩
    · have c3 := c1.2
      unfold mkey at c3 ⊢
      omega
    · by_cases c : l = i
      · have c3 := c1.2
        rw [he, c] at c3
        unfold mkey at c3
        unfold mdg at hd
        omega
      · have := c2 l f hh d n k e l0 (by omega) hd he
        rw [this]
        unfold mwo
        rw [oldK l l0 (by omega)]
  have ql : ∀ b, b ≠ 0 → b ≠ 1 → b ≠ 12 → b ≠ -2 → ¬ (9 ≤ b ∧ b ≤ 11) → ¬ (100 + 3 * i ≤ b ∧ b ≤ 102 + 3 * i) → b ≠ 5000 → b ≠ 5002 → b ≠ 5003 → μ b = σ b := fun b a0 a1 a12 a2 a9 a100 b0 b2 b3 => by rw [mb b b0 b2 b3]; exact tb b a0 a1 a12 a2 a9 a100
  have qs : ∀ b, b = 2 ∨ (4 ≤ b ∧ b ≤ 8) ∨ (13 ≤ b ∧ b ≤ 42) ∨ 5004 ≤ b ∨ b = 5001 → μ b = σ b := fun b hb => ql b (by omega) (by omega) (by omega) (by omega) (by omega) (by omega) (by omega) (by omega) (by omega)
  have m0 : ∀ k, k ≠ 5 → μ 0 k = σ 0 k := fun k hk => by rw [mb 0 (by decide) (by decide) (by decide)]; exact t0 k hk
  have m11 : μ 1 1 = 0 := by rw [mb 1 (by decide) (by decide) (by decide)]; exact t11
  have m12 : ∀ j, μ 12 j = if j = i then 100 + 3 * i else σ 12 j := fun j => by rw [mb 12 (by decide) (by decide) (by decide)]; exact t12 j
  have mK : ∀ x, x = 28 ∨ x = 29 ∨ x = 30 ∨ x = 34 ∨ x = 38 ∨ x = 39 ∨ x = 48 ∨ x = 53 ∨ x = 56 → μ 5000 x = σ 5000 x := fun x hx => mk x (by omega) (by omega) (by omega) (by omega) (by omega) (by omega)
  have m38 := mK 38 (by decide)
  refine ⟨⟨⟨by rw [m11]; decide, by rw [m11]; decide, fun x x0 x1 => ?_⟩, by rw [m6, m11], fun x x0 x1 => ?_⟩, houR_c (qs 4 (by decide)) (qs 5 (by decide)) (qs 7 (by decide)) (qs 8 (by decide)) (fun x hx => mK x (by omega)) (fun b hb => qs b (by omega)) h2, ⟨?_, ?_, ?_, ?_, fun l l0 l1 => ?_⟩, seaR_c (by rw [qs 13 (by decide)]) (qs 14 (by decide)) (qs 15 (by decide)) (mK 34 (by decide)) (qs 5013 (by decide)) (qs 5014 (by decide)) h4, howR_c (by rw [qs 41 (by decide)]) (qs 42 (by decide)) (fun x hx => mK x (by omega)) (qs 5024 (by decide)) h5, nowR_c nn.2.1.2 (fun j _ _ => by rw [qs 16 (by decide)]) (fun b b0 b1 => qs b (by omega)) (qs 32 (by decide)) (by rw [qs 31 (by decide)]) ⟨mK 29 (by decide), mK 30 (by decide)⟩ (qs 5015 (by decide)) h6, pastR_c (fun x _ => by rw [qs 31 (by decide)]) (qs 32 (by decide)) (qs 33 (by decide)) (fun x hx => mK x (by omega)) (qs 5023 (by decide)) h7, imR_c (fun x _ => by rw [qs 31 (by decide)]) (qs 34 (by decide)) (qs 35 (by decide)) (fun x hx => mK x (by omega)) (qs 5026 (by decide)) h8, fun a => ?_, mskR_c ⟨hLaws, hMem, ?_⟩ (m0 8 (by decide)) ⟨mK 39 (by decide), mK 28 (by decide), mK 30 (by decide)⟩ (qs 5007 (by decide)) (qs 5011 (by decide)) (qs 5005 (by decide)) ⟨⟨⟨b1, b2, b3⟩, bm, bl⟩, h10⟩, ringR_c (qs 32 (by decide)) (qs 35 (by decide)) h11⟩
  · rw [m11] at x1; omega
  · rw [m11] at x1; omega
  · rw [mb 0 (by decide) (by decide) (by decide), t05, m7]
  · rw [m0 6 (by decide), m38]; exact a2
  · unfold lwIs at a3 ⊢
    rw [m38, m7]; omega
  · rw [qs 26 (by decide), m38, a4]
    unfold lwIs at a3
    by_cases c : σ 5000 38 = -1
    · rw [if_pos c, if_pos c]
    · rw [if_neg c, if_neg c, m12, if_neg (by omega)]
  · rw [m7] at l1
    by_cases c : l = i
    · subst c
      have hwc := wnM_c τ l
      have er : μ (101 + 3 * l) = wnM τ l (101 + 3 * l) := by rw [mb _ (by omega) (by omega) (by omega)]; exact tw _ (by omega) (by omega)
      rw [m12, if_pos rfl, er, hwc.1, h9, newK]
      refine ⟨rfl, ⟨by omega, by omega⟩, fun L hL => ?_⟩
      have hv := gLw_val hL 241 0 K hg
      refine ⟨kval_b hv, wx_law hv (by omega) (lst_cg _ _ (fun j j0 j1 => ?_) hls)⟩
      rw [Int.zero_add, ← h9] at j1
      exact hwc.2 j j0 j1 i0
    · have o := a5 l l0 (by omega)
      have er : μ (101 + 3 * l) = σ (101 + 3 * l) := ql _ (by omega) (by omega) (by omega) (by omega) (by omega) (by omega) (by omega) (by omega) (by omega)
      rw [m12, if_neg c, er, oldK l l0 (by omega)]
      exact o
  · rw [mb (-2) (by decide) (by decide) (by decide), tl2, m7]
    by_cases c : a = 100 + 3 * i ∨ a = 101 + 3 * i ∨ a = 102 + 3 * i
    · rw [if_pos c]; exact ⟨fun _ => by omega, fun _ => rfl⟩
    · rw [if_neg c, h9' a]
      constructor <;> intro z <;> omega
  · have : mL μ = mL σ := by funext j; unfold mL; rw [qs 5004 (by decide)]
    rw [this]; exact bl
theorem sim_text {σ : Mem} (h : RR σ) {s : Int} (hs : InR s) : w_X11_text [(27, 0), (0, s)] σ (fun r τ => w_X12_text [(28, 5000), (0, s)] τ (sQ r)) := by
  have nn := RR_n h
  have e57 : σ 0 5 = σ 5000 7 := h.2.2.1.1
  have e13 : σ 13 3 = σ 5000 34 := h.2.2.2.1.2.2.1
  have sea := h.2.2.2.1.1
  have n0 := h.1.1.1
  have n1 := h.1.1.2.1
  obtain ⟨c1, c2, c3, c4⟩ := hoF_b h
  have sb := seasF_1 (t := tsg σ) (n := σ 1 1) (fun i hi => (tsg_bd h.1.1 i).2.2.2 hi) 16 0 0 (fun _ => 0) (by decide) h.1.1.1
  rw [w_X11_text_e]
  refine ⟨hs, fun q => ?_, fun q => ?_, fun q => ?_, fun q => ?_⟩
  · obtain ⟨⟨y1, y2⟩, y3, y4, y5, y6, y7, y8, -⟩ := TXP (t := σ) h (fun _ _ => rfl)
    rw [w_X12_text_e]
    exact ⟨hs, y1, y2, y3, y4, y5, y6, y7, y8, fun _ => ⟨rfl, RR_th h⟩, fun z => absurd q (by omega), fun z => absurd q (by omega), fun z => absurd q (by omega)⟩
  · rw [w_X11_takeHouse_e]
    refine ⟨h.1.1, (RR_plan h).2, ⟨by omega, by omega⟩, fun z => ?_, fun z => ?_⟩
    · have hτ : RR (hoM σ) := RR_hst h c1 c2 (hoF σ).2.1
      obtain ⟨o, -, -, -⟩ := hst_r (σ := σ) (c := (hoF σ).2.2.1) (v := (hoF σ).2.2.2) (p := (hoF σ).2.1)
      obtain ⟨⟨y1, y2⟩, y3, y4, y5, y6, y7, y8, y9, -⟩ := TXP (t := hoM σ) h (fun b hb => o b (by omega) (by omega) (by omega))
      rw [w_X12_text_e]
      exact ⟨hs, y1, y2, y3, y4, y5, y6, y7, y8, fun z => absurd q (by omega), fun _ => ⟨fun _ υ hF hv => ⟨rfl, RR_hrf hτ hF hv⟩, fun zz => absurd (y9 ▸ zz) z⟩, fun z => absurd q (by omega), fun z => absurd q (by omega)⟩
    · obtain ⟨o, -⟩ := hoE_r σ
      obtain ⟨⟨y1, y2⟩, y3, y4, y5, y6, y7, y8, y9, -⟩ := TXP (t := hoE σ) h (fun b hb => o b (by omega) (by omega) (by omega) (by omega) (by omega) (by omega) (by omega) (by omega))
      rw [w_X12_text_e]
      exact ⟨hs, y1, y2, y3, y4, y5, y6, y7, y8, fun z => absurd q (by omega), fun _ => ⟨fun zz => absurd (y9.trans z) zz, fun _ υ hF hv ok => by
        obtain ⟨e, hr⟩ := RR_house h z hF hv ok
        exact ⟨by rw [e], hr⟩⟩, fun z => absurd q (by omega), fun z => absurd q (by omega)⟩
  · rw [w_X11_takeLaw_e]
    refine ⟨h.1.1, by omega, by omega, fun z => ?_, fun z => ⟨fun τ p hX hg => ?_, fun τ p K hX hg h9 hl hls => ?_⟩⟩
    · obtain ⟨⟨y1, y2⟩, y3, y4, y5, y6, y7, y8, -⟩ := TXP (t := σ) h (fun _ _ => rfl)
      rw [w_X12_text_e]
      exact ⟨hs, y1, y2, y3, y4, y5, y6, y7, y8, fun _ => ⟨rfl, RR_th h⟩, fun z => absurd q (by omega), fun _ z => absurd z (by omega), fun z => absurd q (by omega)⟩
    · have hτ := RR_rdx h hX
      have pb := gLw_b (fun i hi => (tsg_bd h.1.1 i).2.2.2 hi) 241 0 p (by decide) n0 hg
      refine ⟨⟨by omega, by omega⟩, by omega, ?_⟩
      obtain ⟨⟨y1, y2⟩, y3, y4, y5, y6, y7, y8, -, -, yt, yn⟩ := TXP (t := τ) h (fun b hb => hX.1 b (by omega) (by omega) (by omega) (by omega))
      rw [w_X12_text_e]
      refine ⟨hs, y1, y2, y3, y4, y5, y6, y7, y8, fun zz => ?_, fun zz => absurd q (by omega), fun _ _ => ⟨fun υ f _ hF => ⟨rfl, RR_gf hτ hF⟩, fun υ K g _ => ?_⟩, fun zz => absurd q (by omega)⟩
      · rw [hX.1 5000 (by decide) (by decide) (by decide) (by decide)] at zz; omega
      · rw [yt, yn, hg] at g; cases g
    · have lv := fun a => h.2.2.2.2.2.2.2.2.1 a
      have rl : τ (-2) = σ (-2) := hX.1 (-2) (by decide) (by decide) (by decide) (by decide)
      have free : ∀ a, 100 + 3 * σ 0 5 ≤ a → a ≤ 102 + 3 * σ 0 5 → nl τ a := fun a a0 a1 => ⟨by omega, by omega, by
        rw [rl]; intro e
        have := (lv a).mp e
        omega⟩
      refine ⟨free _ (by omega) (by omega), free _ (by omega) (by omega), free _ (by omega) (by omega), ?_⟩
      have q5 : ∀ b, 5000 ≤ b → tlM τ (σ 0 5) b = σ b := fun b hb => by
        unfold tlM
        rw [up_na _ (by omega), up_na _ (by omega), up_na _ (by omega), wnM_o τ (by omega) (by omega) (by omega) (by omega)]
        exact hX.1 b (by omega) (by omega) (by omega) (by omega)
      obtain ⟨⟨y1, y2⟩, y3, y4, y5, y6, y7, y8, -, -, yt, yn⟩ := TXP (t := tlM τ (σ 0 5)) h q5
      rw [w_X12_text_e]
      refine ⟨hs, y1, y2, y3, y4, y5, y6, y7, y8, fun zz => ?_, fun zz => absurd q (by omega), fun _ _ => ⟨fun υ f g _ => ?_, fun υ K' _ hF => ?_⟩, fun zz => absurd q (by omega)⟩
      · rw [q5 5000 (by decide)] at zz; omega
      · rw [yt, yn, hg] at g; cases g
      · obtain ⟨e, hr⟩ := RR_law h z hX hg h9 hl hls hF
        exact ⟨by rw [e], hr⟩
  · rw [w_X11_takeSeason_e]
    refine ⟨h.1.1, sea.1.1, sea.1.2, ⟨by have := sb.1; show _ ≤ (seasF _ _ _ _ _ _).1; omega, by have := sb.2; show (seasF _ _ _ _ _ _).1 ≤ _; omega⟩, fun z => ?_, fun z p v hv => ⟨fun zz => ?_, fun zz => ?_⟩⟩
    · obtain ⟨⟨y1, y2⟩, y3, y4, y5, y6, y7, y8, -⟩ := TXP (t := σ) h (fun _ _ => rfl)
      rw [w_X12_text_e]
      exact ⟨hs, y1, y2, y3, y4, y5, y6, y7, y8, fun _ => ⟨rfl, RR_th h⟩, fun z => absurd q (by omega), fun z => absurd q (by omega), fun _ z => absurd z (by omega)⟩
    · obtain ⟨o, r1, r14⟩ := sp_r (σ := σ) (p := p) (c := σ 13 3) (v := v)
      have hτ : RR (setP (up σ 1 2 p) (σ 13 3) v) := RR_sp h (fun b h1 h14 _ => o b h1 h14) r1 r14 (fun j hj => by rw [o 15 (by decide) (by decide)])
      have q5 : ∀ b, 5000 ≤ b → setP (up σ 1 2 p) (σ 13 3) v b = σ b := fun b hb => o b (by omega) (by omega)
      obtain ⟨⟨y1, y2⟩, y3, y4, y5, y6, y7, y8, -, ys, -⟩ := TXP (t := setP (up σ 1 2 p) (σ 13 3) v) h q5
      rw [w_X12_text_e]
      refine ⟨hs, y1, y2, y3, y4, y5, y6, y7, y8, fun z9 => ?_, fun zz => absurd q (by omega), fun zz => absurd q (by omega), fun _ _ => ⟨fun _ υ hF => ⟨rfl, RR_sef hτ hF⟩, fun z8 => absurd (ys ▸ z8) zz⟩⟩
      rw [q5 5000 (by decide)] at z9; omega
    · generalize hT : up (up (up (setP (up σ 1 2 p) (σ 13 3) v) 15 (σ 13 3) (seF σ).2.1) 13 3 (σ 13 3 + 1)) 1 1 0 = τ
      obtain ⟨o, r1, r14⟩ := sp_r (σ := σ) (p := p) (c := σ 13 3) (v := v)
      have q5 : ∀ b, 5000 ≤ b → τ b = σ b := fun b hb => by
        rw [← hT, up_na _ (by omega), up_na _ (by omega), up_na _ (by omega)]; exact o b (by omega) (by omega)
      obtain ⟨⟨y1, y2⟩, y3, y4, y5, y6, y7, y8, -, ys, -⟩ := TXP (t := τ) h q5
      rw [w_X12_text_e]
      refine ⟨hs, y1, y2, y3, y4, y5, y6, y7, y8, fun z9 => ?_, fun zz => absurd q (by omega), fun zz => absurd q (by omega), fun _ _ => ⟨fun z8 => absurd (by rw [ys]; exact zz) z8, fun _ υ hF ok => ?_⟩⟩
      · rw [q5 5000 (by decide)] at z9; omega
      · have so := h.2.2.2.1.2.1
        obtain ⟨e, hT2, hr⟩ := RR_season h zz z (hv zz) hT.symm hF ok so.2.2
        have sv := seF_v h.1.1 zz
        obtain ⟨-, -, -, g34, -, g14⟩ := txS_r (υ := υ)
        obtain ⟨f1, f2, f3, f4⟩ := hF
        refine ⟨by rw [e], hr ⟨⟨by rw [g34, e, h.2.2.2.1.2.2.1]; have := so.1.1; omega, by rw [g34, e]; omega⟩, fun k k0 k1 => ?_, hT2⟩⟩
        rw [g34, e] at k1
        rw [g14, e]
        by_cases c : k = σ 13 3
        · rw [if_pos c]
          have := ok.1
          rw [ys] at this
          rw [this]; exact sv.1
        · rw [if_neg c, f3 k (by omega), th_o _ (by decide), q5 5014 (by decide)]
          exact so.2.1 k k0 (by omega)
