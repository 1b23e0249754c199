/-! YEARS side by side -/
theorem ev_gs {β b υ μ : Mem} {p : Int} (hH : eqH β b) (ha : auR (b 5000 29) (b 5000 30) (aud β 16) (b 5015)) (lg : lgR (β 32) (β 31 1) (b 5015)) (hp : pastR β b) (hw : wrS β 1 = β 31 1) (hx : mX b 5015) (hB : planB β 6) (h9 : pval β 6 1 p 3 ≤ 9) (p0 : 0 ≤ p) (p1 : p < b 5000 28) (he : b 5015 26 < 999) (hr : ringR β) (hS : shP β υ 16 p) (hM : mEv b 5015 p μ) : nowR (wrM υ p (evMv β p) (evOb β p)) μ ∧ pastR (wrM υ p (evMv β p) (evOb β p)) μ ∧ ringR (wrM υ p (evMv β p) (evOb β p)) ∧ wrM υ p (evMv β p) (evOb β p) 31 7 = β 31 7 ∧ wrM υ p (evMv β p) (evOb β p) 31 8 = β 31 8 := by
  have n29 := hx.2.1.2.2.1
  have n28 := hx.2.1.2.2.2.2.1
  obtain ⟨sa, sm⟩ := sh_au (Or.inl rfl) hH ha hx hB h9 p0 p1 he hS hM
  have hex := mEv_x hx (by omega) hM
  have g29 := MG_29 hex.2.1
  obtain ⟨P1, P2, P3, P4⟩ := auR_p n29.2 ha
  have hA : eqA β b 16 5015 := ⟨fun c c0 c1 => ⟨(P1 c c0 c1).1, (P1 c c0 c1).2.1⟩, P2, P4⟩
  have eo : evOb β p = mOu b 5015 p (mMi b p) := play_out hH hA hx p0 p1
  have ob64 : 0 ≤ evOb β p ∧ evOb β p < 64 := by rw [eo]; exact mOu_b b 5015 p n29.2 _
  have Ab : 0 ≤ evMv β p ∧ evMv β p ≤ 8000000 := by
    have := sumC_b (f := pFl β 16 p) (c := 891) (n := (pcnt β 6 2).toNat) (fun i i0 i1 => pFl_b hB h9 i0 (by rw [hH.1] at i1; omega))
    rw [hH.1] at this
    have ee : evMv β p = sumC (pFl β 16 p) (b 5000 29).toNat := by
      show sumC (pFl β 16 p) (pcnt β 6 2).toNat = _
      rw [hH.1]
    rw [ee]
    omega
  obtain ⟨q1, q2, q3, q4, q5, q6⟩ := hS
  have u : ∀ c, c = 31 ∨ c = 32 ∨ c = 33 ∨ c = 35 → υ c = β c := fun c hc => q1 c (by omega) (by omega) (by omega) (by omega) (by omega) (by omega) (by omega) (by omega) (by omega) (by omega) (by omega) (by omega)
  have u31 := u 31 (by decide)
  have u32 := u 32 (by decide)
  have t32 : ∀ j, j ≠ β 31 1 % 128 → wrM υ p (evMv β p) (evOb β p) 32 j = β 32 j := fun j hj => by unfold wrM; rw [up_na _ (by decide), u31, up_nj _ hj, u32]
  have t32e : wrM υ p (evMv β p) (evOb β p) 32 (β 31 1 % 128) = pck p (evMv β p) (evOb β p) := by unfold wrM; rw [up_na _ (by decide), u31, up_s]
  have tW : wrM υ p (evMv β p) (evOb β p) 31 1 = β 31 1 + 1 := by unfold wrM; rw [up_s, u31]
  have tk : ∀ k, k ≠ 1 → wrM υ p (evMv β p) (evOb β p) 31 k = β 31 k := fun k hk => by unfold wrM; rw [up_nj _ hk, up_na _ (by decide), u31]
  have tw : ∀ c, c ≠ 31 → c ≠ 32 → wrM υ p (evMv β p) (evOb β p) c = υ c := fun c h1 h2 => by unfold wrM; rw [up_na _ h1, up_na _ h2]
  obtain ⟨υ', hP, hok, hμ⟩ := hM
  have uw : μ 5015 = mER (b 5015) (mFl b 5015 p (b 5007 (4 * p + 3)).toNat) (evOb β p) (b 5000 29) (evMv β p) p := by
    rw [hμ, setv_s, show evOb β p = mOu b 5015 p (b 5007 (4 * p + 3)).toNat from eo, show evMv β p = sumC (mFl b 5015 p (b 5007 (4 * p + 3)).toNat) (b 5000 29).toNat from sm]
  refine ⟨⟨?_, ?_⟩, past_write (υ := β) (μ := b) (μ' := μ) hp (Or.inl hw) tW (fun k hk => tk k (by omega)) (by rw [tw 33 (by decide) (by decide), u 33 (by decide)]) (fun j _ _ hj => t32 j hj) (fun k hk => ?_) ?_, ⟨fun j j0 j1 => ?_, ?_⟩, tk 7 (by decide), tk 8 (by decide)⟩
  · rw [g29.1, g29.2.1]
    exact auR_c n29.2 (fun k k0 k1 => aud_c (fun j _ _ => by rw [tw 16 (by decide) (by decide)]) (fun c c0 c1 => tw c (by omega) (by omega)) k1) (fun _ _ _ => rfl) sa
  · rw [tW, uw]
    exact lg_ev n29.2 lg (fun j _ _ hj => t32 j hj) t32e ⟨p0, by omega⟩ Ab ob64
  · rcases hk with e | e | e <;> rw [e]
    · exact g29.1
    · exact g29.2.1
    · exact hex.2.2.1
  · rw [hμ, setv_o _ _ (by decide)]; exact PF_r hP (by decide)
  · by_cases c : j = β 31 1 % 128
    · rw [c, t32e]; unfold pck; omega
    · rw [t32 j c]; exact hr.1 j j0 j1
  · rw [tw 35 (by decide) (by decide), u 35 (by decide)]; exact hr.2
/-- what is ahead of an EVENING: both sides -/
def YR (σ m α α' : Mem) : Prop := auR (m 5000 29) (m 5000 30) (aud α 16) (α' 5015) ∧ α 0 9 = α' 5000 49 ∧ (∀ b, b ≠ 0 → ¬ (16 ≤ b ∧ b ≤ 20) → α b = σ b) ∧ (∀ x, x ≠ 9 → α 0 x = σ 0 x) ∧ (∀ b, b ≠ 5000 → b ≠ 5015 → α' b = m b) ∧ (∀ x, x ≠ 49 → α' 5000 x = m 5000 x) ∧ ∀ j, 26 ≤ j → α' 5015 j = m 5015 j
theorem YR_d {σ m α α' : Mem} (n6 : m 5000 29 ≤ 6) (h : YR σ m α α') (v : Int) : YR σ m (up α 0 9 v) (up α' 5000 49 v) := by
  obtain ⟨h1, h2, h3, h4, h5, h6, h7⟩ := h
  refine ⟨auR_c n6 (fun k k0 k1 => aud_c (fun j _ _ => by rw [up_na _ (by decide)]) (fun c c0 c1 => up_na _ (by omega)) k1) (fun j _ _ => by rw [up_na _ (by decide)]) h1, by rw [up_s, up_s], fun b b0 b1 => by rw [up_na _ b0]; exact h3 b b0 b1, fun x hx => by rw [up_nj _ hx]; exact h4 x hx, fun b b0 b1 => by rw [up_na _ b0]; exact h5 b b0 b1, fun x hx => by rw [up_nj _ hx]; exact h6 x hx, fun j hj => by rw [up_na _ (by decide)]; exact h7 j hj⟩
theorem YR_i {σ m α α' : Mem} (n6 : m 5000 29 ≤ 6) (h : YR σ m α α') {t : Int} (t0 : 0 ≤ t) (t1 : t < 6) : YR σ m (up α 16 4 (amIor (α 16 4) (amIshl 1 t))) (up α' 5015 24 (amIor (α' 5015 24) (amIshl 1 t))) := by
  obtain ⟨h1, h2, h3, h4, h5, h6, h7⟩ := h
  obtain ⟨P1, P2, P3, P4⟩ := auR_p n6 h1
  have r24 := h1.2.2.1.2.1
  have bb := bor_b r24.1 r24.2 t0 t1
  rw [P2]
  refine ⟨?_, by rw [up_na _ (by decide), up_na _ (by decide)]; exact h2, fun b b0 b1 => by rw [up_na _ (by omega)]; exact h3 b b0 b1, fun x hx => by rw [up_na _ (by decide)]; exact h4 x hx, fun b b0 b1 => by rw [up_na _ b1]; exact h5 b b0 b1, fun x hx => by rw [up_na _ (by decide)]; exact h6 x hx, fun j hj => by rw [up_nj _ (by omega)]; exact h7 j hj⟩
  exact auR_c n6 (fun k k0 k1 => by rw [aud_gk (by decide) (by decide) k1]; rfl) (fun j _ _ => by rw [up_row]) (auR_k n6 h1 (Or.inl ⟨rfl, bb.1, bb.2⟩))
theorem YR_c {σ m α α' : Mem} (n6 : m 5000 29 ≤ 6) (s6 : m 5000 30 ≤ 6) (h : YR σ m α α') {c t : Int} (g : mCC α' 5015 c t) : YR σ m (up (up α 19 c (α 19 c - α 16 5)) 18 c t) (chM α' 5015 c t) := by
  obtain ⟨h1, h2, h3, h4, h5, h6, h7⟩ := h
  obtain ⟨P1, P2, P3, P4⟩ := auR_p n6 h1
  obtain ⟨g1, g2, g3, g4, g5, g6⟩ := g
  rw [h6 29 (by decide)] at g2
  rw [h6 30 (by decide)] at g4
  have e : α 19 c = α' 5015 (4 * c + 2) := (P1 c g1 g2).2.2.1
  rw [e, P3]
  unfold chM
  refine ⟨ch_au n6 s6 h1 g1 g2 g3 g4 g6 (fun k k0 k1 => ?_) (fun j _ _ => ?_), by rw [up_na _ (by decide), up_na _ (by decide), up_na _ (by decide), up_na _ (by decide)]; exact h2, fun b b0 b1 => by rw [up_na _ (by omega), up_na _ (by omega)]; exact h3 b b0 b1, fun x hx => by rw [up_na _ (by decide), up_na _ (by decide)]; exact h4 x hx, fun b b0 b1 => by rw [up_na _ b1, up_na _ b1]; exact h5 b b0 b1, fun x hx => by rw [up_na _ (by decide), up_na _ (by decide)]; exact h6 x hx, fun j hj => by rw [up_nj _ (by omega), up_nj _ (by omega)]; exact h7 j hj⟩
  · rw [aud_u (a := 18) ⟨by decide, by decide⟩ g1 (by omega) k0 k1, show ((18 : Int) - 17) * 6 + c = c + 6 by omega]
    unfold upf
    by_cases y : k = c + 6
    · rw [if_pos y, if_pos y]
    · rw [if_neg y, if_neg y, aud_u (a := 19) ⟨by decide, by decide⟩ g1 (by omega) k0 k1, show ((19 : Int) - 17) * 6 + c = c + 12 by omega]
      rfl
  · by_cases y : j = 4 * c + 2
    · rw [if_pos y, y, up_s]
    · rw [if_neg y, up_nj _ y]
      by_cases y2 : j = 4 * c + 1
      · rw [if_pos y2, y2, up_s]
      · rw [if_neg y2, up_nj _ y2]
theorem YR_AG {σ m α α' : Mem} (h : YR σ m α α') : AG σ α := ⟨fun b b0 b1 _ _ _ _ _ _ _ _ => h.2.2.1 b b0 (by omega), by rw [h.2.2.1 26 (by decide) (by decide)], h.2.2.2.1⟩
theorem YR_eqH {σ m α α' : Mem} (h : YR σ m α α') (hl : lawOk σ) (hH : eqH σ m) : eqH α α' := eqH_m (fun k hk => h.2.2.2.2.2.1 k (by omega)) (fun b hb => h.2.2.2.2.1 b (by omega) (by omega)) (AG_eqH (YR_AG h) hl hH)
theorem ah_sim {σ m α α' : Mem} (hH : eqH σ m) (hxa : xA σ) (n6 : m 5000 29 ≤ 6) (s6 : m 5000 30 ≤ 6) (s1 : 1 ≤ m 5000 30) (h8 : σ 0 8 = m 5000 39) (h : YR σ m σ m) (ha : ahS σ α) (hm : mAc (mdI m) α') : YR σ m α α' := by
  have h9 := h.2.1
  have I : YR σ m (daI σ) (mdI m) := by
    unfold daI mdI
    rw [h9, h8, hH.2.2.1]
    by_cases q : amLushr (dN (m 5000 49)) 33 % 10 < m 5000 39
    · rw [if_pos q, if_pos q, up_up]
      have db := dr_b (x := dN (dN (m 5000 49))) (b := m 5000 30) s1 s6
      have := YR_i n6 (YR_d n6 h (dN (dN (m 5000 49)))) db.1 (by omega)
      rw [show up σ 0 9 (dN (dN (m 5000 49))) 16 = σ 16 from up_na _ (by decide), show up m 5000 49 (dN (dN (m 5000 49))) 5015 = m 5015 from up_na _ (by decide)] at this
      exact this
    · rw [if_neg q, if_neg q]
      exact YR_d n6 h _
  have D : YR σ m (daD (daI σ)) (mdD (mdI m)) := by
    unfold daD mdD
    rw [up_up, I.2.1]
    exact YR_d n6 I _
  have hl := hxa.1.1.2.2.1
  obtain ⟨-, -, x3, x4, -, -⟩ := daI_x hxa
  have E : eqH (daI σ) (mdI m) := YR_eqH I hl hH
  have eC : daC (daI σ) = mdC (mdI m) := by unfold daC mdC; rw [I.2.1, E.1]
  have eS : daS (daI σ) = mdS (mdI m) := by unfold daS mdS; rw [I.2.1, E.2.2.1]
  have M5 : mdD (mdI m) 5015 = mdI m 5015 := up_na _ (by decide)
  have Mk : ∀ x, x ≠ 49 → mdD (mdI m) 5000 x = mdI m 5000 x := fun x hx => up_nj _ hx
  have ok : okC (daI σ) 16 (daC (daI σ)) (daS (daI σ)) ↔ mCC (mdD (mdI m)) 5015 (mdC (mdI m)) (mdS (mdI m)) := by
    rw [okC_g E (by rw [I.2.2.2.2.2.1 29 (by decide), I.2.2.2.2.2.1 30 (by decide)]; exact I.1) (by rw [I.2.2.2.2.2.1 29 (by decide)]; exact n6), eC, eS]
    unfold mCC
    rw [M5, Mk 29 (by decide), Mk 30 (by decide)]
  have d19 : daD (daI σ) 19 = σ 19 := by unfold daD; rw [up_na _ (by decide), up_na _ (by decide)]; exact x3
  have d16 : daD (daI σ) 16 5 = σ 16 5 := by unfold daD; rw [up_na _ (by decide), up_na _ (by decide)]; exact x4
  rcases ha with ⟨q, rfl⟩ | ⟨q, rfl⟩
  · rcases hm with ⟨g, rfl⟩ | ⟨g, -⟩
    · have := YR_c n6 s6 D g
      rw [d19, d16, ← eC, ← eS] at this
      rw [← eC, ← eS]
      exact this
    · exact absurd (ok.mp q) g
  · rcases hm with ⟨g, -⟩ | ⟨-, rfl⟩
    · exact absurd (ok.mpr g) q
    · exact D
theorem yr_sim {σ m τ μ : Mem} (hH : eqH σ m) (hn : nowR σ m) (hp : pastR σ m) (hx : mX m 5015) (hxa : xA σ) (hr : ringR σ) (h9 : σ 0 9 = m 5000 49) (h8 : σ 0 8 = m 5000 39) (b1 : 1 ≤ m 5000 28) (b3 : 1 ≤ m 5000 30) (he : m 5015 26 < 999) (hS : yrS σ τ) (hM : mYr m μ) : (nowR τ μ ∧ pastR τ μ ∧ ringR τ ∧ τ 31 7 = σ 31 7 ∧ τ 31 8 = σ 31 8) ∧ eqH τ μ ∧ τ 0 9 = μ 5000 49 ∧ τ 0 8 = μ 5000 39 ∧ (xA τ ∧ AG σ τ) ∧ mX μ 5015 ∧ MG m μ ∧ μ 5015 26 = m 5015 26 + 1 := by
  have n29 := hx.2.1.2.2.1
  have n30 := hx.2.1.2.2.2.1
  have rk : ∀ k, k ≠ 48 → rmb m 5000 k = m 5000 k := fun k hk => rmb_k m hk
  have ro : ∀ b, b ≠ 31 → b ≠ 33 → rmM σ b = σ b := fun b h1 h2 => rmM_o σ h1 h2
  have r15 := rmb_15 m
  have r31 := rmM_31 σ
  have W : σ 31 1 ≤ 999 ∧ σ 16 6 = m 5015 26 := by
    have h1 := hn.2.2.2.1
    have h2 := hn.1.2.2.2.1
    exact ⟨by omega, (auR_p n29.2 hn.1).2.2.2⟩
  have yx := yrS_x hxa (by omega) (by omega) hS
  have my := mYr_x hx b3 (by omega) hM
  have eHt : eqH τ μ := MG_eqH my.2.1 (AG_eqH yx.2.1 hxa.1.1.2.2.1 hH)
  obtain ⟨α, υ, ha, hs, rfl⟩ := hS
  obtain ⟨α', ha', hm⟩ := hM
  have hxr := rm_x hxa
  have eR : eqH (rmM σ) (rmb m) := MG_eqH (MG_rmb m) (AG_eqH (AG_rm σ) hxa.1.1.2.2.1 hH)
  have Y0 : YR (rmM σ) (rmb m) (rmM σ) (rmb m) := by
    refine ⟨?_, by rw [ro 0 (by decide) (by decide), rk 49 (by decide)]; exact h9, fun _ _ _ => rfl, fun _ _ => rfl, fun _ _ _ => rfl, fun _ _ => rfl, fun _ _ => rfl⟩
    rw [rk 29 (by decide), rk 30 (by decide), r15]
    exact auR_c n29.2 (fun k _ k1 => aud_rm σ k1) (fun _ _ _ => rfl) hn.1
  have Y := ah_sim eR hxr (by rw [rk 29 (by decide)]; exact n29.2) (by rw [rk 30 (by decide)]; exact n30.2) (by rw [rk 30 (by decide)]; exact b3) (by rw [ro 0 (by decide) (by decide), rk 39 (by decide)]; exact h8) Y0 ha ha'
  have n6 : rmb m 5000 29 ≤ 6 := by rw [rk 29 (by decide)]; exact n29.2
  have Y' := YR_d n6 Y (dN (α 0 9))
  have e9 := Y.2.1
  have a28 : α' 5000 28 = m 5000 28 := by rw [Y.2.2.2.2.2.1 28 (by decide), rk 28 (by decide)]
  have ep : amLushr (dN (α' 5000 49)) 33 % α' 5000 28 = amLushr (dN (α 0 9)) 33 % pcnt σ 6 1 := by rw [← e9, a28, hH.2.1]
  rw [ep, ← e9] at hm
  have p0 : 0 ≤ amLushr (dN (α 0 9)) 33 % pcnt σ 6 1 := Int.emod_nonneg _ (by rw [hH.2.1]; omega)
  have p1 : amLushr (dN (α 0 9)) 33 % pcnt σ 6 1 < m 5000 28 := by
    have := Int.emod_lt_of_pos (amLushr (dN (α 0 9)) 33) (show 0 < pcnt σ 6 1 by rw [hH.2.1]; omega)
    rw [hH.2.1] at this ⊢; exact this
  have mxa := (mAc_x (mdI_x (mX_rmb hx) (by rw [rk 30 (by decide)]; exact b3)).1 ha').1
  have mxb := mX_49 mxa (dN (α 0 9))
  have xb := D9_xA (D9_up α (dN (α 0 9))) (ahS_x hxr ha).1
  have eB : eqH (up α 0 9 (dN (α 0 9))) (up α' 5000 49 (dN (α 0 9))) := YR_eqH Y' hxr.1.1.2.2.1 eR
  obtain ⟨pp1, pp2⟩ := past_push (υ := rmM σ) (μ := rmb m) hn hp n29.2 (fun _ _ => rfl) (ro 32 (by decide) (by decide)) rfl ⟨rk 29 (by decide), rk 30 (by decide)⟩ rfl rfl
  generalize hP : amLushr (dN (α 0 9)) 33 % pcnt σ 6 1 = p at *
  generalize hβ : up α 0 9 (dN (α 0 9)) = β at *
  generalize hb : up α' 5000 49 (dN (α 0 9)) = b at *
  obtain ⟨z1, z2, z3, z4, z5, z6, z7⟩ := Y'
  have B31 : β 31 = rmM σ 31 := z3 31 (by decide) (by decide)
  have B32 : β 32 = σ 32 := by rw [z3 32 (by decide) (by decide), ro 32 (by decide) (by decide)]
  have B33 : β 33 = rmM σ 33 := z3 33 (by decide) (by decide)
  have B35 : β 35 = σ 35 := by rw [z3 35 (by decide) (by decide), ro 35 (by decide) (by decide)]
  have k29 : b 5000 29 = rmb m 5000 29 := z6 29 (by decide)
  have k30 : b 5000 30 = rmb m 5000 30 := z6 30 (by decide)
  have e26 : b 5015 26 = m 5015 26 := by rw [z7 26 (by decide), r15]
  have G := ev_gs eB (by rw [k29, k30]; exact z1) (by rw [B32, B31, r31.1]; exact lgR_c (fun _ _ _ => rfl) (fun j j0 _ => by rw [z7 j j0, r15]) hn.2) (pastR_c (fun x _ => by rw [B31]) (by rw [B32, ro 32 (by decide) (by decide)]) B33 (fun x hx => z6 x (by omega)) (z5 5023 (by decide) (by decide)) pp1) (by rw [wrS_c (by rw [B31]) (by rw [B31]) B33, B31]; exact pp2) mxb xb.1.1.2.1 (xb.1.2.2.1 p) p0 (by rw [z6 28 (by decide), rk 28 (by decide)]; exact p1) (by rw [e26]; exact he) (ringR_c B32 B35 hr) hs hm
  have mex := mEv_x mxb (by omega) hm
  refine ⟨⟨G.1, G.2.1, G.2.2.1, by rw [G.2.2.2.1, B31]; exact r31.2.2.2.1, by rw [G.2.2.2.2, B31]; exact r31.2.2.2.2⟩, eHt, ?_, ?_, ⟨yx.1, yx.2.1⟩, my.1, my.2.1, my.2.2⟩
  · rw [mex.2.2.2.1, ← z2]
    unfold wrM
    rw [up_na _ (by decide), up_na _ (by decide), hs.1 0 (by decide) (by decide) (by decide) (by decide) (by decide) (by decide) (by decide) (by decide) (by decide) (by decide) (by decide) (by decide)]
  · rw [(MG_29 my.2.1).2.2.2.1, ← h8]
    exact yx.2.1.2.2 8 (by decide)
theorem yr_all {σ m : Mem} {N : Int} (hH : eqH σ m) (hn : nowR σ m) (hp : pastR σ m) (hx : mX m 5015) (hxa : xA σ) (hr : ringR σ) (h9 : σ 0 9 = m 5000 49) (h8 : σ 0 8 = m 5000 39) (b1 : 1 ≤ m 5000 28) (b3 : 1 ≤ m 5000 30) (he : m 5015 26 + N ≤ 999) : ∀ (k : Nat), (k : Int) ≤ N → ∀ τ μ, yrX k σ τ → myX k m μ → (nowR τ μ ∧ pastR τ μ ∧ ringR τ ∧ τ 31 7 = σ 31 7 ∧ τ 31 8 = σ 31 8) ∧ eqH τ μ ∧ τ 0 9 = μ 5000 49 ∧ τ 0 8 = μ 5000 39 ∧ (xA τ ∧ AG σ τ) ∧ mX μ 5015 ∧ MG m μ ∧ μ 5015 26 = m 5015 26 + k := by
  intro k
  induction k with
  | zero =>
    intro _ τ μ h1 h2
    have h1' : τ = σ := h1
    have h2' : μ = m := h2
    subst h1'; subst h2'
    exact ⟨⟨hn, hp, hr, rfl, rfl⟩, hH, h9, h8, ⟨hxa, AG_rf _⟩, hx, MG_rf _, by omega⟩
  | succ k ih =>
    rintro hk τ μ ⟨υ, p1, s1⟩ ⟨u, q1, m1⟩
    obtain ⟨⟨i1, i2, i3, i4, i5⟩, i6, i7, i8, ⟨i9, i10⟩, i11, i12, i13⟩ := ih (by omega) υ u p1 q1
    have g := MG_29 i12
    obtain ⟨⟨j1, j2, j3, j4, j5⟩, j6, j7, j8, ⟨j9, j10⟩, j11, j12, j13⟩ := yr_sim i6 i1 i2 i11 i9 i3 i7 i8 (by rw [g.2.2.1]; exact b1) (by rw [g.2.1]; exact b3) (by omega) s1 m1
    exact ⟨⟨j1, j2, j3, by rw [j4, i4], by rw [j5, i5]⟩, j6, j7, j8, ⟨j9, AG_tr i10 j10⟩, j11, MG_tr i12 j12, by omega⟩
theorem sim_years {σ : Mem} (h : RR σ) {N sd : Int} (hN : InR N) : w_X11_years [(27, 0), (0, N), (1, sd)] σ (fun r τ => w_X12_years [(28, 5000), (0, N), (1, sd)] τ (sQ r)) := by
  have hth := RR_th h
  have n := RR_cnt h
  have nn := RR_n h
  have a := RR_now h
  have W := RR_W h
  have f := h.2.2.2.2.2.2.2.2.2.1.2.1
  have hou := h.2.1.2.2.2.2.2.2.2.1
  rw [w_X11_years_e]
  refine ⟨hN, RR_xA h, by omega, ⟨by omega, by omega⟩, fun q => ?_, fun q => ?_, fun q τ hY hA hxt => ?_⟩
  · rw [n.2.1] at q
    rw [n.1, n.2.2]; exact hou q
  · rw [n.2.1, a.2.1.2.2] at q
    rw [w_X12_years_e]
    exact ⟨hN, RR_mX h, a.2.2.2.1, by omega, fun z => by have := hou (by omega); omega, fun _ => ⟨rfl, hth⟩, fun z => absurd ⟨by omega, z.2.1, z.2.2.1, z.2.2.2⟩ q⟩
  · rw [n.2.1, a.2.1.2.2] at q
    obtain ⟨m1, m2, m3, m4, m5, o, kk, k5, mo⟩ := RR_m h hA
    have hq := hou q.1
    have t : ∀ b, 5000 < b → b < 6000 → τ b = σ b := fun b b0 b1 => by rw [← th_o τ (show b ≠ 5000 by omega)]; exact o b b0 b1
    rw [w_X12_years_e]
    refine ⟨hN, m2, by rw [t 5015 (by decide) (by decide)]; exact a.2.2.2.1, by rw [k5]; omega, fun _ => by rw [k5]; omega, fun z => absurd ⟨by rw [k5]; omega, q.2.1, q.2.2.1, by rw [t 5015 (by decide) (by decide)]; exact q.2.2.2⟩ z, fun _ μ hM => ?_⟩
    generalize hm : up (th0 τ) 5000 49 sd = m at *
    have M15 : m 5015 = σ 5015 := by rw [← hm, up_na _ (by decide)]; exact o 5015 (by decide) (by decide)
    have Mb : ∀ b, 5000 < b → b < 6000 → m b = σ b := fun b b0 b1 => by rw [← hm, up_na _ (by omega)]; exact o b b0 b1
    have Mk : ∀ x, x ≠ 0 → x ≠ 49 → m 5000 x = σ 5000 x := fun x x0 x1 => by rw [← hm, up_nj _ x1]; exact kk x x0
    have dd := D9_up σ sd
    have S0 : up σ 0 9 sd 0 8 = σ 0 8 := up_nj _ (by decide)
    have mxm : mX m 5015 := by rw [← hm]; exact mX_49 m1 sd
    have hMG : MG (th0 τ) m := by rw [← hm]; exact MG_k (MG_rf _) (by decide)
    have eH0 : eqH (up σ 0 9 sd) m := MG_eqH hMG (AG_eqH (D9_AG dd) (RR_lawOk h) m5)
    have P := yr_all (σ := up σ 0 9 sd) (m := m) (N := N) eH0 (nowR_c (m := th0 τ) (by rw [kk 29 (by decide)]; exact nn.2.1.2) (fun j _ _ => by rw [up_na _ (by decide)]) (fun b b0 b1 => up_na _ (by omega)) (up_na _ (by decide)) (by rw [up_na _ (by decide)]) ⟨by rw [Mk 29 (by decide) (by decide), kk 29 (by decide)], by rw [Mk 30 (by decide) (by decide), kk 30 (by decide)]⟩ (by rw [M15, o 5015 (by decide) (by decide)]) m3) (pastR_c (fun x _ => by rw [up_na _ (by decide)]) (up_na _ (by decide)) (up_na _ (by decide)) (fun x hx => by rw [Mk x (by omega) (by omega), kk x (by omega)]) (by rw [Mb 5023 (by decide) (by decide), o 5023 (by decide) (by decide)]) m4) mxm (D9_xA dd (RR_xA h)) (ringR_c (up_na _ (by decide)) (up_na _ (by decide)) h.2.2.2.2.2.2.2.2.2.2) (by rw [up_s, ← hm, up_s]) (by rw [S0, Mk 39 (by decide) (by decide)]; exact f.1) (by rw [Mk 28 (by decide) (by decide)]; exact hq.1) (by rw [Mk 30 (by decide) (by decide)]; exact hq.2) (by rw [M15]; exact q.2.2.2) N.toNat (by omega) τ μ hY hM
    obtain ⟨⟨j1, j2, j3, j4, j5⟩, j6, j7, j8, ⟨j9, j10⟩, j11, j12, j13⟩ := P
    have u31 : up σ 0 9 sd 31 = σ 31 := up_na _ (by decide)
    have e6 : τ 16 6 = μ 5015 26 := by
      have n6 := j11.2.1.2.2.1.2
      exact (auR_p n6 j1.1).2.2.2
    exact ⟨by rw [e6], RR_act h hA ⟨by rw [j4, u31], by rw [j5, u31]⟩ (MG_tr (MG_tr (MG_th τ) hMG) j12) j11.2.1.1 j1 j2 j3⟩
