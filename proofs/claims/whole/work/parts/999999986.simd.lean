/-! UNDO, IMAGE, BACK, howls, LAW, FLU, the TAPE side by side -/
theorem aud_31 {σ : Mem} {x v : Int} {k : Int} : aud (up σ 31 x v) 16 k = aud σ 16 k := by
  unfold aud
  rw [up_na _ (show (16 : Int) + 1 ≠ 31 by decide), up_na _ (show (16 : Int) + 2 ≠ 31 by decide), up_na _ (show (16 : Int) + 3 ≠ 31 by decide), up_na _ (show (16 : Int) + 4 ≠ 31 by decide), up_na _ (show (16 : Int) ≠ 31 by decide)]
theorem AG_31 {σ τ : Mem} (h : AG σ τ) {a k v : Int} (ha : 31 ≤ a ∧ a ≤ 33) : AG σ (up τ a k v) := ⟨fun b h9 h0 h1 h2 h3 h4 h5 h6 h7 h8 => by rw [up_na _ (by omega)]; exact h.1 b h9 h0 h1 h2 h3 h4 h5 h6 h7 h8, by rw [up_na _ (by omega)]; exact h.2.1, fun k hk => by rw [up_na _ (by omega)]; exact h.2.2 k hk⟩
theorem AG_set (σ : Mem) (f : Int → Int) : AG σ (setAud σ 16 f) := ⟨fun b h9 h0 h1 h2 h3 h4 h5 h6 h7 h8 => setAud_o _ _ (by omega), by rw [setAud_o _ _ (by omega)], fun k _ => by rw [setAud_o _ _ (by omega)]⟩
theorem sim_undo {σ : Mem} (h : RR σ) : w_X11_undo [(27, 0)] σ (fun r τ => w_X12_undo [(28, 5000)] τ (sQ r)) := by
  have hth := RR_th h
  have nn := RR_n h
  have W := RR_W h
  obtain ⟨p1, p2, p3, p4, p5⟩ := h.2.2.2.2.2.2.1
  rw [w_X11_undo_e]
  refine ⟨RR_pastOk h, fun q => ?_, fun q => ?_⟩
  · rw [w_X12_undo_e]
    exact ⟨p3.1, p3.2, fun _ => ⟨rfl, hth⟩, fun z => absurd (by omega) z⟩
  · have e39 : (σ 31 4 + 39) % 40 = (σ 31 4 - 1) % 40 := by omega
    rw [e39]
    generalize hτ : up (up (up (setAud σ 16 (fun k => σ 33 ((σ 31 4 - 1) % 40 * 28 + k))) 31 1 (σ 33 ((σ 31 4 - 1) % 40 * 28 + 27))) 31 4 ((σ 31 4 - 1) % 40)) 31 3 (σ 31 3 - 1) = τ
    have hA : AG σ τ := by rw [← hτ]; exact AG_31 (AG_31 (AG_31 (AG_set σ _) ⟨by decide, by decide⟩) ⟨by decide, by decide⟩) ⟨by decide, by decide⟩
    obtain ⟨m1, m2, m3, m4, m5, o, k, k5, mo⟩ := RR_m h hA
    have s31 : ∀ f x, setAud σ 16 f 31 x = σ 31 x := fun f x => by rw [setAud_o _ _ (by omega)]
    have t1 : τ 31 1 = wrS σ 1 := by rw [← hτ, up_nj _ (by decide), up_nj _ (by decide), up_s]; unfold wrS; rw [if_neg (by decide)]
    have t4 : τ 31 4 = (σ 31 4 - 1) % 40 := by rw [← hτ, up_nj _ (by decide), up_s]
    have t3 : τ 31 3 = σ 31 3 - 1 := by rw [← hτ, up_s]
    have t7 : τ 31 7 = σ 31 7 ∧ τ 31 8 = σ 31 8 := by rw [← hτ, up_nj _ (by decide), up_nj _ (by decide), up_nj _ (by decide), up_nj _ (by decide), up_nj _ (by decide), up_nj _ (by decide), s31, s31]; exact ⟨rfl, rfl⟩
    have t32 : τ 32 = σ 32 := by rw [← hτ, up_na _ (by decide), up_na _ (by decide), up_na _ (by decide), setAud_o _ _ (by omega)]
    have t33 : τ 33 = σ 33 := by rw [← hτ, up_na _ (by decide), up_na _ (by decide), up_na _ (by decide), setAud_o _ _ (by omega)]
    have t35 : τ 35 = σ 35 := by rw [← hτ, up_na _ (by decide), up_na _ (by decide), up_na _ (by decide), setAud_o _ _ (by omega)]
    have ta : ∀ x, 0 ≤ x → x < 27 → aud τ 16 x = acF σ 1 x := fun x x0 x1 => by rw [← hτ, aud_31, aud_31, aud_31, aud_set _ _ _ x0 x1]
    have r15 : τ 5023 = σ 5023 := by rw [← th_o τ (show (5023 : Int) ≠ 5000 by decide)]; exact o 5023 (by decide) (by decide)
    rw [w_X12_undo_e]
    refine ⟨by rw [k5]; exact p3.1, by rw [k5]; exact p3.2, fun z => absurd (by rw [k5] at z; omega) q, fun _ => ⟨by rw [k5, p1], ?_⟩⟩
    generalize hμ : cpy (up (th0 τ) 5000 48 (τ 5000 48 - 1)) 5023 (208 * (τ 5000 48 - 1)) 5015 0 208 = μ
    have u48 : μ 5000 48 = σ 5000 48 - 1 := by rw [← hμ, cpy_oo _ _ _ _ _ _ (by decide), up_s, k5]
    have uk : ∀ x, x ≠ 0 → x ≠ 48 → μ 5000 x = σ 5000 x := fun x h0 h48 => by rw [← hμ, cpy_oo _ _ _ _ _ _ (by decide), up_nj _ h48]; exact k x h0
    have ub : ∀ b, b ≠ 5000 → b ≠ 5015 → μ b = τ b := fun b h1 h2 => by rw [← hμ, cpy_oo _ _ _ _ _ _ h2, up_na _ h1]; exact th_o τ h1
    have u15 : ∀ j, 0 ≤ j → j < 208 → μ 5015 j = acM σ 1 j := fun j j0 j1 => by
      rw [← hμ, cpy_in _ _ _ _ _ _ ⟨j0, by omega⟩, up_na _ (by decide), th_o τ (by decide), r15, k5]
      show σ 5023 _ = σ 5023 _
      congr 1; omega
    have hG : MG τ μ := ⟨fun b b1 b2 b3 => ub b b1 (by omega), fun x a1 a2 a3 a4 a5 a6 a7 => by rw [uk x a1 a6, k5]⟩
    obtain ⟨a1, a2⟩ := p5 1 (by decide) (by omega)
    have wj : ∀ j, 0 ≤ j → wrS τ j = wrS σ (j + 1) := fun j j0 => by
      by_cases c : j = 0
      · rw [c]; unfold wrS; rw [if_pos rfl, if_neg (by decide)]
        rw [t1]; unfold wrS; rw [if_neg (by decide)]; rfl
      · unfold wrS; rw [if_neg c, if_neg (by omega), t33, t4, show ((σ 31 4 - 1) % 40 - j) % 40 = (σ 31 4 - (j + 1)) % 40 by omega]
    refine RR_act h hA t7 hG (mOk_c (by rw [uk 7 (by decide) (by decide), k 7 (by decide)]) (fun b hb => by rw [ub b (by omega) (by omega), th_o τ (by omega)]) mo) ⟨?_, ?_⟩ ⟨by omega, by omega, by omega, fun i j i0 ij j1 => ?_, fun j j0 j1 => ?_⟩ (ringR_c t32 t35 h.2.2.2.2.2.2.2.2.2.2)
    · rw [uk 29 (by decide) (by decide), uk 30 (by decide) (by decide)]
      exact auR_c nn.2.1.2 ta (fun j j0 j1 => u15 j j0 (by omega)) a1
    · rw [t32, t1]
      exact lgR_c (fun _ _ _ => rfl) (fun j j0 j1 => u15 j (by omega) j1) a2
    · rw [wj i i0, wj j (by omega)]
      have := p4 (i + 1) (j + 1) (by omega) (by omega) (by omega)
      omega
    · rw [uk 29 (by decide) (by decide), uk 30 (by decide) (by decide), wj j (by omega), t32]
      obtain ⟨b1, b2⟩ := p5 (j + 1) (by omega) (by omega)
      have fj : ∀ x, acF τ j x = acF σ (j + 1) x := fun x => by
        show τ 33 ((τ 31 4 - j) % 40 * 28 + x) = σ 33 ((σ 31 4 - (j + 1)) % 40 * 28 + x)
        rw [t33, t4, show ((σ 31 4 - 1) % 40 - j) % 40 = (σ 31 4 - (j + 1)) % 40 by omega]
      have mj : ∀ x, acM μ j x = acM σ (j + 1) x := fun x => by
        show μ 5023 (208 * (μ 5000 48 - j) + x) = σ 5023 (208 * (σ 5000 48 - (j + 1)) + x)
        rw [ub 5023 (by decide) (by decide), r15, u48]; congr 1; omega
      exact ⟨auR_c nn.2.1.2 (fun x _ _ => fj x) (fun x _ _ => mj x) b1, lgR_c (fun _ _ _ => rfl) (fun x _ _ => mj x) b2⟩
theorem sim_back {σ : Mem} (h : RR σ) : w_X11_back [(27, 0)] σ (fun r τ => w_X12_back [(28, 5000)] τ (sQ r)) := by
  have hth := RR_th h
  have nn := RR_n h
  obtain ⟨p1, p2, p3, p4, p5⟩ := h.2.2.2.2.2.2.1
  have im := h.2.2.2.2.2.2.2.1
  have ring := h.2.2.2.2.2.2.2.2.2.2
  rw [w_X11_back_e]
  rcases im with ⟨i1, i2⟩ | ⟨i1, i2, i3, i4, i5⟩
  · refine ⟨Or.inl i1, fun q => ?_, fun q => absurd q (by rw [i1]; decide)⟩
    rw [w_X12_back_e]
    exact ⟨Or.inl i2, fun _ => ⟨rfl, hth⟩, fun z => absurd i2 z⟩
  · refine ⟨Or.inr i1, fun q => absurd q (by rw [i1]; decide), fun q => ?_⟩
    generalize hτ : up (up (cpy (setAud σ 16 (fun k => σ 34 (0 + k))) 35 0 32 0 60) 31 1 (σ 31 7)) 31 3 0 = τ
    have c32 : ∀ b, b ≠ 32 → cpy (setAud σ 16 (fun k => σ 34 (0 + k))) 35 0 32 0 60 b = setAud σ 16 (fun k => σ 34 (0 + k)) b := fun b hb => cpy_oo _ _ _ _ _ _ hb
    have hA : AG σ τ := by
      rw [← hτ]
      refine AG_31 (AG_31 ?_ ⟨by decide, by decide⟩) ⟨by decide, by decide⟩
      exact ⟨fun b h9 h0 h1 h2 h3 h4 h5 h6 h7 h8 => by rw [c32 b (by omega)]; exact setAud_o _ _ (by omega), by rw [c32 26 (by decide), setAud_o _ _ (by omega)], fun k _ => by rw [c32 0 (by decide), setAud_o _ _ (by omega)]⟩
    obtain ⟨m1, m2, m3, m4, m5, o, k, k5, mo⟩ := RR_m h hA
    have s31 : ∀ x, cpy (setAud σ 16 (fun k => σ 34 (0 + k))) 35 0 32 0 60 31 x = σ 31 x := fun x => by rw [c32 31 (by decide), setAud_o _ _ (by omega)]
    have t1 : τ 31 1 = σ 31 7 := by rw [← hτ, up_nj _ (by decide), up_s]
    have t3 : τ 31 3 = 0 := by rw [← hτ, up_s]
    have t4 : τ 31 4 = σ 31 4 := by rw [← hτ, up_nj _ (by decide), up_nj _ (by decide), s31]
    have t7 : τ 31 7 = σ 31 7 ∧ τ 31 8 = σ 31 8 := by rw [← hτ, up_nj _ (by decide), up_nj _ (by decide), up_nj _ (by decide), up_nj _ (by decide), s31, s31]; exact ⟨rfl, rfl⟩
    have t32 : ∀ j, 0 ≤ j → j < 60 → τ 32 j = σ 35 j := fun j j0 j1 => by rw [← hτ, up_na _ (by decide), up_na _ (by decide), cpy_in _ _ _ _ _ _ ⟨j0, by omega⟩, setAud_o _ _ (by omega)]; congr 1; omega
    have t32o : ∀ j, 60 ≤ j → τ 32 j = σ 32 j := fun j j0 => by rw [← hτ, up_na _ (by decide), up_na _ (by decide), cpy_at _ _ _ _ _ _ (by omega), setAud_o _ _ (by omega)]
    have t35 : τ 35 = σ 35 := by rw [← hτ, up_na _ (by decide), up_na _ (by decide), c32 35 (by decide), setAud_o _ _ (by omega)]
    have ta : ∀ x, 0 ≤ x → x < 27 → aud τ 16 x = σ 34 x := fun x x0 x1 => by
      have e : aud (cpy (setAud σ 16 (fun k => σ 34 (0 + k))) 35 0 32 0 60) 16 x = aud (setAud σ 16 (fun k => σ 34 (0 + k))) 16 x := aud_c (fun j _ _ => by rw [c32 16 (by decide)]) (fun b _ _ => c32 b (by omega)) x1
      rw [← hτ, aud_31, aud_31, e, aud_set _ _ _ x0 x1, Int.zero_add]
    have r26 : τ 5026 = σ 5026 := by rw [← th_o τ (show (5026 : Int) ≠ 5000 by decide)]; exact o 5026 (by decide) (by decide)
    rw [w_X12_back_e]
    refine ⟨Or.inr (by rw [k5]; exact i2), fun z => absurd z (by rw [k5, i2]; decide), fun _ => ⟨by rw [r26, ← i3.2.1.2.2], ?_⟩⟩
    generalize hμ : up (cpy (th0 τ) 5026 0 5015 0 208) 5000 48 0 = μ
    have u48 : μ 5000 48 = 0 := by rw [← hμ, up_s]
    have uk : ∀ x, x ≠ 0 → x ≠ 48 → μ 5000 x = σ 5000 x := fun x h0 h48 => by rw [← hμ, up_nj _ h48, cpy_oo _ _ _ _ _ _ (by decide)]; exact k x h0
    have ub : ∀ b, b ≠ 5000 → b ≠ 5015 → μ b = τ b := fun b h1 h2 => by rw [← hμ, up_na _ h1, cpy_oo _ _ _ _ _ _ h2]; exact th_o τ h1
    have u15 : ∀ j, 0 ≤ j → j < 208 → μ 5015 j = σ 5026 j := fun j j0 j1 => by
      rw [← hμ, up_na _ (by decide), cpy_in _ _ _ _ _ _ ⟨j0, by omega⟩, th_o τ (by decide), r26]; congr 1; omega
    have hG : MG τ μ := ⟨fun b b1 b2 b3 => ub b b1 (by omega), fun x a1 a2 a3 a4 a5 a6 a7 => by rw [uk x a1 a6, k5]⟩
    refine RR_act h hA t7 hG (mOk_c (by rw [uk 7 (by decide) (by decide), k 7 (by decide)]) (fun b hb => by rw [ub b (by omega) (by omega), th_o τ (by omega)]) mo) ⟨?_, ?_⟩ ⟨by rw [t3, u48], by rw [t4]; exact p2, by omega, fun i j i0 ij j1 => ?_, fun j j0 j1 => by omega⟩ ⟨fun j j0 j1 => ?_, by rw [t35]; exact ring.2⟩
    · rw [uk 29 (by decide) (by decide), uk 30 (by decide) (by decide)]
      exact auR_c nn.2.1.2 ta (fun j j0 j1 => u15 j j0 (by omega)) i3
    · rw [t1]
      obtain ⟨l1, l2, l3, l4⟩ := i5
      refine ⟨l1, by rw [u15 27 (by decide) (by decide)]; exact l2, by rw [u15 26 (by decide) (by decide)]; exact l3, fun i i0 i1' => ?_⟩
      have := l4 i i0 i1'
      rw [u15 _ (by omega) (by omega), u15 _ (by omega) (by omega), u15 _ (by omega) (by omega), t32 _ (by omega) (by omega)]
      exact this
    · have : i = j := by omega
      rw [this]; omega
    · by_cases c : j < 60
      · rw [t32 j j0 c]; exact ring.2 j j0 c
      · rw [t32o j (by omega)]; exact ring.1 j j0 j1
theorem sim_image {σ : Mem} (h : RR σ) : w_X11_image [(27, 0)] σ (fun r τ => w_X12_image [(28, 5000)] τ (sQ r)) := by
  have hth := RR_th h
  have n := RR_cnt h
  have nn := RR_n h
  have a := RR_now h
  have W := RR_W h
  have ring := h.2.2.2.2.2.2.2.2.2.2
  rw [w_X11_image_e]
  refine ⟨(RR_plan h).1, RR_pastOk h, fun q => ?_, fun q => ?_⟩
  · rw [n.2.1] at q
    rw [w_X12_image_e]
    exact ⟨⟨by omega, by omega⟩, fun _ => ⟨rfl, hth⟩, fun z => absurd (by omega) z⟩
  · rw [n.2.1] at q
    generalize hw : min 60 (σ 31 1) = w at *
    generalize hτ : up (kim (up (savR σ 34 0) 31 7 w) w w) 31 8 1 = τ
    have s1 : ∀ x, up (savR σ 34 0) 31 7 w 31 x = if x = 7 then w else σ 31 x := fun x => by
      by_cases c : x = 7
      · rw [if_pos c, c, up_s]
      · rw [if_neg c, up_nj _ c]; unfold savR; rw [if_neg (fun z => absurd z.1 (by decide))]
    have so : ∀ b, b ≠ 34 → savR σ 34 0 b = σ b := fun b hb => by funext j; unfold savR; rw [if_neg (fun z => hb z.1)]
    have tb : ∀ b, b ≠ 31 → b ≠ 34 → b ≠ 35 → τ b = σ b := fun b h1 h2 h3 => by rw [← hτ, up_na _ h1, kim_o _ _ _ h3, up_na _ h1, so b h2]
    have t31 : ∀ x, x ≠ 7 → x ≠ 8 → τ 31 x = σ 31 x := fun x h7 h8 => by rw [← hτ, up_nj _ h8, kim_o _ _ _ (by decide), s1, if_neg h7]
    have t7 : τ 31 7 = w := by rw [← hτ, up_nj _ (by decide), kim_o _ _ _ (by decide), s1, if_pos rfl]
    have t8 : τ 31 8 = 1 := by rw [← hτ, up_s]
    have t34 : ∀ x, 0 ≤ x → x < 27 → τ 34 x = aud σ 16 x := fun x x0 x1 => by
      rw [← hτ, up_na _ (by decide), kim_o _ _ _ (by decide), up_na _ (by decide)]
      unfold savR
      rw [if_pos ⟨rfl, by omega, by omega⟩, Int.sub_zero]
    have t35 : ∀ j, τ 35 j = if 0 ≤ j ∧ j < w then σ 32 ((σ 31 1 - w + j) % 128) else σ 35 j := fun j => by
      rw [← hτ, up_na _ (by decide)]
      unfold kim
      rw [s1, show (if (1 : Int) = 7 then w else σ 31 1) = σ 31 1 from if_neg (by decide), up_na _ (show (32 : Int) ≠ 31 by decide), so 32 (by decide), up_na _ (show (35 : Int) ≠ 31 by decide), so 35 (by decide)]
      by_cases c : 0 ≤ j ∧ j < w
      · rw [if_pos ⟨rfl, c⟩, if_pos c]
      · rw [if_neg (fun z => c z.2), if_neg c]
    have k5 := tb 5000 (by decide) (by decide) (by decide)
    have k15 := tb 5015 (by decide) (by decide) (by decide)
    rw [w_X12_image_e]
    refine ⟨by rw [k5]; exact ⟨by omega, by omega⟩, fun z => absurd (by rw [k5] at z; omega) (show ¬ False from id), fun _ => ⟨by rw [k15, a.2.1.2.2], ?_⟩⟩
    generalize hμ : up (cpy (th0 τ) 5015 0 5026 0 208) 5000 56 1 = μ
    have u56 : μ 5000 56 = 1 := by rw [← hμ, up_s]
    have uk : ∀ x, x ≠ 0 → x ≠ 56 → μ 5000 x = σ 5000 x := fun x h0 h56 => by rw [← hμ, up_nj _ h56, cpy_oo _ _ _ _ _ _ (by decide), th_k τ h0, k5]
    have ub : ∀ b, b ≠ 5000 → b ≠ 5026 → μ b = τ b := fun b h1 h2 => by rw [← hμ, up_na _ h1, cpy_oo _ _ _ _ _ _ h2]; exact th_o τ h1
    have us : ∀ b, b ≠ 5000 → b ≠ 5026 → b ≠ 31 → b ≠ 34 → b ≠ 35 → μ b = σ b := fun b h1 h2 h3 h4 h5 => by rw [ub b h1 h2]; exact tb b h3 h4 h5
    have u26 : ∀ j, 0 ≤ j → j < 208 → μ 5026 j = σ 5015 j := fun j j0 j1 => by
      rw [← hμ, up_na _ (by decide), cpy_in _ _ _ _ _ _ ⟨j0, by omega⟩, th_o τ (by decide), k15]; congr 1; omega
    have u31 := ub 31 (by decide) (by decide)
    obtain ⟨h1, h2, h3, h4, h5, h6, h7, h8, h9, h10, h11⟩ := h
    have q' : ∀ b, b = -2 ∨ (0 ≤ b ∧ b < 31) ∨ b = 32 ∨ b = 33 ∨ (35 < b ∧ b < 200) ∨ (5000 < b ∧ b < 5026) → μ b = σ b := fun b hb => us b (by omega) (by omega) (by omega) (by omega) (by omega)
    have kk : ∀ x, x = 6 ∨ x = 7 ∨ x = 28 ∨ x = 29 ∨ x = 30 ∨ x = 34 ∨ x = 38 ∨ x = 39 ∨ x = 48 ∨ x = 53 → μ 5000 x = σ 5000 x := fun x hx => uk x (by omega) (by omega)
    refine ⟨tapeR_c (by rw [q' 1 (by decide)]) (q' 2 (by decide)) (kk 6 (by decide)) (q' 5001 (by decide)) h1, houR_c (q' 4 (by decide)) (q' 5 (by decide)) (q' 7 (by decide)) (q' 8 (by decide)) (fun x hx => kk x (by omega)) (fun b hb => q' b (by omega)) h2, lawR_c (by rw [q' 0 (by decide)]) (by rw [q' 0 (by decide)]) (by rw [q' 26 (by decide)]) (q' 12 (by decide)) ⟨kk 7 (by decide), kk 38 (by decide)⟩ (q' 5002 (by decide)) (q' 5003 (by decide)) (fun l l0 l1 => q' _ (by omega)) nn.2.2.2.2 h3, seaR_c (by rw [q' 13 (by decide)]) (q' 14 (by decide)) (q' 15 (by decide)) (kk 34 (by decide)) (q' 5013 (by decide)) (q' 5014 (by decide)) h4, howR_c (by rw [q' 41 (by decide)]) (q' 42 (by decide)) (fun x hx => kk x (by omega)) (q' 5024 (by decide)) h5, nowR_c nn.2.1.2 (fun j _ _ => by rw [q' 16 (by decide)]) (fun b b0 b1 => q' b (by omega)) (q' 32 (by decide)) (by rw [u31, t31 1 (by decide) (by decide)]) ⟨kk 29 (by decide), kk 30 (by decide)⟩ (q' 5015 (by decide)) h6, pastR_c (fun x hx => by rw [u31, t31 x (by omega) (by omega)]) (q' 32 (by decide)) (q' 33 (by decide)) (fun x hx => kk x (by omega)) (q' 5023 (by decide)) h7, Or.inr ⟨by rw [u31, t8], u56, ?_, by rw [u31, t7]; omega, ?_⟩, livR_c (q' (-2) (by decide)) (kk 7 (by decide)) h9, mskR_c (mOk_c (kk 7 (by decide)) (fun b hb => q' b (by omega)) h10.1) (by rw [q' 0 (by decide)]) ⟨kk 39 (by decide), kk 28 (by decide), kk 30 (by decide)⟩ (q' 5007 (by decide)) (q' 5011 (by decide)) (q' 5005 (by decide)) h10, ⟨by rw [q' 32 (by decide)]; exact h11.1, fun j j0 j1 => ?_⟩⟩
    · rw [kk 29 (by decide), kk 30 (by decide), ub 34 (by decide) (by decide)]
      exact auR_c nn.2.1.2 t34 (fun j j0 j1 => u26 j j0 (by omega)) h6.1
    · rw [u31, t7, ub 35 (by decide) (by decide)]
      obtain ⟨l1, l2, l3, l4⟩ := h6.2
      rw [hw] at l2 l4
      have mw : min 60 w = w := by omega
      refine ⟨by omega, by rw [u26 27 (by decide) (by decide), mw]; exact l2, by rw [u26 26 (by decide) (by decide)]; omega, fun i i0 i1 => ?_⟩
      rw [mw] at i1 ⊢
      have := l4 i i0 i1
      rw [u26 _ (by omega) (by omega), u26 _ (by omega) (by omega), u26 _ (by omega) (by omega), t35, if_pos (by omega), show (σ 31 1 - w + (w - 1 - i) % 128) % 128 = (σ 31 1 - 1 - i) % 128 by omega]
      exact this
    · rw [ub 35 (by decide) (by decide), t35]
      by_cases c : 0 ≤ j ∧ j < w
      · rw [if_pos c]; exact h11.1 _ (by omega) (by omega)
      · rw [if_neg c]; exact h11.2 j j0 j1
