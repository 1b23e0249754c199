theorem B : True := True.intro
theorem L : True := True.intro
theorem a : True := True.intro
theorem a0 : True := True.intro
theorem a1 : True := True.intro
theorem b : True := True.intro
theorem c : True := True.intro
theorem c1 : True := True.intro
theorem c2 : True := True.intro
theorem c32 : True := True.intro
theorem d : True := True.intro
theorem e : True := True.intro
theorem e1 : True := True.intro
theorem e2 : True := True.intro
theorem e3 : True := True.intro
theorem e4 : True := True.intro
theorem f1 : True := True.intro
theorem f2 : True := True.intro
theorem hN : True := True.intro
theorem ha : True := True.intro
theorem hb : True := True.intro
theorem hc : True := True.intro
theorem hd : True := True.intro
theorem i : True := True.intro
theorem i0 : True := True.intro
theorem i1 : True := True.intro
theorem i6 : True := True.intro
theorem j : True := True.intro
theorem k : True := True.intro
theorem k5 : True := True.intro
theorem k6 : True := True.intro
theorem m : True := True.intro
theorem m1 : True := True.intro
theorem n : True := True.intro
theorem n1 : True := True.intro
theorem n2 : True := True.intro
theorem n3 : True := True.intro
theorem n4 : True := True.intro
theorem n5 : True := True.intro
theorem p : True := True.intro
theorem p1 : True := True.intro
theorem q : True := True.intro
theorem q1 : True := True.intro
theorem q2 : True := True.intro
theorem r1 : True := True.intro
theorem ring : True := True.intro
theorem s1 : True := True.intro
theorem s2 : True := True.intro
theorem s3 : True := True.intro
theorem s4 : True := True.intro
theorem sb : True := True.intro
theorem t : True := True.intro
theorem t0 : True := True.intro
theorem t1 : True := True.intro
theorem t3 : True := True.intro
theorem t4 : True := True.intro
theorem tb : True := True.intro
theorem u : True := True.intro
theorem ub : True := True.intro
theorem v : True := True.intro
theorem v0 : True := True.intro
theorem w : True := True.intro
theorem x0 : True := True.intro
theorem x1 : True := True.intro
theorem y : True := True.intro
theorem z : True := True.intro
/-! UNDO, IMAGE, BACK, howls, LAW, FLU, the TAPE side by side -/
theorem aud_31 {σ : Mem} {x v : Int} {k : Int} : aud (up σ 31 x v) 16 k = aud σ 16 k := by
  unfold aud
  rw [up_na _ (show (16 : Int) + 1 ≠ 31 by decide), up_na _ (show (16 : Int) + 2 ≠ 31 by decide), up_na _ (show (16 : Int) + 3 ≠ 31 by decide), up_na _ (show (16 : Int) + 4 ≠ 31 by decide), up_na _ (show (16 : Int) ≠ 31 by decide)]
theorem AG_31 {σ τ : Mem} (h : AG σ τ) {a k v : Int} (ha : 31 ≤ a ∧ a ≤ 33) : AG σ (up τ a k v) := ⟨fun b h9 h0 h1 h2 h3 h4 h5 h6 h7 h8 => by rw [up_na _ (by omega)]; exact h.1 b h9 h0 h1 h2 h3 h4 h5 h6 h7 h8, by rw [up_na _ (by omega)]; exact h.2.1, fun k hk => by rw [up_na _ (by omega)]; exact h.2.2 k hk⟩
theorem AG_set (σ : Mem) (f : Int → Int) : AG σ (setAud σ 16 f) := ⟨fun b h9 h0 h1 h2 h3 h4 h5 h6 h7 h8 => setAud_o _ _ (by omega), by rw [setAud_o _ _ (by omega)], fun k _ => by rw [setAud_o _ _ (by omega)]⟩
theorem sim_undo {σ : Mem} (h : RR σ) : w_X11_undo [(27, 0)] σ (fun r τ => w_X12_undo [(28, 5000)] τ (sQ r)) := by
  have hth := RR_th h
  have nn := RR_n h
  have W := RR_W h
  obtain ⟨p1, p2, p3, p4, p5⟩ := h.2.2.2.2.2.2.1
  rw [w_X11_undo_e]
  refine ⟨RR_pastOk h, fun q => ?_, fun q => ?_⟩
  · rw [w_X12_undo_e]
    exact ⟨p3.1, p3.2, fun _ => ⟨rfl, hth⟩, fun z => absurd (by omega) z⟩
  · have e39 : (σ 31 4 + 39) % 40 = (σ 31 4 - 1) % 40 := by omega
    rw [e39]
    generalize hτ : up (up (up (setAud σ 16 (fun k => σ 33 ((σ 31 4 - 1) % 40 * 28 + k))) 31 1 (σ 33 ((σ 31 4 - 1) % 40 * 28 + 27))) 31 4 ((σ 31 4 - 1) % 40)) 31 3 (σ 31 3 - 1) = τ
    have hA : AG σ τ := by rw [← hτ]; exact AG_31 (AG_31 (AG_31 (AG_set σ _) ⟨by decide, by decide⟩) ⟨by decide, by decide⟩) ⟨by decide, by decide⟩
    obtain ⟨m1, m2, m3, m4, m5, o, k, k5, mo⟩ := RR_m h hA
    have s31 : ∀ f x, setAud σ 16 f 31 x = σ 31 x := fun f x => by rw [setAud_o _ _ (by omega)]
    have t1 : τ 31 1 = wrS σ 1 := by rw [← hτ, up_nj _ (by decide), up_nj _ (by decide), up_s]; unfold wrS; rw [if_neg (by decide)]
    have t4 : τ 31 4 = (σ 31 4 - 1) % 40 := by rw [← hτ, up_nj _ (by decide), up_s]
    have t3 : τ 31 3 = σ 31 3 - 1 := by rw [← hτ, up_s]
    have t7 : τ 31 7 = σ 31 7 ∧ τ 31 8 = σ 31 8 := by rw [← hτ, up_nj _ (by decide), up_nj _ (by decide), up_nj _ (by decide), up_nj _ (by decide), up_nj _ (by decide), up_nj _ (by decide), s31, s31]; exact ⟨rfl, rfl⟩
    have t32 : τ 32 = σ 32 := by rw [← hτ, up_na _ (by decide), up_na _ (by decide), up_na _ (by decide), setAud_o _ _ (by omega)]
    have t33 : τ 33 = σ 33 := by rw [← hτ, up_na _ (by decide), up_na _ (by decide), up_na _ (by decide), setAud_o _ _ (by omega)]
    have t35 : τ 35 = σ 35 := by rw [← hτ, up_na _ (by decide), up_na _ (by decide), up_na _ (by decide), setAud_o _ _ (by omega)]
    have ta : ∀ x, 0 ≤ x → x < 27 → aud τ 16 x = acF σ 1 x := fun x x0 x1 => by rw [← hτ, aud_31, aud_31, aud_31, aud_set _ _ _ x0 x1]
    have r15 : τ 5023 = σ 5023 := by rw [← th_o τ (show (5023 : Int) ≠ 5000 by decide)]; exact o 5023 (by decide) (by decide)
    rw [w_X12_undo_e]
    refine ⟨by rw [k5]; exact p3.1, by rw [k5]; exact p3.2, fun z => absurd (by rw [k5] at z; omega) q, fun _ => ⟨by rw [k5, p1], ?_⟩⟩
    generalize hμ : cpy (up (th0 τ) 5000 48 (τ 5000 48 - 1)) 5023 (208 * (τ 5000 48 - 1)) 5015 0 208 = μ
    have u48 : μ 5000 48 = σ 5000 48 - 1 := by rw [← hμ, cpy_oo _ _ _ _ _ _ (by decide), up_s, k5]
    have uk : ∀ x, x ≠ 0 → x ≠ 48 → μ 5000 x = σ 5000 x := fun x h0 h48 => by rw [← hμ, cpy_oo _ _ _ _ _ _ (by decide), up_nj _ h48]; exact k x h0
    have ub : ∀ b, b ≠ 5000 → b ≠ 5015 → μ b = τ b := fun b h1 h2 => by rw [← hμ, cpy_oo _ _ _ _ _ _ h2, up_na _ h1]; exact th_o τ h1
    have u15 : ∀ j, 0 ≤ j → j < 208 → μ 5015 j = acM σ 1 j := fun j j0 j1 => by
      rw [← hμ, cpy_in _ _ _ _ _ _ ⟨j0, by omega⟩, up_na _ (by decide), th_o τ (by decide), r15, k5]
      show σ 5023 _ = σ 5023 _
      congr 1; omega
    have hG : MG τ μ := ⟨fun b b1 b2 b3 => ub b b1 (by omega), fun x a1 a2 a3 a4 a5 a6 a7 => by rw [uk x a1 a6, k5]⟩
    obtain ⟨a1, a2⟩ := p5 1 (by decide) (by omega)
    have wj : ∀ j, 0 ≤ j → wrS τ j = wrS σ (j + 1) := fun j j0 => by
      by_cases c : j = 0
      · rw [c]; unfold wrS; rw [if_pos rfl, if_neg (by decide)]
        rw [t1]; unfold wrS; rw [if_neg (by decide)]; rfl
      · unfold wrS; rw [if_neg c, if_neg (by omega), t33, t4, show ((σ 31 4 - 1) % 40 - j) % 40 = (σ 31 4 - (j + 1)) % 40 by omega]
    refine RR_act h hA t7 hG (mOk_c (by rw [uk 7 (by decide) (by decide), k 7 (by decide)]) (fun b hb => by rw [ub b (by omega) (by omega), th_o τ (by omega)]) mo) ⟨?_, ?_⟩ ⟨by omega, by omega, by omega, fun i j i0 ij j1 => ?_, fun j j0 j1 => ?_⟩ (ringR_c t32 t35 h.2.2.2.2.2.2.2.2.2.2)
    · rw [uk 29 (by decide) (by decide), uk 30 (by decide) (by decide)]
      exact auR_c nn.2.1.2 ta (fun j j0 j1 => u15 j j0 (by omega)) a1
    · rw [t32, t1]
      exact lgR_c (fun _ _ _ => rfl) (fun j j0 j1 => u15 j (by omega) j1) a2
    · rw [wj i i0, wj j (by omega)]
      have := p4 (i + 1) (j + 1) (by omega) (by omega) (by omega)
      omega
    · rw [uk 29 (by decide) (by decide), uk 30 (by decide) (by decide), wj j (by omega), t32]
      obtain ⟨b1, b2⟩ := p5 (j + 1) (by omega) (by omega)
      have fj : ∀ x, acF τ j x = acF σ (j + 1) x := fun x => by
        show τ 33 ((τ 31 4 - j) % 40 * 28 + x) = σ 33 ((σ 31 4 - (j + 1)) % 40 * 28 + x)
        rw [t33, t4, show ((σ 31 4 - 1) % 40 - j) % 40 = (σ 31 4 - (j + 1)) % 40 by omega]
      have mj : ∀ x, acM μ j x = acM σ (j + 1) x := fun x => by
        show μ 5023 (208 * (μ 5000 48 - j) + x) = σ 5023 (208 * (σ 5000 48 - (j + 1)) + x)
        rw [ub 5023 (by decide) (by decide), r15, u48]; congr 1; omega
      exact ⟨auR_c nn.2.1.2 (fun x _ _ => fj x) (fun x _ _ => mj x) b1, lgR_c (fun _ _ _ => rfl) (fun x _ _ => mj x) b2⟩
theorem sim_back {σ : Mem} (h : RR σ) : w_X11_back [(27, 0)] σ (fun r τ => w_X12_back [(28, 5000)] τ (sQ r)) := by
  have hth := RR_th h
  have nn := RR_n h
  obtain ⟨p1, p2, p3, p4, p5⟩ := h.2.2.2.2.2.2.1
  have im := h.2.2.2.2.2.2.2.1
  have ring := h.2.2.2.2.2.2.2.2.2.2
  rw [w_X11_back_e]
  rcases im with ⟨i1, i2⟩ | ⟨i1, i2, i3, i4, i5⟩
  · refine ⟨Or.inl i1, fun q => ?_, fun q => absurd q (by rw [i1]; decide)⟩
    rw [w_X12_back_e]
    exact ⟨Or.inl i2, fun _ => ⟨rfl, hth⟩, fun z => absurd i2 z⟩
  · refine ⟨Or.inr i1, fun q => absurd q (by rw [i1]; decide), fun q => ?_⟩
    generalize hτ : up (up (cpy (setAud σ 16 (fun k => σ 34 (0 + k))) 35 0 32 0 60) 31 1 (σ 31 7)) 31 3 0 = τ
    have c32 : ∀ b, b ≠ 32 → cpy (setAud σ 16 (fun k => σ 34 (0 + k))) 35 0 32 0 60 b = setAud σ 16 (fun k => σ 34 (0 + k)) b := fun b hb => cpy_oo _ _ _ _ _ _ hb
    have hA : AG σ τ := by
      rw [← hτ]
      refine AG_31 (AG_31 ?_ ⟨by decide, by decide⟩) ⟨by decide, by decide⟩
      exact ⟨fun b h9 h0 h1 h2 h3 h4 h5 h6 h7 h8 => by rw [c32 b (by omega)]; exact setAud_o _ _ (by omega), by rw [c32 26 (by decide), setAud_o _ _ (by omega)], fun k _ => by rw [c32 0 (by decide), setAud_o _ _ (by omega)]⟩
    obtain ⟨m1, m2, m3, m4, m5, o, k, k5, mo⟩ := RR_m h hA
    have s31 : ∀ x, cpy (setAud σ 16 (fun k => σ 34 (0 + k))) 35 0 32 0 60 31 x = σ 31 x := fun x => by rw [c32 31 (by decide), setAud_o _ _ (by omega)]
    have t1 : τ 31 1 = σ 31 7 := by rw [← hτ, up_nj _ (by decide), up_s]
    have t3 : τ 31 3 = 0 := by rw [← hτ, up_s]
    have t4 : τ 31 4 = σ 31 4 := by rw [← hτ, up_nj _ (by decide), up_nj _ (by decide), s31]
    have t7 : τ 31 7 = σ 31 7 ∧ τ 31 8 = σ 31 8 := by rw [← hτ, up_nj _ (by decide), up_nj _ (by decide), up_nj _ (by decide), up_nj _ (by decide), s31, s31]; exact ⟨rfl, rfl⟩
    have t32 : ∀ j, 0 ≤ j → j < 60 → τ 32 j = σ 35 j := fun j j0 j1 => by rw [← hτ, up_na _ (by decide), up_na _ (by decide), cpy_in _ _ _ _ _ _ ⟨j0, by omega⟩, setAud_o _ _ (by omega)]; congr 1; omega
    have t32o : ∀ j, 60 ≤ j → τ 32 j = σ 32 j := fun j j0 => by rw [← hτ, up_na _ (by decide), up_na _ (by decide), cpy_at _ _ _ _ _ _ (by omega), setAud_o _ _ (by omega)]
    have t35 : τ 35 = σ 35 := by rw [← hτ, up_na _ (by decide), up_na _ (by decide), c32 35 (by decide), setAud_o _ _ (by omega)]
    have ta : ∀ x, 0 ≤ x → x < 27 → aud τ 16 x = σ 34 x := fun x x0 x1 => by
      have e : aud (cpy (setAud σ 16 (fun k => σ 34 (0 + k))) 35 0 32 0 60) 16 x = aud (setAud σ 16 (fun k => σ 34 (0 + k))) 16 x := aud_c (fun j _ _ => by rw [c32 16 (by decide)]) (fun b _ _ => c32 b (by omega)) x1
      rw [← hτ, aud_31, aud_31, e, aud_set _ _ _ x0 x1, Int.zero_add]
    have r26 : τ 5026 = σ 5026 := by rw [← th_o τ (show (5026 : Int) ≠ 5000 by decide)]; exact o 5026 (by decide) (by decide)
    rw [w_X12_back_e]
    refine ⟨Or.inr (by rw [k5]; exact i2), fun z => absurd z (by rw [k5, i2]; decide), fun _ => ⟨by rw [r26, ← i3.2.1.2.2], ?_⟩⟩
    generalize hμ : up (cpy (th0 τ) 5026 0 5015 0 208) 5000 48 0 = μ
    have u48 : μ 5000 48 = 0 := by rw [← hμ, up_s]
    have uk : ∀ x, x ≠ 0 → x ≠ 48 → μ 5000 x = σ 5000 x := fun x h0 h48 => by rw [← hμ, up_nj _ h48, cpy_oo _ _ _ _ _ _ (by decide)]; exact k x h0
    have ub : ∀ b, b ≠ 5000 → b ≠ 5015 → μ b = τ b := fun b h1 h2 => by rw [← hμ, up_na _ h1, cpy_oo _ _ _ _ _ _ h2]; exact th_o τ h1
    have u15 : ∀ j, 0 ≤ j → j < 208 → μ 5015 j = σ 5026 j := fun j j0 j1 => by
      rw [← hμ, up_na _ (by decide), cpy_in _ _ _ _ _ _ ⟨j0, by omega⟩, th_o τ (by decide), r26]; congr 1; omega
    have hG : MG τ μ := ⟨fun b b1 b2 b3 => ub b b1 (by omega), fun x a1 a2 a3 a4 a5 a6 a7 => by rw [uk x a1 a6, k5]⟩
    refine RR_act h hA t7 hG (mOk_c (by rw [uk 7 (by decide) (by decide), k 7 (by decide)]) (fun b hb => by rw [ub b (by omega) (by omega), th_o τ (by omega)]) mo) ⟨?_, ?_⟩ ⟨by rw [t3, u48], by rw [t4]; exact p2, by omega, fun i j i0 ij j1 => ?_, fun j j0 j1 => by omega⟩ ⟨fun j j0 j1 => ?_, by rw [t35]; exact ring.2⟩
    · rw [uk 29 (by decide) (by decide), uk 30 (by decide) (by decide)]
      exact auR_c nn.2.1.2 ta (fun j j0 j1 => u15 j j0 (by omega)) i3
    · rw [t1]
      obtain ⟨l1, l2, l3, l4⟩ := i5
      refine ⟨l1, by rw [u15 27 (by decide) (by decide)]; exact l2, by rw [u15 26 (by decide) (by decide)]; exact l3, fun i i0 i1' => ?_⟩
      have := l4 i i0 i1'
      rw [u15 _ (by omega) (by omega), u15 _ (by omega) (by omega), u15 _ (by omega) (by omega), t32 _ (by omega) (by omega)]
      exact this
    · have : i = j := by omega
      rw [this]; omega
    · by_cases c : j < 60
      · rw [t32 j j0 c]; exact ring.2 j j0 c
      · rw [t32o j (by omega)]; exact ring.1 j j0 j1
theorem sim_image {σ : Mem} (h : RR σ) : w_X11_image [(27, 0)] σ (fun r τ => w_X12_image [(28, 5000)] τ (sQ r)) := by
  have hth := RR_th h
  have n := RR_cnt h
  have nn := RR_n h
  have a := RR_now h
  have W := RR_W h
  have ring := h.2.2.2.2.2.2.2.2.2.2
  rw [w_X11_image_e]
  refine ⟨(RR_plan h).1, RR_pastOk h, fun q => ?_, fun q => ?_⟩
  · rw [n.2.1] at q
    rw [w_X12_image_e]
    exact ⟨⟨by omega, by omega⟩, fun _ => ⟨rfl, hth⟩, fun z => absurd (by omega) z⟩
  · rw [n.2.1] at q
    generalize hw : min 60 (σ 31 1) = w at *
    generalize hτ : up (kim (up (savR σ 34 0) 31 7 w) w w) 31 8 1 = τ
    have s1 : ∀ x, up (savR σ 34 0) 31 7 w 31 x = if x = 7 then w else σ 31 x := fun x => by
      by_cases c : x = 7
      · rw [if_pos c, c, up_s]
      · rw [if_neg c, up_nj _ c]; unfold savR; rw [if_neg (fun z => absurd z.1 (by decide))]
    have so : ∀ b, b ≠ 34 → savR σ 34 0 b = σ b := fun b hb => by funext j; unfold savR; rw [if_neg (fun z => hb z.1)]
    have tb : ∀ b, b ≠ 31 → b ≠ 34 → b ≠ 35 → τ b = σ b := fun b h1 h2 h3 => by rw [← hτ, up_na _ h1, kim_o _ _ _ h3, up_na _ h1, so b h2]
    have t31 : ∀ x, x ≠ 7 → x ≠ 8 → τ 31 x = σ 31 x := fun x h7 h8 => by rw [← hτ, up_nj _ h8, kim_o _ _ _ (by decide), s1, if_neg h7]
    have t7 : τ 31 7 = w := by rw [← hτ, up_nj _ (by decide), kim_o _ _ _ (by decide), s1, if_pos rfl]
    have t8 : τ 31 8 = 1 := by rw [← hτ, up_s]
    have t34 : ∀ x, 0 ≤ x → x < 27 → τ 34 x = aud σ 16 x := fun x x0 x1 => by
      rw [← hτ, up_na _ (by decide), kim_o _ _ _ (by decide), up_na _ (by decide)]
      unfold savR
      rw [if_pos ⟨rfl, by omega, by omega⟩, Int.sub_zero]
    have t35 : ∀ j, τ 35 j = if 0 ≤ j ∧ j < w then σ 32 ((σ 31 1 - w + j) % 128) else σ 35 j := fun j => by
      rw [← hτ, up_na _ (by decide)]
      unfold kim
      rw [s1, show (if (1 : Int) = 7 then w else σ 31 1) = σ 31 1 from if_neg (by decide), up_na _ (show (32 : Int) ≠ 31 by decide), so 32 (by decide), up_na _ (show (35 : Int) ≠ 31 by decide), so 35 (by decide)]
      by_cases c : 0 ≤ j ∧ j < w
      · rw [if_pos ⟨rfl, c⟩, if_pos c]
      · rw [if_neg (fun z => c z.2), if_neg c]
    have k5 := tb 5000 (by decide) (by decide) (by decide)
    have k15 := tb 5015 (by decide) (by decide) (by decide)
    rw [w_X12_image_e]
    refine ⟨by rw [k5]; exact ⟨by omega, by omega⟩, fun z => absurd (by rw [k5] at z; omega) (show ¬ False from id), fun _ => ⟨by rw [k15, a.2.1.2.2], ?_⟩⟩
    generalize hμ : up (cpy (th0 τ) 5015 0 5026 0 208) 5000 56 1 = μ
    have u56 : μ 5000 56 = 1 := by rw [← hμ, up_s]
    have uk : ∀ x, x ≠ 0 → x ≠ 56 → μ 5000 x = σ 5000 x := fun x h0 h56 => by rw [← hμ, up_nj _ h56, cpy_oo _ _ _ _ _ _ (by decide), th_k τ h0, k5]
    have ub : ∀ b, b ≠ 5000 → b ≠ 5026 → μ b = τ b := fun b h1 h2 => by rw [← hμ, up_na _ h1, cpy_oo _ _ _ _ _ _ h2]; exact th_o τ h1
    have us : ∀ b, b ≠ 5000 → b ≠ 5026 → b ≠ 31 → b ≠ 34 → b ≠ 35 → μ b = σ b := fun b h1 h2 h3 h4 h5 => by rw [ub b h1 h2]; exact tb b h3 h4 h5
    have u26 : ∀ j, 0 ≤ j → j < 208 → μ 5026 j = σ 5015 j := fun j j0 j1 => by
      rw [← hμ, up_na _ (by decide), cpy_in _ _ _ _ _ _ ⟨j0, by omega⟩, th_o τ (by decide), k15]; congr 1; omega
    have u31 := ub 31 (by decide) (by decide)
    obtain ⟨h1, h2, h3, h4, h5, h6, h7, h8, h9, h10, h11⟩ := h
    have q' : ∀ b, b = -2 ∨ (0 ≤ b ∧ b < 31) ∨ b = 32 ∨ b = 33 ∨ (35 < b ∧ b < 200) ∨ (5000 < b ∧ b < 5026) → μ b = σ b := fun b hb => us b (by omega) (by omega) (by omega) (by omega) (by omega)
    have kk : ∀ x, x = 6 ∨ x = 7 ∨ x = 28 ∨ x = 29 ∨ x = 30 ∨ x = 34 ∨ x = 38 ∨ x = 39 ∨ x = 48 ∨ x = 53 → μ 5000 x = σ 5000 x := fun x hx => uk x (by omega) (by omega)
    refine ⟨tapeR_c (by rw [q' 1 (by decide)]) (q' 2 (by decide)) (kk 6 (by decide)) (q' 5001 (by decide)) h1, houR_c (q' 4 (by decide)) (q' 5 (by decide)) (q' 7 (by decide)) (q' 8 (by decide)) (fun x hx => kk x (by omega)) (fun b hb => q' b (by omega)) h2, lawR_c (by rw [q' 0 (by decide)]) (by rw [q' 0 (by decide)]) (by rw [q' 26 (by decide)]) (q' 12 (by decide)) ⟨kk 7 (by decide), kk 38 (by decide)⟩ (q' 5002 (by decide)) (q' 5003 (by decide)) (fun l l0 l1 => q' _ (by omega)) nn.2.2.2.2 h3, seaR_c (by rw [q' 13 (by decide)]) (q' 14 (by decide)) (q' 15 (by decide)) (kk 34 (by decide)) (q' 5013 (by decide)) (q' 5014 (by decide)) h4, howR_c (by rw [q' 41 (by decide)]) (q' 42 (by decide)) (fun x hx => kk x (by omega)) (q' 5024 (by decide)) h5, nowR_c nn.2.1.2 (fun j _ _ => by rw [q' 16 (by decide)]) (fun b b0 b1 => q' b (by omega)) (q' 32 (by decide)) (by rw [u31, t31 1 (by decide) (by decide)]) ⟨kk 29 (by decide), kk 30 (by decide)⟩ (q' 5015 (by decide)) h6, pastR_c (fun x hx => by rw [u31, t31 x (by omega) (by omega)]) (q' 32 (by decide)) (q' 33 (by decide)) (fun x hx => kk x (by omega)) (q' 5023 (by decide)) h7, Or.inr ⟨by rw [u31, t8], u56, ?_, by rw [u31, t7]; omega, ?_⟩, livR_c (q' (-2) (by decide)) (kk 7 (by decide)) h9, mskR_c (mOk_c (kk 7 (by decide)) (fun b hb => q' b (by omega)) h10.1) (by rw [q' 0 (by decide)]) (kk 39 (by decide)) (q' 5007 (by decide)) (q' 5011 (by decide)) (q' 5005 (by decide)) h10, ⟨by rw [q' 32 (by decide)]; exact h11.1, fun j j0 j1 => ?_⟩⟩
    · rw [kk 29 (by decide), kk 30 (by decide), ub 34 (by decide) (by decide)]
      exact auR_c nn.2.1.2 t34 (fun j j0 j1 => u26 j j0 (by omega)) h6.1
    · rw [u31, t7, ub 35 (by decide) (by decide)]
      obtain ⟨l1, l2, l3, l4⟩ := h6.2
      rw [hw] at l2 l4
      have mw : min 60 w = w := by omega
      refine ⟨by omega, by rw [u26 27 (by decide) (by decide), mw]; exact l2, by rw [u26 26 (by decide) (by decide)]; omega, fun i i0 i1 => ?_⟩
      rw [mw] at i1 ⊢
      have := l4 i i0 i1
      rw [u26 _ (by omega) (by omega), u26 _ (by omega) (by omega), u26 _ (by omega) (by omega), t35, if_pos (by omega), show (σ 31 1 - w + (w - 1 - i) % 128) % 128 = (σ 31 1 - 1 - i) % 128 by omega]
      exact this
    · rw [ub 35 (by decide) (by decide), t35]
      by_cases c : 0 ≤ j ∧ j < w
      · rw [if_pos c]; exact h11.1 _ (by omega) (by omega)
      · rw [if_neg c]; exact h11.2 j j0 j1
/-! FLU, LAW, HOWLED, END, FEED side by side -/
theorem RR_few {σ μ : Mem} (h : RR σ) (hb : ∀ b, b ≠ 0 → b ≠ 1 → b ≠ 2 → b ≠ 26 → b ≠ 41 → b ≠ 42 → b ≠ 5000 → b ≠ 5001 → b ≠ 5024 → μ b = σ b) (hk : ∀ x, x = 7 ∨ x = 28 ∨ x = 29 ∨ x = 30 ∨ x = 34 ∨ x = 48 ∨ x = 56 → μ 5000 x = σ 5000 x) (ht : tapeR μ) (hl : lawR μ) (hw : hwO μ ∧ eqW μ μ) (hf : μ 0 8 = μ 5000 39 ∧ 0 ≤ μ 0 8 ∧ μ 0 8 ≤ 9) : RR μ := by
  have n := RR_n h
  have q : ∀ b, b = -2 ∨ (2 < b ∧ b < 26) ∨ (26 < b ∧ b < 41) ∨ (5001 < b ∧ b < 5024) ∨ 5024 < b → μ b = σ b := fun b hb' => hb b (by omega) (by omega) (by omega) (by omega) (by omega) (by omega) (by omega) (by omega) (by omega)
  obtain ⟨h1, h2, h3, h4, h5, h6, h7, h8, h9, h10, h11⟩ := h
  refine ⟨ht, houR_c (q 4 (by decide)) (q 5 (by decide)) (q 7 (by decide)) (q 8 (by decide)) (fun x hx => hk x (by omega)) (fun b hb' => q b (by omega)) h2, hl, seaR_c (by rw [q 13 (by decide)]) (q 14 (by decide)) (q 15 (by decide)) (hk 34 (by decide)) (q 5013 (by decide)) (q 5014 (by decide)) h4, hw, nowR_c n.2.1.2 (fun j _ _ => by rw [q 16 (by decide)]) (fun b b0 b1 => q b (by omega)) (q 32 (by decide)) (by rw [q 31 (by decide)]) ⟨hk 29 (by decide), hk 30 (by decide)⟩ (q 5015 (by decide)) h6, pastR_c (fun x _ => by rw [q 31 (by decide)]) (q 32 (by decide)) (q 33 (by decide)) (fun x hx => hk x (by omega)) (q 5023 (by decide)) h7, imR_c (fun x _ => by rw [q 31 (by decide)]) (q 34 (by decide)) (q 35 (by decide)) (fun x hx => hk x (by omega)) (q 5026 (by decide)) h8, livR_c (q (-2) (by decide)) (hk 7 (by decide)) h9, ⟨mOk_c (hk 7 (by decide)) (fun b hb' => q b (by omega)) h10.1, hf, ?_⟩, ringR_c (q 32 (by decide)) (q 35 (by decide)) h11⟩
  rw [q 5007 (by decide), q 5011 (by decide), q 5005 (by decide)]; exact h10.2.2
theorem sim_flu {σ : Mem} (h : RR σ) {v : Int} (hv : InR v) : w_X11_flu [(27, 0), (0, v)] σ (fun r τ => w_X12_flu [(28, 5000), (0, v)] τ (sQ r)) := by
  have hth := RR_th h
  have nn := RR_n h
  have f := h.2.2.2.2.2.2.2.2.2.1.2.1
  rw [w_X11_flu_e]
  refine ⟨hv, ⟨by omega, by omega⟩, fun q => ?_, fun q0 q1 q2 => ?_⟩
  · rw [w_X12_flu_e]
    exact ⟨hv, ⟨by omega, by omega⟩, fun _ => ⟨rfl, hth⟩, fun a b c => absurd q (by omega)⟩
  · have e : up σ 0 8 v 5000 = σ 5000 := up_na _ (by decide)
    rw [w_X12_flu_e]
    refine ⟨hv, by rw [e]; exact ⟨by omega, by omega⟩, fun z => absurd z (by rw [e]; omega), fun _ _ _ => ⟨rfl, ?_⟩⟩
    generalize hμ : up (th0 (up σ 0 8 v)) 5000 39 v = μ
    have o : ∀ b, b ≠ 0 → b ≠ 5000 → μ b = σ b := fun b b0 b1 => by rw [← hμ, up_na _ b1, th_o _ b1, up_na _ b0]
    have k : ∀ x, x ≠ 0 → x ≠ 39 → μ 5000 x = σ 5000 x := fun x x0 x1 => by rw [← hμ, up_nj _ x1, th_k _ x0, e]
    have k9 : μ 5000 39 = v := by rw [← hμ, up_s]
    have z : ∀ x, x ≠ 8 → μ 0 x = σ 0 x := fun x x1 => by rw [← hμ, up_na _ (by decide), th_o _ (by decide), up_nj _ x1]
    have z8 : μ 0 8 = v := by rw [← hμ, up_na _ (by decide), th_o _ (by decide), up_s]
    exact RR_few h (fun b a0 a1 a2 a3 a4 a5 a6 a7 a8 => o b a0 a6) (fun x hx => k x (by omega) (by omega)) (tapeR_c (by rw [o 1 (by decide) (by decide)]) (o 2 (by decide) (by decide)) (k 6 (by decide) (by decide)) (o 5001 (by decide) (by decide)) h.1) (lawR_c (z 5 (by decide)) (z 6 (by decide)) (by rw [o 26 (by decide) (by decide)]) (o 12 (by decide) (by decide)) ⟨k 7 (by decide) (by decide), k 38 (by decide) (by decide)⟩ (o 5002 (by decide) (by decide)) (o 5003 (by decide) (by decide)) (fun l l0 l1 => o _ (by omega) (by omega)) nn.2.2.2.2 h.2.2.1) (howR_c (by rw [o 41 (by decide) (by decide)]) (o 42 (by decide) (by decide)) (fun x hx => k x (by omega) (by omega)) (o 5024 (by decide) (by decide)) h.2.2.2.2.1) ⟨by rw [z8, k9], by rw [z8]; exact q0, by rw [z8]; exact q1⟩
theorem law_RR {σ : Mem} (h : RR σ) {v w : Int} (hv : (v = -1 ∧ w = -1) ∨ (0 ≤ v ∧ v < σ 5000 7 ∧ w = σ 12 v)) : RR (up (th0 (up (up σ 0 6 v) 26 1 w)) 5000 38 v) := by
  have nn := RR_n h
  have e : up (up σ 0 6 v) 26 1 w 5000 = σ 5000 := by rw [up_na _ (by decide), up_na _ (by decide)]
  generalize hμ : up (th0 (up (up σ 0 6 v) 26 1 w)) 5000 38 v = μ
  have o : ∀ b, b ≠ 0 → b ≠ 26 → b ≠ 5000 → μ b = σ b := fun b b0 b1 b2 => by rw [← hμ, up_na _ b2, th_o _ b2, up_na _ b1, up_na _ b0]
  have k : ∀ x, x ≠ 0 → x ≠ 38 → μ 5000 x = σ 5000 x := fun x x0 x1 => by rw [← hμ, up_nj _ x1, th_k _ x0, e]
  have k9 : μ 5000 38 = v := by rw [← hμ, up_s]
  have z : ∀ x, x ≠ 6 → μ 0 x = σ 0 x := fun x x1 => by rw [← hμ, up_na _ (by decide), th_o _ (by decide), up_na _ (by decide), up_nj _ x1]
  have z6 : μ 0 6 = v := by rw [← hμ, up_na _ (by decide), th_o _ (by decide), up_na _ (by decide), up_s]
  have y : μ 26 1 = w := by rw [← hμ, up_na _ (by decide), th_o _ (by decide), up_s]
  obtain ⟨a1, a2, a3, a4, a5⟩ := h.2.2.1
  have o12 := o 12 (by decide) (by decide) (by decide)
  refine RR_few h (fun b a0 a1 a2 a3 a4 a5 a6 a7 a8 => o b a0 a3 a6) (fun x hx => k x (by omega) (by omega)) (tapeR_c (by rw [o 1 (by decide) (by decide) (by decide)]) (o 2 (by decide) (by decide) (by decide)) (k 6 (by decide) (by decide)) (o 5001 (by decide) (by decide) (by decide)) h.1) ⟨by rw [z 5 (by decide), k 7 (by decide) (by decide)]; exact a1, by rw [z6, k9], ?_, ?_, fun l l0 l1 => ?_⟩ (howR_c (by rw [o 41 (by decide) (by decide) (by decide)]) (o 42 (by decide) (by decide) (by decide)) (fun x hx => k x (by omega) (by omega)) (o 5024 (by decide) (by decide) (by decide)) h.2.2.2.2.1) (by rw [z 8 (by decide), k 39 (by decide) (by decide)]; exact h.2.2.2.2.2.2.2.2.2.1.2.1)
  · unfold lwIs
    rw [k9, k 7 (by decide) (by decide)]
    rcases hv with q | q
    · left; exact q.1
    · right; exact ⟨q.1, q.2.1⟩
  · rw [y, k9, o12]
    rcases hv with q | q
    · rw [if_pos q.1]; exact q.2
    · rw [if_neg (by omega)]; exact q.2.2
  · rw [k 7 (by decide) (by decide)] at l1
    rw [o12, o (101 + 3 * l) (by omega) (by omega) (by omega), lwK_c (o 5002 (by decide) (by decide) (by decide)) (o 5003 (by decide) (by decide) (by decide))]
    exact a5 l l0 l1
theorem sim_law {σ : Mem} (h : RR σ) {v : Int} (hv : InR v) : w_X11_law [(27, 0), (0, v)] σ (fun r τ => w_X12_law [(28, 5000), (0, v)] τ (sQ r)) := by
  have hth := RR_th h
  have nn := RR_n h
  obtain ⟨a1, a2, a3, a4, a5⟩ := h.2.2.1
  have e : ∀ w, up (up σ 0 6 v) 26 1 w 5000 = σ 5000 := fun w => by rw [up_na _ (by decide), up_na _ (by decide)]
  rw [w_X11_law_e]
  refine ⟨hv, by omega, by omega, fun i i0 i1 => ?_, fun q => ?_, fun q => ?_, fun q0 q1 => ?_⟩
  · have := (a5 i i0 (by omega)).1
    omega
  · rw [w_X12_law_e]
    exact ⟨hv, nn.2.2.2.1, nn.2.2.2.2, fun _ => ⟨rfl, hth⟩, fun x y => absurd q (by omega)⟩
  · rw [w_X12_law_e]
    refine ⟨hv, by rw [e]; exact nn.2.2.2.1, by rw [e]; exact nn.2.2.2.2, fun z => absurd z (by rw [e]; omega), fun _ _ => ⟨rfl, law_RR h (Or.inl ⟨q, rfl⟩)⟩⟩
  · rw [w_X12_law_e]
    refine ⟨hv, by rw [e]; exact nn.2.2.2.1, by rw [e]; exact nn.2.2.2.2, fun z => absurd z (by rw [e]; omega), fun _ _ => ⟨rfl, law_RR h (Or.inr ⟨q0, by omega, rfl⟩)⟩⟩
/-- five numbers written -/
def wr5 (f : Int → Int) (B c p k v u : Int) : Int → Int := fun j => if j = B + 4 then u else if j = B + 3 then v else if j = B + 2 then k else if j = B + 1 then p else if j = B then c else f j
theorem wr5_up (σ : Mem) (a B c p k v u : Int) : up (up (up (up (up σ a B c) a (B + 1) p) a (B + 2) k) a (B + 3) v) a (B + 4) u a = wr5 (σ a) B c p k v u := by
  rw [up_row, up_row, up_row, up_row, up_row]; rfl
theorem wr5_lo {f : Int → Int} {B c p k v u j : Int} (h : j < B) : wr5 f B c p k v u j = f j := by
  unfold wr5
  rw [if_neg (by omega), if_neg (by omega), if_neg (by omega), if_neg (by omega), if_neg (by omega)]
theorem wr5_hi {f g : Int → Int} {B c p k v u j : Int} (h : B ≤ j) (h1 : j < B + 5) : wr5 f B c p k v u j = wr5 g B c p k v u j := by
  unfold wr5
  by_cases e4 : j = B + 4
  · rw [if_pos e4, if_pos e4]
  · rw [if_neg e4, if_neg e4]
    by_cases e3 : j = B + 3
    · rw [if_pos e3, if_pos e3]
    · rw [if_neg e3, if_neg e3]
      by_cases e2 : j = B + 2
      · rw [if_pos e2, if_pos e2]
      · rw [if_neg e2, if_neg e2]
        by_cases e1 : j = B + 1
        · rw [if_pos e1, if_pos e1]
        · rw [if_neg e1, if_neg e1, if_pos (by omega), if_pos (by omega)]
theorem wr5_v (f : Int → Int) (B c p k v u : Int) : wr5 f B c p k v u B = c ∧ wr5 f B c p k v u (B + 1) = p ∧ wr5 f B c p k v u (B + 2) = k ∧ wr5 f B c p k v u (B + 3) = v ∧ wr5 f B c p k v u (B + 4) = u := by
  unfold wr5
  refine ⟨?_, ?_, ?_, ?_, ?_⟩
  · rw [if_neg (by omega), if_neg (by omega), if_neg (by omega), if_neg (by omega), if_pos rfl]
  · rw [if_neg (by omega), if_neg (by omega), if_neg (by omega), if_pos rfl]
  · rw [if_neg (by omega), if_neg (by omega), if_pos rfl]
  · rw [if_neg (by omega), if_pos rfl]
  · rw [if_pos rfl]
theorem sim_howled {σ : Mem} (h : RR σ) {c p k v u : Int} (hc : InR c) (hp : InR p) (hk : InR k) (hv : InR v) (hu : u = 0 ∨ u = 1) : w_X11_howled [(27, 0), (0, c), (0, p), (0, k), (0, v), (0, u)] σ (fun r τ => w_X12_howled [(28, 5000), (0, c), (0, p), (0, k), (0, v), (0, u)] τ (sQ r)) := by
  have hth := RR_th h
  have nn := RR_n h
  have n := RR_cnt h
  obtain ⟨⟨h1, h2⟩, w1, w2, w3⟩ := h.2.2.2.2.1
  have i29 : InR (σ 5000 29) := ⟨by omega, by omega⟩
  have i28 : InR (σ 5000 28) := ⟨by omega, by omega⟩
  rw [w_X11_howled_e, n.1, n.2.1, w1]
  refine ⟨hc, hp, hk, hv, hu, (RR_plan h).1, h1.1, h1.2, fun q => ?_, fun q => ?_⟩
  · rw [w_X12_howled_e]
    exact ⟨hc, hp, hk, hv, hu, i29, i28, h1.1, h1.2, fun _ => ⟨rfl, hth⟩, fun z => absurd z q⟩
  · rw [show σ 5000 53 * 5 = 5 * σ 5000 53 by omega]
    generalize hN : σ 5000 53 = N at *
    generalize hτ : up (up (up (up (up (up σ 42 (5 * N) c) 42 (5 * N + 1) p) 42 (5 * N + 2) k) 42 (5 * N + 3) v) 42 (5 * N + 4) u) 41 4 (N + 1) = τ
    have to : ∀ b, b ≠ 41 → b ≠ 42 → τ b = σ b := fun b b1 b2 => by rw [← hτ, up_na _ b1, up_na _ b2, up_na _ b2, up_na _ b2, up_na _ b2, up_na _ b2]
    have t42 : τ 42 = wr5 (σ 42) (5 * N) c p k v u := by rw [← hτ, up_na _ (by decide)]; exact wr5_up σ 42 (5 * N) c p k v u
    have t41 : τ 41 4 = N + 1 := by rw [← hτ, up_s]
    have e := to 5000 (by decide) (by decide)
    rw [w_X12_howled_e, e, hN]
    refine ⟨hc, hp, hk, hv, hu, i29, i28, h1.1, h1.2, fun z => absurd q z, fun _ => ⟨rfl, ?_⟩⟩
    generalize hμ : up (up (up (up (up (up (th0 τ) 5024 (5 * N) c) 5024 (5 * N + 1) p) 5024 (5 * N + 2) k) 5024 (5 * N + 3) v) 5024 (5 * N + 4) u) 5000 53 (N + 1) = μ
    have o : ∀ b, b ≠ 5000 → b ≠ 5024 → μ b = τ b := fun b b1 b2 => by rw [← hμ, up_na _ b1, up_na _ b2, up_na _ b2, up_na _ b2, up_na _ b2, up_na _ b2, th_o _ b1]
    have os : ∀ b, b ≠ 41 → b ≠ 42 → b ≠ 5000 → b ≠ 5024 → μ b = σ b := fun b b1 b2 b3 b4 => by rw [o b b3 b4, to b b1 b2]
    have kk : ∀ x, x ≠ 0 → x ≠ 53 → μ 5000 x = σ 5000 x := fun x x0 x1 => by rw [← hμ, up_nj _ x1, up_na _ (by decide), up_na _ (by decide), up_na _ (by decide), up_na _ (by decide), up_na _ (by decide), th_k _ x0, e]
    have k53 : μ 5000 53 = N + 1 := by rw [← hμ, up_s]
    have u24 : μ 5024 = wr5 (σ 5024) (5 * N) c p k v u := by rw [← hμ, up_na _ (by decide), wr5_up, th_o τ (by decide), to 5024 (by decide) (by decide)]
    have u42 : μ 42 = wr5 (σ 42) (5 * N) c p k v u := by rw [o 42 (by decide) (by decide), t42]
    have u41 : μ 41 4 = N + 1 := by rw [o 41 (by decide) (by decide), t41]
    obtain ⟨v0, v1, v2, v3, v4⟩ := wr5_v (σ 5024) (5 * N) c p k v u
    have q' := os
    refine RR_few h (fun b a0 a1 a2 a3 a4 a5 a6 a7 a8 => os b a4 a5 a6 a8) (fun x hx => kk x (by omega) (by omega)) (tapeR_c (by rw [os 1 (by decide) (by decide) (by decide) (by decide)]) (os 2 (by decide) (by decide) (by decide) (by decide)) (kk 6 (by decide) (by decide)) (os 5001 (by decide) (by decide) (by decide) (by decide)) h.1) (lawR_c (by rw [os 0 (by decide) (by decide) (by decide) (by decide)]) (by rw [os 0 (by decide) (by decide) (by decide) (by decide)]) (by rw [os 26 (by decide) (by decide) (by decide) (by decide)]) (os 12 (by decide) (by decide) (by decide) (by decide)) ⟨kk 7 (by decide) (by decide), kk 38 (by decide) (by decide)⟩ (os 5002 (by decide) (by decide) (by decide) (by decide)) (os 5003 (by decide) (by decide) (by decide) (by decide)) (fun l l0 l1 => os _ (by omega) (by omega) (by omega) (by omega)) nn.2.2.2.2 h.2.2.1) ⟨⟨by omega, fun j j0 j1 => ?_⟩, by rw [u41, k53], fun j j0 j1 => ?_, fun j j0 j1 => ?_⟩ (by rw [os 0 (by decide) (by decide) (by decide) (by decide), kk 39 (by decide) (by decide)]; exact h.2.2.2.2.2.2.2.2.2.1.2.1)
    · rw [k53] at j1
      rw [u24]
      by_cases y : j = N
      · rw [y, v0, v1, v2, v3, v4]
        exact ⟨⟨q.1, by omega⟩, ⟨q.2.2.1, by omega⟩, ⟨q.2.2.2.2.1, q.2.2.2.2.2.1⟩, ⟨q.2.2.2.2.2.2.1, q.2.2.2.2.2.2.2.1⟩, hu⟩
      · rw [wr5_lo (by omega), wr5_lo (by omega), wr5_lo (by omega), wr5_lo (by omega), wr5_lo (by omega)]
        exact h2 j j0 (by omega)
    · rw [k53] at j1
      rw [u42, u24]
      by_cases y : j < 5 * N
      · rw [wr5_lo y, wr5_lo y]; exact w2 j j0 y
      · exact wr5_hi (by omega) (by omega)
    · rw [k53] at j1
      rw [u24, kk 28 (by decide) (by decide), kk 29 (by decide) (by decide)]
      by_cases y : j = N
      · rw [y, v0, v1]
        exact ⟨⟨q.1, q.2.1⟩, ⟨q.2.2.1, q.2.2.2.1⟩⟩
      · rw [wr5_lo (by omega), wr5_lo (by omega)]
        exact w3 j j0 (by omega)
theorem sim_end {σ : Mem} (h : RR σ) {n : Int} (hv : InR n) : w_X11_end [(27, 0), (0, n)] σ (fun r τ => w_X12_end [(28, 5000), (0, n)] τ (sQ r)) := by
  have hth := RR_th h
  have nn := RR_n h
  obtain ⟨⟨t1, t2, t3⟩, t4, t5⟩ := h.1
  have i6 : InR (σ 5000 6) := ⟨by omega, by omega⟩
  rw [w_X11_end_e]
  refine ⟨hv, ⟨t1, t2, t3⟩, fun q => ?_, fun q0 q1 => ?_⟩
  · rw [w_X12_end_e]
    exact ⟨hv, i6, fun _ => ⟨rfl, hth⟩, fun a b => absurd q (by omega)⟩
  · have e : up σ 1 1 n 5000 = σ 5000 := up_na _ (by decide)
    rw [w_X12_end_e]
    refine ⟨hv, by rw [e]; exact i6, fun z => absurd z (by rw [e]; omega), fun _ _ => ⟨rfl, ?_⟩⟩
    generalize hμ : up (th0 (up σ 1 1 n)) 5000 6 n = μ
    have o : ∀ b, b ≠ 1 → b ≠ 5000 → μ b = σ b := fun b b0 b1 => by rw [← hμ, up_na _ b1, th_o _ b1, up_na _ b0]
    have k : ∀ x, x ≠ 0 → x ≠ 6 → μ 5000 x = σ 5000 x := fun x x0 x1 => by rw [← hμ, up_nj _ x1, th_k _ x0, e]
    have k6 : μ 5000 6 = n := by rw [← hμ, up_s]
    have z1 : μ 1 1 = n := by rw [← hμ, up_na _ (by decide), th_o _ (by decide), up_s]
    refine RR_few h (fun b a0 a1 a2 a3 a4 a5 a6 a7 a8 => o b a1 a6) (fun x hx => k x (by omega) (by omega)) ⟨⟨by rw [z1]; exact q0, by rw [z1]; omega, fun i i0 i1 => ?_⟩, by rw [k6, z1], fun i i0 i1 => ?_⟩ (lawR_c (by rw [o 0 (by decide) (by decide)]) (by rw [o 0 (by decide) (by decide)]) (by rw [o 26 (by decide) (by decide)]) (o 12 (by decide) (by decide)) ⟨k 7 (by decide) (by decide), k 38 (by decide) (by decide)⟩ (o 5002 (by decide) (by decide)) (o 5003 (by decide) (by decide)) (fun l l0 l1 => o _ (by omega) (by omega)) nn.2.2.2.2 h.2.2.1) (howR_c (by rw [o 41 (by decide) (by decide)]) (o 42 (by decide) (by decide)) (fun x hx => k x (by omega) (by omega)) (o 5024 (by decide) (by decide)) h.2.2.2.2.1) (by rw [o 0 (by decide) (by decide), k 39 (by decide) (by decide)]; exact h.2.2.2.2.2.2.2.2.2.1.2.1)
    · rw [z1] at i1
      rw [o 2 (by decide) (by decide)]; exact t3 i i0 (by omega)
    · rw [z1] at i1
      rw [o 2 (by decide) (by decide), o 5001 (by decide) (by decide)]; exact t5 i i0 (by omega)
/-- the same tape in two memories -/
def tp2 (σ m : Mem) : Prop := tapeOk σ ∧ m 5000 6 = σ 1 1 ∧ ∀ i, 0 ≤ i → i < σ 1 1 → (-128 ≤ m 5001 i ∧ m 5001 i ≤ 127) ∧ m 5001 i % 256 = σ 2 i
def tpF (σ m : Mem) (L : Int) (τ μ : Mem) : Prop := tp2 τ μ ∧ τ 1 1 = σ 1 1 + L ∧ (∀ c, c ≠ 1 → c ≠ 2 → τ c = σ c) ∧ (∀ c, c ≠ 5000 → c ≠ 5001 → μ c = m c) ∧ ∀ x, x ≠ 6 → μ 5000 x = m 5000 x
theorem tpF_tr {σ m τ μ τ' μ' : Mem} {L L' : Int} (h : tpF σ m L τ μ) (g : tpF τ μ L' τ' μ') : tpF σ m (L + L') τ' μ' :=
  ⟨g.1, by have := h.2.1; have := g.2.1; omega, fun c c1 c2 => by rw [g.2.2.1 c c1 c2, h.2.2.1 c c1 c2], fun c c1 c2 => by rw [g.2.2.2.1 c c1 c2, h.2.2.2.1 c c1 c2], fun x hx => by rw [g.2.2.2.2 x hx, h.2.2.2.2 x hx]⟩
theorem addS_sim {σ m : Mem} {b : Int} (h : tp2 σ m) (b0 : 0 ≤ b) (b1 : b ≤ 255) (hl : σ 1 1 + min b 1 ≤ 240) : tpF σ m (min b 1) (addS σ b) (mPu m b) := by
  by_cases e : b = 0
  · rw [addS_neg (fun q => q.1 e), mPu_0 e]
    exact ⟨h, by omega, fun _ _ _ => rfl, fun _ _ _ => rfl, fun _ _ => rfl⟩
  · obtain ⟨⟨t1, t2, t3⟩, t4, t5⟩ := h
    have sb := sby_b (b := b) ⟨b0, by omega⟩
    rw [addS_pos ⟨e, t1, by omega⟩, mPu_1 e]
    refine ⟨⟨⟨by rw [up_s]; omega, by rw [up_s]; omega, fun i i0 i1 => ?_⟩, by rw [up_s, up_s, t4], fun i i0 i1 => ?_⟩, by rw [up_s]; omega, fun c c1 c2 => by rw [up_na _ c1, up_na _ c2], fun c c1 c2 => by rw [up_na _ c1, up_na _ c2], fun x hx => by rw [up_nj _ hx, up_na _ (by decide)]⟩
    · rw [up_s] at i1
      rw [up_na _ (by decide)]
      by_cases y : i = σ 1 1
      · rw [y, up_s]; omega
      · rw [up_nj _ y]; exact t3 i i0 (by omega)
    · rw [up_s] at i1
      rw [up_na _ (show (5001 : Int) ≠ 5000 by decide), up_na _ (show (2 : Int) ≠ 1 by decide), t4]
      by_cases y : i = σ 1 1
      · rw [y, up_s, up_s]; exact ⟨⟨sb.1, sb.2.1⟩, sb.2.2⟩
      · rw [up_nj _ y, up_nj _ y]; exact t5 i i0 (by omega)
theorem addF_sim {σ m : Mem} (x : Int) (h : tp2 σ m) (hl : σ 1 1 + nzc x ≤ 240) : tpF σ m (nzc x) (addF σ x) (mPf m x) := by
  have b1 := bte_bd x 16777216
  have b2 := bte_bd x 65536
  have b3 := bte_bd x 256
  have b4 := bte_bd x 1
  have nz : nzc x = min (bte x 16777216) 1 + min (bte x 65536) 1 + min (bte x 256) 1 + min (bte x 1) 1 := rfl
  have s1 := addS_sim h b1.1 (by omega) (by omega)
  have s2 := tpF_tr s1 (addS_sim s1.1 b2.1 (by omega) (by have := s1.2.1; omega))
  have s3 := tpF_tr s2 (addS_sim s2.1 b3.1 (by omega) (by have := s2.2.1; omega))
  have s4 := tpF_tr s3 (addS_sim s3.1 b4.1 (by omega) (by have := s3.2.1; omega))
  rw [nz]; exact s4
theorem fdM_sim {σ m : Mem} (a b c d e : Int) (h : tp2 σ m) (hl : σ 1 1 + (nzc a + nzc b + nzc c + nzc d + nzc e) ≤ 240) : tpF σ m (nzc a + nzc b + nzc c + nzc d + nzc e) (fdM σ a b c d e) (mFd m a b c d e) := by
  have n1 := nzc_b a
  have n2 := nzc_b b
  have n3 := nzc_b c
  have n4 := nzc_b d
  have n5 := nzc_b e
  have s1 := addF_sim a h (by omega)
  have s2 := tpF_tr s1 (addF_sim b s1.1 (by have := s1.2.1; omega))
  have s3 := tpF_tr s2 (addF_sim c s2.1 (by have := s2.2.1; omega))
  have s4 := tpF_tr s3 (addF_sim d s3.1 (by have := s3.2.1; omega))
  exact tpF_tr s4 (addF_sim e s4.1 (by have := s4.2.1; omega))
theorem sim_feed {σ : Mem} (h : RR σ) {a b c d e : Int} (ha : InR a) (hb : InR b) (hc : InR c) (hd : InR d) (he : InR e) : w_X11_feed [(27, 0), (0, a), (0, b), (0, c), (0, d), (0, e)] σ (fun r τ => w_X12_feed [(28, 5000), (0, a), (0, b), (0, c), (0, d), (0, e)] τ (sQ r)) := by
  have hth := RR_th h
  have nn := RR_n h
  have t := h.1
  have t0 := t.1
  have t4 := t.2.1
  rw [w_X11_feed_e]
  refine ⟨ha, hb, hc, hd, he, t0, fun q => ?_, fun q => ?_⟩
  · rw [w_X12_feed_e]
    refine ⟨ha, hb, hc, hd, he, by have := t0.1; omega, by have := t0.2.1; omega, fun _ => ⟨rfl, hth⟩, fun z => absurd z (by omega)⟩
  · have f1 := fdM_sim a b c d e (σ := σ) (m := σ) t q
    generalize hτ : fdM σ a b c d e = τ at *
    have k5 := f1.2.2.1 5000 (by decide) (by decide)
    have tp : tp2 σ (th0 τ) := by
      refine ⟨t0, by rw [th_k τ (by decide), k5]; exact t4, fun i i0 i1 => ?_⟩
      rw [th_o τ (by decide), f1.2.2.1 5001 (by decide) (by decide)]; exact t.2.2 i i0 i1
    have f2 := fdM_sim a b c d e tp q
    rw [hτ] at f2
    rw [w_X12_feed_e, k5]
    refine ⟨ha, hb, hc, hd, he, by have := t0.1; omega, by have := t0.2.1; omega, fun z => absurd z (by omega), fun _ => ?_⟩
    generalize hμ : mFd (th0 τ) a b c d e = μ at *
    obtain ⟨g1, g2, g3, g4, g5⟩ := f2
    refine ⟨by rw [g1.2.1], ?_⟩
    have o : ∀ b, b ≠ 1 → b ≠ 2 → b ≠ 5000 → b ≠ 5001 → μ b = σ b := fun b b1 b2 b3 b4 => by rw [g4 b b3 b4, th_o τ b3, g3 b b1 b2]
    have k : ∀ x, x ≠ 0 → x ≠ 6 → μ 5000 x = σ 5000 x := fun x x0 x1 => by rw [g5 x x1, th_k τ x0, k5]
    have r1 : μ 1 = τ 1 := by rw [g4 1 (by decide) (by decide), th_o τ (by decide)]
    have r2 : μ 2 = τ 2 := by rw [g4 2 (by decide) (by decide), th_o τ (by decide)]
    refine RR_few h (fun b a0 a1 a2 a3 a4 a5 a6 a7 a8 => o b a1 a2 a6 a7) (fun x hx => k x (by omega) (by omega)) ?_ (lawR_c (by rw [o 0 (by decide) (by decide) (by decide) (by decide)]) (by rw [o 0 (by decide) (by decide) (by decide) (by decide)]) (by rw [o 26 (by decide) (by decide) (by decide) (by decide)]) (o 12 (by decide) (by decide) (by decide) (by decide)) ⟨k 7 (by decide) (by decide), k 38 (by decide) (by decide)⟩ (o 5002 (by decide) (by decide) (by decide) (by decide)) (o 5003 (by decide) (by decide) (by decide) (by decide)) (fun l l0 l1 => o _ (by omega) (by omega) (by omega) (by omega)) nn.2.2.2.2 h.2.2.1) (howR_c (by rw [o 41 (by decide) (by decide) (by decide) (by decide)]) (o 42 (by decide) (by decide) (by decide) (by decide)) (fun x hx => k x (by omega) (by omega)) (o 5024 (by decide) (by decide) (by decide) (by decide)) h.2.2.2.2.1) (by rw [o 0 (by decide) (by decide) (by decide) (by decide), k 39 (by decide) (by decide)]; exact h.2.2.2.2.2.2.2.2.2.1.2.1)
    unfold tapeR tapeOk
    unfold tp2 tapeOk at g1
    rw [r1, r2]; exact g1
