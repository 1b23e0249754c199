/-! the reference: what ACTS need, and keep -/
/-- the row of an audience is as it should be: n CHAIRS, s SITTERS -/
def aR (n s : Int) (r : Int → Int) : Prop := (∀ c, 0 ≤ c → c < n → (0 ≤ r (4 * c) ∧ r (4 * c) ≤ 9) ∧ (0 ≤ r (4 * c + 1) ∧ r (4 * c + 1) < s) ∧ (0 ≤ r (4 * c + 2) ∧ r (4 * c + 2) ≤ 99) ∧ 0 ≤ r (4 * c + 3) ∧ r (4 * c + 3) ≤ 9999) ∧ (0 ≤ r 24 ∧ r 24 < 64) ∧ (0 ≤ r 25 ∧ r 25 ≤ 30) ∧ (0 ≤ r 26 ∧ r 26 ≤ 2000) ∧ 0 ≤ r 27 ∧ r 27 ≤ 60
/-- what is told is as it should be -/
def mH (σ : Mem) : Prop := mOk σ ∧ lwIs σ ∧ (0 ≤ σ 5000 29 ∧ σ 5000 29 ≤ 6) ∧ (0 ≤ σ 5000 30 ∧ σ 5000 30 ≤ 6) ∧ (0 ≤ σ 5000 28 ∧ σ 5000 28 ≤ 4) ∧ (∀ j, 0 ≤ j → j < min 16 (4 * σ 5000 28) → 0 ≤ σ 5007 j ∧ σ 5007 j ≤ 9) ∧ (∀ t, 0 ≤ t → t < min 6 (σ 5000 30) → 0 ≤ σ 5011 t ∧ σ 5011 t ≤ 9) ∧ (0 ≤ σ 5005 0 ∧ σ 5005 0 ≤ 99) ∧ 0 ≤ σ 5000 48 ∧ σ 5000 48 ≤ 40
def mX (σ : Mem) (a : Int) : Prop := isW a ∧ mH σ ∧ aR (σ 5000 29) (σ 5000 30) (σ a)
theorem mX_P {σ : Mem} {a : Int} (h : mX σ a) : mP σ a := by
  obtain ⟨hw, ⟨h1, h2, h3, h4, h5, h6, h7, h8, h9⟩, ⟨g1, g2, g3, g4, g5⟩⟩ := h
  exact ⟨hw, h1, h2, h3, fun c c0 c1 => by have := g1 c c0 c1; exact ⟨⟨this.2.1.1, by omega⟩, this.1⟩, g2, g4, h6, h7, h8⟩
theorem mX_B {σ : Mem} (h : mX σ 5015) : mB σ := by
  obtain ⟨hw, ⟨h1, h2, h3, h4, h5, h6, h7, h8, h9⟩, ⟨g1, g2, g3, g4, g5⟩⟩ := h
  refine ⟨h3, h4, h5, h9, fun j j0 j1 => ?_, ⟨by omega, by omega⟩, g2⟩
  have hc := g1 (j / 4) (by omega) (by omega)
  have : j = 4 * (j / 4) ∨ j = 4 * (j / 4) + 1 ∨ j = 4 * (j / 4) + 2 ∨ j = 4 * (j / 4) + 3 := by omega
  rcases this with e | e | e | e
  · rw [e]; exact ⟨by omega, by omega⟩
  · rw [e]; exact ⟨by omega, by omega⟩
  · rw [e]; exact ⟨by omega, by omega⟩
  · rw [e]; exact ⟨by omega, by omega⟩
/-- cells that ACTS and reckonings change: frame -/
def MG (σ τ : Mem) : Prop := (∀ b, b ≠ 5000 → b ≠ 5004 → ¬ (5015 ≤ b ∧ b ≤ 5023) → τ b = σ b) ∧ ∀ k, k ≠ 0 → k ≠ 5 → (k < 8 ∨ 14 < k) → k ≠ 17 → k ≠ 46 → k ≠ 48 → k ≠ 49 → τ 5000 k = σ 5000 k
theorem MG_rf (σ : Mem) : MG σ σ := ⟨fun _ _ _ _ => rfl, fun _ _ _ _ _ _ _ _ => rfl⟩
theorem MG_tr {σ τ υ : Mem} (h : MG σ τ) (h' : MG τ υ) : MG σ υ := ⟨fun b h1 h2 h3 => by rw [h'.1 b h1 h2 h3]; exact h.1 b h1 h2 h3, fun k a1 a2 a3 a4 a5 a6 a7 => by rw [h'.2 k a1 a2 a3 a4 a5 a6 a7]; exact h.2 k a1 a2 a3 a4 a5 a6 a7⟩
theorem MG_mH {σ τ : Mem} (h : MG σ τ) (hm : mOk τ) (h48 : 0 ≤ τ 5000 48 ∧ τ 5000 48 ≤ 40) (hh : mH σ) : mH τ := by
  obtain ⟨h1, h2, h3, h4, h5, h6, h7, h8, h9⟩ := hh
  refine ⟨hm, lwIs_c (h.2 7 (by decide) (by decide) (by decide) (by decide) (by decide) (by decide) (by decide)) (h.2 38 (by decide) (by decide) (by decide) (by decide) (by decide) (by decide) (by decide)) h2, ?_⟩
  rw [h.2 29 (by decide) (by decide) (by decide) (by decide) (by decide) (by decide) (by decide), h.2 30 (by decide) (by decide) (by decide) (by decide) (by decide) (by decide) (by decide), h.2 28 (by decide) (by decide) (by decide) (by decide) (by decide) (by decide) (by decide), h.1 5007 (by decide) (by decide) (by decide), h.1 5011 (by decide) (by decide) (by decide), h.1 5005 (by decide) (by decide) (by decide)]
  exact ⟨h3, h4, h5, h6, h7, h8, h48⟩
theorem MG_29 {σ τ : Mem} (h : MG σ τ) : τ 5000 29 = σ 5000 29 ∧ τ 5000 30 = σ 5000 30 ∧ τ 5000 28 = σ 5000 28 ∧ τ 5000 39 = σ 5000 39 ∧ τ 5000 34 = σ 5000 34 :=
  ⟨h.2 29 (by decide) (by decide) (by decide) (by decide) (by decide) (by decide) (by decide), h.2 30 (by decide) (by decide) (by decide) (by decide) (by decide) (by decide) (by decide), h.2 28 (by decide) (by decide) (by decide) (by decide) (by decide) (by decide) (by decide), h.2 39 (by decide) (by decide) (by decide) (by decide) (by decide) (by decide) (by decide), h.2 34 (by decide) (by decide) (by decide) (by decide) (by decide) (by decide) (by decide)⟩
theorem PF_MG {σ τ : Mem} (h : PF σ τ) : MG σ τ := ⟨fun b h1 h2 h3 => h.1 b h1 h2 (by omega), fun k a1 a2 a3 a4 a5 a6 a7 => h.2 k a2 a3 a4 a5⟩
theorem MG_w {σ τ : Mem} (h : MG σ τ) {a : Int} (ha : isW a) (f : Int → Int) : MG σ (setv τ a f) := ⟨fun b h1 h2 h3 => by rw [setv_o _ _ (by omega)]; exact h.1 b h1 h2 h3, fun k a1 a2 a3 a4 a5 a6 a7 => by rw [setv_o _ _ (by omega)]; exact h.2 k a1 a2 a3 a4 a5 a6 a7⟩
theorem MG_up {σ τ : Mem} (h : MG σ τ) {a k v : Int} (ha : isW a) : MG σ (up τ a k v) := ⟨fun b h1 h2 h3 => by rw [up_na _ (by omega)]; exact h.1 b h1 h2 h3, fun j a1 a2 a3 a4 a5 a6 a7 => by rw [up_na _ (by omega)]; exact h.2 j a1 a2 a3 a4 a5 a6 a7⟩
theorem MG_k {σ τ : Mem} (h : MG σ τ) {k v : Int} (hk : k = 0 ∨ k = 46 ∨ k = 48 ∨ k = 49) : MG σ (up τ 5000 k v) := ⟨fun b h1 h2 h3 => by rw [up_na _ h1]; exact h.1 b h1 h2 h3, fun j a1 a2 a3 a4 a5 a6 a7 => by rw [up_nj _ (by omega)]; exact h.2 j a1 a2 a3 a4 a5 a6 a7⟩
theorem MG_th (σ : Mem) : MG σ (th0 σ) := MG_k (MG_rf σ) (Or.inl rfl)
theorem MG_rmb (σ : Mem) : MG σ (rmb σ) := ⟨fun b h1 h2 h3 => rmb_o σ h1 (by omega), fun k a1 a2 a3 a4 a5 a6 a7 => rmb_k σ a6⟩
theorem rmb_48 {σ : Mem} (h0 : 0 ≤ σ 5000 48) (h1 : σ 5000 48 ≤ 40) : 0 ≤ rmb σ 5000 48 ∧ rmb σ 5000 48 ≤ 40 := by
  unfold rmb rm1
  rw [up_s]
  split
  · rw [up_s]; omega
  · omega
theorem mOk_th {σ : Mem} (h : mOk σ) : mOk (th0 σ) := mOk_c (th_k σ (by decide)) (fun b hb => th_o σ (by omega)) h
theorem mOk_rmb {σ : Mem} (h : mOk σ) : mOk (rmb σ) := mOk_c (rmb_k σ (by decide)) (fun b hb => rmb_o σ (by omega) (by omega)) h
theorem mOk_sv {τ : Mem} (h : mOk τ) {a : Int} (ha : isW a) (f : Int → Int) : mOk (setv τ a f) := mOk_c (by rw [setv_o _ _ (by omega)]) (fun c hc => setv_o _ _ (by omega)) h
theorem mX_th {σ : Mem} {a : Int} (h : mX σ a) : mX (th0 σ) a := by
  obtain ⟨hw, hh, hr⟩ := h
  refine ⟨hw, MG_mH (MG_th σ) (mOk_th hh.1) (by rw [th_k σ (by decide)]; exact hh.2.2.2.2.2.2.2.2) hh, ?_⟩
  rw [th_k σ (by decide), th_k σ (by decide), th_o σ (by omega)]; exact hr
theorem mX_rmb {σ : Mem} {a : Int} (h : mX σ a) : mX (rmb σ) a := by
  obtain ⟨hw, hh, hr⟩ := h
  refine ⟨hw, MG_mH (MG_rmb σ) (mOk_rmb hh.1) (rmb_48 hh.2.2.2.2.2.2.2.2.1 hh.2.2.2.2.2.2.2.2.2) hh, ?_⟩
  rw [rmb_k σ (by decide), rmb_k σ (by decide), rmb_o σ (by omega) (by omega)]; exact hr
/-- rows behind ACTS -/
theorem mER_lt {n : Int} {r fl : Int → Int} {o A p : Int} (n6 : n ≤ 6) (h0 : 0 ≤ r 27) (h1 : r 27 ≤ 60) : (∀ j, j < 27 → mER r fl o n A p j = eR2 (cR r fl o n) j) ∧ mER r fl o n A p 27 = min 60 (r 27 + 1) := by
  have c27 : cR r fl o n 27 = r 27 := cR_ge _ _ _ (by omega)
  have q27 : eR2 (cR r fl o n) 27 = r 27 := by unfold eR2; rw [upf_n2 _ (by decide), upf_n2 _ (by decide)]; exact c27
  have e3 : ∀ j, j < 27 → eR3 (eR2 (cR r fl o n)) j = eR2 (cR r fl o n) j := fun j hj => by
    unfold eR3; split
    · rw [upf_n2 _ (by omega), sR_ge _ (by omega)]
    · rfl
  have l3 : eR3 (eR2 (cR r fl o n)) 27 = if r 27 = 60 then 59 else r 27 := by
    unfold eR3; rw [q27]; split
    · rw [upf_s2]
    · exact q27
  have l4 : 0 ≤ eR3 (eR2 (cR r fl o n)) 27 := by rw [l3]; split <;> omega
  refine ⟨fun j hj => ?_, ?_⟩
  · unfold mER eR4
    rw [upf_n2 _ (by omega), upf_n2 _ (by omega), upf_n2 _ (by omega), upf_n2 _ (by omega)]; exact e3 j hj
  · unfold mER eR4
    rw [upf_s2, l3]; split <;> omega
theorem mER_26 {n : Int} {r fl : Int → Int} {o A p : Int} (n6 : n ≤ 6) (h0 : 0 ≤ r 27) (h1 : r 27 ≤ 60) : mER r fl o n A p 26 = r 26 + 1 := by
  rw [(mER_lt n6 h0 h1).1 26 (by decide)]; unfold eR2; rw [upf_s2, cR_ge _ _ _ (by omega)]
theorem aR_ev {n s : Int} {r fl : Int → Int} {o A p : Int} (n0 : 0 ≤ n) (n6 : n ≤ 6) (h : aR n s r) (hf : ∀ c, 0 ≤ c → c < n → 0 ≤ fl c) (he : r 26 < 2000) : aR n s (mER r fl o n A p) := by
  obtain ⟨g1, g2, g3, g4, g5⟩ := h
  have c26 : cR r fl o n 26 = r 26 := cR_ge _ _ _ (by omega)
  have c25 : cR r fl o n 25 = r 25 := cR_ge _ _ _ (by omega)
  obtain ⟨e4, e27⟩ := mER_lt (n := n) (r := r) (fl := fl) (o := o) (A := A) (p := p) n6 g5.1 g5.2
  have e24 : ∀ j, j < 24 → mER r fl o n A p j = cR r fl o n j := fun j hj => by
    rw [e4 j (by omega)]; unfold eR2; rw [upf_n2 _ (by omega), upf_n2 _ (by omega)]
  refine ⟨fun c c0 c1 => ?_, ?_, ?_, ?_, ?_⟩
  · have hc := g1 c c0 c1
    have hfc := hf c c0 c1
    have a0 : cR r fl o n (4 * c) = if bt o c = 1 then max 0 (r (4 * c) - 1) else r (4 * c) := by
      unfold cR
      rw [if_neg (by omega)]
      by_cases d : bt o c = 1
      · rw [if_pos d, if_pos ⟨by omega, by omega, by omega, by rw [show 4 * c / 4 = c by omega]; exact d⟩]
      · rw [if_neg d, if_neg (fun q => d (by have := q.2.2.2; rw [show 4 * c / 4 = c by omega] at this; exact this))]
    have a1 : cR r fl o n (4 * c + 1) = r (4 * c + 1) := by unfold cR; rw [if_neg (by omega), if_neg (by omega)]
    have a2 : cR r fl o n (4 * c + 2) = r (4 * c + 2) := by unfold cR; rw [if_neg (by omega), if_neg (by omega)]
    have a3 : cR r fl o n (4 * c + 3) = min 9999 (r (4 * c + 3) + fl c) := by
      unfold cR; rw [if_pos ⟨by omega, by omega, by omega⟩, show (4 * c + 3) / 4 = c by omega]
    rw [e24 _ (by omega), e24 _ (by omega), e24 _ (by omega), e24 _ (by omega), a0, a1, a2, a3]
    refine ⟨by split <;> omega, hc.2.1, hc.2.2.1, by omega, by omega⟩
  · rw [e4 24 (by decide)]; unfold eR2; rw [upf_n2 _ (by decide), upf_s2]; omega
  · rw [e4 25 (by decide)]; unfold eR2; rw [upf_n2 _ (by decide), upf_n2 _ (by decide), c25]; exact g3
  · rw [e4 26 (by decide)]; unfold eR2; rw [upf_s2, c26]; omega
  · rw [e27]; omega
theorem aR_ch {n s : Int} {r : Int → Int} {c t : Int} (n6 : n ≤ 6) (h : aR n s r) (c0 : 0 ≤ c) (c1 : c < n) (t0 : 0 ≤ t) (t1 : t < s) (hp : r 25 ≤ r (4 * c + 2)) : aR n s (upf (upf r (4 * c + 1) t) (4 * c + 2) (r (4 * c + 2) - r 25)) := by
  obtain ⟨g1, g2, g3, g4, g5⟩ := h
  refine ⟨fun d d0 d1 => ?_, ?_, ?_, ?_, ?_⟩
  · have hd := g1 d d0 d1
    rw [upf_n2 _ (show 4 * d ≠ 4 * c + 2 by omega), upf_n2 _ (show 4 * d ≠ 4 * c + 1 by omega), upf_n2 _ (show 4 * d + 3 ≠ 4 * c + 2 by omega), upf_n2 _ (show 4 * d + 3 ≠ 4 * c + 1 by omega), upf_n2 _ (show 4 * d + 1 ≠ 4 * c + 2 by omega)]
    by_cases e : d = c
    · subst e
      rw [upf_s2, upf_s2]
      exact ⟨hd.1, ⟨t0, t1⟩, ⟨by omega, by omega⟩, hd.2.2.2⟩
    · rw [upf_n2 _ (show 4 * d + 1 ≠ 4 * c + 1 by omega), upf_n2 _ (show 4 * d + 2 ≠ 4 * c + 2 by omega), upf_n2 _ (show 4 * d + 2 ≠ 4 * c + 1 by omega)]
      exact hd
  · rw [upf_n2 _ (by omega), upf_n2 _ (by omega)]; exact g2
  · rw [upf_n2 _ (by omega), upf_n2 _ (by omega)]; exact g3
  · rw [upf_n2 _ (by omega), upf_n2 _ (by omega)]; exact g4
  · rw [upf_n2 _ (by omega), upf_n2 _ (by omega)]; exact g5
theorem aR_il {n s : Int} {r : Int → Int} (n6 : n ≤ 6) (h : aR n s r) {v : Int} (v0 : 0 ≤ v) (v1 : v < 64) : aR n s (upf r 24 v) := by
  obtain ⟨g1, g2, g3, g4, g5⟩ := h
  refine ⟨fun d d0 d1 => ?_, ?_, ?_, ?_, ?_⟩
  · rw [upf_n2 _ (by omega), upf_n2 _ (by omega), upf_n2 _ (by omega), upf_n2 _ (by omega)]; exact g1 d d0 d1
  · rw [upf_s2]; exact ⟨v0, v1⟩
  · rw [upf_n2 _ (by decide)]; exact g3
  · rw [upf_n2 _ (by decide)]; exact g4
  · rw [upf_n2 _ (by decide)]; exact g5
theorem bor_b0 : ∀ x : Nat, x < 64 → ∀ k : Nat, k < 6 → 0 ≤ amIor (x : Int) (amIshl 1 (k : Int)) ∧ amIor (x : Int) (amIshl 1 (k : Int)) < 64 := by decide +kernel
theorem bor_b {x k : Int} (h0 : 0 ≤ x) (h1 : x < 64) (k0 : 0 ≤ k) (k1 : k < 6) : 0 ≤ amIor x (amIshl 1 k) ∧ amIor x (amIshl 1 k) < 64 := by
  have := bor_b0 x.toNat (by omega) k.toNat (by omega)
  rw [show ((x.toNat : Nat) : Int) = x by omega, show ((k.toNat : Nat) : Int) = k by omega] at this
  exact this
/-- an EVENING of the audience a as a relation -/
def mEv (σ : Mem) (a p : Int) (τ : Mem) : Prop := ∃ υ, PF σ υ ∧ mOk υ ∧ τ = setv υ a (mER (σ a) (mFl σ a p (σ 5007 (4 * p + 3)).toNat) (mOu σ a p (σ 5007 (4 * p + 3)).toNat) (σ 5000 29) (sumC (mFl σ a p (σ 5007 (4 * p + 3)).toNat) (σ 5000 29).toNat) p)
/-- how much all are MOVED by it -/
def mEm (σ : Mem) (a p : Int) : Int := sumC (mFl σ a p (σ 5007 (4 * p + 3)).toNat) (σ 5000 29).toNat
theorem mEv_x {σ τ : Mem} {a p : Int} (h : mX σ a) (he : σ a 26 < 2000) (hv : mEv σ a p τ) : mX τ a ∧ MG σ τ ∧ τ 5000 48 = σ 5000 48 ∧ τ 5000 49 = σ 5000 49 ∧ τ a 26 = σ a 26 + 1 := by
  obtain ⟨υ, h1, h2, rfl⟩ := hv
  obtain ⟨hw, hh, hr⟩ := h
  have hG : MG σ (setv υ a (mER (σ a) (mFl σ a p (σ 5007 (4 * p + 3)).toNat) (mOu σ a p (σ 5007 (4 * p + 3)).toNat) (σ 5000 29) (sumC (mFl σ a p (σ 5007 (4 * p + 3)).toNat) (σ 5000 29).toNat) p)) := MG_w (PF_MG h1) hw _
  have n29 := hh.2.2.1
  have k48 : ∀ f, setv υ a f 5000 48 = σ 5000 48 := fun f => by rw [setv_o _ _ (by omega)]; exact h1.2 48 (by decide) (by decide) (by decide) (by decide)
  have k49 : ∀ f, setv υ a f 5000 49 = σ 5000 49 := fun f => by rw [setv_o _ _ (by omega)]; exact h1.2 49 (by decide) (by decide) (by decide) (by decide)
  have hR := aR_ev (fl := mFl σ a p (σ 5007 (4 * p + 3)).toNat) (o := mOu σ a p (σ 5007 (4 * p + 3)).toNat) (A := sumC (mFl σ a p (σ 5007 (4 * p + 3)).toNat) (σ 5000 29).toNat) (p := p) n29.1 n29.2 hr (fun c c0 c1 => by
    have := mFl_b (w := a) (p := p) (c := c.toNat) (σ := σ) (by omega) (σ 5007 (4 * p + 3)).toNat
    rw [show ((c.toNat : Nat) : Int) = c by omega] at this; exact this.1) he
  refine ⟨⟨hw, MG_mH hG (mOk_sv h2 hw _) (by rw [k48]; exact hh.2.2.2.2.2.2.2.2) hh, ?_⟩, hG, k48 _, k49 _, ?_⟩
  · rw [(MG_29 hG).1, (MG_29 hG).2.1, setv_e2]; exact hR
  · rw [setv_e2]
    exact mER_26 n29.2 hr.2.2.2.2.1 hr.2.2.2.2.2
