/-! BORNE: rows of PLAYS tried one by one against the best of each EVENING -/
abbrev bMV (m : Mem) (i e p : Int) : Int := rMv m p (bnR m i e)
abbrev bOB (m : Mem) (i e p : Int) : Int := mOu (setv m 5016 (bnR m i e)) 5016 p (mMi m p)
/-- the best PLAY of each of k EVENINGS: the row and how much all are moved -/
def grd (mv ob : Int → Int → Int → Int) (P : Nat) : Nat → Int → Int → Option (Int × Int)
  | 0, _, _ => some (0, 0)
  | k + 1, i, e => if (bbR (mv i e) (ob i e) P).1 = -1 then none else match grd mv ob P k 0 (e + 1) with
    | none => none
    | some x => some ((bbR (mv i e) (ob i e) P).1 * 10 ^ k + x.1, (bbR (mv i e) (ob i e) P).2 + x.2)
theorem grd_n {mv ob : Int → Int → Int → Int} {P k : Nat} {i e : Int} (h : (bbR (mv i e) (ob i e) P).1 = -1) : grd mv ob P (k + 1) i e = none := by
  show (if (bbR (mv i e) (ob i e) P).1 = -1 then none else _) = none
  rw [if_pos h]
theorem grd_m {mv ob : Int → Int → Int → Int} {P k : Nat} {i e : Int} (h : grd mv ob P k 0 (e + 1) = none) : grd mv ob P (k + 1) i e = none := by
  unfold grd
  rw [h]
  split <;> rfl
theorem grd_y {mv ob : Int → Int → Int → Int} {P k : Nat} {i e : Int} {x : Int × Int} (h : (bbR (mv i e) (ob i e) P).1 ≠ -1) (hx : grd mv ob P k 0 (e + 1) = some x) : grd mv ob P (k + 1) i e = some ((bbR (mv i e) (ob i e) P).1 * 10 ^ k + x.1, (bbR (mv i e) (ob i e) P).2 + x.2) := by
  unfold grd
  rw [hx, if_neg h]
def grA (w u : Int) (k : Nat) (s : Int × Int) (o : Option (Int × Int)) : Int × Int := match o with
  | none => s
  | some x => if u + x.2 ≤ s.2 then s else (w * 10 ^ k + x.1, u + x.2)
theorem grA_s (w u : Int) (k : Nat) (s x : Int × Int) : grA w u k s (some x) = if u + x.2 ≤ s.2 then s else (w * 10 ^ k + x.1, u + x.2) := rfl
theorem bbR_s (mv ob : Int → Int) (t : Nat) : bbR mv ob (t + 1) = if ob t = 0 ∧ (bbR mv ob t).2 < mv t then ((t : Int), mv t) else bbR mv ob t := rfl
theorem bbR_n {mv ob : Int → Int} : ∀ t : Nat, (∀ p : Int, 0 ≤ p → p < t → 0 ≤ mv p) → ((bbR mv ob t).1 = -1 ∧ (bbR mv ob t).2 = -1) ∨ (0 ≤ (bbR mv ob t).1 ∧ (bbR mv ob t).1 < t ∧ ob (bbR mv ob t).1 = 0 ∧ (bbR mv ob t).2 = mv (bbR mv ob t).1 ∧ 0 ≤ (bbR mv ob t).2) := by
  intro t
  induction t with
  | zero => intro _; exact Or.inl ⟨rfl, rfl⟩
  | succ t ih =>
    intro h
    have i9 := ih (fun p a b => h p a (by omega))
    have v0 := h t (by omega) (by omega)
    rw [bbR_s]
    by_cases c : ob t = 0 ∧ (bbR mv ob t).2 < mv t
    · rw [if_pos c]
      exact Or.inr ⟨by show (0 : Int) ≤ t; omega, by show (t : Int) < ((t + 1 : Nat) : Int); omega, c.1, rfl, v0⟩
    · rw [if_neg c]
      rcases i9 with i9 | i9
      · exact Or.inl i9
      · exact Or.inr ⟨i9.1, by omega, i9.2.2⟩
theorem bbR_cong {mv ob mv' ob' : Int → Int} : ∀ t : Nat, (∀ p : Int, 0 ≤ p → p < t → mv p = mv' p ∧ ob p = ob' p) → bbR mv ob t = bbR mv' ob' t := by
  intro t
  induction t with
  | zero => intro _; rfl
  | succ t ih =>
    intro h
    rw [bbR_s, bbR_s, ih (fun p a b => h p a (by omega)), (h t (by omega) (by omega)).1, (h t (by omega) (by omega)).2]
theorem bnF_s (m : Mem) (k : Nat) (i e u w : Int) (s : Int × Int) : bnF m (k + 1) i e u w s = mstI (fun p s => if bOB m i e p = 0 then bnF m k 0 (e + 1) (u + bMV m i e p) (10 * w + p) s else s) (m 5000 28).toNat s := rfl
theorem bnF_gr {m : Mem} (hx : mX m 5015) : ∀ (k : Nat) (i e u w : Int) (s : Int × Int), bnF m k i e u w s = grA w u k s (grd (bMV m) (bOB m) (m 5000 28).toNat k i e) := by
  have n28 := hx.2.1.2.2.2.2.1
  intro k
  induction k with
  | zero =>
    intro i e u w s
    show (if u ≤ s.2 then s else (w, u)) = if u + 0 ≤ s.2 then s else (w * 10 ^ 0 + 0, u + 0)
    simp
  | succ k ih =>
    intro i e u w s
    have mv0 : ∀ p : Int, 0 ≤ p → p < m 5000 28 → 0 ≤ bMV m i e p := fun p a b => (rMv_b hx ⟨a, by omega⟩).1
    have fe : (fun (p : Int) (s : Int × Int) => if bOB m i e p = 0 then bnF m k 0 (e + 1) (u + bMV m i e p) (10 * w + p) s else s) = fun p s => if bOB m i e p = 0 then grA (10 * w + p) (u + bMV m i e p) k s (grd (bMV m) (bOB m) (m 5000 28).toNat k 0 (e + 1)) else s := by
      funext p s
      rw [ih]
    rw [bnF_s, fe]
    cases hg : grd (bMV m) (bOB m) (m 5000 28).toNat k 0 (e + 1) with
    | none =>
      have idl : ∀ t : Nat, mstI (fun p s => if bOB m i e p = 0 then grA (10 * w + p) (u + bMV m i e p) k s none else s) t s = s := by
        intro t
        induction t with
        | zero => rfl
        | succ t iht => rw [mstI_s, iht]; split <;> rfl
      rw [idl, grd_m hg]
      rfl
    | some x =>
      have lp : ∀ t : Nat, (t : Int) ≤ m 5000 28 → mstI (fun p s => if bOB m i e p = 0 then grA (10 * w + p) (u + bMV m i e p) k s (some x) else s) t s = if (bbR (bMV m i e) (bOB m i e) t).1 = -1 then s else grA (10 * w + (bbR (bMV m i e) (bOB m i e) t).1) (u + (bbR (bMV m i e) (bOB m i e) t).2) k s (some x) := by
        intro t
        induction t with
        | zero => intro _; exact (if_pos rfl).symm
        | succ t iht =>
          intro ht
          have b := bbR_n (mv := bMV m i e) (ob := bOB m i e) t (fun p a c => mv0 p a (by omega))
          have v0 := mv0 t (by omega) (by omega)
          rw [mstI_s, iht (by omega), bbR_s]
          generalize hb : bbR (bMV m i e) (bOB m i e) t = B at *
          generalize hv : bMV m i e t = V at *
          by_cases o : bOB m i e t = 0
          · rw [if_pos o]
            by_cases l : B.2 < V
            · have eb : (if bOB m i e t = 0 ∧ B.2 < V then ((t : Int), V) else B) = ((t : Int), V) := if_pos ⟨o, l⟩
              rw [eb, if_neg (show ¬ ((t : Int), V).1 = -1 by show ¬ (t : Int) = -1; omega)]
              by_cases z : B.1 = -1
              · rw [if_pos z]
              · rw [if_neg z, grA_s, grA_s, grA_s]
                show (if u + V + x.2 ≤ (if u + B.2 + x.2 ≤ s.2 then s else ((10 * w + B.1) * 10 ^ k + x.1, u + B.2 + x.2)).2 then (if u + B.2 + x.2 ≤ s.2 then s else ((10 * w + B.1) * 10 ^ k + x.1, u + B.2 + x.2)) else ((10 * w + (t : Int)) * 10 ^ k + x.1, u + V + x.2)) = (if u + V + x.2 ≤ s.2 then s else ((10 * w + (t : Int)) * 10 ^ k + x.1, u + V + x.2))
                by_cases y : u + B.2 + x.2 ≤ s.2
                · rw [if_pos y]
                · rw [if_neg y, if_neg (show ¬ u + V + x.2 ≤ u + B.2 + x.2 by omega), if_neg (by omega)]
            · have eb : (if bOB m i e t = 0 ∧ B.2 < V then ((t : Int), V) else B) = B := if_neg (fun q => l q.2)
              rw [eb]
              have z : B.1 ≠ -1 := by omega
              rw [if_neg z, grA_s, grA_s]
              by_cases y : u + B.2 + x.2 ≤ s.2
              · rw [if_pos y, if_pos (by omega)]
              · rw [if_neg y, if_pos (show u + V + x.2 ≤ u + B.2 + x.2 by omega)]
          · have eb : (if bOB m i e t = 0 ∧ B.2 < V then ((t : Int), V) else B) = B := if_neg (fun q => o q.1)
            rw [if_neg o, eb]
      rw [lp _ (by omega)]
      by_cases z : (bbR (bMV m i e) (bOB m i e) (m 5000 28).toNat).1 = -1
      · rw [if_pos z, grd_n z]; rfl
      · rw [if_neg z, grd_y z hg, grA_s, grA_s]
        generalize bbR (bMV m i e) (bOB m i e) (m 5000 28).toNat = B
        show (if u + B.2 + x.2 ≤ s.2 then s else ((10 * w + B.1) * 10 ^ k + x.1, u + B.2 + x.2)) = if u + (B.2 + x.2) ≤ s.2 then s else (w * 10 ^ (k + 1) + (B.1 * 10 ^ k + x.1), u + (B.2 + x.2))
        have e1 : (10 * w + B.1) * 10 ^ k + x.1 = w * 10 ^ (k + 1) + (B.1 * 10 ^ k + x.1) := by
          rw [Int.pow_succ]
          generalize (10 : Int) ^ k = P
          have a1 : (10 * w + B.1) * P = 10 * (w * P) + B.1 * P := by rw [Int.add_mul, Int.mul_assoc]
          have a2 : w * (P * 10) = 10 * (w * P) := by rw [← Int.mul_assoc, Int.mul_comm]
          omega
        rw [e1, Int.add_assoc u]
theorem SA_rkV {σ τ : Mem} (h : SA σ τ) (hl : lawOk σ) (a b c d e f : Int) : rkV τ a b c d e f = rkV σ a b c d e f := by
  have hS : SP σ τ 16 := ⟨SA_r h (by omega), SA_r h (by omega), SA_r h (by omega), SA_r h (by omega), SA_r h (by omega), h.2, fun hw => h.1 _ (by unfold isLw at hw; omega) (by unfold isLw at hw; omega) (by unfold isLw at hw; omega) (by unfold isLw at hw; omega) (by unfold isLw at hw; omega) (by unfold isLw at hw; omega) (by unfold isLw at hw; omega) (by unfold isLw at hw; omega)⟩
  exact SP_rkV hS hl a b c d e f
theorem eqH_c {σ τ m : Mem} (h1 : ∀ k, pcnt τ 6 k = pcnt σ 6 k) (h2 : ∀ x y z, pval τ 6 x y z = pval σ 6 x y z) (h3 : ∀ a b c d e f, rkV τ a b c d e f = rkV σ a b c d e f) (h : eqH σ m) : eqH τ m := by
  obtain ⟨a1, a2, a3, a4, a5, a6, a7⟩ := h
  exact ⟨by rw [h1]; exact a1, by rw [h1]; exact a2, by rw [h1]; exact a3, by rw [h2]; exact a4, fun p k p0 p1 k0 k1 => by rw [h2]; exact a5 p k p0 p1 k0 k1, fun t t0 t1 => by rw [h2]; exact a6 t t0 t1, fun f g d n k e hd hn => by rw [h3]; exact a7 f g d n k e hd hn⟩
theorem eqH_m {σ m m' : Mem} (h5 : ∀ k, k = 28 ∨ k = 29 ∨ k = 30 ∨ k = 38 → m' 5000 k = m 5000 k) (h0 : ∀ b, b = 5002 ∨ b = 5003 ∨ b = 5005 ∨ b = 5007 ∨ b = 5011 → m' b = m b) (h : eqH σ m) : eqH σ m' := by
  obtain ⟨a1, a2, a3, a4, a5, a6, a7⟩ := h
  unfold eqH
  rw [h5 28 (by decide), h5 29 (by decide), h5 30 (by decide), h0 5005 (by decide), h0 5007 (by decide), h0 5011 (by decide)]
  refine ⟨a1, a2, a3, a4, a5, a6, fun f g d n k e hd hn => ?_⟩
  rw [a7 f g d n k e hd hn]
  unfold mRk
  rw [mwo_c (h0 5002 (by decide)) (h0 5003 (by decide)), h5 38 (by decide)]
theorem eqH_SA {σ τ m : Mem} (h : SA σ τ) (hl : lawOk σ) (hH : eqH σ m) : eqH τ m := eqH_c (SA_pcnt h) (SA_pval h) (SA_rkV h hl) hH
theorem mX_sv {m : Mem} (hx : mX m 5015) {r : Int → Int} (hr : aR (m 5000 29) (m 5000 30) r) : mX (setv m 5016 r) 5016 := by
  have hQ : QF m (setv m 5016 r) := ⟨fun b h1 h2 h3 h4 => setv_o _ _ (by omega), fun k _ _ _ _ _ _ _ => by rw [setv_o _ _ (by decide)]⟩
  exact QF_mX hQ (mOk_sv hx.2.1.1 (Or.inr rfl) r) hx hr (fun j _ _ => by rw [setv_s])
/-- who is ILL before EVENING k -/
def illA (i : Int) (k : Nat) : Int := if k = 0 then i else 0
theorem SF_SA {σ τ : Mem} (h : SF σ τ) : SA σ τ := SW_SA (SF_SW h)
theorem shP_SA {σ τ : Mem} {p : Int} (h : shP σ τ 21 p) : SA σ τ := ⟨fun b h0 h1 h2 h3 h4 h5 h6 h7 => h.1 b (by omega) (by omega) (by omega) (by omega) (by omega) (by omega) (by omega) (by omega) h4 h5 h6 h7, h.2.1⟩
/-- the audience apart is the reference's row with i and e -/
def eqB (τ m : Mem) (i e : Int) : Prop := (∀ c, 0 ≤ c → c < m 5000 29 → τ 22 c = m 5015 (4 * c) ∧ τ 23 c = m 5015 (4 * c + 1)) ∧ τ 21 4 = i ∧ τ 21 6 = e
theorem eqB_A {τ m : Mem} {i e : Int} (n6 : m 5000 29 ≤ 6) (h : eqB τ m i e) : eqA τ (setv m 5016 (bnR m i e)) 21 5016 := by
  have so5 : setv m 5016 (bnR m i e) 5000 = m 5000 := setv_o _ _ (by decide)
  unfold eqA
  rw [so5, setv_s]
  refine ⟨fun c c0 c1 => ?_, ?_, ?_⟩
  · unfold bnR
    rw [upf_n2 _ (by omega), upf_n2 _ (by omega), upf_n2 _ (by omega), upf_n2 _ (by omega)]
    exact h.1 c c0 c1
  · unfold bnR; rw [upf_n2 _ (by decide), upf_s2]; exact h.2.1
  · unfold bnR; rw [upf_s2]; exact h.2.2
theorem eqB_bb {τ m : Mem} {i e : Int} (hx : mX m 5015) (hH : eqH τ m) (h : eqB τ m i e) (i0 : 0 ≤ i) (i1 : i < 64) (e0 : 0 ≤ e) (e1 : e ≤ 2000) {p : Int} (p0 : 0 ≤ p) (p1 : p < m 5000 28) : bMv τ p = bMV m i e p ∧ bOb τ p = bOB m i e p := by
  have n29 := hx.2.1.2.2.1
  have so : ∀ b, b ≠ 5016 → setv m 5016 (bnR m i e) b = m b := fun b hb => setv_o _ _ hb
  have hA := eqB_A n29.2 h
  have hH' : eqH τ (setv m 5016 (bnR m i e)) := eqH_m (fun k _ => by rw [so 5000 (by decide)]) (fun b hb => so b (by omega)) hH
  have hx' := mX_sv hx (aR_bn n29.2 hx.2.2 i0 i1 e0 e1)
  have p1' : p < setv m 5016 (bnR m i e) 5000 28 := by rw [so 5000 (by decide)]; exact p1
  have s1 := play_sum hH' hA hx' p0 p1'
  have s2 := play_out hH' hA hx' p0 p1'
  unfold mMi at s1 s2
  rw [so 5007 (by decide)] at s1 s2
  rw [so 5000 (by decide)] at s1
  exact ⟨s1, s2⟩
theorem bn_fwd {σ m : Mem} (hH : eqH σ m) (hA : eqA σ m 16 5015) (hx : mX m 5015) (hl : lawOk σ) (he : m 5015 26 ≤ 1000) : ∀ (k : Nat) (r q : Int) (τ : Mem), k ≤ 4 → bnX k σ r q τ → SA σ τ ∧ eqB τ m (illA (m 5015 24) k) (m 5015 26 + k) ∧ 0 ≤ q ∧ ∀ K : Nat, grd (bMV m) (bOB m) (m 5000 28).toNat (k + K) (m 5015 24) (m 5015 26) = match grd (bMV m) (bOB m) (m 5000 28).toNat K (illA (m 5015 24) k) (m 5015 26 + k) with
      | none => none
      | some x => some (r * 10 ^ K + x.1, q + x.2) := by
  have n29 := hx.2.1.2.2.1
  have n28 := hx.2.1.2.2.2.2.1
  have r24 := hx.2.2.2.1
  have r26 := hx.2.2.2.2.2.1
  intro k
  induction k with
  | zero =>
    rintro r q τ _ ⟨rfl, rfl, rfl⟩
    have ha := apM_r σ
    refine ⟨SA_set _ _, ⟨fun c c0 c1 => ?_, ?_, ?_⟩, Int.le_refl _, fun K => ?_⟩
    · have h1 := ha.1 c c0 (by omega)
      rw [h1.1, h1.2.1]; exact hA.1 c c0 c1
    · rw [ha.2.1]; exact hA.2.1
    · rw [ha.2.2.2]
      have := hA.2.2
      show σ 16 6 = m 5015 26 + ((0 : Nat) : Int)
      omega
    · rw [Nat.zero_add]
      show _ = match grd (bMV m) (bOB m) (m 5000 28).toNat K (m 5015 24) (m 5015 26 + ((0 : Nat) : Int)) with
        | none => none
        | some x => some (0 * 10 ^ K + x.1, 0 + x.2)
      rw [show m 5015 26 + ((0 : Nat) : Int) = m 5015 26 by omega]
      cases grd (bMV m) (bOB m) (m 5000 28).toNat K (m 5015 24) (m 5015 26) with
      | none => rfl
      | some x => simp
  | succ k ih =>
    rintro r q τ hk ⟨υ, r0, q0, β, h1, h2, h3, h4, rfl, rfl⟩
    obtain ⟨g1, g2, g3, g4⟩ := ih r0 q0 υ (by omega) h1
    have hHu := eqH_SA g1 hl hH
    have ib : 0 ≤ illA (m 5015 24) k ∧ illA (m 5015 24) k < 64 := by unfold illA; split <;> omega
    have bb := fun (p : Int) (p0 : 0 ≤ p) (p1 : p < m 5000 28) => eqB_bb hx hHu g2 ib.1 ib.2 (by omega) (by omega) p0 p1
    have ebb : bbR (bMv υ) (bOb υ) (pcnt υ 6 1).toNat = bbR (bMV m (illA (m 5015 24) k) (m 5015 26 + k)) (bOB m (illA (m 5015 24) k) (m 5015 26 + k)) (m 5000 28).toNat := by
      rw [hHu.2.1]
      exact bbR_cong _ (fun p a b => bb p a (by omega))
    have bn := bbR_n (mv := bMv υ) (ob := bOb υ) (pcnt υ 6 1).toNat (fun p a b => by
      rw [hHu.2.1] at b
      rw [(bb p a (by omega)).1]
      exact (rMv_b hx ⟨a, by omega⟩).1)
    have h3' : (bbR (bMv υ) (bOb υ) (pcnt υ 6 1).toNat).1 ≠ -1 := h3
    rcases bn with bn | ⟨b0, b1, b2, b3, b4⟩
    · exact absurd bn.1 h3'
    rw [hHu.2.1] at b1
    have hlu : lawOk υ := SA_lawOk g1 hl
    have pe : ∀ i, pFl β 21 (bst υ) i = pFl υ 21 (bst υ) i ∧ pOa β 21 (bst υ) i = pOa υ 21 (bst υ) i := fun i => by
      have e1 := SF_a h2 (a := 21) (Or.inr rfl)
      have gm : gmv β 21 = gmv υ 21 := by
        funext t p i n k
        unfold gmv
        rw [e1.1, e1.2.1, SF_pval h2, SF_pval h2, SF_rkV h2 hlu]
      unfold pFl pOa
      rw [gm, e1.2.2.1, SF_pval h2, SF_pval h2, SF_pcnt h2]
      exact ⟨rfl, rfl⟩
    have qe : sumC (pFl β 21 (bst υ)) (pcnt β 6 2).toNat = (bbR (bMv υ) (bOb υ) (pcnt υ 6 1).toNat).2 := by
      rw [b3, SF_pcnt h2]
      exact sumC_cong (fun i _ _ => (pe i).1)
    have hSA : SA σ τ := SA_tr g1 (SA_tr (SF_SA h2) (shP_SA h4))
    have c2 : pcnt υ 6 2 = m 5000 29 := hHu.1
    refine ⟨hSA, ⟨fun c c0 c1 => ?_, ?_, ?_⟩, by rw [qe]; omega, fun K => ?_⟩
    · have e1 := SF_a h2 (a := 21) (Or.inr rfl)
      have oa : pOa β 21 (bst υ) c = -1 := by
        rw [(pe c).2]
        have b2' : outB (pOa υ 21 (bst υ)) (pcnt υ 6 2).toNat = 0 := b2
        have gbt := gb_bit (fun i => decide (pOa υ 21 (bst υ) i ≠ -1)) c0 (by omega) (pcnt υ 6 2).toNat (by omega)
        rw [show gb (fun i => decide (pOa υ 21 (bst υ) i ≠ -1)) (pcnt υ 6 2).toNat = 0 from b2', bt_0] at gbt
        refine Classical.byContradiction (fun y => ?_)
        rw [if_pos ⟨by omega, decide_eq_true y⟩] at gbt
        omega
      have t22 := h4.2.2.2.1 c
      rw [if_neg (fun y => y.2.2 oa)] at t22
      have t23 : τ 23 = β 23 := h4.1 23 (by decide) (by decide) (by decide) (by decide) (by decide) (by decide) (by decide) (by decide) (by decide) (by decide) (by decide) (by decide)
      have e22 : β 22 = υ 22 := e1.2.1
      have e23 : β 23 = υ 23 := e1.2.2.1
      have t22' : τ 22 c = β 22 c := t22
      rw [t22', t23, e22, e23]
      exact g2.1 c c0 c1
    · have := h4.2.2.1 4
      rw [if_pos rfl] at this
      rw [this]; rfl
    · have := h4.2.2.1 6
      rw [if_neg (by decide), if_pos rfl] at this
      have e1 := SF_a h2 (a := 21) (Or.inr rfl)
      rw [this, e1.1, g2.2.2]
      omega
    · have g9 := g4 (K + 1)
      rw [show k + (K + 1) = k + 1 + K by omega] at g9
      have ez : illA (m 5015 24) (k + 1) = 0 := rfl
      rw [g9, ez, show m 5015 26 + ((k + 1 : Nat) : Int) = m 5015 26 + k + 1 by omega]
      cases hg : grd (bMV m) (bOB m) (m 5000 28).toNat K 0 (m 5015 26 + k + 1) with
      | none => rw [grd_m hg]
      | some x =>
        rw [ebb] at h3'
        rw [grd_y h3' hg, qe]
        have ebs : bst υ = (bbR (bMV m (illA (m 5015 24) k) (m 5015 26 + k)) (bOB m (illA (m 5015 24) k) (m 5015 26 + k)) (m 5000 28).toNat).1 := by
          show (bbR (bMv υ) (bOb υ) (pcnt υ 6 1).toNat).1 = _
          rw [ebb]
        rw [ebs, ebb]
        generalize bbR (bMV m (illA (m 5015 24) k) (m 5015 26 + k)) (bOB m (illA (m 5015 24) k) (m 5015 26 + k)) (m 5000 28).toNat = Y
        show some (r0 * 10 ^ (K + 1) + (Y.1 * 10 ^ K + x.1), q0 + (Y.2 + x.2)) = some ((10 * r0 + Y.1) * 10 ^ K + x.1, q0 + Y.2 + x.2)
        have a1 : (10 * r0 + Y.1) * 10 ^ K + x.1 = r0 * 10 ^ (K + 1) + (Y.1 * 10 ^ K + x.1) := by
          rw [Int.pow_succ]
          generalize (10 : Int) ^ K = P
          have a1 : (10 * r0 + Y.1) * P = 10 * (r0 * P) + Y.1 * P := by rw [Int.add_mul, Int.mul_assoc]
          have a2 : r0 * (P * 10) = 10 * (r0 * P) := by rw [← Int.mul_assoc, Int.mul_comm]
          omega
        rw [a1, Int.add_assoc q0]
/-- BORNE, when a PLAY is found for each EVENING -/
theorem borne_y {σ m : Mem} (hH : eqH σ m) (hA : eqA σ m 16 5015) (hx : mX m 5015) (hl : lawOk σ) (he : m 5015 26 ≤ 1000) {N : Nat} (N4 : N ≤ 4) {r q : Int} {τ : Mem} (h : bnX N σ r q τ) : bnF m N (m 5015 24) (m 5015 26) 0 0 (-1, -1) = (r, q) := by
  obtain ⟨g1, g2, g3, g4⟩ := bn_fwd hH hA hx hl he N r q τ N4 h
  have g5 := g4 0
  rw [Nat.add_zero] at g5
  have : grd (bMV m) (bOB m) (m 5000 28).toNat N (m 5015 24) (m 5015 26) = some (r, q) := by
    rw [g5]
    show some (r * 10 ^ 0 + 0, q + 0) = some (r, q)
    simp
  rw [bnF_gr hx, this, grA_s, if_neg (show ¬ (0 : Int) + q ≤ -1 by omega)]
  simp
/-- BORNE, when none is found for some EVENING -/
theorem borne_n {σ m : Mem} (hH : eqH σ m) (hA : eqA σ m 16 5015) (hx : mX m 5015) (hl : lawOk σ) (he : m 5015 26 ≤ 1000) {N k : Nat} (N4 : N ≤ 4) (hk : k < N) {r q : Int} {υ : Mem} (h : bnX k σ r q υ) (hb : bst υ = -1) : bnF m N (m 5015 24) (m 5015 26) 0 0 (-1, -1) = (-1, -1) := by
  obtain ⟨g1, g2, g3, g4⟩ := bn_fwd hH hA hx hl he k r q υ (by omega) h
  have n28 := hx.2.1.2.2.2.2.1
  have r24 := hx.2.2.2.1
  have r26 := hx.2.2.2.2.2.1
  have hHu := eqH_SA g1 hl hH
  have ib : 0 ≤ illA (m 5015 24) k ∧ illA (m 5015 24) k < 64 := by unfold illA; split <;> omega
  have ebb : bbR (bMv υ) (bOb υ) (pcnt υ 6 1).toNat = bbR (bMV m (illA (m 5015 24) k) (m 5015 26 + k)) (bOB m (illA (m 5015 24) k) (m 5015 26 + k)) (m 5000 28).toNat := by
    rw [hHu.2.1]
    exact bbR_cong _ (fun p a b => eqB_bb hx hHu g2 ib.1 ib.2 (by omega) (by omega) a (by omega))
  have hb' : (bbR (bMv υ) (bOb υ) (pcnt υ 6 1).toNat).1 = -1 := hb
  rw [ebb] at hb'
  have g5 := g4 (N - k - 1 + 1)
  rw [show k + (N - k - 1 + 1) = N by omega, grd_n hb'] at g5
  rw [bnF_gr hx, g5]
  rfl
