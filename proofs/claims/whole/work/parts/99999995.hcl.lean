/-! reading a HOUSE: the same from any old rows -/
theorem hIt_cg {t : Int → Int} {n kind row : Int} : ∀ (f : Nat) (told p : Int) (v v' : Int → Int), (hIt t n kind row f told p v').1 = (hIt t n kind row f told p v).1 ∧ (hIt t n kind row f told p v').2.1 = (hIt t n kind row f told p v).2.1 ∧ ∀ s, v' s = v s → (hIt t n kind row f told p v').2.2 s = (hIt t n kind row f told p v).2.2 s := by
  intro f
  induction f with
  | zero => intro told p v v'; unfold hIt; exact ⟨rfl, rfl, fun s h => h⟩
  | succ f ih =>
    intro told p v v'
    unfold hIt
    by_cases c1 : t (sk t n p) = -1 ∨ t (sk t n p) = 59
    · rw [if_pos c1, if_pos c1]; exact ⟨rfl, rfl, fun s h => h⟩
    · rw [if_neg c1, if_neg c1]
      by_cases c2 : itemF kind (t (sk t n p)) = -1 ∨ told / (2 ^ (itemF kind (t (sk t n p))).toNat) % 2 = 1
      · rw [if_pos c2, if_pos c2]; exact ⟨rfl, rfl, fun s h => h⟩
      · rw [if_neg c2, if_neg c2]
        by_cases c3 : ndig t (sk t n (sk t n p + 1)) 2 = 0 ∨ (48 ≤ t (sk t n (sk t n p + 1) + ndig t (sk t n (sk t n p + 1)) 2) ∧ t (sk t n (sk t n p + 1) + ndig t (sk t n (sk t n p + 1)) 2) ≤ 57)
        · rw [if_pos c3, if_pos c3]; exact ⟨rfl, rfl, fun s h => h⟩
        · rw [if_neg c3, if_neg c3]
          by_cases c4 : fitF kind (itemF kind (t (sk t n p))) (nval t (sk t n (sk t n p + 1)) 0 2)
          · rw [if_pos c4, if_pos c4]
            obtain ⟨a, b, d⟩ := ih (told + 2 ^ (itemF kind (t (sk t n p))).toNat) (sk t n (sk t n p + 1) + ndig t (sk t n (sk t n p + 1)) 2) (upf v (row * 4 + itemF kind (t (sk t n p))) (nval t (sk t n (sk t n p + 1)) 0 2)) (upf v' (row * 4 + itemF kind (t (sk t n p))) (nval t (sk t n (sk t n p + 1)) 0 2))
            exact ⟨a, b, fun s h => d s (by unfold upf; rw [h])⟩
          · rw [if_neg c4, if_neg c4]; exact ⟨rfl, rfl, fun s h => h⟩
/-- the rows told agree -/
def agR (c v v' : Int → Int) : Prop := (∀ s, 0 ≤ s → s < 4 → v' s = v s) ∧ ∀ k i, 1 ≤ k → k < 4 → 0 ≤ i → i < c k → ∀ w, 0 ≤ w → w < 4 → v' ((firstK k + i) * 4 + w) = v ((firstK k + i) * 4 + w)
theorem hTick_cg {v v' : Int → Int} {m : Int} : ∀ {n : Nat}, (∀ i : Int, 0 ≤ i → i < n → v' ((5 + i) * 4 + 1) = v ((5 + i) * 4 + 1)) → hTick v' m n = hTick v m n := by
  intro n
  induction n with
  | zero => intro _; rfl
  | succ n ih =>
    intro h
    unfold hTick
    rw [ih (fun i a b => h i a (by omega)), h n (by omega) (by omega)]
theorem hfin_cg {c v v' : Int → Int} {n : Int} (h : agR c v v') : hfin c v' n = hfin c v n := by
  have e : hWhole c v' = hWhole c v := by
    unfold hWhole
    rw [hTick_cg (fun i a b => h.2 2 i (by decide) (by decide) a (by omega) 1 (by decide) (by decide))]
  by_cases w : hWhole c v
  · rw [hfin_t w, hfin_t (by rw [e]; exact w)]
  · rw [hfin_f w, hfin_f (by rw [e]; exact w)]
theorem agR_f {c v v' : Int → Int} {k : Int} (k0 : 0 ≤ k) (k1 : k < 4) (ck0 : 0 ≤ c k) (ck : c k < mostK k) (h : agR c v v') : agR (upf c k (c k + 1)) (filv v k (c k)) (filv v' k (c k)) := by
  refine ⟨fun s s0 s1 => ?_, fun k' i a1 a2 i0 i1 w w0 w1 => ?_⟩
  · unfold filv
    split
    · rfl
    · exact h.1 s s0 s1
  · unfold filv
    split
    · rfl
    · rename_i z
      refine h.2 k' i a1 a2 i0 ?_ w w0 w1
      unfold upf at i1
      split at i1
      · rename_i e
        subst e
        by_cases q : i = c k'
        · exact absurd ⟨by omega, by omega, ck0, ck, by rw [q]; omega, by rw [q]; omega⟩ z
        · omega
      · exact i1
theorem hCls_cg {t : Int → Int} {n : Int} : ∀ (f : Nat) (p : Int) (c v v' : Int → Int), (∀ k, 0 ≤ k → k < 4 → 0 ≤ c k) → agR c v v' → (hCls t n f p c v').1 = (hCls t n f p c v).1 ∧ (hCls t n f p c v').2.1 = (hCls t n f p c v).2.1 ∧ (hCls t n f p c v').2.2.1 = (hCls t n f p c v).2.2.1 ∧ ((hCls t n f p c v).1 = -1 → agR (hCls t n f p c v).2.2.1 (hCls t n f p c v).2.2.2 (hCls t n f p c v').2.2.2) := by
  intro f
  induction f with
  | zero => intro p c v v' hc h; unfold hCls; exact ⟨rfl, rfl, rfl, fun _ => h⟩
  | succ f ih =>
    intro p c v v' hc h
    unfold hCls
    by_cases m : 0 ≤ hK t n p ∧ c (hK t n p) < mostK (hK t n p)
    · rw [if_pos m, if_pos m]
      have kb : hK t n p < 4 := (kindF_b (t (sk t n p))).2
      have ck0 := hc _ m.1 kb
      have hf := agR_f m.1 kb ck0 m.2 h
      obtain ⟨e1, e2, e3⟩ := hIt_cg (t := t) (n := n) (kind := hK t n p) (row := firstK (hK t n p) + c (hK t n p)) 5 0 (sk t n p + 1) (filv v (hK t n p) (c (hK t n p))) (filv v' (hK t n p) (c (hK t n p)))
      have q1 : (hR t n p c v').1 = (hR t n p c v).1 := e1
      have q2 : (hR t n p c v').2.1 = (hR t n p c v).2.1 := e2
      have q3 : agR (upf c (hK t n p) (c (hK t n p) + 1)) (hR t n p c v).2.2 (hR t n p c v').2.2 := ⟨fun s s0 s1 => e3 s (hf.1 s s0 s1), fun k i a1 a2 i0 i1 w w0 w1 => e3 _ (hf.2 k i a1 a2 i0 i1 w w0 w1)⟩
      rw [q1, q2]
      by_cases m2 : (hR t n p c v).1 ≠ -1
      · rw [if_pos m2, if_pos m2]; exact ⟨rfl, rfl, rfl, fun z => absurd z m2⟩
      · rw [if_neg m2, if_neg m2]
        by_cases m3 : t (sk t n (hR t n p c v).2.1) = -1
        · rw [if_pos m3, if_pos m3]; exact ⟨hfin_cg q3, rfl, rfl, fun _ => q3⟩
        · rw [if_neg m3, if_neg m3]
          exact ih _ _ _ _ (fun k a b => by
            unfold upf; split
            · omega
            · exact hc k a b) q3
    · rw [if_neg m, if_neg m]; exact ⟨rfl, rfl, rfl, fun _ => h⟩
