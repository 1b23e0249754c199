/-! the reference reads the items of a clause -/
/-- which place of the class's row of 68 a place of the reference's rows is; -1: none -/
def slo (b j : Int) : Int := if b = 5006 ∧ 0 ≤ j ∧ j < 2 then j else if b = 5008 ∧ 0 ≤ j ∧ j < 16 then 4 + j else if b = 5010 ∧ 0 ≤ j ∧ j < 18 then (5 + j / 3) * 4 + j % 3 else if b = 5012 ∧ 0 ≤ j ∧ j < 6 then (11 + j) * 4 else -1
theorem slo_o {b : Int} (h1 : b ≠ 5006) (h2 : b ≠ 5008) (h3 : b ≠ 5010) (h4 : b ≠ 5012) (j : Int) : slo b j = -1 := by
  unfold slo; rw [if_neg (fun q => h1 q.1), if_neg (fun q => h2 q.1), if_neg (fun q => h3 q.1), if_neg (fun q => h4 q.1)]
theorem slo_5 (j : Int) : slo 5000 j = -1 := slo_o (by decide) (by decide) (by decide) (by decide) j
/-- while a HOUSE is read: place, fault, counts, numbers -/
def hoN (m : Mem) (p f : Int) (c v : Int → Int) : Mem := fun b j => if 0 ≤ slo b j then v (slo b j) else if b = 5000 ∧ 31 ≤ j ∧ j ≤ 33 then c (j - 30) else if b = 5000 ∧ j = 35 then c 0 else rdM m p f (m 5000 12) b j
theorem ho_k (m : Mem) (p f : Int) (c v : Int → Int) {k : Int} (h : (k < 31 ∨ 33 < k) ∧ k ≠ 35) : hoN m p f c v 5000 k = rdM m p f (m 5000 12) 5000 k := by
  unfold hoN; rw [slo_5, if_neg (by decide), if_neg (by omega), if_neg (by omega)]
theorem ho_10 (m : Mem) (p f : Int) (c v : Int → Int) : hoN m p f c v 5000 10 = p := by rw [ho_k _ _ _ _ _ (by decide)]; exact rd_10 _ _ _ _
theorem ho_11 (m : Mem) (p f : Int) (c v : Int → Int) : hoN m p f c v 5000 11 = f := by rw [ho_k _ _ _ _ _ (by decide)]; exact rd_11 _ _ _ _
theorem ho_9 (m : Mem) (p f : Int) (c v : Int → Int) : hoN m p f c v 5000 9 = m 5000 9 := by rw [ho_k _ _ _ _ _ (by decide)]; exact rd_9 _ _ _ _
theorem ho_cc (m : Mem) (p f : Int) (c v : Int → Int) {k : Int} (h : 31 ≤ k ∧ k ≤ 33) : hoN m p f c v 5000 k = c (k - 30) := by
  unfold hoN; rw [slo_5, if_neg (by decide), if_pos ⟨rfl, h⟩]
theorem ho_c0 (m : Mem) (p f : Int) (c v : Int → Int) : hoN m p f c v 5000 35 = c 0 := by
  unfold hoN; rw [slo_5, if_neg (by decide), if_neg (by decide), if_pos ⟨rfl, rfl⟩]
theorem ho_o (m : Mem) (p f : Int) (c v : Int → Int) {b : Int} (h : b ≠ 5000) (h1 : b ≠ 5006) (h2 : b ≠ 5008) (h3 : b ≠ 5010) (h4 : b ≠ 5012) : hoN m p f c v b = m b := by
  funext j; unfold hoN
  rw [slo_o h1 h2 h3 h4, if_neg (by decide), if_neg (fun q => h q.1), if_neg (fun q => h q.1), rd_r m p f _ h]
theorem ho_u10 (m : Mem) (p f x : Int) (c v : Int → Int) : up (hoN m p f c v) 5000 10 x = hoN m x f c v := by
  funext b j; unfold up hoN
  by_cases h : b = 5000 ∧ j = 10
  · rw [if_pos h, h.1, h.2, slo_5, if_neg (by decide), if_neg (by decide), if_neg (by decide)]; rfl
  · rw [if_neg h]; unfold rdM; rw [if_neg h, if_neg h]
theorem ho_u11 (m : Mem) (p f x : Int) (c v : Int → Int) : up (hoN m p f c v) 5000 11 x = hoN m p x c v := by
  funext b j; unfold up hoN
  by_cases h : b = 5000 ∧ j = 11
  · rw [if_pos h, h.1, h.2, slo_5, if_neg (by decide), if_neg (by decide), if_neg (by decide)]; rfl
  · rw [if_neg h]; unfold rdM; rw [if_neg h, if_neg h]
theorem ho_fa (m : Mem) (p : Int) (c v : Int → Int) : faM (hoN m p (-1) c v) = hoN m p p c v := by
  unfold faM; rw [if_pos (ho_11 _ _ _ _ _), ho_10, ho_u11]
theorem ho_cong {m : Mem} {p f : Int} {c v v' : Int → Int} (h : ∀ b j, 0 ≤ slo b j → v' (slo b j) = v (slo b j)) : hoN m p f c v' = hoN m p f c v := by
  funext b j; unfold hoN
  by_cases h2 : 0 ≤ slo b j
  · rw [if_pos h2, if_pos h2, h b j h2]
  · rw [if_neg h2, if_neg h2]
theorem ho_tx {m : Mem} (h : txOk m) (p f : Int) (c v : Int → Int) : mtx (hoN m p f c v) = mtx m ∧ txOk (hoN m p f c v) := by
  have hT := tx_T h
  have e5 : hoN m p f c v 5000 5 = m 5000 5 := by rw [ho_k _ _ _ _ _ (by decide)]; exact rd_5 _ _ _ _
  have e8 : hoN m p f c v 5000 8 = m 5000 8 := by rw [ho_k _ _ _ _ _ (by decide)]; exact rd_8 _ _ _ _
  constructor
  · funext i; unfold mtx; rw [ho_9, e5, e8, ho_o m p f c v (by omega) (by omega) (by omega) (by omega) (by omega)]
  · unfold txOk; rw [ho_9, e5, e8, ho_o m p f c v (by omega) (by omega) (by omega) (by omega) (by omega)]; exact h
/-- row i of the clauses of kind k: its places in the reference's row -/
theorem slo_k {k i w : Int} (k0 : 0 ≤ k) (k1 : k < 4) (i0 : 0 ≤ i) (i1 : i < mostK k) (w0 : 0 ≤ w) (w1 : w < kln k) : slo (kid k) (i * kln k + w) = (firstK k + i) * 4 + w ∧ 0 ≤ i * kln k + w ∧ i * kln k + w < mostK k * kln k := by
  have : k = 0 ∨ k = 1 ∨ k = 2 ∨ k = 3 := by omega
  rcases this with rfl | rfl | rfl | rfl
  · have e1 : kid 0 = 5006 := rfl
    have e2 : kln 0 = 2 := rfl
    have e3 : mostK 0 = 1 := rfl
    have e4 : firstK 0 = 0 := rfl
    rw [e2] at w1 ⊢
    rw [e3] at i1 ⊢
    rw [e1, e4]
    unfold slo
    rw [if_pos (by omega)]; omega
  · have e1 : kid 1 = 5008 := rfl
    have e2 : kln 1 = 4 := rfl
    have e3 : mostK 1 = 4 := rfl
    have e4 : firstK 1 = 1 := rfl
    rw [e2] at w1 ⊢
    rw [e3] at i1 ⊢
    rw [e1, e4]
    unfold slo
    rw [if_neg (by omega), if_pos (by omega)]; omega
  · have e1 : kid 2 = 5010 := rfl
    have e2 : kln 2 = 3 := rfl
    have e3 : mostK 2 = 6 := rfl
    have e4 : firstK 2 = 5 := rfl
    rw [e2] at w1 ⊢
    rw [e3] at i1 ⊢
    rw [e1, e4]
    unfold slo
    rw [if_neg (by omega), if_neg (by omega), if_pos (by omega)]; omega
  · have e1 : kid 3 = 5012 := rfl
    have e2 : kln 3 = 1 := rfl
    have e3 : mostK 3 = 6 := rfl
    have e4 : firstK 3 = 11 := rfl
    rw [e2] at w1 ⊢
    rw [e3] at i1 ⊢
    rw [e1, e4]
    unfold slo
    rw [if_neg (by omega), if_neg (by omega), if_neg (by omega), if_pos (by omega)]; omega
/-- two places are not one -/
theorem slo_inj {b j b' j' : Int} (h0 : 0 ≤ slo b j) (h : slo b' j' = slo b j) : b' = b ∧ j' = j := by
  have h0' : 0 ≤ slo b' j' := by omega
  unfold slo at *
  (repeat' split at h) <;> (repeat' split at h0) <;> (repeat' split at h0') <;> omega
/-- a place of a row is one of its items -/
theorem slo_r {k i : Int} (k0 : 0 ≤ k) (k1 : k < 4) (i0 : 0 ≤ i) (i1 : i < mostK k) {b j : Int} (h0 : (firstK k + i) * 4 ≤ slo b j) (h1 : slo b j < (firstK k + i) * 4 + 4) : slo b j < (firstK k + i) * 4 + kln k := by
  have : k = 0 ∨ k = 1 ∨ k = 2 ∨ k = 3 := by omega
  rcases this with rfl | rfl | rfl | rfl
  · have e2 : kln 0 = 2 := rfl
    have e3 : mostK 0 = 1 := rfl
    have e4 : firstK 0 = 0 := rfl
    rw [e3] at i1
    rw [e4] at h0 h1 ⊢
    rw [e2]
    unfold slo at *
    (repeat' split) <;> (repeat' split at h0) <;> (repeat' split at h1) <;> omega
  · have e2 : kln 1 = 4 := rfl
    rw [e2]; exact h1
  · have e2 : kln 2 = 3 := rfl
    have e3 : mostK 2 = 6 := rfl
    have e4 : firstK 2 = 5 := rfl
    rw [e3] at i1
    rw [e4] at h0 h1 ⊢
    rw [e2]
    unfold slo at *
    (repeat' split) <;> (repeat' split at h0) <;> (repeat' split at h1) <;> omega
  · have e2 : kln 3 = 1 := rfl
    have e3 : mostK 3 = 6 := rfl
    have e4 : firstK 3 = 11 := rfl
    rw [e3] at i1
    rw [e4] at h0 h1 ⊢
    rw [e2]
    unfold slo at *
    (repeat' split) <;> (repeat' split at h0) <;> (repeat' split at h1) <;> omega
theorem ho_w {m : Mem} {p f : Int} {c v : Int → Int} {k i w x : Int} (k0 : 0 ≤ k) (k1 : k < 4) (i0 : 0 ≤ i) (i1 : i < mostK k) (w0 : 0 ≤ w) (w1 : w < kln k) : up (hoN m p f c v) (kid k) (i * kln k + w) x = hoN m p f c (upf v ((firstK k + i) * 4 + w) x) := by
  obtain ⟨e, -, -⟩ := slo_k k0 k1 i0 i1 w0 w1
  have fb := firstK_b k
  funext b j; unfold up hoN upf
  by_cases h : b = kid k ∧ j = i * kln k + w
  · rw [if_pos h, h.1, h.2, e, if_pos (by omega), if_pos rfl]
  · rw [if_neg h]
    by_cases h2 : 0 ≤ slo b j
    · rw [if_pos h2, if_pos h2, if_neg (fun q => h (slo_inj (by rw [e]; omega) (by rw [e]; exact q)))]
    · rw [if_neg h2, if_neg h2]
/-- the first j items of a row untold -/
def flv (v : Int → Int) (k i j : Int) : Int → Int := fun s => if (firstK k + i) * 4 ≤ s ∧ s < (firstK k + i) * 4 + j then sav 21002 (k * 4 + (s - (firstK k + i) * 4)) else v s
theorem flv_0 (v : Int → Int) (k i : Int) : flv v k i 0 = v := by
  funext s; unfold flv; rw [if_neg (by omega)]
theorem flv_s (v : Int → Int) (k i : Int) {j : Int} (j0 : 0 ≤ j) : upf (flv v k i j) ((firstK k + i) * 4 + j) (sav 21002 (k * 4 + j)) = flv v k i (j + 1) := by
  funext s; unfold upf flv
  by_cases h : s = (firstK k + i) * 4 + j
  · rw [if_pos h, if_pos (by omega), h]; congr 2; omega
  · rw [if_neg h]
    by_cases h2 : (firstK k + i) * 4 ≤ s ∧ s < (firstK k + i) * 4 + j
    · rw [if_pos h2, if_pos (by omega)]
    · rw [if_neg h2, if_neg (by omega)]
theorem ho_fl {m : Mem} {p f : Int} {c v : Int → Int} {k i : Int} (k0 : 0 ≤ k) (k1 : k < 4) (i0 : 0 ≤ i) (i1 : i < mostK k) : hoN m p f c (flv v k i (kln k)) = hoN m p f c (filv v k i) := by
  have kb := kln_b k
  refine ho_cong (fun b j hb => ?_)
  unfold flv filv
  by_cases h : (firstK k + i) * 4 ≤ slo b j ∧ slo b j < (firstK k + i) * 4 + 4
  · have := slo_r k0 k1 i0 i1 h.1 h.2
    rw [if_pos ⟨h.1, this⟩, if_pos ⟨k0, k1, i0, i1, h⟩]
  · rw [if_neg (by omega), if_neg (fun q => h q.2.2.2.2)]
theorem stl_it {k : Int} (k0 : 0 ≤ k) (k1 : k < 4) : stl (20006 + k + 100) = kln k := by
  have : k = 0 ∨ k = 1 ∨ k = 2 ∨ k = 3 := by omega
  rcases this with rfl | rfl | rfl | rfl <;> rfl
theorem fidx_1 (f : Int → Int) (c : Int) : fidx f c 0 1 = if f 0 = c then 0 else -1 := rfl
theorem fidx_2 (f : Int → Int) (c : Int) : fidx f c 0 2 = if f 0 = c then 0 else if f 1 = c then 1 else -1 := rfl
theorem fidx_3 (f : Int → Int) (c : Int) : fidx f c 0 3 = if f 0 = c then 0 else if f 1 = c then 1 else if f 2 = c then 2 else -1 := rfl
theorem itm_e {k s : Int} (k0 : 0 ≤ k) (k1 : k < 4) (hs : s ≠ 32) : fidx (stv (20006 + k + 100)) s 0 (kln k).toNat = itemF k s ∧ itemF k s < kln k := by
  have : k = 0 ∨ k = 1 ∨ k = 2 ∨ k = 3 := by omega
  unfold itemF
  rw [if_pos ⟨k0, k1⟩, fidx_4]
  rcases this with rfl | rfl | rfl | rfl
  · have e0 : stv 20101 (0 * 4 + 0) = 108 := by decide
    have e1 : stv 20101 (0 * 4 + 1) = 112 := by decide
    have e2 : stv 20101 (0 * 4 + 2) = 32 := by decide
    have e3 : stv 20101 (0 * 4 + 3) = 32 := by decide
    have f0 : stv (20006 + 0 + 100) 0 = 108 := by decide
    have f1 : stv (20006 + 0 + 100) 1 = 112 := by decide
    rw [show (kln 0).toNat = 2 from rfl, show kln 0 = 2 from rfl, fidx_2, e0, e1, e2, e3, f0, f1]
    (repeat' split) <;> omega
  · have e0 : stv 20101 (1 * 4 + 0) = 97 := by decide
    have e1 : stv 20101 (1 * 4 + 1) = 98 := by decide
    have e2 : stv 20101 (1 * 4 + 2) = 99 := by decide
    have e3 : stv 20101 (1 * 4 + 3) = 109 := by decide
    have f0 : stv (20006 + 1 + 100) 0 = 97 := by decide
    have f1 : stv (20006 + 1 + 100) 1 = 98 := by decide
    have f2 : stv (20006 + 1 + 100) 2 = 99 := by decide
    have f3 : stv (20006 + 1 + 100) 3 = 109 := by decide
    rw [show (kln 1).toNat = 4 from rfl, show kln 1 = 4 from rfl, fidx_4, e0, e1, e2, e3, f0, f1, f2, f3]
    (repeat' split) <;> omega
  · have e0 : stv 20101 (2 * 4 + 0) = 104 := by decide
    have e1 : stv 20101 (2 * 4 + 1) = 116 := by decide
    have e2 : stv 20101 (2 * 4 + 2) = 109 := by decide
    have e3 : stv 20101 (2 * 4 + 3) = 32 := by decide
    have f0 : stv (20006 + 2 + 100) 0 = 104 := by decide
    have f1 : stv (20006 + 2 + 100) 1 = 116 := by decide
    have f2 : stv (20006 + 2 + 100) 2 = 109 := by decide
    rw [show (kln 2).toNat = 3 from rfl, show kln 2 = 3 from rfl, fidx_3, e0, e1, e2, e3, f0, f1, f2]
    (repeat' split) <;> omega
  · have e0 : stv 20101 (3 * 4 + 0) = 100 := by decide
    have e1 : stv 20101 (3 * 4 + 1) = 32 := by decide
    have e2 : stv 20101 (3 * 4 + 2) = 32 := by decide
    have e3 : stv 20101 (3 * 4 + 3) = 32 := by decide
    have f0 : stv (20006 + 3 + 100) 0 = 100 := by decide
    rw [show (kln 3).toNat = 1 from rfl, show kln 3 = 1 from rfl, fidx_1, e0, e1, e2, e3, f0]
    (repeat' split) <;> omega
theorem itm_m {k s : Int} (h : 0 ≤ itemF k s) : s ≠ -1 ∧ s ≠ 59 := by
  unfold itemF at h
  by_cases hk : 0 ≤ k ∧ k < 4
  · rw [if_pos hk, fidx_4] at h
    have b := fun i (i0 : 0 ≤ i) (i1 : i < 16) => (by
      have : ∀ n : Nat, n < 16 → stv 20101 (n : Int) ≠ -1 ∧ stv 20101 (n : Int) ≠ 59 := by decide
      obtain ⟨n, rfl⟩ : ∃ n : Nat, i = n := ⟨i.toNat, by omega⟩
      exact this n (by omega) : stv 20101 i ≠ -1 ∧ stv 20101 i ≠ 59)
    have b0 := b (k * 4 + 0) (by omega) (by omega)
    have b1 := b (k * 4 + 1) (by omega) (by omega)
    have b2 := b (k * 4 + 2) (by omega) (by omega)
    have b3 := b (k * 4 + 3) (by omega) (by omega)
    (repeat' split at h) <;> omega
  · rw [if_neg hk] at h; omega
theorem skp_32 {t : Int → Int} {n : Int} (ht : ∀ i, n ≤ i → t i = -1) : ∀ (f : Nat) (p : Int), n ≤ p + f → t (skp t p f) ≠ 32 := by
  intro f
  induction f with
  | zero => intro p h; unfold skp; rw [ht p (by omega)]; decide
  | succ f ih =>
    intro p h; unfold skp
    by_cases c : t p = 32
    · rw [if_pos c]; exact ih (p + 1) (by omega)
    · rw [if_neg c]; exact c
theorem sk_32 {t : Int → Int} {n : Int} (ht : ∀ i, n ≤ i → t i = -1) (p : Int) : t (sk t n p) ≠ 32 := skp_32 ht _ _ (by omega)
/-- how many items are told -/
def bc4 (t : Int) : Int := t % 2 + t / 2 % 2 + t / 4 % 2 + t / 8 % 2
theorem bc4_s0 : ∀ t : Nat, t < 16 → ∀ w : Nat, w < 4 → (t : Int) / (2 ^ w) % 2 ≠ 1 → bc4 ((t : Int) + 2 ^ w) = bc4 t + 1 := by decide +kernel
theorem bc4_s {t w : Int} (t0 : 0 ≤ t) (t1 : t < 16) (w0 : 0 ≤ w) (w1 : w < 4) (h : t / (2 ^ w.toNat) % 2 ≠ 1) : bc4 (t + 2 ^ w.toNat) = bc4 t + 1 := by
  obtain ⟨a, rfl⟩ : ∃ a : Nat, t = a := ⟨t.toNat, by omega⟩
  exact bc4_s0 a (by omega) w.toNat (by omega) h
theorem bc4_b (t : Int) : 0 ≤ bc4 t ∧ bc4 t ≤ 4 := by unfold bc4; omega
theorem nd_0 {t : Int → Int} {s : Int} (h : ¬ dg (t s)) : ndig t s 2 = 0 := by unfold ndig; rw [if_neg h]
theorem nd_1 {t : Int → Int} {s : Int} (h : dg (t s)) (h1 : ¬ dg (t (s + 1))) : ndig t s 2 = 1 ∧ nval t s 0 2 = t s - 48 := by
  unfold ndig nval; rw [if_pos h, if_pos h]; unfold ndig nval; rw [if_neg h1, if_neg h1]; omega
theorem nd_2 {t : Int → Int} {s : Int} (h : dg (t s)) (h1 : dg (t (s + 1))) : ndig t s 2 = 2 ∧ nval t s 0 2 = 10 * (t s - 48) + t (s + 1) - 48 := by
  unfold ndig nval; rw [if_pos h, if_pos h]; unfold ndig nval; rw [if_pos h1, if_pos h1]; unfold ndig nval; omega
