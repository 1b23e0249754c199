/-- what lies below a call's arguments: few words, no holes -/
def acok : List AV → Nat → Bool
  | [], _ => true
  | v :: l, n => (v.1 != 6) && ((v.1 != 7) && (if v.1 == 1 then (Nat.ble 2 n && acok l (n - 2)) else (Nat.ble 1 n && acok l (n - 1))))
theorem acok_67 : ∀ (st : List AV) (n : Nat), acok st n = true → (∀ v ∈ st, v.1 ≠ 6 ∧ v.1 ≠ 7) ∧ ∀ ρ : Int → Nat, ((st.map (am_val ρ)).map fun v => v.category).sum ≤ n := by
  intro st
  induction st with
  | nil => intro n _; exact ⟨(fun _ h => nomatch h), fun _ => Nat.zero_le _⟩
  | cons v st ih =>
    intro n h
    unfold acok at h
    simp only [Bool.and_eq_true, bne_iff_ne, ne_eq] at h
    obtain ⟨h6, h7, h⟩ := h
    by_cases h1 : v.1 = 1
    · rw [if_pos (by simpa using h1)] at h
      simp only [Bool.and_eq_true, Nat.ble_eq] at h
      obtain ⟨a, b⟩ := ih _ h.2
      refine ⟨List.forall_mem_cons.mpr ⟨⟨h6, h7⟩, a⟩, fun ρ => ?_⟩
      have := b ρ
      obtain ⟨t, z⟩ := v
      simp only at h1
      subst h1
      simp only [List.map_cons, List.sum_cons, am_val_1]
      show 2 + _ ≤ n
      omega
    · rw [if_neg (by simpa using h1)] at h
      simp only [Bool.and_eq_true, Nat.ble_eq] at h
      obtain ⟨a, b⟩ := ih _ h.2
      refine ⟨List.forall_mem_cons.mpr ⟨⟨h6, h7⟩, a⟩, fun ρ => ?_⟩
      have := b ρ
      simp only [List.map_cons, List.sum_cons, am_cat ρ h1]
      omega
abbrev WP : Type := List AV → Mem → (AV → Mem → Prop) → Prop
def vCallM (P : WP) (t k n : Nat) : VT := fun _ K ls st σ => ∃ a av st', st = av.reverse ++ (t, a) :: st' ∧ av.length = k ∧ 0 ≤ a ∧ acok st' 8 = true ∧ P ((t, a) :: av) σ (fun r σ' => r.1 ≠ 6 ∧ r.1 ≠ 7 ∧ K n ls (r :: st') σ')
def vCallMV (P : WP) (t k n : Nat) : VT := fun _ K ls st σ => ∃ a av st', st = av.reverse ++ (t, a) :: st' ∧ av.length = k ∧ 0 ≤ a ∧ acok st' 8 = true ∧ P ((t, a) :: av) σ (fun r σ' => r.1 = 6 ∧ K n ls st' σ')
def vCallS (P : WP) (k n : Nat) : VT := fun _ K ls st σ => ∃ av st', st = av.reverse ++ st' ∧ av.length = k ∧ acok st' 8 = true ∧ P av σ (fun r σ' => r.1 ≠ 6 ∧ r.1 ≠ 7 ∧ K n ls (r :: st') σ')
def vCallSV (P : WP) (k n : Nat) : VT := fun _ K ls st σ => ∃ av st', st = av.reverse ++ st' ∧ av.length = k ∧ acok st' 8 = true ∧ P av σ (fun r σ' => r.1 = 6 ∧ K n ls st' σ')
theorem rev_app {α : Type} {a b : List α} {x y : List α} (h : a.reverse ++ x = b.reverse ++ y) (hl : a.length = b.length) : a = b ∧ x = y := by
  have := List.append_inj h (by simpa using hl)
  exact ⟨List.reverse_inj.mp this.1, this.2⟩
theorem vCallM_g (P : WP) (t k n : Nat) (Q) (K) (ls st : List AV) (a : Int) (av : List AV) (σ : Mem) (hk : av.length = k) : vCallM P t k n Q K ls (av.reverse ++ (t, a) :: st) σ = (0 ≤ a ∧ acok st 8 = true ∧ P ((t, a) :: av) σ (fun r σ' => r.1 ≠ 6 ∧ r.1 ≠ 7 ∧ K n ls (r :: st) σ')) := by
  apply propext; constructor
  · rintro ⟨a', av', st', h, h1, h2⟩
    obtain ⟨h8, h9⟩ := rev_app h (hk.trans h1.symm)
    subst h8; cases h9; exact h2
  · intro h; exact ⟨a, av, st, rfl, hk, h⟩
theorem vCallMV_g (P : WP) (t k n : Nat) (Q) (K) (ls st : List AV) (a : Int) (av : List AV) (σ : Mem) (hk : av.length = k) : vCallMV P t k n Q K ls (av.reverse ++ (t, a) :: st) σ = (0 ≤ a ∧ acok st 8 = true ∧ P ((t, a) :: av) σ (fun r σ' => r.1 = 6 ∧ K n ls st σ')) := by
  apply propext; constructor
  · rintro ⟨a', av', st', h, h1, h2⟩
    obtain ⟨h8, h9⟩ := rev_app h (hk.trans h1.symm)
    subst h8; cases h9; exact h2
  · intro h; exact ⟨a, av, st, rfl, hk, h⟩
theorem vCallS_g (P : WP) (k n : Nat) (Q) (K) (ls st : List AV) (av : List AV) (σ : Mem) (hk : av.length = k) : vCallS P k n Q K ls (av.reverse ++ st) σ = (acok st 8 = true ∧ P av σ (fun r σ' => r.1 ≠ 6 ∧ r.1 ≠ 7 ∧ K n ls (r :: st) σ')) := by
  apply propext; constructor
  · rintro ⟨av', st', h, h1, h2⟩
    obtain ⟨h8, h9⟩ := rev_app h (hk.trans h1.symm)
    subst h8; cases h9; exact h2
  · intro h; exact ⟨av, st, rfl, hk, h⟩
theorem vCallSV_g (P : WP) (k n : Nat) (Q) (K) (ls st : List AV) (av : List AV) (σ : Mem) (hk : av.length = k) : vCallSV P k n Q K ls (av.reverse ++ st) σ = (acok st 8 = true ∧ P av σ (fun r σ' => r.1 = 6 ∧ K n ls st σ')) := by
  apply propext; constructor
  · rintro ⟨av', st', h, h1, h2⟩
    obtain ⟨h8, h9⟩ := rev_app h (hk.trans h1.symm)
    subst h8; cases h9; exact h2
  · intro h; exact ⟨av, st, rfl, hk, h⟩
theorem vCallM_e0 (P : WP) (t n : Nat) (Q) (K) (ls st : List AV) (a : Int) (σ : Mem) : vCallM P t 0 n Q K ls ((t, a) :: st) σ = (0 ≤ a ∧ acok st 8 = true ∧ P ((t, a) :: []) σ (fun r σ' => r.1 ≠ 6 ∧ r.1 ≠ 7 ∧ K n ls (r :: st) σ')) := vCallM_g P t 0 n Q K ls st a [] σ rfl
theorem vCallMV_e0 (P : WP) (t n : Nat) (Q) (K) (ls st : List AV) (a : Int) (σ : Mem) : vCallMV P t 0 n Q K ls ((t, a) :: st) σ = (0 ≤ a ∧ acok st 8 = true ∧ P ((t, a) :: []) σ (fun r σ' => r.1 = 6 ∧ K n ls st σ')) := vCallMV_g P t 0 n Q K ls st a [] σ rfl
theorem vCallS_e0 (P : WP) (n : Nat) (Q) (K) (ls st : List AV) (σ : Mem) : vCallS P 0 n Q K ls (st) σ = (acok st 8 = true ∧ P [] σ (fun r σ' => r.1 ≠ 6 ∧ r.1 ≠ 7 ∧ K n ls (r :: st) σ')) := vCallS_g P 0 n Q K ls st [] σ rfl
theorem vCallSV_e0 (P : WP) (n : Nat) (Q) (K) (ls st : List AV) (σ : Mem) : vCallSV P 0 n Q K ls (st) σ = (acok st 8 = true ∧ P [] σ (fun r σ' => r.1 = 6 ∧ K n ls st σ')) := vCallSV_g P 0 n Q K ls st [] σ rfl
theorem vCallM_e1 (P : WP) (t n : Nat) (Q) (K) (ls st : List AV) (a : Int) (v0 : AV) (σ : Mem) : vCallM P t 1 n Q K ls (v0 :: (t, a) :: st) σ = (0 ≤ a ∧ acok st 8 = true ∧ P ((t, a) :: [v0]) σ (fun r σ' => r.1 ≠ 6 ∧ r.1 ≠ 7 ∧ K n ls (r :: st) σ')) := vCallM_g P t 1 n Q K ls st a [v0] σ rfl
theorem vCallMV_e1 (P : WP) (t n : Nat) (Q) (K) (ls st : List AV) (a : Int) (v0 : AV) (σ : Mem) : vCallMV P t 1 n Q K ls (v0 :: (t, a) :: st) σ = (0 ≤ a ∧ acok st 8 = true ∧ P ((t, a) :: [v0]) σ (fun r σ' => r.1 = 6 ∧ K n ls st σ')) := vCallMV_g P t 1 n Q K ls st a [v0] σ rfl
theorem vCallS_e1 (P : WP) (n : Nat) (Q) (K) (ls st : List AV) (v0 : AV) (σ : Mem) : vCallS P 1 n Q K ls (v0 :: st) σ = (acok st 8 = true ∧ P [v0] σ (fun r σ' => r.1 ≠ 6 ∧ r.1 ≠ 7 ∧ K n ls (r :: st) σ')) := vCallS_g P 1 n Q K ls st [v0] σ rfl
theorem vCallSV_e1 (P : WP) (n : Nat) (Q) (K) (ls st : List AV) (v0 : AV) (σ : Mem) : vCallSV P 1 n Q K ls (v0 :: st) σ = (acok st 8 = true ∧ P [v0] σ (fun r σ' => r.1 = 6 ∧ K n ls st σ')) := vCallSV_g P 1 n Q K ls st [v0] σ rfl
theorem vCallM_e2 (P : WP) (t n : Nat) (Q) (K) (ls st : List AV) (a : Int) (v0 v1 : AV) (σ : Mem) : vCallM P t 2 n Q K ls (v1 :: v0 :: (t, a) :: st) σ = (0 ≤ a ∧ acok st 8 = true ∧ P ((t, a) :: [v0, v1]) σ (fun r σ' => r.1 ≠ 6 ∧ r.1 ≠ 7 ∧ K n ls (r :: st) σ')) := vCallM_g P t 2 n Q K ls st a [v0, v1] σ rfl
theorem vCallMV_e2 (P : WP) (t n : Nat) (Q) (K) (ls st : List AV) (a : Int) (v0 v1 : AV) (σ : Mem) : vCallMV P t 2 n Q K ls (v1 :: v0 :: (t, a) :: st) σ = (0 ≤ a ∧ acok st 8 = true ∧ P ((t, a) :: [v0, v1]) σ (fun r σ' => r.1 = 6 ∧ K n ls st σ')) := vCallMV_g P t 2 n Q K ls st a [v0, v1] σ rfl
theorem vCallS_e2 (P : WP) (n : Nat) (Q) (K) (ls st : List AV) (v0 v1 : AV) (σ : Mem) : vCallS P 2 n Q K ls (v1 :: v0 :: st) σ = (acok st 8 = true ∧ P [v0, v1] σ (fun r σ' => r.1 ≠ 6 ∧ r.1 ≠ 7 ∧ K n ls (r :: st) σ')) := vCallS_g P 2 n Q K ls st [v0, v1] σ rfl
theorem vCallSV_e2 (P : WP) (n : Nat) (Q) (K) (ls st : List AV) (v0 v1 : AV) (σ : Mem) : vCallSV P 2 n Q K ls (v1 :: v0 :: st) σ = (acok st 8 = true ∧ P [v0, v1] σ (fun r σ' => r.1 = 6 ∧ K n ls st σ')) := vCallSV_g P 2 n Q K ls st [v0, v1] σ rfl
theorem vCallM_e3 (P : WP) (t n : Nat) (Q) (K) (ls st : List AV) (a : Int) (v0 v1 v2 : AV) (σ : Mem) : vCallM P t 3 n Q K ls (v2 :: v1 :: v0 :: (t, a) :: st) σ = (0 ≤ a ∧ acok st 8 = true ∧ P ((t, a) :: [v0, v1, v2]) σ (fun r σ' => r.1 ≠ 6 ∧ r.1 ≠ 7 ∧ K n ls (r :: st) σ')) := vCallM_g P t 3 n Q K ls st a [v0, v1, v2] σ rfl
theorem vCallMV_e3 (P : WP) (t n : Nat) (Q) (K) (ls st : List AV) (a : Int) (v0 v1 v2 : AV) (σ : Mem) : vCallMV P t 3 n Q K ls (v2 :: v1 :: v0 :: (t, a) :: st) σ = (0 ≤ a ∧ acok st 8 = true ∧ P ((t, a) :: [v0, v1, v2]) σ (fun r σ' => r.1 = 6 ∧ K n ls st σ')) := vCallMV_g P t 3 n Q K ls st a [v0, v1, v2] σ rfl
theorem vCallS_e3 (P : WP) (n : Nat) (Q) (K) (ls st : List AV) (v0 v1 v2 : AV) (σ : Mem) : vCallS P 3 n Q K ls (v2 :: v1 :: v0 :: st) σ = (acok st 8 = true ∧ P [v0, v1, v2] σ (fun r σ' => r.1 ≠ 6 ∧ r.1 ≠ 7 ∧ K n ls (r :: st) σ')) := vCallS_g P 3 n Q K ls st [v0, v1, v2] σ rfl
theorem vCallSV_e3 (P : WP) (n : Nat) (Q) (K) (ls st : List AV) (v0 v1 v2 : AV) (σ : Mem) : vCallSV P 3 n Q K ls (v2 :: v1 :: v0 :: st) σ = (acok st 8 = true ∧ P [v0, v1, v2] σ (fun r σ' => r.1 = 6 ∧ K n ls st σ')) := vCallSV_g P 3 n Q K ls st [v0, v1, v2] σ rfl
theorem vCallM_e4 (P : WP) (t n : Nat) (Q) (K) (ls st : List AV) (a : Int) (v0 v1 v2 v3 : AV) (σ : Mem) : vCallM P t 4 n Q K ls (v3 :: v2 :: v1 :: v0 :: (t, a) :: st) σ = (0 ≤ a ∧ acok st 8 = true ∧ P ((t, a) :: [v0, v1, v2, v3]) σ (fun r σ' => r.1 ≠ 6 ∧ r.1 ≠ 7 ∧ K n ls (r :: st) σ')) := vCallM_g P t 4 n Q K ls st a [v0, v1, v2, v3] σ rfl
theorem vCallMV_e4 (P : WP) (t n : Nat) (Q) (K) (ls st : List AV) (a : Int) (v0 v1 v2 v3 : AV) (σ : Mem) : vCallMV P t 4 n Q K ls (v3 :: v2 :: v1 :: v0 :: (t, a) :: st) σ = (0 ≤ a ∧ acok st 8 = true ∧ P ((t, a) :: [v0, v1, v2, v3]) σ (fun r σ' => r.1 = 6 ∧ K n ls st σ')) := vCallMV_g P t 4 n Q K ls st a [v0, v1, v2, v3] σ rfl
theorem vCallS_e4 (P : WP) (n : Nat) (Q) (K) (ls st : List AV) (v0 v1 v2 v3 : AV) (σ : Mem) : vCallS P 4 n Q K ls (v3 :: v2 :: v1 :: v0 :: st) σ = (acok st 8 = true ∧ P [v0, v1, v2, v3] σ (fun r σ' => r.1 ≠ 6 ∧ r.1 ≠ 7 ∧ K n ls (r :: st) σ')) := vCallS_g P 4 n Q K ls st [v0, v1, v2, v3] σ rfl
theorem vCallSV_e4 (P : WP) (n : Nat) (Q) (K) (ls st : List AV) (v0 v1 v2 v3 : AV) (σ : Mem) : vCallSV P 4 n Q K ls (v3 :: v2 :: v1 :: v0 :: st) σ = (acok st 8 = true ∧ P [v0, v1, v2, v3] σ (fun r σ' => r.1 = 6 ∧ K n ls st σ')) := vCallSV_g P 4 n Q K ls st [v0, v1, v2, v3] σ rfl
theorem vCallM_e5 (P : WP) (t n : Nat) (Q) (K) (ls st : List AV) (a : Int) (v0 v1 v2 v3 v4 : AV) (σ : Mem) : vCallM P t 5 n Q K ls (v4 :: v3 :: v2 :: v1 :: v0 :: (t, a) :: st) σ = (0 ≤ a ∧ acok st 8 = true ∧ P ((t, a) :: [v0, v1, v2, v3, v4]) σ (fun r σ' => r.1 ≠ 6 ∧ r.1 ≠ 7 ∧ K n ls (r :: st) σ')) := vCallM_g P t 5 n Q K ls st a [v0, v1, v2, v3, v4] σ rfl
theorem vCallMV_e5 (P : WP) (t n : Nat) (Q) (K) (ls st : List AV) (a : Int) (v0 v1 v2 v3 v4 : AV) (σ : Mem) : vCallMV P t 5 n Q K ls (v4 :: v3 :: v2 :: v1 :: v0 :: (t, a) :: st) σ = (0 ≤ a ∧ acok st 8 = true ∧ P ((t, a) :: [v0, v1, v2, v3, v4]) σ (fun r σ' => r.1 = 6 ∧ K n ls st σ')) := vCallMV_g P t 5 n Q K ls st a [v0, v1, v2, v3, v4] σ rfl
theorem vCallS_e5 (P : WP) (n : Nat) (Q) (K) (ls st : List AV) (v0 v1 v2 v3 v4 : AV) (σ : Mem) : vCallS P 5 n Q K ls (v4 :: v3 :: v2 :: v1 :: v0 :: st) σ = (acok st 8 = true ∧ P [v0, v1, v2, v3, v4] σ (fun r σ' => r.1 ≠ 6 ∧ r.1 ≠ 7 ∧ K n ls (r :: st) σ')) := vCallS_g P 5 n Q K ls st [v0, v1, v2, v3, v4] σ rfl
theorem vCallSV_e5 (P : WP) (n : Nat) (Q) (K) (ls st : List AV) (v0 v1 v2 v3 v4 : AV) (σ : Mem) : vCallSV P 5 n Q K ls (v4 :: v3 :: v2 :: v1 :: v0 :: st) σ = (acok st 8 = true ∧ P [v0, v1, v2, v3, v4] σ (fun r σ' => r.1 = 6 ∧ K n ls st σ')) := vCallSV_g P 5 n Q K ls st [v0, v1, v2, v3, v4] σ rfl
theorem vCallM_e6 (P : WP) (t n : Nat) (Q) (K) (ls st : List AV) (a : Int) (v0 v1 v2 v3 v4 v5 : AV) (σ : Mem) : vCallM P t 6 n Q K ls (v5 :: v4 :: v3 :: v2 :: v1 :: v0 :: (t, a) :: st) σ = (0 ≤ a ∧ acok st 8 = true ∧ P ((t, a) :: [v0, v1, v2, v3, v4, v5]) σ (fun r σ' => r.1 ≠ 6 ∧ r.1 ≠ 7 ∧ K n ls (r :: st) σ')) := vCallM_g P t 6 n Q K ls st a [v0, v1, v2, v3, v4, v5] σ rfl
theorem vCallMV_e6 (P : WP) (t n : Nat) (Q) (K) (ls st : List AV) (a : Int) (v0 v1 v2 v3 v4 v5 : AV) (σ : Mem) : vCallMV P t 6 n Q K ls (v5 :: v4 :: v3 :: v2 :: v1 :: v0 :: (t, a) :: st) σ = (0 ≤ a ∧ acok st 8 = true ∧ P ((t, a) :: [v0, v1, v2, v3, v4, v5]) σ (fun r σ' => r.1 = 6 ∧ K n ls st σ')) := vCallMV_g P t 6 n Q K ls st a [v0, v1, v2, v3, v4, v5] σ rfl
theorem vCallS_e6 (P : WP) (n : Nat) (Q) (K) (ls st : List AV) (v0 v1 v2 v3 v4 v5 : AV) (σ : Mem) : vCallS P 6 n Q K ls (v5 :: v4 :: v3 :: v2 :: v1 :: v0 :: st) σ = (acok st 8 = true ∧ P [v0, v1, v2, v3, v4, v5] σ (fun r σ' => r.1 ≠ 6 ∧ r.1 ≠ 7 ∧ K n ls (r :: st) σ')) := vCallS_g P 6 n Q K ls st [v0, v1, v2, v3, v4, v5] σ rfl
theorem vCallSV_e6 (P : WP) (n : Nat) (Q) (K) (ls st : List AV) (v0 v1 v2 v3 v4 v5 : AV) (σ : Mem) : vCallSV P 6 n Q K ls (v5 :: v4 :: v3 :: v2 :: v1 :: v0 :: st) σ = (acok st 8 = true ∧ P [v0, v1, v2, v3, v4, v5] σ (fun r σ' => r.1 = 6 ∧ K n ls st σ')) := vCallSV_g P 6 n Q K ls st [v0, v1, v2, v3, v4, v5] σ rfl
theorem vCallM_e7 (P : WP) (t n : Nat) (Q) (K) (ls st : List AV) (a : Int) (v0 v1 v2 v3 v4 v5 v6 : AV) (σ : Mem) : vCallM P t 7 n Q K ls (v6 :: v5 :: v4 :: v3 :: v2 :: v1 :: v0 :: (t, a) :: st) σ = (0 ≤ a ∧ acok st 8 = true ∧ P ((t, a) :: [v0, v1, v2, v3, v4, v5, v6]) σ (fun r σ' => r.1 ≠ 6 ∧ r.1 ≠ 7 ∧ K n ls (r :: st) σ')) := vCallM_g P t 7 n Q K ls st a [v0, v1, v2, v3, v4, v5, v6] σ rfl
theorem vCallMV_e7 (P : WP) (t n : Nat) (Q) (K) (ls st : List AV) (a : Int) (v0 v1 v2 v3 v4 v5 v6 : AV) (σ : Mem) : vCallMV P t 7 n Q K ls (v6 :: v5 :: v4 :: v3 :: v2 :: v1 :: v0 :: (t, a) :: st) σ = (0 ≤ a ∧ acok st 8 = true ∧ P ((t, a) :: [v0, v1, v2, v3, v4, v5, v6]) σ (fun r σ' => r.1 = 6 ∧ K n ls st σ')) := vCallMV_g P t 7 n Q K ls st a [v0, v1, v2, v3, v4, v5, v6] σ rfl
theorem vCallS_e7 (P : WP) (n : Nat) (Q) (K) (ls st : List AV) (v0 v1 v2 v3 v4 v5 v6 : AV) (σ : Mem) : vCallS P 7 n Q K ls (v6 :: v5 :: v4 :: v3 :: v2 :: v1 :: v0 :: st) σ = (acok st 8 = true ∧ P [v0, v1, v2, v3, v4, v5, v6] σ (fun r σ' => r.1 ≠ 6 ∧ r.1 ≠ 7 ∧ K n ls (r :: st) σ')) := vCallS_g P 7 n Q K ls st [v0, v1, v2, v3, v4, v5, v6] σ rfl
theorem vCallSV_e7 (P : WP) (n : Nat) (Q) (K) (ls st : List AV) (v0 v1 v2 v3 v4 v5 v6 : AV) (σ : Mem) : vCallSV P 7 n Q K ls (v6 :: v5 :: v4 :: v3 :: v2 :: v1 :: v0 :: st) σ = (acok st 8 = true ∧ P [v0, v1, v2, v3, v4, v5, v6] σ (fun r σ' => r.1 = 6 ∧ K n ls st σ')) := vCallSV_g P 7 n Q K ls st [v0, v1, v2, v3, v4, v5, v6] σ rfl
section GO
variable {p : Program} {l : Launch} {e : Env} {R : Room} {s : State} {m : MethodId} {args : Array Value} {below : List Frame} {meth : Method} {c : Code} {H : Heap} {locs : List Loc} {cells slots mc' ms' : Nat} {Qm : State → Prop}
theorem am_go {D : va_G} {ca : Nat → ClassId} {T : Int → Kd} {n0 : Nat} {ρ : Int → Nat} {σ : Mem} {Q' : AV → Mem → Prop} {a : Array Value} {pc : Nat} {LS : Array Slot} {st0 rest : List Value}
    (hr : va_Run p l e R s m args below meth c H locs cells slots mc' ms' (F0 m pc LS st0) rest (amQc D ca T n0 ρ σ Q' a) (fun q => n0 ≤ q)) (hS : va_S (fun q => n0 ≤ q) s.heap H locs)
    (kk : ∀ (r : AV) (σ' : Mem) (ρ' : Int → Nat) (H1 : Heap) (locs1 : List Loc), Q' r σ' → amW D ca T n0 ρ' σ' H1 → okv T σ' r → amAg ρ ρ' σ σ' → va_S (fun q => n0 ≤ q) s.heap H1 locs1 → W p l e R s m args below meth c H1 locs1 (cells + mc') (slots + ms') Qm (F0 m (pc + 3) LS ((amQr ρ' r).toList ++ rest))) :
    W p l e R s m args below meth c H locs cells slots Qm (F0 m pc LS st0) := by
  intro T9 hT X
  obtain ⟨v, st₀, t, T', L, h0, X', hL, e1, e2, ⟨⟨r, σ', ρ', hv, hQ, hW', hokr, hag'⟩, hz, hk⟩, st⟩ := hr T9 hT X
  cases hv
  rw [h0] at hz hk
  obtain ⟨t2, a1, b1⟩ := kk r σ' ρ' T'.heap (locs ++ L) hQ (by rw [e1]; exact hW') hokr hag'
    ⟨Nat.le_trans hS.1 (by rw [e1]; exact hz), fun q h1 h2 => by rw [e1, hk q (Nat.lt_of_lt_of_le h1 hS.1) h2]; exact hS.2.1 q h1 h2, fun q hq => by
      rcases List.mem_append.mp hq with h | h
      · exact hS.2.2 q h
      · exact hL q h⟩ T' rfl X'
  exact ⟨t2, st t2 a1, b1⟩
end GO
/-- the words of a call -/
def amLk (own : String) (index : Nat) (y : MethodName) (cy : ByteArray) (maxL : Nat) (ry : Option FieldType) (k : Nat) : Prop :=
  Cond.methodLink own index y ∈ TBL ∧ Cond.initialized y.cls ∈ TBL ∧ Cond.code y cy maxL ry ∈ TBL ∧ (y.cls ≠ "java/lang/invoke/MethodHandle" ∧ y.cls ≠ "java/lang/invoke/VarHandle") ∧ (parseMethodDescriptor y.desc).map (fun d => d.parameters.length) = some k ∧ maxL ≤ 45
theorem amLk.B {own : String} {index : Nat} {y : MethodName} {cy : ByteArray} {maxL : Nat} {ry : Option FieldType} {k : Nat} (h : amLk own index y cy maxL ry k) {s : State} {args : Array Value} (hts : ∀ w ∈ TBL, w.before args s = true) {d d' mc ms mc' ms' : Nat} (hd : d' + 1 ≤ d) : CallB (amR d mc ms) s args own index y cy maxL ry (.code y cy maxL ry :: TBL) (amR d' mc' ms') mc' ms' k := by
  obtain ⟨h1, h2, h3, h4, h5, h6⟩ := h
  refine ⟨rfl, rfl, hd, ?_, ?_, List.mem_cons_self, hts _ h3, hts _ h2, h4, fun sig hs => ?_, hts _ h1⟩
  · show 8 + (maxL + 11) + 64 * d' ≤ 64 * d
    omega
  · intro w hw a' U hWm
    have hwT : w ∈ TBL := (List.mem_cons.mp hw).elim (fun e => e ▸ h3) id
    exact word_at hWm (tb_good w hwT).2 (hts w hwT)
  · rw [hs] at h5
    simpa using h5.symm
abbrev XD (X : amX) : Nat := X.2.2.2.2.2.2.2.2.2.2.2.2.2.2.2.1

theorem ok_callM {X : amX} {own : String} {cc : ByteArray} {ret : Option FieldType} {L pc : Nat} (hB : amB X own cc ret L) (hT : amTok (XT X)) {y : MethodName} {cy : ByteArray} {maxL d' k index : Nat} {ry : Option FieldType} {P : WP} (hP : ∀ av σ Q, P av σ Q → amCall d' 0 0 (XT X) y cy maxL ry av σ Q) (hL : amLk own index y cy maxL ry k) (hdd : d' + 1 ≤ XD X) {c t : Nat} {C : String} {Tt : u_T} {N : Nat} (hc : vwCl[c]? = some (C, Tt, N)) (ht : t = 16 + c) (hC : y.cls = C) (hin : Cond.instanceMethod y ∈ TBL) (hse : Cond.selects C y y ∈ TBL) (hd : decode cc pc = .ok (.invokevirtual index, 3)) : amOK X pc (vCallM P t k (pc + 3)) := by
  obtain ⟨p, l, e, s, m, args, below, meth, c0, D, ca, n0, T, ρ0, σ0, dd, mc, ms, nL, Q⟩ := X
  obtain ⟨hx, hb, hr, hml, hnL, hown, hts, hlocks, hK0, hA0, hst0⟩ := hB
  intro K ls st σ hK h ρ H locs LS kk n hW hS hl hokl hoks hk hn hag
  obtain ⟨a, av, st', rfl, hlen, ha, hac, h⟩ := h
  subst ht
  obtain ⟨h67, hcat⟩ := acok_67 _ _ hac
  have hoks1 : okl T σ av ∧ okv T σ (16 + c, a) ∧ okl T σ st' := ⟨fun v hv => hoks v (List.mem_append_left _ (List.mem_reverse.mpr hv)), hoks _ (List.mem_append_right _ List.mem_cons_self), fun v hv => hoks v (List.mem_append_right _ (List.mem_cons_of_mem _ hv))⟩
  obtain ⟨hoks0, hoka, hoks2⟩ := hoks1
  obtain ⟨hlive, htg⟩ := okv_at hoka (by omega) ha
  obtain ⟨V, hnd, hV, hV0, hPh, hD, hcl⟩ := id hW
  obtain ⟨cr, hTa⟩ := tg_obj htg (fun x hx => hT a x hx)
  obtain ⟨q, hq, hq2⟩ := ws_at (ρ := ρ) (ca := ca) (T := T) (σ := σ) ((hV a).mpr hlive)
  rw [hTa] at hq2
  have hM := hP _ _ _ h l D ca n0 ρ
  have hva : am_val ρ (16 + c, a) = .ref (ρ a) := am_val_p ρ (by omega) ha
  have hrun := va_runV (g := F0 m pc LS ((av.reverse ++ (16 + c, a) :: st').map (am_val ρ))) (cells := kk) (slots := n) (locs := locs) (below := below) (meth := meth) (e := e) (p := p) (As := av.map (am_val ρ)) (rest := st'.map (am_val ρ)) (b := ρ a) ⟨hx, hb, hml, hown, hts⟩ hM ⟨hL.B (d := dd) (mc := mc) (ms := ms) hts hdd, hts _ hin, hts _ hse⟩
    ⟨amPc.blind, va_recv hK0 hPh hc hq2, fun U hU hWm => ⟨by rw [List.map_cons, hva], by rw [hU]; exact Nat.le_trans hA0 hS.1, by rw [hU]; exact hW, va_K.moved hWm.alike hK0, hst0.move hWm (fun b h1 h2 => by rw [hU]; exact hS.2.1 b h1 h2) hag.2, okl_c.mpr ⟨hoka, hoks0⟩⟩⟩ rfl (by simpa using hlen) hl.1 (by simp [List.map_append, List.map_reverse, hva]) (lv_room (hcat ρ)) hd ⟨by show kk + 0 ≤ mc; omega, by show n + 0 ≤ ms; omega⟩
  refine am_go hrun hS (fun r σ' ρ' H1 locs1 hq hW' hokr hag' hS' => ?_)
  · obtain ⟨hr6, hr7, hKn⟩ := hq
    have := hK _ _ _ _ hKn ρ' H1 locs1 LS kk n hW' hS' (by rw [ag_lvl hag' ls 0 hokl]; exact hl) (fun v hv => okv_ag hag' (hokl v hv)) (okl_c.mpr ⟨hokr, fun v hv => okv_ag hag' (hoks2 v hv)⟩) hk hn (ag_tr hag hag')
    rw [List.map_cons, ag_st hag' hoks2 h67] at this
    have e9 : amQr ρ' r = some (am_val ρ' r) := by unfold amQr; rw [if_neg hr6]
    rw [e9]
    exact this

theorem ok_callS {X : amX} {own : String} {cc : ByteArray} {ret : Option FieldType} {L pc : Nat} (hB : amB X own cc ret L) {y : MethodName} {cy : ByteArray} {maxL d' k index : Nat} {ry : Option FieldType} {P : WP} (hP : ∀ av σ Q, P av σ Q → amCall d' 0 0 (XT X) y cy maxL ry av σ Q) (hL : amLk own index y cy maxL ry k) (hdd : d' + 1 ≤ XD X) (hin : Cond.static y ∈ TBL) (hd : decode cc pc = .ok (.invokestatic index, 3)) : amOK X pc (vCallS P k (pc + 3)) := by
  obtain ⟨p, l, e, s, m, args, below, meth, c0, D, ca, n0, T, ρ0, σ0, dd, mc, ms, nL, Q⟩ := X
  obtain ⟨hx, hb, hr, hml, hnL, hown, hts, hlocks, hK0, hA0, hst0⟩ := hB
  intro K ls st σ hK h ρ H locs LS kk n hW hS hl hokl hoks hk hn hag
  obtain ⟨av, st', rfl, hlen, hac, h⟩ := h
  obtain ⟨h67, hcat⟩ := acok_67 _ _ hac
  have hoks1 : okl T σ av ∧ okl T σ st' := ⟨fun v hv => hoks v (List.mem_append_left _ (List.mem_reverse.mpr hv)), fun v hv => hoks v (List.mem_append_right _ hv)⟩
  obtain ⟨hoks0, hoks2⟩ := hoks1
  have hM := hP _ _ _ h l D ca n0 ρ
  have hrun := va_runS (g := F0 m pc LS ((av.reverse ++ st').map (am_val ρ))) (cells := kk) (slots := n) (locs := locs) (below := below) (meth := meth) (e := e) (p := p) (As := av.map (am_val ρ)) (rest := st'.map (am_val ρ)) ⟨hx, hb, hml, hown, hts⟩ hM ⟨hL.B (d := dd) (mc := mc) (ms := ms) hts hdd, hts _ hin⟩
    ⟨amPc.blind, fun U hU hWm => ⟨rfl, by rw [hU]; exact Nat.le_trans hA0 hS.1, by rw [hU]; exact hW, va_K.moved hWm.alike hK0, hst0.move hWm (fun b h1 h2 => by rw [hU]; exact hS.2.1 b h1 h2) hag.2, hoks0⟩⟩ rfl (by simpa using hlen) hl.1 (by simp [List.map_append, List.map_reverse]) (lv_room (hcat ρ)) hd ⟨by show kk + 0 ≤ mc; omega, by show n + 0 ≤ ms; omega⟩
  refine am_go hrun hS (fun r σ' ρ' H1 locs1 hq hW' hokr hag' hS' => ?_)
  · obtain ⟨hr6, hr7, hKn⟩ := hq
    have := hK _ _ _ _ hKn ρ' H1 locs1 LS kk n hW' hS' (by rw [ag_lvl hag' ls 0 hokl]; exact hl) (fun v hv => okv_ag hag' (hokl v hv)) (okl_c.mpr ⟨hokr, fun v hv => okv_ag hag' (hoks2 v hv)⟩) hk hn (ag_tr hag hag')
    rw [List.map_cons, ag_st hag' hoks2 h67] at this
    have e9 : amQr ρ' r = some (am_val ρ' r) := by unfold amQr; rw [if_neg hr6]
    rw [e9]
    exact this

theorem ok_callMV {X : amX} {own : String} {cc : ByteArray} {ret : Option FieldType} {L pc : Nat} (hB : amB X own cc ret L) (hT : amTok (XT X)) {y : MethodName} {cy : ByteArray} {maxL d' k index : Nat} {ry : Option FieldType} {P : WP} (hP : ∀ av σ Q, P av σ Q → amCall d' 0 0 (XT X) y cy maxL ry av σ Q) (hL : amLk own index y cy maxL ry k) (hdd : d' + 1 ≤ XD X) {c t : Nat} {C : String} {Tt : u_T} {N : Nat} (hc : vwCl[c]? = some (C, Tt, N)) (ht : t = 16 + c) (hC : y.cls = C) (hin : Cond.instanceMethod y ∈ TBL) (hse : Cond.selects C y y ∈ TBL) (hd : decode cc pc = .ok (.invokevirtual index, 3)) : amOK X pc (vCallMV P t k (pc + 3)) := by
  obtain ⟨p, l, e, s, m, args, below, meth, c0, D, ca, n0, T, ρ0, σ0, dd, mc, ms, nL, Q⟩ := X
  obtain ⟨hx, hb, hr, hml, hnL, hown, hts, hlocks, hK0, hA0, hst0⟩ := hB
  intro K ls st σ hK h ρ H locs LS kk n hW hS hl hokl hoks hk hn hag
  obtain ⟨a, av, st', rfl, hlen, ha, hac, h⟩ := h
  subst ht
  obtain ⟨h67, hcat⟩ := acok_67 _ _ hac
  have hoks1 : okl T σ av ∧ okv T σ (16 + c, a) ∧ okl T σ st' := ⟨fun v hv => hoks v (List.mem_append_left _ (List.mem_reverse.mpr hv)), hoks _ (List.mem_append_right _ List.mem_cons_self), fun v hv => hoks v (List.mem_append_right _ (List.mem_cons_of_mem _ hv))⟩
  obtain ⟨hoks0, hoka, hoks2⟩ := hoks1
  obtain ⟨hlive, htg⟩ := okv_at hoka (by omega) ha
  obtain ⟨V, hnd, hV, hV0, hPh, hD, hcl⟩ := id hW
  obtain ⟨cr, hTa⟩ := tg_obj htg (fun x hx => hT a x hx)
  obtain ⟨q, hq, hq2⟩ := ws_at (ρ := ρ) (ca := ca) (T := T) (σ := σ) ((hV a).mpr hlive)
  rw [hTa] at hq2
  have hM := hP _ _ _ h l D ca n0 ρ
  have hva : am_val ρ (16 + c, a) = .ref (ρ a) := am_val_p ρ (by omega) ha
  have hrun := va_runV (g := F0 m pc LS ((av.reverse ++ (16 + c, a) :: st').map (am_val ρ))) (cells := kk) (slots := n) (locs := locs) (below := below) (meth := meth) (e := e) (p := p) (As := av.map (am_val ρ)) (rest := st'.map (am_val ρ)) (b := ρ a) ⟨hx, hb, hml, hown, hts⟩ hM ⟨hL.B (d := dd) (mc := mc) (ms := ms) hts hdd, hts _ hin, hts _ hse⟩
    ⟨amPc.blind, va_recv hK0 hPh hc hq2, fun U hU hWm => ⟨by rw [List.map_cons, hva], by rw [hU]; exact Nat.le_trans hA0 hS.1, by rw [hU]; exact hW, va_K.moved hWm.alike hK0, hst0.move hWm (fun b h1 h2 => by rw [hU]; exact hS.2.1 b h1 h2) hag.2, okl_c.mpr ⟨hoka, hoks0⟩⟩⟩ rfl (by simpa using hlen) hl.1 (by simp [List.map_append, List.map_reverse, hva]) (lv_room (hcat ρ)) hd ⟨by show kk + 0 ≤ mc; omega, by show n + 0 ≤ ms; omega⟩
  refine am_go hrun hS (fun r σ' ρ' H1 locs1 hq hW' hokr hag' hS' => ?_)
  · obtain ⟨hr6, hKn⟩ := hq
    have := hK _ _ _ _ hKn ρ' H1 locs1 LS kk n hW' hS' (by rw [ag_lvl hag' ls 0 hokl]; exact hl) (fun v hv => okv_ag hag' (hokl v hv)) (fun v hv => okv_ag hag' (hoks2 v hv)) hk hn (ag_tr hag hag')
    rw [ag_st hag' hoks2 h67] at this
    have e9 : amQr ρ' r = none := by unfold amQr; rw [if_pos hr6]
    rw [e9]
    exact this

theorem ok_callSV {X : amX} {own : String} {cc : ByteArray} {ret : Option FieldType} {L pc : Nat} (hB : amB X own cc ret L) {y : MethodName} {cy : ByteArray} {maxL d' k index : Nat} {ry : Option FieldType} {P : WP} (hP : ∀ av σ Q, P av σ Q → amCall d' 0 0 (XT X) y cy maxL ry av σ Q) (hL : amLk own index y cy maxL ry k) (hdd : d' + 1 ≤ XD X) (hin : Cond.static y ∈ TBL) (hd : decode cc pc = .ok (.invokestatic index, 3)) : amOK X pc (vCallSV P k (pc + 3)) := by
  obtain ⟨p, l, e, s, m, args, below, meth, c0, D, ca, n0, T, ρ0, σ0, dd, mc, ms, nL, Q⟩ := X
  obtain ⟨hx, hb, hr, hml, hnL, hown, hts, hlocks, hK0, hA0, hst0⟩ := hB
  intro K ls st σ hK h ρ H locs LS kk n hW hS hl hokl hoks hk hn hag
  obtain ⟨av, st', rfl, hlen, hac, h⟩ := h
  obtain ⟨h67, hcat⟩ := acok_67 _ _ hac
  have hoks1 : okl T σ av ∧ okl T σ st' := ⟨fun v hv => hoks v (List.mem_append_left _ (List.mem_reverse.mpr hv)), fun v hv => hoks v (List.mem_append_right _ hv)⟩
  obtain ⟨hoks0, hoks2⟩ := hoks1
  have hM := hP _ _ _ h l D ca n0 ρ
  have hrun := va_runS (g := F0 m pc LS ((av.reverse ++ st').map (am_val ρ))) (cells := kk) (slots := n) (locs := locs) (below := below) (meth := meth) (e := e) (p := p) (As := av.map (am_val ρ)) (rest := st'.map (am_val ρ)) ⟨hx, hb, hml, hown, hts⟩ hM ⟨hL.B (d := dd) (mc := mc) (ms := ms) hts hdd, hts _ hin⟩
    ⟨amPc.blind, fun U hU hWm => ⟨rfl, by rw [hU]; exact Nat.le_trans hA0 hS.1, by rw [hU]; exact hW, va_K.moved hWm.alike hK0, hst0.move hWm (fun b h1 h2 => by rw [hU]; exact hS.2.1 b h1 h2) hag.2, hoks0⟩⟩ rfl (by simpa using hlen) hl.1 (by simp [List.map_append, List.map_reverse]) (lv_room (hcat ρ)) hd ⟨by show kk + 0 ≤ mc; omega, by show n + 0 ≤ ms; omega⟩
  refine am_go hrun hS (fun r σ' ρ' H1 locs1 hq hW' hokr hag' hS' => ?_)
  · obtain ⟨hr6, hKn⟩ := hq
    have := hK _ _ _ _ hKn ρ' H1 locs1 LS kk n hW' hS' (by rw [ag_lvl hag' ls 0 hokl]; exact hl) (fun v hv => okv_ag hag' (hokl v hv)) (fun v hv => okv_ag hag' (hoks2 v hv)) hk hn (ag_tr hag hag')
    rw [ag_st hag' hoks2 h67] at this
    have e9 : amQr ρ' r = none := by unfold amQr; rw [if_pos hr6]
    rw [e9]
    exact this

