/-! methods: from a table of instructions to a contract -/
def vcs (A : Nat → VT) (cuts : List Nat) (I : Nat → List AV → List AV → Mem → Prop) (Q : AV → Mem → Prop) : Nat → Nat → List AV → List AV → Mem → Prop
  | 0, _, _, _, _ => False
  | f + 1, pc, ls, st, σ => if cuts.contains pc = true then I pc ls st σ else A pc Q (vcs A cuts I Q f) ls st σ
theorem vcs_e (A : Nat → VT) (cuts : List Nat) (I) (Q) (f pc : Nat) (ls st : List AV) (σ : Mem) : vcs A cuts I Q (f + 1) pc ls st σ = if cuts.contains pc = true then I pc ls st σ else A pc Q (vcs A cuts I Q f) ls st σ := rfl
theorem vcs_sound {X : amX} {A : Nat → VT} {cuts : List Nat} {I : Nat → List AV → List AV → Mem → Prop} (hA : ∀ pc, amOK X pc (A pc)) (hI : ∀ pc ls st σ, I pc ls st σ → amJ X pc ls st σ) :
    ∀ (f pc : Nat) (ls st : List AV) (σ : Mem), vcs A cuts I (amXQ X) f pc ls st σ → amJ X pc ls st σ := by
  intro f
  induction f with
  | zero => intro pc ls st σ h; exact absurd h id
  | succ f ih =>
    intro pc ls st σ h
    rw [vcs_e] at h
    split at h
    · exact hI _ _ _ _ h
    · exact hA pc _ _ _ _ ih h
theorem loop_sound {X : amX} {A : Nat → VT} {cuts : List Nat} {INV : Nat → Nat → List AV → List AV → Mem → Prop} (hA : ∀ pc, amOK X pc (A pc))
    (hb : ∀ n pc ls st σ, INV n pc ls st σ → ∃ f, A pc (amXQ X) (vcs A cuts (fun pc ls st σ => ∃ k, k < n ∧ INV k pc ls st σ) (amXQ X) f) ls st σ) :
    ∀ n pc ls st σ, INV n pc ls st σ → amJ X pc ls st σ := by
  intro n
  induction n using Nat.strongRecOn with
  | ind n ih =>
    intro pc ls st σ h
    obtain ⟨f, hf⟩ := hb n pc ls st σ h
    exact hA pc _ _ _ _ (vcs_sound hA (fun pc' ls' st' σ' ⟨k, hk, hi⟩ => ih k hk pc' ls' st' σ' hi) f) hf
/-- the locals at the entry -/
def entA : List AV → List AV
  | [] => []
  | v :: l => if v.1 = 1 then v :: (7, 0) :: entA l else v :: entA l
def entl (av : List AV) (w : Nat) : List AV := entA av ++ List.replicate (w - (entA av).length) (6, 0)
theorem lvl_app (ρ : Int → Nat) : ∀ (a b : List AV) (i : Nat), lvl ρ i (a ++ b) = lvl ρ i a ++ lvl ρ (i + a.length) b := by
  intro a
  induction a with
  | nil => intro b i; rfl
  | cons v a ih =>
    intro b i
    simp only [List.cons_append, lvl, List.length_cons, ih b (i + 1), show i + 1 + a.length = i + (a.length + 1) by omega]
    split <;> rfl
theorem lvl_rep (ρ : Int → Nat) : ∀ (n i : Nat) (z : Int), lvl ρ i (List.replicate n (6, z)) = [] := by
  intro n
  induction n with
  | zero => intro i z; rfl
  | succ n ih => intro i z; simp [List.replicate_succ, lvl, ih]
theorem cat_2 (ρ : Int → Nat) (z : Int) : (am_val ρ (1, z)).category = 2 := rfl
theorem ent_args (ρ : Int → Nat) : ∀ (av : List AV) (i : Nat), (∀ v ∈ av, v.1 ≠ 6 ∧ v.1 ≠ 7) → lvl ρ i (entA av) = lv_args i (av.map (am_val ρ)) := by
  intro av
  induction av with
  | nil => intro i _; rfl
  | cons v av ih =>
    intro i h
    obtain ⟨h6, h7⟩ := h v List.mem_cons_self
    have ih' := fun j => ih j (fun w hw => h w (List.mem_cons_of_mem _ hw))
    obtain ⟨t, z⟩ := v
    by_cases h1 : t = 1
    · subst h1
      simp only [entA, if_true, lvl, List.map_cons, lv_args, cat_2, ih']
      simp
    · have hc := am_cat ρ (v := (t, z)) h1
      simp only [entA, List.map_cons, lv_args, hc]
      rw [if_neg h1]
      simp only [lvl]
      rw [if_neg (by rintro (h | h); exact h6 h; exact h7 h), ih']
      simp
theorem ent_len (ρ : Int → Nat) : ∀ (av : List AV), (lg_sl (av.map (am_val ρ))).length = (entA av).length := by
  intro av
  induction av with
  | nil => rfl
  | cons v av ih =>
    obtain ⟨t, z⟩ := v
    unfold lg_sl at ih ⊢
    simp only [List.map_cons, List.flatMap_cons, List.length_append, ih]
    by_cases h1 : t = 1
    · subst h1
      simp only [cat_2, entA, if_true, List.length_cons, List.length_nil]; omega
    · simp only [am_cat ρ (v := (t, z)) h1, entA]
      rw [if_neg h1, if_neg (by decide)]
      simp only [List.length_cons, List.length_nil]; omega
theorem entA_ok {T : Int → Kd} {σ : Mem} : ∀ (av : List AV), okl T σ av → okl T σ (entA av) := by
  intro av
  induction av with
  | nil => intro _; exact okl_nil
  | cons v av ih =>
    intro h
    obtain ⟨h1, h2⟩ := okl_c.mp h
    unfold entA
    split
    · exact okl_c.mpr ⟨h1, okl_c.mpr ⟨okv_s (by decide), ih h2⟩⟩
    · exact okl_c.mpr ⟨h1, ih h2⟩
theorem ent_lg {av : List AV} {w n : Nat} (h : (entA av).length ≤ n) : lg (entl av w) n = (6, 0) := by
  unfold lg entl
  rw [List.getD_eq_getElem?_getD, List.getElem?_append_right h, List.getElem?_replicate]
  split <;> rfl
theorem am_method {d mc ms : Nat} {T : Int → Kd} {y : MethodName} {cc : ByteArray} {maxL w : Nat} {ret : Option FieldType} {av : List AV} {σ0 : Mem} {Q : AV → Mem → Prop} {A : Nat → VT} {cuts : List Nat} {INV : Nat → Nat → List AV → List AV → Mem → Prop}
    (hy : plainFor y = true) (hA : ∀ X : amX, XT X = T → XD X = d → amB X y.cls cc ret maxL → ∀ pc, amOK X pc (A pc)) (hav : (entA av).length ≤ maxL) (h67 : ∀ v ∈ av, v.1 ≠ 6 ∧ v.1 ≠ 7)
    (hb : ∀ n pc ls st σ, INV n pc ls st σ → ∃ f, A pc Q (vcs A cuts (fun pc ls st σ => ∃ k, k < n ∧ INV k pc ls st σ) Q f) ls st σ)
    (he : ∃ f, vcs A cuts (fun pc ls st σ => ∃ n, INV n pc ls st σ) Q f 0 (entl av w) [] σ0) : amCall d mc ms T y cc maxL ret av σ0 Q := by
  intro l D ca n0 ρ0
  refine va_MetF (cc := cc) (maxL := maxL) (ret := ret) hy rfl ?_
  intro p e s m args below meth c s₁ B hml hv
  obtain ⟨rfl, hn0, hW, hK0, hst, hok⟩ := hv
  have hts0 := atoms_spec (ws := .code y cc maxL ret :: TBL) B.pre
  have hB : amB (p, l, e, s, m, (av.map (am_val ρ0)).toArray, below, meth, c, D, ca, n0, T, ρ0, σ0, d, mc, ms, maxL, Q) y.cls cc ret maxL :=
    ⟨B.exec, B.bytes, B.returns, hml, rfl, findClass_of_methodNamed B.named, fun w hw => hts0 w (List.mem_cons_of_mem _ hw), B.notSynchronized, hK0, hn0, hst⟩
  have hA' := hA _ rfl rfl hB
  obtain ⟨f, hf⟩ := he
  have hJ := vcs_sound hA' (fun pc ls st σ ⟨n, hi⟩ => loop_sound hA' hb n pc ls st σ hi) f 0 _ _ _ hf
  rw [lg_entry_eq]
  have hl := lv_entry (av.map (am_val ρ0)) (n := maxL) (by rw [ent_len]; exact hav)
  refine hJ ρ0 s.heap [] _ 0 0 hW va_S.rf (lv_mono hl ?_) ?_ okl_nil ?_ ?_ ⟨fun a ha => ⟨ha, rfl⟩, fun _ _ => rfl⟩
  · intro q hq
    unfold entl at hq
    rw [lvl_app, lvl_rep, List.append_nil, ent_args ρ0 av 0 h67] at hq
    exact hq
  · intro v hv
    rcases List.mem_append.mp hv with h | h
    · exact entA_ok av hok v h
    · rw [(List.mem_replicate.mp h).2]; exact okv_s (by decide)
  · rw [ent_lg hav]; exact ⟨Int.le_refl _, Int.natCast_nonneg _⟩
  · rw [ent_lg (by omega)]; exact ⟨Int.le_refl _, Int.natCast_nonneg _⟩
/-- a table of instructions -/
abbrev AC : Type := List (Nat × VT)
def look (L : AC) (pc : Nat) : VT := match L.find? (fun q => q.1 == pc) with
  | some q => q.2
  | none => fun _ _ _ _ _ => False
theorem look_ok {X : amX} {L : AC} (h : ∀ q ∈ L, amOK X q.1 q.2) (pc : Nat) : amOK X pc (look L pc) := by
  unfold look
  cases hf : L.find? (fun q => q.1 == pc) with
  | none => intro K ls st σ _ h; exact absurd h id
  | some q =>
    have h1 := List.find?_some hf
    have h2 := List.mem_of_find?_eq_some hf
    have : q.1 = pc := by simpa using h1
    exact this ▸ h q h2
