/-! the start -/
def FL : List Cond := flatC (Jvm.Cond.and given_1 narrow_1)
theorem st_of {s : State} {args : Array Value} (hF : ∀ c ∈ FL, c.before args s = true) {A : Nat → Prop} (hA : ∀ a : Nat, a < s.heap.size → ¬ A a) (own : String) (k : Nat) (l : List Int) (h1 : Cond.exactly (.string own k) "java/lang/String" ∈ FL) (h2 : Cond.eq (.field (.string own k) "java/lang/String" "coder" "B") (.int 0) ∈ FL) (h3 : Cond.arrayOf (.field (.string own k) "java/lang/String" "value" "[B") .byte ∈ FL) (h4 : Cond.eq (.length (.field (.string own k) "java/lang/String" "value" "[B")) (.int (Int32.ofNat l.length)) ∈ FL) (h5 : ∀ j : Nat, j < l.length → Cond.eq (.elem (.field (.string own k) "java/lang/String" "value" "[B") (.int (Int32.ofNat j))) (.int (Int32.ofInt (l.getD j 0))) ∈ FL) (hN : l.length < 2 ^ 31) :
    ∃ q : Nat × Nat, (Term.string own k).eval args s none [] s = some (.ref q.1) ∧ va_O "java/lang/String" q.1 A s s.heap ∧ va_OF "java/lang/String" "coder" "B" (.int 0) q.1 A s s.heap ∧ va_OF "java/lang/String" "value" "[B" (.ref q.2) q.1 A s s.heap ∧ va_T .byte q.2 l.length (fun j => .int (Int32.ofInt (l.getD j 0))) A s s.heap := by
  obtain ⟨a, c, cA, kA, q1, -⟩ := Cond.exactly_spec (args := args) (first := s) (o := none) (s := s) (idx := []) (t := .string own k) (cls := "java/lang/String") (hF _ h1)
  obtain ⟨t, ht, hT⟩ := va_Tof (f := fun j => .int (Int32.ofInt (l.getD j 0))) (A := A) hN (hF _ h3) (va_eqt (hF _ h4)) (fun j hj => va_eqt (hF _ (h5 j hj))) hA
  exact ⟨(a, t), q1, va_Oof (hF _ h1) q1 hA, vk_OFof q1 (va_eqt (hF _ h2)) hA, vk_OFof q1 ht hA, hT⟩
theorem sa_of {s : State} {args : Array Value} (hF : ∀ c ∈ FL, c.before args s = true) (hts : ∀ w ∈ lw_tbl, w.before args s = true) {A : Nat → Prop} (hA : ∀ a : Nat, a < s.heap.size → ¬ A a) (nm : String) (l : List Int) (h0 : Cond.laysStatic "ArmchairHouse$Plan" nm "[I" ∈ lw_tbl) (h1 : Cond.initialized "ArmchairHouse$Plan" ∈ lw_tbl) (h3 : Cond.arrayOf (.static "ArmchairHouse$Plan" nm "[I") .int ∈ FL) (h4 : Cond.eq (.length (.static "ArmchairHouse$Plan" nm "[I")) (.int (Int32.ofNat l.length)) ∈ FL) (h5 : ∀ j : Nat, j < l.length → Cond.eq (.elem (.static "ArmchairHouse$Plan" nm "[I") (.int (Int32.ofNat j))) (.int (Int32.ofInt (l.getD j 0))) ∈ FL) (hN : l.length < 2 ^ 31) :
    ∃ q : Nat, va_Z "ArmchairHouse$Plan" nm "[I" (.ref q) A s s.heap ∧ va_T .int q l.length (fun j => .int (Int32.ofInt (l.getD j 0))) A s s.heap := by
  obtain ⟨t, ht, hT⟩ := va_Tof (f := fun j => .int (Int32.ofInt (l.getD j 0))) (A := A) hN (hF _ h3) (va_eqt (hF _ h4)) (fun j hj => va_eqt (hF _ (h5 j hj))) hA
  exact ⟨t, va_Zof (hts _ h0) (hts _ h1) ht hA, hT⟩
theorem st_all {s : State} {args : Array Value} (hF : ∀ c ∈ FL, c.before args s = true) (hts : ∀ w ∈ lw_tbl, w.before args s = true) {A : Nat → Prop} (hA : ∀ a : Nat, a < s.heap.size → ¬ A a) : ∀ k : Nat, ∃ r : Nat × Nat, ∀ q, amStr[k]? = some q → vk_R q.1 q.2.1 q.2.2.1 r.1 s ∧ va_O "java/lang/String" r.1 A s s.heap ∧ va_OF "java/lang/String" "coder" "B" (.int 0) r.1 A s s.heap ∧ va_OF "java/lang/String" "value" "[B" (.ref r.2) r.1 A s s.heap ∧ va_T .byte r.2 q.2.2.2.length (fun j => .int (Int32.ofInt (q.2.2.2.getD j 0))) A s s.heap := by
  intro k
  match k with
  | 0 =>
    obtain ⟨r, h1, h2, h3, h4, h5⟩ := st_of hF hA "ArmchairHouse$Plan" 49 [115, 112, 99, 116] (by decide +kernel) (by decide +kernel) (by decide +kernel) (by decide +kernel) (by decide +kernel) (by decide)
    exact ⟨r, fun q hq => by cases hq; exact ⟨vk_R.of (hts (.stringRef "ArmchairHouse$Plan" 49 "spct") (by decide +kernel)) h1, h2, h3, h4, h5⟩⟩
  | 1 =>
    obtain ⟨r, h1, h2, h3, h4, h5⟩ := st_of hF hA "ArmchairHouse$Plan" 88 [108, 112, 32, 32, 97, 98, 99, 109, 104, 116, 109, 32, 100, 32, 32, 32] (by decide +kernel) (by decide +kernel) (by decide +kernel) (by decide +kernel) (by decide +kernel) (by decide)
    exact ⟨r, fun q hq => by cases hq; exact ⟨vk_R.of (hts (.stringRef "ArmchairHouse$Plan" 88 "lp  abcmhtm d   ") (by decide +kernel)) h1, h2, h3, h4, h5⟩⟩
  | 2 =>
    obtain ⟨r, h1, h2, h3, h4, h5⟩ := st_of hF hA "ArmchairHouse$LawReader" 111 [102, 104, 100, 110, 107, 101] (by decide +kernel) (by decide +kernel) (by decide +kernel) (by decide +kernel) (by decide +kernel) (by decide)
    exact ⟨r, fun q hq => by cases hq; exact ⟨vk_R.of (hts (.stringRef "ArmchairHouse$LawReader" 111 "fhdnke") (by decide +kernel)) h1, h2, h3, h4, h5⟩⟩
  | 3 =>
    obtain ⟨r, h1, h2, h3, h4, h5⟩ := st_of hF hA "ArmchairHouse$Seasons" 39 [101, 120, 105] (by decide +kernel) (by decide +kernel) (by decide +kernel) (by decide +kernel) (by decide +kernel) (by decide)
    exact ⟨r, fun q hq => by cases hq; exact ⟨vk_R.of (hts (.stringRef "ArmchairHouse$Seasons" 39 "exi") (by decide +kernel)) h1, h2, h3, h4, h5⟩⟩
  | 4 =>
    obtain ⟨r, h1, h2, h3, h4, h5⟩ := st_of hF hA "ArmchairHouseModel" 26 [121] (by decide +kernel) (by decide +kernel) (by decide +kernel) (by decide +kernel) (by decide +kernel) (by decide)
    exact ⟨r, fun q hq => by cases hq; exact ⟨vk_R.of (hts (.stringRef "ArmchairHouseModel" 26 "y") (by decide +kernel)) h1, h2, h3, h4, h5⟩⟩
  | 5 =>
    obtain ⟨r, h1, h2, h3, h4, h5⟩ := st_of hF hA "ArmchairHouseModel" 32 [102, 104, 100, 110, 107, 101] (by decide +kernel) (by decide +kernel) (by decide +kernel) (by decide +kernel) (by decide +kernel) (by decide)
    exact ⟨r, fun q hq => by cases hq; exact ⟨vk_R.of (hts (.stringRef "ArmchairHouseModel" 32 "fhdnke") (by decide +kernel)) h1, h2, h3, h4, h5⟩⟩
  | 6 =>
    obtain ⟨r, h1, h2, h3, h4, h5⟩ := st_of hF hA "ArmchairHouseModel" 269 [108, 112] (by decide +kernel) (by decide +kernel) (by decide +kernel) (by decide +kernel) (by decide +kernel) (by decide)
    exact ⟨r, fun q hq => by cases hq; exact ⟨vk_R.of (hts (.stringRef "ArmchairHouseModel" 269 "lp") (by decide +kernel)) h1, h2, h3, h4, h5⟩⟩
  | 7 =>
    obtain ⟨r, h1, h2, h3, h4, h5⟩ := st_of hF hA "ArmchairHouseModel" 275 [97, 98, 99, 109] (by decide +kernel) (by decide +kernel) (by decide +kernel) (by decide +kernel) (by decide +kernel) (by decide)
    exact ⟨r, fun q hq => by cases hq; exact ⟨vk_R.of (hts (.stringRef "ArmchairHouseModel" 275 "abcm") (by decide +kernel)) h1, h2, h3, h4, h5⟩⟩
  | 8 =>
    obtain ⟨r, h1, h2, h3, h4, h5⟩ := st_of hF hA "ArmchairHouseModel" 277 [104, 116, 109] (by decide +kernel) (by decide +kernel) (by decide +kernel) (by decide +kernel) (by decide +kernel) (by decide)
    exact ⟨r, fun q hq => by cases hq; exact ⟨vk_R.of (hts (.stringRef "ArmchairHouseModel" 277 "htm") (by decide +kernel)) h1, h2, h3, h4, h5⟩⟩
  | 9 =>
    obtain ⟨r, h1, h2, h3, h4, h5⟩ := st_of hF hA "ArmchairHouseModel" 279 [100] (by decide +kernel) (by decide +kernel) (by decide +kernel) (by decide +kernel) (by decide +kernel) (by decide)
    exact ⟨r, fun q hq => by cases hq; exact ⟨vk_R.of (hts (.stringRef "ArmchairHouseModel" 279 "d") (by decide +kernel)) h1, h2, h3, h4, h5⟩⟩
  | 10 =>
    obtain ⟨r, h1, h2, h3, h4, h5⟩ := st_of hF hA "ArmchairHouseModel" 287 [101, 120, 105] (by decide +kernel) (by decide +kernel) (by decide +kernel) (by decide +kernel) (by decide +kernel) (by decide)
    exact ⟨r, fun q hq => by cases hq; exact ⟨vk_R.of (hts (.stringRef "ArmchairHouseModel" 287 "exi") (by decide +kernel)) h1, h2, h3, h4, h5⟩⟩
  | k + 11 => exact ⟨(0, 0), fun q hq => by simp [amStr] at hq⟩
theorem sa_all {s : State} {args : Array Value} (hF : ∀ c ∈ FL, c.before args s = true) (hts : ∀ w ∈ lw_tbl, w.before args s = true) {A : Nat → Prop} (hA : ∀ a : Nat, a < s.heap.size → ¬ A a) : ∀ k : Nat, ∃ r : Nat, ∀ q, amSA[k]? = some q → va_Z "ArmchairHouse$Plan" q.1 "[I" (.ref r) A s s.heap ∧ va_T .int r q.2.length (fun j => .int (Int32.ofInt (q.2.getD j 0))) A s s.heap := by
  intro k
  match k with
  | 0 =>
    obtain ⟨r, h1, h2⟩ := sa_of hF hts hA "LOWEST" [1, 0, 0, 0, 0, 0, 0, 1, 0, 0, 0, 0, 0, 0, 0, 0] (by decide +kernel) (by decide +kernel) (by decide +kernel) (by decide +kernel) (by decide +kernel) (by decide)
    exact ⟨r, fun q hq => by cases hq; exact ⟨h1, h2⟩⟩
  | 1 =>
    obtain ⟨r, h1, h2⟩ := sa_of hF hts hA "HIGHEST" [99, 30, 0, 0, 9, 9, 9, 9, 9, 5, 99, 0, 9, 0, 0, 0] (by decide +kernel) (by decide +kernel) (by decide +kernel) (by decide +kernel) (by decide +kernel) (by decide)
    exact ⟨r, fun q hq => by cases hq; exact ⟨h1, h2⟩⟩
  | 2 =>
    obtain ⟨r, h1, h2⟩ := sa_of hF hts hA "UNTOLD" [12, 5, 0, 0, 3, 3, 3, 3, 5, 0, 20, 0, 2, 0, 0, 0] (by decide +kernel) (by decide +kernel) (by decide +kernel) (by decide +kernel) (by decide +kernel) (by decide)
    exact ⟨r, fun q hq => by cases hq; exact ⟨h1, h2⟩⟩
  | 3 =>
    obtain ⟨r, h1, h2⟩ := sa_of hF hts hA "MOST" [1, 4, 6, 6] (by decide +kernel) (by decide +kernel) (by decide +kernel) (by decide +kernel) (by decide +kernel) (by decide)
    exact ⟨r, fun q hq => by cases hq; exact ⟨h1, h2⟩⟩
  | 4 =>
    obtain ⟨r, h1, h2⟩ := sa_of hF hts hA "FIRST_ROW" [0, 1, 5, 11] (by decide +kernel) (by decide +kernel) (by decide +kernel) (by decide +kernel) (by decide +kernel) (by decide)
    exact ⟨r, fun q hq => by cases hq; exact ⟨h1, h2⟩⟩
  | k + 5 => exact ⟨0, fun q hq => by simp [amSA] at hq⟩
theorem cl_all {s : State} {args : Array Value} (hts : ∀ w ∈ lw_tbl, w.before args s = true) : ∃ D : va_G, ∀ (c : Nat) (q : vw_C), vwCl[c]? = some q → u_Kn s q.1 q.2.1 q.2.2 (D.1 c) (D.2 c) := by
  have hT : ∀ w ∈ TBL, w.before args s = true := fun w hw => hts w (List.mem_filter.mp hw).1
  have h : ∀ c : Nat, ∃ r : ClassId × (Nat → Nat), ∀ q, vwCl[c]? = some q → u_Kn s q.1 q.2.1 q.2.2 r.1 r.2 := by
    intro c
    match c with
    | 0 =>
      obtain ⟨a, b, h⟩ := u_known (C := RX0) (T := TX0) (N := 7) (n := 7) hT inT_0 (hts (.instantiable RX0 7) (by decide +kernel))
      exact ⟨(a, b), fun q hq => by cases hq; exact h⟩
    | 1 =>
      obtain ⟨a, b, h⟩ := u_known (C := RX1) (T := TX1) (N := 5) (n := 5) hT inT_1 (hts (.instantiable RX1 5) (by decide +kernel))
      exact ⟨(a, b), fun q hq => by cases hq; exact h⟩
    | 2 =>
      obtain ⟨a, b, h⟩ := u_known (C := RX2) (T := TX2) (N := 2) (n := 2) hT inT_2 (hts (.instantiable RX2 2) (by decide +kernel))
      exact ⟨(a, b), fun q hq => by cases hq; exact h⟩
    | 3 =>
      obtain ⟨a, b, h⟩ := u_known (C := RX3) (T := TX3) (N := 12) (n := 12) hT inT_3 (hts (.instantiable RX3 12) (by decide +kernel))
      exact ⟨(a, b), fun q hq => by cases hq; exact h⟩
    | 4 =>
      obtain ⟨a, b, h⟩ := u_known (C := RX4) (T := TX4) (N := 3) (n := 3) hT inT_4 (hts (.instantiable RX4 3) (by decide +kernel))
      exact ⟨(a, b), fun q hq => by cases hq; exact h⟩
    | 5 =>
      obtain ⟨a, b, h⟩ := u_known (C := RX5) (T := TX5) (N := 9) (n := 9) hT inT_5 (hts (.instantiable RX5 9) (by decide +kernel))
      exact ⟨(a, b), fun q hq => by cases hq; exact h⟩
    | 6 =>
      obtain ⟨a, b, h⟩ := u_known (C := RX6) (T := TX6) (N := 2) (n := 2) hT inT_6 (hts (.instantiable RX6 2) (by decide +kernel))
      exact ⟨(a, b), fun q hq => by cases hq; exact h⟩
    | 7 =>
      obtain ⟨a, b, h⟩ := u_known (C := RX7) (T := TX7) (N := 4) (n := 4) hT inT_7 (hts (.instantiable RX7 4) (by decide +kernel))
      exact ⟨(a, b), fun q hq => by cases hq; exact h⟩
    | 8 =>
      obtain ⟨a, b, h⟩ := u_known (C := RX8) (T := TX8) (N := 4) (n := 4) hT inT_8 (hts (.instantiable RX8 4) (by decide +kernel))
      exact ⟨(a, b), fun q hq => by cases hq; exact h⟩
    | 9 =>
      obtain ⟨a, b, h⟩ := u_known (C := RX9) (T := TX9) (N := 9) (n := 9) hT inT_9 (hts (.instantiable RX9 9) (by decide +kernel))
      exact ⟨(a, b), fun q hq => by cases hq; exact h⟩
    | 10 =>
      obtain ⟨a, b, h⟩ := u_known (C := RX10) (T := TX10) (N := 3) (n := 3) hT inT_10 (hts (.instantiable RX10 3) (by decide +kernel))
      exact ⟨(a, b), fun q hq => by cases hq; exact h⟩
    | 11 =>
      obtain ⟨a, b, h⟩ := u_known (C := RX11) (T := TX11) (N := 17) (n := 17) hT inT_11 (hts (.instantiable RX11 17) (by decide +kernel))
      exact ⟨(a, b), fun q hq => by cases hq; exact h⟩
    | 12 =>
      obtain ⟨a, b, h⟩ := u_known (C := RX12) (T := TX12) (N := 57) (n := 57) hT inT_12 (hts (.instantiable RX12 57) (by decide +kernel))
      exact ⟨(a, b), fun q hq => by cases hq; exact h⟩
    | c + 13 => exact ⟨(0, fun _ => 0), fun q hq => by simp at hq⟩
  obtain ⟨f, hf⟩ := Classical.axiomOfChoice h
  exact ⟨(fun c => (f c).1, fun c => (f c).2), fun c q hq => hf c q hq⟩
theorem ty_all {s : State} {args : Array Value} (hts : ∀ w ∈ lw_tbl, w.before args s = true) : ∃ ca : Nat → ClassId, ∀ (k : Nat) (q : ClassId × FieldType), (amTys ca)[k]? = some q → ArrOfT s q.1 q.2 ∧ va_RA s q.1 q.2 := by
  obtain ⟨c8, k8, m8, f8, g8, d8⟩ := Cond.arrayClass_spec (hts (.arrayClass .int) (by decide +kernel))
  obtain ⟨c9, k9, m9, f9, g9, d9⟩ := Cond.arrayClass_spec (hts (.arrayClass .long) (by decide +kernel))
  obtain ⟨c10, k10, m10, f10, g10, d10⟩ := Cond.arrayClass_spec (hts (.arrayClass .byte) (by decide +kernel))
  obtain ⟨m11, c11, k11, n11, i11, g11, d11, f11⟩ := Cond.arrayOver_spec (hts (.arrayOver (.object "ArmchairHouse$Law")) (by decide +kernel))
  refine ⟨fun k => if k = 8 then c8 else if k = 9 then c9 else if k = 10 then c10 else c11, fun k q hq => ?_⟩
  match k, hq with
  | 0, hq => cases hq; exact ⟨fun n z => ⟨fun k h => (by cases h), k8, g8, m8, d8⟩, f8⟩
  | 1, hq => cases hq; exact ⟨fun n z => ⟨fun k h => (by cases h), k9, g9, m9, d9⟩, f9⟩
  | 2, hq => cases hq; exact ⟨fun n z => ⟨fun k h => (by cases h), k10, g10, m10, d10⟩, f10⟩
  | 3, hq => cases hq; exact ⟨fun n z => ⟨fun k h => (by cases h), k11, g11, m11, d11⟩, ⟨k11, m11, g11, d11, n11, f11⟩⟩
  | k + 4, hq => simp [amTys] at hq
theorem W_room {p : Program} {l : Launch} {e : Env} {R R' : Room} {s : State} {m : MethodId} {args : Array Value} {below : List Frame} {meth : Method} {c : Code} {H : Heap} {locs : List Loc} {cells slots : Nat} {Q Q' : State → Prop} {g : JFrame} (hf : R'.frames ≤ R.frames) (hl : R'.locals ≤ R.locals) (hc : R'.cells ≤ R.cells) (hs : R'.slots ≤ R.slots) (hQ : ∀ t, Q' t → Q t) (k : W p l e R' s m args below meth c H locs cells slots Q' g) : W p l e R s m args below meth c H locs cells slots Q g := by
  intro T hT X
  have hr : s.hasRoom e.platform R' = true := by
    have h := X.room
    simp only [State.hasRoom, Bool.and_eq_true, decide_eq_true_eq] at h ⊢
    obtain ⟨⟨⟨⟨h1, h2, h3, h4, h5, h6⟩, h7⟩, h8⟩, h9⟩ := h
    exact ⟨⟨⟨⟨by omega, by omega, by omega, by omega, by omega, h6⟩, by omega⟩, by omega⟩, h9⟩
  obtain ⟨t, a1, b1⟩ := k T hT ⟨X.admits, X.cas, X.clock, X.frames, hr, X.hears, X.method, X.code, X.here, X.tail, X.warmed, X.limits, X.bytes, X.same⟩
  exact ⟨t, a1, hQ t b1⟩
theorem amW_0 {D : va_G} {ca : Nat → ClassId} {T : Int → Kd} {n0 : Nat} {ρ : Int → Nat} {H : Heap} : amW D ca T n0 ρ σ00 H := by
  refine ⟨[], List.nodup_nil, fun a => ?_, fun a h => absurd h List.not_mem_nil, fun k q h => ?_, ⟨fun i j p q h => ?_, fun k q h => ?_⟩, fun a h => absurd h List.not_mem_nil⟩
  · unfold σ00; simp
  · simp [am_ws] at h
  · simp [am_ws] at h
  · simp [am_ws] at h
def rho (b si : Nat) (f : Nat → Nat × Nat) (g : Nat → Nat) : Int → Nat := fun a => if a = 23000 then b else if a = 22000 then si else if 21000 ≤ a then g (a - 21000).toNat else if 20100 ≤ a then (f (a - 20100).toNat).2 else (f (a - 20000).toNat).1
theorem rho_b (b si : Nat) (f : Nat → Nat × Nat) (g : Nat → Nat) : rho b si f g 23000 = b := rfl
theorem rho_s (b si : Nat) (f : Nat → Nat × Nat) (g : Nat → Nat) : rho b si f g 22000 = si := rfl
theorem rho_g (b si : Nat) (f : Nat → Nat × Nat) (g : Nat → Nat) {k : Nat} (h : k < 900) : rho b si f g (21000 + k) = g k := by
  unfold rho
  rw [if_neg (by omega), if_neg (by omega), if_pos (by omega), show (21000 + (k : Int) - 21000).toNat = k by omega]
theorem rho_2 (b si : Nat) (f : Nat → Nat × Nat) (g : Nat → Nat) {k : Nat} (h : k < 100) : rho b si f g (20100 + k) = (f k).2 := by
  unfold rho
  rw [if_neg (by omega), if_neg (by omega), if_neg (by omega), if_pos (by omega), show (20100 + (k : Int) - 20100).toNat = k by omega]
theorem rho_1 (b si : Nat) (f : Nat → Nat × Nat) (g : Nat → Nat) {k : Nat} (h : k < 100) : rho b si f g (20000 + k) = (f k).1 := by
  unfold rho
  rw [if_neg (by omega), if_neg (by omega), if_neg (by omega), if_neg (by omega), show (20000 + (k : Int) - 20000).toNat = k by omega]
theorem ne_all {s : State} {args : Array Value} (hts : ∀ w ∈ lw_tbl, w.before args s = true) : ∀ q ∈ amNest, va_Nw (.methodLinkNest q.1 q.2.1 q.2.2.1 q.2.2.2) s := by
  have h : ∀ q ∈ amNest, Cond.methodLinkNest q.1 q.2.1 q.2.2.1 q.2.2.2 ∈ lw_tbl := by decide +kernel
  exact fun q hq => va_Nw.of rfl (hts _ (h q hq))
theorem amSt_0 {s : State} {args : Array Value} (hF : ∀ c ∈ FL, c.before args s = true) (hts : ∀ w ∈ lw_tbl, w.before args s = true) (b : Nat) : ∃ ρ : Int → Nat, ρ 23000 = b ∧ amSt s.heap.size ρ s := by
  have hA : ∀ a : Nat, a < s.heap.size → ¬ (fun q : Nat => s.heap.size ≤ q) a := fun a h => Nat.not_le.mpr h
  obtain ⟨f, hf⟩ := Classical.axiomOfChoice (st_all hF hts hA)
  obtain ⟨g, hg⟩ := Classical.axiomOfChoice (sa_all hF hts hA)
  have hz := va_Zqof (C := "jdk/internal/util/Preconditions") (n := "SIOOBE_FORMATTER") (d := "Ljava/util/function/BiFunction;") (hts _ (by decide +kernel)) (hts _ (by decide +kernel)) (hF _ (by decide +kernel)) hA
  have hk1 : ∀ (k : Nat) (q : String × Nat × String × List Int), amStr[k]? = some q → k < 100 := fun k q h => by
    have := (List.getElem?_eq_some_iff.mp h).1
    have h11 : amStr.length = 11 := rfl
    omega
  have hk2 : ∀ (k : Nat) (q : String × List Int), amSA[k]? = some q → k < 900 := fun k q h => by
    have := (List.getElem?_eq_some_iff.mp h).1
    have h5 : amSA.length = 5 := rfl
    omega
  have key : ∀ si : Nat, (va_Z "jdk/internal/util/Preconditions" "SIOOBE_FORMATTER" "Ljava/util/function/BiFunction;" .null (fun a => s.heap.size ≤ a) s s.heap ∨ va_Z "jdk/internal/util/Preconditions" "SIOOBE_FORMATTER" "Ljava/util/function/BiFunction;" (.ref si) (fun a => s.heap.size ≤ a) s s.heap) → amSt s.heap.size (rho b si f g) s := by
    intro si hsi
    refine ⟨fun k q hq => ?_, fun k q hq => ?_, va_Zof (hts _ (by decide +kernel)) (hts _ (by decide +kernel)) (va_eqt (hF _ (by decide +kernel))) hA, hsi, ne_all hts⟩
    · have h := hf k q hq
      unfold amStK
      rw [rho_1 b si f g (hk1 k q hq), rho_2 b si f g (hk1 k q hq)]
      exact h
    · have h := hg k q hq
      unfold amSaK
      rw [rho_g b si f g (hk2 k q hq)]
      exact h
  rcases hz with hz | ⟨t, hz⟩
  · exact ⟨rho b 0 f g, rfl, key 0 (Or.inl hz)⟩
  · exact ⟨rho b t f g, rfl, key t (Or.inr hz)⟩
theorem Ech_0 {s : State} {args : Array Value} (hF : ∀ c ∈ FL, c.before args s = true) (hts : ∀ w ∈ lw_tbl, w.before args s = true) : Ech s.heap.size s := by
  have hA : ∀ a : Nat, a < s.heap.size → ¬ (fun q : Nat => s.heap.size ≤ q) a := fun a h => Nat.not_le.mpr h
  obtain ⟨a, c, cA, kA, q1, -⟩ := Cond.exactly_spec (args := args) (first := s) (o := none) (s := s) (idx := []) (t := .string RX11 184) (cls := "java/lang/String") (hF _ (by decide +kernel))
  have hB : ∀ w ∈ chB, w ∈ lw_tbl := by decide +kernel
  exact ⟨⟨a, vk_R.of (hts _ (by decide +kernel)) q1⟩, vx_Zqof (hts _ (by decide +kernel)) (hts _ (by decide +kernel)) (hF _ (by decide +kernel)) hA, vx_Zqof (hts _ (by decide +kernel)) (hts _ (by decide +kernel)) (hF _ (by decide +kernel)) hA, fun w hw => chB_m (State.WarmedH.refl s) w hw (hts w (hB w hw))⟩
