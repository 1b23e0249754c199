/-! The abstract machine over the kit: values, memory, worlds, the judgement amJ, contracts amCall -/
abbrev AV : Type := Nat × Int
abbrev Mem : Type := Int → Int → Int
/-- kinds of cells: an object (class number, constant references by field), an array (tag, length; below 0: the length stands in the memory at -1) -/
abbrev Kd : Type := (Nat × (Nat → Option Int)) ⊕ (Nat × Int)
def TBL : List Cond := lw_tbl.filter goodWord
theorem tb_in {w : Cond} (h : w ∈ lw_tbl) (g : goodWord w = true) : w ∈ TBL := List.mem_filter.mpr ⟨h, g⟩
theorem tb_tab {w : Cond} (h : w ∈ tables_1) (g : goodWord w = true) : w ∈ TBL := tb_in (List.mem_append_right _ h) g
theorem tb_sel {w : Cond} (h : w ∈ k2_sels lw_privs) (g : goodWord w = true) : w ∈ TBL := tb_in (List.mem_append_left _ h) g
theorem tb_good : GoodIn TBL TBL := fun w h => ⟨h, good_of_word (List.mem_filter.mp h).2⟩
def am_val (ρ : Int → Nat) (v : AV) : Value := match v.1 with
  | 0 => .int (Int32.ofInt v.2)
  | 1 => .long (Int64.ofInt v.2)
  | _ => if v.2 < 0 then .null else .ref (ρ v.2)
theorem am_val_0 (ρ : Int → Nat) (z : Int) : am_val ρ (0, z) = .int (Int32.ofInt z) := rfl
theorem am_val_1 (ρ : Int → Nat) (z : Int) : am_val ρ (1, z) = .long (Int64.ofInt z) := rfl
theorem am_val_r (ρ : Int → Nat) {t : Nat} (z : Int) (h : 2 ≤ t) : am_val ρ (t, z) = if z < 0 then .null else .ref (ρ z) := by
  match t, h with
  | t + 2, _ => rfl
theorem am_val_p (ρ : Int → Nat) {t : Nat} {z : Int} (h : 2 ≤ t) (hz : 0 ≤ z) : am_val ρ (t, z) = .ref (ρ z) := by
  rw [am_val_r ρ z h, if_neg (by omega)]
theorem am_val_n (ρ : Int → Nat) {t : Nat} {z : Int} (h : 2 ≤ t) (hz : z < 0) : am_val ρ (t, z) = .null := by
  rw [am_val_r ρ z h, if_pos hz]
def amF (c k : Nat) : Nat := match (match vwCl[c]? with | some r => (r.2.1 k).2.2.1 | none => "I") with
  | "I" => 0
  | "J" => 1
  | "Z" => 3
  | _ => 2
def amN (c : Nat) : Nat := match vwCl[c]? with | some r => r.2.2 | none => 0
def tg : Kd → Nat
  | .inl x => 16 + x.1
  | .inr x => x.1
def am_fv (ρ : Int → Nat) (σ : Mem) (a : Int) (c : Nat) (cr : Nat → Option Int) (k : Nat) : Value := match amF c k with
  | 1 => .long (Int64.ofInt (σ a k))
  | 2 => am_val ρ (8, (cr k).getD (σ a k))
  | _ => .int (Int32.ofInt (σ a k))
def am_len (σ : Mem) (a n : Int) : Int := if n < 0 then σ a (-1) else n
def am_con (ρ : Int → Nat) (σ : Mem) (a : Int) (t : Nat) : (Nat → Int32) ⊕ (Nat → Int64) ⊕ (Nat → UInt32) ⊕ (Nat → UInt64) ⊕ (Nat → Option Nat) := match t with
  | 9 => .inr (.inl (fun j => Int64.ofInt (σ a j)))
  | 11 => .inr (.inr (.inr (.inr (fun j => if σ a j < 0 then none else some (ρ (σ a j))))))
  | _ => .inl (fun j => Int32.ofInt (σ a j))
def am_cell (ρ : Int → Nat) (ca : Nat → ClassId) (σ : Mem) (a : Int) : Kd → va_E
  | .inl x => .inr (x.1, (List.range (amN x.1)).map (am_fv ρ σ a x.1 x.2))
  | .inr x => .inl (ca x.1, (am_len σ a x.2).toNat, am_con ρ σ a x.1)
def am_ws (ρ : Int → Nat) (ca : Nat → ClassId) (T : Int → Kd) (σ : Mem) (V : List Int) : va_W := V.map (fun a => (ρ a, am_cell ρ ca σ a (T a)))
/-- 3, 4, 5: constants in the heap (bytes of a String, a String, a static row) -/
def okv (T : Int → Kd) (σ : Mem) (v : AV) : Prop := (8 ≤ v.1 → v.2 < 0 ∨ (σ (-2) v.2 = 1 ∧ tg (T v.2) = v.1)) ∧ (2 ≤ v.1 → v.1 < 6 → v.2 < 0 ∨ 20000 ≤ v.2)
def okl (T : Int → Kd) (σ : Mem) (l : List AV) : Prop := ∀ v ∈ l, okv T σ v
theorem okl_nil {T : Int → Kd} {σ : Mem} : okl T σ [] := fun _ h => by cases h
theorem okl_c {T : Int → Kd} {σ : Mem} {v : AV} {l : List AV} : okl T σ (v :: l) ↔ okv T σ v ∧ okl T σ l := List.forall_mem_cons
theorem okv_s {T : Int → Kd} {σ : Mem} {t : Nat} {z : Int} (h : t < 2 ∨ (6 ≤ t ∧ t < 8)) : okv T σ (t, z) := ⟨fun h' => absurd h' (by show ¬ 8 ≤ t; omega), fun h1 h2 => absurd h1 (by have h2 : t < 6 := h2; show ¬ 2 ≤ t; omega)⟩
theorem okv_k {T : Int → Kd} {σ : Mem} {t : Nat} {z : Int} (h : t < 8) (hz : 20000 ≤ z) : okv T σ (t, z) := ⟨fun h' => absurd h' (by show ¬ 8 ≤ t; omega), fun _ _ => Or.inr hz⟩
def amTys (ca : Nat → ClassId) : List (ClassId × FieldType) := [(ca 8, .int), (ca 9, .long), (ca 10, .byte), (ca 11, .object "ArmchairHouse$Law")]
/-- the tag of the references that a field holds, or an array of references -/
def amTag (c k : Nat) : Nat := match (match vwCl[c]? with | some r => (r.2.1 k).2.2.1 | none => "I") with
  | "[I" => 8
  | "[J" => 9
  | "[B" => 10
  | "[LArmchairHouse$Law;" => 11
  | "LArmchairHouse$Audience;" => 16
  | "LArmchairHouse$Clues;" => 17
  | "LArmchairHouse$Law;" => 18
  | "LArmchairHouse$LawReader;" => 19
  | "LArmchairHouse$Match;" => 20
  | "LArmchairHouse$Past;" => 21
  | "LArmchairHouse$Plan;" => 22
  | "LArmchairHouse$Seasons;" => 23
  | "LArmchairHouse$Seating;" => 24
  | "LArmchairHouse$Stage;" => 25
  | "LArmchairHouse$Tape;" => 26
  | _ => 4
/-- references in the cells are good -/
def am_closed (T : Int → Kd) (σ : Mem) (a : Int) : Prop := match T a with
  | .inl x => ∀ k, k < amN x.1 → amF x.1 k = 2 → okv T σ (amTag x.1 k, (x.2 k).getD (σ a k))
  | .inr x => x.1 = 11 → ∀ j : Nat, (j : Int) < am_len σ a x.2 → okv T σ (18, σ a j)
def amW (D : va_G) (ca : Nat → ClassId) (T : Int → Kd) (n0 : Nat) (ρ : Int → Nat) (σ : Mem) (H : Heap) : Prop :=
  ∃ V : List Int, V.Nodup ∧ (∀ a, a ∈ V ↔ σ (-2) a = 1) ∧ (∀ a ∈ V, 0 ≤ a) ∧ va_P D vwCl (am_ws ρ ca T σ V) H ∧ va_D (fun q => n0 ≤ q) (am_ws ρ ca T σ V) ∧ ∀ a ∈ V, am_closed T σ a
/-- locals: the listed values from place i on; 6: unset, 7: second half -/
def lvl (ρ : Int → Nat) : Nat → List AV → List (Nat × Value)
  | _, [] => []
  | i, v :: l => if v.1 = 6 ∨ v.1 = 7 then lvl ρ (i + 1) l else (i, am_val ρ v) :: lvl ρ (i + 1) l
abbrev amX : Type := Program × Launch × Env × State × MethodId × Array Value × List Frame × Method × Code × va_G × (Nat → ClassId) × Nat × (Int → Kd) × (Int → Nat) × Mem × Nat × Nat × Nat × Nat × (AV → Mem → Prop)
def amR (d mc ms : Nat) : Room := { frames := d, cells := mc, slots := ms, locals := 64 * d }
def amQr (ρ : Int → Nat) (r : AV) : Option Value := if r.1 = 6 then none else some (am_val ρ r)
def amAg (ρ0 ρ : Int → Nat) (σ0 σ : Mem) : Prop := (∀ a, σ0 (-2) a = 1 → σ (-2) a = 1 ∧ ρ a = ρ0 a) ∧ ∀ a, 20000 ≤ a → ρ a = ρ0 a
def amQc (D : va_G) (ca : Nat → ClassId) (T : Int → Kd) (n0 : Nat) (ρ0 : Int → Nat) (σ0 : Mem) (Q : AV → Mem → Prop) : Array Value → State → Outcome → State → Prop := fun _ st oc t =>
  (∃ (r : AV) (σ : Mem) (ρ : Int → Nat), oc = .returned (amQr ρ r) ∧ Q r σ ∧ amW D ca T n0 ρ σ t.heap ∧ okv T σ r ∧ amAg ρ0 ρ σ0 σ) ∧ va_F (fun q => n0 ≤ q) st t
/-- the Strings of the program: class, entry, text, bytes -/
def amStr : List (String × Nat × String × List Int) := [("ArmchairHouse$Plan", 49, "spct", [115, 112, 99, 116]), ("ArmchairHouse$Plan", 88, "lp  abcmhtm d   ", [108, 112, 32, 32, 97, 98, 99, 109, 104, 116, 109, 32, 100, 32, 32, 32]), ("ArmchairHouse$LawReader", 111, "fhdnke", [102, 104, 100, 110, 107, 101]), ("ArmchairHouse$Seasons", 39, "exi", [101, 120, 105]), ("ArmchairHouseModel", 26, "y", [121]), ("ArmchairHouseModel", 32, "fhdnke", [102, 104, 100, 110, 107, 101]), ("ArmchairHouseModel", 269, "lp", [108, 112]), ("ArmchairHouseModel", 275, "abcm", [97, 98, 99, 109]), ("ArmchairHouseModel", 277, "htm", [104, 116, 109]), ("ArmchairHouseModel", 279, "d", [100]), ("ArmchairHouseModel", 287, "exi", [101, 120, 105])]
/-- the static rows of Plan -/
def amSA : List (String × List Int) := [("LOWEST", [1, 0, 0, 0, 0, 0, 0, 1, 0, 0, 0, 0, 0, 0, 0, 0]), ("HIGHEST", [99, 30, 0, 0, 9, 9, 9, 9, 9, 5, 99, 0, 9, 0, 0, 0]), ("UNTOLD", [12, 5, 0, 0, 3, 3, 3, 3, 5, 0, 20, 0, 2, 0, 0, 0]), ("MOST", [1, 4, 6, 6]), ("FIRST_ROW", [0, 1, 5, 11])]
def amStK (n0 : Nat) (ρ : Int → Nat) (U : State) (k : Nat) (q : String × Nat × String × List Int) : Prop := vk_R q.1 q.2.1 q.2.2.1 (ρ (20000 + k)) U ∧ va_O "java/lang/String" (ρ (20000 + k)) (fun a => n0 ≤ a) U U.heap ∧ va_OF "java/lang/String" "coder" "B" (.int 0) (ρ (20000 + k)) (fun a => n0 ≤ a) U U.heap ∧ va_OF "java/lang/String" "value" "[B" (.ref (ρ (20100 + k))) (ρ (20000 + k)) (fun a => n0 ≤ a) U U.heap ∧ va_T .byte (ρ (20100 + k)) q.2.2.2.length (fun j => .int (Int32.ofInt (q.2.2.2.getD j 0))) (fun a => n0 ≤ a) U U.heap
def amSaK (n0 : Nat) (ρ : Int → Nat) (U : State) (k : Nat) (q : String × List Int) : Prop := va_Z "ArmchairHouse$Plan" q.1 "[I" (.ref (ρ (21000 + k))) (fun a => n0 ≤ a) U U.heap ∧ va_T .int (ρ (21000 + k)) q.2.length (fun j => .int (Int32.ofInt (q.2.getD j 0))) (fun a => n0 ≤ a) U U.heap
def amNest : List (String × Nat × MethodName × String) := [("ArmchairHouse", 9, ⟨"ArmchairHouse$Tape", "<init>", "()V"⟩, "ArmchairHouse"), ("ArmchairHouse", 18, ⟨"ArmchairHouse$Plan", "<init>", "()V"⟩, "ArmchairHouse"), ("ArmchairHouse", 64, ⟨"ArmchairHouse$Audience", "<init>", "()V"⟩, "ArmchairHouse"), ("ArmchairHouse", 83, ⟨"ArmchairHouse$Past", "<init>", "()V"⟩, "ArmchairHouse"), ("ArmchairHouse$Stage", 145, ⟨"ArmchairHouse", "sumOver", "([II)I"⟩, "ArmchairHouse"), ("ArmchairHouse$Seating", 75, ⟨"ArmchairHouse", "sumOver", "([II)I"⟩, "ArmchairHouse")]
/-- the constants of the program that lie in the heap, and links of nest mates -/
def amSt (n0 : Nat) (ρ : Int → Nat) (U : State) : Prop :=
  (∀ (k : Nat) (q : String × Nat × String × List Int), amStr[k]? = some q → amStK n0 ρ U k q) ∧ (∀ (k : Nat) (q : String × List Int), amSA[k]? = some q → amSaK n0 ρ U k q) ∧ va_Z "java/lang/String" "COMPACT_STRINGS" "Z" (.int 1) (fun a => n0 ≤ a) U U.heap ∧ (va_Z "jdk/internal/util/Preconditions" "SIOOBE_FORMATTER" "Ljava/util/function/BiFunction;" .null (fun a => n0 ≤ a) U U.heap ∨ va_Z "jdk/internal/util/Preconditions" "SIOOBE_FORMATTER" "Ljava/util/function/BiFunction;" (.ref (ρ 22000)) (fun a => n0 ≤ a) U U.heap) ∧ ∀ q ∈ amNest, va_Nw (.methodLinkNest q.1 q.2.1 q.2.2.1 q.2.2.2) U
def amPc (D : va_G) (ca : Nat → ClassId) (T : Int → Kd) (n0 : Nat) (ρ0 : Int → Nat) (σ0 : Mem) (av : List AV) : Array Value → State → Prop := fun v U =>
  v = (av.map (am_val ρ0)).toArray ∧ n0 ≤ U.heap.size ∧ amW D ca T n0 ρ0 σ0 U.heap ∧ va_K D vwCl (amTys ca) U ∧ amSt n0 ρ0 U ∧ okl T σ0 av
/-- a contract -/
def amCall (d mc ms : Nat) (T : Int → Kd) (y : MethodName) (cc : ByteArray) (maxL : Nat) (ret : Option FieldType) (av : List AV) (σ0 : Mem) (Q : AV → Mem → Prop) : Prop :=
  ∀ (l : Launch) (D : va_G) (ca : Nat → ClassId) (n0 : Nat) (ρ0 : Int → Nat), Met l y (.code y cc maxL ret :: TBL) (amR d mc ms) (amPc D ca T n0 ρ0 σ0 av) (amQc D ca T n0 ρ0 σ0 Q) mc ms (fun q => n0 ≤ q)
def lg (ls : List AV) (i : Nat) : AV := ls.getD i (6, 0)
def amJ (X : amX) (pc : Nat) (ls st : List AV) (σ : Mem) : Prop := match X with
  | (p, l, e, s, m, args, below, meth, c, D, ca, n0, T, ρ0, σ0, d, mc, ms, nL, Q) =>
    ∀ (ρ : Int → Nat) (H : Heap) (locs : List Loc) (LS : Array Slot) (k n : Nat), amW D ca T n0 ρ σ H → va_S (fun q => n0 ≤ q) s.heap H locs → lv_has LS nL (lvl ρ 0 ls) → okl T σ ls → okl T σ st →
      ((k : Int) ≤ (lg ls nL).2 ∧ (lg ls nL).2 ≤ mc) → ((n : Int) ≤ (lg ls (nL + 1)).2 ∧ (lg ls (nL + 1)).2 ≤ ms) → amAg ρ0 ρ σ0 σ →
      W p l e (amR d mc ms) s m args below meth c H locs k n (MQ below (amQc D ca T n0 ρ0 σ0 Q) args s mc ms (fun q => n0 ≤ q)) (F0 m pc LS (st.map (am_val ρ)))
def amB (X : amX) (own : String) (cc : ByteArray) (ret : Option FieldType) (L : Nat) : Prop := match X with
  | (p, _, _, s, m, args, _, meth, c, D, ca, n0, _, ρ0, _, _, _, _, nL, _) =>
    p.tables.exec = Jvm.exec ∧ c.code = cc ∧ meth.sig.returnType = ret ∧ c.maxLocals = nL ∧ nL = L ∧ s.vm.findClass own = some m.cls ∧ (∀ w ∈ TBL, w.before args s = true) ∧ meth.locks = false ∧ va_K D vwCl (amTys ca) s ∧ n0 ≤ s.heap.size ∧ amSt n0 ρ0 s
abbrev VT : Type := (AV → Mem → Prop) → (Nat → List AV → List AV → Mem → Prop) → List AV → List AV → Mem → Prop
def amXQ (X : amX) : AV → Mem → Prop := match X with
  | (_, _, _, _, _, _, _, _, _, _, _, _, _, _, _, _, _, _, _, Q) => Q
def amOK (X : amX) (pc : Nat) (v : VT) : Prop := ∀ (K : Nat → List AV → List AV → Mem → Prop) (ls st : List AV) (σ : Mem), (∀ pc' ls' st' σ', K pc' ls' st' σ' → amJ X pc' ls' st' σ') → v (amXQ X) K ls st σ → amJ X pc ls st σ
