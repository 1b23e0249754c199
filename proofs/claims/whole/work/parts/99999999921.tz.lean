/-! THROWN WITH A MESSAGE WHERE THE CLASS'S OWN CONSTRUCTOR HANDS IT ON BY INDEX 13: row by row (new; dup; ldc; the constructor as one row; athrow) over the kit's rows -/
section TZ
abbrev tz_x : String := "java/util/NoSuchElementException"
abbrev tz_r : String := "java/lang/RuntimeException"
def tz_c : ByteArray := ⟨#[0x2a, 0x2b, 0xb7, 0x00, 0x0d, 0xb1]⟩
def tz_up : List Cond := Bundle.passSAtoms tz_x tz_r 13 tz_c ++ Bundle.chainSAtoms tz_r ["java/lang/Exception"]
/-- what is asked of the tables: Throwable's words, the chain, and the library's last fourteen (its own chain left out) -/
def tz_ws (own : String) (ic : Nat) : List Cond := Bundle.throwableAtoms ++ (Bundle.throwableSAtoms ++ (tz_up ++ (Bundle.ownAtoms own ic tz_x []).drop 33))
theorem tz_chain {args : Array Value} {s : State} {pl : Platform} (hpl : pl.magicAccessors = ({} : Platform).magicAccessors) {top : MethodId} (ht : s.methodNamed? (Bundle.initS Bundle.tN) = some top) (h : ∀ w ∈ tz_up, w.before args s = true) :
    ∃ K : List PassC, K.length = 3 ∧ (∀ P, P ∈ K → P.LinksS pl s) ∧ PassesOn top (K.map (·.toPassT)) ∧ s.methodNamed? (Bundle.initS tz_x) = some (firstOf top (K.map (·.toPassT))) := by
  obtain ⟨A, hA, a1, a2⟩ := PassC.ofS_atoms (args := args) (s := s) hpl (X := tz_x) (Y := tz_r) (index := 13) (bytes := tz_c) (by decide +kernel) ⟨by decide +kernel, by decide +kernel⟩ (by decide +kernel) (by decide +kernel) (by decide +kernel) (by decide +kernel) (fun w hw => h w (List.mem_append_left _ hw))
  obtain ⟨B, Cs, n1, hB, hCs, b1, b2, b3⟩ := Bundle.chainS (args := args) hpl ht ["java/lang/Exception"] tz_r (by decide +kernel) (by decide +kernel) (fun w hw => h w (List.mem_append_right _ hw))
  refine ⟨A :: B :: Cs, congrArg (fun n => n + 2) n1, fun P hP => ?_, ⟨Option.some.inj (a2.symm.trans b1), b2, b3⟩, a1⟩
  cases hP with
  | head => exact hA
  | tail _ hP => cases hP with
    | head => exact hB
    | tail _ hP => exact hCs P hP
/-- a method that the class doesn't override is the one selected -/
theorem tz_sel {l : Launch} {e : Env} {args : Array Value} {s : State} (ha : l.admits e) {X : String} {k : ClassId} (hk : s.vm.findClass X = some k) {y : MethodName} {t : MethodId} (hy : y.cls ≠ "java/lang/invoke/MethodHandle" ∧ y.cls ≠ "java/lang/invoke/VarHandle") (ht : s.methodNamed? y = some t) (h : (Cond.selects X y y).holds args s none s [] = true) :
    selectMethod e.platform s.vm k t = .method t := by
  obtain ⟨k1, r1, t1, e1, e2, e3, e4, -⟩ := Cond.selects_spec h
  have f1 : k = k1 := Option.some.inj (hk.symm.trans e1)
  have f2 : t = r1 := Option.some.inj ((State.methodFound?_of_named ht hy).symm.trans e2)
  have f3 : t = t1 := Option.some.inj (ht.symm.trans e3)
  rw [Launch.admits_selectMethod ha, f1]
  exact (congrArg (selectMethod {} s.vm k1) f2).trans (e4.trans (congrArg _ f3.symm))
/-- a static row of the heap, read at its place -/
theorem tz_st {C n d : String} {A : Nat → Prop} {s : State} {H : Heap} {cT : ClassId} {kT : Class} {i a : Nat} {f : Field} (h : va_Zq C n d A s H) (hf : s.fieldFound? C n d = some (cT, kT, i, f)) (hs : kT.statics = some a) :
    ∃ (ce : Cell) (u : RefV), H[a]? = some ce ∧ ce.vm.isStatics = true ∧ ce.slots[f.slot]? = some u.v := by
  have key : ∀ v : Value, v.isRef = true → va_Z C n d v A s H → ∃ (ce : Cell) (u : RefV), H[a]? = some ce ∧ ce.vm.isStatics = true ∧ ce.slots[f.slot]? = some u.v := by
    intro v hv h9
    obtain ⟨c1, k1, i1, f1, a1, ce, e1, -, -, e4, e5, e6, e7, -⟩ := h9
    cases hf.symm.trans e1
    cases hs.symm.trans e4
    exact ⟨ce, ⟨v, hv⟩, e5, e6, e7⟩
  rcases h with h | ⟨t, h⟩
  · exact key .null rfl h
  · exact key (.ref t) rfl h
theorem tz_back {T : ThrowableT} {x : Cell} {a : Addr} {u v : RefV} {t : ThreadId} {j : Nat} {w : Value} (h1 : T.fCause.slot ≠ j) (h2 : T.fStack.slot ≠ j) (h3 : T.fSupp.slot ≠ j) (h : x.slots[j]? = some w) : ((preparedCellV T x a u v).withEntry t).slots[j]? = some w := by
  show (((x.slots.setIfInBounds T.fCause.slot _).setIfInBounds T.fStack.slot _).setIfInBounds T.fSupp.slot _)[j]? = some w
  rw [Array.getElem?_setIfInBounds_ne h3, Array.getElem?_setIfInBounds_ne h2, Array.getElem?_setIfInBounds_ne h1]
  exact h
variable {p : Program} {l : Launch} {e : Env} {R : Room} {s : State} {m : MethodId} {args : Array Value} {below : List Frame} {meth : Method} {c : Code} {H : Heap} {locs : List Loc} {cells slots : Nat} {Q : State → Prop} {cc : ByteArray} {pc : Nat} {ls : Array Slot} {rest : List Value} {A : Nat → Prop}
theorem tz_athrow (hexec : p.tables.exec = Jvm.exec) (hb : c.code = cc) (hd : decode cc pc = .ok (.athrow, 1)) {q : Nat} (kk : vx_W p l e R s m args below meth c H locs cells slots Q (F0 m pc ls rest) q) : W p l e R s m args below meth c H locs cells slots Q (F0 m pc ls (.ref q :: rest)) := by
  intro T hT X
  obtain ⟨t, a1, b1⟩ := kk T hT X
  have hd9 : decode c.code pc = .ok (.athrow, 1) := by rw [hb]; exact hd
  refine ⟨t, ?_, b1⟩
  jvm_step X.here [hexec, hd9, athrow.wp_sem]
  exact a1
set_option maxHeartbeats 1000000 in
/-- the constructor as one row: the fresh cell is laid, nothing else is touched -/
theorem tz_init (hexec : p.tables.exec = Jvm.exec) (hb : c.code = cc) (hl : l.stackTraces = false) {own : String} {ic : Nat} (hown : s.vm.findClass own = some m.cls) (hw : ∀ w ∈ tz_ws own ic, w.before args s = true)
    (hU : va_Zq Bundle.tN "UNASSIGNED_STACK" Bundle.steD A s H) (hN : va_Zq Bundle.tN "SUPPRESSED_SENTINEL" Bundle.listD A s H) {k : ClassId} {kX : Class} (hk : s.vm.findClass tz_x = some k) (hkX : s.vm.classes[k]? = some kX) {a sa : Nat} (hc : H[a]? = some (freshCell k kX)) (ha : s.heap.size ≤ a)
    (hsize : ls.size = c.maxLocals) (hd : decode cc pc = .ok (.invokespecial ic, 3)) (hRf : 5 < R.frames) (hRl : (rest.map fun v => v.category).sum + 81 ≤ R.locals)
    (kk : ∀ (H1 : Heap) (ce : Cell), H1[a]? = some ce → ce.cls = k → ce.vm = .none → H1.size = H.size → (∀ q : Nat, q ≠ a → H1[q]? = H[q]?) → W p l e R s m args below meth c H1 locs cells slots Q (F0 m (pc + 3) ls rest)) :
    W p l e R s m args below meth c H locs cells slots Q (F0 m pc ls (.ref sa :: .ref a :: rest)) := by
  intro T hT X
  have hp := X.admits.platform
  have htr : e.platform.stackTraces = false := (show e.platform.stackTraces = l.stackTraces by rw [hp]).trans hl
  have hpl : e.platform.magicAccessors = ({} : Platform).magicAccessors := by rw [hp]
  have tail : ∀ (n : Nat) (w : Cond), ((Bundle.ownAtoms own ic tz_x []).drop 33)[n]? = some w → w.holds args s none s [] = true := fun n w h9 => hw w (List.mem_append_right _ (List.mem_append_right _ (List.mem_append_right _ (List.mem_of_getElem? h9))))
  have up : ∀ w ∈ tz_up, w.before args s = true := fun w h9 => hw w (List.mem_append_right _ (List.mem_append_right _ (List.mem_append_left _ h9)))
  obtain ⟨Th, Z0, L, -, Y⟩ := ThrowableC.of_atoms (args := args) (pl := e.platform) (by rw [hp]) (by rw [hp]) hpl (fun w h9 => hw w (List.mem_append_left _ h9))
  obtain ⟨Z, M, LZ, LM, hZ⟩ := Init0T.ofS_atoms (args := args) hpl L Y (fun w h9 => hw w (List.mem_append_right _ (List.mem_append_left _ h9)))
  obtain ⟨K, n3, hK, hon, hfst⟩ := tz_chain (args := args) hpl hZ up
  obtain ⟨k1, kX1, g1, g2, hord, -, -, -⟩ := Cond.instantiable_spec (tail 1 (.instantiable tz_x 6) rfl)
  cases hk.symm.trans g1
  cases hkX.symm.trans g2
  have hs0 := tz_sel X.admits hk (by decide +kernel) Y.fill0 (tail 3 (.selects tz_x Bundle.tFill0 Bundle.tFill0) rfl)
  have hs1 := tz_sel X.admits hk (by decide +kernel) Y.fill (tail 4 (.selects tz_x Bundle.tFill Bundle.tFill) rfl)
  obtain ⟨cS, u0, z1, z2, z3⟩ := tz_st hU Y.unassigned L.statics
  obtain ⟨cS1, u1, y1, -, y3⟩ := tz_st hN Y.sentinel L.statics
  cases z1.symm.trans y1
  have hna : Th.aS ≠ a := by
    obtain ⟨c0, h0, -⟩ := Y.statics
    have h1 := (Array.getElem?_eq_some_iff.mp h0).1
    exact Nat.ne_of_lt (Nat.lt_of_lt_of_le h1 ha)
  have hkn : cS.vm ≠ .unknown := fun h9 => by rw [h9] at z2; cases z2
  obtain ⟨iM, fM⟩ := Y.msg
  obtain ⟨t1, d1, p1, q1⟩ := Cond.laysAt hk hkX Y.cause (tail 5 (.lays tz_x Bundle.tN "cause" "Ljava/lang/Throwable;") rfl)
  obtain ⟨t2, d2, p2, q2⟩ := Cond.laysAt hk hkX Y.stack (tail 6 (.lays tz_x Bundle.tN "stackTrace" Bundle.steD) rfl)
  obtain ⟨t3, d3, p3, q3⟩ := Cond.laysAt hk hkX Y.supp (tail 7 (.lays tz_x Bundle.tN "suppressedExceptions" Bundle.listD) rfl)
  obtain ⟨t4, -⟩ := Cond.laysAt hk hkX fM (tail 8 (.lays tz_x Bundle.tN "detailMessage" "Ljava/lang/String;") rfl)
  obtain ⟨ci, ib, fB, b1, b2, b3, b4, -, b6, b7, b8⟩ := Cond.ownField (t := .object "java/lang/Object") Y.found L.cls (by decide +kernel) (tail 11 (.fieldLink Bundle.tN 198 Bundle.tN "backtrace" "Ljava/lang/Object;") rfl) (tail 12 (.lays Bundle.tN Bundle.tN "backtrace" "Ljava/lang/Object;") rfl) e.platform hpl
  obtain ⟨t5, d5, p5, q5⟩ := Cond.laysAt hk hkX b8 (tail 13 (.lays tz_x Bundle.tN "backtrace" "Ljava/lang/Object;") rfl)
  have away : ∀ {f : Field} {d : Class × Field}, Jmm.declares? s.vm f.slot (k + 1) k = some d → d.2.name = f.name → f.name ≠ "backtrace" → f.slot ≠ fB.slot := fun h1 h2 h3 => Cond.laysApart h1 p5 h2 q5 (fun h9 => h3 (h9.trans b6))
  have hskip : SkipFacts Th e.platform s (fun u => u) u0 ((preparedCellV Th.toThrowableT (freshCell k kX) a u0 u1).withEntry (T.setVm T.vm).cur) := by
    refine ⟨⟨ci, ib, fB⟩, ⟨b1, b2, b3, b4⟩, tz_back (away p1 q1 (by rw [Y.causeName]; decide +kernel)) (away p2 q2 (by rw [Y.stackName]; decide +kernel)) (away p3 q3 (by rw [Y.suppName]; decide +kernel)) ?_, fun _ _ => rfl⟩
    have h9 := fresh_default (c := k) t5
    rw [b7] at h9
    exact h9
  obtain ⟨tm, -, -, -, v1, r1, -, -, -, -, -, -, -, hW, st1⟩ := Steps.initColdS (tb := p.tables) (e := e) (below := below) (s := s) (U := T) X.here hexec X.warmed hpl hown (idx := ic) (t := Bundle.initS tz_x) rfl rfl (by decide +kernel) (tail 0 (.methodLink own ic (Bundle.initS tz_x)) rfl)
    (up (.instanceMethod (Bundle.initS tz_x)) (List.mem_of_getElem? (i := 0) rfl)) (bytes := tz_c) (maxL := 2) (up (.code (Bundle.initS tz_x) tz_c 2 none) (List.mem_of_getElem? (i := 1) rfl))
    (f := F0 m pc ls (.ref sa :: .ref a :: rest)) rfl (a := a) (msg := .ref sa) (rest := rest) rfl (by rw [hb]; exact hd)
  cases hfst.symm.trans r1
  obtain ⟨v2, X2, st2⟩ := (X.noted hW).ctorMessageOffV hexec (g := F0 m pc ls rest) rfl hsize Th L Z LZ M LM K hK hon (u0 := u0) (sen := u1) (self := a) (msg := .ref sa) rfl (cell := freshCell k kX) (cellS := cS)
    (by show T.heap[a]? = _; rw [hT]; exact hc) (fun _ h9 => by cases h9) (fun h9 => by cases h9) rfl rfl hs0 hs1 (by show T.heap[Th.aS]? = _; rw [hT]; exact z1) hna hkn z3 y3
    (Takes.of_laid hkX hord t1 (by rw [Y.causeType]; rfl)) (Takes.of_laid hkX hord t2 (by rw [Y.stackType]; exact fits_refV_array _ u0)) (Takes.of_laid hkX hord t3 (by rw [Y.suppType]; exact fits_refV_object _ u1)) (Takes.of_laid hkX hord t4 (by rw [Y.msgType]; rfl))
    Y.objLocals hskip htr (ig := .invokespecial ic) (len := 3) [] (by rw [hb]; exact hd) (by rw [n3]; exact hRf) (by rw [n3]; show 2 * 0 + _ + _ ≤ _; simpa using hRl)
  have X3 := X2.forget (fun y hy => by
    have h9 : y.base = a := by
      simp only [List.mem_cons, List.not_mem_nil, or_false] at hy
      rcases hy with h | h | h | h | h <;> rw [h]
    rw [h9]; exact ha)
  have hlt : a < T.heap.size := by rw [hT]; exact (Array.getElem?_eq_some_iff.mp hc).1
  obtain ⟨t, a1, b1⟩ := kk (((T.setVm v1).setVm v2).setCell a (plainBareV Th.toThrowableT (freshCell k kX) a u0 u1 (.ref sa))).heap _ (heapAt_setCell_self (s := (T.setVm v1).setVm v2) _ hlt) rfl rfl
    (by show (T.heap.setIfInBounds a _).size = _; rw [Array.size_setIfInBounds, hT]) (fun q hq => by show (T.heap.setIfInBounds a _)[q]? = _; rw [Array.getElem?_setIfInBounds_ne (fun h9 => hq h9.symm), hT]) _ rfl X3
  exact ⟨t, st1 t (fun acts => by rw [doInvoke_state]; exact st2 t a1), b1⟩
variable {Qc : Array Value → State → Outcome → State → Prop} {XC : String → State → State → Prop} {free : Addr → Prop}
/-- 'throw new NoSuchElementException("..")' that leaves the method -/
theorem tz_throw (hexec : p.tables.exec = Jvm.exec) (hb : c.code = cc) (hl : l.stackTraces = false) {own text : String} {ik is ic mc ms sa : Nat} (hown : s.vm.findClass own = some m.cls) (hk : (Cond.classLink own ik tz_x).before args s = true) (hini : (Cond.initialized tz_x).before args s = true) (hstr : vk_R own is text sa s)
    (hw : ∀ w ∈ (tz_ws own ic).filter vx_no, w.before args s = true) (hU : vx_Zq Bundle.tN "UNASSIGNED_STACK" Bundle.steD A s s.heap) (hN : vx_Zq Bundle.tN "SUPPRESSED_SENTINEL" Bundle.listD A s s.heap) (hS : va_S A s.heap H locs) (hsize : ls.size = c.maxLocals)
    (d0 : decode cc pc = .ok (.new ik, 3)) (d3 : decode cc (pc + 3) = .ok (.dup, 1)) (d4 : decode cc (pc + 4) = .ok (.ldc is, 2)) (d6 : decode cc (pc + 6) = .ok (.invokespecial ic, 3)) (d9 : decode cc (pc + 9) = .ok (.athrow, 1)) (hout : ∀ x ∈ c.exceptionTable.toList, covers x (pc + 9) = false)
    (hRf : 5 < R.frames) (hRl : (rest.map fun v => v.category).sum + 82 ≤ R.locals) (hRc : cells + 1 ≤ R.cells) (hRs : slots + 6 ≤ R.slots) (hlocks : meth.locks = false)
    (hx : ∀ t : State, s.vm.Alike t.vm → H.size ≤ t.heap.size → (∀ q : Nat, q < H.size → t.heap[q]? = H[q]?) → XC tz_x s t) (hf : ∀ z ∈ locs, free z.base) (hc : cells + 1 ≤ mc) (hs : slots + 6 ≤ ms) :
    W p l e R s m args below meth c H locs cells slots (vx_MQ below Qc XC args s mc ms free) (F0 m pc ls rest) := by
  have hws : ∀ w ∈ tz_ws own ic, w.before args s = true := vx_own hw (vx_isRefq hU.1) (vx_isRefq hN.1) hU.2.word hN.2.word
  have hins : (Cond.instantiable tz_x 6).before args s = true := hws _ (List.mem_append_right _ (List.mem_append_right _ (List.mem_append_right _ (List.mem_of_getElem? (l := (Bundle.ownAtoms own ic tz_x []).drop 33) (i := 1) rfl))))
  obtain ⟨k, -, hfc, -⟩ := Cond.instantiable_spec (args := args) (first := s) (o := none) (s := s) (idx := []) hins
  refine W.newcK hexec hb hown hk hins hini rfl d0 hRc hRs hfc rfl fun H1 kX hkX e1 z1 o1 => ?_
  have hold : ∀ q : Nat, q < s.heap.size → ¬ A q → H1[q]? = s.heap[q]? := fun q h1 h2 => (o1 q (Nat.lt_of_lt_of_le h1 hS.1)).trans (hS.2.1 q h1 h2)
  refine lv_dup hexec hb d3 rfl ?_
  refine va_ldcS hexec hb hown hstr d4 ?_
  refine tz_init (ic := ic) hexec hb hl hown hws (va_Zq.kept hU.1 hold) (va_Zq.kept hN.1 hold) hfc hkX e1 hS.1 hsize d6 hRf (by show 1 + (rest.map fun v => v.category).sum + 81 ≤ R.locals; omega) fun H2 ce c1 c2 c3 c4 c5 => ?_
  refine tz_athrow hexec hb d9 ?_
  refine vx_out hout hlocks c1 c3 (by rw [c2]; exact hfc) (fun t ht hal => hx t hal ?_ ?_) hf hc hs
  · rw [ht, c4, z1]; exact Nat.le_succ _
  · intro q hq
    rw [ht, c5 q (Nat.ne_of_lt hq)]; exact o1 q hq
end TZ
