/-! making cells: memory, worlds, instructions -/
abbrev XC (X : amX) : Nat := X.2.2.2.2.2.2.2.2.2.2.2.2.2.2.2.2.1
abbrev XS (X : amX) : Nat := X.2.2.2.2.2.2.2.2.2.2.2.2.2.2.2.2.2.1
abbrev XM (X : amX) : Method := X.2.2.2.2.2.2.2.1
abbrev Xst (X : amX) : State := X.2.2.2.1
def newm (σ : Mem) (a : Int) (f : Int → Int) : Mem := fun b j => if b = a then f j else if b = -2 ∧ j = a then 1 else σ b j
def upr (ρ : Int → Nat) (a : Int) (q : Nat) : Int → Nat := fun z => if z = a then q else ρ z
theorem newm_s (σ : Mem) (a : Int) (f : Int → Int) : newm σ a f a = f := by funext j; unfold newm; rw [if_pos rfl]
theorem newm_o (σ : Mem) {a : Int} {f : Int → Int} {b : Int} (h : b ≠ a) (h2 : b ≠ -2) : newm σ a f b = σ b := by
  funext j; unfold newm; rw [if_neg h, if_neg (fun q => h2 q.1)]
theorem newm_l (σ : Mem) {a : Int} {f : Int → Int} (ha : 0 ≤ a) : newm σ a f (-2) a = 1 := by
  unfold newm; rw [if_neg (by omega), if_pos ⟨rfl, rfl⟩]
theorem newm_n (σ : Mem) {a : Int} {f : Int → Int} {b : Int} (ha : 0 ≤ a) (h : b ≠ a) : newm σ a f (-2) b = σ (-2) b := by
  unfold newm; rw [if_neg (by omega), if_neg (fun q => h q.2)]
theorem upr_s (ρ : Int → Nat) (a : Int) (q : Nat) : upr ρ a q a = q := if_pos rfl
theorem upr_o (ρ : Int → Nat) {a z : Int} (q : Nat) (h : z ≠ a) : upr ρ a q z = ρ z := if_neg h
theorem amTag_4 (c k : Nat) : amTag c k = 4 ∨ 8 ≤ amTag c k := by
  unfold amTag
  repeat' split
  all_goals first | exact Or.inl rfl | exact Or.inr (by decide)
theorem val_new {ρ : Int → Nat} {a z : Int} {q t : Nat} (hz : z ≠ a) : am_val (upr ρ a q) (t, z) = am_val ρ (t, z) := by
  match t with
  | 0 => rfl
  | 1 => rfl
  | t + 2 => rw [am_val_r _ z (by omega), am_val_r _ z (by omega), upr_o ρ q hz]
theorem okv_new {T : Int → Kd} {σ : Mem} {a : Int} {f : Int → Int} {v : AV} (ha : 0 ≤ a) (h : okv T σ v) : okv T (newm σ a f) v := by
  refine ⟨fun h8 => (h.1 h8).elim Or.inl (fun q => Or.inr ⟨?_, q.2⟩), h.2⟩
  by_cases e : v.2 = a
  · rw [e]; exact newm_l σ ha
  · rw [newm_n σ ha e]; exact q.1
theorem okl_new {T : Int → Kd} {σ : Mem} {a : Int} {f : Int → Int} {l : List AV} (ha : 0 ≤ a) (h : okl T σ l) : okl T (newm σ a f) l := fun v hv => okv_new ha (h v hv)
/-- a good reference isn't the new cell -/
theorem okv_ne {T : Int → Kd} {σ : Mem} {a z : Int} {t : Nat} (ha : 0 ≤ a) (ha2 : a < 20000) (hna : σ (-2) a ≠ 1) (ht : t = 4 ∨ 8 ≤ t) (h : okv T σ (t, z)) : z ≠ a := by
  intro e
  subst e
  rcases ht with ht | ht
  · have := h.2 (show 2 ≤ t by omega) (show t < 6 by omega)
    have : z < 0 ∨ 20000 ≤ z := this
    omega
  · rcases h.1 (show 8 ≤ t from ht) with h | ⟨h, -⟩
    · have : z < 0 := h
      omega
    · exact hna h
theorem fv_n2 {ρ ρ' : Int → Nat} {σ : Mem} {a : Int} {c k : Nat} {cr : Nat → Option Int} (h : amF c k ≠ 2) : am_fv ρ σ a c cr k = am_fv ρ' σ a c cr k := by
  unfold am_fv
  generalize amF c k = m at h ⊢
  match m, h with
  | 0, _ => rfl
  | 1, _ => rfl
  | 2, h => exact absurd rfl h
  | m + 3, _ => rfl
theorem arrV_cg {cI : ClassId} {N : Nat} {f g : Nat → Value} (h : ∀ j, j < N → f j = g j) : arrV cI N f = arrV cI N g := by
  have e : (fun j : Fin N => f j.val) = fun j => g j.val := funext fun j => h j.val j.isLt
  unfold arrV
  rw [e]
theorem con_n {ρ : Int → Nat} {σ : Mem} {b : Int} {t : Nat} (h9 : t ≠ 9) (ht : t ≠ 11) : am_con ρ σ b t = .inl (fun j => Int32.ofInt (σ b j)) := by
  unfold am_con
  split
  · exact absurd rfl h9
  · exact absurd rfl ht
  · rfl
theorem con_new {ρ ρ' : Int → Nat} {σ σ' : Mem} {b : Int} {t : Nat} (ht : t ≠ 11) (hs : σ' b = σ b) : am_con ρ' σ' b t = am_con ρ σ b t := by
  by_cases h9 : t = 9
  · subst h9
    show Sum.inr (Sum.inl (fun j : Nat => Int64.ofInt (σ' b j))) = Sum.inr (Sum.inl (fun j : Nat => Int64.ofInt (σ b j)))
    rw [hs]
  · rw [con_n h9 ht, con_n h9 ht, hs]
theorem at_new {D : va_G} {ca : Nat → ClassId} {T : Int → Kd} {ρ : Int → Nat} {σ : Mem} {a b : Int} {q : Nat} {f : Int → Int} {H : Heap} (ha : 0 ≤ a) (ha2 : a < 20000) (hna : σ (-2) a ≠ 1) (hb : b ≠ a) (hb0 : 0 ≤ b) (hcl : am_closed T σ b) (h : va_at D vwCl (ρ b, am_cell ρ ca σ b (T b)) H) : va_at D vwCl (upr ρ a q b, am_cell (upr ρ a q) ca (newm σ a f) b (T b)) H := by
  have hs : newm σ a f b = σ b := newm_o σ hb (by omega)
  rw [upr_o ρ q hb]
  unfold am_closed at hcl
  cases hT : T b with
  | inl x =>
    rw [hT] at h hcl
    have e : (List.range (amN x.1)).map (am_fv (upr ρ a q) (newm σ a f) b x.1 x.2) = (List.range (amN x.1)).map (am_fv ρ σ b x.1 x.2) := by
      apply List.map_congr_left
      intro k hk
      have hk := List.mem_range.mp hk
      have e1 : am_fv (upr ρ a q) (newm σ a f) b x.1 x.2 k = am_fv (upr ρ a q) σ b x.1 x.2 k := by unfold am_fv; rw [hs]
      rw [e1]
      by_cases h2 : amF x.1 k = 2
      · have ho := okv_ne ha ha2 hna (amTag_4 x.1 k) (hcl k hk h2)
        unfold am_fv
        rw [h2]
        exact val_new ho
      · exact fv_n2 h2
    have e2 : am_cell (upr ρ a q) ca (newm σ a f) b (.inl x) = am_cell ρ ca σ b (.inl x) := by
      show Sum.inr (x.1, _) = Sum.inr (x.1, _)
      rw [e]
    rw [e2]
    exact h
  | inr x =>
    rw [hT] at h hcl
    have hl : am_len (newm σ a f) b x.2 = am_len σ b x.2 := by unfold am_len; rw [hs]
    have h' : H[ρ b]? = some (vp_cell (ca x.1) ((am_len σ b x.2).toNat, am_con ρ σ b x.1)) := h
    show H[ρ b]? = some (vp_cell (ca x.1) ((am_len (newm σ a f) b x.2).toNat, am_con (upr ρ a q) (newm σ a f) b x.1))
    rw [hl]
    by_cases h11 : x.1 = 11
    · have c2 := hcl h11
      rw [h', h11]
      congr 1
      show arrV _ _ (fun j : Nat => va_rf (if σ b j < 0 then none else some (ρ (σ b j)))) = arrV _ _ (fun j : Nat => va_rf (if newm σ a f b j < 0 then none else some (upr ρ a q (newm σ a f b j))))
      rw [hs]
      refine arrV_cg (fun j hj => ?_)
      have := okv_ne ha ha2 hna (Or.inr (by decide)) (c2 j (by omega))
      rw [upr_o ρ q this]
    · rw [con_new (ρ := ρ) h11 hs]; exact h'
theorem D_fst {A : Nat → Prop} {w w' : va_W} (h : w'.map Prod.fst = w.map Prod.fst) (hD : va_D A w) : va_D A w' := by
  have key : ∀ (i : Nat) (p : Nat × va_E), w'[i]? = some p → ∃ q : Nat × va_E, w[i]? = some q ∧ q.1 = p.1 := by
    intro i p hp
    have e : (w'.map Prod.fst)[i]? = (w.map Prod.fst)[i]? := by rw [h]
    rw [List.getElem?_map, List.getElem?_map, hp] at e
    cases hq : w[i]? with
    | none => rw [hq] at e; cases e
    | some q =>
      rw [hq] at e
      simp only [Option.map_some, Option.some.injEq] at e
      exact ⟨q, rfl, e.symm⟩
  refine ⟨fun i j p q hp hq e => ?_, fun k q hq => ?_⟩
  · obtain ⟨p', hp', ep⟩ := key i p hp
    obtain ⟨q', hq', eq⟩ := key j q hq
    exact hD.1 i j p' q' hp' hq' (by rw [ep, eq]; exact e)
  · obtain ⟨q', hq', eq⟩ := key k q hq
    rw [← eq]; exact hD.2 k q' hq'
theorem amW_new {D : va_G} {ca : Nat → ClassId} {T : Int → Kd} {n0 : Nat} {ρ : Int → Nat} {σ : Mem} {H1 : Heap} {V : List Int} {a : Int} {q : Nat} {f : Int → Int} {e : va_E} (ha : 0 ≤ a) (ha2 : a < 20000) (hna : σ (-2) a ≠ 1) (hnd : V.Nodup) (hV : ∀ b, b ∈ V ↔ σ (-2) b = 1) (hV0 : ∀ b ∈ V, 0 ≤ b) (hcl : ∀ b ∈ V, am_closed T σ b)
    (he : e = am_cell (upr ρ a q) ca (newm σ a f) a (T a)) (hP : va_P D vwCl (am_ws ρ ca T σ V ++ [(q, e)]) H1) (hD : va_D (fun q => n0 ≤ q) (am_ws ρ ca T σ V ++ [(q, e)])) (hc : am_closed T (newm σ a f) a) : amW D ca T n0 (upr ρ a q) (newm σ a f) H1 := by
  have hnv : a ∉ V := fun h => hna ((hV a).mp h)
  have hne : ∀ b ∈ V, b ≠ a := fun b hb e => hnv (e ▸ hb)
  refine ⟨V ++ [a], ?_, fun b => ?_, fun b hb => ?_, ?_, ?_, fun b hb => ?_⟩
  · refine List.nodup_append.mpr ⟨hnd, List.nodup_cons.mpr ⟨List.not_mem_nil, List.nodup_nil⟩, fun x hx y hy => ?_⟩
    rw [List.mem_singleton.mp hy]; exact hne x hx
  · by_cases eb : b = a
    · subst eb
      exact ⟨fun _ => newm_l σ ha, fun _ => List.mem_append_right _ List.mem_cons_self⟩
    · rw [newm_n σ ha eb, ← hV b]
      constructor
      · intro h
        rcases List.mem_append.mp h with h | h
        · exact h
        · exact absurd (List.mem_singleton.mp h) eb
      · exact fun h => List.mem_append_left _ h
  · rcases List.mem_append.mp hb with h | h
    · exact hV0 b h
    · rw [List.mem_singleton.mp h]; exact ha
  · intro k x hx
    unfold am_ws at hx
    obtain ⟨b, hb, rfl⟩ := List.mem_map.mp (List.mem_of_getElem? hx)
    rcases List.mem_append.mp hb with h | h
    · have hm : (ρ b, am_cell ρ ca σ b (T b)) ∈ am_ws ρ ca T σ V ++ [(q, e)] := List.mem_append_left _ (List.mem_map.mpr ⟨b, h, rfl⟩)
      obtain ⟨i, hi⟩ := List.getElem?_of_mem hm
      exact at_new ha ha2 hna (hne b h) (hV0 b h) (hcl b h) (hP i _ hi)
    · rw [List.mem_singleton.mp h]
      have hm : (q, e) ∈ am_ws ρ ca T σ V ++ [(q, e)] := List.mem_append_right _ List.mem_cons_self
      obtain ⟨i, hi⟩ := List.getElem?_of_mem hm
      have := hP i _ hi
      rw [he] at this
      rw [upr_s]
      exact this
  · refine D_fst ?_ hD
    unfold am_ws
    simp only [List.map_append, List.map_map, List.map_cons, List.map_nil, upr_s]
    congr 1
    apply List.map_congr_left
    intro b hb
    exact upr_o ρ q (hne b hb)
  · rcases List.mem_append.mp hb with h | h
    · have hs : newm σ a f b = σ b := newm_o σ (hne b h) (by have := hV0 b h; omega)
      have h9 := hcl b h
      unfold am_closed at h9 ⊢
      cases hT : T b with
      | inl x =>
        rw [hT] at h9
        intro k hk hf
        rw [hs]
        exact okv_new ha (h9 k hk hf)
      | inr x =>
        rw [hT] at h9
        intro h11 j hj
        rw [hs]
        have hl : am_len (newm σ a f) b x.2 = am_len σ b x.2 := by unfold am_len; rw [hs]
        rw [hl] at hj
        exact okv_new ha (h9 h11 j hj)
    · rw [List.mem_singleton.mp h]; exact hc
theorem ag_new {ρ0 ρ : Int → Nat} {σ0 σ : Mem} {a : Int} {q : Nat} {f : Int → Int} (ha : 0 ≤ a) (ha2 : a < 20000) (hna : σ (-2) a ≠ 1) (h : amAg ρ0 ρ σ0 σ) : amAg ρ0 (upr ρ a q) σ0 (newm σ a f) := by
  refine ⟨fun b hb => ?_, fun b hb => ?_⟩
  · have := h.1 b hb
    have hne : b ≠ a := fun e => hna (e ▸ this.1)
    rw [newm_n σ ha hne, upr_o ρ q hne]; exact this
  · rw [upr_o ρ q (by omega)]; exact h.2 b hb
/-- the locals' words stay -/
theorem lvl_new {T : Int → Kd} {ρ : Int → Nat} {σ : Mem} {a : Int} {q : Nat} (ha : 0 ≤ a) (ha2 : a < 20000) (hna : σ (-2) a ≠ 1) {ls : List AV} {i : Nat} (h : okl T σ ls) : lvl (upr ρ a q) i ls = lvl ρ i ls :=
  ag_lvl (σ := σ) (σ' := newm σ a (fun _ => 0)) (ag_new ha ha2 hna ⟨fun _ h => ⟨h, rfl⟩, fun _ _ => rfl⟩) ls i h
theorem st_new {T : Int → Kd} {ρ : Int → Nat} {σ : Mem} {a : Int} {q : Nat} (ha : 0 ≤ a) (ha2 : a < 20000) (hna : σ (-2) a ≠ 1) {st : List AV} (h : okl T σ st) (h67 : ∀ v ∈ st, v.1 ≠ 6 ∧ v.1 ≠ 7) : st.map (am_val (upr ρ a q)) = st.map (am_val ρ) :=
  ag_st (σ := σ) (σ' := newm σ a (fun _ => 0)) (ag_new ha ha2 hna ⟨fun _ h => ⟨h, rfl⟩, fun _ _ => rfl⟩) h h67
/-- counting cells and slots behind the locals -/
def cnt (ls : List AV) (L : Nat) (c s : Int) : List AV := (ls.set L (6, (lg ls L).2 + c)).set (L + 1) (6, (lg ls (L + 1)).2 + s)
theorem cnt_e (ls : List AV) (L : Nat) (c s : Int) : cnt ls L c s = (ls.set L (6, (lg ls L).2 + c)).set (L + 1) (6, (lg ls (L + 1)).2 + s) := rfl
theorem lg_at {ls : List AV} {i : Nat} {v : AV} (h : i < ls.length) : lg (ls.set i v) i = v := by
  unfold lg
  rw [List.getD_eq_getElem?_getD, List.getElem?_set_self h]; rfl
theorem lg_at2 {ls : List AV} {i j : Nat} {v : AV} (h : i ≠ j) : lg (ls.set i v) j = lg ls j := by
  unfold lg
  rw [List.getD_eq_getElem?_getD, List.getD_eq_getElem?_getD, List.getElem?_set_ne h]
theorem cnt_0 {ls : List AV} {L : Nat} {c s : Int} (h : L + 1 < ls.length) : (lg (cnt ls L c s) L).2 = (lg ls L).2 + c := by
  unfold cnt; rw [lg_at2 (by omega), lg_at (by omega)]
theorem cnt_1 {ls : List AV} {L : Nat} {c s : Int} (h : L + 1 < ls.length) : (lg (cnt ls L c s) (L + 1)).2 = (lg ls (L + 1)).2 + s := by
  unfold cnt; rw [lg_at (by simpa using h)]
theorem lvl_set6 (ρ : Int → Nat) {v : AV} (hv : v.1 = 6) : ∀ (ls : List AV) (i k : Nat) (q : Nat × Value), q ∈ lvl ρ k (ls.set i v) → q ∈ lvl ρ k ls := by
  intro ls
  induction ls with
  | nil => intro i k q h; exact h
  | cons w ls ih =>
    intro i k q h
    cases i with
    | zero =>
      rw [List.set_cons_zero] at h
      unfold lvl at h ⊢
      rw [if_pos (Or.inl hv)] at h
      split
      · exact h
      · exact List.mem_cons_of_mem _ h
    | succ i =>
      rw [List.set_cons_succ] at h
      unfold lvl at h ⊢
      split at h
      · rename_i hw; rw [if_pos hw]; exact ih i _ q h
      · rename_i hw
        rw [if_neg hw]
        rcases List.mem_cons.mp h with h | h
        · rw [h]; exact List.mem_cons_self
        · exact List.mem_cons_of_mem _ (ih i _ q h)
theorem lv_cnt {ρ : Int → Nat} {LS : Array Slot} {n : Nat} {ls : List AV} {L : Nat} {c s : Int} (h : lv_has LS n (lvl ρ 0 ls)) : lv_has LS n (lvl ρ 0 (cnt ls L c s)) :=
  lv_mono h (fun q hq => lvl_set6 ρ rfl _ _ _ q (lvl_set6 ρ rfl _ _ _ q hq))
theorem okl_cnt {T : Int → Kd} {σ : Mem} {ls : List AV} {L : Nat} {c s : Int} (h : okl T σ ls) : okl T σ (cnt ls L c s) := okl_set (okl_set h (okv_s (by decide))) (okv_s (by decide))
/-- a place that is free for a new cell -/
def nl (σ : Mem) (a : Int) : Prop := 0 ≤ a ∧ a < 20000 ∧ σ (-2) a ≠ 1
/-- the fields of a new object -/
def dfv (c : Nat) : Int → Int := fun j => if amF c j.toNat = 2 then -1 else 0
def isNO (T : Int → Kd) (a : Int) (c : Nat) : Prop := ∃ cr, T a = .inl (c, cr) ∧ ∀ k, cr k = none
def vNew (T : Int → Kd) (c N : Nat) (g : List AV → Mem → Int) (MC MS L n : Nat) : VT := fun _ K ls st σ => L + 1 < ls.length ∧ acok st 8 = true ∧ nl σ (g ls σ) ∧ isNO T (g ls σ) c ∧ (lg ls L).2 + 1 ≤ MC ∧ (lg ls (L + 1)).2 + N ≤ MS ∧ K n (cnt ls L 1 N) ((16 + c, g ls σ) :: st) (newm σ (g ls σ) (dfv c))
theorem vNew_e (T : Int → Kd) (c N : Nat) (g : List AV → Mem → Int) (MC MS L n : Nat) (Q) (K) (ls st : List AV) (σ : Mem) : vNew T c N g MC MS L n Q K ls st σ = (L + 1 < ls.length ∧ acok st 8 = true ∧ nl σ (g ls σ) ∧ isNO T (g ls σ) c ∧ (lg ls L).2 + 1 ≤ MC ∧ (lg ls (L + 1)).2 + N ≤ MS ∧ K n (cnt ls L 1 N) ((16 + c, g ls σ) :: st) (newm σ (g ls σ) (dfv c))) := rfl
def dfl (m : Nat) : Value := match m with | 1 => .long 0 | 2 => .null | _ => .int 0
theorem ok_new {X : amX} {own : String} {cc : ByteArray} {ret : Option FieldType} {L pc : Nat} (hB : amB X own cc ret L) {T : Int → Kd} {MC MS : Nat} (e1 : XT X = T) (e3 : XC X = MC) (e4 : XS X = MS) {c N index : Nat} {C : String} {Tt : u_T} {ty : Nat → FieldType} (hc : vwCl[c]? = some (C, Tt, N)) (hin : ∀ w ∈ u_ws C Tt N, w ∈ TBL) (hty : ∀ k, k < N → parseFieldDescriptor (Tt k).2.2.1 = some (ty k)) (hdf : ∀ k, k < N → defaultValue (ty k) = dfl (amF c k))
    (hcl : Cond.classLink own index C ∈ TBL) (hinst : Cond.instantiable C N ∈ TBL) (hini : Cond.initialized C ∈ TBL) (g : List AV → Mem → Int) (hd : decode cc pc = .ok (.new index, 3)) : amOK X pc (vNew T c N g MC MS L (pc + 3)) := by
  obtain ⟨p, l, e, s, m, args, below, meth, c0, D, ca, n0, T', ρ0, σ0, dd, mc, ms, nL, Q⟩ := X
  obtain ⟨hx, hb, hr, hml, hnL, hown, hts, hlocks, hK0, hA0, hst0⟩ := hB
  intro K ls st σ hK h ρ H locs LS kk n hW hS hl hokl hoks hk hn hag
  dsimp only [XT, XC, XS] at e1 e3 e4
  subst e1 e3 e4 hnL
  obtain ⟨hlen, hac, ⟨ha, ha2, hna⟩, ⟨cr, hTa, hno⟩, hc1, hc2, h⟩ := h
  obtain ⟨h67, -⟩ := acok_67 _ _ hac
  generalize g ls σ = a at *
  obtain ⟨V, hnd, hV, hV0, hP, hD, hcls⟩ := id hW
  have hN : amN c = N := by unfold amN; rw [hc]
  have hfs : ∀ (q : Nat) (j : Nat), j < N → defaultValue (ty j) = vp_V ((List.range (amN c)).map (am_fv (upr ρ a q) (newm σ a (dfv c)) a c cr)) j := by
    intro q j hj
    unfold vp_V
    rw [List.getD_eq_getElem?_getD, am_fs hN hj, Option.getD_some, hdf j hj]
    unfold am_fv dfl
    rw [newm_s, hno j]
    unfold dfv
    rw [Int.toNat_natCast]
    generalize amF c j = m9
    match m9 with
    | 0 => rfl
    | 1 => rfl
    | 2 => rfl
    | m9 + 3 => rfl
  refine va_new (D := D) (ci := c) (C := C) (T := Tt) (N := N) hx hb hts hin ty hty hown (hts _ hcl) (hts _ hinst) (hts _ hini) hK0 hP hD hS (fun q hq => Nat.le_trans hA0 hq) hc (fs := (List.range (amN c)).map (am_fv ρ (newm σ a (dfv c)) a c cr)) ?_ (by show kk + 1 ≤ mc; omega) (by show n + N ≤ ms; omega) hd (fun q H1 hP1 hD1 hS1 => ?_)
  · intro j hj
    have e9 : am_fv ρ (newm σ a (dfv c)) a c cr j = am_fv (upr ρ a 0) (newm σ a (dfv c)) a c cr j := by
      by_cases h2 : amF c j = 2
      · unfold am_fv; rw [h2, newm_s, hno j]
        unfold dfv
        rw [Int.toNat_natCast, h2]; rfl
      · exact fv_n2 h2
    have := hfs 0 j hj
    unfold vp_V at this ⊢
    rw [List.getD_eq_getElem?_getD, am_fs hN hj] at this ⊢
    rw [this, e9]
  · have he : (Sum.inr (c, (List.range (amN c)).map (am_fv ρ (newm σ a (dfv c)) a c cr)) : va_E) = am_cell (upr ρ a q) ca (newm σ a (dfv c)) a (T' a) := by
      rw [hTa]
      show Sum.inr (c, _) = Sum.inr (c, (List.range (amN c)).map (am_fv (upr ρ a q) (newm σ a (dfv c)) a c cr))
      congr 2
      apply List.map_congr_left
      intro j hj
      by_cases h2 : amF c j = 2
      · unfold am_fv; rw [h2, newm_s, hno j]
        unfold dfv
        rw [Int.toNat_natCast, h2]; rfl
      · exact fv_n2 h2
    have hcn : am_closed T' (newm σ a (dfv c)) a := by
      unfold am_closed
      rw [hTa]
      intro k hk2 hf
      have hf : amF c k = 2 := hf
      show okv T' (newm σ a (dfv c)) (amTag c k, (cr k).getD (newm σ a (dfv c) a k))
      rw [hno k, newm_s]
      unfold dfv
      rw [Int.toNat_natCast, if_pos hf]
      exact ⟨fun _ => Or.inl (show (-1 : Int) < 0 by decide), fun _ _ => Or.inl (show (-1 : Int) < 0 by decide)⟩
    have hW1 := amW_new ha ha2 hna hnd hV hV0 hcls he hP1 hD1 hcn
    have hokv : okv T' (newm σ a (dfv c)) (16 + c, a) := ⟨fun _ => Or.inr ⟨newm_l σ ha, by rw [hTa]; rfl⟩, fun _ h6 => absurd h6 (by show ¬ 16 + c < 6; omega)⟩
    have key := hK _ _ _ _ h (upr ρ a q) H1 locs LS (kk + 1) (n + N) hW1 hS1 (lv_cnt (by rw [lvl_new ha ha2 hna hokl]; exact hl)) (okl_cnt (okl_new ha hokl)) (okl_c.mpr ⟨hokv, okl_new ha hoks⟩) (by rw [cnt_0 hlen]; omega) (by rw [cnt_1 hlen]; omega) (ag_new ha ha2 hna hag)
    rw [List.map_cons, st_new ha ha2 hna hoks h67, am_val_p _ (by omega) ha, upr_s] at key
    exact key
