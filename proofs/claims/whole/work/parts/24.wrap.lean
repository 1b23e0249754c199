/-! rows as the printed tables use them -/
theorem fc {X : amX} {pc : Nat} {v : VT} {l : AC} (h : amOK X pc v) (hl : ∀ q ∈ l, amOK X q.1 q.2) : ∀ q ∈ ((pc, v) :: l), amOK X q.1 q.2 := List.forall_mem_cons.mpr ⟨h, hl⟩
theorem fn {X : amX} : ∀ q ∈ ([] : AC), amOK X q.1 q.2 := fun _ h => nomatch h
theorem rt_arr (t : FieldType) : ∀ v : Value, (v = .null ∨ ∃ b, v = .ref b) → narrow (.array t) v = v ∧ fits (.array t) v = true := by
  rintro v (rfl | ⟨b, rfl⟩) <;> exact ⟨rfl, rfl⟩
theorem rt_obj (t : String) : ∀ v : Value, (v = .null ∨ ∃ b, v = .ref b) → narrow (.object t) v = v ∧ fits (.object t) v = true := by
  rintro v (rfl | ⟨b, rfl⟩) <;> exact ⟨rfl, rfl⟩
section OKT
variable {X : amX} {T : Int → Kd} {own : String} {cc : ByteArray} {ret : Option FieldType} {L pc : Nat}
theorem okt_getR {C : String} {Tt : u_T} {N c k index t : Nat} (e1 : XT X = T) (hB : amB X own cc ret L) (hT : amTok (XT X)) (hF : amFl own c k index C Tt N) (ht : t = 16 + c) (hf : amF c k = 2) {tr : Nat} (htr : amTag c k = tr) (h2 : 2 ≤ tr) (hd : decode cc pc = .ok (.getfield index, 3)) : amOK X pc (vGetR T t k tr (pc + 3)) := e1 ▸ ok_getR hB hT hF ht hf htr h2 hd
theorem okt_putR {C : String} {Tt : u_T} {N c k index t : Nat} {ty0 : Nat → FieldType} {ty : FieldType} (e1 : XT X = T) (hB : amB X own cc ret L) (hT : amTok (XT X)) (hF : amFp own c k index C Tt N ty0 ty) (hrt : ∀ v : Value, (v = .null ∨ ∃ b, v = .ref b) → narrow ty v = v ∧ fits ty v = true) (hfin : (Tt k).2.2.2 = false) (ht : t = 16 + c) {kz : Int} (hz : kz = (k : Int)) (hf : amF c k = 2) {tr : Nat} (htr : amTag c k = tr) (h2 : 2 ≤ tr) (h6r : ¬ tr < 6) (hd : decode cc pc = .ok (.putfield index, 3)) : amOK X pc (vPutR T t k tr kz (pc + 3)) := e1 ▸ ok_putR hB hT hF hrt hfin ht hz hf htr h2 h6r hd
theorem okt_iaload (e1 : XT X = T) (hB : amB X own cc ret L) (hd : decode cc pc = .ok (.iaload, 1)) : amOK X pc (vIald T (pc + 1)) := e1 ▸ ok_iaload hB hd
theorem okt_laload (e1 : XT X = T) (hB : amB X own cc ret L) (hd : decode cc pc = .ok (.laload, 1)) : amOK X pc (vLald T (pc + 1)) := e1 ▸ ok_laload hB hd
theorem okt_baload (e1 : XT X = T) (hB : amB X own cc ret L) (hd : decode cc pc = .ok (.baload, 1)) : amOK X pc (vBald T (pc + 1)) := e1 ▸ ok_baload hB hd
theorem okt_aaload (e1 : XT X = T) (hB : amB X own cc ret L) (hd : decode cc pc = .ok (.aaload, 1)) : amOK X pc (vAald T (pc + 1)) := e1 ▸ ok_aaload hB hd
theorem okt_iastore (e1 : XT X = T) (hB : amB X own cc ret L) (hd : decode cc pc = .ok (.iastore, 1)) : amOK X pc (vIast T (pc + 1)) := e1 ▸ ok_iastore hB hd
theorem okt_lastore (e1 : XT X = T) (hB : amB X own cc ret L) (hd : decode cc pc = .ok (.lastore, 1)) : amOK X pc (vLast T (pc + 1)) := e1 ▸ ok_lastore hB hd
theorem okt_bastore (e1 : XT X = T) (hB : amB X own cc ret L) (hd : decode cc pc = .ok (.bastore, 1)) : amOK X pc (vBast T (pc + 1)) := e1 ▸ ok_bastore hB hd
theorem okt_arraylength (e1 : XT X = T) (hB : amB X own cc ret L) (hd : decode cc pc = .ok (.arraylength, 1)) : amOK X pc (vAlen T (pc + 1)) := e1 ▸ ok_arraylength hB hd
theorem okt_aastore (e1 : XT X = T) (hB : amB X own cc ret L) (hT : amTok (XT X)) (hd : decode cc pc = .ok (.aastore, 1)) : amOK X pc (vAast T (pc + 1)) := e1 ▸ ok_aastore hB hT hd
end OKT
theorem am_m {d mc ms : Nat} {T : Int → Kd} {y : MethodName} {cc : ByteArray} {maxL w : Nat} {ret : Option FieldType} {av : List AV} {σ0 : Mem} {Q : AV → Mem → Prop} {A : Nat → VT} (cuts : List Nat) (INV : Nat → Nat → List AV → List AV → Mem → Prop) (own : String)
    (hA : ∀ X : amX, XT X = T → XD X = d → amB X own cc ret maxL → ∀ pc, amOK X pc (A pc)) (hown : y.cls = own) (hy : plainFor y = true) (hav : Nat.ble (entA av).length maxL = true) (h67 : av.all (fun v => v.1 != 6 && v.1 != 7) = true)
    (hb : ∀ n pc ls st σ, INV n pc ls st σ → ∃ f, A pc Q (vcs A cuts (fun pc ls st σ => ∃ k, k < n ∧ INV k pc ls st σ) Q f) ls st σ)
    (he : ∃ f, vcs A cuts (fun pc ls st σ => ∃ n, INV n pc ls st σ) Q f 0 (entl av w) [] σ0) : amCall d mc ms T y cc maxL ret av σ0 Q := by
  subst hown
  refine am_method hy hA (Nat.le_of_ble_eq_true hav) (fun v hv => ?_) hb he
  have := List.all_eq_true.mp h67 v hv
  simpa using this
/-- a method without loops -/
theorem am_m0 {d mc ms : Nat} {T : Int → Kd} {y : MethodName} {cc : ByteArray} {maxL w : Nat} {ret : Option FieldType} {av : List AV} {σ0 : Mem} {Q : AV → Mem → Prop} {A : Nat → VT} (own : String)
    (hA : ∀ X : amX, XT X = T → XD X = d → amB X own cc ret maxL → ∀ pc, amOK X pc (A pc)) (hown : y.cls = own) (hy : plainFor y = true) (hav : Nat.ble (entA av).length maxL = true) (h67 : av.all (fun v => v.1 != 6 && v.1 != 7) = true) (f : Nat)
    (he : vcs A [] (fun _ _ _ _ => False) Q f 0 (entl av w) [] σ0) : amCall d mc ms T y cc maxL ret av σ0 Q := by
  refine am_m [] (fun _ _ _ _ _ => False) own hA hown hy hav h67 (fun _ _ _ _ _ h => absurd h id) ⟨f, ?_⟩ (w := w)
  simpa using he
