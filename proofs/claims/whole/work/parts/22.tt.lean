/-! where the cells lie -/
def crf (l : List (Nat × Int)) : Nat → Option Int := fun k => (l.find? (fun q => q.1 == k)).map (fun q => q.2)
def kdX : List Kd := [.inl (11, crf [(0, 1), (1, 3), (2, 6), (3, 9), (4, 12), (7, 13), (10, 16), (11, 21), (12, 26), (13, 31), (14, 36), (15, 39), (16, 41)]), .inl (10, crf [(0, 2)]), .inr (8, 240), .inl (6, crf [(0, 4), (1, 5)]), .inr (8, 68), .inr (8, 4), .inl (6, crf [(0, 7), (1, 8)]), .inr (8, 68), .inr (8, 4), .inl (3, crf [(0, 1), (1, 10), (3, 11)]), .inr (8, 241), .inr (8, 64), .inr (11, 4), .inl (7, crf [(0, 1), (1, 14), (2, 15)]), .inr (8, 240), .inr (8, 5), .inl (0, crf [(0, 17), (1, 18), (2, 19), (3, 20)]), .inr (8, 6), .inr (8, 6), .inr (8, 6), .inr (8, 6), .inl (0, crf [(0, 22), (1, 23), (2, 24), (3, 25)]), .inr (8, 6), .inr (8, 6), .inr (8, 6), .inr (8, 6), .inl (9, crf [(0, 6), (2, 27), (3, 28), (4, 29), (5, 30)]), .inr (8, 6), .inr (8, 324), .inr (8, 6), .inr (8, 6), .inl (5, crf [(0, 32), (2, 33), (5, 34), (6, 35)]), .inr (8, 128), .inr (8, 1120), .inr (8, 27), .inr (8, 60), .inl (8, crf [(0, 6), (1, 26), (2, 37), (3, 38)]), .inr (9, 64), .inr (9, 64), .inl (4, crf [(0, 6), (1, 26), (2, 40)]), .inr (8, 24), .inl (1, crf [(0, 6), (1, 26), (2, 16), (3, 42)]), .inr (8, 50)]
def kdM : List Kd := [.inl (12, crf [(1, 5001), (2, 5002), (3, 5003), (4, 5004), (15, 20004), (16, 20005), (18, 5005), (19, 5006), (20, 5007), (21, 5008), (22, 5009), (23, 5010), (24, 5011), (25, 5012), (26, 5013), (27, 5014), (36, 5015), (37, 5016), (40, 5017), (41, 5018), (42, 5019), (43, 5020), (44, 5021), (45, 5022), (47, 5023), (52, 5024), (54, 5025), (55, 5026)]), .inr (10, 240), .inr (10, 960), .inr (8, 4), .inr (8, 128), .inr (8, 2), .inr (8, 2), .inr (8, 16), .inr (8, 16), .inr (8, 18), .inr (8, 18), .inr (8, 6), .inr (8, 6), .inr (8, 240), .inr (8, 5), .inr (8, 208), .inr (8, 208), .inr (9, 8191), .inr (8, 8191), .inr (8, 6), .inr (8, 6), .inr (8, 6), .inr (8, 6), .inr (8, 8320), .inr (8, 50), .inr (8, 72), .inr (8, 208)]
def kdL (a : Int) (r : Nat) : Kd := match r with | 0 => .inl (2, fun k => if k = 0 then some (a + 1) else if k = 1 then some (a + 2) else none) | 1 => .inr (8, -1) | _ => .inr (8, 48)
def TT (a : Int) : Kd := if a < 43 then kdX.getD a.toNat (.inr (8, 0)) else if a < 100 then .inr (8, 0) else if a < 112 then kdL a ((a - 100).toNat % 3) else if a < 5000 then .inr (8, 0) else if a < 5027 then kdM.getD (a - 5000).toNat (.inr (8, 0)) else if a = 9000 then .inr (9, 1) else .inr (8, 0)
theorem rf_0_0 (σ : Mem) : rfv TT σ 0 0 = 1 := rfl
theorem rf_0_1 (σ : Mem) : rfv TT σ 0 1 = 3 := rfl
theorem rf_0_2 (σ : Mem) : rfv TT σ 0 2 = 6 := rfl
theorem rf_0_3 (σ : Mem) : rfv TT σ 0 3 = 9 := rfl
theorem rf_0_4 (σ : Mem) : rfv TT σ 0 4 = 12 := rfl
theorem rf_0_7 (σ : Mem) : rfv TT σ 0 7 = 13 := rfl
theorem rf_0_10 (σ : Mem) : rfv TT σ 0 10 = 16 := rfl
theorem rf_0_11 (σ : Mem) : rfv TT σ 0 11 = 21 := rfl
theorem rf_0_12 (σ : Mem) : rfv TT σ 0 12 = 26 := rfl
theorem rf_0_13 (σ : Mem) : rfv TT σ 0 13 = 31 := rfl
theorem rf_0_14 (σ : Mem) : rfv TT σ 0 14 = 36 := rfl
theorem rf_0_15 (σ : Mem) : rfv TT σ 0 15 = 39 := rfl
theorem rf_0_16 (σ : Mem) : rfv TT σ 0 16 = 41 := rfl
theorem rf_1_0 (σ : Mem) : rfv TT σ 1 0 = 2 := rfl
theorem al_2 (σ : Mem) : alen TT σ 2 = 240 := rfl
theorem rf_3_0 (σ : Mem) : rfv TT σ 3 0 = 4 := rfl
theorem rf_3_1 (σ : Mem) : rfv TT σ 3 1 = 5 := rfl
theorem al_4 (σ : Mem) : alen TT σ 4 = 68 := rfl
theorem al_5 (σ : Mem) : alen TT σ 5 = 4 := rfl
theorem rf_6_0 (σ : Mem) : rfv TT σ 6 0 = 7 := rfl
theorem rf_6_1 (σ : Mem) : rfv TT σ 6 1 = 8 := rfl
theorem al_7 (σ : Mem) : alen TT σ 7 = 68 := rfl
theorem al_8 (σ : Mem) : alen TT σ 8 = 4 := rfl
theorem rf_9_0 (σ : Mem) : rfv TT σ 9 0 = 1 := rfl
theorem rf_9_1 (σ : Mem) : rfv TT σ 9 1 = 10 := rfl
theorem rf_9_3 (σ : Mem) : rfv TT σ 9 3 = 11 := rfl
theorem al_10 (σ : Mem) : alen TT σ 10 = 241 := rfl
theorem al_11 (σ : Mem) : alen TT σ 11 = 64 := rfl
theorem al_12 (σ : Mem) : alen TT σ 12 = 4 := rfl
theorem rf_13_0 (σ : Mem) : rfv TT σ 13 0 = 1 := rfl
theorem rf_13_1 (σ : Mem) : rfv TT σ 13 1 = 14 := rfl
theorem rf_13_2 (σ : Mem) : rfv TT σ 13 2 = 15 := rfl
theorem al_14 (σ : Mem) : alen TT σ 14 = 240 := rfl
theorem al_15 (σ : Mem) : alen TT σ 15 = 5 := rfl
theorem rf_16_0 (σ : Mem) : rfv TT σ 16 0 = 17 := rfl
theorem rf_16_1 (σ : Mem) : rfv TT σ 16 1 = 18 := rfl
theorem rf_16_2 (σ : Mem) : rfv TT σ 16 2 = 19 := rfl
theorem rf_16_3 (σ : Mem) : rfv TT σ 16 3 = 20 := rfl
theorem al_17 (σ : Mem) : alen TT σ 17 = 6 := rfl
theorem al_18 (σ : Mem) : alen TT σ 18 = 6 := rfl
theorem al_19 (σ : Mem) : alen TT σ 19 = 6 := rfl
theorem al_20 (σ : Mem) : alen TT σ 20 = 6 := rfl
theorem rf_21_0 (σ : Mem) : rfv TT σ 21 0 = 22 := rfl
theorem rf_21_1 (σ : Mem) : rfv TT σ 21 1 = 23 := rfl
theorem rf_21_2 (σ : Mem) : rfv TT σ 21 2 = 24 := rfl
theorem rf_21_3 (σ : Mem) : rfv TT σ 21 3 = 25 := rfl
theorem al_22 (σ : Mem) : alen TT σ 22 = 6 := rfl
theorem al_23 (σ : Mem) : alen TT σ 23 = 6 := rfl
theorem al_24 (σ : Mem) : alen TT σ 24 = 6 := rfl
theorem al_25 (σ : Mem) : alen TT σ 25 = 6 := rfl
theorem rf_26_0 (σ : Mem) : rfv TT σ 26 0 = 6 := rfl
theorem rf_26_1 (σ : Mem) : rfv TT σ 26 1 = σ 26 1 := rfl
theorem rf_26_2 (σ : Mem) : rfv TT σ 26 2 = 27 := rfl
theorem rf_26_3 (σ : Mem) : rfv TT σ 26 3 = 28 := rfl
theorem rf_26_4 (σ : Mem) : rfv TT σ 26 4 = 29 := rfl
theorem rf_26_5 (σ : Mem) : rfv TT σ 26 5 = 30 := rfl
theorem rf_26_6 (σ : Mem) : rfv TT σ 26 6 = σ 26 6 := rfl
theorem al_27 (σ : Mem) : alen TT σ 27 = 6 := rfl
theorem al_28 (σ : Mem) : alen TT σ 28 = 324 := rfl
theorem al_29 (σ : Mem) : alen TT σ 29 = 6 := rfl
theorem al_30 (σ : Mem) : alen TT σ 30 = 6 := rfl
theorem rf_31_0 (σ : Mem) : rfv TT σ 31 0 = 32 := rfl
theorem rf_31_2 (σ : Mem) : rfv TT σ 31 2 = 33 := rfl
theorem rf_31_5 (σ : Mem) : rfv TT σ 31 5 = 34 := rfl
theorem rf_31_6 (σ : Mem) : rfv TT σ 31 6 = 35 := rfl
theorem al_32 (σ : Mem) : alen TT σ 32 = 128 := rfl
theorem al_33 (σ : Mem) : alen TT σ 33 = 1120 := rfl
theorem al_34 (σ : Mem) : alen TT σ 34 = 27 := rfl
theorem al_35 (σ : Mem) : alen TT σ 35 = 60 := rfl
theorem rf_36_0 (σ : Mem) : rfv TT σ 36 0 = 6 := rfl
theorem rf_36_1 (σ : Mem) : rfv TT σ 36 1 = 26 := rfl
theorem rf_36_2 (σ : Mem) : rfv TT σ 36 2 = 37 := rfl
theorem rf_36_3 (σ : Mem) : rfv TT σ 36 3 = 38 := rfl
theorem al_37 (σ : Mem) : alen TT σ 37 = 64 := rfl
theorem al_38 (σ : Mem) : alen TT σ 38 = 64 := rfl
theorem rf_39_0 (σ : Mem) : rfv TT σ 39 0 = 6 := rfl
theorem rf_39_1 (σ : Mem) : rfv TT σ 39 1 = 26 := rfl
theorem rf_39_2 (σ : Mem) : rfv TT σ 39 2 = 40 := rfl
theorem al_40 (σ : Mem) : alen TT σ 40 = 24 := rfl
theorem rf_41_0 (σ : Mem) : rfv TT σ 41 0 = 6 := rfl
theorem rf_41_1 (σ : Mem) : rfv TT σ 41 1 = 26 := rfl
theorem rf_41_2 (σ : Mem) : rfv TT σ 41 2 = 16 := rfl
theorem rf_41_3 (σ : Mem) : rfv TT σ 41 3 = 42 := rfl
theorem al_42 (σ : Mem) : alen TT σ 42 = 50 := rfl
theorem rf_5000_1 (σ : Mem) : rfv TT σ 5000 1 = 5001 := rfl
theorem rf_5000_2 (σ : Mem) : rfv TT σ 5000 2 = 5002 := rfl
theorem rf_5000_3 (σ : Mem) : rfv TT σ 5000 3 = 5003 := rfl
theorem rf_5000_4 (σ : Mem) : rfv TT σ 5000 4 = 5004 := rfl
theorem rf_5000_5 (σ : Mem) : rfv TT σ 5000 5 = σ 5000 5 := rfl
theorem rf_5000_15 (σ : Mem) : rfv TT σ 5000 15 = 20004 := rfl
theorem rf_5000_16 (σ : Mem) : rfv TT σ 5000 16 = 20005 := rfl
theorem rf_5000_18 (σ : Mem) : rfv TT σ 5000 18 = 5005 := rfl
theorem rf_5000_19 (σ : Mem) : rfv TT σ 5000 19 = 5006 := rfl
theorem rf_5000_20 (σ : Mem) : rfv TT σ 5000 20 = 5007 := rfl
theorem rf_5000_21 (σ : Mem) : rfv TT σ 5000 21 = 5008 := rfl
theorem rf_5000_22 (σ : Mem) : rfv TT σ 5000 22 = 5009 := rfl
theorem rf_5000_23 (σ : Mem) : rfv TT σ 5000 23 = 5010 := rfl
theorem rf_5000_24 (σ : Mem) : rfv TT σ 5000 24 = 5011 := rfl
theorem rf_5000_25 (σ : Mem) : rfv TT σ 5000 25 = 5012 := rfl
theorem rf_5000_26 (σ : Mem) : rfv TT σ 5000 26 = 5013 := rfl
theorem rf_5000_27 (σ : Mem) : rfv TT σ 5000 27 = 5014 := rfl
theorem rf_5000_36 (σ : Mem) : rfv TT σ 5000 36 = 5015 := rfl
theorem rf_5000_37 (σ : Mem) : rfv TT σ 5000 37 = 5016 := rfl
theorem rf_5000_40 (σ : Mem) : rfv TT σ 5000 40 = 5017 := rfl
theorem rf_5000_41 (σ : Mem) : rfv TT σ 5000 41 = 5018 := rfl
theorem rf_5000_42 (σ : Mem) : rfv TT σ 5000 42 = 5019 := rfl
theorem rf_5000_43 (σ : Mem) : rfv TT σ 5000 43 = 5020 := rfl
theorem rf_5000_44 (σ : Mem) : rfv TT σ 5000 44 = 5021 := rfl
theorem rf_5000_45 (σ : Mem) : rfv TT σ 5000 45 = 5022 := rfl
theorem rf_5000_47 (σ : Mem) : rfv TT σ 5000 47 = 5023 := rfl
theorem rf_5000_52 (σ : Mem) : rfv TT σ 5000 52 = 5024 := rfl
theorem rf_5000_54 (σ : Mem) : rfv TT σ 5000 54 = 5025 := rfl
theorem rf_5000_55 (σ : Mem) : rfv TT σ 5000 55 = 5026 := rfl
theorem al_5001 (σ : Mem) : alen TT σ 5001 = 240 := rfl
theorem al_5002 (σ : Mem) : alen TT σ 5002 = 960 := rfl
theorem al_5003 (σ : Mem) : alen TT σ 5003 = 4 := rfl
theorem al_5004 (σ : Mem) : alen TT σ 5004 = 128 := rfl
theorem al_5005 (σ : Mem) : alen TT σ 5005 = 2 := rfl
theorem al_5006 (σ : Mem) : alen TT σ 5006 = 2 := rfl
theorem al_5007 (σ : Mem) : alen TT σ 5007 = 16 := rfl
theorem al_5008 (σ : Mem) : alen TT σ 5008 = 16 := rfl
theorem al_5009 (σ : Mem) : alen TT σ 5009 = 18 := rfl
theorem al_5010 (σ : Mem) : alen TT σ 5010 = 18 := rfl
theorem al_5011 (σ : Mem) : alen TT σ 5011 = 6 := rfl
theorem al_5012 (σ : Mem) : alen TT σ 5012 = 6 := rfl
theorem al_5013 (σ : Mem) : alen TT σ 5013 = 240 := rfl
theorem al_5014 (σ : Mem) : alen TT σ 5014 = 5 := rfl
theorem al_5015 (σ : Mem) : alen TT σ 5015 = 208 := rfl
theorem al_5016 (σ : Mem) : alen TT σ 5016 = 208 := rfl
theorem al_5017 (σ : Mem) : alen TT σ 5017 = 8191 := rfl
theorem al_5018 (σ : Mem) : alen TT σ 5018 = 8191 := rfl
theorem al_5019 (σ : Mem) : alen TT σ 5019 = 6 := rfl
theorem al_5020 (σ : Mem) : alen TT σ 5020 = 6 := rfl
theorem al_5021 (σ : Mem) : alen TT σ 5021 = 6 := rfl
theorem al_5022 (σ : Mem) : alen TT σ 5022 = 6 := rfl
theorem al_5023 (σ : Mem) : alen TT σ 5023 = 8320 := rfl
theorem al_5024 (σ : Mem) : alen TT σ 5024 = 50 := rfl
theorem al_5025 (σ : Mem) : alen TT σ 5025 = 72 := rfl
theorem al_5026 (σ : Mem) : alen TT σ 5026 = 208 := rfl
theorem al_9000 (σ : Mem) : alen TT σ 9000 = 1 := rfl
theorem rf_100_0 (σ : Mem) : rfv TT σ 100 0 = 101 := rfl
theorem rf_100_1 (σ : Mem) : rfv TT σ 100 1 = 102 := rfl
theorem al_101 (σ : Mem) : alen TT σ 101 = σ 101 (-1) := rfl
theorem al_102 (σ : Mem) : alen TT σ 102 = 48 := rfl
theorem rf_103_0 (σ : Mem) : rfv TT σ 103 0 = 104 := rfl
theorem rf_103_1 (σ : Mem) : rfv TT σ 103 1 = 105 := rfl
theorem al_104 (σ : Mem) : alen TT σ 104 = σ 104 (-1) := rfl
theorem al_105 (σ : Mem) : alen TT σ 105 = 48 := rfl
theorem rf_106_0 (σ : Mem) : rfv TT σ 106 0 = 107 := rfl
theorem rf_106_1 (σ : Mem) : rfv TT σ 106 1 = 108 := rfl
theorem al_107 (σ : Mem) : alen TT σ 107 = σ 107 (-1) := rfl
theorem al_108 (σ : Mem) : alen TT σ 108 = 48 := rfl
theorem rf_109_0 (σ : Mem) : rfv TT σ 109 0 = 110 := rfl
theorem rf_109_1 (σ : Mem) : rfv TT σ 109 1 = 111 := rfl
theorem al_110 (σ : Mem) : alen TT σ 110 = σ 110 (-1) := rfl
theorem al_111 (σ : Mem) : alen TT σ 111 = 48 := rfl
def kdOk (k : Kd) : Bool := match k with | .inl _ => true | .inr x => decide (x.1 < 15)
theorem kd_ok {l : List Kd} (h : l.all kdOk = true) (i : Nat) (x : Nat × Int) (hx : l.getD i (.inr (8, 0)) = .inr x) : x.1 < 15 := by
  rw [List.getD_eq_getElem?_getD] at hx
  cases hl : l[i]? with
  | none => rw [hl] at hx; cases hx; decide
  | some k =>
    rw [hl, Option.getD_some] at hx
    have := List.all_eq_true.mp h k (List.mem_of_getElem? hl)
    rw [hx] at this
    simpa [kdOk] using this
theorem TT_ok : amTok TT := by
  intro a x h
  unfold TT at h
  split at h
  · exact kd_ok (by decide) _ _ h
  · split at h
    · cases h; decide
    · split at h
      · unfold kdL at h
        split at h
        · cases h
        · cases h; decide
        · cases h; decide
      · split at h
        · cases h; decide
        · split at h
          · exact kd_ok (by decide) _ _ h
          · split at h
            · cases h; decide
            · cases h; decide
