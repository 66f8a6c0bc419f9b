/-! ===== a new object ===== -/
def s_copN (x : Int32) : Nat := if x < 1 then 1 else if 5 < x then 5 else x.toNatClampNeg
def s_new (x : Int32) : S_t := ((s_copN x, 0, 0), (fun _ => 0, fun _ => false, fun _ => 0, fun _ => 0), (fun _ => 0, fun _ => 0, fun _ _ => none), ([], [], 0))
theorem copN_cases (x : Int32) : (x < 1 ∧ s_copN x = 1) ∨ (¬ x < 1 ∧ 5 < x ∧ s_copN x = 5) ∨ ∃ j : Nat, 1 ≤ j ∧ j ≤ 5 ∧ x = nI j ∧ s_copN x = j := by
  unfold s_copN
  by_cases h1 : x < 1
  · exact Or.inl ⟨h1, if_pos h1⟩
  by_cases h2 : 5 < x
  · exact Or.inr (Or.inl ⟨h1, h2, by rw [if_neg h1, if_pos h2]⟩)
  refine Or.inr (Or.inr ?_)
  rw [if_neg h1, if_neg h2]
  have t1 : ¬ x.toInt < 1 := fun q => h1 (Int32.lt_iff_toInt_lt.mpr q)
  have t2 : ¬ 5 < x.toInt := fun q => h2 (Int32.lt_iff_toInt_lt.mpr q)
  obtain ⟨j, hj, rfl⟩ := nI_of (x := x) (fun q => by have := Int32.lt_iff_toInt_lt.mp q; have e : (0 : Int32).toInt = 0 := rfl; omega)
  rw [nI_toInt hj] at t1 t2
  exact ⟨j, by omega, by omega, rfl, nI_clamp hj⟩
theorem copN_in (x : Int32) : 1 ≤ s_copN x ∧ s_copN x ≤ 5 := by
  rcases copN_cases x with ⟨-, h⟩ | ⟨-, -, h⟩ | ⟨j, h1, h2, -, h⟩ <;> omega
theorem copN_mm (x : Int32) : (if (1 : Int32) < (if x < 5 then x else 5) then (if x < 5 then x else 5) else 1) = nI (s_copN x) := by
  rcases copN_cases x with ⟨h, e⟩ | ⟨-, h, e⟩ | ⟨j, h1, h2, rfl, e⟩
  · rw [e]
    have t : x.toInt < 1 := Int32.lt_iff_toInt_lt.mp h
    have e5 : (if x < 5 then x else 5) = x := if_pos (Int32.lt_iff_toInt_lt.mpr (show x.toInt < 5 by omega))
    rw [e5, if_neg (fun q => by have : 1 < x.toInt := Int32.lt_iff_toInt_lt.mp q; omega)]
    rfl
  · rw [e]
    have t : 5 < x.toInt := Int32.lt_iff_toInt_lt.mp h
    have e5 : (if x < 5 then x else 5) = 5 := if_neg (fun q => by have : x.toInt < 5 := Int32.lt_iff_toInt_lt.mp q; omega)
    rw [e5, if_pos (by decide)]
    rfl
  · rw [e]
    rcases (show j = 1 ∨ j = 2 ∨ j = 3 ∨ j = 4 ∨ j = 5 by omega) with rfl | rfl | rfl | rfl | rfl <;> decide
theorem new_ok (x : Int32) : s_ok (s_new x) := by
  refine ⟨copN_in x, by show 0 ≤ 10; decide, by show 0 ≤ 40; decide, by show 0 ≤ 16; decide, by show 0 ≤ 120; decide, fun _ _ _ => rfl, (fun _ _ _ h => by cases h), fun _ _ => ⟨rfl, rfl, rfl⟩, fun _ _ => rfl⟩
theorem new_iv (x : Int32) : s_iv (s_new x) := ⟨fun _ => ⟨0, 0, Nat.le_refl _, by decide, rfl, rfl⟩, fun _ => Nat.zero_le _⟩
set_option maxHeartbeats 4000000 in
set_option maxRecDepth 100000 in
/-- CopyPolls(copies) -/
theorem c_X3_init (l : Launch) (G : h_G) {ad : h_T → Nat} {k : h_C} (h0 : k (0, 0, 0) = some (.inr (3, [.int 0, .null, .int 0, .null, .int 0, .null, .null, .null, .null, .null, .int 0, .int 0]))) (hno : ∀ t : h_T, t.1 < 20 → t ≠ (0, 0, 0) → k t = none) (x : Int32) : h_Wr l yX3_init cX3_init 2 none 2 32 8 438 G ad k [.ref (ad (0, 0, 0)), .int x] (XPost G ad k none (s_new x)) := by
  refine h_wr (by decide +kernel) (Nat.le_of_ble_eq_true rfl) ?_
  intro p e s m args below meth c X Y hw ls hl
  have hl : lv_has ls 2 [(0, .ref (ad (0, 0, 0))), (1, .int x)] := hl
  refine lv_aload_n X.1 X.2.1 dX3_init_0 rfl (lv_at hl 0 rfl) ?_
  refine W.objInit X.1 X.2.1 X.2.2.2.1 (X.2.2.2.2.1 _ oi_X3) (X.2.2.2.2.1 _ oi_i) (X.2.2.2.2.1 _ oi_c) rfl (by rw [X.2.2.1]; exact hl.1) rfl dX3_init_1 (Nat.le_of_ble_eq_true rfl) (Nat.le_of_ble_eq_true rfl) ?_
  refine W.eq (g2 := F0 m 4 ls []) rfl ?_
  refine lv_aload_n X.1 X.2.1 dX3_init_4 rfl (lv_at hl 0 rfl) ?_
  refine lv_bipush (v := 10) X.1 X.2.1 dX3_init_5 (by decide) ?_
  refine h_newq X hw (1, 0, 0) (hno _ (by decide) (by simp)) wk_X3_9 X.2.2.2.2.2.2.2.2.2 6 rfl (N' := 10) (by decide) (by decide) (by decide) (Nat.le_of_ble_eq_true rfl) (Nat.le_of_ble_eq_true rfl) dX3_init_7 (fun q H hw => ?_)
  obtain ⟨k1, hk1⟩ : ∃ zz, zz = h_cu k (1, 0, 0) (some (.inl (G.2 6, 10, x_refs (fun _ => none)))) := ⟨_, rfl⟩
  obtain ⟨ad1, had1⟩ : ∃ zz, zz = h_au ad (1, 0, 0) q := ⟨_, rfl⟩
  replace hw := (hw.ren hk1).renA had1
  obtain rfl : q = ad1 (1, 0, 0) := by rw [had1, h_as]
  have ea1_0 : ad (0, 0, 0) = ad1 (0, 0, 0) := by rw [had1, h_an _ _ (by simp)]
  simp only [ea1_0] at hl
  simp only [ea1_0]
  have f1_0_0_0 : k1 (0, 0, 0) = some (.inr (3, [.int 0, .null, .int 0, .null, .int 0, .null, .null, .null, .null, .null, .int 0, .int 0])) := by rw [hk1, h_cn _ _ (by simp), h0]
  have f1_1_0_0 : k1 (1, 0, 0) = some (.inl (G.2 6, 10, x_refs (fun _ => none))) := by rw [hk1]; exact h_cs _ _ _
  refine pf_X3_11 X hw Y.2.2 f1_0_0_0 rfl rfl (Nat.le_of_ble_eq_true rfl) dX3_init_10 (fun H locs hw => ?_)
  obtain ⟨k2, hk2⟩ : ∃ zz, zz = h_cu k1 (0, 0, 0) (some (.inr (3, [.int 0, .ref (ad1 (1, 0, 0)), .int 0, .null, .int 0, .null, .null, .null, .null, .null, .int 0, .int 0]))) := ⟨_, rfl⟩
  replace hw := h_W.ren hw hk2
  have f2_0_0_0 : k2 (0, 0, 0) = some (.inr (3, [.int 0, .ref (ad1 (1, 0, 0)), .int 0, .null, .int 0, .null, .null, .null, .null, .null, .int 0, .int 0])) := by rw [hk2]; exact h_cs _ _ _
  have f2_1_0_0 : k2 (1, 0, 0) = some (.inl (G.2 6, 10, x_refs (fun _ => none))) := by rw [hk2, h_cn _ _ (by simp)]; exact f1_1_0_0
  refine lv_aload_n X.1 X.2.1 dX3_init_13 rfl (lv_at hl 0 rfl) ?_
  refine lv_iconst (v := 0) X.1 X.2.1 dX3_init_14 (by decide) ?_
  refine pf_X3_15 X hw f2_0_0_0 rfl rfl (Nat.le_of_ble_eq_true rfl) dX3_init_15 (fun H locs hw => ?_)
  obtain ⟨k3, hk3⟩ : ∃ zz, zz = h_cu k2 (0, 0, 0) (some (.inr (3, [.int 0, .ref (ad1 (1, 0, 0)), .int 0, .null, .int 0, .null, .null, .null, .null, .null, .int 0, .int 0]))) := ⟨_, rfl⟩
  replace hw := h_W.ren hw hk3
  have f3_0_0_0 : k3 (0, 0, 0) = some (.inr (3, [.int 0, .ref (ad1 (1, 0, 0)), .int 0, .null, .int 0, .null, .null, .null, .null, .null, .int 0, .int 0])) := by rw [hk3]; exact h_cs _ _ _
  have f3_1_0_0 : k3 (1, 0, 0) = some (.inl (G.2 6, 10, x_refs (fun _ => none))) := by rw [hk3, h_cn _ _ (by simp)]; exact f2_1_0_0
  refine lv_aload_n X.1 X.2.1 dX3_init_18 rfl (lv_at hl 0 rfl) ?_
  refine lv_bipush (v := 40) X.1 X.2.1 dX3_init_19 (by decide) ?_
  refine h_newq X hw (2, 0, 0) (by rw [hk3, h_cn _ _ (by simp), hk2, h_cn _ _ (by simp), hk1, h_cn _ _ (by simp)]; exact hno _ (by decide) (by simp)) wk_X3_19 X.2.2.2.2.2.2.2.1 4 rfl (N' := 40) (by decide) (by decide) (by decide) (Nat.le_of_ble_eq_true rfl) (Nat.le_of_ble_eq_true rfl) dX3_init_21 (fun q H hw => ?_)
  obtain ⟨k4, hk4⟩ : ∃ zz, zz = h_cu k3 (2, 0, 0) (some (.inl (G.2 4, 40, x_refs (fun _ => none)))) := ⟨_, rfl⟩
  obtain ⟨ad4, had4⟩ : ∃ zz, zz = h_au ad1 (2, 0, 0) q := ⟨_, rfl⟩
  replace hw := (hw.ren hk4).renA had4
  obtain rfl : q = ad4 (2, 0, 0) := by rw [had4, h_as]
  have ea4_0 : ad1 (0, 0, 0) = ad4 (0, 0, 0) := by rw [had4, h_an _ _ (by simp)]
  have ea4_1 : ad1 (1, 0, 0) = ad4 (1, 0, 0) := by rw [had4, h_an _ _ (by simp)]
  simp only [ea4_0, ea4_1] at hl
  simp only [ea4_0, ea4_1]
  have f4_0_0_0 : k4 (0, 0, 0) = some (.inr (3, [.int 0, .ref (ad4 (1, 0, 0)), .int 0, .null, .int 0, .null, .null, .null, .null, .null, .int 0, .int 0])) := by rw [hk4, h_cn _ _ (by simp), f3_0_0_0]; simp only [ea4_0, ea4_1]
  have f4_1_0_0 : k4 (1, 0, 0) = some (.inl (G.2 6, 10, x_refs (fun _ => none))) := by rw [hk4, h_cn _ _ (by simp), f3_1_0_0]
  have f4_2_0_0 : k4 (2, 0, 0) = some (.inl (G.2 4, 40, x_refs (fun _ => none))) := by rw [hk4]; exact h_cs _ _ _
  refine pf_X3_21 X hw Y.2.2 f4_0_0_0 rfl rfl (Nat.le_of_ble_eq_true rfl) dX3_init_24 (fun H locs hw => ?_)
  obtain ⟨k5, hk5⟩ : ∃ zz, zz = h_cu k4 (0, 0, 0) (some (.inr (3, [.int 0, .ref (ad4 (1, 0, 0)), .int 0, .ref (ad4 (2, 0, 0)), .int 0, .null, .null, .null, .null, .null, .int 0, .int 0]))) := ⟨_, rfl⟩
  replace hw := h_W.ren hw hk5
  have f5_0_0_0 : k5 (0, 0, 0) = some (.inr (3, [.int 0, .ref (ad4 (1, 0, 0)), .int 0, .ref (ad4 (2, 0, 0)), .int 0, .null, .null, .null, .null, .null, .int 0, .int 0])) := by rw [hk5]; exact h_cs _ _ _
  have f5_1_0_0 : k5 (1, 0, 0) = some (.inl (G.2 6, 10, x_refs (fun _ => none))) := by rw [hk5, h_cn _ _ (by simp)]; exact f4_1_0_0
  have f5_2_0_0 : k5 (2, 0, 0) = some (.inl (G.2 4, 40, x_refs (fun _ => none))) := by rw [hk5, h_cn _ _ (by simp)]; exact f4_2_0_0
  refine lv_aload_n X.1 X.2.1 dX3_init_27 rfl (lv_at hl 0 rfl) ?_
  refine lv_iconst (v := 0) X.1 X.2.1 dX3_init_28 (by decide) ?_
  refine pf_X3_25 X hw f5_0_0_0 rfl rfl (Nat.le_of_ble_eq_true rfl) dX3_init_29 (fun H locs hw => ?_)
  obtain ⟨k6, hk6⟩ : ∃ zz, zz = h_cu k5 (0, 0, 0) (some (.inr (3, [.int 0, .ref (ad4 (1, 0, 0)), .int 0, .ref (ad4 (2, 0, 0)), .int 0, .null, .null, .null, .null, .null, .int 0, .int 0]))) := ⟨_, rfl⟩
  replace hw := h_W.ren hw hk6
  have f6_0_0_0 : k6 (0, 0, 0) = some (.inr (3, [.int 0, .ref (ad4 (1, 0, 0)), .int 0, .ref (ad4 (2, 0, 0)), .int 0, .null, .null, .null, .null, .null, .int 0, .int 0])) := by rw [hk6]; exact h_cs _ _ _
  have f6_1_0_0 : k6 (1, 0, 0) = some (.inl (G.2 6, 10, x_refs (fun _ => none))) := by rw [hk6, h_cn _ _ (by simp)]; exact f5_1_0_0
  have f6_2_0_0 : k6 (2, 0, 0) = some (.inl (G.2 4, 40, x_refs (fun _ => none))) := by rw [hk6, h_cn _ _ (by simp)]; exact f5_2_0_0
  refine lv_aload_n X.1 X.2.1 dX3_init_32 rfl (lv_at hl 0 rfl) ?_
  refine h_new X hw (3, 0, 0) (by rw [hk6, h_cn _ _ (by simp), hk5, h_cn _ _ (by simp), hk4, h_cn _ _ (by simp), hk3, h_cn _ _ (by simp), hk2, h_cn _ _ (by simp), hk1, h_cn _ _ (by simp)]; exact hno _ (by decide) (by simp)) (ci := 1) rfl in_X1 tyX1 tyX1_ok wk_X3_28 wa_X1 wn_X1 (fs := [.null, .int 0]) (fun j hj => by rcases (show j = 0 ∨ j = 1 by omega) with rfl | rfl <;> rfl) (Nat.le_of_ble_eq_true rfl) (Nat.le_of_ble_eq_true rfl) dX3_init_33 (fun q H hw => ?_)
  obtain ⟨k7, hk7⟩ : ∃ zz, zz = h_cu k6 (3, 0, 0) (some (.inr (1, [.null, .int 0]))) := ⟨_, rfl⟩
  obtain ⟨ad7, had7⟩ : ∃ zz, zz = h_au ad4 (3, 0, 0) q := ⟨_, rfl⟩
  replace hw := (hw.ren hk7).renA had7
  obtain rfl : q = ad7 (3, 0, 0) := by rw [had7, h_as]
  have ea7_0 : ad4 (0, 0, 0) = ad7 (0, 0, 0) := by rw [had7, h_an _ _ (by simp)]
  have ea7_1 : ad4 (1, 0, 0) = ad7 (1, 0, 0) := by rw [had7, h_an _ _ (by simp)]
  have ea7_2 : ad4 (2, 0, 0) = ad7 (2, 0, 0) := by rw [had7, h_an _ _ (by simp)]
  simp only [ea7_0, ea7_1, ea7_2] at hl
  simp only [ea7_0, ea7_1, ea7_2]
  have f7_0_0_0 : k7 (0, 0, 0) = some (.inr (3, [.int 0, .ref (ad7 (1, 0, 0)), .int 0, .ref (ad7 (2, 0, 0)), .int 0, .null, .null, .null, .null, .null, .int 0, .int 0])) := by rw [hk7, h_cn _ _ (by simp), f6_0_0_0]; simp only [ea7_0, ea7_1, ea7_2]
  have f7_1_0_0 : k7 (1, 0, 0) = some (.inl (G.2 6, 10, x_refs (fun _ => none))) := by rw [hk7, h_cn _ _ (by simp), f6_1_0_0]
  have f7_2_0_0 : k7 (2, 0, 0) = some (.inl (G.2 4, 40, x_refs (fun _ => none))) := by rw [hk7, h_cn _ _ (by simp), f6_2_0_0]
  have f7_3_0_0 : k7 (3, 0, 0) = some (.inr (1, [.null, .int 0])) := by rw [hk7]; exact h_cs _ _ _
  refine lv_dup X.1 X.2.1 dX3_init_36 rfl ?_
  refine h_callWJ (t := (3, 0, 0)) (As := []) (rest := [.ref (ad7 (3, 0, 0)), .ref (ad7 (0, 0, 0))]) X hw cs_X3_30 (c_X1_init l G (t := (3, 0, 0)) (u := (3, 1, 0)) f7_3_0_0 (by rw [hk7, h_cn _ _ (by simp), hk6, h_cn _ _ (by simp), hk5, h_cn _ _ (by simp), hk4, h_cn _ _ (by simp), hk3, h_cn _ _ (by simp), hk2, h_cn _ _ (by simp), hk1, h_cn _ _ (by simp)]; exact hno _ (by decide) (by simp)) (by simp)) rfl hl.1 rfl (Nat.le_of_ble_eq_true rfl) ⟨by decide, by decide⟩ ⟨(Nat.le_of_ble_eq_true rfl), (Nat.le_of_ble_eq_true rfl)⟩ dX3_init_37 (fun r9 ad8 k8 H locs hp9 hw => ?_)
  obtain ⟨rfl, hr8, a3, hoo⟩ := hp9
  refine W.eq (g2 := F0 m 40 ls [.ref (ad7 (3, 0, 0)), .ref (ad7 (0, 0, 0))]) rfl ?_
  have eb8_0 : ad7 (0, 0, 0) = ad8 (0, 0, 0) := ((hoo (0, 0, 0) (by simp) (by simp)).2).symm
  have eb8_1 : ad7 (3, 0, 0) = ad8 (3, 0, 0) := (a3).symm
  have eb8_2 : ad7 (1, 0, 0) = ad8 (1, 0, 0) := ((hoo (1, 0, 0) (by simp) (by simp)).2).symm
  have eb8_3 : ad7 (2, 0, 0) = ad8 (2, 0, 0) := ((hoo (2, 0, 0) (by simp) (by simp)).2).symm
  simp only [eb8_0, eb8_1, eb8_2, eb8_3] at hl
  simp only [eb8_0, eb8_1, eb8_2, eb8_3]
  have f8_0_0_0 : k8 (0, 0, 0) = some (.inr (3, [.int 0, .ref (ad8 (1, 0, 0)), .int 0, .ref (ad8 (2, 0, 0)), .int 0, .null, .null, .null, .null, .null, .int 0, .int 0])) := by rw [(hoo (0, 0, 0) (by simp) (by simp)).1, f7_0_0_0]; simp only [eb8_0, eb8_1, eb8_2, eb8_3]
  have f8_1_0_0 : k8 (1, 0, 0) = some (.inl (G.2 6, 10, x_refs (fun _ => none))) := by rw [(hoo (1, 0, 0) (by simp) (by simp)).1, f7_1_0_0]
  have f8_2_0_0 : k8 (2, 0, 0) = some (.inl (G.2 4, 40, x_refs (fun _ => none))) := by rw [(hoo (2, 0, 0) (by simp) (by simp)).1, f7_2_0_0]
  obtain ⟨hr3, gr, hgr, -⟩ := hr8
  have hr3 : k8 (3, 0, 0) = some (.inr (1, [.ref (ad8 (3, 1, 0)), .int 0])) := hr3
  refine pf_X3_31 X hw Y.2.2 f8_0_0_0 rfl rfl (Nat.le_of_ble_eq_true rfl) dX3_init_40 (fun H locs hw => ?_)
  obtain ⟨k9, hk9⟩ : ∃ zz, zz = h_cu k8 (0, 0, 0) (some (.inr (3, [.int 0, .ref (ad8 (1, 0, 0)), .int 0, .ref (ad8 (2, 0, 0)), .int 0, .ref (ad8 (3, 0, 0)), .null, .null, .null, .null, .int 0, .int 0]))) := ⟨_, rfl⟩
  replace hw := h_W.ren hw hk9
  have f9_0_0_0 : k9 (0, 0, 0) = some (.inr (3, [.int 0, .ref (ad8 (1, 0, 0)), .int 0, .ref (ad8 (2, 0, 0)), .int 0, .ref (ad8 (3, 0, 0)), .null, .null, .null, .null, .int 0, .int 0])) := by rw [hk9]; exact h_cs _ _ _
  have f9_1_0_0 : k9 (1, 0, 0) = some (.inl (G.2 6, 10, x_refs (fun _ => none))) := by rw [hk9, h_cn _ _ (by simp)]; exact f8_1_0_0
  have f9_2_0_0 : k9 (2, 0, 0) = some (.inl (G.2 4, 40, x_refs (fun _ => none))) := by rw [hk9, h_cn _ _ (by simp)]; exact f8_2_0_0
  have f9_3_0_0 : k9 (3, 0, 0) = some (.inr (1, [.ref (ad8 (3, 1, 0)), .int 0])) := by rw [hk9, h_cn _ _ (by simp)]; exact hr3
  have f9_3_1_0 : k9 (3, 1, 0) = some (.inl (G.2 0, 16, .inl gr)) := by rw [hk9, h_cn _ _ (by simp)]; exact hgr
  refine lv_aload_n X.1 X.2.1 dX3_init_43 rfl (lv_at hl 0 rfl) ?_
  refine lv_bipush (v := 10) X.1 X.2.1 dX3_init_44 (by decide) ?_
  refine h_newa X hw (4, 0, 0) (by rw [hk9, h_cn _ _ (by simp), (hoo (4, 0, 0) (by simp) (by simp)).1, hk7, h_cn _ _ (by simp), hk6, h_cn _ _ (by simp), hk5, h_cn _ _ (by simp), hk4, h_cn _ _ (by simp), hk3, h_cn _ _ (by simp), hk2, h_cn _ _ (by simp), hk1, h_cn _ _ (by simp)]; exact hno _ (by decide) (by simp)) (ty := .int) rfl wr_int 0 rfl (N' := 10) (a0 := (10, .inl (fun _ => 0))) (fun _ => rfl) (by decide) (by decide) (by decide) (Nat.le_of_ble_eq_true rfl) (Nat.le_of_ble_eq_true rfl) dX3_init_46 (fun q H hw => ?_)
  obtain ⟨k10, hk10⟩ : ∃ zz, zz = h_cu k9 (4, 0, 0) (some (.inl (G.2 0, 10, .inl (fun _ => 0)))) := ⟨_, rfl⟩
  obtain ⟨ad10, had10⟩ : ∃ zz, zz = h_au ad8 (4, 0, 0) q := ⟨_, rfl⟩
  replace hw := (hw.ren hk10).renA had10
  obtain rfl : q = ad10 (4, 0, 0) := by rw [had10, h_as]
  have ea10_0 : ad8 (0, 0, 0) = ad10 (0, 0, 0) := by rw [had10, h_an _ _ (by simp)]
  have ea10_1 : ad8 (1, 0, 0) = ad10 (1, 0, 0) := by rw [had10, h_an _ _ (by simp)]
  have ea10_2 : ad8 (2, 0, 0) = ad10 (2, 0, 0) := by rw [had10, h_an _ _ (by simp)]
  have ea10_3 : ad8 (3, 0, 0) = ad10 (3, 0, 0) := by rw [had10, h_an _ _ (by simp)]
  have ea10_4 : ad8 (3, 1, 0) = ad10 (3, 1, 0) := by rw [had10, h_an _ _ (by simp)]
  simp only [ea10_0, ea10_1, ea10_2, ea10_3, ea10_4] at hl
  simp only [ea10_0, ea10_1, ea10_2, ea10_3, ea10_4]
  have f10_0_0_0 : k10 (0, 0, 0) = some (.inr (3, [.int 0, .ref (ad10 (1, 0, 0)), .int 0, .ref (ad10 (2, 0, 0)), .int 0, .ref (ad10 (3, 0, 0)), .null, .null, .null, .null, .int 0, .int 0])) := by rw [hk10, h_cn _ _ (by simp), f9_0_0_0]; simp only [ea10_0, ea10_1, ea10_2, ea10_3, ea10_4]
  have f10_1_0_0 : k10 (1, 0, 0) = some (.inl (G.2 6, 10, x_refs (fun _ => none))) := by rw [hk10, h_cn _ _ (by simp), f9_1_0_0]
  have f10_2_0_0 : k10 (2, 0, 0) = some (.inl (G.2 4, 40, x_refs (fun _ => none))) := by rw [hk10, h_cn _ _ (by simp), f9_2_0_0]
  have f10_3_0_0 : k10 (3, 0, 0) = some (.inr (1, [.ref (ad10 (3, 1, 0)), .int 0])) := by rw [hk10, h_cn _ _ (by simp), f9_3_0_0]; simp only [ea10_0, ea10_1, ea10_2, ea10_3, ea10_4]
  have f10_3_1_0 : k10 (3, 1, 0) = some (.inl (G.2 0, 16, .inl gr)) := by rw [hk10, h_cn _ _ (by simp), f9_3_1_0]
  have f10_4_0_0 : k10 (4, 0, 0) = some (.inl (G.2 0, 10, .inl (fun _ => 0))) := by rw [hk10]; exact h_cs _ _ _
  refine pf_X3_35 X hw Y.2.2 f10_0_0_0 rfl rfl (Nat.le_of_ble_eq_true rfl) dX3_init_48 (fun H locs hw => ?_)
  obtain ⟨k11, hk11⟩ : ∃ zz, zz = h_cu k10 (0, 0, 0) (some (.inr (3, [.int 0, .ref (ad10 (1, 0, 0)), .int 0, .ref (ad10 (2, 0, 0)), .int 0, .ref (ad10 (3, 0, 0)), .ref (ad10 (4, 0, 0)), .null, .null, .null, .int 0, .int 0]))) := ⟨_, rfl⟩
  replace hw := h_W.ren hw hk11
  have f11_0_0_0 : k11 (0, 0, 0) = some (.inr (3, [.int 0, .ref (ad10 (1, 0, 0)), .int 0, .ref (ad10 (2, 0, 0)), .int 0, .ref (ad10 (3, 0, 0)), .ref (ad10 (4, 0, 0)), .null, .null, .null, .int 0, .int 0])) := by rw [hk11]; exact h_cs _ _ _
  have f11_1_0_0 : k11 (1, 0, 0) = some (.inl (G.2 6, 10, x_refs (fun _ => none))) := by rw [hk11, h_cn _ _ (by simp)]; exact f10_1_0_0
  have f11_2_0_0 : k11 (2, 0, 0) = some (.inl (G.2 4, 40, x_refs (fun _ => none))) := by rw [hk11, h_cn _ _ (by simp)]; exact f10_2_0_0
  have f11_3_0_0 : k11 (3, 0, 0) = some (.inr (1, [.ref (ad10 (3, 1, 0)), .int 0])) := by rw [hk11, h_cn _ _ (by simp)]; exact f10_3_0_0
  have f11_3_1_0 : k11 (3, 1, 0) = some (.inl (G.2 0, 16, .inl gr)) := by rw [hk11, h_cn _ _ (by simp)]; exact f10_3_1_0
  have f11_4_0_0 : k11 (4, 0, 0) = some (.inl (G.2 0, 10, .inl (fun _ => 0))) := by rw [hk11, h_cn _ _ (by simp)]; exact f10_4_0_0
  refine lv_aload_n X.1 X.2.1 dX3_init_51 rfl (lv_at hl 0 rfl) ?_
  refine lv_bipush (v := 120) X.1 X.2.1 dX3_init_52 (by decide) ?_
  refine h_newa X hw (5, 0, 0) (by rw [hk11, h_cn _ _ (by simp), hk10, h_cn _ _ (by simp), hk9, h_cn _ _ (by simp), (hoo (5, 0, 0) (by simp) (by simp)).1, hk7, h_cn _ _ (by simp), hk6, h_cn _ _ (by simp), hk5, h_cn _ _ (by simp), hk4, h_cn _ _ (by simp), hk3, h_cn _ _ (by simp), hk2, h_cn _ _ (by simp), hk1, h_cn _ _ (by simp)]; exact hno _ (by decide) (by simp)) (ty := .int) rfl wr_int 0 rfl (N' := 120) (a0 := (120, .inl (fun _ => 0))) (fun _ => rfl) (by decide) (by decide) (by decide) (Nat.le_of_ble_eq_true rfl) (Nat.le_of_ble_eq_true rfl) dX3_init_54 (fun q H hw => ?_)
  obtain ⟨k12, hk12⟩ : ∃ zz, zz = h_cu k11 (5, 0, 0) (some (.inl (G.2 0, 120, .inl (fun _ => 0)))) := ⟨_, rfl⟩
  obtain ⟨ad12, had12⟩ : ∃ zz, zz = h_au ad10 (5, 0, 0) q := ⟨_, rfl⟩
  replace hw := (hw.ren hk12).renA had12
  obtain rfl : q = ad12 (5, 0, 0) := by rw [had12, h_as]
  have ea12_0 : ad10 (0, 0, 0) = ad12 (0, 0, 0) := by rw [had12, h_an _ _ (by simp)]
  have ea12_1 : ad10 (1, 0, 0) = ad12 (1, 0, 0) := by rw [had12, h_an _ _ (by simp)]
  have ea12_2 : ad10 (2, 0, 0) = ad12 (2, 0, 0) := by rw [had12, h_an _ _ (by simp)]
  have ea12_3 : ad10 (3, 0, 0) = ad12 (3, 0, 0) := by rw [had12, h_an _ _ (by simp)]
  have ea12_4 : ad10 (4, 0, 0) = ad12 (4, 0, 0) := by rw [had12, h_an _ _ (by simp)]
  have ea12_5 : ad10 (3, 1, 0) = ad12 (3, 1, 0) := by rw [had12, h_an _ _ (by simp)]
  simp only [ea12_0, ea12_1, ea12_2, ea12_3, ea12_4, ea12_5] at hl
  simp only [ea12_0, ea12_1, ea12_2, ea12_3, ea12_4, ea12_5]
  have f12_0_0_0 : k12 (0, 0, 0) = some (.inr (3, [.int 0, .ref (ad12 (1, 0, 0)), .int 0, .ref (ad12 (2, 0, 0)), .int 0, .ref (ad12 (3, 0, 0)), .ref (ad12 (4, 0, 0)), .null, .null, .null, .int 0, .int 0])) := by rw [hk12, h_cn _ _ (by simp), f11_0_0_0]; simp only [ea12_0, ea12_1, ea12_2, ea12_3, ea12_4, ea12_5]
  have f12_1_0_0 : k12 (1, 0, 0) = some (.inl (G.2 6, 10, x_refs (fun _ => none))) := by rw [hk12, h_cn _ _ (by simp), f11_1_0_0]
  have f12_2_0_0 : k12 (2, 0, 0) = some (.inl (G.2 4, 40, x_refs (fun _ => none))) := by rw [hk12, h_cn _ _ (by simp), f11_2_0_0]
  have f12_3_0_0 : k12 (3, 0, 0) = some (.inr (1, [.ref (ad12 (3, 1, 0)), .int 0])) := by rw [hk12, h_cn _ _ (by simp), f11_3_0_0]; simp only [ea12_0, ea12_1, ea12_2, ea12_3, ea12_4, ea12_5]
  have f12_3_1_0 : k12 (3, 1, 0) = some (.inl (G.2 0, 16, .inl gr)) := by rw [hk12, h_cn _ _ (by simp), f11_3_1_0]
  have f12_4_0_0 : k12 (4, 0, 0) = some (.inl (G.2 0, 10, .inl (fun _ => 0))) := by rw [hk12, h_cn _ _ (by simp), f11_4_0_0]
  have f12_5_0_0 : k12 (5, 0, 0) = some (.inl (G.2 0, 120, .inl (fun _ => 0))) := by rw [hk12]; exact h_cs _ _ _
  refine pf_X3_39 X hw Y.2.2 f12_0_0_0 rfl rfl (Nat.le_of_ble_eq_true rfl) dX3_init_56 (fun H locs hw => ?_)
  obtain ⟨k13, hk13⟩ : ∃ zz, zz = h_cu k12 (0, 0, 0) (some (.inr (3, [.int 0, .ref (ad12 (1, 0, 0)), .int 0, .ref (ad12 (2, 0, 0)), .int 0, .ref (ad12 (3, 0, 0)), .ref (ad12 (4, 0, 0)), .ref (ad12 (5, 0, 0)), .null, .null, .int 0, .int 0]))) := ⟨_, rfl⟩
  replace hw := h_W.ren hw hk13
  have f13_0_0_0 : k13 (0, 0, 0) = some (.inr (3, [.int 0, .ref (ad12 (1, 0, 0)), .int 0, .ref (ad12 (2, 0, 0)), .int 0, .ref (ad12 (3, 0, 0)), .ref (ad12 (4, 0, 0)), .ref (ad12 (5, 0, 0)), .null, .null, .int 0, .int 0])) := by rw [hk13]; exact h_cs _ _ _
  have f13_1_0_0 : k13 (1, 0, 0) = some (.inl (G.2 6, 10, x_refs (fun _ => none))) := by rw [hk13, h_cn _ _ (by simp)]; exact f12_1_0_0
  have f13_2_0_0 : k13 (2, 0, 0) = some (.inl (G.2 4, 40, x_refs (fun _ => none))) := by rw [hk13, h_cn _ _ (by simp)]; exact f12_2_0_0
  have f13_3_0_0 : k13 (3, 0, 0) = some (.inr (1, [.ref (ad12 (3, 1, 0)), .int 0])) := by rw [hk13, h_cn _ _ (by simp)]; exact f12_3_0_0
  have f13_3_1_0 : k13 (3, 1, 0) = some (.inl (G.2 0, 16, .inl gr)) := by rw [hk13, h_cn _ _ (by simp)]; exact f12_3_1_0
  have f13_4_0_0 : k13 (4, 0, 0) = some (.inl (G.2 0, 10, .inl (fun _ => 0))) := by rw [hk13, h_cn _ _ (by simp)]; exact f12_4_0_0
  have f13_5_0_0 : k13 (5, 0, 0) = some (.inl (G.2 0, 120, .inl (fun _ => 0))) := by rw [hk13, h_cn _ _ (by simp)]; exact f12_5_0_0
  refine lv_aload_n X.1 X.2.1 dX3_init_59 rfl (lv_at hl 0 rfl) ?_
  refine lv_bipush (v := 120) X.1 X.2.1 dX3_init_60 (by decide) ?_
  refine h_newa X hw (5, 1, 0) (by rw [hk13, h_cn _ _ (by simp), hk12, h_cn _ _ (by simp), hk11, h_cn _ _ (by simp), hk10, h_cn _ _ (by simp), hk9, h_cn _ _ (by simp), (hoo (5, 1, 0) (by simp) (by simp)).1, hk7, h_cn _ _ (by simp), hk6, h_cn _ _ (by simp), hk5, h_cn _ _ (by simp), hk4, h_cn _ _ (by simp), hk3, h_cn _ _ (by simp), hk2, h_cn _ _ (by simp), hk1, h_cn _ _ (by simp)]; exact hno _ (by decide) (by simp)) (ty := .int) rfl wr_int 0 rfl (N' := 120) (a0 := (120, .inl (fun _ => 0))) (fun _ => rfl) (by decide) (by decide) (by decide) (Nat.le_of_ble_eq_true rfl) (Nat.le_of_ble_eq_true rfl) dX3_init_62 (fun q H hw => ?_)
  obtain ⟨k14, hk14⟩ : ∃ zz, zz = h_cu k13 (5, 1, 0) (some (.inl (G.2 0, 120, .inl (fun _ => 0)))) := ⟨_, rfl⟩
  obtain ⟨ad14, had14⟩ : ∃ zz, zz = h_au ad12 (5, 1, 0) q := ⟨_, rfl⟩
  replace hw := (hw.ren hk14).renA had14
  obtain rfl : q = ad14 (5, 1, 0) := by rw [had14, h_as]
  have ea14_0 : ad12 (0, 0, 0) = ad14 (0, 0, 0) := by rw [had14, h_an _ _ (by simp)]
  have ea14_1 : ad12 (1, 0, 0) = ad14 (1, 0, 0) := by rw [had14, h_an _ _ (by simp)]
  have ea14_2 : ad12 (2, 0, 0) = ad14 (2, 0, 0) := by rw [had14, h_an _ _ (by simp)]
  have ea14_3 : ad12 (3, 0, 0) = ad14 (3, 0, 0) := by rw [had14, h_an _ _ (by simp)]
  have ea14_4 : ad12 (4, 0, 0) = ad14 (4, 0, 0) := by rw [had14, h_an _ _ (by simp)]
  have ea14_5 : ad12 (5, 0, 0) = ad14 (5, 0, 0) := by rw [had14, h_an _ _ (by simp)]
  have ea14_6 : ad12 (3, 1, 0) = ad14 (3, 1, 0) := by rw [had14, h_an _ _ (by simp)]
  simp only [ea14_0, ea14_1, ea14_2, ea14_3, ea14_4, ea14_5, ea14_6] at hl
  simp only [ea14_0, ea14_1, ea14_2, ea14_3, ea14_4, ea14_5, ea14_6]
  have f14_0_0_0 : k14 (0, 0, 0) = some (.inr (3, [.int 0, .ref (ad14 (1, 0, 0)), .int 0, .ref (ad14 (2, 0, 0)), .int 0, .ref (ad14 (3, 0, 0)), .ref (ad14 (4, 0, 0)), .ref (ad14 (5, 0, 0)), .null, .null, .int 0, .int 0])) := by rw [hk14, h_cn _ _ (by simp), f13_0_0_0]; simp only [ea14_0, ea14_1, ea14_2, ea14_3, ea14_4, ea14_5, ea14_6]
  have f14_1_0_0 : k14 (1, 0, 0) = some (.inl (G.2 6, 10, x_refs (fun _ => none))) := by rw [hk14, h_cn _ _ (by simp), f13_1_0_0]
  have f14_2_0_0 : k14 (2, 0, 0) = some (.inl (G.2 4, 40, x_refs (fun _ => none))) := by rw [hk14, h_cn _ _ (by simp), f13_2_0_0]
  have f14_3_0_0 : k14 (3, 0, 0) = some (.inr (1, [.ref (ad14 (3, 1, 0)), .int 0])) := by rw [hk14, h_cn _ _ (by simp), f13_3_0_0]; simp only [ea14_0, ea14_1, ea14_2, ea14_3, ea14_4, ea14_5, ea14_6]
  have f14_3_1_0 : k14 (3, 1, 0) = some (.inl (G.2 0, 16, .inl gr)) := by rw [hk14, h_cn _ _ (by simp), f13_3_1_0]
  have f14_4_0_0 : k14 (4, 0, 0) = some (.inl (G.2 0, 10, .inl (fun _ => 0))) := by rw [hk14, h_cn _ _ (by simp), f13_4_0_0]
  have f14_5_0_0 : k14 (5, 0, 0) = some (.inl (G.2 0, 120, .inl (fun _ => 0))) := by rw [hk14, h_cn _ _ (by simp), f13_5_0_0]
  have f14_5_1_0 : k14 (5, 1, 0) = some (.inl (G.2 0, 120, .inl (fun _ => 0))) := by rw [hk14]; exact h_cs _ _ _
  refine pf_X3_42 X hw Y.2.2 f14_0_0_0 rfl rfl (Nat.le_of_ble_eq_true rfl) dX3_init_64 (fun H locs hw => ?_)
  obtain ⟨k15, hk15⟩ : ∃ zz, zz = h_cu k14 (0, 0, 0) (some (.inr (3, [.int 0, .ref (ad14 (1, 0, 0)), .int 0, .ref (ad14 (2, 0, 0)), .int 0, .ref (ad14 (3, 0, 0)), .ref (ad14 (4, 0, 0)), .ref (ad14 (5, 0, 0)), .ref (ad14 (5, 1, 0)), .null, .int 0, .int 0]))) := ⟨_, rfl⟩
  replace hw := h_W.ren hw hk15
  have f15_0_0_0 : k15 (0, 0, 0) = some (.inr (3, [.int 0, .ref (ad14 (1, 0, 0)), .int 0, .ref (ad14 (2, 0, 0)), .int 0, .ref (ad14 (3, 0, 0)), .ref (ad14 (4, 0, 0)), .ref (ad14 (5, 0, 0)), .ref (ad14 (5, 1, 0)), .null, .int 0, .int 0])) := by rw [hk15]; exact h_cs _ _ _
  have f15_1_0_0 : k15 (1, 0, 0) = some (.inl (G.2 6, 10, x_refs (fun _ => none))) := by rw [hk15, h_cn _ _ (by simp)]; exact f14_1_0_0
  have f15_2_0_0 : k15 (2, 0, 0) = some (.inl (G.2 4, 40, x_refs (fun _ => none))) := by rw [hk15, h_cn _ _ (by simp)]; exact f14_2_0_0
  have f15_3_0_0 : k15 (3, 0, 0) = some (.inr (1, [.ref (ad14 (3, 1, 0)), .int 0])) := by rw [hk15, h_cn _ _ (by simp)]; exact f14_3_0_0
  have f15_3_1_0 : k15 (3, 1, 0) = some (.inl (G.2 0, 16, .inl gr)) := by rw [hk15, h_cn _ _ (by simp)]; exact f14_3_1_0
  have f15_4_0_0 : k15 (4, 0, 0) = some (.inl (G.2 0, 10, .inl (fun _ => 0))) := by rw [hk15, h_cn _ _ (by simp)]; exact f14_4_0_0
  have f15_5_0_0 : k15 (5, 0, 0) = some (.inl (G.2 0, 120, .inl (fun _ => 0))) := by rw [hk15, h_cn _ _ (by simp)]; exact f14_5_0_0
  have f15_5_1_0 : k15 (5, 1, 0) = some (.inl (G.2 0, 120, .inl (fun _ => 0))) := by rw [hk15, h_cn _ _ (by simp)]; exact f14_5_1_0
  refine lv_aload_n X.1 X.2.1 dX3_init_67 rfl (lv_at hl 0 rfl) ?_
  refine lv_bipush (v := 120) X.1 X.2.1 dX3_init_68 (by decide) ?_
  refine h_newa X hw (5, 2, 0) (by rw [hk15, h_cn _ _ (by simp), hk14, h_cn _ _ (by simp), hk13, h_cn _ _ (by simp), hk12, h_cn _ _ (by simp), hk11, h_cn _ _ (by simp), hk10, h_cn _ _ (by simp), hk9, h_cn _ _ (by simp), (hoo (5, 2, 0) (by simp) (by simp)).1, hk7, h_cn _ _ (by simp), hk6, h_cn _ _ (by simp), hk5, h_cn _ _ (by simp), hk4, h_cn _ _ (by simp), hk3, h_cn _ _ (by simp), hk2, h_cn _ _ (by simp), hk1, h_cn _ _ (by simp)]; exact hno _ (by decide) (by simp)) (ty := .int) rfl wr_int 0 rfl (N' := 120) (a0 := (120, .inl (fun _ => 0))) (fun _ => rfl) (by decide) (by decide) (by decide) (Nat.le_of_ble_eq_true rfl) (Nat.le_of_ble_eq_true rfl) dX3_init_70 (fun q H hw => ?_)
  obtain ⟨k16, hk16⟩ : ∃ zz, zz = h_cu k15 (5, 2, 0) (some (.inl (G.2 0, 120, .inl (fun _ => 0)))) := ⟨_, rfl⟩
  obtain ⟨ad16, had16⟩ : ∃ zz, zz = h_au ad14 (5, 2, 0) q := ⟨_, rfl⟩
  replace hw := (hw.ren hk16).renA had16
  obtain rfl : q = ad16 (5, 2, 0) := by rw [had16, h_as]
  have ea16_0 : ad14 (0, 0, 0) = ad16 (0, 0, 0) := by rw [had16, h_an _ _ (by simp)]
  have ea16_1 : ad14 (1, 0, 0) = ad16 (1, 0, 0) := by rw [had16, h_an _ _ (by simp)]
  have ea16_2 : ad14 (2, 0, 0) = ad16 (2, 0, 0) := by rw [had16, h_an _ _ (by simp)]
  have ea16_3 : ad14 (3, 0, 0) = ad16 (3, 0, 0) := by rw [had16, h_an _ _ (by simp)]
  have ea16_4 : ad14 (4, 0, 0) = ad16 (4, 0, 0) := by rw [had16, h_an _ _ (by simp)]
  have ea16_5 : ad14 (5, 0, 0) = ad16 (5, 0, 0) := by rw [had16, h_an _ _ (by simp)]
  have ea16_6 : ad14 (5, 1, 0) = ad16 (5, 1, 0) := by rw [had16, h_an _ _ (by simp)]
  have ea16_7 : ad14 (3, 1, 0) = ad16 (3, 1, 0) := by rw [had16, h_an _ _ (by simp)]
  simp only [ea16_0, ea16_1, ea16_2, ea16_3, ea16_4, ea16_5, ea16_6, ea16_7] at hl
  simp only [ea16_0, ea16_1, ea16_2, ea16_3, ea16_4, ea16_5, ea16_6, ea16_7]
  have f16_0_0_0 : k16 (0, 0, 0) = some (.inr (3, [.int 0, .ref (ad16 (1, 0, 0)), .int 0, .ref (ad16 (2, 0, 0)), .int 0, .ref (ad16 (3, 0, 0)), .ref (ad16 (4, 0, 0)), .ref (ad16 (5, 0, 0)), .ref (ad16 (5, 1, 0)), .null, .int 0, .int 0])) := by rw [hk16, h_cn _ _ (by simp), f15_0_0_0]; simp only [ea16_0, ea16_1, ea16_2, ea16_3, ea16_4, ea16_5, ea16_6, ea16_7]
  have f16_1_0_0 : k16 (1, 0, 0) = some (.inl (G.2 6, 10, x_refs (fun _ => none))) := by rw [hk16, h_cn _ _ (by simp), f15_1_0_0]
  have f16_2_0_0 : k16 (2, 0, 0) = some (.inl (G.2 4, 40, x_refs (fun _ => none))) := by rw [hk16, h_cn _ _ (by simp), f15_2_0_0]
  have f16_3_0_0 : k16 (3, 0, 0) = some (.inr (1, [.ref (ad16 (3, 1, 0)), .int 0])) := by rw [hk16, h_cn _ _ (by simp), f15_3_0_0]; simp only [ea16_0, ea16_1, ea16_2, ea16_3, ea16_4, ea16_5, ea16_6, ea16_7]
  have f16_3_1_0 : k16 (3, 1, 0) = some (.inl (G.2 0, 16, .inl gr)) := by rw [hk16, h_cn _ _ (by simp), f15_3_1_0]
  have f16_4_0_0 : k16 (4, 0, 0) = some (.inl (G.2 0, 10, .inl (fun _ => 0))) := by rw [hk16, h_cn _ _ (by simp), f15_4_0_0]
  have f16_5_0_0 : k16 (5, 0, 0) = some (.inl (G.2 0, 120, .inl (fun _ => 0))) := by rw [hk16, h_cn _ _ (by simp), f15_5_0_0]
  have f16_5_1_0 : k16 (5, 1, 0) = some (.inl (G.2 0, 120, .inl (fun _ => 0))) := by rw [hk16, h_cn _ _ (by simp), f15_5_1_0]
  have f16_5_2_0 : k16 (5, 2, 0) = some (.inl (G.2 0, 120, .inl (fun _ => 0))) := by rw [hk16]; exact h_cs _ _ _
  refine pf_X3_45 X hw Y.2.2 f16_0_0_0 rfl rfl (Nat.le_of_ble_eq_true rfl) dX3_init_72 (fun H locs hw => ?_)
  obtain ⟨k17, hk17⟩ : ∃ zz, zz = h_cu k16 (0, 0, 0) (some (.inr (3, [.int 0, .ref (ad16 (1, 0, 0)), .int 0, .ref (ad16 (2, 0, 0)), .int 0, .ref (ad16 (3, 0, 0)), .ref (ad16 (4, 0, 0)), .ref (ad16 (5, 0, 0)), .ref (ad16 (5, 1, 0)), .ref (ad16 (5, 2, 0)), .int 0, .int 0]))) := ⟨_, rfl⟩
  replace hw := h_W.ren hw hk17
  have f17_0_0_0 : k17 (0, 0, 0) = some (.inr (3, [.int 0, .ref (ad16 (1, 0, 0)), .int 0, .ref (ad16 (2, 0, 0)), .int 0, .ref (ad16 (3, 0, 0)), .ref (ad16 (4, 0, 0)), .ref (ad16 (5, 0, 0)), .ref (ad16 (5, 1, 0)), .ref (ad16 (5, 2, 0)), .int 0, .int 0])) := by rw [hk17]; exact h_cs _ _ _
  have f17_1_0_0 : k17 (1, 0, 0) = some (.inl (G.2 6, 10, x_refs (fun _ => none))) := by rw [hk17, h_cn _ _ (by simp)]; exact f16_1_0_0
  have f17_2_0_0 : k17 (2, 0, 0) = some (.inl (G.2 4, 40, x_refs (fun _ => none))) := by rw [hk17, h_cn _ _ (by simp)]; exact f16_2_0_0
  have f17_3_0_0 : k17 (3, 0, 0) = some (.inr (1, [.ref (ad16 (3, 1, 0)), .int 0])) := by rw [hk17, h_cn _ _ (by simp)]; exact f16_3_0_0
  have f17_3_1_0 : k17 (3, 1, 0) = some (.inl (G.2 0, 16, .inl gr)) := by rw [hk17, h_cn _ _ (by simp)]; exact f16_3_1_0
  have f17_4_0_0 : k17 (4, 0, 0) = some (.inl (G.2 0, 10, .inl (fun _ => 0))) := by rw [hk17, h_cn _ _ (by simp)]; exact f16_4_0_0
  have f17_5_0_0 : k17 (5, 0, 0) = some (.inl (G.2 0, 120, .inl (fun _ => 0))) := by rw [hk17, h_cn _ _ (by simp)]; exact f16_5_0_0
  have f17_5_1_0 : k17 (5, 1, 0) = some (.inl (G.2 0, 120, .inl (fun _ => 0))) := by rw [hk17, h_cn _ _ (by simp)]; exact f16_5_1_0
  have f17_5_2_0 : k17 (5, 2, 0) = some (.inl (G.2 0, 120, .inl (fun _ => 0))) := by rw [hk17, h_cn _ _ (by simp)]; exact f16_5_2_0
  refine lv_aload_n X.1 X.2.1 dX3_init_75 rfl (lv_at hl 0 rfl) ?_
  refine lv_iconst (v := 0) X.1 X.2.1 dX3_init_76 (by decide) ?_
  refine pf_X3_48 X hw f17_0_0_0 rfl rfl (Nat.le_of_ble_eq_true rfl) dX3_init_77 (fun H locs hw => ?_)
  obtain ⟨k18, hk18⟩ : ∃ zz, zz = h_cu k17 (0, 0, 0) (some (.inr (3, [.int 0, .ref (ad16 (1, 0, 0)), .int 0, .ref (ad16 (2, 0, 0)), .int 0, .ref (ad16 (3, 0, 0)), .ref (ad16 (4, 0, 0)), .ref (ad16 (5, 0, 0)), .ref (ad16 (5, 1, 0)), .ref (ad16 (5, 2, 0)), .int 0, .int 0]))) := ⟨_, rfl⟩
  replace hw := h_W.ren hw hk18
  have f18_0_0_0 : k18 (0, 0, 0) = some (.inr (3, [.int 0, .ref (ad16 (1, 0, 0)), .int 0, .ref (ad16 (2, 0, 0)), .int 0, .ref (ad16 (3, 0, 0)), .ref (ad16 (4, 0, 0)), .ref (ad16 (5, 0, 0)), .ref (ad16 (5, 1, 0)), .ref (ad16 (5, 2, 0)), .int 0, .int 0])) := by rw [hk18]; exact h_cs _ _ _
  have f18_1_0_0 : k18 (1, 0, 0) = some (.inl (G.2 6, 10, x_refs (fun _ => none))) := by rw [hk18, h_cn _ _ (by simp)]; exact f17_1_0_0
  have f18_2_0_0 : k18 (2, 0, 0) = some (.inl (G.2 4, 40, x_refs (fun _ => none))) := by rw [hk18, h_cn _ _ (by simp)]; exact f17_2_0_0
  have f18_3_0_0 : k18 (3, 0, 0) = some (.inr (1, [.ref (ad16 (3, 1, 0)), .int 0])) := by rw [hk18, h_cn _ _ (by simp)]; exact f17_3_0_0
  have f18_3_1_0 : k18 (3, 1, 0) = some (.inl (G.2 0, 16, .inl gr)) := by rw [hk18, h_cn _ _ (by simp)]; exact f17_3_1_0
  have f18_4_0_0 : k18 (4, 0, 0) = some (.inl (G.2 0, 10, .inl (fun _ => 0))) := by rw [hk18, h_cn _ _ (by simp)]; exact f17_4_0_0
  have f18_5_0_0 : k18 (5, 0, 0) = some (.inl (G.2 0, 120, .inl (fun _ => 0))) := by rw [hk18, h_cn _ _ (by simp)]; exact f17_5_0_0
  have f18_5_1_0 : k18 (5, 1, 0) = some (.inl (G.2 0, 120, .inl (fun _ => 0))) := by rw [hk18, h_cn _ _ (by simp)]; exact f17_5_1_0
  have f18_5_2_0 : k18 (5, 2, 0) = some (.inl (G.2 0, 120, .inl (fun _ => 0))) := by rw [hk18, h_cn _ _ (by simp)]; exact f17_5_2_0
  refine lv_aload_n X.1 X.2.1 dX3_init_80 rfl (lv_at hl 0 rfl) ?_
  refine lv_iconst (v := 0) X.1 X.2.1 dX3_init_81 (by decide) ?_
  refine pf_X3_51 X hw f18_0_0_0 rfl rfl (Nat.le_of_ble_eq_true rfl) dX3_init_82 (fun H locs hw => ?_)
  obtain ⟨k19, hk19⟩ : ∃ zz, zz = h_cu k18 (0, 0, 0) (some (.inr (3, [.int 0, .ref (ad16 (1, 0, 0)), .int 0, .ref (ad16 (2, 0, 0)), .int 0, .ref (ad16 (3, 0, 0)), .ref (ad16 (4, 0, 0)), .ref (ad16 (5, 0, 0)), .ref (ad16 (5, 1, 0)), .ref (ad16 (5, 2, 0)), .int 0, .int 0]))) := ⟨_, rfl⟩
  replace hw := h_W.ren hw hk19
  have f19_0_0_0 : k19 (0, 0, 0) = some (.inr (3, [.int 0, .ref (ad16 (1, 0, 0)), .int 0, .ref (ad16 (2, 0, 0)), .int 0, .ref (ad16 (3, 0, 0)), .ref (ad16 (4, 0, 0)), .ref (ad16 (5, 0, 0)), .ref (ad16 (5, 1, 0)), .ref (ad16 (5, 2, 0)), .int 0, .int 0])) := by rw [hk19]; exact h_cs _ _ _
  have f19_1_0_0 : k19 (1, 0, 0) = some (.inl (G.2 6, 10, x_refs (fun _ => none))) := by rw [hk19, h_cn _ _ (by simp)]; exact f18_1_0_0
  have f19_2_0_0 : k19 (2, 0, 0) = some (.inl (G.2 4, 40, x_refs (fun _ => none))) := by rw [hk19, h_cn _ _ (by simp)]; exact f18_2_0_0
  have f19_3_0_0 : k19 (3, 0, 0) = some (.inr (1, [.ref (ad16 (3, 1, 0)), .int 0])) := by rw [hk19, h_cn _ _ (by simp)]; exact f18_3_0_0
  have f19_3_1_0 : k19 (3, 1, 0) = some (.inl (G.2 0, 16, .inl gr)) := by rw [hk19, h_cn _ _ (by simp)]; exact f18_3_1_0
  have f19_4_0_0 : k19 (4, 0, 0) = some (.inl (G.2 0, 10, .inl (fun _ => 0))) := by rw [hk19, h_cn _ _ (by simp)]; exact f18_4_0_0
  have f19_5_0_0 : k19 (5, 0, 0) = some (.inl (G.2 0, 120, .inl (fun _ => 0))) := by rw [hk19, h_cn _ _ (by simp)]; exact f18_5_0_0
  have f19_5_1_0 : k19 (5, 1, 0) = some (.inl (G.2 0, 120, .inl (fun _ => 0))) := by rw [hk19, h_cn _ _ (by simp)]; exact f18_5_1_0
  have f19_5_2_0 : k19 (5, 2, 0) = some (.inl (G.2 0, 120, .inl (fun _ => 0))) := by rw [hk19, h_cn _ _ (by simp)]; exact f18_5_2_0
  refine lv_aload_n X.1 X.2.1 dX3_init_85 rfl (lv_at hl 0 rfl) ?_
  refine lv_iconst (v := 1) X.1 X.2.1 dX3_init_86 (by decide) ?_
  refine lv_iconst (v := 5) X.1 X.2.1 dX3_init_87 (by decide) ?_
  refine lv_iload_n X.1 X.2.1 dX3_init_88 rfl (lv_at hl 1 rfl) ?_
  refine va_mmin X.1 X.2.1 (by rw [X.2.2.1]; exact hl.1.symm) X.2.2.2.1 (X.2.2.2.2.1 _ mm_min_l) (X.2.2.2.2.1 _ mm_min_s) (X.2.2.2.2.1 _ wn_java_lang_Math) (X.2.2.2.2.1 _ mm_min_c) (Nat.le_of_ble_eq_true rfl) (Nat.le_of_ble_eq_true rfl) (Nat.le_of_ble_eq_true rfl) (Nat.le_of_ble_eq_true rfl) dX3_init_89 ?_
  refine va_mmax X.1 X.2.1 (by rw [X.2.2.1]; exact hl.1.symm) X.2.2.2.1 (X.2.2.2.2.1 _ mm_max_l) (X.2.2.2.2.1 _ mm_max_s) (X.2.2.2.2.1 _ wn_java_lang_Math) (X.2.2.2.2.1 _ mm_max_c) (Nat.le_of_ble_eq_true rfl) (Nat.le_of_ble_eq_true rfl) (Nat.le_of_ble_eq_true rfl) (Nat.le_of_ble_eq_true rfl) dX3_init_92 ?_
  refine h_ti (b := nI (s_copN x)) (copN_mm x) ?_
  refine pf_X3_63 X hw Y.2.2 f19_0_0_0 rfl rfl (Nat.le_of_ble_eq_true rfl) dX3_init_95 (fun H locs hw => ?_)
  obtain ⟨k20, hk20⟩ : ∃ zz, zz = h_cu k19 (0, 0, 0) (some (.inr (3, [.int (nI (s_copN x)), .ref (ad16 (1, 0, 0)), .int 0, .ref (ad16 (2, 0, 0)), .int 0, .ref (ad16 (3, 0, 0)), .ref (ad16 (4, 0, 0)), .ref (ad16 (5, 0, 0)), .ref (ad16 (5, 1, 0)), .ref (ad16 (5, 2, 0)), .int 0, .int 0]))) := ⟨_, rfl⟩
  replace hw := h_W.ren hw hk20
  have f20_0_0_0 : k20 (0, 0, 0) = some (.inr (3, [.int (nI (s_copN x)), .ref (ad16 (1, 0, 0)), .int 0, .ref (ad16 (2, 0, 0)), .int 0, .ref (ad16 (3, 0, 0)), .ref (ad16 (4, 0, 0)), .ref (ad16 (5, 0, 0)), .ref (ad16 (5, 1, 0)), .ref (ad16 (5, 2, 0)), .int 0, .int 0])) := by rw [hk20]; exact h_cs _ _ _
  have f20_1_0_0 : k20 (1, 0, 0) = some (.inl (G.2 6, 10, x_refs (fun _ => none))) := by rw [hk20, h_cn _ _ (by simp)]; exact f19_1_0_0
  have f20_2_0_0 : k20 (2, 0, 0) = some (.inl (G.2 4, 40, x_refs (fun _ => none))) := by rw [hk20, h_cn _ _ (by simp)]; exact f19_2_0_0
  have f20_3_0_0 : k20 (3, 0, 0) = some (.inr (1, [.ref (ad16 (3, 1, 0)), .int 0])) := by rw [hk20, h_cn _ _ (by simp)]; exact f19_3_0_0
  have f20_3_1_0 : k20 (3, 1, 0) = some (.inl (G.2 0, 16, .inl gr)) := by rw [hk20, h_cn _ _ (by simp)]; exact f19_3_1_0
  have f20_4_0_0 : k20 (4, 0, 0) = some (.inl (G.2 0, 10, .inl (fun _ => 0))) := by rw [hk20, h_cn _ _ (by simp)]; exact f19_4_0_0
  have f20_5_0_0 : k20 (5, 0, 0) = some (.inl (G.2 0, 120, .inl (fun _ => 0))) := by rw [hk20, h_cn _ _ (by simp)]; exact f19_5_0_0
  have f20_5_1_0 : k20 (5, 1, 0) = some (.inl (G.2 0, 120, .inl (fun _ => 0))) := by rw [hk20, h_cn _ _ (by simp)]; exact f19_5_1_0
  have f20_5_2_0 : k20 (5, 2, 0) = some (.inl (G.2 0, 120, .inl (fun _ => 0))) := by rw [hk20, h_cn _ _ (by simp)]; exact f19_5_2_0
  have hfr : ∀ t : h_T, 20 ≤ t.1 → k20 t = k t ∧ ad16 t = ad t := fun t ht => by
    have n : ∀ u : h_T, u.1 < 20 → t ≠ u := fun u hu => t20 ht hu
    exact ⟨by rw [hk20, h_cn _ _ (n _ (Nat.le_of_ble_eq_true rfl)), hk19, h_cn _ _ (n _ (Nat.le_of_ble_eq_true rfl)), hk18, h_cn _ _ (n _ (Nat.le_of_ble_eq_true rfl)), hk17, h_cn _ _ (n _ (Nat.le_of_ble_eq_true rfl)), hk16, h_cn _ _ (n _ (Nat.le_of_ble_eq_true rfl)), hk15, h_cn _ _ (n _ (Nat.le_of_ble_eq_true rfl)), hk14, h_cn _ _ (n _ (Nat.le_of_ble_eq_true rfl)), hk13, h_cn _ _ (n _ (Nat.le_of_ble_eq_true rfl)), hk12, h_cn _ _ (n _ (Nat.le_of_ble_eq_true rfl)), hk11, h_cn _ _ (n _ (Nat.le_of_ble_eq_true rfl)), hk10, h_cn _ _ (n _ (Nat.le_of_ble_eq_true rfl)), hk9, h_cn _ _ (n _ (Nat.le_of_ble_eq_true rfl)), (hoo t (n _ (Nat.le_of_ble_eq_true rfl)) (n _ (Nat.le_of_ble_eq_true rfl))).1, hk7, h_cn _ _ (n _ (Nat.le_of_ble_eq_true rfl)), hk6, h_cn _ _ (n _ (Nat.le_of_ble_eq_true rfl)), hk5, h_cn _ _ (n _ (Nat.le_of_ble_eq_true rfl)), hk4, h_cn _ _ (n _ (Nat.le_of_ble_eq_true rfl)), hk3, h_cn _ _ (n _ (Nat.le_of_ble_eq_true rfl)), hk2, h_cn _ _ (n _ (Nat.le_of_ble_eq_true rfl)), hk1, h_cn _ _ (n _ (Nat.le_of_ble_eq_true rfl))], by rw [had16, h_an _ _ (n _ (Nat.le_of_ble_eq_true rfl)), had14, h_an _ _ (n _ (Nat.le_of_ble_eq_true rfl)), had12, h_an _ _ (n _ (Nat.le_of_ble_eq_true rfl)), had10, h_an _ _ (n _ (Nat.le_of_ble_eq_true rfl)), (hoo t (n _ (Nat.le_of_ble_eq_true rfl)) (n _ (Nat.le_of_ble_eq_true rfl))).2, had7, h_an _ _ (n _ (Nat.le_of_ble_eq_true rfl)), had4, h_an _ _ (n _ (Nat.le_of_ble_eq_true rfl)), had1, h_an _ _ (n _ (Nat.le_of_ble_eq_true rfl))]⟩
  exact h_vretW X Y hw ⟨rfl, ⟨f20_0_0_0, by rw [f20_1_0_0]; rfl, fun i hi => absurd hi (Nat.not_lt_zero i), by rw [f20_2_0_0]; rfl, fun i hi => absurd hi (Nat.not_lt_zero i), (fun _ _ _ q => nomatch q), ⟨f20_3_0_0, _, f20_3_1_0, fun i hi => absurd hi (Nat.not_lt_zero i)⟩, ⟨_, f20_4_0_0⟩, ⟨_, _, _, f20_5_0_0, f20_5_1_0, f20_5_2_0, fun i hi => absurd hi (Nat.not_lt_zero i)⟩, new_ok x⟩, hfr, by rw [had16, h_an _ _ (by simp), had14, h_an _ _ (by simp), had12, h_an _ _ (by simp), had10, h_an _ _ (by simp), (hoo (0, 0, 0) (by simp) (by simp)).2, had7, h_an _ _ (by simp), had4, h_an _ _ (by simp), had1, h_an _ _ (by simp)]⟩ (Nat.le_of_ble_eq_true rfl) (Nat.le_of_ble_eq_true rfl) dX3_init_98
