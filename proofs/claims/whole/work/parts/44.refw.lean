set_option maxHeartbeats 4000000 in
set_option maxRecDepth 100000 in
/-- digest -/
theorem c_X4_digest (l : Launch) (G : h_G) {ad : h_T → Nat} {k : h_C} {σ : S_t} {th : Int32} (hM : RM G ad k σ th)  : h_Wr l yX4_digest cX4_digest 1 (some .int) 0 0 0 0 G ad k [.ref (ad (20, 0, 0))] (MPost G ad k (some (.int (s_dg σ))) σ 0) := by
  refine h_wr (by decide +kernel) (Nat.le_of_ble_eq_true rfl) ?_
  intro p e s m args below meth c X Y hw ls hl
  have hl : lv_has ls 1 [(0, .ref (ad (20, 0, 0)))] := hl
  have hok := hM.ok
  have hnS : s_nS σ ≤ 10 := hok.2.1
  have hnF : s_nF σ ≤ 40 := hok.2.2.1
  have hx : k (20, 0, 0) = some (.inr (4, [.int th, .int (nI (s_cop σ)), .int (nI (s_nS σ)), .ref (ad (20, 3, 0)), .ref (ad (20, 4, 0)), .ref (ad (20, 5, 0)), .ref (ad (20, 6, 0)), .int (nI (s_col σ).length), .ref (ad (20, 8, 0)), .int (nI (s_nF σ)), .ref (ad (20, 10, 0)), .ref (ad (20, 11, 0)), .ref (ad (20, 12, 0)), .ref (ad (20, 13, 0)), .int (nI (s_as σ).length), .ref (ad (20, 15, 0)), .ref (ad (20, 16, 0)), .ref (ad (20, 17, 0)), .ref (ad (20, 18, 0)), .int (s_dg σ)])) := hM.1
  refine lv_aload_n X.1 X.2.1 dX4_digest_0 rfl (lv_at hl 0 rfl) ?_
  refine lv_iconst (v := 0) X.1 X.2.1 dX4_digest_1 (by decide) ?_
  refine pf_X4_55 X hw hx rfl rfl (Nat.le_of_ble_eq_true rfl) dX4_digest_2 (fun H locs hw => ?_)
  obtain ⟨k1, hk1⟩ : ∃ zz, zz = h_cu k (20, 0, 0) (some (.inr (4, [.int 0, .int (nI (s_cop σ)), .int (nI (s_nS σ)), .ref (ad (20, 3, 0)), .ref (ad (20, 4, 0)), .ref (ad (20, 5, 0)), .ref (ad (20, 6, 0)), .int (nI (s_col σ).length), .ref (ad (20, 8, 0)), .int (nI (s_nF σ)), .ref (ad (20, 10, 0)), .ref (ad (20, 11, 0)), .ref (ad (20, 12, 0)), .ref (ad (20, 13, 0)), .int (nI (s_as σ).length), .ref (ad (20, 15, 0)), .ref (ad (20, 16, 0)), .ref (ad (20, 17, 0)), .ref (ad (20, 18, 0)), .int (s_dg σ)]))) := ⟨_, rfl⟩
  replace hw := h_W.ren hw hk1
  have f1_20_0_0 : k1 (20, 0, 0) = some (.inr (4, [.int 0, .int (nI (s_cop σ)), .int (nI (s_nS σ)), .ref (ad (20, 3, 0)), .ref (ad (20, 4, 0)), .ref (ad (20, 5, 0)), .ref (ad (20, 6, 0)), .int (nI (s_col σ).length), .ref (ad (20, 8, 0)), .int (nI (s_nF σ)), .ref (ad (20, 10, 0)), .ref (ad (20, 11, 0)), .ref (ad (20, 12, 0)), .ref (ad (20, 13, 0)), .int (nI (s_as σ).length), .ref (ad (20, 15, 0)), .ref (ad (20, 16, 0)), .ref (ad (20, 17, 0)), .ref (ad (20, 18, 0)), .int (s_dg σ)])) := by rw [hk1]; exact h_cs _ _ _
  have hM1 : RM G ad k1 σ 0 := hM.obj f1_20_0_0 (fun t ht => by rw [hk1, h_cn _ _ ht])
  obtain ⟨hx, ⟨gP, eP, vP⟩, ⟨gS, eS, vS⟩, ⟨gU, eU, vU⟩, ⟨gD, eD, vD⟩, ⟨gA, eA, vA⟩, ⟨gK, eK, vK⟩, ⟨gN, eN, vN⟩, ⟨gZ, eZ, vZ⟩, ⟨gB, eB, vB⟩, ⟨g0, g1, g2, e15, e16, e17, v3⟩, ⟨gM, eM⟩, -⟩ := id hM1
  have hx : k1 (20, 0, 0) = some (.inr (4, [.int 0, .int (nI (s_cop σ)), .int (nI (s_nS σ)), .ref (ad (20, 3, 0)), .ref (ad (20, 4, 0)), .ref (ad (20, 5, 0)), .ref (ad (20, 6, 0)), .int (nI (s_col σ).length), .ref (ad (20, 8, 0)), .int (nI (s_nF σ)), .ref (ad (20, 10, 0)), .ref (ad (20, 11, 0)), .ref (ad (20, 12, 0)), .ref (ad (20, 13, 0)), .int (nI (s_as σ).length), .ref (ad (20, 15, 0)), .ref (ad (20, 16, 0)), .ref (ad (20, 17, 0)), .ref (ad (20, 18, 0)), .int (s_dg σ)])) := hx
  refine lv_aload_n X.1 X.2.1 dX4_digest_5 rfl (lv_at hl 0 rfl) ?_
  refine gf_X4_106 X hw hx rfl dX4_digest_6 ?_
  exact h_iretW X Y hw ⟨rfl, rfl, hM1, fun t ht => by rw [hk1, h_cn _ _ (t_ne20 ht)]⟩ (Nat.zero_le _) (Nat.zero_le _) dX4_digest_9
set_option maxHeartbeats 4000000 in
set_option maxRecDepth 100000 in
/-- load -/
theorem c_X4_load (l : Launch) (G : h_G) {ad : h_T → Nat} {k : h_C} {σ : S_t} {th : Int32} (hM : RM G ad k σ th) (x : Int32) : h_Wr l yX4_load cX4_load 2 (some .int) 2 43 0 0 G ad k [.ref (ad (20, 0, 0)), .int x] (MPost G ad k (some (.int (sp_load σ x))) σ 0) := by
  refine h_wr (by decide +kernel) (Nat.le_of_ble_eq_true rfl) ?_
  intro p e s m args below meth c X Y hw ls hl
  have hl : lv_has ls 2 [(0, .ref (ad (20, 0, 0))), (1, .int x)] := hl
  unfold sp_load
  have hok := hM.ok
  have hnS : s_nS σ ≤ 10 := hok.2.1
  have hnF : s_nF σ ≤ 40 := hok.2.2.1
  have hx : k (20, 0, 0) = some (.inr (4, [.int th, .int (nI (s_cop σ)), .int (nI (s_nS σ)), .ref (ad (20, 3, 0)), .ref (ad (20, 4, 0)), .ref (ad (20, 5, 0)), .ref (ad (20, 6, 0)), .int (nI (s_col σ).length), .ref (ad (20, 8, 0)), .int (nI (s_nF σ)), .ref (ad (20, 10, 0)), .ref (ad (20, 11, 0)), .ref (ad (20, 12, 0)), .ref (ad (20, 13, 0)), .int (nI (s_as σ).length), .ref (ad (20, 15, 0)), .ref (ad (20, 16, 0)), .ref (ad (20, 17, 0)), .ref (ad (20, 18, 0)), .int (s_dg σ)])) := hM.1
  refine lv_aload_n X.1 X.2.1 dX4_load_0 rfl (lv_at hl 0 rfl) ?_
  refine lv_iconst (v := 0) X.1 X.2.1 dX4_load_1 (by decide) ?_
  refine pf_X4_55 X hw hx rfl rfl (Nat.le_of_ble_eq_true rfl) dX4_load_2 (fun H locs hw => ?_)
  obtain ⟨k1, hk1⟩ : ∃ zz, zz = h_cu k (20, 0, 0) (some (.inr (4, [.int 0, .int (nI (s_cop σ)), .int (nI (s_nS σ)), .ref (ad (20, 3, 0)), .ref (ad (20, 4, 0)), .ref (ad (20, 5, 0)), .ref (ad (20, 6, 0)), .int (nI (s_col σ).length), .ref (ad (20, 8, 0)), .int (nI (s_nF σ)), .ref (ad (20, 10, 0)), .ref (ad (20, 11, 0)), .ref (ad (20, 12, 0)), .ref (ad (20, 13, 0)), .int (nI (s_as σ).length), .ref (ad (20, 15, 0)), .ref (ad (20, 16, 0)), .ref (ad (20, 17, 0)), .ref (ad (20, 18, 0)), .int (s_dg σ)]))) := ⟨_, rfl⟩
  replace hw := h_W.ren hw hk1
  have f1_20_0_0 : k1 (20, 0, 0) = some (.inr (4, [.int 0, .int (nI (s_cop σ)), .int (nI (s_nS σ)), .ref (ad (20, 3, 0)), .ref (ad (20, 4, 0)), .ref (ad (20, 5, 0)), .ref (ad (20, 6, 0)), .int (nI (s_col σ).length), .ref (ad (20, 8, 0)), .int (nI (s_nF σ)), .ref (ad (20, 10, 0)), .ref (ad (20, 11, 0)), .ref (ad (20, 12, 0)), .ref (ad (20, 13, 0)), .int (nI (s_as σ).length), .ref (ad (20, 15, 0)), .ref (ad (20, 16, 0)), .ref (ad (20, 17, 0)), .ref (ad (20, 18, 0)), .int (s_dg σ)])) := by rw [hk1]; exact h_cs _ _ _
  have hM1 : RM G ad k1 σ 0 := hM.obj f1_20_0_0 (fun t ht => by rw [hk1, h_cn _ _ ht])
  obtain ⟨hx, ⟨gP, eP, vP⟩, ⟨gS, eS, vS⟩, ⟨gU, eU, vU⟩, ⟨gD, eD, vD⟩, ⟨gA, eA, vA⟩, ⟨gK, eK, vK⟩, ⟨gN, eN, vN⟩, ⟨gZ, eZ, vZ⟩, ⟨gB, eB, vB⟩, ⟨g0, g1, g2, e15, e16, e17, v3⟩, ⟨gM, eM⟩, -⟩ := id hM1
  have hx : k1 (20, 0, 0) = some (.inr (4, [.int 0, .int (nI (s_cop σ)), .int (nI (s_nS σ)), .ref (ad (20, 3, 0)), .ref (ad (20, 4, 0)), .ref (ad (20, 5, 0)), .ref (ad (20, 6, 0)), .int (nI (s_col σ).length), .ref (ad (20, 8, 0)), .int (nI (s_nF σ)), .ref (ad (20, 10, 0)), .ref (ad (20, 11, 0)), .ref (ad (20, 12, 0)), .ref (ad (20, 13, 0)), .int (nI (s_as σ).length), .ref (ad (20, 15, 0)), .ref (ad (20, 16, 0)), .ref (ad (20, 17, 0)), .ref (ad (20, 18, 0)), .int (s_dg σ)])) := hx
  rcases hs : ix x (s_nS σ) with _ | s9
  · refine lv_aload_n X.1 X.2.1 dX4_load_5 rfl (lv_at hl 0 rfl) ?_
    refine lv_iload_n X.1 X.2.1 dX4_load_6 rfl (lv_at hl 1 rfl) ?_
    refine h_callRV (t := (20, 0, 0)) (As := [.int x]) (rest := []) X hw cs_X4_68 (c_X4_isStore l G hM1 x) hx rfl rfl hl.1 rfl (Nat.le_of_ble_eq_true rfl) ⟨by decide, by decide⟩ ⟨Nat.zero_le _, Nat.zero_le _⟩ dX4_load_7 ?_
    refine h_tv (b := .int 0) (by rw [hs]; rfl) ?_
    refine lv_if_eq (tgt := 21) X.1 X.2.1 dX4_load_10 (by decide) (fun c10 => ?_) (fun c10 => ?_)
    · refine lv_iconst (v := (-1)) X.1 X.2.1 dX4_load_21 (by decide) ?_
      exact h_iretW X Y hw ⟨rfl, rfl, hM1, fun t ht => by rw [hk1, h_cn _ _ (t_ne20 ht)]⟩ (Nat.zero_le _) (Nat.zero_le _) dX4_load_22
    · exact absurd (by decide) c10
  obtain rfl := ix_eq hs
  have hs9 := ix_lt hs
  refine lv_aload_n X.1 X.2.1 dX4_load_5 rfl (lv_at hl 0 rfl) ?_
  refine lv_iload_n X.1 X.2.1 dX4_load_6 rfl (lv_at hl 1 rfl) ?_
  refine h_callRV (t := (20, 0, 0)) (As := [.int (nI s9)]) (rest := []) X hw cs_X4_68 (c_X4_isStore l G hM1 (nI s9)) hx rfl rfl hl.1 rfl (Nat.le_of_ble_eq_true rfl) ⟨by decide, by decide⟩ ⟨Nat.zero_le _, Nat.zero_le _⟩ dX4_load_7 ?_
  refine h_tv (b := .int 1) (by rw [hs]; rfl) ?_
  refine lv_if_eq (tgt := 21) X.1 X.2.1 dX4_load_10 (by decide) (fun c10 => ?_) (fun c10 => ?_)
  · exact absurd c10 (by decide)
  · refine lv_aload_n X.1 X.2.1 dX4_load_13 rfl (lv_at hl 0 rfl) ?_
    refine lv_iload_n X.1 X.2.1 dX4_load_14 rfl (lv_at hl 1 rfl) ?_
    refine h_callRV (t := (20, 0, 0)) (As := [.int (nI s9)]) (rest := []) X hw cs_X4_82 (c_X4_loadOf l G hM1 hs9) hx rfl rfl hl.1 rfl (Nat.le_of_ble_eq_true rfl) ⟨by decide, by decide⟩ ⟨Nat.zero_le _, Nat.zero_le _⟩ dX4_load_15 ?_
    refine lv_goto (tgt := 22) X.1 X.2.1 dX4_load_18 (by decide) ?_
    exact h_iretW X Y hw ⟨rfl, rfl, hM1, fun t ht => by rw [hk1, h_cn _ _ (t_ne20 ht)]⟩ (Nat.zero_le _) (Nat.zero_le _) dX4_load_22
set_option maxHeartbeats 4000000 in
set_option maxRecDepth 100000 in
/-- about -/
theorem c_X4_about (l : Launch) (G : h_G) {ad : h_T → Nat} {k : h_C} {σ : S_t} {th : Int32} (hM : RM G ad k σ th) (y w : Int32) : h_Wr l yX4_about cX4_about 3 (some .int) 4 89 0 0 G ad k [.ref (ad (20, 0, 0)), .int y, .int w] (MPost G ad k (some (.int (sp_about σ y w))) σ 0) := by
  refine h_wr (by decide +kernel) (Nat.le_of_ble_eq_true rfl) ?_
  intro p e s m args below meth c X Y hw ls hl
  have hl : lv_has ls 3 [(0, .ref (ad (20, 0, 0))), (1, .int y), (2, .int w)] := hl
  unfold sp_about
  have hok := hM.ok
  have hnS : s_nS σ ≤ 10 := hok.2.1
  have hnF : s_nF σ ≤ 40 := hok.2.2.1
  have hx : k (20, 0, 0) = some (.inr (4, [.int th, .int (nI (s_cop σ)), .int (nI (s_nS σ)), .ref (ad (20, 3, 0)), .ref (ad (20, 4, 0)), .ref (ad (20, 5, 0)), .ref (ad (20, 6, 0)), .int (nI (s_col σ).length), .ref (ad (20, 8, 0)), .int (nI (s_nF σ)), .ref (ad (20, 10, 0)), .ref (ad (20, 11, 0)), .ref (ad (20, 12, 0)), .ref (ad (20, 13, 0)), .int (nI (s_as σ).length), .ref (ad (20, 15, 0)), .ref (ad (20, 16, 0)), .ref (ad (20, 17, 0)), .ref (ad (20, 18, 0)), .int (s_dg σ)])) := hM.1
  refine lv_aload_n X.1 X.2.1 dX4_about_0 rfl (lv_at hl 0 rfl) ?_
  refine lv_iconst (v := 0) X.1 X.2.1 dX4_about_1 (by decide) ?_
  refine pf_X4_55 X hw hx rfl rfl (Nat.le_of_ble_eq_true rfl) dX4_about_2 (fun H locs hw => ?_)
  obtain ⟨k1, hk1⟩ : ∃ zz, zz = h_cu k (20, 0, 0) (some (.inr (4, [.int 0, .int (nI (s_cop σ)), .int (nI (s_nS σ)), .ref (ad (20, 3, 0)), .ref (ad (20, 4, 0)), .ref (ad (20, 5, 0)), .ref (ad (20, 6, 0)), .int (nI (s_col σ).length), .ref (ad (20, 8, 0)), .int (nI (s_nF σ)), .ref (ad (20, 10, 0)), .ref (ad (20, 11, 0)), .ref (ad (20, 12, 0)), .ref (ad (20, 13, 0)), .int (nI (s_as σ).length), .ref (ad (20, 15, 0)), .ref (ad (20, 16, 0)), .ref (ad (20, 17, 0)), .ref (ad (20, 18, 0)), .int (s_dg σ)]))) := ⟨_, rfl⟩
  replace hw := h_W.ren hw hk1
  have f1_20_0_0 : k1 (20, 0, 0) = some (.inr (4, [.int 0, .int (nI (s_cop σ)), .int (nI (s_nS σ)), .ref (ad (20, 3, 0)), .ref (ad (20, 4, 0)), .ref (ad (20, 5, 0)), .ref (ad (20, 6, 0)), .int (nI (s_col σ).length), .ref (ad (20, 8, 0)), .int (nI (s_nF σ)), .ref (ad (20, 10, 0)), .ref (ad (20, 11, 0)), .ref (ad (20, 12, 0)), .ref (ad (20, 13, 0)), .int (nI (s_as σ).length), .ref (ad (20, 15, 0)), .ref (ad (20, 16, 0)), .ref (ad (20, 17, 0)), .ref (ad (20, 18, 0)), .int (s_dg σ)])) := by rw [hk1]; exact h_cs _ _ _
  have hM1 : RM G ad k1 σ 0 := hM.obj f1_20_0_0 (fun t ht => by rw [hk1, h_cn _ _ ht])
  obtain ⟨hx, ⟨gP, eP, vP⟩, ⟨gS, eS, vS⟩, ⟨gU, eU, vU⟩, ⟨gD, eD, vD⟩, ⟨gA, eA, vA⟩, ⟨gK, eK, vK⟩, ⟨gN, eN, vN⟩, ⟨gZ, eZ, vZ⟩, ⟨gB, eB, vB⟩, ⟨g0, g1, g2, e15, e16, e17, v3⟩, ⟨gM, eM⟩, -⟩ := id hM1
  have hx : k1 (20, 0, 0) = some (.inr (4, [.int 0, .int (nI (s_cop σ)), .int (nI (s_nS σ)), .ref (ad (20, 3, 0)), .ref (ad (20, 4, 0)), .ref (ad (20, 5, 0)), .ref (ad (20, 6, 0)), .int (nI (s_col σ).length), .ref (ad (20, 8, 0)), .int (nI (s_nF σ)), .ref (ad (20, 10, 0)), .ref (ad (20, 11, 0)), .ref (ad (20, 12, 0)), .ref (ad (20, 13, 0)), .int (nI (s_as σ).length), .ref (ad (20, 15, 0)), .ref (ad (20, 16, 0)), .ref (ad (20, 17, 0)), .ref (ad (20, 18, 0)), .int (s_dg σ)])) := hx
  rcases hf : ix y (s_nF σ) with _ | f
  · refine lv_aload_n X.1 X.2.1 dX4_about_5 rfl (lv_at hl 0 rfl) ?_
    refine lv_iload_n X.1 X.2.1 dX4_about_6 rfl (lv_at hl 1 rfl) ?_
    refine h_callRV (t := (20, 0, 0)) (As := [.int y]) (rest := []) X hw cs_X4_72 (c_X4_isFile l G hM1 y) hx rfl rfl hl.1 rfl (Nat.le_of_ble_eq_true rfl) ⟨by decide, by decide⟩ ⟨Nat.zero_le _, Nat.zero_le _⟩ dX4_about_7 ?_
    refine h_tv (b := .int 0) (by rw [hf]; rfl) ?_
    refine lv_if_ne (tgt := 15) X.1 X.2.1 dX4_about_10 (by decide) (fun c10 => ?_) (fun c10 => ?_)
    · exact absurd (by decide) c10
    · refine lv_iconst (v := (-1)) X.1 X.2.1 dX4_about_13 (by decide) ?_
      exact h_iretW X Y hw ⟨rfl, rfl, hM1, fun t ht => by rw [hk1, h_cn _ _ (t_ne20 ht)]⟩ (Nat.zero_le _) (Nat.zero_le _) dX4_about_14
  obtain rfl := ix_eq hf
  have hf9 := ix_lt hf
  dsimp only
  by_cases w0 : w = 0
  · subst w0
    refine lv_aload_n X.1 X.2.1 dX4_about_5 rfl (lv_at hl 0 rfl) ?_
    refine lv_iload_n X.1 X.2.1 dX4_about_6 rfl (lv_at hl 1 rfl) ?_
    refine h_callRV (t := (20, 0, 0)) (As := [.int (nI f)]) (rest := []) X hw cs_X4_72 (c_X4_isFile l G hM1 (nI f)) hx rfl rfl hl.1 rfl (Nat.le_of_ble_eq_true rfl) ⟨by decide, by decide⟩ ⟨Nat.zero_le _, Nat.zero_le _⟩ dX4_about_7 ?_
    refine h_tv (b := .int 1) (by rw [hf]; rfl) ?_
    refine lv_if_ne (tgt := 15) X.1 X.2.1 dX4_about_10 (by decide) (fun c10 => ?_) (fun c10 => ?_)
    · refine lv_iload_n X.1 X.2.1 dX4_about_15 rfl (lv_at hl 2 rfl) ?_
      refine lv_tableIn (tgt := 48) X.1 X.2.1 dX4_about_16 (by decide) (by decide) (by rfl) (by decide) ?_
      refine lv_aload_n X.1 X.2.1 dX4_about_48 rfl (lv_at hl 0 rfl) ?_
      refine gf_X4_27 X hw hx rfl dX4_about_49 ?_
      refine lv_iload_n X.1 X.2.1 dX4_about_52 rfl (lv_at hl 1 rfl) ?_
      refine h_iald X hw eK (vp_in_nI (by omega) (by decide)) dX4_about_53 ?_
      refine h_tv (b := .int (s_pk σ f)) (by rw [nI_clamp (by omega), vK f hf9]) ?_
      exact h_iretW X Y hw ⟨rfl, rfl, hM1, fun t ht => by rw [hk1, h_cn _ _ (t_ne20 ht)]⟩ (Nat.zero_le _) (Nat.zero_le _) dX4_about_54
    · exact absurd c10 (by decide)
  by_cases w1 : w = 1
  · subst w1
    refine lv_aload_n X.1 X.2.1 dX4_about_5 rfl (lv_at hl 0 rfl) ?_
    refine lv_iload_n X.1 X.2.1 dX4_about_6 rfl (lv_at hl 1 rfl) ?_
    refine h_callRV (t := (20, 0, 0)) (As := [.int (nI f)]) (rest := []) X hw cs_X4_72 (c_X4_isFile l G hM1 (nI f)) hx rfl rfl hl.1 rfl (Nat.le_of_ble_eq_true rfl) ⟨by decide, by decide⟩ ⟨Nat.zero_le _, Nat.zero_le _⟩ dX4_about_7 ?_
    refine h_tv (b := .int 1) (by rw [hf]; rfl) ?_
    refine lv_if_ne (tgt := 15) X.1 X.2.1 dX4_about_10 (by decide) (fun c10 => ?_) (fun c10 => ?_)
    · refine lv_iload_n X.1 X.2.1 dX4_about_15 rfl (lv_at hl 2 rfl) ?_
      refine lv_tableIn (tgt := 55) X.1 X.2.1 dX4_about_16 (by decide) (by decide) (by rfl) (by decide) ?_
      refine lv_aload_n X.1 X.2.1 dX4_about_55 rfl (lv_at hl 0 rfl) ?_
      refine lv_iload_n X.1 X.2.1 dX4_about_56 rfl (lv_at hl 1 rfl) ?_
      refine lv_iconst (v := 1) X.1 X.2.1 dX4_about_57 (by decide) ?_
      refine h_callRV (t := (20, 0, 0)) (As := [.int (nI f), .int 1]) (rest := []) X hw cs_X4_113 (c_X4_copiesOf1 l G hM1 hf9) hx rfl rfl hl.1 rfl (Nat.le_of_ble_eq_true rfl) ⟨by decide, by decide⟩ ⟨Nat.zero_le _, Nat.zero_le _⟩ dX4_about_58 ?_
      exact h_iretW X Y hw ⟨rfl, rfl, hM1, fun t ht => by rw [hk1, h_cn _ _ (t_ne20 ht)]⟩ (Nat.zero_le _) (Nat.zero_le _) dX4_about_61
    · exact absurd c10 (by decide)
  by_cases w2 : w = 2
  · subst w2
    refine lv_aload_n X.1 X.2.1 dX4_about_5 rfl (lv_at hl 0 rfl) ?_
    refine lv_iload_n X.1 X.2.1 dX4_about_6 rfl (lv_at hl 1 rfl) ?_
    refine h_callRV (t := (20, 0, 0)) (As := [.int (nI f)]) (rest := []) X hw cs_X4_72 (c_X4_isFile l G hM1 (nI f)) hx rfl rfl hl.1 rfl (Nat.le_of_ble_eq_true rfl) ⟨by decide, by decide⟩ ⟨Nat.zero_le _, Nat.zero_le _⟩ dX4_about_7 ?_
    refine h_tv (b := .int 1) (by rw [hf]; rfl) ?_
    refine lv_if_ne (tgt := 15) X.1 X.2.1 dX4_about_10 (by decide) (fun c10 => ?_) (fun c10 => ?_)
    · refine lv_iload_n X.1 X.2.1 dX4_about_15 rfl (lv_at hl 2 rfl) ?_
      refine lv_tableIn (tgt := 62) X.1 X.2.1 dX4_about_16 (by decide) (by decide) (by rfl) (by decide) ?_
      refine lv_aload_n X.1 X.2.1 dX4_about_62 rfl (lv_at hl 0 rfl) ?_
      refine lv_iload_n X.1 X.2.1 dX4_about_63 rfl (lv_at hl 1 rfl) ?_
      refine lv_iconst (v := 0) X.1 X.2.1 dX4_about_64 (by decide) ?_
      refine h_callRV (t := (20, 0, 0)) (As := [.int (nI f), .int 0]) (rest := []) X hw cs_X4_113 (c_X4_copiesOf0 l G hM1 hf9) hx rfl rfl hl.1 rfl (Nat.le_of_ble_eq_true rfl) ⟨by decide, by decide⟩ ⟨Nat.zero_le _, Nat.zero_le _⟩ dX4_about_65 ?_
      exact h_iretW X Y hw ⟨rfl, rfl, hM1, fun t ht => by rw [hk1, h_cn _ _ (t_ne20 ht)]⟩ (Nat.zero_le _) (Nat.zero_le _) dX4_about_68
    · exact absurd c10 (by decide)
  by_cases w3 : w = 3
  · subst w3
    refine lv_aload_n X.1 X.2.1 dX4_about_5 rfl (lv_at hl 0 rfl) ?_
    refine lv_iload_n X.1 X.2.1 dX4_about_6 rfl (lv_at hl 1 rfl) ?_
    refine h_callRV (t := (20, 0, 0)) (As := [.int (nI f)]) (rest := []) X hw cs_X4_72 (c_X4_isFile l G hM1 (nI f)) hx rfl rfl hl.1 rfl (Nat.le_of_ble_eq_true rfl) ⟨by decide, by decide⟩ ⟨Nat.zero_le _, Nat.zero_le _⟩ dX4_about_7 ?_
    refine h_tv (b := .int 1) (by rw [hf]; rfl) ?_
    refine lv_if_ne (tgt := 15) X.1 X.2.1 dX4_about_10 (by decide) (fun c10 => ?_) (fun c10 => ?_)
    · refine lv_iload_n X.1 X.2.1 dX4_about_15 rfl (lv_at hl 2 rfl) ?_
      refine lv_tableIn (tgt := 69) X.1 X.2.1 dX4_about_16 (by decide) (by decide) (by rfl) (by decide) ?_
      refine lv_aload_n X.1 X.2.1 dX4_about_69 rfl (lv_at hl 0 rfl) ?_
      refine gf_X4_30 X hw hx rfl dX4_about_70 ?_
      refine lv_iload_n X.1 X.2.1 dX4_about_73 rfl (lv_at hl 1 rfl) ?_
      refine h_iald X hw eN (vp_in_nI (by omega) (by decide)) dX4_about_74 ?_
      refine h_tv (b := .int (s_rn σ f)) (by rw [nI_clamp (by omega), vN f (by omega)]) ?_
      exact h_iretW X Y hw ⟨rfl, rfl, hM1, fun t ht => by rw [hk1, h_cn _ _ (t_ne20 ht)]⟩ (Nat.zero_le _) (Nat.zero_le _) dX4_about_75
    · exact absurd c10 (by decide)
  rw [if_neg w0, if_neg w1, if_neg w2, if_neg w3]
  refine lv_aload_n X.1 X.2.1 dX4_about_5 rfl (lv_at hl 0 rfl) ?_
  refine lv_iload_n X.1 X.2.1 dX4_about_6 rfl (lv_at hl 1 rfl) ?_
  refine h_callRV (t := (20, 0, 0)) (As := [.int (nI f)]) (rest := []) X hw cs_X4_72 (c_X4_isFile l G hM1 (nI f)) hx rfl rfl hl.1 rfl (Nat.le_of_ble_eq_true rfl) ⟨by decide, by decide⟩ ⟨Nat.zero_le _, Nat.zero_le _⟩ dX4_about_7 ?_
  refine h_tv (b := .int 1) (by rw [hf]; rfl) ?_
  refine lv_if_ne (tgt := 15) X.1 X.2.1 dX4_about_10 (by decide) (fun c10 => ?_) (fun c10 => ?_)
  · refine lv_iload_n X.1 X.2.1 dX4_about_15 rfl (lv_at hl 2 rfl) ?_
    refine lv_tableOut (tgt := 76) X.1 X.2.1 dX4_about_16 (by
      rcases Int.lt_or_le w.toInt 0 with q | q
      · exact Or.inl q
      · rcases Int.lt_or_le 3 w.toInt with q2 | q2
        · exact Or.inr q2
        · exfalso
          rcases (show w.toInt = 0 ∨ w.toInt = 1 ∨ w.toInt = 2 ∨ w.toInt = 3 by omega) with z | z | z | z
          · exact w0 (Int32.toInt_inj.mp z)
          · exact w1 (Int32.toInt_inj.mp z)
          · exact w2 (Int32.toInt_inj.mp z)
          · exact w3 (Int32.toInt_inj.mp z)) (by decide) ?_
    refine lv_iconst (v := (-1)) X.1 X.2.1 dX4_about_76 (by decide) ?_
    exact h_iretW X Y hw ⟨rfl, rfl, hM1, fun t ht => by rw [hk1, h_cn _ _ (t_ne20 ht)]⟩ (Nat.zero_le _) (Nat.zero_le _) dX4_about_77
  · exact absurd c10 (by decide)
set_option maxHeartbeats 4000000 in
set_option maxRecDepth 100000 in
/-- stale -/
theorem c_X4_stale (l : Launch) (G : h_G) {ad : h_T → Nat} {k : h_C} {σ : S_t} {th : Int32} (hM : RM G ad k σ th) (x y : Int32) : h_Wr l yX4_stale cX4_stale 4 (some .int) 5 112 0 0 G ad k [.ref (ad (20, 0, 0)), .int x, .int y] (MPost G ad k (some (.int (sp_stale σ x y))) σ 0) := by
  refine h_wr (by decide +kernel) (Nat.le_of_ble_eq_true rfl) ?_
  intro p e s m args below meth c X Y hw ls hl
  have hl : lv_has ls 4 [(0, .ref (ad (20, 0, 0))), (1, .int x), (2, .int y)] := hl
  unfold sp_stale
  have hok := hM.ok
  have hnS : s_nS σ ≤ 10 := hok.2.1
  have hnF : s_nF σ ≤ 40 := hok.2.2.1
  have hx : k (20, 0, 0) = some (.inr (4, [.int th, .int (nI (s_cop σ)), .int (nI (s_nS σ)), .ref (ad (20, 3, 0)), .ref (ad (20, 4, 0)), .ref (ad (20, 5, 0)), .ref (ad (20, 6, 0)), .int (nI (s_col σ).length), .ref (ad (20, 8, 0)), .int (nI (s_nF σ)), .ref (ad (20, 10, 0)), .ref (ad (20, 11, 0)), .ref (ad (20, 12, 0)), .ref (ad (20, 13, 0)), .int (nI (s_as σ).length), .ref (ad (20, 15, 0)), .ref (ad (20, 16, 0)), .ref (ad (20, 17, 0)), .ref (ad (20, 18, 0)), .int (s_dg σ)])) := hM.1
  refine lv_aload_n X.1 X.2.1 dX4_stale_0 rfl (lv_at hl 0 rfl) ?_
  refine lv_iconst (v := 0) X.1 X.2.1 dX4_stale_1 (by decide) ?_
  refine pf_X4_55 X hw hx rfl rfl (Nat.le_of_ble_eq_true rfl) dX4_stale_2 (fun H locs hw => ?_)
  obtain ⟨k1, hk1⟩ : ∃ zz, zz = h_cu k (20, 0, 0) (some (.inr (4, [.int 0, .int (nI (s_cop σ)), .int (nI (s_nS σ)), .ref (ad (20, 3, 0)), .ref (ad (20, 4, 0)), .ref (ad (20, 5, 0)), .ref (ad (20, 6, 0)), .int (nI (s_col σ).length), .ref (ad (20, 8, 0)), .int (nI (s_nF σ)), .ref (ad (20, 10, 0)), .ref (ad (20, 11, 0)), .ref (ad (20, 12, 0)), .ref (ad (20, 13, 0)), .int (nI (s_as σ).length), .ref (ad (20, 15, 0)), .ref (ad (20, 16, 0)), .ref (ad (20, 17, 0)), .ref (ad (20, 18, 0)), .int (s_dg σ)]))) := ⟨_, rfl⟩
  replace hw := h_W.ren hw hk1
  have f1_20_0_0 : k1 (20, 0, 0) = some (.inr (4, [.int 0, .int (nI (s_cop σ)), .int (nI (s_nS σ)), .ref (ad (20, 3, 0)), .ref (ad (20, 4, 0)), .ref (ad (20, 5, 0)), .ref (ad (20, 6, 0)), .int (nI (s_col σ).length), .ref (ad (20, 8, 0)), .int (nI (s_nF σ)), .ref (ad (20, 10, 0)), .ref (ad (20, 11, 0)), .ref (ad (20, 12, 0)), .ref (ad (20, 13, 0)), .int (nI (s_as σ).length), .ref (ad (20, 15, 0)), .ref (ad (20, 16, 0)), .ref (ad (20, 17, 0)), .ref (ad (20, 18, 0)), .int (s_dg σ)])) := by rw [hk1]; exact h_cs _ _ _
  have hM1 : RM G ad k1 σ 0 := hM.obj f1_20_0_0 (fun t ht => by rw [hk1, h_cn _ _ ht])
  obtain ⟨hx, ⟨gP, eP, vP⟩, ⟨gS, eS, vS⟩, ⟨gU, eU, vU⟩, ⟨gD, eD, vD⟩, ⟨gA, eA, vA⟩, ⟨gK, eK, vK⟩, ⟨gN, eN, vN⟩, ⟨gZ, eZ, vZ⟩, ⟨gB, eB, vB⟩, ⟨g0, g1, g2, e15, e16, e17, v3⟩, ⟨gM, eM⟩, -⟩ := id hM1
  have hx : k1 (20, 0, 0) = some (.inr (4, [.int 0, .int (nI (s_cop σ)), .int (nI (s_nS σ)), .ref (ad (20, 3, 0)), .ref (ad (20, 4, 0)), .ref (ad (20, 5, 0)), .ref (ad (20, 6, 0)), .int (nI (s_col σ).length), .ref (ad (20, 8, 0)), .int (nI (s_nF σ)), .ref (ad (20, 10, 0)), .ref (ad (20, 11, 0)), .ref (ad (20, 12, 0)), .ref (ad (20, 13, 0)), .int (nI (s_as σ).length), .ref (ad (20, 15, 0)), .ref (ad (20, 16, 0)), .ref (ad (20, 17, 0)), .ref (ad (20, 18, 0)), .int (s_dg σ)])) := hx
  rcases ha : s_at σ x y with _ | ⟨s9, f, b⟩
  · refine lv_aload_n X.1 X.2.1 dX4_stale_5 rfl (lv_at hl 0 rfl) ?_
    refine lv_iload_n X.1 X.2.1 dX4_stale_6 rfl (lv_at hl 1 rfl) ?_
    refine lv_iload_n X.1 X.2.1 dX4_stale_7 rfl (lv_at hl 2 rfl) ?_
    refine h_callRV (t := (20, 0, 0)) (As := [.int x, .int y]) (rest := []) X hw cs_X4_75 (c_X4_has l G hM1 x y) hx rfl rfl hl.1 rfl (Nat.le_of_ble_eq_true rfl) ⟨by decide, by decide⟩ ⟨Nat.zero_le _, Nat.zero_le _⟩ dX4_stale_8 ?_
    refine h_tv (b := .int 0) (by rw [ha]; rfl) ?_
    refine lv_if_ne (tgt := 16) X.1 X.2.1 dX4_stale_11 (by decide) (fun c11 => ?_) (fun c11 => ?_)
    · exact absurd (by decide) c11
    · refine lv_iconst (v := (-1)) X.1 X.2.1 dX4_stale_14 (by decide) ?_
      exact h_iretW X Y hw ⟨rfl, rfl, hM1, fun t ht => by rw [hk1, h_cn _ _ (t_ne20 ht)]⟩ (Nat.zero_le _) (Nat.zero_le _) dX4_stale_15
  obtain ⟨rfl, rfl, hs9, hf9, hc, -, -⟩ := s_at_some ha
  have hbl := hok.2.2.2.2.2.2.1 _ _ _ hc
  dsimp only
  rcases hq : s_lead σ f with _ | q9
  · rw [s_ldg_none hq]
    refine lv_aload_n X.1 X.2.1 dX4_stale_5 rfl (lv_at hl 0 rfl) ?_
    refine lv_iload_n X.1 X.2.1 dX4_stale_6 rfl (lv_at hl 1 rfl) ?_
    refine lv_iload_n X.1 X.2.1 dX4_stale_7 rfl (lv_at hl 2 rfl) ?_
    refine h_callRV (t := (20, 0, 0)) (As := [.int (nI s9), .int (nI f)]) (rest := []) X hw cs_X4_75 (c_X4_has l G hM1 (nI s9) (nI f)) hx rfl rfl hl.1 rfl (Nat.le_of_ble_eq_true rfl) ⟨by decide, by decide⟩ ⟨Nat.zero_le _, Nat.zero_le _⟩ dX4_stale_8 ?_
    refine h_tv (b := .int 1) (by rw [ha]; rfl) ?_
    refine lv_if_ne (tgt := 16) X.1 X.2.1 dX4_stale_11 (by decide) (fun c11 => ?_) (fun c11 => ?_)
    · refine lv_aload_n X.1 X.2.1 dX4_stale_16 rfl (lv_at hl 0 rfl) ?_
      refine lv_iload_n X.1 X.2.1 dX4_stale_17 rfl (lv_at hl 2 rfl) ?_
      refine h_callRV (t := (20, 0, 0)) (As := [.int (nI f)]) (rest := []) X hw cs_X4_103 (c_X4_leader l G hM1 hf9) hx rfl rfl hl.1 rfl (Nat.le_of_ble_eq_true rfl) ⟨by decide, by decide⟩ ⟨Nat.zero_le _, Nat.zero_le _⟩ dX4_stale_18 ?_
      refine h_tv (b := .int (-1)) (by rw [hq]; rfl) ?_
      refine lv_istore_n (lv' := [(3, .int (-1)), (0, .ref (ad (20, 0, 0))), (1, .int (nI s9)), (2, .int (nI f))]) X.1 X.2.1 dX4_stale_21 rfl hl (by decide) rfl (fun ls hl => ?_)
      refine lv_iload_n X.1 X.2.1 dX4_stale_22 rfl (lv_at hl 0 rfl) ?_
      refine lv_if_lt (tgt := 45) X.1 X.2.1 dX4_stale_23 (by decide) (fun c23 => ?_) (fun c23 => ?_)
      · refine lv_iconst (v := 0) X.1 X.2.1 dX4_stale_45 (by decide) ?_
        exact h_iretW X Y hw ⟨rfl, rfl, hM1, fun t ht => by rw [hk1, h_cn _ _ (t_ne20 ht)]⟩ (Nat.zero_le _) (Nat.zero_le _) dX4_stale_46
      · exact absurd (by decide) c23
    · exact absurd c11 (by decide)
  obtain ⟨hq9, bq, hbq⟩ := s_lead_spec hq
  rw [s_ldg_some hq hbq]
  dsimp only
  by_cases hd : dgL bq = dgL b
  · rw [if_pos hd]
    refine lv_aload_n X.1 X.2.1 dX4_stale_5 rfl (lv_at hl 0 rfl) ?_
    refine lv_iload_n X.1 X.2.1 dX4_stale_6 rfl (lv_at hl 1 rfl) ?_
    refine lv_iload_n X.1 X.2.1 dX4_stale_7 rfl (lv_at hl 2 rfl) ?_
    refine h_callRV (t := (20, 0, 0)) (As := [.int (nI s9), .int (nI f)]) (rest := []) X hw cs_X4_75 (c_X4_has l G hM1 (nI s9) (nI f)) hx rfl rfl hl.1 rfl (Nat.le_of_ble_eq_true rfl) ⟨by decide, by decide⟩ ⟨Nat.zero_le _, Nat.zero_le _⟩ dX4_stale_8 ?_
    refine h_tv (b := .int 1) (by rw [ha]; rfl) ?_
    refine lv_if_ne (tgt := 16) X.1 X.2.1 dX4_stale_11 (by decide) (fun c11 => ?_) (fun c11 => ?_)
    · refine lv_aload_n X.1 X.2.1 dX4_stale_16 rfl (lv_at hl 0 rfl) ?_
      refine lv_iload_n X.1 X.2.1 dX4_stale_17 rfl (lv_at hl 2 rfl) ?_
      refine h_callRV (t := (20, 0, 0)) (As := [.int (nI f)]) (rest := []) X hw cs_X4_103 (c_X4_leader l G hM1 hf9) hx rfl rfl hl.1 rfl (Nat.le_of_ble_eq_true rfl) ⟨by decide, by decide⟩ ⟨Nat.zero_le _, Nat.zero_le _⟩ dX4_stale_18 ?_
      refine h_tv (b := .int (nI q9)) (by rw [hq]; rfl) ?_
      refine lv_istore_n (lv' := [(3, .int (nI q9)), (0, .ref (ad (20, 0, 0))), (1, .int (nI s9)), (2, .int (nI f))]) X.1 X.2.1 dX4_stale_21 rfl hl (by decide) rfl (fun ls hl => ?_)
      refine lv_iload_n X.1 X.2.1 dX4_stale_22 rfl (lv_at hl 0 rfl) ?_
      refine lv_if_lt (tgt := 45) X.1 X.2.1 dX4_stale_23 (by decide) (fun c23 => ?_) (fun c23 => ?_)
      · exact absurd c23 (nI_pos (by omega))
      · refine lv_aload_n X.1 X.2.1 dX4_stale_26 rfl (lv_at hl 1 rfl) ?_
        refine lv_iload_n X.1 X.2.1 dX4_stale_27 rfl (lv_at hl 0 rfl) ?_
        refine lv_iload_n X.1 X.2.1 dX4_stale_28 rfl (lv_at hl 3 rfl) ?_
        refine h_callRV (t := (20, 0, 0)) (As := [.int (nI q9), .int (nI f)]) (rest := []) X hw cs_X4_92 (c_X4_digestOf l G hM1 (s_cnt_cp hbq).1) hx rfl rfl hl.1 rfl (Nat.le_of_ble_eq_true rfl) ⟨by decide, by decide⟩ ⟨Nat.zero_le _, Nat.zero_le _⟩ dX4_stale_29 ?_
        refine lv_aload_n X.1 X.2.1 dX4_stale_32 rfl (lv_at hl 1 rfl) ?_
        refine lv_iload_n X.1 X.2.1 dX4_stale_33 rfl (lv_at hl 2 rfl) ?_
        refine lv_iload_n X.1 X.2.1 dX4_stale_34 rfl (lv_at hl 3 rfl) ?_
        refine h_callRV (t := (20, 0, 0)) (As := [.int (nI s9), .int (nI f)]) (rest := [.int (dgL bq)]) X hw cs_X4_92 (c_X4_digestOf l G hM1 hc) hx rfl rfl hl.1 rfl (Nat.le_of_ble_eq_true rfl) ⟨by decide, by decide⟩ ⟨Nat.zero_le _, Nat.zero_le _⟩ dX4_stale_35 ?_
        refine lv_icmp_eq (tgt := 45) X.1 X.2.1 dX4_stale_38 (by decide) (fun c38 => ?_) (fun c38 => ?_)
        · refine lv_iconst (v := 0) X.1 X.2.1 dX4_stale_45 (by decide) ?_
          exact h_iretW X Y hw ⟨rfl, rfl, hM1, fun t ht => by rw [hk1, h_cn _ _ (t_ne20 ht)]⟩ (Nat.zero_le _) (Nat.zero_le _) dX4_stale_46
        · exact absurd hd c38
    · exact absurd c11 (by decide)
  rw [if_neg hd]
  refine lv_aload_n X.1 X.2.1 dX4_stale_5 rfl (lv_at hl 0 rfl) ?_
  refine lv_iload_n X.1 X.2.1 dX4_stale_6 rfl (lv_at hl 1 rfl) ?_
  refine lv_iload_n X.1 X.2.1 dX4_stale_7 rfl (lv_at hl 2 rfl) ?_
  refine h_callRV (t := (20, 0, 0)) (As := [.int (nI s9), .int (nI f)]) (rest := []) X hw cs_X4_75 (c_X4_has l G hM1 (nI s9) (nI f)) hx rfl rfl hl.1 rfl (Nat.le_of_ble_eq_true rfl) ⟨by decide, by decide⟩ ⟨Nat.zero_le _, Nat.zero_le _⟩ dX4_stale_8 ?_
  refine h_tv (b := .int 1) (by rw [ha]; rfl) ?_
  refine lv_if_ne (tgt := 16) X.1 X.2.1 dX4_stale_11 (by decide) (fun c11 => ?_) (fun c11 => ?_)
  · refine lv_aload_n X.1 X.2.1 dX4_stale_16 rfl (lv_at hl 0 rfl) ?_
    refine lv_iload_n X.1 X.2.1 dX4_stale_17 rfl (lv_at hl 2 rfl) ?_
    refine h_callRV (t := (20, 0, 0)) (As := [.int (nI f)]) (rest := []) X hw cs_X4_103 (c_X4_leader l G hM1 hf9) hx rfl rfl hl.1 rfl (Nat.le_of_ble_eq_true rfl) ⟨by decide, by decide⟩ ⟨Nat.zero_le _, Nat.zero_le _⟩ dX4_stale_18 ?_
    refine h_tv (b := .int (nI q9)) (by rw [hq]; rfl) ?_
    refine lv_istore_n (lv' := [(3, .int (nI q9)), (0, .ref (ad (20, 0, 0))), (1, .int (nI s9)), (2, .int (nI f))]) X.1 X.2.1 dX4_stale_21 rfl hl (by decide) rfl (fun ls hl => ?_)
    refine lv_iload_n X.1 X.2.1 dX4_stale_22 rfl (lv_at hl 0 rfl) ?_
    refine lv_if_lt (tgt := 45) X.1 X.2.1 dX4_stale_23 (by decide) (fun c23 => ?_) (fun c23 => ?_)
    · exact absurd c23 (nI_pos (by omega))
    · refine lv_aload_n X.1 X.2.1 dX4_stale_26 rfl (lv_at hl 1 rfl) ?_
      refine lv_iload_n X.1 X.2.1 dX4_stale_27 rfl (lv_at hl 0 rfl) ?_
      refine lv_iload_n X.1 X.2.1 dX4_stale_28 rfl (lv_at hl 3 rfl) ?_
      refine h_callRV (t := (20, 0, 0)) (As := [.int (nI q9), .int (nI f)]) (rest := []) X hw cs_X4_92 (c_X4_digestOf l G hM1 (s_cnt_cp hbq).1) hx rfl rfl hl.1 rfl (Nat.le_of_ble_eq_true rfl) ⟨by decide, by decide⟩ ⟨Nat.zero_le _, Nat.zero_le _⟩ dX4_stale_29 ?_
      refine lv_aload_n X.1 X.2.1 dX4_stale_32 rfl (lv_at hl 1 rfl) ?_
      refine lv_iload_n X.1 X.2.1 dX4_stale_33 rfl (lv_at hl 2 rfl) ?_
      refine lv_iload_n X.1 X.2.1 dX4_stale_34 rfl (lv_at hl 3 rfl) ?_
      refine h_callRV (t := (20, 0, 0)) (As := [.int (nI s9), .int (nI f)]) (rest := [.int (dgL bq)]) X hw cs_X4_92 (c_X4_digestOf l G hM1 hc) hx rfl rfl hl.1 rfl (Nat.le_of_ble_eq_true rfl) ⟨by decide, by decide⟩ ⟨Nat.zero_le _, Nat.zero_le _⟩ dX4_stale_35 ?_
      refine lv_icmp_eq (tgt := 45) X.1 X.2.1 dX4_stale_38 (by decide) (fun c38 => ?_) (fun c38 => ?_)
      · exact absurd c38 hd
      · refine lv_iconst (v := 1) X.1 X.2.1 dX4_stale_41 (by decide) ?_
        refine lv_goto (tgt := 46) X.1 X.2.1 dX4_stale_42 (by decide) ?_
        exact h_iretW X Y hw ⟨rfl, rfl, hM1, fun t ht => by rw [hk1, h_cn _ _ (t_ne20 ht)]⟩ (Nat.zero_le _) (Nat.zero_le _) dX4_stale_46
  · exact absurd c11 (by decide)
set_option maxHeartbeats 4000000 in
set_option maxRecDepth 100000 in
/-- majority -/
theorem c_X4_majority (l : Launch) (G : h_G) {ad : h_T → Nat} {k : h_C} {σ : S_t} {th : Int32} (hM : RM G ad k σ th) (y : Int32) : h_Wr l yX4_majority cX4_majority 3 (some .int) 5 112 0 0 G ad k [.ref (ad (20, 0, 0)), .int y] (MPost G ad k (some (.int (sp_majority σ y).1)) (sp_majority σ y).2 0) := by
  refine h_wr (by decide +kernel) (Nat.le_of_ble_eq_true rfl) ?_
  intro p e s m args below meth c X Y hw ls hl
  have hl : lv_has ls 3 [(0, .ref (ad (20, 0, 0))), (1, .int y)] := hl
  unfold sp_majority
  have hok := hM.ok
  have hnS : s_nS σ ≤ 10 := hok.2.1
  have hnF : s_nF σ ≤ 40 := hok.2.2.1
  have hx : k (20, 0, 0) = some (.inr (4, [.int th, .int (nI (s_cop σ)), .int (nI (s_nS σ)), .ref (ad (20, 3, 0)), .ref (ad (20, 4, 0)), .ref (ad (20, 5, 0)), .ref (ad (20, 6, 0)), .int (nI (s_col σ).length), .ref (ad (20, 8, 0)), .int (nI (s_nF σ)), .ref (ad (20, 10, 0)), .ref (ad (20, 11, 0)), .ref (ad (20, 12, 0)), .ref (ad (20, 13, 0)), .int (nI (s_as σ).length), .ref (ad (20, 15, 0)), .ref (ad (20, 16, 0)), .ref (ad (20, 17, 0)), .ref (ad (20, 18, 0)), .int (s_dg σ)])) := hM.1
  refine lv_aload_n X.1 X.2.1 dX4_majority_0 rfl (lv_at hl 0 rfl) ?_
  refine lv_iconst (v := 0) X.1 X.2.1 dX4_majority_1 (by decide) ?_
  refine pf_X4_55 X hw hx rfl rfl (Nat.le_of_ble_eq_true rfl) dX4_majority_2 (fun H locs hw => ?_)
  obtain ⟨k1, hk1⟩ : ∃ zz, zz = h_cu k (20, 0, 0) (some (.inr (4, [.int 0, .int (nI (s_cop σ)), .int (nI (s_nS σ)), .ref (ad (20, 3, 0)), .ref (ad (20, 4, 0)), .ref (ad (20, 5, 0)), .ref (ad (20, 6, 0)), .int (nI (s_col σ).length), .ref (ad (20, 8, 0)), .int (nI (s_nF σ)), .ref (ad (20, 10, 0)), .ref (ad (20, 11, 0)), .ref (ad (20, 12, 0)), .ref (ad (20, 13, 0)), .int (nI (s_as σ).length), .ref (ad (20, 15, 0)), .ref (ad (20, 16, 0)), .ref (ad (20, 17, 0)), .ref (ad (20, 18, 0)), .int (s_dg σ)]))) := ⟨_, rfl⟩
  replace hw := h_W.ren hw hk1
  have f1_20_0_0 : k1 (20, 0, 0) = some (.inr (4, [.int 0, .int (nI (s_cop σ)), .int (nI (s_nS σ)), .ref (ad (20, 3, 0)), .ref (ad (20, 4, 0)), .ref (ad (20, 5, 0)), .ref (ad (20, 6, 0)), .int (nI (s_col σ).length), .ref (ad (20, 8, 0)), .int (nI (s_nF σ)), .ref (ad (20, 10, 0)), .ref (ad (20, 11, 0)), .ref (ad (20, 12, 0)), .ref (ad (20, 13, 0)), .int (nI (s_as σ).length), .ref (ad (20, 15, 0)), .ref (ad (20, 16, 0)), .ref (ad (20, 17, 0)), .ref (ad (20, 18, 0)), .int (s_dg σ)])) := by rw [hk1]; exact h_cs _ _ _
  have hM1 : RM G ad k1 σ 0 := hM.obj f1_20_0_0 (fun t ht => by rw [hk1, h_cn _ _ ht])
  obtain ⟨hx, ⟨gP, eP, vP⟩, ⟨gS, eS, vS⟩, ⟨gU, eU, vU⟩, ⟨gD, eD, vD⟩, ⟨gA, eA, vA⟩, ⟨gK, eK, vK⟩, ⟨gN, eN, vN⟩, ⟨gZ, eZ, vZ⟩, ⟨gB, eB, vB⟩, ⟨g0, g1, g2, e15, e16, e17, v3⟩, ⟨gM, eM⟩, -⟩ := id hM1
  have hx : k1 (20, 0, 0) = some (.inr (4, [.int 0, .int (nI (s_cop σ)), .int (nI (s_nS σ)), .ref (ad (20, 3, 0)), .ref (ad (20, 4, 0)), .ref (ad (20, 5, 0)), .ref (ad (20, 6, 0)), .int (nI (s_col σ).length), .ref (ad (20, 8, 0)), .int (nI (s_nF σ)), .ref (ad (20, 10, 0)), .ref (ad (20, 11, 0)), .ref (ad (20, 12, 0)), .ref (ad (20, 13, 0)), .int (nI (s_as σ).length), .ref (ad (20, 15, 0)), .ref (ad (20, 16, 0)), .ref (ad (20, 17, 0)), .ref (ad (20, 18, 0)), .int (s_dg σ)])) := hx
  rcases hf : ix y (s_nF σ) with _ | f
  · refine lv_aload_n X.1 X.2.1 dX4_majority_5 rfl (lv_at hl 0 rfl) ?_
    refine lv_iload_n X.1 X.2.1 dX4_majority_6 rfl (lv_at hl 1 rfl) ?_
    refine h_callRV (t := (20, 0, 0)) (As := [.int y]) (rest := []) X hw cs_X4_72 (c_X4_isFile l G hM1 y) hx rfl rfl hl.1 rfl (Nat.le_of_ble_eq_true rfl) ⟨by decide, by decide⟩ ⟨Nat.zero_le _, Nat.zero_le _⟩ dX4_majority_7 ?_
    refine h_tv (b := .int 0) (by rw [hf]; rfl) ?_
    refine lv_if_ne (tgt := 15) X.1 X.2.1 dX4_majority_10 (by decide) (fun c10 => ?_) (fun c10 => ?_)
    · exact absurd (by decide) c10
    · refine lv_iconst (v := (-1)) X.1 X.2.1 dX4_majority_13 (by decide) ?_
      exact h_iretW X Y hw ⟨rfl, rfl, hM1, fun t ht => by rw [hk1, h_cn _ _ (t_ne20 ht)]⟩ (Nat.zero_le _) (Nat.zero_le _) dX4_majority_14
  obtain rfl := ix_eq hf
  have hf9 := ix_lt hf
  dsimp only
  rcases hq : s_lead σ f with _ | q9
  · rw [s_ldg_none hq]
    refine lv_aload_n X.1 X.2.1 dX4_majority_5 rfl (lv_at hl 0 rfl) ?_
    refine lv_iload_n X.1 X.2.1 dX4_majority_6 rfl (lv_at hl 1 rfl) ?_
    refine h_callRV (t := (20, 0, 0)) (As := [.int (nI f)]) (rest := []) X hw cs_X4_72 (c_X4_isFile l G hM1 (nI f)) hx rfl rfl hl.1 rfl (Nat.le_of_ble_eq_true rfl) ⟨by decide, by decide⟩ ⟨Nat.zero_le _, Nat.zero_le _⟩ dX4_majority_7 ?_
    refine h_tv (b := .int 1) (by rw [hf]; rfl) ?_
    refine lv_if_ne (tgt := 15) X.1 X.2.1 dX4_majority_10 (by decide) (fun c10 => ?_) (fun c10 => ?_)
    · refine lv_aload_n X.1 X.2.1 dX4_majority_15 rfl (lv_at hl 0 rfl) ?_
      refine lv_iload_n X.1 X.2.1 dX4_majority_16 rfl (lv_at hl 1 rfl) ?_
      refine h_callRV (t := (20, 0, 0)) (As := [.int (nI f)]) (rest := []) X hw cs_X4_103 (c_X4_leader l G hM1 hf9) hx rfl rfl hl.1 rfl (Nat.le_of_ble_eq_true rfl) ⟨by decide, by decide⟩ ⟨Nat.zero_le _, Nat.zero_le _⟩ dX4_majority_17 ?_
      refine h_tv (b := .int (-1)) (by rw [hq]; rfl) ?_
      refine lv_istore_n (lv' := [(2, .int (-1)), (0, .ref (ad (20, 0, 0))), (1, .int (nI f))]) X.1 X.2.1 dX4_majority_20 rfl hl (by decide) rfl (fun ls hl => ?_)
      refine lv_aload_n X.1 X.2.1 dX4_majority_21 rfl (lv_at hl 1 rfl) ?_
      refine lv_iload_n X.1 X.2.1 dX4_majority_22 rfl (lv_at hl 0 rfl) ?_
      refine lv_if_ge (tgt := 30) X.1 X.2.1 dX4_majority_23 (by decide) (fun c23 => ?_) (fun c23 => ?_)
      · exact absurd c23 (by decide)
      · refine lv_iconst (v := 0) X.1 X.2.1 dX4_majority_26 (by decide) ?_
        refine lv_goto (tgt := 36) X.1 X.2.1 dX4_majority_27 (by decide) ?_
        refine pf_X4_106 X hw hx rfl rfl (Nat.le_of_ble_eq_true rfl) dX4_majority_36 (fun H locs hw => ?_)
        obtain ⟨k2, hk2⟩ : ∃ zz, zz = h_cu k1 (20, 0, 0) (some (.inr (4, [.int 0, .int (nI (s_cop σ)), .int (nI (s_nS σ)), .ref (ad (20, 3, 0)), .ref (ad (20, 4, 0)), .ref (ad (20, 5, 0)), .ref (ad (20, 6, 0)), .int (nI (s_col σ).length), .ref (ad (20, 8, 0)), .int (nI (s_nF σ)), .ref (ad (20, 10, 0)), .ref (ad (20, 11, 0)), .ref (ad (20, 12, 0)), .ref (ad (20, 13, 0)), .int (nI (s_as σ).length), .ref (ad (20, 15, 0)), .ref (ad (20, 16, 0)), .ref (ad (20, 17, 0)), .ref (ad (20, 18, 0)), .int 0]))) := ⟨_, rfl⟩
        replace hw := h_W.ren hw hk2
        have f2_20_0_0 : k2 (20, 0, 0) = some (.inr (4, [.int 0, .int (nI (s_cop σ)), .int (nI (s_nS σ)), .ref (ad (20, 3, 0)), .ref (ad (20, 4, 0)), .ref (ad (20, 5, 0)), .ref (ad (20, 6, 0)), .int (nI (s_col σ).length), .ref (ad (20, 8, 0)), .int (nI (s_nF σ)), .ref (ad (20, 10, 0)), .ref (ad (20, 11, 0)), .ref (ad (20, 12, 0)), .ref (ad (20, 13, 0)), .int (nI (s_as σ).length), .ref (ad (20, 15, 0)), .ref (ad (20, 16, 0)), .ref (ad (20, 17, 0)), .ref (ad (20, 18, 0)), .int 0])) := by rw [hk2]; exact h_cs _ _ _
        refine lv_iload_n X.1 X.2.1 dX4_majority_39 rfl (lv_at hl 0 rfl) ?_
        refine lv_if_ge (tgt := 47) X.1 X.2.1 dX4_majority_40 (by decide) (fun c40 => ?_) (fun c40 => ?_)
        · exact absurd c40 (by decide)
        · refine lv_iconst (v := 0) X.1 X.2.1 dX4_majority_43 (by decide) ?_
          refine lv_goto (tgt := 48) X.1 X.2.1 dX4_majority_44 (by decide) ?_
          have hO : ∀ t : h_T, t ≠ (20, 0, 0) → k2 t = k1 t := fun t n0 => by rw [hk2, h_cn _ _ n0]
          exact h_iretW X Y hw ⟨rfl, rfl, ⟨f2_20_0_0, ⟨gP, (hO (20, 3, 0) (by simp)).trans eP, vP⟩, ⟨gS, (hO (20, 4, 0) (by simp)).trans eS, vS⟩, ⟨gU, (hO (20, 5, 0) (by simp)).trans eU, vU⟩, ⟨gD, (hO (20, 6, 0) (by simp)).trans eD, vD⟩, ⟨gA, (hO (20, 8, 0) (by simp)).trans eA, vA⟩, ⟨gK, (hO (20, 10, 0) (by simp)).trans eK, vK⟩, ⟨gN, (hO (20, 11, 0) (by simp)).trans eN, vN⟩, ⟨gZ, (hO (20, 12, 0) (by simp)).trans eZ, vZ⟩, ⟨gB, (hO (20, 13, 0) (by simp)).trans eB, vB⟩, ⟨g0, g1, g2, (hO (20, 15, 0) (by simp)).trans e15, (hO (20, 16, 0) (by simp)).trans e16, (hO (20, 17, 0) (by simp)).trans e17, v3⟩, ⟨gM, (hO (20, 18, 0) (by simp)).trans eM⟩, hok⟩, fun t ht => by rw [hO t (t_ne20 ht), hk1, h_cn _ _ (t_ne20 ht)]⟩ (Nat.zero_le _) (Nat.zero_le _) dX4_majority_48
    · exact absurd c10 (by decide)
  obtain ⟨hq9, bq, hbq⟩ := s_lead_spec hq
  rw [s_ldg_some hq hbq]
  refine lv_aload_n X.1 X.2.1 dX4_majority_5 rfl (lv_at hl 0 rfl) ?_
  refine lv_iload_n X.1 X.2.1 dX4_majority_6 rfl (lv_at hl 1 rfl) ?_
  refine h_callRV (t := (20, 0, 0)) (As := [.int (nI f)]) (rest := []) X hw cs_X4_72 (c_X4_isFile l G hM1 (nI f)) hx rfl rfl hl.1 rfl (Nat.le_of_ble_eq_true rfl) ⟨by decide, by decide⟩ ⟨Nat.zero_le _, Nat.zero_le _⟩ dX4_majority_7 ?_
  refine h_tv (b := .int 1) (by rw [hf]; rfl) ?_
  refine lv_if_ne (tgt := 15) X.1 X.2.1 dX4_majority_10 (by decide) (fun c10 => ?_) (fun c10 => ?_)
  · refine lv_aload_n X.1 X.2.1 dX4_majority_15 rfl (lv_at hl 0 rfl) ?_
    refine lv_iload_n X.1 X.2.1 dX4_majority_16 rfl (lv_at hl 1 rfl) ?_
    refine h_callRV (t := (20, 0, 0)) (As := [.int (nI f)]) (rest := []) X hw cs_X4_103 (c_X4_leader l G hM1 hf9) hx rfl rfl hl.1 rfl (Nat.le_of_ble_eq_true rfl) ⟨by decide, by decide⟩ ⟨Nat.zero_le _, Nat.zero_le _⟩ dX4_majority_17 ?_
    refine h_tv (b := .int (nI q9)) (by rw [hq]; rfl) ?_
    refine lv_istore_n (lv' := [(2, .int (nI q9)), (0, .ref (ad (20, 0, 0))), (1, .int (nI f))]) X.1 X.2.1 dX4_majority_20 rfl hl (by decide) rfl (fun ls hl => ?_)
    refine lv_aload_n X.1 X.2.1 dX4_majority_21 rfl (lv_at hl 1 rfl) ?_
    refine lv_iload_n X.1 X.2.1 dX4_majority_22 rfl (lv_at hl 0 rfl) ?_
    refine lv_if_ge (tgt := 30) X.1 X.2.1 dX4_majority_23 (by decide) (fun c23 => ?_) (fun c23 => ?_)
    · refine lv_aload_n X.1 X.2.1 dX4_majority_30 rfl (lv_at hl 1 rfl) ?_
      refine lv_iload_n X.1 X.2.1 dX4_majority_31 rfl (lv_at hl 0 rfl) ?_
      refine lv_iload_n X.1 X.2.1 dX4_majority_32 rfl (lv_at hl 2 rfl) ?_
      refine h_callRV (t := (20, 0, 0)) (As := [.int (nI q9), .int (nI f)]) (rest := [.ref (ad (20, 0, 0))]) X hw cs_X4_92 (c_X4_digestOf l G hM1 (s_cnt_cp hbq).1) hx rfl rfl hl.1 rfl (Nat.le_of_ble_eq_true rfl) ⟨by decide, by decide⟩ ⟨Nat.zero_le _, Nat.zero_le _⟩ dX4_majority_33 ?_
      refine pf_X4_106 X hw hx rfl rfl (Nat.le_of_ble_eq_true rfl) dX4_majority_36 (fun H locs hw => ?_)
      obtain ⟨k2, hk2⟩ : ∃ zz, zz = h_cu k1 (20, 0, 0) (some (.inr (4, [.int 0, .int (nI (s_cop σ)), .int (nI (s_nS σ)), .ref (ad (20, 3, 0)), .ref (ad (20, 4, 0)), .ref (ad (20, 5, 0)), .ref (ad (20, 6, 0)), .int (nI (s_col σ).length), .ref (ad (20, 8, 0)), .int (nI (s_nF σ)), .ref (ad (20, 10, 0)), .ref (ad (20, 11, 0)), .ref (ad (20, 12, 0)), .ref (ad (20, 13, 0)), .int (nI (s_as σ).length), .ref (ad (20, 15, 0)), .ref (ad (20, 16, 0)), .ref (ad (20, 17, 0)), .ref (ad (20, 18, 0)), .int (dgL bq)]))) := ⟨_, rfl⟩
      replace hw := h_W.ren hw hk2
      have f2_20_0_0 : k2 (20, 0, 0) = some (.inr (4, [.int 0, .int (nI (s_cop σ)), .int (nI (s_nS σ)), .ref (ad (20, 3, 0)), .ref (ad (20, 4, 0)), .ref (ad (20, 5, 0)), .ref (ad (20, 6, 0)), .int (nI (s_col σ).length), .ref (ad (20, 8, 0)), .int (nI (s_nF σ)), .ref (ad (20, 10, 0)), .ref (ad (20, 11, 0)), .ref (ad (20, 12, 0)), .ref (ad (20, 13, 0)), .int (nI (s_as σ).length), .ref (ad (20, 15, 0)), .ref (ad (20, 16, 0)), .ref (ad (20, 17, 0)), .ref (ad (20, 18, 0)), .int (dgL bq)])) := by rw [hk2]; exact h_cs _ _ _
      refine lv_iload_n X.1 X.2.1 dX4_majority_39 rfl (lv_at hl 0 rfl) ?_
      refine lv_if_ge (tgt := 47) X.1 X.2.1 dX4_majority_40 (by decide) (fun c40 => ?_) (fun c40 => ?_)
      · refine lv_iconst (v := 1) X.1 X.2.1 dX4_majority_47 (by decide) ?_
        have hO : ∀ t : h_T, t ≠ (20, 0, 0) → k2 t = k1 t := fun t n0 => by rw [hk2, h_cn _ _ n0]
        exact h_iretW X Y hw ⟨rfl, rfl, ⟨f2_20_0_0, ⟨gP, (hO (20, 3, 0) (by simp)).trans eP, vP⟩, ⟨gS, (hO (20, 4, 0) (by simp)).trans eS, vS⟩, ⟨gU, (hO (20, 5, 0) (by simp)).trans eU, vU⟩, ⟨gD, (hO (20, 6, 0) (by simp)).trans eD, vD⟩, ⟨gA, (hO (20, 8, 0) (by simp)).trans eA, vA⟩, ⟨gK, (hO (20, 10, 0) (by simp)).trans eK, vK⟩, ⟨gN, (hO (20, 11, 0) (by simp)).trans eN, vN⟩, ⟨gZ, (hO (20, 12, 0) (by simp)).trans eZ, vZ⟩, ⟨gB, (hO (20, 13, 0) (by simp)).trans eB, vB⟩, ⟨g0, g1, g2, (hO (20, 15, 0) (by simp)).trans e15, (hO (20, 16, 0) (by simp)).trans e16, (hO (20, 17, 0) (by simp)).trans e17, v3⟩, ⟨gM, (hO (20, 18, 0) (by simp)).trans eM⟩, hok⟩, fun t ht => by rw [hO t (t_ne20 ht), hk1, h_cn _ _ (t_ne20 ht)]⟩ (Nat.zero_le _) (Nat.zero_le _) dX4_majority_48
      · exact absurd (nI_pos' (by omega)) c40
    · exact absurd (nI_pos' (by omega)) c23
  · exact absurd c10 (by decide)
set_option maxHeartbeats 4000000 in
set_option maxRecDepth 100000 in
/-- answers -/
theorem c_X4_answers (l : Launch) (G : h_G) {ad : h_T → Nat} {k : h_C} {σ : S_t} {th : Int32} (hM : RM G ad k σ th) (x : Int32) (on : Bool) : h_Wr l yX4_answers cX4_answers 3 (some .int) 2 43 0 0 G ad k [.ref (ad (20, 0, 0)), .int x, .int (bI on)] (MPost G ad k (some (.int (sp_answers σ x on).1)) (sp_answers σ x on).2 0) := by
  refine h_wr (by decide +kernel) (Nat.le_of_ble_eq_true rfl) ?_
  intro p e s m args below meth c X Y hw ls hl
  have hl : lv_has ls 3 [(0, .ref (ad (20, 0, 0))), (1, .int x), (2, .int (bI on))] := hl
  unfold sp_answers
  have hok := hM.ok
  have hnS : s_nS σ ≤ 10 := hok.2.1
  have hnF : s_nF σ ≤ 40 := hok.2.2.1
  have hx : k (20, 0, 0) = some (.inr (4, [.int th, .int (nI (s_cop σ)), .int (nI (s_nS σ)), .ref (ad (20, 3, 0)), .ref (ad (20, 4, 0)), .ref (ad (20, 5, 0)), .ref (ad (20, 6, 0)), .int (nI (s_col σ).length), .ref (ad (20, 8, 0)), .int (nI (s_nF σ)), .ref (ad (20, 10, 0)), .ref (ad (20, 11, 0)), .ref (ad (20, 12, 0)), .ref (ad (20, 13, 0)), .int (nI (s_as σ).length), .ref (ad (20, 15, 0)), .ref (ad (20, 16, 0)), .ref (ad (20, 17, 0)), .ref (ad (20, 18, 0)), .int (s_dg σ)])) := hM.1
  refine lv_aload_n X.1 X.2.1 dX4_answers_0 rfl (lv_at hl 0 rfl) ?_
  refine lv_iconst (v := 0) X.1 X.2.1 dX4_answers_1 (by decide) ?_
  refine pf_X4_55 X hw hx rfl rfl (Nat.le_of_ble_eq_true rfl) dX4_answers_2 (fun H locs hw => ?_)
  obtain ⟨k1, hk1⟩ : ∃ zz, zz = h_cu k (20, 0, 0) (some (.inr (4, [.int 0, .int (nI (s_cop σ)), .int (nI (s_nS σ)), .ref (ad (20, 3, 0)), .ref (ad (20, 4, 0)), .ref (ad (20, 5, 0)), .ref (ad (20, 6, 0)), .int (nI (s_col σ).length), .ref (ad (20, 8, 0)), .int (nI (s_nF σ)), .ref (ad (20, 10, 0)), .ref (ad (20, 11, 0)), .ref (ad (20, 12, 0)), .ref (ad (20, 13, 0)), .int (nI (s_as σ).length), .ref (ad (20, 15, 0)), .ref (ad (20, 16, 0)), .ref (ad (20, 17, 0)), .ref (ad (20, 18, 0)), .int (s_dg σ)]))) := ⟨_, rfl⟩
  replace hw := h_W.ren hw hk1
  have f1_20_0_0 : k1 (20, 0, 0) = some (.inr (4, [.int 0, .int (nI (s_cop σ)), .int (nI (s_nS σ)), .ref (ad (20, 3, 0)), .ref (ad (20, 4, 0)), .ref (ad (20, 5, 0)), .ref (ad (20, 6, 0)), .int (nI (s_col σ).length), .ref (ad (20, 8, 0)), .int (nI (s_nF σ)), .ref (ad (20, 10, 0)), .ref (ad (20, 11, 0)), .ref (ad (20, 12, 0)), .ref (ad (20, 13, 0)), .int (nI (s_as σ).length), .ref (ad (20, 15, 0)), .ref (ad (20, 16, 0)), .ref (ad (20, 17, 0)), .ref (ad (20, 18, 0)), .int (s_dg σ)])) := by rw [hk1]; exact h_cs _ _ _
  have hM1 : RM G ad k1 σ 0 := hM.obj f1_20_0_0 (fun t ht => by rw [hk1, h_cn _ _ ht])
  obtain ⟨hx, ⟨gP, eP, vP⟩, ⟨gS, eS, vS⟩, ⟨gU, eU, vU⟩, ⟨gD, eD, vD⟩, ⟨gA, eA, vA⟩, ⟨gK, eK, vK⟩, ⟨gN, eN, vN⟩, ⟨gZ, eZ, vZ⟩, ⟨gB, eB, vB⟩, ⟨g0, g1, g2, e15, e16, e17, v3⟩, ⟨gM, eM⟩, -⟩ := id hM1
  have hx : k1 (20, 0, 0) = some (.inr (4, [.int 0, .int (nI (s_cop σ)), .int (nI (s_nS σ)), .ref (ad (20, 3, 0)), .ref (ad (20, 4, 0)), .ref (ad (20, 5, 0)), .ref (ad (20, 6, 0)), .int (nI (s_col σ).length), .ref (ad (20, 8, 0)), .int (nI (s_nF σ)), .ref (ad (20, 10, 0)), .ref (ad (20, 11, 0)), .ref (ad (20, 12, 0)), .ref (ad (20, 13, 0)), .int (nI (s_as σ).length), .ref (ad (20, 15, 0)), .ref (ad (20, 16, 0)), .ref (ad (20, 17, 0)), .ref (ad (20, 18, 0)), .int (s_dg σ)])) := hx
  rcases hs : ix x (s_nS σ) with _ | s9
  · refine lv_aload_n X.1 X.2.1 dX4_answers_5 rfl (lv_at hl 0 rfl) ?_
    refine lv_iload_n X.1 X.2.1 dX4_answers_6 rfl (lv_at hl 1 rfl) ?_
    refine h_callRV (t := (20, 0, 0)) (As := [.int x]) (rest := []) X hw cs_X4_68 (c_X4_isStore l G hM1 x) hx rfl rfl hl.1 rfl (Nat.le_of_ble_eq_true rfl) ⟨by decide, by decide⟩ ⟨Nat.zero_le _, Nat.zero_le _⟩ dX4_answers_7 ?_
    refine h_tv (b := .int 0) (by rw [hs]; rfl) ?_
    refine lv_if_ne (tgt := 15) X.1 X.2.1 dX4_answers_10 (by decide) (fun c10 => ?_) (fun c10 => ?_)
    · exact absurd (by decide) c10
    · refine lv_iconst (v := (-1)) X.1 X.2.1 dX4_answers_13 (by decide) ?_
      exact h_iretW X Y hw ⟨rfl, rfl, hM1, fun t ht => by rw [hk1, h_cn _ _ (t_ne20 ht)]⟩ (Nat.zero_le _) (Nat.zero_le _) dX4_answers_14
  obtain rfl := ix_eq hs
  have hs9 := ix_lt hs
  dsimp only
  cases on with
  | false =>
    have hl : lv_has ls 3 [(0, .ref (ad (20, 0, 0))), (1, .int (nI s9)), (2, .int 0)] := hl
    refine lv_aload_n X.1 X.2.1 dX4_answers_5 rfl (lv_at hl 0 rfl) ?_
    refine lv_iload_n X.1 X.2.1 dX4_answers_6 rfl (lv_at hl 1 rfl) ?_
    refine h_callRV (t := (20, 0, 0)) (As := [.int (nI s9)]) (rest := []) X hw cs_X4_68 (c_X4_isStore l G hM1 (nI s9)) hx rfl rfl hl.1 rfl (Nat.le_of_ble_eq_true rfl) ⟨by decide, by decide⟩ ⟨Nat.zero_le _, Nat.zero_le _⟩ dX4_answers_7 ?_
    refine h_tv (b := .int 1) (by rw [hs]; rfl) ?_
    refine lv_if_ne (tgt := 15) X.1 X.2.1 dX4_answers_10 (by decide) (fun c10 => ?_) (fun c10 => ?_)
    · refine lv_aload_n X.1 X.2.1 dX4_answers_15 rfl (lv_at hl 0 rfl) ?_
      refine gf_X4_13 X hw hx rfl dX4_answers_16 ?_
      refine lv_iload_n X.1 X.2.1 dX4_answers_19 rfl (lv_at hl 1 rfl) ?_
      refine lv_iload_n X.1 X.2.1 dX4_answers_20 rfl (lv_at hl 2 rfl) ?_
      refine lv_if_ne (tgt := 28) X.1 X.2.1 dX4_answers_21 (by decide) (fun c21 => ?_) (fun c21 => ?_)
      · exact absurd (by decide) c21
      · refine lv_iconst (v := 1) X.1 X.2.1 dX4_answers_24 (by decide) ?_
        refine lv_goto (tgt := 29) X.1 X.2.1 dX4_answers_25 (by decide) ?_
        refine h_zast X hw eS (vp_in_nI (by omega) (by decide)) dX4_answers_29 (fun H locs hw => ?_)
        obtain ⟨k2, hk2⟩ : ∃ zz, zz = h_cu k1 (20, 4, 0) (some (.inl (G.2 2, 10, .inl (upd gS (nI s9).toNatClampNeg (vp_nar .boolean 1))))) := ⟨_, rfl⟩
        replace hw := h_W.ren hw hk2
        have f2_20_0_0 : k2 (20, 0, 0) = some (.inr (4, [.int 0, .int (nI (s_cop σ)), .int (nI (s_nS σ)), .ref (ad (20, 3, 0)), .ref (ad (20, 4, 0)), .ref (ad (20, 5, 0)), .ref (ad (20, 6, 0)), .int (nI (s_col σ).length), .ref (ad (20, 8, 0)), .int (nI (s_nF σ)), .ref (ad (20, 10, 0)), .ref (ad (20, 11, 0)), .ref (ad (20, 12, 0)), .ref (ad (20, 13, 0)), .int (nI (s_as σ).length), .ref (ad (20, 15, 0)), .ref (ad (20, 16, 0)), .ref (ad (20, 17, 0)), .ref (ad (20, 18, 0)), .int (s_dg σ)])) := by rw [hk2, h_cn _ _ (by simp)]; exact hx
        have f2_20_4_0 : k2 (20, 4, 0) = some (.inl (G.2 2, 10, .inl (upd gS (nI s9).toNatClampNeg (vp_nar .boolean 1)))) := by rw [hk2]; exact h_cs _ _ _
        refine lv_iconst (v := 1) X.1 X.2.1 dX4_answers_30 (by decide) ?_
        have hO : ∀ t : h_T, t ≠ (20, 0, 0) → t ≠ (20, 4, 0) → k2 t = k1 t := fun t n0 n1 => by rw [hk2, h_cn _ _ n1]
        exact h_iretW X Y hw ⟨rfl, rfl, ⟨f2_20_0_0, ⟨gP, (hO (20, 3, 0) (by simp) (by simp)).trans eP, vP⟩, ⟨_, f2_20_4_0, fun s hs => by
          rw [nI_clamp (by omega)]
          show _ = bI (if s = s9 then !false else s_si σ s)
          by_cases q : s = s9
          · rw [q, pk_us, if_pos rfl]; rfl
          · rw [pk_un q, if_neg q]; exact vS s hs⟩, ⟨gU, (hO (20, 5, 0) (by simp) (by simp)).trans eU, vU⟩, ⟨gD, (hO (20, 6, 0) (by simp) (by simp)).trans eD, vD⟩, ⟨gA, (hO (20, 8, 0) (by simp) (by simp)).trans eA, vA⟩, ⟨gK, (hO (20, 10, 0) (by simp) (by simp)).trans eK, vK⟩, ⟨gN, (hO (20, 11, 0) (by simp) (by simp)).trans eN, vN⟩, ⟨gZ, (hO (20, 12, 0) (by simp) (by simp)).trans eZ, vZ⟩, ⟨gB, (hO (20, 13, 0) (by simp) (by simp)).trans eB, vB⟩, ⟨g0, g1, g2, (hO (20, 15, 0) (by simp) (by simp)).trans e15, (hO (20, 16, 0) (by simp) (by simp)).trans e16, (hO (20, 17, 0) (by simp) (by simp)).trans e17, v3⟩, ⟨gM, (hO (20, 18, 0) (by simp) (by simp)).trans eM⟩, ⟨hok.1, hok.2.1, hok.2.2.1, hok.2.2.2.1, hok.2.2.2.2.1, hok.2.2.2.2.2.1, hok.2.2.2.2.2.2.1, fun s hs => ⟨by
          show (if s = s9 then _ else s_si σ s) = false
          have hs : s_nS σ ≤ s := hs
          rw [if_neg (by omega)]; exact (hok.2.2.2.2.2.2.2.1 s hs).1, (hok.2.2.2.2.2.2.2.1 s hs).2⟩, hok.2.2.2.2.2.2.2.2⟩⟩, fun t ht => by rw [hO t (t_ne20 ht) (t_ne20 ht), hk1, h_cn _ _ (t_ne20 ht)]⟩ (Nat.zero_le _) (Nat.zero_le _) dX4_answers_31
    · exact absurd c10 (by decide)
  | true =>
    have hl : lv_has ls 3 [(0, .ref (ad (20, 0, 0))), (1, .int (nI s9)), (2, .int 1)] := hl
    refine lv_aload_n X.1 X.2.1 dX4_answers_5 rfl (lv_at hl 0 rfl) ?_
    refine lv_iload_n X.1 X.2.1 dX4_answers_6 rfl (lv_at hl 1 rfl) ?_
    refine h_callRV (t := (20, 0, 0)) (As := [.int (nI s9)]) (rest := []) X hw cs_X4_68 (c_X4_isStore l G hM1 (nI s9)) hx rfl rfl hl.1 rfl (Nat.le_of_ble_eq_true rfl) ⟨by decide, by decide⟩ ⟨Nat.zero_le _, Nat.zero_le _⟩ dX4_answers_7 ?_
    refine h_tv (b := .int 1) (by rw [hs]; rfl) ?_
    refine lv_if_ne (tgt := 15) X.1 X.2.1 dX4_answers_10 (by decide) (fun c10 => ?_) (fun c10 => ?_)
    · refine lv_aload_n X.1 X.2.1 dX4_answers_15 rfl (lv_at hl 0 rfl) ?_
      refine gf_X4_13 X hw hx rfl dX4_answers_16 ?_
      refine lv_iload_n X.1 X.2.1 dX4_answers_19 rfl (lv_at hl 1 rfl) ?_
      refine lv_iload_n X.1 X.2.1 dX4_answers_20 rfl (lv_at hl 2 rfl) ?_
      refine lv_if_ne (tgt := 28) X.1 X.2.1 dX4_answers_21 (by decide) (fun c21 => ?_) (fun c21 => ?_)
      · refine lv_iconst (v := 0) X.1 X.2.1 dX4_answers_28 (by decide) ?_
        refine h_zast X hw eS (vp_in_nI (by omega) (by decide)) dX4_answers_29 (fun H locs hw => ?_)
        obtain ⟨k2, hk2⟩ : ∃ zz, zz = h_cu k1 (20, 4, 0) (some (.inl (G.2 2, 10, .inl (upd gS (nI s9).toNatClampNeg (vp_nar .boolean 0))))) := ⟨_, rfl⟩
        replace hw := h_W.ren hw hk2
        have f2_20_0_0 : k2 (20, 0, 0) = some (.inr (4, [.int 0, .int (nI (s_cop σ)), .int (nI (s_nS σ)), .ref (ad (20, 3, 0)), .ref (ad (20, 4, 0)), .ref (ad (20, 5, 0)), .ref (ad (20, 6, 0)), .int (nI (s_col σ).length), .ref (ad (20, 8, 0)), .int (nI (s_nF σ)), .ref (ad (20, 10, 0)), .ref (ad (20, 11, 0)), .ref (ad (20, 12, 0)), .ref (ad (20, 13, 0)), .int (nI (s_as σ).length), .ref (ad (20, 15, 0)), .ref (ad (20, 16, 0)), .ref (ad (20, 17, 0)), .ref (ad (20, 18, 0)), .int (s_dg σ)])) := by rw [hk2, h_cn _ _ (by simp)]; exact hx
        have f2_20_4_0 : k2 (20, 4, 0) = some (.inl (G.2 2, 10, .inl (upd gS (nI s9).toNatClampNeg (vp_nar .boolean 0)))) := by rw [hk2]; exact h_cs _ _ _
        refine lv_iconst (v := 1) X.1 X.2.1 dX4_answers_30 (by decide) ?_
        have hO : ∀ t : h_T, t ≠ (20, 0, 0) → t ≠ (20, 4, 0) → k2 t = k1 t := fun t n0 n1 => by rw [hk2, h_cn _ _ n1]
        exact h_iretW X Y hw ⟨rfl, rfl, ⟨f2_20_0_0, ⟨gP, (hO (20, 3, 0) (by simp) (by simp)).trans eP, vP⟩, ⟨_, f2_20_4_0, fun s hs => by
          rw [nI_clamp (by omega)]
          show _ = bI (if s = s9 then !true else s_si σ s)
          by_cases q : s = s9
          · rw [q, pk_us, if_pos rfl]; rfl
          · rw [pk_un q, if_neg q]; exact vS s hs⟩, ⟨gU, (hO (20, 5, 0) (by simp) (by simp)).trans eU, vU⟩, ⟨gD, (hO (20, 6, 0) (by simp) (by simp)).trans eD, vD⟩, ⟨gA, (hO (20, 8, 0) (by simp) (by simp)).trans eA, vA⟩, ⟨gK, (hO (20, 10, 0) (by simp) (by simp)).trans eK, vK⟩, ⟨gN, (hO (20, 11, 0) (by simp) (by simp)).trans eN, vN⟩, ⟨gZ, (hO (20, 12, 0) (by simp) (by simp)).trans eZ, vZ⟩, ⟨gB, (hO (20, 13, 0) (by simp) (by simp)).trans eB, vB⟩, ⟨g0, g1, g2, (hO (20, 15, 0) (by simp) (by simp)).trans e15, (hO (20, 16, 0) (by simp) (by simp)).trans e16, (hO (20, 17, 0) (by simp) (by simp)).trans e17, v3⟩, ⟨gM, (hO (20, 18, 0) (by simp) (by simp)).trans eM⟩, ⟨hok.1, hok.2.1, hok.2.2.1, hok.2.2.2.1, hok.2.2.2.2.1, hok.2.2.2.2.2.1, hok.2.2.2.2.2.2.1, fun s hs => ⟨by
          show (if s = s9 then _ else s_si σ s) = false
          have hs : s_nS σ ≤ s := hs
          rw [if_neg (by omega)]; exact (hok.2.2.2.2.2.2.2.1 s hs).1, (hok.2.2.2.2.2.2.2.1 s hs).2⟩, hok.2.2.2.2.2.2.2.2⟩⟩, fun t ht => by rw [hO t (t_ne20 ht) (t_ne20 ht), hk1, h_cn _ _ (t_ne20 ht)]⟩ (Nat.zero_le _) (Nat.zero_le _) dX4_answers_31
      · exact absurd c21 (by decide)
    · exact absurd c10 (by decide)
