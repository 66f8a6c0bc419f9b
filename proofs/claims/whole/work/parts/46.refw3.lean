set_option maxHeartbeats 4000000 in
set_option maxRecDepth 100000 in
/-- polled -/
theorem c_X4_polled (l : Launch) (G : h_G) {ad : h_T → Nat} {k : h_C} {σ : S_t} {th : Int32} (hM : RM G ad k σ th) (x w : Int32) : h_Wr l yX4_polled cX4_polled 3 (some .int) 1 22 0 0 G ad k [.ref (ad (20, 0, 0)), .int x, .int w] (MPost G ad k (some (.int ((sp_polled σ x w).getD 0))) σ (o_th (sp_polled σ x w))) := by
  refine h_wr (by decide +kernel) (Nat.le_of_ble_eq_true rfl) ?_
  intro p e s m args below meth c X Y hw ls hl
  have hl : lv_has ls 3 [(0, .ref (ad (20, 0, 0))), (1, .int x), (2, .int w)] := hl
  have hok := hM.ok
  obtain ⟨hx, ⟨gP, eP, vP⟩, ⟨gS, eS, vS⟩, ⟨gU, eU, vU⟩, ⟨gD, eD, vD⟩, ⟨gA, eA, vA⟩, ⟨gK, eK, vK⟩, ⟨gN, eN, vN⟩, ⟨gZ, eZ, vZ⟩, ⟨gB, eB, vB⟩, ⟨g0, g1, g2, e15, e16, e17, v3⟩, ⟨gM, eM⟩, -⟩ := id hM
  have hx : k (20, 0, 0) = some (.inr (4, [.int th, .int (nI (s_cop σ)), .int (nI (s_nS σ)), .ref (ad (20, 3, 0)), .ref (ad (20, 4, 0)), .ref (ad (20, 5, 0)), .ref (ad (20, 6, 0)), .int (nI (s_col σ).length), .ref (ad (20, 8, 0)), .int (nI (s_nF σ)), .ref (ad (20, 10, 0)), .ref (ad (20, 11, 0)), .ref (ad (20, 12, 0)), .ref (ad (20, 13, 0)), .int (nI (s_as σ).length), .ref (ad (20, 15, 0)), .ref (ad (20, 16, 0)), .ref (ad (20, 17, 0)), .ref (ad (20, 18, 0)), .int (s_dg σ)])) := hx
  have hnS : s_nS σ ≤ 10 := hok.2.1
  have hnF : s_nF σ ≤ 40 := hok.2.2.1
  unfold sp_polled
  have hal : (s_as σ).length ≤ 120 := hok.2.2.2.2.1
  rcases hn : ix x (s_as σ).length with _ | j
  · refine lv_aload_n X.1 X.2.1 dX4_polled_0 rfl (lv_at hl 0 rfl) ?_
    refine lv_iload_n X.1 X.2.1 dX4_polled_1 rfl (lv_at hl 1 rfl) ?_
    refine lv_iconst (v := 0) X.1 X.2.1 dX4_polled_2 (by decide) ?_
    refine lv_aload_n X.1 X.2.1 dX4_polled_3 rfl (lv_at hl 0 rfl) ?_
    refine gf_X4_96 X hw hx rfl dX4_polled_4 ?_
    refine lv_iconst (v := 1) X.1 X.2.1 dX4_polled_7 (by decide) ?_
    refine lv_isub X.1 X.2.1 dX4_polled_8 ?_
    refine h_callRS (As := [.int x, .int 0, .int (nI (s_as σ).length - 1)]) (rest := [.ref (ad (20, 0, 0))]) X hw cs_X4_61 (c_X4_in l G x 0 (nI (s_as σ).length - 1)) rfl hl.1 rfl (Nat.le_of_ble_eq_true rfl) ⟨by decide, by decide⟩ ⟨Nat.zero_le _, Nat.zero_le _⟩ dX4_polled_9 ?_
    refine h_tv (b := .int 0) (by rw [in_ix (by omega), hn]; rfl) ?_
    refine lv_if_eq (tgt := 19) X.1 X.2.1 dX4_polled_12 (by decide) (fun c12 => ?_) (fun c12 => ?_)
    · refine lv_iconst (v := 1) X.1 X.2.1 dX4_polled_19 (by decide) ?_
      refine pf_X4_55 X hw hx rfl rfl (Nat.le_of_ble_eq_true rfl) dX4_polled_20 (fun H locs hw => ?_)
      obtain ⟨k1, hk1⟩ : ∃ zz, zz = h_cu k (20, 0, 0) (some (.inr (4, [.int 1, .int (nI (s_cop σ)), .int (nI (s_nS σ)), .ref (ad (20, 3, 0)), .ref (ad (20, 4, 0)), .ref (ad (20, 5, 0)), .ref (ad (20, 6, 0)), .int (nI (s_col σ).length), .ref (ad (20, 8, 0)), .int (nI (s_nF σ)), .ref (ad (20, 10, 0)), .ref (ad (20, 11, 0)), .ref (ad (20, 12, 0)), .ref (ad (20, 13, 0)), .int (nI (s_as σ).length), .ref (ad (20, 15, 0)), .ref (ad (20, 16, 0)), .ref (ad (20, 17, 0)), .ref (ad (20, 18, 0)), .int (s_dg σ)]))) := ⟨_, rfl⟩
      replace hw := h_W.ren hw hk1
      have f1_20_0_0 : k1 (20, 0, 0) = some (.inr (4, [.int 1, .int (nI (s_cop σ)), .int (nI (s_nS σ)), .ref (ad (20, 3, 0)), .ref (ad (20, 4, 0)), .ref (ad (20, 5, 0)), .ref (ad (20, 6, 0)), .int (nI (s_col σ).length), .ref (ad (20, 8, 0)), .int (nI (s_nF σ)), .ref (ad (20, 10, 0)), .ref (ad (20, 11, 0)), .ref (ad (20, 12, 0)), .ref (ad (20, 13, 0)), .int (nI (s_as σ).length), .ref (ad (20, 15, 0)), .ref (ad (20, 16, 0)), .ref (ad (20, 17, 0)), .ref (ad (20, 18, 0)), .int (s_dg σ)])) := by rw [hk1]; exact h_cs _ _ _
      have f1_20_15_0 : k1 (20, 15, 0) = some (.inl (G.2 0, 120, .inl g0)) := by rw [hk1, h_cn _ _ (by simp)]; exact e15
      have f1_20_16_0 : k1 (20, 16, 0) = some (.inl (G.2 0, 120, .inl g1)) := by rw [hk1, h_cn _ _ (by simp)]; exact e16
      have f1_20_17_0 : k1 (20, 17, 0) = some (.inl (G.2 0, 120, .inl g2)) := by rw [hk1, h_cn _ _ (by simp)]; exact e17
      refine lv_aload_n X.1 X.2.1 dX4_polled_23 rfl (lv_at hl 0 rfl) ?_
      refine gf_X4_55 X hw f1_20_0_0 rfl dX4_polled_24 ?_
      refine lv_if_le (tgt := 32) X.1 X.2.1 dX4_polled_27 (by decide) (fun c27 => ?_) (fun c27 => ?_)
      · exact absurd c27 (by decide)
      · refine lv_iconst (v := 0) X.1 X.2.1 dX4_polled_30 (by decide) ?_
        exact h_iretW X Y hw ⟨rfl, rfl, hM.obj f1_20_0_0 (fun t ht => by rw [hk1, h_cn _ _ ht]), fun t ht => by rw [hk1, h_cn _ _ (t_ne20 ht)]⟩ (Nat.zero_le _) (Nat.zero_le _) dX4_polled_31
    · exact absurd (by decide) c12
  obtain rfl := ix_eq hn
  have hj := ix_lt hn
  have hv := v3 j hj
  by_cases w0 : w = 0
  · subst w0
    refine lv_aload_n X.1 X.2.1 dX4_polled_0 rfl (lv_at hl 0 rfl) ?_
    refine lv_iload_n X.1 X.2.1 dX4_polled_1 rfl (lv_at hl 1 rfl) ?_
    refine lv_iconst (v := 0) X.1 X.2.1 dX4_polled_2 (by decide) ?_
    refine lv_aload_n X.1 X.2.1 dX4_polled_3 rfl (lv_at hl 0 rfl) ?_
    refine gf_X4_96 X hw hx rfl dX4_polled_4 ?_
    refine lv_iconst (v := 1) X.1 X.2.1 dX4_polled_7 (by decide) ?_
    refine lv_isub X.1 X.2.1 dX4_polled_8 ?_
    refine h_callRS (As := [.int (nI j), .int 0, .int (nI (s_as σ).length - 1)]) (rest := [.ref (ad (20, 0, 0))]) X hw cs_X4_61 (c_X4_in l G (nI j) 0 (nI (s_as σ).length - 1)) rfl hl.1 rfl (Nat.le_of_ble_eq_true rfl) ⟨by decide, by decide⟩ ⟨Nat.zero_le _, Nat.zero_le _⟩ dX4_polled_9 ?_
    refine h_tv (b := .int 1) (by rw [in_ix (by omega), hn]; rfl) ?_
    refine lv_if_eq (tgt := 19) X.1 X.2.1 dX4_polled_12 (by decide) (fun c12 => ?_) (fun c12 => ?_)
    · exact absurd c12 (by decide)
    · refine lv_iconst (v := 0) X.1 X.2.1 dX4_polled_15 (by decide) ?_
      refine lv_goto (tgt := 20) X.1 X.2.1 dX4_polled_16 (by decide) ?_
      refine pf_X4_55 X hw hx rfl rfl (Nat.le_of_ble_eq_true rfl) dX4_polled_20 (fun H locs hw => ?_)
      obtain ⟨k1, hk1⟩ : ∃ zz, zz = h_cu k (20, 0, 0) (some (.inr (4, [.int 0, .int (nI (s_cop σ)), .int (nI (s_nS σ)), .ref (ad (20, 3, 0)), .ref (ad (20, 4, 0)), .ref (ad (20, 5, 0)), .ref (ad (20, 6, 0)), .int (nI (s_col σ).length), .ref (ad (20, 8, 0)), .int (nI (s_nF σ)), .ref (ad (20, 10, 0)), .ref (ad (20, 11, 0)), .ref (ad (20, 12, 0)), .ref (ad (20, 13, 0)), .int (nI (s_as σ).length), .ref (ad (20, 15, 0)), .ref (ad (20, 16, 0)), .ref (ad (20, 17, 0)), .ref (ad (20, 18, 0)), .int (s_dg σ)]))) := ⟨_, rfl⟩
      replace hw := h_W.ren hw hk1
      have f1_20_0_0 : k1 (20, 0, 0) = some (.inr (4, [.int 0, .int (nI (s_cop σ)), .int (nI (s_nS σ)), .ref (ad (20, 3, 0)), .ref (ad (20, 4, 0)), .ref (ad (20, 5, 0)), .ref (ad (20, 6, 0)), .int (nI (s_col σ).length), .ref (ad (20, 8, 0)), .int (nI (s_nF σ)), .ref (ad (20, 10, 0)), .ref (ad (20, 11, 0)), .ref (ad (20, 12, 0)), .ref (ad (20, 13, 0)), .int (nI (s_as σ).length), .ref (ad (20, 15, 0)), .ref (ad (20, 16, 0)), .ref (ad (20, 17, 0)), .ref (ad (20, 18, 0)), .int (s_dg σ)])) := by rw [hk1]; exact h_cs _ _ _
      have f1_20_15_0 : k1 (20, 15, 0) = some (.inl (G.2 0, 120, .inl g0)) := by rw [hk1, h_cn _ _ (by simp)]; exact e15
      have f1_20_16_0 : k1 (20, 16, 0) = some (.inl (G.2 0, 120, .inl g1)) := by rw [hk1, h_cn _ _ (by simp)]; exact e16
      have f1_20_17_0 : k1 (20, 17, 0) = some (.inl (G.2 0, 120, .inl g2)) := by rw [hk1, h_cn _ _ (by simp)]; exact e17
      refine lv_aload_n X.1 X.2.1 dX4_polled_23 rfl (lv_at hl 0 rfl) ?_
      refine gf_X4_55 X hw f1_20_0_0 rfl dX4_polled_24 ?_
      refine lv_if_le (tgt := 32) X.1 X.2.1 dX4_polled_27 (by decide) (fun c27 => ?_) (fun c27 => ?_)
      · refine lv_iload_n X.1 X.2.1 dX4_polled_32 rfl (lv_at hl 2 rfl) ?_
        refine lv_if_ne (tgt := 45) X.1 X.2.1 dX4_polled_33 (by decide) (fun c33 => ?_) (fun c33 => ?_)
        · exact absurd (by decide) c33
        · refine lv_aload_n X.1 X.2.1 dX4_polled_36 rfl (lv_at hl 0 rfl) ?_
          refine gf_X4_39 X hw f1_20_0_0 rfl dX4_polled_37 ?_
          refine lv_iload_n X.1 X.2.1 dX4_polled_40 rfl (lv_at hl 1 rfl) ?_
          refine h_iald X hw f1_20_15_0 (vp_in_nI (by omega) (by decide)) dX4_polled_41 ?_
          refine h_tv (b := .int (g0 j)) (by rw [nI_clamp (by omega)]) ?_
          refine lv_goto (tgt := 74) X.1 X.2.1 dX4_polled_42 (by decide) ?_
          exact h_iretW X Y hw ⟨(by simp only [Option.map_some, Option.getD_some]; rw [← hv]; rfl), rfl, hM.obj f1_20_0_0 (fun t ht => by rw [hk1, h_cn _ _ ht]), fun t ht => by rw [hk1, h_cn _ _ (t_ne20 ht)]⟩ (Nat.zero_le _) (Nat.zero_le _) dX4_polled_74
      · exact absurd (by decide) c27
  by_cases w1 : w = 1
  · subst w1
    refine lv_aload_n X.1 X.2.1 dX4_polled_0 rfl (lv_at hl 0 rfl) ?_
    refine lv_iload_n X.1 X.2.1 dX4_polled_1 rfl (lv_at hl 1 rfl) ?_
    refine lv_iconst (v := 0) X.1 X.2.1 dX4_polled_2 (by decide) ?_
    refine lv_aload_n X.1 X.2.1 dX4_polled_3 rfl (lv_at hl 0 rfl) ?_
    refine gf_X4_96 X hw hx rfl dX4_polled_4 ?_
    refine lv_iconst (v := 1) X.1 X.2.1 dX4_polled_7 (by decide) ?_
    refine lv_isub X.1 X.2.1 dX4_polled_8 ?_
    refine h_callRS (As := [.int (nI j), .int 0, .int (nI (s_as σ).length - 1)]) (rest := [.ref (ad (20, 0, 0))]) X hw cs_X4_61 (c_X4_in l G (nI j) 0 (nI (s_as σ).length - 1)) rfl hl.1 rfl (Nat.le_of_ble_eq_true rfl) ⟨by decide, by decide⟩ ⟨Nat.zero_le _, Nat.zero_le _⟩ dX4_polled_9 ?_
    refine h_tv (b := .int 1) (by rw [in_ix (by omega), hn]; rfl) ?_
    refine lv_if_eq (tgt := 19) X.1 X.2.1 dX4_polled_12 (by decide) (fun c12 => ?_) (fun c12 => ?_)
    · exact absurd c12 (by decide)
    · refine lv_iconst (v := 0) X.1 X.2.1 dX4_polled_15 (by decide) ?_
      refine lv_goto (tgt := 20) X.1 X.2.1 dX4_polled_16 (by decide) ?_
      refine pf_X4_55 X hw hx rfl rfl (Nat.le_of_ble_eq_true rfl) dX4_polled_20 (fun H locs hw => ?_)
      obtain ⟨k1, hk1⟩ : ∃ zz, zz = h_cu k (20, 0, 0) (some (.inr (4, [.int 0, .int (nI (s_cop σ)), .int (nI (s_nS σ)), .ref (ad (20, 3, 0)), .ref (ad (20, 4, 0)), .ref (ad (20, 5, 0)), .ref (ad (20, 6, 0)), .int (nI (s_col σ).length), .ref (ad (20, 8, 0)), .int (nI (s_nF σ)), .ref (ad (20, 10, 0)), .ref (ad (20, 11, 0)), .ref (ad (20, 12, 0)), .ref (ad (20, 13, 0)), .int (nI (s_as σ).length), .ref (ad (20, 15, 0)), .ref (ad (20, 16, 0)), .ref (ad (20, 17, 0)), .ref (ad (20, 18, 0)), .int (s_dg σ)]))) := ⟨_, rfl⟩
      replace hw := h_W.ren hw hk1
      have f1_20_0_0 : k1 (20, 0, 0) = some (.inr (4, [.int 0, .int (nI (s_cop σ)), .int (nI (s_nS σ)), .ref (ad (20, 3, 0)), .ref (ad (20, 4, 0)), .ref (ad (20, 5, 0)), .ref (ad (20, 6, 0)), .int (nI (s_col σ).length), .ref (ad (20, 8, 0)), .int (nI (s_nF σ)), .ref (ad (20, 10, 0)), .ref (ad (20, 11, 0)), .ref (ad (20, 12, 0)), .ref (ad (20, 13, 0)), .int (nI (s_as σ).length), .ref (ad (20, 15, 0)), .ref (ad (20, 16, 0)), .ref (ad (20, 17, 0)), .ref (ad (20, 18, 0)), .int (s_dg σ)])) := by rw [hk1]; exact h_cs _ _ _
      have f1_20_15_0 : k1 (20, 15, 0) = some (.inl (G.2 0, 120, .inl g0)) := by rw [hk1, h_cn _ _ (by simp)]; exact e15
      have f1_20_16_0 : k1 (20, 16, 0) = some (.inl (G.2 0, 120, .inl g1)) := by rw [hk1, h_cn _ _ (by simp)]; exact e16
      have f1_20_17_0 : k1 (20, 17, 0) = some (.inl (G.2 0, 120, .inl g2)) := by rw [hk1, h_cn _ _ (by simp)]; exact e17
      refine lv_aload_n X.1 X.2.1 dX4_polled_23 rfl (lv_at hl 0 rfl) ?_
      refine gf_X4_55 X hw f1_20_0_0 rfl dX4_polled_24 ?_
      refine lv_if_le (tgt := 32) X.1 X.2.1 dX4_polled_27 (by decide) (fun c27 => ?_) (fun c27 => ?_)
      · refine lv_iload_n X.1 X.2.1 dX4_polled_32 rfl (lv_at hl 2 rfl) ?_
        refine lv_if_ne (tgt := 45) X.1 X.2.1 dX4_polled_33 (by decide) (fun c33 => ?_) (fun c33 => ?_)
        · refine lv_iload_n X.1 X.2.1 dX4_polled_45 rfl (lv_at hl 2 rfl) ?_
          refine lv_iconst (v := 1) X.1 X.2.1 dX4_polled_46 (by decide) ?_
          refine lv_icmp_ne (tgt := 59) X.1 X.2.1 dX4_polled_47 (by decide) (fun c47 => ?_) (fun c47 => ?_)
          · exact absurd (by decide) c47
          · refine lv_aload_n X.1 X.2.1 dX4_polled_50 rfl (lv_at hl 0 rfl) ?_
            refine gf_X4_42 X hw f1_20_0_0 rfl dX4_polled_51 ?_
            refine lv_iload_n X.1 X.2.1 dX4_polled_54 rfl (lv_at hl 1 rfl) ?_
            refine h_iald X hw f1_20_16_0 (vp_in_nI (by omega) (by decide)) dX4_polled_55 ?_
            refine h_tv (b := .int (g1 j)) (by rw [nI_clamp (by omega)]) ?_
            refine lv_goto (tgt := 74) X.1 X.2.1 dX4_polled_56 (by decide) ?_
            exact h_iretW X Y hw ⟨(by simp only [Option.map_some, Option.getD_some]; rw [← hv]; rfl), rfl, hM.obj f1_20_0_0 (fun t ht => by rw [hk1, h_cn _ _ ht]), fun t ht => by rw [hk1, h_cn _ _ (t_ne20 ht)]⟩ (Nat.zero_le _) (Nat.zero_le _) dX4_polled_74
        · exact absurd c33 (by decide)
      · exact absurd (by decide) c27
  by_cases w2 : w = 2
  · subst w2
    refine lv_aload_n X.1 X.2.1 dX4_polled_0 rfl (lv_at hl 0 rfl) ?_
    refine lv_iload_n X.1 X.2.1 dX4_polled_1 rfl (lv_at hl 1 rfl) ?_
    refine lv_iconst (v := 0) X.1 X.2.1 dX4_polled_2 (by decide) ?_
    refine lv_aload_n X.1 X.2.1 dX4_polled_3 rfl (lv_at hl 0 rfl) ?_
    refine gf_X4_96 X hw hx rfl dX4_polled_4 ?_
    refine lv_iconst (v := 1) X.1 X.2.1 dX4_polled_7 (by decide) ?_
    refine lv_isub X.1 X.2.1 dX4_polled_8 ?_
    refine h_callRS (As := [.int (nI j), .int 0, .int (nI (s_as σ).length - 1)]) (rest := [.ref (ad (20, 0, 0))]) X hw cs_X4_61 (c_X4_in l G (nI j) 0 (nI (s_as σ).length - 1)) rfl hl.1 rfl (Nat.le_of_ble_eq_true rfl) ⟨by decide, by decide⟩ ⟨Nat.zero_le _, Nat.zero_le _⟩ dX4_polled_9 ?_
    refine h_tv (b := .int 1) (by rw [in_ix (by omega), hn]; rfl) ?_
    refine lv_if_eq (tgt := 19) X.1 X.2.1 dX4_polled_12 (by decide) (fun c12 => ?_) (fun c12 => ?_)
    · exact absurd c12 (by decide)
    · refine lv_iconst (v := 0) X.1 X.2.1 dX4_polled_15 (by decide) ?_
      refine lv_goto (tgt := 20) X.1 X.2.1 dX4_polled_16 (by decide) ?_
      refine pf_X4_55 X hw hx rfl rfl (Nat.le_of_ble_eq_true rfl) dX4_polled_20 (fun H locs hw => ?_)
      obtain ⟨k1, hk1⟩ : ∃ zz, zz = h_cu k (20, 0, 0) (some (.inr (4, [.int 0, .int (nI (s_cop σ)), .int (nI (s_nS σ)), .ref (ad (20, 3, 0)), .ref (ad (20, 4, 0)), .ref (ad (20, 5, 0)), .ref (ad (20, 6, 0)), .int (nI (s_col σ).length), .ref (ad (20, 8, 0)), .int (nI (s_nF σ)), .ref (ad (20, 10, 0)), .ref (ad (20, 11, 0)), .ref (ad (20, 12, 0)), .ref (ad (20, 13, 0)), .int (nI (s_as σ).length), .ref (ad (20, 15, 0)), .ref (ad (20, 16, 0)), .ref (ad (20, 17, 0)), .ref (ad (20, 18, 0)), .int (s_dg σ)]))) := ⟨_, rfl⟩
      replace hw := h_W.ren hw hk1
      have f1_20_0_0 : k1 (20, 0, 0) = some (.inr (4, [.int 0, .int (nI (s_cop σ)), .int (nI (s_nS σ)), .ref (ad (20, 3, 0)), .ref (ad (20, 4, 0)), .ref (ad (20, 5, 0)), .ref (ad (20, 6, 0)), .int (nI (s_col σ).length), .ref (ad (20, 8, 0)), .int (nI (s_nF σ)), .ref (ad (20, 10, 0)), .ref (ad (20, 11, 0)), .ref (ad (20, 12, 0)), .ref (ad (20, 13, 0)), .int (nI (s_as σ).length), .ref (ad (20, 15, 0)), .ref (ad (20, 16, 0)), .ref (ad (20, 17, 0)), .ref (ad (20, 18, 0)), .int (s_dg σ)])) := by rw [hk1]; exact h_cs _ _ _
      have f1_20_15_0 : k1 (20, 15, 0) = some (.inl (G.2 0, 120, .inl g0)) := by rw [hk1, h_cn _ _ (by simp)]; exact e15
      have f1_20_16_0 : k1 (20, 16, 0) = some (.inl (G.2 0, 120, .inl g1)) := by rw [hk1, h_cn _ _ (by simp)]; exact e16
      have f1_20_17_0 : k1 (20, 17, 0) = some (.inl (G.2 0, 120, .inl g2)) := by rw [hk1, h_cn _ _ (by simp)]; exact e17
      refine lv_aload_n X.1 X.2.1 dX4_polled_23 rfl (lv_at hl 0 rfl) ?_
      refine gf_X4_55 X hw f1_20_0_0 rfl dX4_polled_24 ?_
      refine lv_if_le (tgt := 32) X.1 X.2.1 dX4_polled_27 (by decide) (fun c27 => ?_) (fun c27 => ?_)
      · refine lv_iload_n X.1 X.2.1 dX4_polled_32 rfl (lv_at hl 2 rfl) ?_
        refine lv_if_ne (tgt := 45) X.1 X.2.1 dX4_polled_33 (by decide) (fun c33 => ?_) (fun c33 => ?_)
        · refine lv_iload_n X.1 X.2.1 dX4_polled_45 rfl (lv_at hl 2 rfl) ?_
          refine lv_iconst (v := 1) X.1 X.2.1 dX4_polled_46 (by decide) ?_
          refine lv_icmp_ne (tgt := 59) X.1 X.2.1 dX4_polled_47 (by decide) (fun c47 => ?_) (fun c47 => ?_)
          · refine lv_iload_n X.1 X.2.1 dX4_polled_59 rfl (lv_at hl 2 rfl) ?_
            refine lv_iconst (v := 2) X.1 X.2.1 dX4_polled_60 (by decide) ?_
            refine lv_icmp_ne (tgt := 73) X.1 X.2.1 dX4_polled_61 (by decide) (fun c61 => ?_) (fun c61 => ?_)
            · exact absurd (by decide) c61
            · refine lv_aload_n X.1 X.2.1 dX4_polled_64 rfl (lv_at hl 0 rfl) ?_
              refine gf_X4_45 X hw f1_20_0_0 rfl dX4_polled_65 ?_
              refine lv_iload_n X.1 X.2.1 dX4_polled_68 rfl (lv_at hl 1 rfl) ?_
              refine h_iald X hw f1_20_17_0 (vp_in_nI (by omega) (by decide)) dX4_polled_69 ?_
              refine h_tv (b := .int (g2 j)) (by rw [nI_clamp (by omega)]) ?_
              refine lv_goto (tgt := 74) X.1 X.2.1 dX4_polled_70 (by decide) ?_
              exact h_iretW X Y hw ⟨(by simp only [Option.map_some, Option.getD_some]; rw [← hv]; rfl), rfl, hM.obj f1_20_0_0 (fun t ht => by rw [hk1, h_cn _ _ ht]), fun t ht => by rw [hk1, h_cn _ _ (t_ne20 ht)]⟩ (Nat.zero_le _) (Nat.zero_le _) dX4_polled_74
          · exact absurd c47 (by decide)
        · exact absurd c33 (by decide)
      · exact absurd (by decide) c27
  refine lv_aload_n X.1 X.2.1 dX4_polled_0 rfl (lv_at hl 0 rfl) ?_
  refine lv_iload_n X.1 X.2.1 dX4_polled_1 rfl (lv_at hl 1 rfl) ?_
  refine lv_iconst (v := 0) X.1 X.2.1 dX4_polled_2 (by decide) ?_
  refine lv_aload_n X.1 X.2.1 dX4_polled_3 rfl (lv_at hl 0 rfl) ?_
  refine gf_X4_96 X hw hx rfl dX4_polled_4 ?_
  refine lv_iconst (v := 1) X.1 X.2.1 dX4_polled_7 (by decide) ?_
  refine lv_isub X.1 X.2.1 dX4_polled_8 ?_
  refine h_callRS (As := [.int (nI j), .int 0, .int (nI (s_as σ).length - 1)]) (rest := [.ref (ad (20, 0, 0))]) X hw cs_X4_61 (c_X4_in l G (nI j) 0 (nI (s_as σ).length - 1)) rfl hl.1 rfl (Nat.le_of_ble_eq_true rfl) ⟨by decide, by decide⟩ ⟨Nat.zero_le _, Nat.zero_le _⟩ dX4_polled_9 ?_
  refine h_tv (b := .int 1) (by rw [in_ix (by omega), hn]; rfl) ?_
  refine lv_if_eq (tgt := 19) X.1 X.2.1 dX4_polled_12 (by decide) (fun c12 => ?_) (fun c12 => ?_)
  · exact absurd c12 (by decide)
  · refine lv_iconst (v := 0) X.1 X.2.1 dX4_polled_15 (by decide) ?_
    refine lv_goto (tgt := 20) X.1 X.2.1 dX4_polled_16 (by decide) ?_
    refine pf_X4_55 X hw hx rfl rfl (Nat.le_of_ble_eq_true rfl) dX4_polled_20 (fun H locs hw => ?_)
    obtain ⟨k1, hk1⟩ : ∃ zz, zz = h_cu k (20, 0, 0) (some (.inr (4, [.int 0, .int (nI (s_cop σ)), .int (nI (s_nS σ)), .ref (ad (20, 3, 0)), .ref (ad (20, 4, 0)), .ref (ad (20, 5, 0)), .ref (ad (20, 6, 0)), .int (nI (s_col σ).length), .ref (ad (20, 8, 0)), .int (nI (s_nF σ)), .ref (ad (20, 10, 0)), .ref (ad (20, 11, 0)), .ref (ad (20, 12, 0)), .ref (ad (20, 13, 0)), .int (nI (s_as σ).length), .ref (ad (20, 15, 0)), .ref (ad (20, 16, 0)), .ref (ad (20, 17, 0)), .ref (ad (20, 18, 0)), .int (s_dg σ)]))) := ⟨_, rfl⟩
    replace hw := h_W.ren hw hk1
    have f1_20_0_0 : k1 (20, 0, 0) = some (.inr (4, [.int 0, .int (nI (s_cop σ)), .int (nI (s_nS σ)), .ref (ad (20, 3, 0)), .ref (ad (20, 4, 0)), .ref (ad (20, 5, 0)), .ref (ad (20, 6, 0)), .int (nI (s_col σ).length), .ref (ad (20, 8, 0)), .int (nI (s_nF σ)), .ref (ad (20, 10, 0)), .ref (ad (20, 11, 0)), .ref (ad (20, 12, 0)), .ref (ad (20, 13, 0)), .int (nI (s_as σ).length), .ref (ad (20, 15, 0)), .ref (ad (20, 16, 0)), .ref (ad (20, 17, 0)), .ref (ad (20, 18, 0)), .int (s_dg σ)])) := by rw [hk1]; exact h_cs _ _ _
    have f1_20_15_0 : k1 (20, 15, 0) = some (.inl (G.2 0, 120, .inl g0)) := by rw [hk1, h_cn _ _ (by simp)]; exact e15
    have f1_20_16_0 : k1 (20, 16, 0) = some (.inl (G.2 0, 120, .inl g1)) := by rw [hk1, h_cn _ _ (by simp)]; exact e16
    have f1_20_17_0 : k1 (20, 17, 0) = some (.inl (G.2 0, 120, .inl g2)) := by rw [hk1, h_cn _ _ (by simp)]; exact e17
    refine lv_aload_n X.1 X.2.1 dX4_polled_23 rfl (lv_at hl 0 rfl) ?_
    refine gf_X4_55 X hw f1_20_0_0 rfl dX4_polled_24 ?_
    refine lv_if_le (tgt := 32) X.1 X.2.1 dX4_polled_27 (by decide) (fun c27 => ?_) (fun c27 => ?_)
    · refine lv_iload_n X.1 X.2.1 dX4_polled_32 rfl (lv_at hl 2 rfl) ?_
      refine lv_if_ne (tgt := 45) X.1 X.2.1 dX4_polled_33 (by decide) (fun c33 => ?_) (fun c33 => ?_)
      · refine lv_iload_n X.1 X.2.1 dX4_polled_45 rfl (lv_at hl 2 rfl) ?_
        refine lv_iconst (v := 1) X.1 X.2.1 dX4_polled_46 (by decide) ?_
        refine lv_icmp_ne (tgt := 59) X.1 X.2.1 dX4_polled_47 (by decide) (fun c47 => ?_) (fun c47 => ?_)
        · refine lv_iload_n X.1 X.2.1 dX4_polled_59 rfl (lv_at hl 2 rfl) ?_
          refine lv_iconst (v := 2) X.1 X.2.1 dX4_polled_60 (by decide) ?_
          refine lv_icmp_ne (tgt := 73) X.1 X.2.1 dX4_polled_61 (by decide) (fun c61 => ?_) (fun c61 => ?_)
          · refine lv_iconst (v := (-1)) X.1 X.2.1 dX4_polled_73 (by decide) ?_
            exact h_iretW X Y hw ⟨(by simp only [Option.map_some, Option.getD_some, if_neg w0, if_neg w1, if_neg w2]), rfl, hM.obj f1_20_0_0 (fun t ht => by rw [hk1, h_cn _ _ ht]), fun t ht => by rw [hk1, h_cn _ _ (t_ne20 ht)]⟩ (Nat.zero_le _) (Nat.zero_le _) dX4_polled_74
          · exact absurd c61 w2
        · exact absurd c47 w1
      · exact absurd c33 w0
    · exact absurd (by decide) c27
set_option maxHeartbeats 4000000 in
set_option maxRecDepth 100000 in
/-- store -/
theorem c_X4_store (l : Launch) (G : h_G) {ad : h_T → Nat} {k : h_C} {σ : S_t} {th : Int32} (hM : RM G ad k σ th) (x : Int32) : h_Wr l yX4_store cX4_store 3 (some .int) 1 22 0 0 G ad k [.ref (ad (20, 0, 0)), .int x] (MPost G ad k (some (.int (sp_store σ x).1)) (sp_store σ x).2 0) := by
  refine h_wr (by decide +kernel) (Nat.le_of_ble_eq_true rfl) ?_
  intro p e s m args below meth c X Y hw ls hl
  have hl : lv_has ls 3 [(0, .ref (ad (20, 0, 0))), (1, .int x)] := hl
  unfold sp_store
  have hok := hM.ok
  have hnS : s_nS σ ≤ 10 := hok.2.1
  have hnF : s_nF σ ≤ 40 := hok.2.2.1
  have hx : k (20, 0, 0) = some (.inr (4, [.int th, .int (nI (s_cop σ)), .int (nI (s_nS σ)), .ref (ad (20, 3, 0)), .ref (ad (20, 4, 0)), .ref (ad (20, 5, 0)), .ref (ad (20, 6, 0)), .int (nI (s_col σ).length), .ref (ad (20, 8, 0)), .int (nI (s_nF σ)), .ref (ad (20, 10, 0)), .ref (ad (20, 11, 0)), .ref (ad (20, 12, 0)), .ref (ad (20, 13, 0)), .int (nI (s_as σ).length), .ref (ad (20, 15, 0)), .ref (ad (20, 16, 0)), .ref (ad (20, 17, 0)), .ref (ad (20, 18, 0)), .int (s_dg σ)])) := hM.1
  refine lv_aload_n X.1 X.2.1 dX4_store_0 rfl (lv_at hl 0 rfl) ?_
  refine lv_iconst (v := 0) X.1 X.2.1 dX4_store_1 (by decide) ?_
  refine pf_X4_55 X hw hx rfl rfl (Nat.le_of_ble_eq_true rfl) dX4_store_2 (fun H locs hw => ?_)
  obtain ⟨k1, hk1⟩ : ∃ zz, zz = h_cu k (20, 0, 0) (some (.inr (4, [.int 0, .int (nI (s_cop σ)), .int (nI (s_nS σ)), .ref (ad (20, 3, 0)), .ref (ad (20, 4, 0)), .ref (ad (20, 5, 0)), .ref (ad (20, 6, 0)), .int (nI (s_col σ).length), .ref (ad (20, 8, 0)), .int (nI (s_nF σ)), .ref (ad (20, 10, 0)), .ref (ad (20, 11, 0)), .ref (ad (20, 12, 0)), .ref (ad (20, 13, 0)), .int (nI (s_as σ).length), .ref (ad (20, 15, 0)), .ref (ad (20, 16, 0)), .ref (ad (20, 17, 0)), .ref (ad (20, 18, 0)), .int (s_dg σ)]))) := ⟨_, rfl⟩
  replace hw := h_W.ren hw hk1
  have f1_20_0_0 : k1 (20, 0, 0) = some (.inr (4, [.int 0, .int (nI (s_cop σ)), .int (nI (s_nS σ)), .ref (ad (20, 3, 0)), .ref (ad (20, 4, 0)), .ref (ad (20, 5, 0)), .ref (ad (20, 6, 0)), .int (nI (s_col σ).length), .ref (ad (20, 8, 0)), .int (nI (s_nF σ)), .ref (ad (20, 10, 0)), .ref (ad (20, 11, 0)), .ref (ad (20, 12, 0)), .ref (ad (20, 13, 0)), .int (nI (s_as σ).length), .ref (ad (20, 15, 0)), .ref (ad (20, 16, 0)), .ref (ad (20, 17, 0)), .ref (ad (20, 18, 0)), .int (s_dg σ)])) := by rw [hk1]; exact h_cs _ _ _
  have hM1 : RM G ad k1 σ 0 := hM.obj f1_20_0_0 (fun t ht => by rw [hk1, h_cn _ _ ht])
  obtain ⟨hx, ⟨gP, eP, vP⟩, ⟨gS, eS, vS⟩, ⟨gU, eU, vU⟩, ⟨gD, eD, vD⟩, ⟨gA, eA, vA⟩, ⟨gK, eK, vK⟩, ⟨gN, eN, vN⟩, ⟨gZ, eZ, vZ⟩, ⟨gB, eB, vB⟩, ⟨g0, g1, g2, e15, e16, e17, v3⟩, ⟨gM, eM⟩, -⟩ := id hM1
  have hx : k1 (20, 0, 0) = some (.inr (4, [.int 0, .int (nI (s_cop σ)), .int (nI (s_nS σ)), .ref (ad (20, 3, 0)), .ref (ad (20, 4, 0)), .ref (ad (20, 5, 0)), .ref (ad (20, 6, 0)), .int (nI (s_col σ).length), .ref (ad (20, 8, 0)), .int (nI (s_nF σ)), .ref (ad (20, 10, 0)), .ref (ad (20, 11, 0)), .ref (ad (20, 12, 0)), .ref (ad (20, 13, 0)), .int (nI (s_as σ).length), .ref (ad (20, 15, 0)), .ref (ad (20, 16, 0)), .ref (ad (20, 17, 0)), .ref (ad (20, 18, 0)), .int (s_dg σ)])) := hx
  rcases hp : ix x 10 with _ | p9
  · rw [if_pos (show (none : Option Nat).isNone = true from rfl)]
    refine lv_iload_n X.1 X.2.1 dX4_store_5 rfl (lv_at hl 1 rfl) ?_
    refine lv_iconst (v := 0) X.1 X.2.1 dX4_store_6 (by decide) ?_
    refine lv_bipush (v := 9) X.1 X.2.1 dX4_store_7 (by decide) ?_
    refine h_callRS (As := [.int x, .int 0, .int 9]) (rest := []) X hw cs_X4_61 (c_X4_in l G x 0 9) rfl hl.1 rfl (Nat.le_of_ble_eq_true rfl) ⟨by decide, by decide⟩ ⟨Nat.zero_le _, Nat.zero_le _⟩ dX4_store_9 ?_
    refine h_tv (b := .int 0) (by rw [show (9 : Int32) = nI 10 - 1 from by decide, in_ix (by decide), hp]; rfl) ?_
    refine lv_if_ne (tgt := 18) X.1 X.2.1 dX4_store_12 (by decide) (fun c12 => ?_) (fun c12 => ?_)
    · exact absurd (by decide) c12
    · refine lv_bipush (v := (-2)) X.1 X.2.1 dX4_store_15 (by decide) ?_
      exact h_iretW X Y hw ⟨rfl, rfl, hM1, fun t ht => by rw [hk1, h_cn _ _ (t_ne20 ht)]⟩ (Nat.zero_le _) (Nat.zero_le _) dX4_store_17
  rw [if_neg (show ¬ (some p9 : Option Nat).isNone = true from fun q => by cases q)]
  have loop : ∀ (n i : Nat), i ≤ s_nS σ → s_nS σ + 1 ≤ i + n → (∀ a, a < i → decide (s_pl σ a = x) = false) → ∀ (ls : Array Slot), lv_has ls 3 [(0, .ref (ad (20, 0, 0))), (1, .int x), (2, .int (nI i))] → W p l e (h_rm 1 22 0 0) s m args below meth c H locs 0 0 (MQ below (h_Qw G ad k s.heap.size (MPost G ad k (some (.int (if (ff (fun s => decide (s_pl σ s = x)) (s_nS σ)).isSome then (-3, σ) else if 10 ≤ s_nS σ then (-4, σ) else (nI (s_nS σ), s_addS σ x)).1)) (if (ff (fun s => decide (s_pl σ s = x)) (s_nS σ)).isSome then (-3, σ) else if 10 ≤ s_nS σ then (-4, σ) else (nI (s_nS σ), s_addS σ x)).2 0)) args s 0 0 (h_A ad k s.heap.size)) (F0 m 20 ls []) := by
    intro n
    induction n with
    | zero =>
      intro i h1 h2
      exact absurd h2 (by omega)
    | succ n ih =>
      intro i hii hni hmi ls hl
      refine lv_iload_n X.1 X.2.1 dX4_store_20 rfl (lv_at hl 2 rfl) ?_
      refine lv_aload_n X.1 X.2.1 dX4_store_21 rfl (lv_at hl 0 rfl) ?_
      refine gf_X4_58 X hw hx rfl dX4_store_22 ?_
      refine lv_icmp_ge (tgt := 47) X.1 X.2.1 dX4_store_25 (by decide) (fun c25 => ?_) (fun c25 => ?_)
      · obtain rfl : i = s_nS σ := Nat.le_antisymm hii (Nat.le_of_not_lt (fun q => absurd c25 (nI_ge (b := s_nS σ) q (by omega))))
        refine lv_aload_n X.1 X.2.1 dX4_store_47 rfl (lv_at hl 0 rfl) ?_
        refine gf_X4_58 X hw hx rfl dX4_store_48 ?_
        refine lv_bipush (v := 10) X.1 X.2.1 dX4_store_51 (by decide) ?_
        refine lv_icmp_ne (tgt := 59) X.1 X.2.1 dX4_store_53 (by decide) (fun c53 => ?_) (fun c53 => ?_)
        · refine lv_aload_n X.1 X.2.1 dX4_store_59 rfl (lv_at hl 0 rfl) ?_
          refine gf_X4_7 X hw hx rfl dX4_store_60 ?_
          refine lv_aload_n X.1 X.2.1 dX4_store_63 rfl (lv_at hl 0 rfl) ?_
          refine gf_X4_58 X hw hx rfl dX4_store_64 ?_
          refine lv_iload_n X.1 X.2.1 dX4_store_67 rfl (lv_at hl 1 rfl) ?_
          refine h_iast X hw eP (vp_in_nI (show s_nS σ < 10 from Nat.lt_of_le_of_ne hnS (fun q => c53 (by rw [q]; rfl))) (by decide)) dX4_store_68 (fun H locs hw => ?_)
          obtain ⟨k2, hk2⟩ : ∃ zz, zz = h_cu k1 (20, 3, 0) (some (.inl (G.2 0, 10, .inl (upd gP (nI (s_nS σ)).toNatClampNeg x)))) := ⟨_, rfl⟩
          replace hw := h_W.ren hw hk2
          have f2_20_0_0 : k2 (20, 0, 0) = some (.inr (4, [.int 0, .int (nI (s_cop σ)), .int (nI (s_nS σ)), .ref (ad (20, 3, 0)), .ref (ad (20, 4, 0)), .ref (ad (20, 5, 0)), .ref (ad (20, 6, 0)), .int (nI (s_col σ).length), .ref (ad (20, 8, 0)), .int (nI (s_nF σ)), .ref (ad (20, 10, 0)), .ref (ad (20, 11, 0)), .ref (ad (20, 12, 0)), .ref (ad (20, 13, 0)), .int (nI (s_as σ).length), .ref (ad (20, 15, 0)), .ref (ad (20, 16, 0)), .ref (ad (20, 17, 0)), .ref (ad (20, 18, 0)), .int (s_dg σ)])) := by rw [hk2, h_cn _ _ (by simp)]; exact hx
          have f2_20_3_0 : k2 (20, 3, 0) = some (.inl (G.2 0, 10, .inl (upd gP (nI (s_nS σ)).toNatClampNeg x))) := by rw [hk2]; exact h_cs _ _ _
          refine lv_aload_n X.1 X.2.1 dX4_store_69 rfl (lv_at hl 0 rfl) ?_
          refine lv_dup X.1 X.2.1 dX4_store_70 rfl ?_
          refine gf_X4_58 X hw f2_20_0_0 rfl dX4_store_71 ?_
          refine lv_iconst (v := 1) X.1 X.2.1 dX4_store_74 (by decide) ?_
          refine lv_iadd X.1 X.2.1 dX4_store_75 ?_
          refine h_ti (b := nI ((s_nS σ) + 1)) (nI_add (s_nS σ) 1) ?_
          refine pf_X4_58 X hw f2_20_0_0 rfl rfl (Nat.le_of_ble_eq_true rfl) dX4_store_76 (fun H locs hw => ?_)
          obtain ⟨k3, hk3⟩ : ∃ zz, zz = h_cu k2 (20, 0, 0) (some (.inr (4, [.int 0, .int (nI (s_cop σ)), .int (nI ((s_nS σ) + 1)), .ref (ad (20, 3, 0)), .ref (ad (20, 4, 0)), .ref (ad (20, 5, 0)), .ref (ad (20, 6, 0)), .int (nI (s_col σ).length), .ref (ad (20, 8, 0)), .int (nI (s_nF σ)), .ref (ad (20, 10, 0)), .ref (ad (20, 11, 0)), .ref (ad (20, 12, 0)), .ref (ad (20, 13, 0)), .int (nI (s_as σ).length), .ref (ad (20, 15, 0)), .ref (ad (20, 16, 0)), .ref (ad (20, 17, 0)), .ref (ad (20, 18, 0)), .int (s_dg σ)]))) := ⟨_, rfl⟩
          replace hw := h_W.ren hw hk3
          have f3_20_0_0 : k3 (20, 0, 0) = some (.inr (4, [.int 0, .int (nI (s_cop σ)), .int (nI ((s_nS σ) + 1)), .ref (ad (20, 3, 0)), .ref (ad (20, 4, 0)), .ref (ad (20, 5, 0)), .ref (ad (20, 6, 0)), .int (nI (s_col σ).length), .ref (ad (20, 8, 0)), .int (nI (s_nF σ)), .ref (ad (20, 10, 0)), .ref (ad (20, 11, 0)), .ref (ad (20, 12, 0)), .ref (ad (20, 13, 0)), .int (nI (s_as σ).length), .ref (ad (20, 15, 0)), .ref (ad (20, 16, 0)), .ref (ad (20, 17, 0)), .ref (ad (20, 18, 0)), .int (s_dg σ)])) := by rw [hk3]; exact h_cs _ _ _
          have f3_20_3_0 : k3 (20, 3, 0) = some (.inl (G.2 0, 10, .inl (upd gP (nI (s_nS σ)).toNatClampNeg x))) := by rw [hk3, h_cn _ _ (by simp)]; exact f2_20_3_0
          refine lv_aload_n X.1 X.2.1 dX4_store_79 rfl (lv_at hl 0 rfl) ?_
          refine gf_X4_58 X hw f3_20_0_0 rfl dX4_store_80 ?_
          refine lv_iconst (v := 1) X.1 X.2.1 dX4_store_83 (by decide) ?_
          refine lv_isub X.1 X.2.1 dX4_store_84 ?_
          have h10 : s_nS σ < 10 := Nat.lt_of_le_of_ne hnS (fun q => c53 (by rw [q]; rfl))
          rw [if_neg (show ¬ (ff (fun s => decide (s_pl σ s = x)) (s_nS σ)).isSome = true by rw [ff_miss hmi]; exact fun q => by cases q), if_neg (by omega)]
          have hO : ∀ t : h_T, t ≠ (20, 0, 0) → t ≠ (20, 3, 0) → k3 t = k1 t := fun t n0 n1 => by rw [hk3, h_cn _ _ n0, hk2, h_cn _ _ n1]
          exact h_iretW X Y hw ⟨congrArg (fun z => some (Value.int z)) (nI_pred _), rfl, ⟨f3_20_0_0, ⟨_, f3_20_3_0, fun s hs => by
            have hs : s < s_nS σ + 1 := hs
            rw [nI_clamp (by omega)]
            show _ = upd (s_pl σ) (s_nS σ) x s
            by_cases q : s = s_nS σ
            · rw [q, pk_us, pk_us]
            · rw [pk_un q, pk_un q]; exact vP s (by omega)⟩, ⟨gS, (hO (20, 4, 0) (by simp) (by simp)).trans eS, vS⟩, ⟨gU, (hO (20, 5, 0) (by simp) (by simp)).trans eU, vU⟩, ⟨gD, (hO (20, 6, 0) (by simp) (by simp)).trans eD, vD⟩, ⟨gA, (hO (20, 8, 0) (by simp) (by simp)).trans eA, vA⟩, ⟨gK, (hO (20, 10, 0) (by simp) (by simp)).trans eK, vK⟩, ⟨gN, (hO (20, 11, 0) (by simp) (by simp)).trans eN, vN⟩, ⟨gZ, (hO (20, 12, 0) (by simp) (by simp)).trans eZ, vZ⟩, ⟨gB, (hO (20, 13, 0) (by simp) (by simp)).trans eB, vB⟩, ⟨g0, g1, g2, (hO (20, 15, 0) (by simp) (by simp)).trans e15, (hO (20, 16, 0) (by simp) (by simp)).trans e16, (hO (20, 17, 0) (by simp) (by simp)).trans e17, v3⟩, ⟨gM, (hO (20, 18, 0) (by simp) (by simp)).trans eM⟩, ⟨hok.1, by show s_nS σ + 1 ≤ 10; omega, hok.2.2.1, hok.2.2.2.1, hok.2.2.2.2.1, fun a b q => hok.2.2.2.2.2.1 a b (q.elim (fun z => Or.inl (by have z : s_nS σ + 1 ≤ a := z; omega)) Or.inr), hok.2.2.2.2.2.2.1, fun a z => hok.2.2.2.2.2.2.2.1 a (by have z : s_nS σ + 1 ≤ a := z; omega), hok.2.2.2.2.2.2.2.2⟩⟩, fun t ht => by rw [hO t (t_ne20 ht) (t_ne20 ht), hk1, h_cn _ _ (t_ne20 ht)]⟩ (Nat.zero_le _) (Nat.zero_le _) dX4_store_85
        · refine lv_bipush (v := (-4)) X.1 X.2.1 dX4_store_56 (by decide) ?_
          rw [if_neg (show ¬ (ff (fun s => decide (s_pl σ s = x)) (s_nS σ)).isSome = true by rw [ff_miss hmi]; exact fun q => by cases q), if_pos (Nat.le_of_eq ((nI_eq (b := 10) (by omega) (by omega)).mp c53).symm)]
          exact h_iretW X Y hw ⟨rfl, rfl, hM1, fun t ht => by rw [hk1, h_cn _ _ (t_ne20 ht)]⟩ (Nat.zero_le _) (Nat.zero_le _) dX4_store_58
      · have hib : i < s_nS σ := Nat.lt_of_not_le (fun q => c25 (nI_le q (by omega)))
        refine lv_aload_n X.1 X.2.1 dX4_store_28 rfl (lv_at hl 0 rfl) ?_
        refine gf_X4_7 X hw hx rfl dX4_store_29 ?_
        refine lv_iload_n X.1 X.2.1 dX4_store_32 rfl (lv_at hl 2 rfl) ?_
        refine h_iald X hw eP (vp_in_nI (by omega) (by decide)) dX4_store_33 ?_
        refine h_tv (b := .int (s_pl σ i)) (by rw [nI_clamp (by omega), vP i hib]) ?_
        refine lv_iload_n X.1 X.2.1 dX4_store_34 rfl (lv_at hl 1 rfl) ?_
        refine lv_icmp_ne (tgt := 41) X.1 X.2.1 dX4_store_35 (by decide) (fun c35 => ?_) (fun c35 => ?_)
        · refine lv_iinc (v := nI (i + 1)) (lv' := [(2, .int (nI (i + 1))), (0, .ref (ad (20, 0, 0))), (1, .int x)]) X.1 X.2.1 dX4_store_41 hl (k := 2) rfl (nI_1 _) (by decide) rfl (fun ls hl => ?_)
          refine lv_goto (tgt := 20) X.1 X.2.1 dX4_store_44 (by decide) ?_
          exact ih (i + 1) (by omega) (by omega) (nlt_s hmi (decide_eq_false c35)) ls (lv_sub hl [1, 2, 0] rfl)
        · refine lv_bipush (v := (-3)) X.1 X.2.1 dX4_store_38 (by decide) ?_
          rw [if_pos (show (ff (fun s => decide (s_pl σ s = x)) (s_nS σ)).isSome = true by rw [ff_hit hmi (decide_eq_true c35) hib]; rfl)]
          exact h_iretW X Y hw ⟨rfl, rfl, hM1, fun t ht => by rw [hk1, h_cn _ _ (t_ne20 ht)]⟩ (Nat.zero_le _) (Nat.zero_le _) dX4_store_40
  refine lv_iload_n X.1 X.2.1 dX4_store_5 rfl (lv_at hl 1 rfl) ?_
  refine lv_iconst (v := 0) X.1 X.2.1 dX4_store_6 (by decide) ?_
  refine lv_bipush (v := 9) X.1 X.2.1 dX4_store_7 (by decide) ?_
  refine h_callRS (As := [.int x, .int 0, .int 9]) (rest := []) X hw cs_X4_61 (c_X4_in l G x 0 9) rfl hl.1 rfl (Nat.le_of_ble_eq_true rfl) ⟨by decide, by decide⟩ ⟨Nat.zero_le _, Nat.zero_le _⟩ dX4_store_9 ?_
  refine h_tv (b := .int 1) (by rw [show (9 : Int32) = nI 10 - 1 from by decide, in_ix (by decide), hp]; rfl) ?_
  refine lv_if_ne (tgt := 18) X.1 X.2.1 dX4_store_12 (by decide) (fun c12 => ?_) (fun c12 => ?_)
  · refine lv_iconst (v := 0) X.1 X.2.1 dX4_store_18 (by decide) ?_
    refine lv_istore_n (lv' := [(2, .int 0), (0, .ref (ad (20, 0, 0))), (1, .int x)]) X.1 X.2.1 dX4_store_19 rfl hl (by decide) rfl (fun ls hl => ?_)
    exact loop (s_nS σ + 1) 0 (by omega) (by omega) (fun a ha => absurd ha (Nat.not_lt_zero a)) ls (lv_sub hl [1, 2, 0] rfl)
  · exact absurd c12 (by decide)
set_option maxHeartbeats 4000000 in
set_option maxRecDepth 100000 in
/-- octet -/
theorem c_X4_octet (l : Launch) (G : h_G) {ad : h_T → Nat} {k : h_C} {σ : S_t} {th : Int32} (hM : RM G ad k σ th) (x : Int32) : h_Wr l yX4_octet cX4_octet 2 none 0 0 0 0 G ad k [.ref (ad (20, 0, 0)), .int x] (MPost G ad k none (sp_octet σ x) 0) := by
  refine h_wr (by decide +kernel) (Nat.le_of_ble_eq_true rfl) ?_
  intro p e s m args below meth c X Y hw ls hl
  have hl : lv_has ls 2 [(0, .ref (ad (20, 0, 0))), (1, .int x)] := hl
  unfold sp_octet
  have hok := hM.ok
  have hnS : s_nS σ ≤ 10 := hok.2.1
  have hnF : s_nF σ ≤ 40 := hok.2.2.1
  have hx : k (20, 0, 0) = some (.inr (4, [.int th, .int (nI (s_cop σ)), .int (nI (s_nS σ)), .ref (ad (20, 3, 0)), .ref (ad (20, 4, 0)), .ref (ad (20, 5, 0)), .ref (ad (20, 6, 0)), .int (nI (s_col σ).length), .ref (ad (20, 8, 0)), .int (nI (s_nF σ)), .ref (ad (20, 10, 0)), .ref (ad (20, 11, 0)), .ref (ad (20, 12, 0)), .ref (ad (20, 13, 0)), .int (nI (s_as σ).length), .ref (ad (20, 15, 0)), .ref (ad (20, 16, 0)), .ref (ad (20, 17, 0)), .ref (ad (20, 18, 0)), .int (s_dg σ)])) := hM.1
  refine lv_aload_n X.1 X.2.1 dX4_octet_0 rfl (lv_at hl 0 rfl) ?_
  refine lv_iconst (v := 0) X.1 X.2.1 dX4_octet_1 (by decide) ?_
  refine pf_X4_55 X hw hx rfl rfl (Nat.le_of_ble_eq_true rfl) dX4_octet_2 (fun H locs hw => ?_)
  obtain ⟨k1, hk1⟩ : ∃ zz, zz = h_cu k (20, 0, 0) (some (.inr (4, [.int 0, .int (nI (s_cop σ)), .int (nI (s_nS σ)), .ref (ad (20, 3, 0)), .ref (ad (20, 4, 0)), .ref (ad (20, 5, 0)), .ref (ad (20, 6, 0)), .int (nI (s_col σ).length), .ref (ad (20, 8, 0)), .int (nI (s_nF σ)), .ref (ad (20, 10, 0)), .ref (ad (20, 11, 0)), .ref (ad (20, 12, 0)), .ref (ad (20, 13, 0)), .int (nI (s_as σ).length), .ref (ad (20, 15, 0)), .ref (ad (20, 16, 0)), .ref (ad (20, 17, 0)), .ref (ad (20, 18, 0)), .int (s_dg σ)]))) := ⟨_, rfl⟩
  replace hw := h_W.ren hw hk1
  have f1_20_0_0 : k1 (20, 0, 0) = some (.inr (4, [.int 0, .int (nI (s_cop σ)), .int (nI (s_nS σ)), .ref (ad (20, 3, 0)), .ref (ad (20, 4, 0)), .ref (ad (20, 5, 0)), .ref (ad (20, 6, 0)), .int (nI (s_col σ).length), .ref (ad (20, 8, 0)), .int (nI (s_nF σ)), .ref (ad (20, 10, 0)), .ref (ad (20, 11, 0)), .ref (ad (20, 12, 0)), .ref (ad (20, 13, 0)), .int (nI (s_as σ).length), .ref (ad (20, 15, 0)), .ref (ad (20, 16, 0)), .ref (ad (20, 17, 0)), .ref (ad (20, 18, 0)), .int (s_dg σ)])) := by rw [hk1]; exact h_cs _ _ _
  have hM1 : RM G ad k1 σ 0 := hM.obj f1_20_0_0 (fun t ht => by rw [hk1, h_cn _ _ ht])
  obtain ⟨hx, ⟨gP, eP, vP⟩, ⟨gS, eS, vS⟩, ⟨gU, eU, vU⟩, ⟨gD, eD, vD⟩, ⟨gA, eA, vA⟩, ⟨gK, eK, vK⟩, ⟨gN, eN, vN⟩, ⟨gZ, eZ, vZ⟩, ⟨gB, eB, vB⟩, ⟨g0, g1, g2, e15, e16, e17, v3⟩, ⟨gM, eM⟩, -⟩ := id hM1
  have hx : k1 (20, 0, 0) = some (.inr (4, [.int 0, .int (nI (s_cop σ)), .int (nI (s_nS σ)), .ref (ad (20, 3, 0)), .ref (ad (20, 4, 0)), .ref (ad (20, 5, 0)), .ref (ad (20, 6, 0)), .int (nI (s_col σ).length), .ref (ad (20, 8, 0)), .int (nI (s_nF σ)), .ref (ad (20, 10, 0)), .ref (ad (20, 11, 0)), .ref (ad (20, 12, 0)), .ref (ad (20, 13, 0)), .int (nI (s_as σ).length), .ref (ad (20, 15, 0)), .ref (ad (20, 16, 0)), .ref (ad (20, 17, 0)), .ref (ad (20, 18, 0)), .int (s_dg σ)])) := hx
  have hcl : (s_col σ).length ≤ 16 := hok.2.2.2.1
  refine lv_aload_n X.1 X.2.1 dX4_octet_5 rfl (lv_at hl 0 rfl) ?_
  refine gf_X4_79 X hw hx rfl dX4_octet_6 ?_
  refine lv_bipush (v := 16) X.1 X.2.1 dX4_octet_9 (by decide) ?_
  refine lv_icmp_ne (tgt := 15) X.1 X.2.1 dX4_octet_11 (by decide) (fun c11 => ?_) (fun c11 => ?_)
  · refine lv_aload_n X.1 X.2.1 dX4_octet_15 rfl (lv_at hl 0 rfl) ?_
    refine gf_X4_23 X hw hx rfl dX4_octet_16 ?_
    refine lv_aload_n X.1 X.2.1 dX4_octet_19 rfl (lv_at hl 0 rfl) ?_
    refine gf_X4_79 X hw hx rfl dX4_octet_20 ?_
    refine lv_iload_n X.1 X.2.1 dX4_octet_23 rfl (lv_at hl 1 rfl) ?_
    refine lv_i2b X.1 X.2.1 dX4_octet_24 rfl ?_
    refine h_bast X hw eA (vp_in_nI (show (s_col σ).length < 16 from Nat.lt_of_le_of_ne hcl (fun q => c11 (by rw [q]; rfl))) (by decide)) dX4_octet_25 (fun H locs hw => ?_)
    obtain ⟨k2, hk2⟩ : ∃ zz, zz = h_cu k1 (20, 8, 0) (some (.inl (G.2 3, 16, .inl (upd gA (nI (s_col σ).length).toNatClampNeg (vp_nar .byte (x).toInt8.toInt32))))) := ⟨_, rfl⟩
    replace hw := h_W.ren hw hk2
    have f2_20_0_0 : k2 (20, 0, 0) = some (.inr (4, [.int 0, .int (nI (s_cop σ)), .int (nI (s_nS σ)), .ref (ad (20, 3, 0)), .ref (ad (20, 4, 0)), .ref (ad (20, 5, 0)), .ref (ad (20, 6, 0)), .int (nI (s_col σ).length), .ref (ad (20, 8, 0)), .int (nI (s_nF σ)), .ref (ad (20, 10, 0)), .ref (ad (20, 11, 0)), .ref (ad (20, 12, 0)), .ref (ad (20, 13, 0)), .int (nI (s_as σ).length), .ref (ad (20, 15, 0)), .ref (ad (20, 16, 0)), .ref (ad (20, 17, 0)), .ref (ad (20, 18, 0)), .int (s_dg σ)])) := by rw [hk2, h_cn _ _ (by simp)]; exact hx
    have f2_20_8_0 : k2 (20, 8, 0) = some (.inl (G.2 3, 16, .inl (upd gA (nI (s_col σ).length).toNatClampNeg (vp_nar .byte (x).toInt8.toInt32)))) := by rw [hk2]; exact h_cs _ _ _
    refine lv_aload_n X.1 X.2.1 dX4_octet_26 rfl (lv_at hl 0 rfl) ?_
    refine lv_dup X.1 X.2.1 dX4_octet_27 rfl ?_
    refine gf_X4_79 X hw f2_20_0_0 rfl dX4_octet_28 ?_
    refine lv_iconst (v := 1) X.1 X.2.1 dX4_octet_31 (by decide) ?_
    refine lv_iadd X.1 X.2.1 dX4_octet_32 ?_
    refine h_ti (b := nI (((s_col σ).length) + 1)) (nI_add ((s_col σ).length) 1) ?_
    refine pf_X4_79 X hw f2_20_0_0 rfl rfl (Nat.le_of_ble_eq_true rfl) dX4_octet_33 (fun H locs hw => ?_)
    obtain ⟨k3, hk3⟩ : ∃ zz, zz = h_cu k2 (20, 0, 0) (some (.inr (4, [.int 0, .int (nI (s_cop σ)), .int (nI (s_nS σ)), .ref (ad (20, 3, 0)), .ref (ad (20, 4, 0)), .ref (ad (20, 5, 0)), .ref (ad (20, 6, 0)), .int (nI (((s_col σ).length) + 1)), .ref (ad (20, 8, 0)), .int (nI (s_nF σ)), .ref (ad (20, 10, 0)), .ref (ad (20, 11, 0)), .ref (ad (20, 12, 0)), .ref (ad (20, 13, 0)), .int (nI (s_as σ).length), .ref (ad (20, 15, 0)), .ref (ad (20, 16, 0)), .ref (ad (20, 17, 0)), .ref (ad (20, 18, 0)), .int (s_dg σ)]))) := ⟨_, rfl⟩
    replace hw := h_W.ren hw hk3
    have f3_20_0_0 : k3 (20, 0, 0) = some (.inr (4, [.int 0, .int (nI (s_cop σ)), .int (nI (s_nS σ)), .ref (ad (20, 3, 0)), .ref (ad (20, 4, 0)), .ref (ad (20, 5, 0)), .ref (ad (20, 6, 0)), .int (nI (((s_col σ).length) + 1)), .ref (ad (20, 8, 0)), .int (nI (s_nF σ)), .ref (ad (20, 10, 0)), .ref (ad (20, 11, 0)), .ref (ad (20, 12, 0)), .ref (ad (20, 13, 0)), .int (nI (s_as σ).length), .ref (ad (20, 15, 0)), .ref (ad (20, 16, 0)), .ref (ad (20, 17, 0)), .ref (ad (20, 18, 0)), .int (s_dg σ)])) := by rw [hk3]; exact h_cs _ _ _
    have f3_20_8_0 : k3 (20, 8, 0) = some (.inl (G.2 3, 16, .inl (upd gA (nI (s_col σ).length).toNatClampNeg (vp_nar .byte (x).toInt8.toInt32)))) := by rw [hk3, h_cn _ _ (by simp)]; exact f2_20_8_0
    have h16 : (s_col σ).length < 16 := Nat.lt_of_le_of_ne hcl (fun q => c11 (by rw [q]; rfl))
    have hln : (s_col σ ++ [x &&& 255]).length = (s_col σ).length + 1 := by rw [List.length_append]; rfl
    rw [if_pos h16]
    have hO : ∀ t : h_T, t ≠ (20, 0, 0) → t ≠ (20, 8, 0) → k3 t = k1 t := fun t n0 n1 => by rw [hk3, h_cn _ _ n0, hk2, h_cn _ _ n1]
    exact h_vretW X Y hw ⟨rfl, rfl, ⟨(by
      rw [f3_20_0_0]
      show _ = some (Sum.inr (4, m_ob ad (s_setCol σ (s_col σ ++ [x &&& 255])) 0))
      unfold m_ob
      rw [show (s_col (s_setCol σ (s_col σ ++ [x &&& 255]))).length = (s_col σ).length + 1 from hln]
      rfl), ⟨gP, (hO (20, 3, 0) (by simp) (by simp)).trans eP, vP⟩, ⟨gS, (hO (20, 4, 0) (by simp) (by simp)).trans eS, vS⟩, ⟨gU, (hO (20, 5, 0) (by simp) (by simp)).trans eU, vU⟩, ⟨gD, (hO (20, 6, 0) (by simp) (by simp)).trans eD, vD⟩, ⟨_, f3_20_8_0, fun i hi => by
      have hi : i < (s_col σ ++ [x &&& 255]).length := hi
      show _ = (s_col σ ++ [x &&& 255]).getD i 0
      rw [nI_clamp (by omega), List.getD_eq_getElem?_getD]
      by_cases q : i = (s_col σ).length
      · rw [q, pk_us, byte_nar, byte_mask, List.getElem?_append_right (Nat.le_refl _), Nat.sub_self]
        rfl
      · have hi2 : i < (s_col σ).length := by omega
        rw [pk_un q, vA i hi2, List.getElem?_append_left hi2, List.getD_eq_getElem?_getD]⟩, ⟨gK, (hO (20, 10, 0) (by simp) (by simp)).trans eK, vK⟩, ⟨gN, (hO (20, 11, 0) (by simp) (by simp)).trans eN, vN⟩, ⟨gZ, (hO (20, 12, 0) (by simp) (by simp)).trans eZ, vZ⟩, ⟨gB, (hO (20, 13, 0) (by simp) (by simp)).trans eB, vB⟩, ⟨g0, g1, g2, (hO (20, 15, 0) (by simp) (by simp)).trans e15, (hO (20, 16, 0) (by simp) (by simp)).trans e16, (hO (20, 17, 0) (by simp) (by simp)).trans e17, v3⟩, ⟨gM, (hO (20, 18, 0) (by simp) (by simp)).trans eM⟩, ⟨hok.1, hok.2.1, hok.2.2.1, by show (s_col σ ++ [x &&& 255]).length ≤ 16; omega, hok.2.2.2.2⟩⟩, fun t ht => by rw [hO t (t_ne20 ht) (t_ne20 ht), hk1, h_cn _ _ (t_ne20 ht)]⟩ (Nat.zero_le _) (Nat.zero_le _) dX4_octet_36
  · rw [if_neg (fun q => absurd ((nI_eq (b := 16) (by omega) (by omega)).mp c11) (by omega))]
    exact h_vretW X Y hw ⟨rfl, rfl, hM1, fun t ht => by rw [hk1, h_cn _ _ (t_ne20 ht)]⟩ (Nat.zero_le _) (Nat.zero_le _) dX4_octet_14
set_option maxHeartbeats 4000000 in
set_option maxRecDepth 100000 in
/-- odds -/
theorem c_X4_odds (l : Launch) (G : h_G) {ad : h_T → Nat} {k : h_C} {σ : S_t} {th : Int32} (hM : RM G ad k σ th) (hiv : s_iv σ) (y side : Int32) : h_Wr l yX4_odds cX4_odds 14 (some .long) 5 112 0 0 G ad k [.ref (ad (20, 0, 0)), .int y, .int side] (MPost G ad k (some (.long ((sp_odds σ y side).getD 0))) σ (o_th (sp_odds σ y side))) := by
  refine h_wr (by decide +kernel) (Nat.le_of_ble_eq_true rfl) ?_
  intro p e s m args below meth c X Y hw ls hl
  have hl : lv_has ls 14 [(0, .ref (ad (20, 0, 0))), (1, .int y), (2, .int side)] := hl
  unfold sp_odds
  have hok := hM.ok
  have hnS : s_nS σ ≤ 10 := hok.2.1
  have hnF : s_nF σ ≤ 40 := hok.2.2.1
  have hx : k (20, 0, 0) = some (.inr (4, [.int th, .int (nI (s_cop σ)), .int (nI (s_nS σ)), .ref (ad (20, 3, 0)), .ref (ad (20, 4, 0)), .ref (ad (20, 5, 0)), .ref (ad (20, 6, 0)), .int (nI (s_col σ).length), .ref (ad (20, 8, 0)), .int (nI (s_nF σ)), .ref (ad (20, 10, 0)), .ref (ad (20, 11, 0)), .ref (ad (20, 12, 0)), .ref (ad (20, 13, 0)), .int (nI (s_as σ).length), .ref (ad (20, 15, 0)), .ref (ad (20, 16, 0)), .ref (ad (20, 17, 0)), .ref (ad (20, 18, 0)), .int (s_dg σ)])) := hM.1
  refine lv_aload_n X.1 X.2.1 dX4_odds_0 rfl (lv_at hl 0 rfl) ?_
  refine lv_iconst (v := 0) X.1 X.2.1 dX4_odds_1 (by decide) ?_
  refine pf_X4_55 X hw hx rfl rfl (Nat.le_of_ble_eq_true rfl) dX4_odds_2 (fun H locs hw => ?_)
  obtain ⟨k1, hk1⟩ : ∃ zz, zz = h_cu k (20, 0, 0) (some (.inr (4, [.int 0, .int (nI (s_cop σ)), .int (nI (s_nS σ)), .ref (ad (20, 3, 0)), .ref (ad (20, 4, 0)), .ref (ad (20, 5, 0)), .ref (ad (20, 6, 0)), .int (nI (s_col σ).length), .ref (ad (20, 8, 0)), .int (nI (s_nF σ)), .ref (ad (20, 10, 0)), .ref (ad (20, 11, 0)), .ref (ad (20, 12, 0)), .ref (ad (20, 13, 0)), .int (nI (s_as σ).length), .ref (ad (20, 15, 0)), .ref (ad (20, 16, 0)), .ref (ad (20, 17, 0)), .ref (ad (20, 18, 0)), .int (s_dg σ)]))) := ⟨_, rfl⟩
  replace hw := h_W.ren hw hk1
  have f1_20_0_0 : k1 (20, 0, 0) = some (.inr (4, [.int 0, .int (nI (s_cop σ)), .int (nI (s_nS σ)), .ref (ad (20, 3, 0)), .ref (ad (20, 4, 0)), .ref (ad (20, 5, 0)), .ref (ad (20, 6, 0)), .int (nI (s_col σ).length), .ref (ad (20, 8, 0)), .int (nI (s_nF σ)), .ref (ad (20, 10, 0)), .ref (ad (20, 11, 0)), .ref (ad (20, 12, 0)), .ref (ad (20, 13, 0)), .int (nI (s_as σ).length), .ref (ad (20, 15, 0)), .ref (ad (20, 16, 0)), .ref (ad (20, 17, 0)), .ref (ad (20, 18, 0)), .int (s_dg σ)])) := by rw [hk1]; exact h_cs _ _ _
  have hM1 : RM G ad k1 σ 0 := hM.obj f1_20_0_0 (fun t ht => by rw [hk1, h_cn _ _ ht])
  obtain ⟨hx, ⟨gP, eP, vP⟩, ⟨gS, eS, vS⟩, ⟨gU, eU, vU⟩, ⟨gD, eD, vD⟩, ⟨gA, eA, vA⟩, ⟨gK, eK, vK⟩, ⟨gN, eN, vN⟩, ⟨gZ, eZ, vZ⟩, ⟨gB, eB, vB⟩, ⟨g0, g1, g2, e15, e16, e17, v3⟩, ⟨gM, eM⟩, -⟩ := id hM1
  have hx : k1 (20, 0, 0) = some (.inr (4, [.int 0, .int (nI (s_cop σ)), .int (nI (s_nS σ)), .ref (ad (20, 3, 0)), .ref (ad (20, 4, 0)), .ref (ad (20, 5, 0)), .ref (ad (20, 6, 0)), .int (nI (s_col σ).length), .ref (ad (20, 8, 0)), .int (nI (s_nF σ)), .ref (ad (20, 10, 0)), .ref (ad (20, 11, 0)), .ref (ad (20, 12, 0)), .ref (ad (20, 13, 0)), .int (nI (s_as σ).length), .ref (ad (20, 15, 0)), .ref (ad (20, 16, 0)), .ref (ad (20, 17, 0)), .ref (ad (20, 18, 0)), .int (s_dg σ)])) := hx
  rcases hf : ix y (s_nF σ) with _ | f
  · refine lv_aload_n X.1 X.2.1 dX4_odds_5 rfl (lv_at hl 0 rfl) ?_
    refine lv_iload_n X.1 X.2.1 dX4_odds_6 rfl (lv_at hl 1 rfl) ?_
    refine h_callRV (t := (20, 0, 0)) (As := [.int y]) (rest := []) X hw cs_X4_72 (c_X4_isFile l G hM1 y) hx rfl rfl hl.1 rfl (Nat.le_of_ble_eq_true rfl) ⟨by decide, by decide⟩ ⟨Nat.zero_le _, Nat.zero_le _⟩ dX4_odds_7 ?_
    refine h_tv (b := .int 0) (by rw [hf]; rfl) ?_
    refine lv_if_ne (tgt := 17) X.1 X.2.1 dX4_odds_10 (by decide) (fun c10 => ?_) (fun c10 => ?_)
    · exact absurd (by decide) c10
    · refine lv_ldc2 (v := (-1)) X.1 X.2.1 X.2.2.2.1 (X.2.2.2.2.1 _ wj_X4_117) dX4_odds_13 ?_
      exact h_lretW X Y hw ⟨rfl, rfl, hM1, fun t ht => by rw [hk1, h_cn _ _ (t_ne20 ht)]⟩ (Nat.zero_le _) (Nat.zero_le _) dX4_odds_16
  obtain rfl := ix_eq hf
  have hf9 := ix_lt hf
  have hnum := iv_num hiv f
  dsimp only
  have loopG : (ff (o_bad σ f) (s_nS σ) = none) → 0 < o_P (s_dn σ) (s_bears σ f) (s_nS σ) → ∀ (n u v : Nat), v ≤ n → u < 2 ^ 50 → v < 2 ^ 50 → Nat.gcd u v = Nat.gcd (o_P (s_up σ) (s_bears σ f) (s_nS σ)) (o_P (s_dn σ) (s_bears σ f) (s_nS σ)) → ∀ (ls : Array Slot), lv_has ls 14 [(2, .int side), (4, .long (lN (o_P (s_up σ) (s_bears σ f) (s_nS σ)))), (6, .long (lN (o_P (s_dn σ) (s_bears σ f) (s_nS σ)))), (8, .long (lN u)), (10, .long (lN v))] → W p l e (h_rm 5 112 0 0) s m args below meth c H locs 0 0 (MQ below (h_Qw G ad k s.heap.size (MPost G ad k (some (.long (Option.getD (if (ff (o_bad σ f) (s_nS σ)).isSome then none else some (lN (o_v σ f side))) 0))) σ (o_th (if (ff (o_bad σ f) (s_nS σ)).isSome then none else some (lN (o_v σ f side)))))) args s 0 0 (h_A ad k s.heap.size)) (F0 m 131 ls []) := by
    intro hff hBp n
    obtain ⟨hA, hB⟩ := hnum (s_nS σ) (Nat.le_refl _)
    have hgp : 0 < Nat.gcd (o_P (s_up σ) (s_bears σ f) (s_nS σ)) (o_P (s_dn σ) (s_bears σ f) (s_nS σ)) := Nat.gcd_pos_of_pos_right _ hBp
    have hgl : Nat.gcd (o_P (s_up σ) (s_bears σ f) (s_nS σ)) (o_P (s_dn σ) (s_bears σ f) (s_nS σ)) ≤ o_P (s_dn σ) (s_bears σ f) (s_nS σ) := Nat.le_of_dvd hBp (Nat.gcd_dvd_right _ _)
    induction n with
    | zero =>
      intro u v hvn hu hv hgc ls hl
      obtain rfl : v = 0 := by omega
      rw [Nat.gcd_zero_right] at hgc
      subst hgc
      refine lv_lload X.1 X.2.1 dX4_odds_131 (lv_at hl 4 rfl) ?_
      refine lv_lconst (v := 0) X.1 X.2.1 dX4_odds_133 (by decide) ?_
      refine h_lcmp (v := 0) (lcv_eq 0) X.1 X.2.1 dX4_odds_134 ?_
      refine lv_if_le (tgt := 156) X.1 X.2.1 dX4_odds_135 (by decide) (fun c135 => ?_) (fun c135 => ?_)
      · refine lv_iload_n X.1 X.2.1 dX4_odds_156 rfl (lv_at hl 0 rfl) ?_
        refine lv_if_ne (tgt := 168) X.1 X.2.1 dX4_odds_157 (by decide) (fun c157 => ?_) (fun c157 => ?_)
        · refine lv_lload X.1 X.2.1 dX4_odds_168 (lv_at hl 2 rfl) ?_
          refine lv_lload X.1 X.2.1 dX4_odds_170 (lv_at hl 3 rfl) ?_
          refine lv_ldiv X.1 X.2.1 dX4_odds_172 (fun q => absurd ((pk_lEQ (b := 0) (by omega) (by omega)).mp q) (by omega)) ?_
          refine h_tl (b := lN (o_P (s_dn σ) (s_bears σ f) (s_nS σ) / Nat.gcd (o_P (s_up σ) (s_bears σ f) (s_nS σ)) (o_P (s_dn σ) (s_bears σ f) (s_nS σ)))) (pk_lDiv (by omega) hgp (by omega)) ?_
          exact h_lretW X Y hw ⟨by
            rw [hff]
            show _ = some (Value.long (lN (o_v σ f side)))
            unfold o_v
            rw [if_neg c157], rfl, by rw [hff]; exact hM1, fun t ht => by rw [hk1, h_cn _ _ (t_ne20 ht)]⟩ (Nat.zero_le _) (Nat.zero_le _) dX4_odds_173
        · refine lv_lload X.1 X.2.1 dX4_odds_160 (lv_at hl 1 rfl) ?_
          refine lv_lload X.1 X.2.1 dX4_odds_162 (lv_at hl 3 rfl) ?_
          refine lv_ldiv X.1 X.2.1 dX4_odds_164 (fun q => absurd ((pk_lEQ (b := 0) (by omega) (by omega)).mp q) (by omega)) ?_
          refine h_tl (b := lN (o_P (s_up σ) (s_bears σ f) (s_nS σ) / Nat.gcd (o_P (s_up σ) (s_bears σ f) (s_nS σ)) (o_P (s_dn σ) (s_bears σ f) (s_nS σ)))) (pk_lDiv (by omega) hgp (by omega)) ?_
          refine lv_goto (tgt := 173) X.1 X.2.1 dX4_odds_165 (by decide) ?_
          exact h_lretW X Y hw ⟨by
            rw [hff]
            show _ = some (Value.long (lN (o_v σ f side)))
            unfold o_v
            rw [if_pos c157], rfl, by rw [hff]; exact hM1, fun t ht => by rw [hk1, h_cn _ _ (t_ne20 ht)]⟩ (Nat.zero_le _) (Nat.zero_le _) dX4_odds_173
      · exact absurd (by decide) c135
    | succ n ih =>
      intro u v hvn hu hv hgc ls hl
      rcases Nat.eq_zero_or_pos v with hv0 | hv0
      · subst hv0
        rw [Nat.gcd_zero_right] at hgc
        subst hgc
        refine lv_lload X.1 X.2.1 dX4_odds_131 (lv_at hl 4 rfl) ?_
        refine lv_lconst (v := 0) X.1 X.2.1 dX4_odds_133 (by decide) ?_
        refine h_lcmp (v := 0) (lcv_eq 0) X.1 X.2.1 dX4_odds_134 ?_
        refine lv_if_le (tgt := 156) X.1 X.2.1 dX4_odds_135 (by decide) (fun c135 => ?_) (fun c135 => ?_)
        · refine lv_iload_n X.1 X.2.1 dX4_odds_156 rfl (lv_at hl 0 rfl) ?_
          refine lv_if_ne (tgt := 168) X.1 X.2.1 dX4_odds_157 (by decide) (fun c157 => ?_) (fun c157 => ?_)
          · refine lv_lload X.1 X.2.1 dX4_odds_168 (lv_at hl 2 rfl) ?_
            refine lv_lload X.1 X.2.1 dX4_odds_170 (lv_at hl 3 rfl) ?_
            refine lv_ldiv X.1 X.2.1 dX4_odds_172 (fun q => absurd ((pk_lEQ (b := 0) (by omega) (by omega)).mp q) (by omega)) ?_
            refine h_tl (b := lN (o_P (s_dn σ) (s_bears σ f) (s_nS σ) / Nat.gcd (o_P (s_up σ) (s_bears σ f) (s_nS σ)) (o_P (s_dn σ) (s_bears σ f) (s_nS σ)))) (pk_lDiv (by omega) hgp (by omega)) ?_
            exact h_lretW X Y hw ⟨by
              rw [hff]
              show _ = some (Value.long (lN (o_v σ f side)))
              unfold o_v
              rw [if_neg c157], rfl, by rw [hff]; exact hM1, fun t ht => by rw [hk1, h_cn _ _ (t_ne20 ht)]⟩ (Nat.zero_le _) (Nat.zero_le _) dX4_odds_173
          · refine lv_lload X.1 X.2.1 dX4_odds_160 (lv_at hl 1 rfl) ?_
            refine lv_lload X.1 X.2.1 dX4_odds_162 (lv_at hl 3 rfl) ?_
            refine lv_ldiv X.1 X.2.1 dX4_odds_164 (fun q => absurd ((pk_lEQ (b := 0) (by omega) (by omega)).mp q) (by omega)) ?_
            refine h_tl (b := lN (o_P (s_up σ) (s_bears σ f) (s_nS σ) / Nat.gcd (o_P (s_up σ) (s_bears σ f) (s_nS σ)) (o_P (s_dn σ) (s_bears σ f) (s_nS σ)))) (pk_lDiv (by omega) hgp (by omega)) ?_
            refine lv_goto (tgt := 173) X.1 X.2.1 dX4_odds_165 (by decide) ?_
            exact h_lretW X Y hw ⟨by
              rw [hff]
              show _ = some (Value.long (lN (o_v σ f side)))
              unfold o_v
              rw [if_pos c157], rfl, by rw [hff]; exact hM1, fun t ht => by rw [hk1, h_cn _ _ (t_ne20 ht)]⟩ (Nat.zero_le _) (Nat.zero_le _) dX4_odds_173
        · exact absurd (by decide) c135
      refine lv_lload X.1 X.2.1 dX4_odds_131 (lv_at hl 4 rfl) ?_
      refine lv_lconst (v := 0) X.1 X.2.1 dX4_odds_133 (by decide) ?_
      refine h_lcmp (v := 1) (lcv_gt (b := 0) (by omega) hv0) X.1 X.2.1 dX4_odds_134 ?_
      refine lv_if_le (tgt := 156) X.1 X.2.1 dX4_odds_135 (by decide) (fun c135 => ?_) (fun c135 => ?_)
      · exact absurd c135 (by decide)
      · refine lv_lload X.1 X.2.1 dX4_odds_138 (lv_at hl 3 rfl) ?_
        refine lv_lload X.1 X.2.1 dX4_odds_140 (lv_at hl 4 rfl) ?_
        refine lv_lrem X.1 X.2.1 dX4_odds_142 (fun q => absurd ((pk_lEQ (b := 0) (by omega) (by omega)).mp q) (by omega)) ?_
        refine h_tl (b := lN (u % v)) (pk_lRem (by omega) hv0 (by omega)) ?_
        refine lv_lstore (lv' := [(12, .long (lN (u % v))), (2, .int side), (4, .long (lN (o_P (s_up σ) (s_bears σ f) (s_nS σ)))), (6, .long (lN (o_P (s_dn σ) (s_bears σ f) (s_nS σ)))), (8, .long (lN u)), (10, .long (lN v))]) X.1 X.2.1 dX4_odds_143 hl (by decide) rfl (fun ls hl => ?_)
        refine lv_lload X.1 X.2.1 dX4_odds_145 (lv_at hl 5 rfl) ?_
        refine lv_lstore (lv' := [(8, .long (lN v)), (12, .long (lN (u % v))), (2, .int side), (4, .long (lN (o_P (s_up σ) (s_bears σ f) (s_nS σ)))), (6, .long (lN (o_P (s_dn σ) (s_bears σ f) (s_nS σ)))), (10, .long (lN v))]) X.1 X.2.1 dX4_odds_147 hl (by decide) rfl (fun ls hl => ?_)
        refine lv_lload X.1 X.2.1 dX4_odds_149 (lv_at hl 1 rfl) ?_
        refine lv_lstore (lv' := [(10, .long (lN (u % v))), (8, .long (lN v)), (12, .long (lN (u % v))), (2, .int side), (4, .long (lN (o_P (s_up σ) (s_bears σ f) (s_nS σ)))), (6, .long (lN (o_P (s_dn σ) (s_bears σ f) (s_nS σ))))]) X.1 X.2.1 dX4_odds_151 hl (by decide) rfl (fun ls hl => ?_)
        refine lv_goto (tgt := 131) X.1 X.2.1 dX4_odds_153 (by decide) ?_
        have hml := Nat.mod_lt u hv0
        exact ih v (u % v) (by omega) hv (by omega) ((gcd_step hv0).trans hgc) ls (lv_sub hl [3, 4, 5, 1, 0] rfl)
  rcases hq : s_lead σ f with _ | q9
  · skip
    have loop : ∀ (n i : Nat), i ≤ s_nS σ → s_nS σ + 1 ≤ i + n → (∀ a, a < i → o_bad σ f a = false) → ∀ (ls : Array Slot), lv_has ls 14 [(0, .ref (ad (20, 0, 0))), (1, .int (nI f)), (2, .int side), (3, .int (-1)), (4, .long (lN (o_P (s_up σ) (s_bears σ f) i))), (6, .long (lN (o_P (s_dn σ) (s_bears σ f) i))), (8, .int (nI i))] → W p l e (h_rm 5 112 0 0) s m args below meth c H locs 0 0 (MQ below (h_Qw G ad k s.heap.size (MPost G ad k (some (.long (Option.getD (if (ff (o_bad σ f) (s_nS σ)).isSome then none else some (lN (o_v σ f side))) 0))) σ (o_th (if (ff (o_bad σ f) (s_nS σ)).isSome then none else some (lN (o_v σ f side)))))) args s 0 0 (h_A ad k s.heap.size)) (F0 m 32 ls []) := by
      intro n
      induction n with
      | zero =>
        intro i h1 h2
        exact absurd h2 (by omega)
      | succ n ih =>
        intro i hii hni hnb ls hl
        refine lv_iload X.1 X.2.1 dX4_odds_32 (lv_at hl 6 rfl) ?_
        refine lv_aload_n X.1 X.2.1 dX4_odds_34 rfl (lv_at hl 0 rfl) ?_
        refine gf_X4_58 X hw hx rfl dX4_odds_35 ?_
        refine lv_icmp_ge (tgt := 123) X.1 X.2.1 dX4_odds_38 (by decide) (fun c38 => ?_) (fun c38 => ?_)
        · obtain rfl : i = s_nS σ := Nat.le_antisymm hii (Nat.le_of_not_lt (fun q => absurd c38 (nI_ge (b := s_nS σ) q (by omega))))
          refine lv_lload X.1 X.2.1 dX4_odds_123 (lv_at hl 4 rfl) ?_
          refine lv_lstore (lv' := [(8, .long (lN (o_P (s_up σ) (s_bears σ f) (s_nS σ)))), (0, .ref (ad (20, 0, 0))), (1, .int (nI f)), (2, .int side), (3, .int (-1)), (4, .long (lN (o_P (s_up σ) (s_bears σ f) (s_nS σ)))), (6, .long (lN (o_P (s_dn σ) (s_bears σ f) (s_nS σ))))]) X.1 X.2.1 dX4_odds_125 hl (by decide) rfl (fun ls hl => ?_)
          refine lv_lload X.1 X.2.1 dX4_odds_127 (lv_at hl 6 rfl) ?_
          refine lv_lstore (lv' := [(10, .long (lN (o_P (s_dn σ) (s_bears σ f) (s_nS σ)))), (8, .long (lN (o_P (s_up σ) (s_bears σ f) (s_nS σ)))), (0, .ref (ad (20, 0, 0))), (1, .int (nI f)), (2, .int side), (3, .int (-1)), (4, .long (lN (o_P (s_up σ) (s_bears σ f) (s_nS σ)))), (6, .long (lN (o_P (s_dn σ) (s_bears σ f) (s_nS σ))))]) X.1 X.2.1 dX4_odds_129 hl (by decide) rfl (fun ls hl => ?_)
          exact loopG (ff_miss hnb) (oP_pos (fun a ha hba => by
            obtain ⟨ra, rb, r1, r2, r3, r4⟩ := hiv.1 a
            have hq := hnb a ha
            unfold o_bad at hq
            rw [hba] at hq
            have hq2 : ¬ s_dn σ a = 0 := by simpa using hq
            rw [r4, nI_clamp (by omega)]
            rcases Nat.eq_zero_or_pos rb with z | z
            · exact absurd (by rw [r4, z]; rfl) hq2
            · exact z)) _ _ _ (Nat.le_refl _) (hnum (s_nS σ) (Nat.le_refl _)).1 (hnum (s_nS σ) (Nat.le_refl _)).2 rfl ls (lv_sub hl [4, 6, 7, 1, 0] rfl)
        · have hib : i < s_nS σ := Nat.lt_of_not_le (fun q => c38 (nI_le q (by omega)))
          obtain ⟨ra, rb, r1, r2, r3, r4⟩ := hiv.1 i
          rcases hc : s_cnt σ i f with _ | b
          · have hb : s_bears σ f i = false := by unfold s_bears; rw [hc]
            refine lv_aload_n X.1 X.2.1 dX4_odds_41 rfl (lv_at hl 0 rfl) ?_
            refine lv_iload X.1 X.2.1 dX4_odds_42 (lv_at hl 6 rfl) ?_
            refine lv_iload_n X.1 X.2.1 dX4_odds_44 rfl (lv_at hl 1 rfl) ?_
            refine h_callRV (t := (20, 0, 0)) (As := [.int (nI i), .int (nI f)]) (rest := []) X hw cs_X4_89 (c_X4_counts l G hM1 hib hf9) hx rfl rfl hl.1 rfl (Nat.le_of_ble_eq_true rfl) ⟨by decide, by decide⟩ ⟨Nat.zero_le _, Nat.zero_le _⟩ dX4_odds_45 ?_
            refine h_tv (b := .int 0) (by rw [isC_n hc]; rfl) ?_
            refine lv_if_eq (tgt := 117) X.1 X.2.1 dX4_odds_48 (by decide) (fun c48 => ?_) (fun c48 => ?_)
            · refine lv_iinc (v := nI (i + 1)) (lv' := [(8, .int (nI (i + 1))), (0, .ref (ad (20, 0, 0))), (1, .int (nI f)), (2, .int side), (3, .int (-1)), (4, .long (lN (o_P (s_up σ) (s_bears σ f) i))), (6, .long (lN (o_P (s_dn σ) (s_bears σ f) i)))]) X.1 X.2.1 dX4_odds_117 hl (k := 6) rfl (nI_1 _) (by decide) rfl (fun ls hl => ?_)
              refine lv_goto (tgt := 32) X.1 X.2.1 dX4_odds_120 (by decide) ?_
              exact ih (i + 1) (by omega) (by omega) (nlt_s hnb (by unfold o_bad; rw [hb]; rfl)) ls (by
                rw [oP_f hb, oP_f hb]
                exact lv_sub hl [1, 2, 3, 4, 5, 6, 0] rfl)
            · exact absurd (by decide) c48
          · have hb : s_bears σ f i = true := by unfold s_bears; rw [hc, s_ldg_none hq]
            refine lv_aload_n X.1 X.2.1 dX4_odds_41 rfl (lv_at hl 0 rfl) ?_
            refine lv_iload X.1 X.2.1 dX4_odds_42 (lv_at hl 6 rfl) ?_
            refine lv_iload_n X.1 X.2.1 dX4_odds_44 rfl (lv_at hl 1 rfl) ?_
            refine h_callRV (t := (20, 0, 0)) (As := [.int (nI i), .int (nI f)]) (rest := []) X hw cs_X4_89 (c_X4_counts l G hM1 hib hf9) hx rfl rfl hl.1 rfl (Nat.le_of_ble_eq_true rfl) ⟨by decide, by decide⟩ ⟨Nat.zero_le _, Nat.zero_le _⟩ dX4_odds_45 ?_
            refine h_tv (b := .int 1) (by rw [isC_s hc]; rfl) ?_
            refine lv_if_eq (tgt := 117) X.1 X.2.1 dX4_odds_48 (by decide) (fun c48 => ?_) (fun c48 => ?_)
            · exact absurd c48 (by decide)
            · refine lv_iload_n X.1 X.2.1 dX4_odds_51 rfl (lv_at hl 3 rfl) ?_
              refine lv_if_lt (tgt := 74) X.1 X.2.1 dX4_odds_52 (by decide) (fun c52 => ?_) (fun c52 => ?_)
              · refine lv_aload_n X.1 X.2.1 dX4_odds_74 rfl (lv_at hl 0 rfl) ?_
                refine gf_X4_20 X hw hx rfl dX4_odds_75 ?_
                refine lv_iload X.1 X.2.1 dX4_odds_78 (lv_at hl 6 rfl) ?_
                refine h_iald X hw eD (vp_in_nI (by omega) (by decide)) dX4_odds_80 ?_
                refine h_tv (b := .int (s_dn σ i)) (by rw [nI_clamp (by omega), vD i (by omega)]) ?_
                refine lv_if_ne (tgt := 91) X.1 X.2.1 dX4_odds_81 (by decide) (fun c81 => ?_) (fun c81 => ?_)
                · refine lv_lload X.1 X.2.1 dX4_odds_91 (lv_at hl 4 rfl) ?_
                  refine lv_aload_n X.1 X.2.1 dX4_odds_93 rfl (lv_at hl 0 rfl) ?_
                  refine gf_X4_17 X hw hx rfl dX4_odds_94 ?_
                  refine lv_iload X.1 X.2.1 dX4_odds_97 (lv_at hl 6 rfl) ?_
                  refine h_iald X hw eU (vp_in_nI (by omega) (by decide)) dX4_odds_99 ?_
                  refine h_tv (b := .int (s_up σ i)) (by rw [nI_clamp (by omega), vU i (by omega)]) ?_
                  refine lv_i2l X.1 X.2.1 dX4_odds_100 rfl ?_
                  refine lv_lmul X.1 X.2.1 dX4_odds_101 ?_
                  refine h_tl (b := lN (o_P (s_up σ) (s_bears σ f) i * (s_up σ i).toNatClampNeg)) (l_mulI (a := ra) (by omega) r3) ?_
                  refine lv_lstore (lv' := [(4, .long (lN (o_P (s_up σ) (s_bears σ f) i * (s_up σ i).toNatClampNeg))), (0, .ref (ad (20, 0, 0))), (1, .int (nI f)), (2, .int side), (3, .int (-1)), (6, .long (lN (o_P (s_dn σ) (s_bears σ f) i))), (8, .int (nI i))]) X.1 X.2.1 dX4_odds_102 hl (by decide) rfl (fun ls hl => ?_)
                  refine lv_lload X.1 X.2.1 dX4_odds_104 (lv_at hl 5 rfl) ?_
                  refine lv_aload_n X.1 X.2.1 dX4_odds_106 rfl (lv_at hl 1 rfl) ?_
                  refine gf_X4_20 X hw hx rfl dX4_odds_107 ?_
                  refine lv_iload X.1 X.2.1 dX4_odds_110 (lv_at hl 6 rfl) ?_
                  refine h_iald X hw eD (vp_in_nI (by omega) (by decide)) dX4_odds_112 ?_
                  refine h_tv (b := .int (s_dn σ i)) (by rw [nI_clamp (by omega), vD i (by omega)]) ?_
                  refine lv_i2l X.1 X.2.1 dX4_odds_113 rfl ?_
                  refine lv_lmul X.1 X.2.1 dX4_odds_114 ?_
                  refine h_tl (b := lN (o_P (s_dn σ) (s_bears σ f) i * (s_dn σ i).toNatClampNeg)) (l_mulI (a := rb) (by omega) r4) ?_
                  refine lv_lstore (lv' := [(6, .long (lN (o_P (s_dn σ) (s_bears σ f) i * (s_dn σ i).toNatClampNeg))), (4, .long (lN (o_P (s_up σ) (s_bears σ f) i * (s_up σ i).toNatClampNeg))), (0, .ref (ad (20, 0, 0))), (1, .int (nI f)), (2, .int side), (3, .int (-1)), (8, .int (nI i))]) X.1 X.2.1 dX4_odds_115 hl (by decide) rfl (fun ls hl => ?_)
                  refine lv_iinc (v := nI (i + 1)) (lv' := [(8, .int (nI (i + 1))), (6, .long (lN (o_P (s_dn σ) (s_bears σ f) i * (s_dn σ i).toNatClampNeg))), (4, .long (lN (o_P (s_up σ) (s_bears σ f) i * (s_up σ i).toNatClampNeg))), (0, .ref (ad (20, 0, 0))), (1, .int (nI f)), (2, .int side), (3, .int (-1))]) X.1 X.2.1 dX4_odds_117 hl (k := 6) rfl (nI_1 _) (by decide) rfl (fun ls hl => ?_)
                  refine lv_goto (tgt := 32) X.1 X.2.1 dX4_odds_120 (by decide) ?_
                  exact ih (i + 1) (by omega) (by omega) (nlt_s hnb (by unfold o_bad; rw [hb]; simp [c81])) ls (by
                    rw [oP_t hb, oP_t hb]
                    exact lv_sub hl [3, 4, 5, 6, 2, 1, 0] rfl)
                · refine lv_aload_n X.1 X.2.1 dX4_odds_84 rfl (lv_at hl 0 rfl) ?_
                  refine lv_iconst (v := 1) X.1 X.2.1 dX4_odds_85 (by decide) ?_
                  refine pf_X4_55 X hw hx rfl rfl (Nat.le_of_ble_eq_true rfl) dX4_odds_86 (fun H locs hw => ?_)
                  obtain ⟨k2, hk2⟩ : ∃ zz, zz = h_cu k1 (20, 0, 0) (some (.inr (4, [.int 1, .int (nI (s_cop σ)), .int (nI (s_nS σ)), .ref (ad (20, 3, 0)), .ref (ad (20, 4, 0)), .ref (ad (20, 5, 0)), .ref (ad (20, 6, 0)), .int (nI (s_col σ).length), .ref (ad (20, 8, 0)), .int (nI (s_nF σ)), .ref (ad (20, 10, 0)), .ref (ad (20, 11, 0)), .ref (ad (20, 12, 0)), .ref (ad (20, 13, 0)), .int (nI (s_as σ).length), .ref (ad (20, 15, 0)), .ref (ad (20, 16, 0)), .ref (ad (20, 17, 0)), .ref (ad (20, 18, 0)), .int (s_dg σ)]))) := ⟨_, rfl⟩
                  replace hw := h_W.ren hw hk2
                  have f2_20_0_0 : k2 (20, 0, 0) = some (.inr (4, [.int 1, .int (nI (s_cop σ)), .int (nI (s_nS σ)), .ref (ad (20, 3, 0)), .ref (ad (20, 4, 0)), .ref (ad (20, 5, 0)), .ref (ad (20, 6, 0)), .int (nI (s_col σ).length), .ref (ad (20, 8, 0)), .int (nI (s_nF σ)), .ref (ad (20, 10, 0)), .ref (ad (20, 11, 0)), .ref (ad (20, 12, 0)), .ref (ad (20, 13, 0)), .int (nI (s_as σ).length), .ref (ad (20, 15, 0)), .ref (ad (20, 16, 0)), .ref (ad (20, 17, 0)), .ref (ad (20, 18, 0)), .int (s_dg σ)])) := by rw [hk2]; exact h_cs _ _ _
                  have f2_20_5_0 : k2 (20, 5, 0) = some (.inl (G.2 0, 10, .inl gU)) := by rw [hk2, h_cn _ _ (by simp)]; exact eU
                  have f2_20_6_0 : k2 (20, 6, 0) = some (.inl (G.2 0, 10, .inl gD)) := by rw [hk2, h_cn _ _ (by simp)]; exact eD
                  refine lv_lconst (v := 0) X.1 X.2.1 dX4_odds_89 (by decide) ?_
                  have hff : (ff (o_bad σ f) (s_nS σ)).isSome = true := by rw [ff_hit hnb (by unfold o_bad; rw [hb, c81]; rfl) hib]; rfl
                  exact h_lretW X Y hw ⟨by rw [if_pos hff]; rfl, rfl, by rw [if_pos hff]; exact hM1.obj f2_20_0_0 (fun t ht => by rw [hk2, h_cn _ _ ht]), fun t ht => by rw [hk2, h_cn _ _ (t_ne20 ht), hk1, h_cn _ _ (t_ne20 ht)]⟩ (Nat.zero_le _) (Nat.zero_le _) dX4_odds_90
              · exact absurd (by decide) c52
    refine lv_aload_n X.1 X.2.1 dX4_odds_5 rfl (lv_at hl 0 rfl) ?_
    refine lv_iload_n X.1 X.2.1 dX4_odds_6 rfl (lv_at hl 1 rfl) ?_
    refine h_callRV (t := (20, 0, 0)) (As := [.int (nI f)]) (rest := []) X hw cs_X4_72 (c_X4_isFile l G hM1 (nI f)) hx rfl rfl hl.1 rfl (Nat.le_of_ble_eq_true rfl) ⟨by decide, by decide⟩ ⟨Nat.zero_le _, Nat.zero_le _⟩ dX4_odds_7 ?_
    refine h_tv (b := .int 1) (by rw [hf]; rfl) ?_
    refine lv_if_ne (tgt := 17) X.1 X.2.1 dX4_odds_10 (by decide) (fun c10 => ?_) (fun c10 => ?_)
    · refine lv_aload_n X.1 X.2.1 dX4_odds_17 rfl (lv_at hl 0 rfl) ?_
      refine lv_iload_n X.1 X.2.1 dX4_odds_18 rfl (lv_at hl 1 rfl) ?_
      refine h_callRV (t := (20, 0, 0)) (As := [.int (nI f)]) (rest := []) X hw cs_X4_103 (c_X4_leader l G hM1 hf9) hx rfl rfl hl.1 rfl (Nat.le_of_ble_eq_true rfl) ⟨by decide, by decide⟩ ⟨Nat.zero_le _, Nat.zero_le _⟩ dX4_odds_19 ?_
      refine h_tv (b := .int (-1)) (by rw [hq]; rfl) ?_
      refine lv_istore_n (lv' := [(3, .int (-1)), (0, .ref (ad (20, 0, 0))), (1, .int (nI f)), (2, .int side)]) X.1 X.2.1 dX4_odds_22 rfl hl (by decide) rfl (fun ls hl => ?_)
      refine lv_lconst (v := 1) X.1 X.2.1 dX4_odds_23 (by decide) ?_
      refine lv_lstore (lv' := [(4, .long 1), (3, .int (-1)), (0, .ref (ad (20, 0, 0))), (1, .int (nI f)), (2, .int side)]) X.1 X.2.1 dX4_odds_24 hl (by decide) rfl (fun ls hl => ?_)
      refine lv_lconst (v := 1) X.1 X.2.1 dX4_odds_26 (by decide) ?_
      refine lv_lstore (lv' := [(6, .long 1), (4, .long 1), (3, .int (-1)), (0, .ref (ad (20, 0, 0))), (1, .int (nI f)), (2, .int side)]) X.1 X.2.1 dX4_odds_27 hl (by decide) rfl (fun ls hl => ?_)
      refine lv_iconst (v := 0) X.1 X.2.1 dX4_odds_29 (by decide) ?_
      refine lv_istore (lv' := [(8, .int 0), (6, .long 1), (4, .long 1), (3, .int (-1)), (0, .ref (ad (20, 0, 0))), (1, .int (nI f)), (2, .int side)]) X.1 X.2.1 dX4_odds_30 hl (by decide) rfl (fun ls hl => ?_)
      exact loop (s_nS σ + 1) 0 (by omega) (by omega) (fun a ha => absurd ha (Nat.not_lt_zero a)) ls (lv_sub hl [4, 5, 6, 3, 2, 1, 0] rfl)
    · exact absurd c10 (by decide)
  · obtain ⟨hq9, bq, hbq⟩ := s_lead_spec hq
    have loop : ∀ (n i : Nat), i ≤ s_nS σ → s_nS σ + 1 ≤ i + n → (∀ a, a < i → o_bad σ f a = false) → ∀ (ls : Array Slot), lv_has ls 14 [(0, .ref (ad (20, 0, 0))), (1, .int (nI f)), (2, .int side), (3, .int (nI q9)), (4, .long (lN (o_P (s_up σ) (s_bears σ f) i))), (6, .long (lN (o_P (s_dn σ) (s_bears σ f) i))), (8, .int (nI i))] → W p l e (h_rm 5 112 0 0) s m args below meth c H locs 0 0 (MQ below (h_Qw G ad k s.heap.size (MPost G ad k (some (.long (Option.getD (if (ff (o_bad σ f) (s_nS σ)).isSome then none else some (lN (o_v σ f side))) 0))) σ (o_th (if (ff (o_bad σ f) (s_nS σ)).isSome then none else some (lN (o_v σ f side)))))) args s 0 0 (h_A ad k s.heap.size)) (F0 m 32 ls []) := by
      intro n
      induction n with
      | zero =>
        intro i h1 h2
        exact absurd h2 (by omega)
      | succ n ih =>
        intro i hii hni hnb ls hl
        refine lv_iload X.1 X.2.1 dX4_odds_32 (lv_at hl 6 rfl) ?_
        refine lv_aload_n X.1 X.2.1 dX4_odds_34 rfl (lv_at hl 0 rfl) ?_
        refine gf_X4_58 X hw hx rfl dX4_odds_35 ?_
        refine lv_icmp_ge (tgt := 123) X.1 X.2.1 dX4_odds_38 (by decide) (fun c38 => ?_) (fun c38 => ?_)
        · obtain rfl : i = s_nS σ := Nat.le_antisymm hii (Nat.le_of_not_lt (fun q => absurd c38 (nI_ge (b := s_nS σ) q (by omega))))
          refine lv_lload X.1 X.2.1 dX4_odds_123 (lv_at hl 4 rfl) ?_
          refine lv_lstore (lv' := [(8, .long (lN (o_P (s_up σ) (s_bears σ f) (s_nS σ)))), (0, .ref (ad (20, 0, 0))), (1, .int (nI f)), (2, .int side), (3, .int (nI q9)), (4, .long (lN (o_P (s_up σ) (s_bears σ f) (s_nS σ)))), (6, .long (lN (o_P (s_dn σ) (s_bears σ f) (s_nS σ))))]) X.1 X.2.1 dX4_odds_125 hl (by decide) rfl (fun ls hl => ?_)
          refine lv_lload X.1 X.2.1 dX4_odds_127 (lv_at hl 6 rfl) ?_
          refine lv_lstore (lv' := [(10, .long (lN (o_P (s_dn σ) (s_bears σ f) (s_nS σ)))), (8, .long (lN (o_P (s_up σ) (s_bears σ f) (s_nS σ)))), (0, .ref (ad (20, 0, 0))), (1, .int (nI f)), (2, .int side), (3, .int (nI q9)), (4, .long (lN (o_P (s_up σ) (s_bears σ f) (s_nS σ)))), (6, .long (lN (o_P (s_dn σ) (s_bears σ f) (s_nS σ))))]) X.1 X.2.1 dX4_odds_129 hl (by decide) rfl (fun ls hl => ?_)
          exact loopG (ff_miss hnb) (oP_pos (fun a ha hba => by
            obtain ⟨ra, rb, r1, r2, r3, r4⟩ := hiv.1 a
            have hq := hnb a ha
            unfold o_bad at hq
            rw [hba] at hq
            have hq2 : ¬ s_dn σ a = 0 := by simpa using hq
            rw [r4, nI_clamp (by omega)]
            rcases Nat.eq_zero_or_pos rb with z | z
            · exact absurd (by rw [r4, z]; rfl) hq2
            · exact z)) _ _ _ (Nat.le_refl _) (hnum (s_nS σ) (Nat.le_refl _)).1 (hnum (s_nS σ) (Nat.le_refl _)).2 rfl ls (lv_sub hl [4, 6, 7, 1, 0] rfl)
        · have hib : i < s_nS σ := Nat.lt_of_not_le (fun q => c38 (nI_le q (by omega)))
          obtain ⟨ra, rb, r1, r2, r3, r4⟩ := hiv.1 i
          rcases isD_cases σ f i (dgL bq) with hc | ⟨b, hc, hd⟩ | ⟨b, hc, hd⟩
          · have hb : s_bears σ f i = false := by unfold s_bears; rw [hc]
            refine lv_aload_n X.1 X.2.1 dX4_odds_41 rfl (lv_at hl 0 rfl) ?_
            refine lv_iload X.1 X.2.1 dX4_odds_42 (lv_at hl 6 rfl) ?_
            refine lv_iload_n X.1 X.2.1 dX4_odds_44 rfl (lv_at hl 1 rfl) ?_
            refine h_callRV (t := (20, 0, 0)) (As := [.int (nI i), .int (nI f)]) (rest := []) X hw cs_X4_89 (c_X4_counts l G hM1 hib hf9) hx rfl rfl hl.1 rfl (Nat.le_of_ble_eq_true rfl) ⟨by decide, by decide⟩ ⟨Nat.zero_le _, Nat.zero_le _⟩ dX4_odds_45 ?_
            refine h_tv (b := .int 0) (by rw [isC_n hc]; rfl) ?_
            refine lv_if_eq (tgt := 117) X.1 X.2.1 dX4_odds_48 (by decide) (fun c48 => ?_) (fun c48 => ?_)
            · refine lv_iinc (v := nI (i + 1)) (lv' := [(8, .int (nI (i + 1))), (0, .ref (ad (20, 0, 0))), (1, .int (nI f)), (2, .int side), (3, .int (nI q9)), (4, .long (lN (o_P (s_up σ) (s_bears σ f) i))), (6, .long (lN (o_P (s_dn σ) (s_bears σ f) i)))]) X.1 X.2.1 dX4_odds_117 hl (k := 6) rfl (nI_1 _) (by decide) rfl (fun ls hl => ?_)
              refine lv_goto (tgt := 32) X.1 X.2.1 dX4_odds_120 (by decide) ?_
              exact ih (i + 1) (by omega) (by omega) (nlt_s hnb (by unfold o_bad; rw [hb]; rfl)) ls (by
                rw [oP_f hb, oP_f hb]
                exact lv_sub hl [1, 2, 3, 4, 5, 6, 0] rfl)
            · exact absurd (by decide) c48
          · have hb : s_bears σ f i = false := by unfold s_bears; rw [hc, s_ldg_some hq hbq]; exact decide_eq_false (fun z => hd z.symm)
            refine lv_aload_n X.1 X.2.1 dX4_odds_41 rfl (lv_at hl 0 rfl) ?_
            refine lv_iload X.1 X.2.1 dX4_odds_42 (lv_at hl 6 rfl) ?_
            refine lv_iload_n X.1 X.2.1 dX4_odds_44 rfl (lv_at hl 1 rfl) ?_
            refine h_callRV (t := (20, 0, 0)) (As := [.int (nI i), .int (nI f)]) (rest := []) X hw cs_X4_89 (c_X4_counts l G hM1 hib hf9) hx rfl rfl hl.1 rfl (Nat.le_of_ble_eq_true rfl) ⟨by decide, by decide⟩ ⟨Nat.zero_le _, Nat.zero_le _⟩ dX4_odds_45 ?_
            refine h_tv (b := .int 1) (by rw [isC_s hc]; rfl) ?_
            refine lv_if_eq (tgt := 117) X.1 X.2.1 dX4_odds_48 (by decide) (fun c48 => ?_) (fun c48 => ?_)
            · exact absurd c48 (by decide)
            · refine lv_iload_n X.1 X.2.1 dX4_odds_51 rfl (lv_at hl 3 rfl) ?_
              refine lv_if_lt (tgt := 74) X.1 X.2.1 dX4_odds_52 (by decide) (fun c52 => ?_) (fun c52 => ?_)
              · exact absurd c52 (nI_pos (by omega))
              · refine lv_aload_n X.1 X.2.1 dX4_odds_55 rfl (lv_at hl 0 rfl) ?_
                refine lv_iload X.1 X.2.1 dX4_odds_56 (lv_at hl 6 rfl) ?_
                refine lv_iload_n X.1 X.2.1 dX4_odds_58 rfl (lv_at hl 1 rfl) ?_
                refine h_callRV (t := (20, 0, 0)) (As := [.int (nI i), .int (nI f)]) (rest := []) X hw cs_X4_92 (c_X4_digestOf l G hM1 (s_cnt_cp hc).1) hx rfl rfl hl.1 rfl (Nat.le_of_ble_eq_true rfl) ⟨by decide, by decide⟩ ⟨Nat.zero_le _, Nat.zero_le _⟩ dX4_odds_59 ?_
                refine lv_aload_n X.1 X.2.1 dX4_odds_62 rfl (lv_at hl 0 rfl) ?_
                refine lv_iload_n X.1 X.2.1 dX4_odds_63 rfl (lv_at hl 3 rfl) ?_
                refine lv_iload_n X.1 X.2.1 dX4_odds_64 rfl (lv_at hl 1 rfl) ?_
                refine h_callRV (t := (20, 0, 0)) (As := [.int (nI q9), .int (nI f)]) (rest := [.int (dgL b)]) X hw cs_X4_92 (c_X4_digestOf l G hM1 (s_cnt_cp hbq).1) hx rfl rfl hl.1 rfl (Nat.le_of_ble_eq_true rfl) ⟨by decide, by decide⟩ ⟨Nat.zero_le _, Nat.zero_le _⟩ dX4_odds_65 ?_
                refine lv_icmp_eq (tgt := 74) X.1 X.2.1 dX4_odds_68 (by decide) (fun c68 => ?_) (fun c68 => ?_)
                · exact absurd c68 hd
                · refine lv_goto (tgt := 117) X.1 X.2.1 dX4_odds_71 (by decide) ?_
                  refine lv_iinc (v := nI (i + 1)) (lv' := [(8, .int (nI (i + 1))), (0, .ref (ad (20, 0, 0))), (1, .int (nI f)), (2, .int side), (3, .int (nI q9)), (4, .long (lN (o_P (s_up σ) (s_bears σ f) i))), (6, .long (lN (o_P (s_dn σ) (s_bears σ f) i)))]) X.1 X.2.1 dX4_odds_117 hl (k := 6) rfl (nI_1 _) (by decide) rfl (fun ls hl => ?_)
                  refine lv_goto (tgt := 32) X.1 X.2.1 dX4_odds_120 (by decide) ?_
                  exact ih (i + 1) (by omega) (by omega) (nlt_s hnb (by unfold o_bad; rw [hb]; rfl)) ls (by
                    rw [oP_f hb, oP_f hb]
                    exact lv_sub hl [1, 2, 3, 4, 5, 6, 0] rfl)
          · have hb : s_bears σ f i = true := by unfold s_bears; rw [hc, s_ldg_some hq hbq]; exact decide_eq_true hd.symm
            refine lv_aload_n X.1 X.2.1 dX4_odds_41 rfl (lv_at hl 0 rfl) ?_
            refine lv_iload X.1 X.2.1 dX4_odds_42 (lv_at hl 6 rfl) ?_
            refine lv_iload_n X.1 X.2.1 dX4_odds_44 rfl (lv_at hl 1 rfl) ?_
            refine h_callRV (t := (20, 0, 0)) (As := [.int (nI i), .int (nI f)]) (rest := []) X hw cs_X4_89 (c_X4_counts l G hM1 hib hf9) hx rfl rfl hl.1 rfl (Nat.le_of_ble_eq_true rfl) ⟨by decide, by decide⟩ ⟨Nat.zero_le _, Nat.zero_le _⟩ dX4_odds_45 ?_
            refine h_tv (b := .int 1) (by rw [isC_s hc]; rfl) ?_
            refine lv_if_eq (tgt := 117) X.1 X.2.1 dX4_odds_48 (by decide) (fun c48 => ?_) (fun c48 => ?_)
            · exact absurd c48 (by decide)
            · refine lv_iload_n X.1 X.2.1 dX4_odds_51 rfl (lv_at hl 3 rfl) ?_
              refine lv_if_lt (tgt := 74) X.1 X.2.1 dX4_odds_52 (by decide) (fun c52 => ?_) (fun c52 => ?_)
              · exact absurd c52 (nI_pos (by omega))
              · refine lv_aload_n X.1 X.2.1 dX4_odds_55 rfl (lv_at hl 0 rfl) ?_
                refine lv_iload X.1 X.2.1 dX4_odds_56 (lv_at hl 6 rfl) ?_
                refine lv_iload_n X.1 X.2.1 dX4_odds_58 rfl (lv_at hl 1 rfl) ?_
                refine h_callRV (t := (20, 0, 0)) (As := [.int (nI i), .int (nI f)]) (rest := []) X hw cs_X4_92 (c_X4_digestOf l G hM1 (s_cnt_cp hc).1) hx rfl rfl hl.1 rfl (Nat.le_of_ble_eq_true rfl) ⟨by decide, by decide⟩ ⟨Nat.zero_le _, Nat.zero_le _⟩ dX4_odds_59 ?_
                refine lv_aload_n X.1 X.2.1 dX4_odds_62 rfl (lv_at hl 0 rfl) ?_
                refine lv_iload_n X.1 X.2.1 dX4_odds_63 rfl (lv_at hl 3 rfl) ?_
                refine lv_iload_n X.1 X.2.1 dX4_odds_64 rfl (lv_at hl 1 rfl) ?_
                refine h_callRV (t := (20, 0, 0)) (As := [.int (nI q9), .int (nI f)]) (rest := [.int (dgL b)]) X hw cs_X4_92 (c_X4_digestOf l G hM1 (s_cnt_cp hbq).1) hx rfl rfl hl.1 rfl (Nat.le_of_ble_eq_true rfl) ⟨by decide, by decide⟩ ⟨Nat.zero_le _, Nat.zero_le _⟩ dX4_odds_65 ?_
                refine lv_icmp_eq (tgt := 74) X.1 X.2.1 dX4_odds_68 (by decide) (fun c68 => ?_) (fun c68 => ?_)
                · refine lv_aload_n X.1 X.2.1 dX4_odds_74 rfl (lv_at hl 0 rfl) ?_
                  refine gf_X4_20 X hw hx rfl dX4_odds_75 ?_
                  refine lv_iload X.1 X.2.1 dX4_odds_78 (lv_at hl 6 rfl) ?_
                  refine h_iald X hw eD (vp_in_nI (by omega) (by decide)) dX4_odds_80 ?_
                  refine h_tv (b := .int (s_dn σ i)) (by rw [nI_clamp (by omega), vD i (by omega)]) ?_
                  refine lv_if_ne (tgt := 91) X.1 X.2.1 dX4_odds_81 (by decide) (fun c81 => ?_) (fun c81 => ?_)
                  · refine lv_lload X.1 X.2.1 dX4_odds_91 (lv_at hl 4 rfl) ?_
                    refine lv_aload_n X.1 X.2.1 dX4_odds_93 rfl (lv_at hl 0 rfl) ?_
                    refine gf_X4_17 X hw hx rfl dX4_odds_94 ?_
                    refine lv_iload X.1 X.2.1 dX4_odds_97 (lv_at hl 6 rfl) ?_
                    refine h_iald X hw eU (vp_in_nI (by omega) (by decide)) dX4_odds_99 ?_
                    refine h_tv (b := .int (s_up σ i)) (by rw [nI_clamp (by omega), vU i (by omega)]) ?_
                    refine lv_i2l X.1 X.2.1 dX4_odds_100 rfl ?_
                    refine lv_lmul X.1 X.2.1 dX4_odds_101 ?_
                    refine h_tl (b := lN (o_P (s_up σ) (s_bears σ f) i * (s_up σ i).toNatClampNeg)) (l_mulI (a := ra) (by omega) r3) ?_
                    refine lv_lstore (lv' := [(4, .long (lN (o_P (s_up σ) (s_bears σ f) i * (s_up σ i).toNatClampNeg))), (0, .ref (ad (20, 0, 0))), (1, .int (nI f)), (2, .int side), (3, .int (nI q9)), (6, .long (lN (o_P (s_dn σ) (s_bears σ f) i))), (8, .int (nI i))]) X.1 X.2.1 dX4_odds_102 hl (by decide) rfl (fun ls hl => ?_)
                    refine lv_lload X.1 X.2.1 dX4_odds_104 (lv_at hl 5 rfl) ?_
                    refine lv_aload_n X.1 X.2.1 dX4_odds_106 rfl (lv_at hl 1 rfl) ?_
                    refine gf_X4_20 X hw hx rfl dX4_odds_107 ?_
                    refine lv_iload X.1 X.2.1 dX4_odds_110 (lv_at hl 6 rfl) ?_
                    refine h_iald X hw eD (vp_in_nI (by omega) (by decide)) dX4_odds_112 ?_
                    refine h_tv (b := .int (s_dn σ i)) (by rw [nI_clamp (by omega), vD i (by omega)]) ?_
                    refine lv_i2l X.1 X.2.1 dX4_odds_113 rfl ?_
                    refine lv_lmul X.1 X.2.1 dX4_odds_114 ?_
                    refine h_tl (b := lN (o_P (s_dn σ) (s_bears σ f) i * (s_dn σ i).toNatClampNeg)) (l_mulI (a := rb) (by omega) r4) ?_
                    refine lv_lstore (lv' := [(6, .long (lN (o_P (s_dn σ) (s_bears σ f) i * (s_dn σ i).toNatClampNeg))), (4, .long (lN (o_P (s_up σ) (s_bears σ f) i * (s_up σ i).toNatClampNeg))), (0, .ref (ad (20, 0, 0))), (1, .int (nI f)), (2, .int side), (3, .int (nI q9)), (8, .int (nI i))]) X.1 X.2.1 dX4_odds_115 hl (by decide) rfl (fun ls hl => ?_)
                    refine lv_iinc (v := nI (i + 1)) (lv' := [(8, .int (nI (i + 1))), (6, .long (lN (o_P (s_dn σ) (s_bears σ f) i * (s_dn σ i).toNatClampNeg))), (4, .long (lN (o_P (s_up σ) (s_bears σ f) i * (s_up σ i).toNatClampNeg))), (0, .ref (ad (20, 0, 0))), (1, .int (nI f)), (2, .int side), (3, .int (nI q9))]) X.1 X.2.1 dX4_odds_117 hl (k := 6) rfl (nI_1 _) (by decide) rfl (fun ls hl => ?_)
                    refine lv_goto (tgt := 32) X.1 X.2.1 dX4_odds_120 (by decide) ?_
                    exact ih (i + 1) (by omega) (by omega) (nlt_s hnb (by unfold o_bad; rw [hb]; simp [c81])) ls (by
                      rw [oP_t hb, oP_t hb]
                      exact lv_sub hl [3, 4, 5, 6, 2, 1, 0] rfl)
                  · refine lv_aload_n X.1 X.2.1 dX4_odds_84 rfl (lv_at hl 0 rfl) ?_
                    refine lv_iconst (v := 1) X.1 X.2.1 dX4_odds_85 (by decide) ?_
                    refine pf_X4_55 X hw hx rfl rfl (Nat.le_of_ble_eq_true rfl) dX4_odds_86 (fun H locs hw => ?_)
                    obtain ⟨k2, hk2⟩ : ∃ zz, zz = h_cu k1 (20, 0, 0) (some (.inr (4, [.int 1, .int (nI (s_cop σ)), .int (nI (s_nS σ)), .ref (ad (20, 3, 0)), .ref (ad (20, 4, 0)), .ref (ad (20, 5, 0)), .ref (ad (20, 6, 0)), .int (nI (s_col σ).length), .ref (ad (20, 8, 0)), .int (nI (s_nF σ)), .ref (ad (20, 10, 0)), .ref (ad (20, 11, 0)), .ref (ad (20, 12, 0)), .ref (ad (20, 13, 0)), .int (nI (s_as σ).length), .ref (ad (20, 15, 0)), .ref (ad (20, 16, 0)), .ref (ad (20, 17, 0)), .ref (ad (20, 18, 0)), .int (s_dg σ)]))) := ⟨_, rfl⟩
                    replace hw := h_W.ren hw hk2
                    have f2_20_0_0 : k2 (20, 0, 0) = some (.inr (4, [.int 1, .int (nI (s_cop σ)), .int (nI (s_nS σ)), .ref (ad (20, 3, 0)), .ref (ad (20, 4, 0)), .ref (ad (20, 5, 0)), .ref (ad (20, 6, 0)), .int (nI (s_col σ).length), .ref (ad (20, 8, 0)), .int (nI (s_nF σ)), .ref (ad (20, 10, 0)), .ref (ad (20, 11, 0)), .ref (ad (20, 12, 0)), .ref (ad (20, 13, 0)), .int (nI (s_as σ).length), .ref (ad (20, 15, 0)), .ref (ad (20, 16, 0)), .ref (ad (20, 17, 0)), .ref (ad (20, 18, 0)), .int (s_dg σ)])) := by rw [hk2]; exact h_cs _ _ _
                    have f2_20_5_0 : k2 (20, 5, 0) = some (.inl (G.2 0, 10, .inl gU)) := by rw [hk2, h_cn _ _ (by simp)]; exact eU
                    have f2_20_6_0 : k2 (20, 6, 0) = some (.inl (G.2 0, 10, .inl gD)) := by rw [hk2, h_cn _ _ (by simp)]; exact eD
                    refine lv_lconst (v := 0) X.1 X.2.1 dX4_odds_89 (by decide) ?_
                    have hff : (ff (o_bad σ f) (s_nS σ)).isSome = true := by rw [ff_hit hnb (by unfold o_bad; rw [hb, c81]; rfl) hib]; rfl
                    exact h_lretW X Y hw ⟨by rw [if_pos hff]; rfl, rfl, by rw [if_pos hff]; exact hM1.obj f2_20_0_0 (fun t ht => by rw [hk2, h_cn _ _ ht]), fun t ht => by rw [hk2, h_cn _ _ (t_ne20 ht), hk1, h_cn _ _ (t_ne20 ht)]⟩ (Nat.zero_le _) (Nat.zero_le _) dX4_odds_90
                · exact absurd hd c68
    refine lv_aload_n X.1 X.2.1 dX4_odds_5 rfl (lv_at hl 0 rfl) ?_
    refine lv_iload_n X.1 X.2.1 dX4_odds_6 rfl (lv_at hl 1 rfl) ?_
    refine h_callRV (t := (20, 0, 0)) (As := [.int (nI f)]) (rest := []) X hw cs_X4_72 (c_X4_isFile l G hM1 (nI f)) hx rfl rfl hl.1 rfl (Nat.le_of_ble_eq_true rfl) ⟨by decide, by decide⟩ ⟨Nat.zero_le _, Nat.zero_le _⟩ dX4_odds_7 ?_
    refine h_tv (b := .int 1) (by rw [hf]; rfl) ?_
    refine lv_if_ne (tgt := 17) X.1 X.2.1 dX4_odds_10 (by decide) (fun c10 => ?_) (fun c10 => ?_)
    · refine lv_aload_n X.1 X.2.1 dX4_odds_17 rfl (lv_at hl 0 rfl) ?_
      refine lv_iload_n X.1 X.2.1 dX4_odds_18 rfl (lv_at hl 1 rfl) ?_
      refine h_callRV (t := (20, 0, 0)) (As := [.int (nI f)]) (rest := []) X hw cs_X4_103 (c_X4_leader l G hM1 hf9) hx rfl rfl hl.1 rfl (Nat.le_of_ble_eq_true rfl) ⟨by decide, by decide⟩ ⟨Nat.zero_le _, Nat.zero_le _⟩ dX4_odds_19 ?_
      refine h_tv (b := .int (nI q9)) (by rw [hq]; rfl) ?_
      refine lv_istore_n (lv' := [(3, .int (nI q9)), (0, .ref (ad (20, 0, 0))), (1, .int (nI f)), (2, .int side)]) X.1 X.2.1 dX4_odds_22 rfl hl (by decide) rfl (fun ls hl => ?_)
      refine lv_lconst (v := 1) X.1 X.2.1 dX4_odds_23 (by decide) ?_
      refine lv_lstore (lv' := [(4, .long 1), (3, .int (nI q9)), (0, .ref (ad (20, 0, 0))), (1, .int (nI f)), (2, .int side)]) X.1 X.2.1 dX4_odds_24 hl (by decide) rfl (fun ls hl => ?_)
      refine lv_lconst (v := 1) X.1 X.2.1 dX4_odds_26 (by decide) ?_
      refine lv_lstore (lv' := [(6, .long 1), (4, .long 1), (3, .int (nI q9)), (0, .ref (ad (20, 0, 0))), (1, .int (nI f)), (2, .int side)]) X.1 X.2.1 dX4_odds_27 hl (by decide) rfl (fun ls hl => ?_)
      refine lv_iconst (v := 0) X.1 X.2.1 dX4_odds_29 (by decide) ?_
      refine lv_istore (lv' := [(8, .int 0), (6, .long 1), (4, .long 1), (3, .int (nI q9)), (0, .ref (ad (20, 0, 0))), (1, .int (nI f)), (2, .int side)]) X.1 X.2.1 dX4_odds_30 hl (by decide) rfl (fun ls hl => ?_)
      exact loop (s_nS σ + 1) 0 (by omega) (by omega) (fun a ha => absurd ha (Nat.not_lt_zero a)) ls (lv_sub hl [4, 5, 6, 3, 2, 1, 0] rfl)
    · exact absurd c10 (by decide)
