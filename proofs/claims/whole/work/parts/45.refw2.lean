set_option maxHeartbeats 4000000 in
set_option maxRecDepth 100000 in
/-- rate -/
theorem c_X4_rate (l : Launch) (G : h_G) {ad : h_T → Nat} {k : h_C} {σ : S_t} {th : Int32} (hM : RM G ad k σ th) (x a b : Int32) : h_Wr l yX4_rate cX4_rate 4 (some .int) 2 43 0 0 G ad k [.ref (ad (20, 0, 0)), .int x, .int a, .int b] (MPost G ad k (some (.int (sp_rate σ x a b).1)) (sp_rate σ x a b).2 0) := by
  refine h_wr (by decide +kernel) (Nat.le_of_ble_eq_true rfl) ?_
  intro p e s m args below meth c X Y hw ls hl
  have hl : lv_has ls 4 [(0, .ref (ad (20, 0, 0))), (1, .int x), (2, .int a), (3, .int b)] := hl
  unfold sp_rate
  have hok := hM.ok
  have hnS : s_nS σ ≤ 10 := hok.2.1
  have hnF : s_nF σ ≤ 40 := hok.2.2.1
  have hx : k (20, 0, 0) = some (.inr (4, [.int th, .int (nI (s_cop σ)), .int (nI (s_nS σ)), .ref (ad (20, 3, 0)), .ref (ad (20, 4, 0)), .ref (ad (20, 5, 0)), .ref (ad (20, 6, 0)), .int (nI (s_col σ).length), .ref (ad (20, 8, 0)), .int (nI (s_nF σ)), .ref (ad (20, 10, 0)), .ref (ad (20, 11, 0)), .ref (ad (20, 12, 0)), .ref (ad (20, 13, 0)), .int (nI (s_as σ).length), .ref (ad (20, 15, 0)), .ref (ad (20, 16, 0)), .ref (ad (20, 17, 0)), .ref (ad (20, 18, 0)), .int (s_dg σ)])) := hM.1
  refine lv_aload_n X.1 X.2.1 dX4_rate_0 rfl (lv_at hl 0 rfl) ?_
  refine lv_iconst (v := 0) X.1 X.2.1 dX4_rate_1 (by decide) ?_
  refine pf_X4_55 X hw hx rfl rfl (Nat.le_of_ble_eq_true rfl) dX4_rate_2 (fun H locs hw => ?_)
  obtain ⟨k1, hk1⟩ : ∃ zz, zz = h_cu k (20, 0, 0) (some (.inr (4, [.int 0, .int (nI (s_cop σ)), .int (nI (s_nS σ)), .ref (ad (20, 3, 0)), .ref (ad (20, 4, 0)), .ref (ad (20, 5, 0)), .ref (ad (20, 6, 0)), .int (nI (s_col σ).length), .ref (ad (20, 8, 0)), .int (nI (s_nF σ)), .ref (ad (20, 10, 0)), .ref (ad (20, 11, 0)), .ref (ad (20, 12, 0)), .ref (ad (20, 13, 0)), .int (nI (s_as σ).length), .ref (ad (20, 15, 0)), .ref (ad (20, 16, 0)), .ref (ad (20, 17, 0)), .ref (ad (20, 18, 0)), .int (s_dg σ)]))) := ⟨_, rfl⟩
  replace hw := h_W.ren hw hk1
  have f1_20_0_0 : k1 (20, 0, 0) = some (.inr (4, [.int 0, .int (nI (s_cop σ)), .int (nI (s_nS σ)), .ref (ad (20, 3, 0)), .ref (ad (20, 4, 0)), .ref (ad (20, 5, 0)), .ref (ad (20, 6, 0)), .int (nI (s_col σ).length), .ref (ad (20, 8, 0)), .int (nI (s_nF σ)), .ref (ad (20, 10, 0)), .ref (ad (20, 11, 0)), .ref (ad (20, 12, 0)), .ref (ad (20, 13, 0)), .int (nI (s_as σ).length), .ref (ad (20, 15, 0)), .ref (ad (20, 16, 0)), .ref (ad (20, 17, 0)), .ref (ad (20, 18, 0)), .int (s_dg σ)])) := by rw [hk1]; exact h_cs _ _ _
  have hM1 : RM G ad k1 σ 0 := hM.obj f1_20_0_0 (fun t ht => by rw [hk1, h_cn _ _ ht])
  obtain ⟨hx, ⟨gP, eP, vP⟩, ⟨gS, eS, vS⟩, ⟨gU, eU, vU⟩, ⟨gD, eD, vD⟩, ⟨gA, eA, vA⟩, ⟨gK, eK, vK⟩, ⟨gN, eN, vN⟩, ⟨gZ, eZ, vZ⟩, ⟨gB, eB, vB⟩, ⟨g0, g1, g2, e15, e16, e17, v3⟩, ⟨gM, eM⟩, -⟩ := id hM1
  have hx : k1 (20, 0, 0) = some (.inr (4, [.int 0, .int (nI (s_cop σ)), .int (nI (s_nS σ)), .ref (ad (20, 3, 0)), .ref (ad (20, 4, 0)), .ref (ad (20, 5, 0)), .ref (ad (20, 6, 0)), .int (nI (s_col σ).length), .ref (ad (20, 8, 0)), .int (nI (s_nF σ)), .ref (ad (20, 10, 0)), .ref (ad (20, 11, 0)), .ref (ad (20, 12, 0)), .ref (ad (20, 13, 0)), .int (nI (s_as σ).length), .ref (ad (20, 15, 0)), .ref (ad (20, 16, 0)), .ref (ad (20, 17, 0)), .ref (ad (20, 18, 0)), .int (s_dg σ)])) := hx
  rcases hs : ix x (s_nS σ) with _ | s9
  · refine lv_aload_n X.1 X.2.1 dX4_rate_5 rfl (lv_at hl 0 rfl) ?_
    refine lv_iload_n X.1 X.2.1 dX4_rate_6 rfl (lv_at hl 1 rfl) ?_
    refine h_callRV (t := (20, 0, 0)) (As := [.int x]) (rest := []) X hw cs_X4_68 (c_X4_isStore l G hM1 x) hx rfl rfl hl.1 rfl (Nat.le_of_ble_eq_true rfl) ⟨by decide, by decide⟩ ⟨Nat.zero_le _, Nat.zero_le _⟩ dX4_rate_7 ?_
    refine h_tv (b := .int 0) (by rw [hs]; rfl) ?_
    refine lv_if_ne (tgt := 15) X.1 X.2.1 dX4_rate_10 (by decide) (fun c10 => ?_) (fun c10 => ?_)
    · exact absurd (by decide) c10
    · refine lv_iconst (v := (-1)) X.1 X.2.1 dX4_rate_13 (by decide) ?_
      exact h_iretW X Y hw ⟨rfl, rfl, hM1, fun t ht => by rw [hk1, h_cn _ _ (t_ne20 ht)]⟩ (Nat.zero_le _) (Nat.zero_le _) dX4_rate_14
  obtain rfl := ix_eq hs
  have hs9 := ix_lt hs
  dsimp only
  rcases h1 : decide ((1 : Int32) ≤ b ∧ b ≤ 1000) with _ | _
  · rw [if_pos (show b < 1 ∨ 1000 < b ∨ a < 0 ∨ b < a from by
      rcases Decidable.em (b < 1) with q | q
      · exact Or.inl q
      · rcases Decidable.em (1000 < b) with q2 | q2
        · exact Or.inr (Or.inl q2)
        · exact absurd ⟨i_le q, i_le q2⟩ (of_decide_eq_false h1))]
    refine lv_aload_n X.1 X.2.1 dX4_rate_5 rfl (lv_at hl 0 rfl) ?_
    refine lv_iload_n X.1 X.2.1 dX4_rate_6 rfl (lv_at hl 1 rfl) ?_
    refine h_callRV (t := (20, 0, 0)) (As := [.int (nI s9)]) (rest := []) X hw cs_X4_68 (c_X4_isStore l G hM1 (nI s9)) hx rfl rfl hl.1 rfl (Nat.le_of_ble_eq_true rfl) ⟨by decide, by decide⟩ ⟨Nat.zero_le _, Nat.zero_le _⟩ dX4_rate_7 ?_
    refine h_tv (b := .int 1) (by rw [hs]; rfl) ?_
    refine lv_if_ne (tgt := 15) X.1 X.2.1 dX4_rate_10 (by decide) (fun c10 => ?_) (fun c10 => ?_)
    · refine lv_iload_n X.1 X.2.1 dX4_rate_15 rfl (lv_at hl 3 rfl) ?_
      refine lv_iconst (v := 1) X.1 X.2.1 dX4_rate_16 (by decide) ?_
      refine lv_sipush (v := 1000) X.1 X.2.1 dX4_rate_17 (by decide) ?_
      refine h_callRS (As := [.int b, .int 1, .int 1000]) (rest := []) X hw cs_X4_61 (c_X4_in l G b 1 1000) rfl hl.1 rfl (Nat.le_of_ble_eq_true rfl) ⟨by decide, by decide⟩ ⟨Nat.zero_le _, Nat.zero_le _⟩ dX4_rate_20 ?_
      refine h_tv (b := .int 0) (by rw [h1]; rfl) ?_
      refine lv_if_eq (tgt := 35) X.1 X.2.1 dX4_rate_23 (by decide) (fun c23 => ?_) (fun c23 => ?_)
      · refine lv_bipush (v := (-2)) X.1 X.2.1 dX4_rate_35 (by decide) ?_
        exact h_iretW X Y hw ⟨rfl, rfl, hM1, fun t ht => by rw [hk1, h_cn _ _ (t_ne20 ht)]⟩ (Nat.zero_le _) (Nat.zero_le _) dX4_rate_37
      · exact absurd (by decide) c23
    · exact absurd c10 (by decide)
  have h1' := of_decide_eq_true h1
  rcases h2 : decide ((0 : Int32) ≤ a ∧ a ≤ b) with _ | _
  · rw [if_pos (show b < 1 ∨ 1000 < b ∨ a < 0 ∨ b < a from by
      rcases Decidable.em (a < 0) with q | q
      · exact Or.inr (Or.inr (Or.inl q))
      · rcases Decidable.em (b < a) with q2 | q2
        · exact Or.inr (Or.inr (Or.inr q2))
        · exact absurd ⟨i_le q, i_le q2⟩ (of_decide_eq_false h2))]
    refine lv_aload_n X.1 X.2.1 dX4_rate_5 rfl (lv_at hl 0 rfl) ?_
    refine lv_iload_n X.1 X.2.1 dX4_rate_6 rfl (lv_at hl 1 rfl) ?_
    refine h_callRV (t := (20, 0, 0)) (As := [.int (nI s9)]) (rest := []) X hw cs_X4_68 (c_X4_isStore l G hM1 (nI s9)) hx rfl rfl hl.1 rfl (Nat.le_of_ble_eq_true rfl) ⟨by decide, by decide⟩ ⟨Nat.zero_le _, Nat.zero_le _⟩ dX4_rate_7 ?_
    refine h_tv (b := .int 1) (by rw [hs]; rfl) ?_
    refine lv_if_ne (tgt := 15) X.1 X.2.1 dX4_rate_10 (by decide) (fun c10 => ?_) (fun c10 => ?_)
    · refine lv_iload_n X.1 X.2.1 dX4_rate_15 rfl (lv_at hl 3 rfl) ?_
      refine lv_iconst (v := 1) X.1 X.2.1 dX4_rate_16 (by decide) ?_
      refine lv_sipush (v := 1000) X.1 X.2.1 dX4_rate_17 (by decide) ?_
      refine h_callRS (As := [.int b, .int 1, .int 1000]) (rest := []) X hw cs_X4_61 (c_X4_in l G b 1 1000) rfl hl.1 rfl (Nat.le_of_ble_eq_true rfl) ⟨by decide, by decide⟩ ⟨Nat.zero_le _, Nat.zero_le _⟩ dX4_rate_20 ?_
      refine h_tv (b := .int 1) (by rw [h1]; rfl) ?_
      refine lv_if_eq (tgt := 35) X.1 X.2.1 dX4_rate_23 (by decide) (fun c23 => ?_) (fun c23 => ?_)
      · exact absurd c23 (by decide)
      · refine lv_iload_n X.1 X.2.1 dX4_rate_26 rfl (lv_at hl 2 rfl) ?_
        refine lv_iconst (v := 0) X.1 X.2.1 dX4_rate_27 (by decide) ?_
        refine lv_iload_n X.1 X.2.1 dX4_rate_28 rfl (lv_at hl 3 rfl) ?_
        refine h_callRS (As := [.int a, .int 0, .int b]) (rest := []) X hw cs_X4_61 (c_X4_in l G a 0 b) rfl hl.1 rfl (Nat.le_of_ble_eq_true rfl) ⟨by decide, by decide⟩ ⟨Nat.zero_le _, Nat.zero_le _⟩ dX4_rate_29 ?_
        refine h_tv (b := .int 0) (by rw [h2]; rfl) ?_
        refine lv_if_ne (tgt := 38) X.1 X.2.1 dX4_rate_32 (by decide) (fun c32 => ?_) (fun c32 => ?_)
        · exact absurd (by decide) c32
        · refine lv_bipush (v := (-2)) X.1 X.2.1 dX4_rate_35 (by decide) ?_
          exact h_iretW X Y hw ⟨rfl, rfl, hM1, fun t ht => by rw [hk1, h_cn _ _ (t_ne20 ht)]⟩ (Nat.zero_le _) (Nat.zero_le _) dX4_rate_37
    · exact absurd c10 (by decide)
  have h2' := of_decide_eq_true h2
  rw [if_neg (show ¬ (b < 1 ∨ 1000 < b ∨ a < 0 ∨ b < a) from by
    rintro (q | q | q | q)
    · exact i_nle q h1'.1
    · exact i_nle q h1'.2
    · exact i_nle q h2'.1
    · exact i_nle q h2'.2)]
  refine lv_aload_n X.1 X.2.1 dX4_rate_5 rfl (lv_at hl 0 rfl) ?_
  refine lv_iload_n X.1 X.2.1 dX4_rate_6 rfl (lv_at hl 1 rfl) ?_
  refine h_callRV (t := (20, 0, 0)) (As := [.int (nI s9)]) (rest := []) X hw cs_X4_68 (c_X4_isStore l G hM1 (nI s9)) hx rfl rfl hl.1 rfl (Nat.le_of_ble_eq_true rfl) ⟨by decide, by decide⟩ ⟨Nat.zero_le _, Nat.zero_le _⟩ dX4_rate_7 ?_
  refine h_tv (b := .int 1) (by rw [hs]; rfl) ?_
  refine lv_if_ne (tgt := 15) X.1 X.2.1 dX4_rate_10 (by decide) (fun c10 => ?_) (fun c10 => ?_)
  · refine lv_iload_n X.1 X.2.1 dX4_rate_15 rfl (lv_at hl 3 rfl) ?_
    refine lv_iconst (v := 1) X.1 X.2.1 dX4_rate_16 (by decide) ?_
    refine lv_sipush (v := 1000) X.1 X.2.1 dX4_rate_17 (by decide) ?_
    refine h_callRS (As := [.int b, .int 1, .int 1000]) (rest := []) X hw cs_X4_61 (c_X4_in l G b 1 1000) rfl hl.1 rfl (Nat.le_of_ble_eq_true rfl) ⟨by decide, by decide⟩ ⟨Nat.zero_le _, Nat.zero_le _⟩ dX4_rate_20 ?_
    refine h_tv (b := .int 1) (by rw [h1]; rfl) ?_
    refine lv_if_eq (tgt := 35) X.1 X.2.1 dX4_rate_23 (by decide) (fun c23 => ?_) (fun c23 => ?_)
    · exact absurd c23 (by decide)
    · refine lv_iload_n X.1 X.2.1 dX4_rate_26 rfl (lv_at hl 2 rfl) ?_
      refine lv_iconst (v := 0) X.1 X.2.1 dX4_rate_27 (by decide) ?_
      refine lv_iload_n X.1 X.2.1 dX4_rate_28 rfl (lv_at hl 3 rfl) ?_
      refine h_callRS (As := [.int a, .int 0, .int b]) (rest := []) X hw cs_X4_61 (c_X4_in l G a 0 b) rfl hl.1 rfl (Nat.le_of_ble_eq_true rfl) ⟨by decide, by decide⟩ ⟨Nat.zero_le _, Nat.zero_le _⟩ dX4_rate_29 ?_
      refine h_tv (b := .int 1) (by rw [h2]; rfl) ?_
      refine lv_if_ne (tgt := 38) X.1 X.2.1 dX4_rate_32 (by decide) (fun c32 => ?_) (fun c32 => ?_)
      · refine lv_aload_n X.1 X.2.1 dX4_rate_38 rfl (lv_at hl 0 rfl) ?_
        refine gf_X4_17 X hw hx rfl dX4_rate_39 ?_
        refine lv_iload_n X.1 X.2.1 dX4_rate_42 rfl (lv_at hl 1 rfl) ?_
        refine lv_iload_n X.1 X.2.1 dX4_rate_43 rfl (lv_at hl 2 rfl) ?_
        refine h_iast X hw eU (vp_in_nI (by omega) (by decide)) dX4_rate_44 (fun H locs hw => ?_)
        obtain ⟨k2, hk2⟩ : ∃ zz, zz = h_cu k1 (20, 5, 0) (some (.inl (G.2 0, 10, .inl (upd gU (nI s9).toNatClampNeg a)))) := ⟨_, rfl⟩
        replace hw := h_W.ren hw hk2
        have f2_20_0_0 : k2 (20, 0, 0) = some (.inr (4, [.int 0, .int (nI (s_cop σ)), .int (nI (s_nS σ)), .ref (ad (20, 3, 0)), .ref (ad (20, 4, 0)), .ref (ad (20, 5, 0)), .ref (ad (20, 6, 0)), .int (nI (s_col σ).length), .ref (ad (20, 8, 0)), .int (nI (s_nF σ)), .ref (ad (20, 10, 0)), .ref (ad (20, 11, 0)), .ref (ad (20, 12, 0)), .ref (ad (20, 13, 0)), .int (nI (s_as σ).length), .ref (ad (20, 15, 0)), .ref (ad (20, 16, 0)), .ref (ad (20, 17, 0)), .ref (ad (20, 18, 0)), .int (s_dg σ)])) := by rw [hk2, h_cn _ _ (by simp)]; exact hx
        have f2_20_5_0 : k2 (20, 5, 0) = some (.inl (G.2 0, 10, .inl (upd gU (nI s9).toNatClampNeg a))) := by rw [hk2]; exact h_cs _ _ _
        have f2_20_6_0 : k2 (20, 6, 0) = some (.inl (G.2 0, 10, .inl gD)) := by rw [hk2, h_cn _ _ (by simp)]; exact eD
        refine lv_aload_n X.1 X.2.1 dX4_rate_45 rfl (lv_at hl 0 rfl) ?_
        refine gf_X4_20 X hw f2_20_0_0 rfl dX4_rate_46 ?_
        refine lv_iload_n X.1 X.2.1 dX4_rate_49 rfl (lv_at hl 1 rfl) ?_
        refine lv_iload_n X.1 X.2.1 dX4_rate_50 rfl (lv_at hl 3 rfl) ?_
        refine h_iast X hw f2_20_6_0 (vp_in_nI (by omega) (by decide)) dX4_rate_51 (fun H locs hw => ?_)
        obtain ⟨k3, hk3⟩ : ∃ zz, zz = h_cu k2 (20, 6, 0) (some (.inl (G.2 0, 10, .inl (upd gD (nI s9).toNatClampNeg b)))) := ⟨_, rfl⟩
        replace hw := h_W.ren hw hk3
        have f3_20_0_0 : k3 (20, 0, 0) = some (.inr (4, [.int 0, .int (nI (s_cop σ)), .int (nI (s_nS σ)), .ref (ad (20, 3, 0)), .ref (ad (20, 4, 0)), .ref (ad (20, 5, 0)), .ref (ad (20, 6, 0)), .int (nI (s_col σ).length), .ref (ad (20, 8, 0)), .int (nI (s_nF σ)), .ref (ad (20, 10, 0)), .ref (ad (20, 11, 0)), .ref (ad (20, 12, 0)), .ref (ad (20, 13, 0)), .int (nI (s_as σ).length), .ref (ad (20, 15, 0)), .ref (ad (20, 16, 0)), .ref (ad (20, 17, 0)), .ref (ad (20, 18, 0)), .int (s_dg σ)])) := by rw [hk3, h_cn _ _ (by simp)]; exact f2_20_0_0
        have f3_20_5_0 : k3 (20, 5, 0) = some (.inl (G.2 0, 10, .inl (upd gU (nI s9).toNatClampNeg a))) := by rw [hk3, h_cn _ _ (by simp)]; exact f2_20_5_0
        have f3_20_6_0 : k3 (20, 6, 0) = some (.inl (G.2 0, 10, .inl (upd gD (nI s9).toNatClampNeg b))) := by rw [hk3]; exact h_cs _ _ _
        refine lv_iconst (v := 1) X.1 X.2.1 dX4_rate_52 (by decide) ?_
        have hO : ∀ t : h_T, t ≠ (20, 0, 0) → t ≠ (20, 5, 0) → t ≠ (20, 6, 0) → k3 t = k1 t := fun t n0 n1 n2 => by rw [hk3, h_cn _ _ n2, hk2, h_cn _ _ n1]
        exact h_iretW X Y hw ⟨rfl, rfl, ⟨f3_20_0_0, ⟨gP, (hO (20, 3, 0) (by simp) (by simp) (by simp)).trans eP, vP⟩, ⟨gS, (hO (20, 4, 0) (by simp) (by simp) (by simp)).trans eS, vS⟩, ⟨_, f3_20_5_0, fun s hs => by
          rw [nI_clamp (by omega)]
          show _ = upd (s_up σ) s9 a s
          by_cases q : s = s9
          · rw [q, pk_us, pk_us]
          · rw [pk_un q, pk_un q]; exact vU s hs⟩, ⟨_, f3_20_6_0, fun s hs => by
          rw [nI_clamp (by omega)]
          show _ = upd (s_dn σ) s9 b s
          by_cases q : s = s9
          · rw [q, pk_us, pk_us]
          · rw [pk_un q, pk_un q]; exact vD s hs⟩, ⟨gA, (hO (20, 8, 0) (by simp) (by simp) (by simp)).trans eA, vA⟩, ⟨gK, (hO (20, 10, 0) (by simp) (by simp) (by simp)).trans eK, vK⟩, ⟨gN, (hO (20, 11, 0) (by simp) (by simp) (by simp)).trans eN, vN⟩, ⟨gZ, (hO (20, 12, 0) (by simp) (by simp) (by simp)).trans eZ, vZ⟩, ⟨gB, (hO (20, 13, 0) (by simp) (by simp) (by simp)).trans eB, vB⟩, ⟨g0, g1, g2, (hO (20, 15, 0) (by simp) (by simp) (by simp)).trans e15, (hO (20, 16, 0) (by simp) (by simp) (by simp)).trans e16, (hO (20, 17, 0) (by simp) (by simp) (by simp)).trans e17, v3⟩, ⟨gM, (hO (20, 18, 0) (by simp) (by simp) (by simp)).trans eM⟩, ⟨hok.1, hok.2.1, hok.2.2.1, hok.2.2.2.1, hok.2.2.2.2.1, hok.2.2.2.2.2.1, hok.2.2.2.2.2.2.1, fun s hs => ⟨(hok.2.2.2.2.2.2.2.1 s hs).1, by
          have hs : s_nS σ ≤ s := hs
          show upd (s_up σ) s9 a s = 0
          rw [pk_un (by omega)]; exact (hok.2.2.2.2.2.2.2.1 s hs).2.1, by
          have hs : s_nS σ ≤ s := hs
          show upd (s_dn σ) s9 b s = 0
          rw [pk_un (by omega)]; exact (hok.2.2.2.2.2.2.2.1 s hs).2.2⟩, hok.2.2.2.2.2.2.2.2⟩⟩, fun t ht => by rw [hO t (t_ne20 ht) (t_ne20 ht) (t_ne20 ht), hk1, h_cn _ _ (t_ne20 ht)]⟩ (Nat.zero_le _) (Nat.zero_le _) dX4_rate_53
      · exact absurd c32 (by decide)
  · exact absurd c10 (by decide)
set_option maxHeartbeats 4000000 in
set_option maxRecDepth 100000 in
/-- lose -/
theorem c_X4_lose (l : Launch) (G : h_G) {ad : h_T → Nat} {k : h_C} {σ : S_t} {th : Int32} (hM : RM G ad k σ th) (x y : Int32) : h_Wr l yX4_lose cX4_lose 3 (some .int) 3 65 0 0 G ad k [.ref (ad (20, 0, 0)), .int x, .int y] (MPost G ad k (some (.int (sp_lose σ x y).1)) (sp_lose σ x y).2 0) := by
  refine h_wr (by decide +kernel) (Nat.le_of_ble_eq_true rfl) ?_
  intro p e s m args below meth c X Y hw ls hl
  have hl : lv_has ls 3 [(0, .ref (ad (20, 0, 0))), (1, .int x), (2, .int y)] := hl
  unfold sp_lose
  have hok := hM.ok
  have hnS : s_nS σ ≤ 10 := hok.2.1
  have hnF : s_nF σ ≤ 40 := hok.2.2.1
  have hx : k (20, 0, 0) = some (.inr (4, [.int th, .int (nI (s_cop σ)), .int (nI (s_nS σ)), .ref (ad (20, 3, 0)), .ref (ad (20, 4, 0)), .ref (ad (20, 5, 0)), .ref (ad (20, 6, 0)), .int (nI (s_col σ).length), .ref (ad (20, 8, 0)), .int (nI (s_nF σ)), .ref (ad (20, 10, 0)), .ref (ad (20, 11, 0)), .ref (ad (20, 12, 0)), .ref (ad (20, 13, 0)), .int (nI (s_as σ).length), .ref (ad (20, 15, 0)), .ref (ad (20, 16, 0)), .ref (ad (20, 17, 0)), .ref (ad (20, 18, 0)), .int (s_dg σ)])) := hM.1
  refine lv_aload_n X.1 X.2.1 dX4_lose_0 rfl (lv_at hl 0 rfl) ?_
  refine lv_iconst (v := 0) X.1 X.2.1 dX4_lose_1 (by decide) ?_
  refine pf_X4_55 X hw hx rfl rfl (Nat.le_of_ble_eq_true rfl) dX4_lose_2 (fun H locs hw => ?_)
  obtain ⟨k1, hk1⟩ : ∃ zz, zz = h_cu k (20, 0, 0) (some (.inr (4, [.int 0, .int (nI (s_cop σ)), .int (nI (s_nS σ)), .ref (ad (20, 3, 0)), .ref (ad (20, 4, 0)), .ref (ad (20, 5, 0)), .ref (ad (20, 6, 0)), .int (nI (s_col σ).length), .ref (ad (20, 8, 0)), .int (nI (s_nF σ)), .ref (ad (20, 10, 0)), .ref (ad (20, 11, 0)), .ref (ad (20, 12, 0)), .ref (ad (20, 13, 0)), .int (nI (s_as σ).length), .ref (ad (20, 15, 0)), .ref (ad (20, 16, 0)), .ref (ad (20, 17, 0)), .ref (ad (20, 18, 0)), .int (s_dg σ)]))) := ⟨_, rfl⟩
  replace hw := h_W.ren hw hk1
  have f1_20_0_0 : k1 (20, 0, 0) = some (.inr (4, [.int 0, .int (nI (s_cop σ)), .int (nI (s_nS σ)), .ref (ad (20, 3, 0)), .ref (ad (20, 4, 0)), .ref (ad (20, 5, 0)), .ref (ad (20, 6, 0)), .int (nI (s_col σ).length), .ref (ad (20, 8, 0)), .int (nI (s_nF σ)), .ref (ad (20, 10, 0)), .ref (ad (20, 11, 0)), .ref (ad (20, 12, 0)), .ref (ad (20, 13, 0)), .int (nI (s_as σ).length), .ref (ad (20, 15, 0)), .ref (ad (20, 16, 0)), .ref (ad (20, 17, 0)), .ref (ad (20, 18, 0)), .int (s_dg σ)])) := by rw [hk1]; exact h_cs _ _ _
  have hM1 : RM G ad k1 σ 0 := hM.obj f1_20_0_0 (fun t ht => by rw [hk1, h_cn _ _ ht])
  obtain ⟨hx, ⟨gP, eP, vP⟩, ⟨gS, eS, vS⟩, ⟨gU, eU, vU⟩, ⟨gD, eD, vD⟩, ⟨gA, eA, vA⟩, ⟨gK, eK, vK⟩, ⟨gN, eN, vN⟩, ⟨gZ, eZ, vZ⟩, ⟨gB, eB, vB⟩, ⟨g0, g1, g2, e15, e16, e17, v3⟩, ⟨gM, eM⟩, -⟩ := id hM1
  have hx : k1 (20, 0, 0) = some (.inr (4, [.int 0, .int (nI (s_cop σ)), .int (nI (s_nS σ)), .ref (ad (20, 3, 0)), .ref (ad (20, 4, 0)), .ref (ad (20, 5, 0)), .ref (ad (20, 6, 0)), .int (nI (s_col σ).length), .ref (ad (20, 8, 0)), .int (nI (s_nF σ)), .ref (ad (20, 10, 0)), .ref (ad (20, 11, 0)), .ref (ad (20, 12, 0)), .ref (ad (20, 13, 0)), .int (nI (s_as σ).length), .ref (ad (20, 15, 0)), .ref (ad (20, 16, 0)), .ref (ad (20, 17, 0)), .ref (ad (20, 18, 0)), .int (s_dg σ)])) := hx
  rcases ha : s_at σ x y with _ | ⟨s9, f, b⟩
  · refine lv_aload_n X.1 X.2.1 dX4_lose_5 rfl (lv_at hl 0 rfl) ?_
    refine lv_iload_n X.1 X.2.1 dX4_lose_6 rfl (lv_at hl 1 rfl) ?_
    refine lv_iload_n X.1 X.2.1 dX4_lose_7 rfl (lv_at hl 2 rfl) ?_
    refine h_callRV (t := (20, 0, 0)) (As := [.int x, .int y]) (rest := []) X hw cs_X4_75 (c_X4_has l G hM1 x y) hx rfl rfl hl.1 rfl (Nat.le_of_ble_eq_true rfl) ⟨by decide, by decide⟩ ⟨Nat.zero_le _, Nat.zero_le _⟩ dX4_lose_8 ?_
    refine h_tv (b := .int 0) (by rw [ha]; rfl) ?_
    refine lv_if_ne (tgt := 16) X.1 X.2.1 dX4_lose_11 (by decide) (fun c11 => ?_) (fun c11 => ?_)
    · exact absurd (by decide) c11
    · refine lv_iconst (v := (-1)) X.1 X.2.1 dX4_lose_14 (by decide) ?_
      exact h_iretW X Y hw ⟨rfl, rfl, hM1, fun t ht => by rw [hk1, h_cn _ _ (t_ne20 ht)]⟩ (Nat.zero_le _) (Nat.zero_le _) dX4_lose_15
  obtain ⟨rfl, rfl, hs9, hf9, hc, -, -⟩ := s_at_some ha
  have hbl := hok.2.2.2.2.2.2.1 _ _ _ hc
  dsimp only
  refine lv_aload_n X.1 X.2.1 dX4_lose_5 rfl (lv_at hl 0 rfl) ?_
  refine lv_iload_n X.1 X.2.1 dX4_lose_6 rfl (lv_at hl 1 rfl) ?_
  refine lv_iload_n X.1 X.2.1 dX4_lose_7 rfl (lv_at hl 2 rfl) ?_
  refine h_callRV (t := (20, 0, 0)) (As := [.int (nI s9), .int (nI f)]) (rest := []) X hw cs_X4_75 (c_X4_has l G hM1 (nI s9) (nI f)) hx rfl rfl hl.1 rfl (Nat.le_of_ble_eq_true rfl) ⟨by decide, by decide⟩ ⟨Nat.zero_le _, Nat.zero_le _⟩ dX4_lose_8 ?_
  refine h_tv (b := .int 1) (by rw [ha]; rfl) ?_
  refine lv_if_ne (tgt := 16) X.1 X.2.1 dX4_lose_11 (by decide) (fun c11 => ?_) (fun c11 => ?_)
  · refine lv_aload_n X.1 X.2.1 dX4_lose_16 rfl (lv_at hl 0 rfl) ?_
    refine gf_X4_33 X hw hx rfl dX4_lose_17 ?_
    refine lv_bipush (v := 40) X.1 X.2.1 dX4_lose_20 (by decide) ?_
    refine lv_iload_n X.1 X.2.1 dX4_lose_22 rfl (lv_at hl 1 rfl) ?_
    refine lv_imul X.1 X.2.1 dX4_lose_23 ?_
    refine h_ti (b := nI (40 * s9)) (pk_mul 40 s9) ?_
    refine lv_iload_n X.1 X.2.1 dX4_lose_24 rfl (lv_at hl 2 rfl) ?_
    refine lv_iadd X.1 X.2.1 dX4_lose_25 ?_
    refine h_ti (b := nI ((40 * s9) + f)) (nI_add (40 * s9) f) ?_
    refine lv_iconst (v := (-1)) X.1 X.2.1 dX4_lose_26 (by decide) ?_
    refine h_iast X hw eZ (vp_in_nI (by omega) (by decide)) dX4_lose_27 (fun H locs hw => ?_)
    obtain ⟨k2, hk2⟩ : ∃ zz, zz = h_cu k1 (20, 12, 0) (some (.inl (G.2 0, 400, .inl (upd gZ (nI (40 * s9 + f)).toNatClampNeg (-1))))) := ⟨_, rfl⟩
    replace hw := h_W.ren hw hk2
    have f2_20_0_0 : k2 (20, 0, 0) = some (.inr (4, [.int 0, .int (nI (s_cop σ)), .int (nI (s_nS σ)), .ref (ad (20, 3, 0)), .ref (ad (20, 4, 0)), .ref (ad (20, 5, 0)), .ref (ad (20, 6, 0)), .int (nI (s_col σ).length), .ref (ad (20, 8, 0)), .int (nI (s_nF σ)), .ref (ad (20, 10, 0)), .ref (ad (20, 11, 0)), .ref (ad (20, 12, 0)), .ref (ad (20, 13, 0)), .int (nI (s_as σ).length), .ref (ad (20, 15, 0)), .ref (ad (20, 16, 0)), .ref (ad (20, 17, 0)), .ref (ad (20, 18, 0)), .int (s_dg σ)])) := by rw [hk2, h_cn _ _ (by simp)]; exact hx
    have f2_20_12_0 : k2 (20, 12, 0) = some (.inl (G.2 0, 400, .inl (upd gZ (nI (40 * s9 + f)).toNatClampNeg (-1)))) := by rw [hk2]; exact h_cs _ _ _
    refine lv_iconst (v := 1) X.1 X.2.1 dX4_lose_28 (by decide) ?_
    have hO : ∀ t : h_T, t ≠ (20, 0, 0) → t ≠ (20, 12, 0) → k2 t = k1 t := fun t n0 n1 => by rw [hk2, h_cn _ _ n1]
    exact h_iretW X Y hw ⟨rfl, rfl, ⟨f2_20_0_0, ⟨gP, (hO (20, 3, 0) (by simp) (by simp)).trans eP, vP⟩, ⟨gS, (hO (20, 4, 0) (by simp) (by simp)).trans eS, vS⟩, ⟨gU, (hO (20, 5, 0) (by simp) (by simp)).trans eU, vU⟩, ⟨gD, (hO (20, 6, 0) (by simp) (by simp)).trans eD, vD⟩, ⟨gA, (hO (20, 8, 0) (by simp) (by simp)).trans eA, vA⟩, ⟨gK, (hO (20, 10, 0) (by simp) (by simp)).trans eK, vK⟩, ⟨gN, (hO (20, 11, 0) (by simp) (by simp)).trans eN, vN⟩, ⟨_, f2_20_12_0, by
      rw [nI_clamp (by omega)]
      exact mz_set vZ (by omega) (by omega) none⟩, ⟨gB, (hO (20, 13, 0) (by simp) (by simp)).trans eB, mb_set vB hok (by omega) (v := none) (fun _ _ => rfl) (fun l h => by cases h)⟩, ⟨g0, g1, g2, (hO (20, 15, 0) (by simp) (by simp)).trans e15, (hO (20, 16, 0) (by simp) (by simp)).trans e16, (hO (20, 17, 0) (by simp) (by simp)).trans e17, v3⟩, ⟨gM, (hO (20, 18, 0) (by simp) (by simp)).trans eM⟩, ok_setCp hok hs9 hf9 (fun l h => by cases h)⟩, fun t ht => by rw [hO t (t_ne20 ht) (t_ne20 ht), hk1, h_cn _ _ (t_ne20 ht)]⟩ (Nat.zero_le _) (Nat.zero_le _) dX4_lose_29
  · exact absurd c11 (by decide)
set_option maxHeartbeats 4000000 in
set_option maxRecDepth 100000 in
/-- cut -/
theorem c_X4_cut (l : Launch) (G : h_G) {ad : h_T → Nat} {k : h_C} {σ : S_t} {th : Int32} (hM : RM G ad k σ th) (x y n : Int32) : h_Wr l yX4_cut cX4_cut 5 (some .int) 3 65 0 0 G ad k [.ref (ad (20, 0, 0)), .int x, .int y, .int n] (MPost G ad k (some (.int (sp_cut σ x y n).1)) (sp_cut σ x y n).2 0) := by
  refine h_wr (by decide +kernel) (Nat.le_of_ble_eq_true rfl) ?_
  intro p e s m args below meth c X Y hw ls hl
  have hl : lv_has ls 5 [(0, .ref (ad (20, 0, 0))), (1, .int x), (2, .int y), (3, .int n)] := hl
  unfold sp_cut
  have hok := hM.ok
  have hnS : s_nS σ ≤ 10 := hok.2.1
  have hnF : s_nF σ ≤ 40 := hok.2.2.1
  have hx : k (20, 0, 0) = some (.inr (4, [.int th, .int (nI (s_cop σ)), .int (nI (s_nS σ)), .ref (ad (20, 3, 0)), .ref (ad (20, 4, 0)), .ref (ad (20, 5, 0)), .ref (ad (20, 6, 0)), .int (nI (s_col σ).length), .ref (ad (20, 8, 0)), .int (nI (s_nF σ)), .ref (ad (20, 10, 0)), .ref (ad (20, 11, 0)), .ref (ad (20, 12, 0)), .ref (ad (20, 13, 0)), .int (nI (s_as σ).length), .ref (ad (20, 15, 0)), .ref (ad (20, 16, 0)), .ref (ad (20, 17, 0)), .ref (ad (20, 18, 0)), .int (s_dg σ)])) := hM.1
  refine lv_aload_n X.1 X.2.1 dX4_cut_0 rfl (lv_at hl 0 rfl) ?_
  refine lv_iconst (v := 0) X.1 X.2.1 dX4_cut_1 (by decide) ?_
  refine pf_X4_55 X hw hx rfl rfl (Nat.le_of_ble_eq_true rfl) dX4_cut_2 (fun H locs hw => ?_)
  obtain ⟨k1, hk1⟩ : ∃ zz, zz = h_cu k (20, 0, 0) (some (.inr (4, [.int 0, .int (nI (s_cop σ)), .int (nI (s_nS σ)), .ref (ad (20, 3, 0)), .ref (ad (20, 4, 0)), .ref (ad (20, 5, 0)), .ref (ad (20, 6, 0)), .int (nI (s_col σ).length), .ref (ad (20, 8, 0)), .int (nI (s_nF σ)), .ref (ad (20, 10, 0)), .ref (ad (20, 11, 0)), .ref (ad (20, 12, 0)), .ref (ad (20, 13, 0)), .int (nI (s_as σ).length), .ref (ad (20, 15, 0)), .ref (ad (20, 16, 0)), .ref (ad (20, 17, 0)), .ref (ad (20, 18, 0)), .int (s_dg σ)]))) := ⟨_, rfl⟩
  replace hw := h_W.ren hw hk1
  have f1_20_0_0 : k1 (20, 0, 0) = some (.inr (4, [.int 0, .int (nI (s_cop σ)), .int (nI (s_nS σ)), .ref (ad (20, 3, 0)), .ref (ad (20, 4, 0)), .ref (ad (20, 5, 0)), .ref (ad (20, 6, 0)), .int (nI (s_col σ).length), .ref (ad (20, 8, 0)), .int (nI (s_nF σ)), .ref (ad (20, 10, 0)), .ref (ad (20, 11, 0)), .ref (ad (20, 12, 0)), .ref (ad (20, 13, 0)), .int (nI (s_as σ).length), .ref (ad (20, 15, 0)), .ref (ad (20, 16, 0)), .ref (ad (20, 17, 0)), .ref (ad (20, 18, 0)), .int (s_dg σ)])) := by rw [hk1]; exact h_cs _ _ _
  have hM1 : RM G ad k1 σ 0 := hM.obj f1_20_0_0 (fun t ht => by rw [hk1, h_cn _ _ ht])
  obtain ⟨hx, ⟨gP, eP, vP⟩, ⟨gS, eS, vS⟩, ⟨gU, eU, vU⟩, ⟨gD, eD, vD⟩, ⟨gA, eA, vA⟩, ⟨gK, eK, vK⟩, ⟨gN, eN, vN⟩, ⟨gZ, eZ, vZ⟩, ⟨gB, eB, vB⟩, ⟨g0, g1, g2, e15, e16, e17, v3⟩, ⟨gM, eM⟩, -⟩ := id hM1
  have hx : k1 (20, 0, 0) = some (.inr (4, [.int 0, .int (nI (s_cop σ)), .int (nI (s_nS σ)), .ref (ad (20, 3, 0)), .ref (ad (20, 4, 0)), .ref (ad (20, 5, 0)), .ref (ad (20, 6, 0)), .int (nI (s_col σ).length), .ref (ad (20, 8, 0)), .int (nI (s_nF σ)), .ref (ad (20, 10, 0)), .ref (ad (20, 11, 0)), .ref (ad (20, 12, 0)), .ref (ad (20, 13, 0)), .int (nI (s_as σ).length), .ref (ad (20, 15, 0)), .ref (ad (20, 16, 0)), .ref (ad (20, 17, 0)), .ref (ad (20, 18, 0)), .int (s_dg σ)])) := hx
  rcases ha : s_at σ x y with _ | ⟨s9, f, b⟩
  · refine lv_aload_n X.1 X.2.1 dX4_cut_5 rfl (lv_at hl 0 rfl) ?_
    refine lv_iload_n X.1 X.2.1 dX4_cut_6 rfl (lv_at hl 1 rfl) ?_
    refine lv_iload_n X.1 X.2.1 dX4_cut_7 rfl (lv_at hl 2 rfl) ?_
    refine h_callRV (t := (20, 0, 0)) (As := [.int x, .int y]) (rest := []) X hw cs_X4_75 (c_X4_has l G hM1 x y) hx rfl rfl hl.1 rfl (Nat.le_of_ble_eq_true rfl) ⟨by decide, by decide⟩ ⟨Nat.zero_le _, Nat.zero_le _⟩ dX4_cut_8 ?_
    refine h_tv (b := .int 0) (by rw [ha]; rfl) ?_
    refine lv_if_ne (tgt := 16) X.1 X.2.1 dX4_cut_11 (by decide) (fun c11 => ?_) (fun c11 => ?_)
    · exact absurd (by decide) c11
    · refine lv_iconst (v := (-1)) X.1 X.2.1 dX4_cut_14 (by decide) ?_
      exact h_iretW X Y hw ⟨rfl, rfl, hM1, fun t ht => by rw [hk1, h_cn _ _ (t_ne20 ht)]⟩ (Nat.zero_le _) (Nat.zero_le _) dX4_cut_15
  obtain ⟨rfl, rfl, hs9, hf9, hc, -, -⟩ := s_at_some ha
  have hbl := hok.2.2.2.2.2.2.1 _ _ _ hc
  dsimp only
  rcases hn : ix n (b.length + 1) with _ | j
  · refine lv_aload_n X.1 X.2.1 dX4_cut_5 rfl (lv_at hl 0 rfl) ?_
    refine lv_iload_n X.1 X.2.1 dX4_cut_6 rfl (lv_at hl 1 rfl) ?_
    refine lv_iload_n X.1 X.2.1 dX4_cut_7 rfl (lv_at hl 2 rfl) ?_
    refine h_callRV (t := (20, 0, 0)) (As := [.int (nI s9), .int (nI f)]) (rest := []) X hw cs_X4_75 (c_X4_has l G hM1 (nI s9) (nI f)) hx rfl rfl hl.1 rfl (Nat.le_of_ble_eq_true rfl) ⟨by decide, by decide⟩ ⟨Nat.zero_le _, Nat.zero_le _⟩ dX4_cut_8 ?_
    refine h_tv (b := .int 1) (by rw [ha]; rfl) ?_
    refine lv_if_ne (tgt := 16) X.1 X.2.1 dX4_cut_11 (by decide) (fun c11 => ?_) (fun c11 => ?_)
    · refine lv_aload_n X.1 X.2.1 dX4_cut_16 rfl (lv_at hl 0 rfl) ?_
      refine gf_X4_33 X hw hx rfl dX4_cut_17 ?_
      refine lv_bipush (v := 40) X.1 X.2.1 dX4_cut_20 (by decide) ?_
      refine lv_iload_n X.1 X.2.1 dX4_cut_22 rfl (lv_at hl 1 rfl) ?_
      refine lv_imul X.1 X.2.1 dX4_cut_23 ?_
      refine h_ti (b := nI (40 * s9)) (pk_mul 40 s9) ?_
      refine lv_iload_n X.1 X.2.1 dX4_cut_24 rfl (lv_at hl 2 rfl) ?_
      refine lv_iadd X.1 X.2.1 dX4_cut_25 ?_
      refine h_ti (b := nI ((40 * s9) + f)) (nI_add (40 * s9) f) ?_
      refine h_iald X hw eZ (vp_in_nI (by omega) (by decide)) dX4_cut_26 ?_
      refine h_tv (b := .int (nI b.length)) (by rw [nI_clamp (by omega), vZ s9 f (by omega) (by omega), msz_s hc]) ?_
      refine lv_istore (lv' := [(4, .int (nI b.length)), (0, .ref (ad (20, 0, 0))), (1, .int (nI s9)), (2, .int (nI f)), (3, .int n)]) X.1 X.2.1 dX4_cut_27 hl (by decide) rfl (fun ls hl => ?_)
      refine lv_iload_n X.1 X.2.1 dX4_cut_29 rfl (lv_at hl 4 rfl) ?_
      refine lv_iconst (v := 0) X.1 X.2.1 dX4_cut_30 (by decide) ?_
      refine lv_iload X.1 X.2.1 dX4_cut_31 (lv_at hl 0 rfl) ?_
      refine h_callRS (As := [.int n, .int 0, .int (nI b.length)]) (rest := []) X hw cs_X4_61 (c_X4_in l G n 0 (nI b.length)) rfl hl.1 rfl (Nat.le_of_ble_eq_true rfl) ⟨by decide, by decide⟩ ⟨Nat.zero_le _, Nat.zero_le _⟩ dX4_cut_33 ?_
      refine h_tv (b := .int 0) (by rw [in_ix' (by omega), hn]; rfl) ?_
      refine lv_if_ne (tgt := 42) X.1 X.2.1 dX4_cut_36 (by decide) (fun c36 => ?_) (fun c36 => ?_)
      · exact absurd (by decide) c36
      · refine lv_bipush (v := (-2)) X.1 X.2.1 dX4_cut_39 (by decide) ?_
        exact h_iretW X Y hw ⟨rfl, rfl, hM1, fun t ht => by rw [hk1, h_cn _ _ (t_ne20 ht)]⟩ (Nat.zero_le _) (Nat.zero_le _) dX4_cut_41
    · exact absurd c11 (by decide)
  obtain rfl := ix_eq hn
  have hj := ix_lt hn
  dsimp only
  refine lv_aload_n X.1 X.2.1 dX4_cut_5 rfl (lv_at hl 0 rfl) ?_
  refine lv_iload_n X.1 X.2.1 dX4_cut_6 rfl (lv_at hl 1 rfl) ?_
  refine lv_iload_n X.1 X.2.1 dX4_cut_7 rfl (lv_at hl 2 rfl) ?_
  refine h_callRV (t := (20, 0, 0)) (As := [.int (nI s9), .int (nI f)]) (rest := []) X hw cs_X4_75 (c_X4_has l G hM1 (nI s9) (nI f)) hx rfl rfl hl.1 rfl (Nat.le_of_ble_eq_true rfl) ⟨by decide, by decide⟩ ⟨Nat.zero_le _, Nat.zero_le _⟩ dX4_cut_8 ?_
  refine h_tv (b := .int 1) (by rw [ha]; rfl) ?_
  refine lv_if_ne (tgt := 16) X.1 X.2.1 dX4_cut_11 (by decide) (fun c11 => ?_) (fun c11 => ?_)
  · refine lv_aload_n X.1 X.2.1 dX4_cut_16 rfl (lv_at hl 0 rfl) ?_
    refine gf_X4_33 X hw hx rfl dX4_cut_17 ?_
    refine lv_bipush (v := 40) X.1 X.2.1 dX4_cut_20 (by decide) ?_
    refine lv_iload_n X.1 X.2.1 dX4_cut_22 rfl (lv_at hl 1 rfl) ?_
    refine lv_imul X.1 X.2.1 dX4_cut_23 ?_
    refine h_ti (b := nI (40 * s9)) (pk_mul 40 s9) ?_
    refine lv_iload_n X.1 X.2.1 dX4_cut_24 rfl (lv_at hl 2 rfl) ?_
    refine lv_iadd X.1 X.2.1 dX4_cut_25 ?_
    refine h_ti (b := nI ((40 * s9) + f)) (nI_add (40 * s9) f) ?_
    refine h_iald X hw eZ (vp_in_nI (by omega) (by decide)) dX4_cut_26 ?_
    refine h_tv (b := .int (nI b.length)) (by rw [nI_clamp (by omega), vZ s9 f (by omega) (by omega), msz_s hc]) ?_
    refine lv_istore (lv' := [(4, .int (nI b.length)), (0, .ref (ad (20, 0, 0))), (1, .int (nI s9)), (2, .int (nI f)), (3, .int (nI j))]) X.1 X.2.1 dX4_cut_27 hl (by decide) rfl (fun ls hl => ?_)
    refine lv_iload_n X.1 X.2.1 dX4_cut_29 rfl (lv_at hl 4 rfl) ?_
    refine lv_iconst (v := 0) X.1 X.2.1 dX4_cut_30 (by decide) ?_
    refine lv_iload X.1 X.2.1 dX4_cut_31 (lv_at hl 0 rfl) ?_
    refine h_callRS (As := [.int (nI j), .int 0, .int (nI b.length)]) (rest := []) X hw cs_X4_61 (c_X4_in l G (nI j) 0 (nI b.length)) rfl hl.1 rfl (Nat.le_of_ble_eq_true rfl) ⟨by decide, by decide⟩ ⟨Nat.zero_le _, Nat.zero_le _⟩ dX4_cut_33 ?_
    refine h_tv (b := .int 1) (by rw [in_ix' (by omega), hn]; rfl) ?_
    refine lv_if_ne (tgt := 42) X.1 X.2.1 dX4_cut_36 (by decide) (fun c36 => ?_) (fun c36 => ?_)
    · refine lv_aload_n X.1 X.2.1 dX4_cut_42 rfl (lv_at hl 1 rfl) ?_
      refine gf_X4_33 X hw hx rfl dX4_cut_43 ?_
      refine lv_bipush (v := 40) X.1 X.2.1 dX4_cut_46 (by decide) ?_
      refine lv_iload_n X.1 X.2.1 dX4_cut_48 rfl (lv_at hl 2 rfl) ?_
      refine lv_imul X.1 X.2.1 dX4_cut_49 ?_
      refine h_ti (b := nI (40 * s9)) (pk_mul 40 s9) ?_
      refine lv_iload_n X.1 X.2.1 dX4_cut_50 rfl (lv_at hl 3 rfl) ?_
      refine lv_iadd X.1 X.2.1 dX4_cut_51 ?_
      refine h_ti (b := nI ((40 * s9) + f)) (nI_add (40 * s9) f) ?_
      refine lv_iload_n X.1 X.2.1 dX4_cut_52 rfl (lv_at hl 4 rfl) ?_
      refine h_iast X hw eZ (vp_in_nI (by omega) (by decide)) dX4_cut_53 (fun H locs hw => ?_)
      obtain ⟨k2, hk2⟩ : ∃ zz, zz = h_cu k1 (20, 12, 0) (some (.inl (G.2 0, 400, .inl (upd gZ (nI (40 * s9 + f)).toNatClampNeg (nI j))))) := ⟨_, rfl⟩
      replace hw := h_W.ren hw hk2
      have f2_20_0_0 : k2 (20, 0, 0) = some (.inr (4, [.int 0, .int (nI (s_cop σ)), .int (nI (s_nS σ)), .ref (ad (20, 3, 0)), .ref (ad (20, 4, 0)), .ref (ad (20, 5, 0)), .ref (ad (20, 6, 0)), .int (nI (s_col σ).length), .ref (ad (20, 8, 0)), .int (nI (s_nF σ)), .ref (ad (20, 10, 0)), .ref (ad (20, 11, 0)), .ref (ad (20, 12, 0)), .ref (ad (20, 13, 0)), .int (nI (s_as σ).length), .ref (ad (20, 15, 0)), .ref (ad (20, 16, 0)), .ref (ad (20, 17, 0)), .ref (ad (20, 18, 0)), .int (s_dg σ)])) := by rw [hk2, h_cn _ _ (by simp)]; exact hx
      have f2_20_12_0 : k2 (20, 12, 0) = some (.inl (G.2 0, 400, .inl (upd gZ (nI (40 * s9 + f)).toNatClampNeg (nI j)))) := by rw [hk2]; exact h_cs _ _ _
      refine lv_iload X.1 X.2.1 dX4_cut_54 (lv_at hl 0 rfl) ?_
      refine lv_iload_n X.1 X.2.1 dX4_cut_56 rfl (lv_at hl 4 rfl) ?_
      refine lv_isub X.1 X.2.1 dX4_cut_57 ?_
      have hO : ∀ t : h_T, t ≠ (20, 0, 0) → t ≠ (20, 12, 0) → k2 t = k1 t := fun t n0 n1 => by rw [hk2, h_cn _ _ n1]
      exact h_iretW X Y hw ⟨congrArg (fun z => some (Value.int z)) (pk_sub (by omega)), rfl, ⟨f2_20_0_0, ⟨gP, (hO (20, 3, 0) (by simp) (by simp)).trans eP, vP⟩, ⟨gS, (hO (20, 4, 0) (by simp) (by simp)).trans eS, vS⟩, ⟨gU, (hO (20, 5, 0) (by simp) (by simp)).trans eU, vU⟩, ⟨gD, (hO (20, 6, 0) (by simp) (by simp)).trans eD, vD⟩, ⟨gA, (hO (20, 8, 0) (by simp) (by simp)).trans eA, vA⟩, ⟨gK, (hO (20, 10, 0) (by simp) (by simp)).trans eK, vK⟩, ⟨gN, (hO (20, 11, 0) (by simp) (by simp)).trans eN, vN⟩, ⟨_, f2_20_12_0, by
        rw [nI_clamp (by omega)]
        have hq := mz_set vZ (s := s9) (f := f) (by omega) (by omega) (some (b.take j))
        rw [show m_zo (some (b.take j)) = nI j by show nI (b.take j).length = _; rw [List.length_take, Nat.min_eq_left (by omega)]] at hq
        exact hq⟩, ⟨gB, (hO (20, 13, 0) (by simp) (by simp)).trans eB, mb_set vB hok (by omega) (v := some (b.take j)) (fun _ _ => rfl) (fun l h i hi => by
        cases h
        have hi2 : i < j := by rw [List.length_take] at hi; omega
        rw [vB s9 f b hc i (by omega), List.getD_eq_getElem?_getD, List.getD_eq_getElem?_getD, List.getElem?_take_of_lt hi2])⟩, ⟨g0, g1, g2, (hO (20, 15, 0) (by simp) (by simp)).trans e15, (hO (20, 16, 0) (by simp) (by simp)).trans e16, (hO (20, 17, 0) (by simp) (by simp)).trans e17, v3⟩, ⟨gM, (hO (20, 18, 0) (by simp) (by simp)).trans eM⟩, ok_setCp hok hs9 hf9 (fun l h => by cases h; rw [List.length_take]; omega)⟩, fun t ht => by rw [hO t (t_ne20 ht) (t_ne20 ht), hk1, h_cn _ _ (t_ne20 ht)]⟩ (Nat.zero_le _) (Nat.zero_le _) dX4_cut_58
    · exact absurd c36 (by decide)
  · exact absurd c11 (by decide)
set_option maxHeartbeats 4000000 in
set_option maxRecDepth 100000 in
/-- alter -/
theorem c_X4_alter (l : Launch) (G : h_G) {ad : h_T → Nat} {k : h_C} {σ : S_t} {th : Int32} (hM : RM G ad k σ th) (x y i v : Int32) : h_Wr l yX4_alter cX4_alter 7 (some .int) 3 65 0 0 G ad k [.ref (ad (20, 0, 0)), .int x, .int y, .int i, .int v] (MPost G ad k (some (.int (sp_alter σ x y i v).1)) (sp_alter σ x y i v).2 0) := by
  refine h_wr (by decide +kernel) (Nat.le_of_ble_eq_true rfl) ?_
  intro p e s m args below meth c X Y hw ls hl
  have hl : lv_has ls 7 [(0, .ref (ad (20, 0, 0))), (1, .int x), (2, .int y), (3, .int i), (4, .int v)] := hl
  unfold sp_alter
  have hok := hM.ok
  have hnS : s_nS σ ≤ 10 := hok.2.1
  have hnF : s_nF σ ≤ 40 := hok.2.2.1
  have hx : k (20, 0, 0) = some (.inr (4, [.int th, .int (nI (s_cop σ)), .int (nI (s_nS σ)), .ref (ad (20, 3, 0)), .ref (ad (20, 4, 0)), .ref (ad (20, 5, 0)), .ref (ad (20, 6, 0)), .int (nI (s_col σ).length), .ref (ad (20, 8, 0)), .int (nI (s_nF σ)), .ref (ad (20, 10, 0)), .ref (ad (20, 11, 0)), .ref (ad (20, 12, 0)), .ref (ad (20, 13, 0)), .int (nI (s_as σ).length), .ref (ad (20, 15, 0)), .ref (ad (20, 16, 0)), .ref (ad (20, 17, 0)), .ref (ad (20, 18, 0)), .int (s_dg σ)])) := hM.1
  refine lv_aload_n X.1 X.2.1 dX4_alter_0 rfl (lv_at hl 0 rfl) ?_
  refine lv_iconst (v := 0) X.1 X.2.1 dX4_alter_1 (by decide) ?_
  refine pf_X4_55 X hw hx rfl rfl (Nat.le_of_ble_eq_true rfl) dX4_alter_2 (fun H locs hw => ?_)
  obtain ⟨k1, hk1⟩ : ∃ zz, zz = h_cu k (20, 0, 0) (some (.inr (4, [.int 0, .int (nI (s_cop σ)), .int (nI (s_nS σ)), .ref (ad (20, 3, 0)), .ref (ad (20, 4, 0)), .ref (ad (20, 5, 0)), .ref (ad (20, 6, 0)), .int (nI (s_col σ).length), .ref (ad (20, 8, 0)), .int (nI (s_nF σ)), .ref (ad (20, 10, 0)), .ref (ad (20, 11, 0)), .ref (ad (20, 12, 0)), .ref (ad (20, 13, 0)), .int (nI (s_as σ).length), .ref (ad (20, 15, 0)), .ref (ad (20, 16, 0)), .ref (ad (20, 17, 0)), .ref (ad (20, 18, 0)), .int (s_dg σ)]))) := ⟨_, rfl⟩
  replace hw := h_W.ren hw hk1
  have f1_20_0_0 : k1 (20, 0, 0) = some (.inr (4, [.int 0, .int (nI (s_cop σ)), .int (nI (s_nS σ)), .ref (ad (20, 3, 0)), .ref (ad (20, 4, 0)), .ref (ad (20, 5, 0)), .ref (ad (20, 6, 0)), .int (nI (s_col σ).length), .ref (ad (20, 8, 0)), .int (nI (s_nF σ)), .ref (ad (20, 10, 0)), .ref (ad (20, 11, 0)), .ref (ad (20, 12, 0)), .ref (ad (20, 13, 0)), .int (nI (s_as σ).length), .ref (ad (20, 15, 0)), .ref (ad (20, 16, 0)), .ref (ad (20, 17, 0)), .ref (ad (20, 18, 0)), .int (s_dg σ)])) := by rw [hk1]; exact h_cs _ _ _
  have hM1 : RM G ad k1 σ 0 := hM.obj f1_20_0_0 (fun t ht => by rw [hk1, h_cn _ _ ht])
  obtain ⟨hx, ⟨gP, eP, vP⟩, ⟨gS, eS, vS⟩, ⟨gU, eU, vU⟩, ⟨gD, eD, vD⟩, ⟨gA, eA, vA⟩, ⟨gK, eK, vK⟩, ⟨gN, eN, vN⟩, ⟨gZ, eZ, vZ⟩, ⟨gB, eB, vB⟩, ⟨g0, g1, g2, e15, e16, e17, v3⟩, ⟨gM, eM⟩, -⟩ := id hM1
  have hx : k1 (20, 0, 0) = some (.inr (4, [.int 0, .int (nI (s_cop σ)), .int (nI (s_nS σ)), .ref (ad (20, 3, 0)), .ref (ad (20, 4, 0)), .ref (ad (20, 5, 0)), .ref (ad (20, 6, 0)), .int (nI (s_col σ).length), .ref (ad (20, 8, 0)), .int (nI (s_nF σ)), .ref (ad (20, 10, 0)), .ref (ad (20, 11, 0)), .ref (ad (20, 12, 0)), .ref (ad (20, 13, 0)), .int (nI (s_as σ).length), .ref (ad (20, 15, 0)), .ref (ad (20, 16, 0)), .ref (ad (20, 17, 0)), .ref (ad (20, 18, 0)), .int (s_dg σ)])) := hx
  rcases ha : s_at σ x y with _ | ⟨s9, f, b⟩
  · refine lv_aload_n X.1 X.2.1 dX4_alter_5 rfl (lv_at hl 0 rfl) ?_
    refine lv_iload_n X.1 X.2.1 dX4_alter_6 rfl (lv_at hl 1 rfl) ?_
    refine lv_iload_n X.1 X.2.1 dX4_alter_7 rfl (lv_at hl 2 rfl) ?_
    refine h_callRV (t := (20, 0, 0)) (As := [.int x, .int y]) (rest := []) X hw cs_X4_75 (c_X4_has l G hM1 x y) hx rfl rfl hl.1 rfl (Nat.le_of_ble_eq_true rfl) ⟨by decide, by decide⟩ ⟨Nat.zero_le _, Nat.zero_le _⟩ dX4_alter_8 ?_
    refine h_tv (b := .int 0) (by rw [ha]; rfl) ?_
    refine lv_if_eq (tgt := 35) X.1 X.2.1 dX4_alter_11 (by decide) (fun c11 => ?_) (fun c11 => ?_)
    · refine lv_iconst (v := (-1)) X.1 X.2.1 dX4_alter_35 (by decide) ?_
      exact h_iretW X Y hw ⟨rfl, rfl, hM1, fun t ht => by rw [hk1, h_cn _ _ (t_ne20 ht)]⟩ (Nat.zero_le _) (Nat.zero_le _) dX4_alter_36
    · exact absurd (by decide) c11
  obtain ⟨rfl, rfl, hs9, hf9, hc, -, -⟩ := s_at_some ha
  have hbl := hok.2.2.2.2.2.2.1 _ _ _ hc
  dsimp only
  rcases hn : ix i b.length with _ | j
  · refine lv_aload_n X.1 X.2.1 dX4_alter_5 rfl (lv_at hl 0 rfl) ?_
    refine lv_iload_n X.1 X.2.1 dX4_alter_6 rfl (lv_at hl 1 rfl) ?_
    refine lv_iload_n X.1 X.2.1 dX4_alter_7 rfl (lv_at hl 2 rfl) ?_
    refine h_callRV (t := (20, 0, 0)) (As := [.int (nI s9), .int (nI f)]) (rest := []) X hw cs_X4_75 (c_X4_has l G hM1 (nI s9) (nI f)) hx rfl rfl hl.1 rfl (Nat.le_of_ble_eq_true rfl) ⟨by decide, by decide⟩ ⟨Nat.zero_le _, Nat.zero_le _⟩ dX4_alter_8 ?_
    refine h_tv (b := .int 1) (by rw [ha]; rfl) ?_
    refine lv_if_eq (tgt := 35) X.1 X.2.1 dX4_alter_11 (by decide) (fun c11 => ?_) (fun c11 => ?_)
    · exact absurd c11 (by decide)
    · refine lv_iload_n X.1 X.2.1 dX4_alter_14 rfl (lv_at hl 3 rfl) ?_
      refine lv_iconst (v := 0) X.1 X.2.1 dX4_alter_15 (by decide) ?_
      refine lv_aload_n X.1 X.2.1 dX4_alter_16 rfl (lv_at hl 0 rfl) ?_
      refine gf_X4_33 X hw hx rfl dX4_alter_17 ?_
      refine lv_bipush (v := 40) X.1 X.2.1 dX4_alter_20 (by decide) ?_
      refine lv_iload_n X.1 X.2.1 dX4_alter_22 rfl (lv_at hl 1 rfl) ?_
      refine lv_imul X.1 X.2.1 dX4_alter_23 ?_
      refine h_ti (b := nI (40 * s9)) (pk_mul 40 s9) ?_
      refine lv_iload_n X.1 X.2.1 dX4_alter_24 rfl (lv_at hl 2 rfl) ?_
      refine lv_iadd X.1 X.2.1 dX4_alter_25 ?_
      refine h_ti (b := nI ((40 * s9) + f)) (nI_add (40 * s9) f) ?_
      refine h_iald X hw eZ (vp_in_nI (by omega) (by decide)) dX4_alter_26 ?_
      refine h_tv (b := .int (nI b.length)) (by rw [nI_clamp (by omega), vZ s9 f (by omega) (by omega), msz_s hc]) ?_
      refine lv_iconst (v := 1) X.1 X.2.1 dX4_alter_27 (by decide) ?_
      refine lv_isub X.1 X.2.1 dX4_alter_28 ?_
      refine h_callRS (As := [.int i, .int 0, .int (nI b.length - 1)]) (rest := []) X hw cs_X4_61 (c_X4_in l G i 0 (nI b.length - 1)) rfl hl.1 rfl (Nat.le_of_ble_eq_true rfl) ⟨by decide, by decide⟩ ⟨Nat.zero_le _, Nat.zero_le _⟩ dX4_alter_29 ?_
      refine h_tv (b := .int 0) (by rw [in_ix (by omega), hn]; rfl) ?_
      refine lv_if_ne (tgt := 37) X.1 X.2.1 dX4_alter_32 (by decide) (fun c32 => ?_) (fun c32 => ?_)
      · exact absurd (by decide) c32
      · refine lv_iconst (v := (-1)) X.1 X.2.1 dX4_alter_35 (by decide) ?_
        exact h_iretW X Y hw ⟨rfl, rfl, hM1, fun t ht => by rw [hk1, h_cn _ _ (t_ne20 ht)]⟩ (Nat.zero_le _) (Nat.zero_le _) dX4_alter_36
  obtain rfl := ix_eq hn
  have hj := ix_lt hn
  dsimp only
  refine lv_aload_n X.1 X.2.1 dX4_alter_5 rfl (lv_at hl 0 rfl) ?_
  refine lv_iload_n X.1 X.2.1 dX4_alter_6 rfl (lv_at hl 1 rfl) ?_
  refine lv_iload_n X.1 X.2.1 dX4_alter_7 rfl (lv_at hl 2 rfl) ?_
  refine h_callRV (t := (20, 0, 0)) (As := [.int (nI s9), .int (nI f)]) (rest := []) X hw cs_X4_75 (c_X4_has l G hM1 (nI s9) (nI f)) hx rfl rfl hl.1 rfl (Nat.le_of_ble_eq_true rfl) ⟨by decide, by decide⟩ ⟨Nat.zero_le _, Nat.zero_le _⟩ dX4_alter_8 ?_
  refine h_tv (b := .int 1) (by rw [ha]; rfl) ?_
  refine lv_if_eq (tgt := 35) X.1 X.2.1 dX4_alter_11 (by decide) (fun c11 => ?_) (fun c11 => ?_)
  · exact absurd c11 (by decide)
  · refine lv_iload_n X.1 X.2.1 dX4_alter_14 rfl (lv_at hl 3 rfl) ?_
    refine lv_iconst (v := 0) X.1 X.2.1 dX4_alter_15 (by decide) ?_
    refine lv_aload_n X.1 X.2.1 dX4_alter_16 rfl (lv_at hl 0 rfl) ?_
    refine gf_X4_33 X hw hx rfl dX4_alter_17 ?_
    refine lv_bipush (v := 40) X.1 X.2.1 dX4_alter_20 (by decide) ?_
    refine lv_iload_n X.1 X.2.1 dX4_alter_22 rfl (lv_at hl 1 rfl) ?_
    refine lv_imul X.1 X.2.1 dX4_alter_23 ?_
    refine h_ti (b := nI (40 * s9)) (pk_mul 40 s9) ?_
    refine lv_iload_n X.1 X.2.1 dX4_alter_24 rfl (lv_at hl 2 rfl) ?_
    refine lv_iadd X.1 X.2.1 dX4_alter_25 ?_
    refine h_ti (b := nI ((40 * s9) + f)) (nI_add (40 * s9) f) ?_
    refine h_iald X hw eZ (vp_in_nI (by omega) (by decide)) dX4_alter_26 ?_
    refine h_tv (b := .int (nI b.length)) (by rw [nI_clamp (by omega), vZ s9 f (by omega) (by omega), msz_s hc]) ?_
    refine lv_iconst (v := 1) X.1 X.2.1 dX4_alter_27 (by decide) ?_
    refine lv_isub X.1 X.2.1 dX4_alter_28 ?_
    refine h_callRS (As := [.int (nI j), .int 0, .int (nI b.length - 1)]) (rest := []) X hw cs_X4_61 (c_X4_in l G (nI j) 0 (nI b.length - 1)) rfl hl.1 rfl (Nat.le_of_ble_eq_true rfl) ⟨by decide, by decide⟩ ⟨Nat.zero_le _, Nat.zero_le _⟩ dX4_alter_29 ?_
    refine h_tv (b := .int 1) (by rw [in_ix (by omega), hn]; rfl) ?_
    refine lv_if_ne (tgt := 37) X.1 X.2.1 dX4_alter_32 (by decide) (fun c32 => ?_) (fun c32 => ?_)
    · refine lv_bipush (v := 16) X.1 X.2.1 dX4_alter_37 (by decide) ?_
      refine lv_bipush (v := 40) X.1 X.2.1 dX4_alter_39 (by decide) ?_
      refine lv_iload_n X.1 X.2.1 dX4_alter_41 rfl (lv_at hl 1 rfl) ?_
      refine lv_imul X.1 X.2.1 dX4_alter_42 ?_
      refine h_ti (b := nI (40 * s9)) (pk_mul 40 s9) ?_
      refine lv_iload_n X.1 X.2.1 dX4_alter_43 rfl (lv_at hl 2 rfl) ?_
      refine lv_iadd X.1 X.2.1 dX4_alter_44 ?_
      refine h_ti (b := nI ((40 * s9) + f)) (nI_add (40 * s9) f) ?_
      refine lv_imul X.1 X.2.1 dX4_alter_45 ?_
      refine h_ti (b := nI (16 * ((40 * s9) + f))) (pk_mul 16 ((40 * s9) + f)) ?_
      refine lv_iload_n X.1 X.2.1 dX4_alter_46 rfl (lv_at hl 3 rfl) ?_
      refine lv_iadd X.1 X.2.1 dX4_alter_47 ?_
      refine h_ti (b := nI ((16 * ((40 * s9) + f)) + j)) (nI_add (16 * ((40 * s9) + f)) j) ?_
      refine lv_istore (lv' := [(5, .int (nI ((16 * ((40 * s9) + f)) + j))), (0, .ref (ad (20, 0, 0))), (1, .int (nI s9)), (2, .int (nI f)), (3, .int (nI j)), (4, .int v)]) X.1 X.2.1 dX4_alter_48 hl (by decide) rfl (fun ls hl => ?_)
      refine lv_aload_n X.1 X.2.1 dX4_alter_50 rfl (lv_at hl 1 rfl) ?_
      refine gf_X4_36 X hw hx rfl dX4_alter_51 ?_
      refine lv_iload X.1 X.2.1 dX4_alter_54 (lv_at hl 0 rfl) ?_
      refine h_bald X hw eB (vp_in_nI (by omega) (by decide)) dX4_alter_56 ?_
      refine h_tv (b := .int (gB (16 * (40 * s9 + f) + j))) (by rw [nI_clamp (by omega)]) ?_
      refine lv_sipush (v := 255) X.1 X.2.1 dX4_alter_57 (by decide) ?_
      refine lv_iand X.1 X.2.1 dX4_alter_60 ?_
      refine h_ti (b := b.getD j 0) (vB s9 f b hc j hj) ?_
      refine lv_istore (lv' := [(6, .int (b.getD j 0)), (5, .int (nI ((16 * ((40 * s9) + f)) + j))), (0, .ref (ad (20, 0, 0))), (1, .int (nI s9)), (2, .int (nI f)), (3, .int (nI j)), (4, .int v)]) X.1 X.2.1 dX4_alter_61 hl (by decide) rfl (fun ls hl => ?_)
      refine lv_aload_n X.1 X.2.1 dX4_alter_63 rfl (lv_at hl 2 rfl) ?_
      refine gf_X4_36 X hw hx rfl dX4_alter_64 ?_
      refine lv_iload X.1 X.2.1 dX4_alter_67 (lv_at hl 1 rfl) ?_
      refine lv_iload X.1 X.2.1 dX4_alter_69 (lv_at hl 6 rfl) ?_
      refine lv_i2b X.1 X.2.1 dX4_alter_71 rfl ?_
      refine h_bast X hw eB (vp_in_nI (by omega) (by decide)) dX4_alter_72 (fun H locs hw => ?_)
      obtain ⟨k2, hk2⟩ : ∃ zz, zz = h_cu k1 (20, 13, 0) (some (.inl (G.2 3, 6400, .inl (upd gB (nI (16 * (40 * s9 + f) + j)).toNatClampNeg (vp_nar .byte (v).toInt8.toInt32))))) := ⟨_, rfl⟩
      replace hw := h_W.ren hw hk2
      have f2_20_0_0 : k2 (20, 0, 0) = some (.inr (4, [.int 0, .int (nI (s_cop σ)), .int (nI (s_nS σ)), .ref (ad (20, 3, 0)), .ref (ad (20, 4, 0)), .ref (ad (20, 5, 0)), .ref (ad (20, 6, 0)), .int (nI (s_col σ).length), .ref (ad (20, 8, 0)), .int (nI (s_nF σ)), .ref (ad (20, 10, 0)), .ref (ad (20, 11, 0)), .ref (ad (20, 12, 0)), .ref (ad (20, 13, 0)), .int (nI (s_as σ).length), .ref (ad (20, 15, 0)), .ref (ad (20, 16, 0)), .ref (ad (20, 17, 0)), .ref (ad (20, 18, 0)), .int (s_dg σ)])) := by rw [hk2, h_cn _ _ (by simp)]; exact hx
      have f2_20_12_0 : k2 (20, 12, 0) = some (.inl (G.2 0, 400, .inl gZ)) := by rw [hk2, h_cn _ _ (by simp)]; exact eZ
      have f2_20_13_0 : k2 (20, 13, 0) = some (.inl (G.2 3, 6400, .inl (upd gB (nI (16 * (40 * s9 + f) + j)).toNatClampNeg (vp_nar .byte (v).toInt8.toInt32)))) := by rw [hk2]; exact h_cs _ _ _
      refine lv_iload X.1 X.2.1 dX4_alter_73 (lv_at hl 0 rfl) ?_
      have hO : ∀ t : h_T, t ≠ (20, 0, 0) → t ≠ (20, 13, 0) → k2 t = k1 t := fun t n0 n1 => by rw [hk2, h_cn _ _ n1]
      exact h_iretW X Y hw ⟨rfl, rfl, ⟨f2_20_0_0, ⟨gP, (hO (20, 3, 0) (by simp) (by simp)).trans eP, vP⟩, ⟨gS, (hO (20, 4, 0) (by simp) (by simp)).trans eS, vS⟩, ⟨gU, (hO (20, 5, 0) (by simp) (by simp)).trans eU, vU⟩, ⟨gD, (hO (20, 6, 0) (by simp) (by simp)).trans eD, vD⟩, ⟨gA, (hO (20, 8, 0) (by simp) (by simp)).trans eA, vA⟩, ⟨gK, (hO (20, 10, 0) (by simp) (by simp)).trans eK, vK⟩, ⟨gN, (hO (20, 11, 0) (by simp) (by simp)).trans eN, vN⟩, ⟨gZ, (hO (20, 12, 0) (by simp) (by simp)).trans eZ, fun a c ha hc2 => by
        rw [vZ a c ha hc2, msz_o, msz_o]
        show _ = m_zo (s_c2 (s_cp σ) s9 f _ a c)
        by_cases q : a = s9 ∧ c = f
        · obtain ⟨rfl, rfl⟩ := q
          rw [s_c2_s, hc]
          show nI b.length = nI (b.set j _).length
          rw [List.length_set]
        · rw [s_c2_n q]⟩, ⟨_, f2_20_13_0, mb_set vB hok (s := s9) (f := f) (by omega) (fun n hn => by
        rw [nI_clamp (by omega), pk_un (by omega)]) (fun l h i hi => by
        cases h
        rw [List.length_set] at hi
        rw [nI_clamp (by omega)]
        by_cases q : i = j
        · rw [q, pk_us, byte_nar, byte_mask, List.getD_eq_getElem?_getD, List.getElem?_set_self hj]
          rfl
        · rw [pk_un (by omega), vB s9 f b hc i hi, List.getD_eq_getElem?_getD, List.getD_eq_getElem?_getD, List.getElem?_set_ne (Ne.symm q)])⟩, ⟨g0, g1, g2, (hO (20, 15, 0) (by simp) (by simp)).trans e15, (hO (20, 16, 0) (by simp) (by simp)).trans e16, (hO (20, 17, 0) (by simp) (by simp)).trans e17, v3⟩, ⟨gM, (hO (20, 18, 0) (by simp) (by simp)).trans eM⟩, ok_setCp hok hs9 hf9 (fun l h => by cases h; rw [List.length_set]; exact hbl)⟩, fun t ht => by rw [hO t (t_ne20 ht) (t_ne20 ht), hk1, h_cn _ _ (t_ne20 ht)]⟩ (Nat.zero_le _) (Nat.zero_le _) dX4_alter_75
    · exact absurd c32 (by decide)
set_option maxHeartbeats 4000000 in
set_option maxRecDepth 100000 in
/-- at -/
theorem c_X4_at (l : Launch) (G : h_G) {ad : h_T → Nat} {k : h_C} {σ : S_t} {th : Int32} (hM : RM G ad k σ th) (x y i : Int32) : h_Wr l yX4_at cX4_at 4 (some .int) 3 65 0 0 G ad k [.ref (ad (20, 0, 0)), .int x, .int y, .int i] (MPost G ad k (some (.int ((sp_at σ x y i).getD 0))) σ (o_th (sp_at σ x y i))) := by
  refine h_wr (by decide +kernel) (Nat.le_of_ble_eq_true rfl) ?_
  intro p e s m args below meth c X Y hw ls hl
  have hl : lv_has ls 4 [(0, .ref (ad (20, 0, 0))), (1, .int x), (2, .int y), (3, .int i)] := hl
  unfold sp_at
  have hok := hM.ok
  have hnS : s_nS σ ≤ 10 := hok.2.1
  have hnF : s_nF σ ≤ 40 := hok.2.2.1
  have hx : k (20, 0, 0) = some (.inr (4, [.int th, .int (nI (s_cop σ)), .int (nI (s_nS σ)), .ref (ad (20, 3, 0)), .ref (ad (20, 4, 0)), .ref (ad (20, 5, 0)), .ref (ad (20, 6, 0)), .int (nI (s_col σ).length), .ref (ad (20, 8, 0)), .int (nI (s_nF σ)), .ref (ad (20, 10, 0)), .ref (ad (20, 11, 0)), .ref (ad (20, 12, 0)), .ref (ad (20, 13, 0)), .int (nI (s_as σ).length), .ref (ad (20, 15, 0)), .ref (ad (20, 16, 0)), .ref (ad (20, 17, 0)), .ref (ad (20, 18, 0)), .int (s_dg σ)])) := hM.1
  refine lv_aload_n X.1 X.2.1 dX4_at_0 rfl (lv_at hl 0 rfl) ?_
  refine lv_iconst (v := 0) X.1 X.2.1 dX4_at_1 (by decide) ?_
  refine pf_X4_55 X hw hx rfl rfl (Nat.le_of_ble_eq_true rfl) dX4_at_2 (fun H locs hw => ?_)
  obtain ⟨k1, hk1⟩ : ∃ zz, zz = h_cu k (20, 0, 0) (some (.inr (4, [.int 0, .int (nI (s_cop σ)), .int (nI (s_nS σ)), .ref (ad (20, 3, 0)), .ref (ad (20, 4, 0)), .ref (ad (20, 5, 0)), .ref (ad (20, 6, 0)), .int (nI (s_col σ).length), .ref (ad (20, 8, 0)), .int (nI (s_nF σ)), .ref (ad (20, 10, 0)), .ref (ad (20, 11, 0)), .ref (ad (20, 12, 0)), .ref (ad (20, 13, 0)), .int (nI (s_as σ).length), .ref (ad (20, 15, 0)), .ref (ad (20, 16, 0)), .ref (ad (20, 17, 0)), .ref (ad (20, 18, 0)), .int (s_dg σ)]))) := ⟨_, rfl⟩
  replace hw := h_W.ren hw hk1
  have f1_20_0_0 : k1 (20, 0, 0) = some (.inr (4, [.int 0, .int (nI (s_cop σ)), .int (nI (s_nS σ)), .ref (ad (20, 3, 0)), .ref (ad (20, 4, 0)), .ref (ad (20, 5, 0)), .ref (ad (20, 6, 0)), .int (nI (s_col σ).length), .ref (ad (20, 8, 0)), .int (nI (s_nF σ)), .ref (ad (20, 10, 0)), .ref (ad (20, 11, 0)), .ref (ad (20, 12, 0)), .ref (ad (20, 13, 0)), .int (nI (s_as σ).length), .ref (ad (20, 15, 0)), .ref (ad (20, 16, 0)), .ref (ad (20, 17, 0)), .ref (ad (20, 18, 0)), .int (s_dg σ)])) := by rw [hk1]; exact h_cs _ _ _
  have hM1 : RM G ad k1 σ 0 := hM.obj f1_20_0_0 (fun t ht => by rw [hk1, h_cn _ _ ht])
  obtain ⟨hx, ⟨gP, eP, vP⟩, ⟨gS, eS, vS⟩, ⟨gU, eU, vU⟩, ⟨gD, eD, vD⟩, ⟨gA, eA, vA⟩, ⟨gK, eK, vK⟩, ⟨gN, eN, vN⟩, ⟨gZ, eZ, vZ⟩, ⟨gB, eB, vB⟩, ⟨g0, g1, g2, e15, e16, e17, v3⟩, ⟨gM, eM⟩, -⟩ := id hM1
  have hx : k1 (20, 0, 0) = some (.inr (4, [.int 0, .int (nI (s_cop σ)), .int (nI (s_nS σ)), .ref (ad (20, 3, 0)), .ref (ad (20, 4, 0)), .ref (ad (20, 5, 0)), .ref (ad (20, 6, 0)), .int (nI (s_col σ).length), .ref (ad (20, 8, 0)), .int (nI (s_nF σ)), .ref (ad (20, 10, 0)), .ref (ad (20, 11, 0)), .ref (ad (20, 12, 0)), .ref (ad (20, 13, 0)), .int (nI (s_as σ).length), .ref (ad (20, 15, 0)), .ref (ad (20, 16, 0)), .ref (ad (20, 17, 0)), .ref (ad (20, 18, 0)), .int (s_dg σ)])) := hx
  rcases ha : s_at σ x y with _ | ⟨s9, f, b⟩
  · refine lv_aload_n X.1 X.2.1 dX4_at_5 rfl (lv_at hl 0 rfl) ?_
    refine lv_iload_n X.1 X.2.1 dX4_at_6 rfl (lv_at hl 1 rfl) ?_
    refine lv_iload_n X.1 X.2.1 dX4_at_7 rfl (lv_at hl 2 rfl) ?_
    refine h_callRV (t := (20, 0, 0)) (As := [.int x, .int y]) (rest := []) X hw cs_X4_75 (c_X4_has l G hM1 x y) hx rfl rfl hl.1 rfl (Nat.le_of_ble_eq_true rfl) ⟨by decide, by decide⟩ ⟨Nat.zero_le _, Nat.zero_le _⟩ dX4_at_8 ?_
    refine h_tv (b := .int 0) (by rw [ha]; rfl) ?_
    refine lv_if_ne (tgt := 16) X.1 X.2.1 dX4_at_11 (by decide) (fun c11 => ?_) (fun c11 => ?_)
    · exact absurd (by decide) c11
    · refine lv_iconst (v := (-1)) X.1 X.2.1 dX4_at_14 (by decide) ?_
      exact h_iretW X Y hw ⟨rfl, rfl, hM1, fun t ht => by rw [hk1, h_cn _ _ (t_ne20 ht)]⟩ (Nat.zero_le _) (Nat.zero_le _) dX4_at_15
  obtain ⟨rfl, rfl, hs9, hf9, hc, -, -⟩ := s_at_some ha
  have hbl := hok.2.2.2.2.2.2.1 _ _ _ hc
  dsimp only
  rcases hn : ix i b.length with _ | j
  · refine lv_aload_n X.1 X.2.1 dX4_at_5 rfl (lv_at hl 0 rfl) ?_
    refine lv_iload_n X.1 X.2.1 dX4_at_6 rfl (lv_at hl 1 rfl) ?_
    refine lv_iload_n X.1 X.2.1 dX4_at_7 rfl (lv_at hl 2 rfl) ?_
    refine h_callRV (t := (20, 0, 0)) (As := [.int (nI s9), .int (nI f)]) (rest := []) X hw cs_X4_75 (c_X4_has l G hM1 (nI s9) (nI f)) hx rfl rfl hl.1 rfl (Nat.le_of_ble_eq_true rfl) ⟨by decide, by decide⟩ ⟨Nat.zero_le _, Nat.zero_le _⟩ dX4_at_8 ?_
    refine h_tv (b := .int 1) (by rw [ha]; rfl) ?_
    refine lv_if_ne (tgt := 16) X.1 X.2.1 dX4_at_11 (by decide) (fun c11 => ?_) (fun c11 => ?_)
    · refine lv_aload_n X.1 X.2.1 dX4_at_16 rfl (lv_at hl 0 rfl) ?_
      refine lv_iload_n X.1 X.2.1 dX4_at_17 rfl (lv_at hl 3 rfl) ?_
      refine lv_iconst (v := 0) X.1 X.2.1 dX4_at_18 (by decide) ?_
      refine lv_aload_n X.1 X.2.1 dX4_at_19 rfl (lv_at hl 0 rfl) ?_
      refine gf_X4_33 X hw hx rfl dX4_at_20 ?_
      refine lv_bipush (v := 40) X.1 X.2.1 dX4_at_23 (by decide) ?_
      refine lv_iload_n X.1 X.2.1 dX4_at_25 rfl (lv_at hl 1 rfl) ?_
      refine lv_imul X.1 X.2.1 dX4_at_26 ?_
      refine h_ti (b := nI (40 * s9)) (pk_mul 40 s9) ?_
      refine lv_iload_n X.1 X.2.1 dX4_at_27 rfl (lv_at hl 2 rfl) ?_
      refine lv_iadd X.1 X.2.1 dX4_at_28 ?_
      refine h_ti (b := nI ((40 * s9) + f)) (nI_add (40 * s9) f) ?_
      refine h_iald X hw eZ (vp_in_nI (by omega) (by decide)) dX4_at_29 ?_
      refine h_tv (b := .int (nI b.length)) (by rw [nI_clamp (by omega), vZ s9 f (by omega) (by omega), msz_s hc]) ?_
      refine lv_iconst (v := 1) X.1 X.2.1 dX4_at_30 (by decide) ?_
      refine lv_isub X.1 X.2.1 dX4_at_31 ?_
      refine h_callRS (As := [.int i, .int 0, .int (nI b.length - 1)]) (rest := [.ref (ad (20, 0, 0))]) X hw cs_X4_61 (c_X4_in l G i 0 (nI b.length - 1)) rfl hl.1 rfl (Nat.le_of_ble_eq_true rfl) ⟨by decide, by decide⟩ ⟨Nat.zero_le _, Nat.zero_le _⟩ dX4_at_32 ?_
      refine h_tv (b := .int 0) (by rw [in_ix (by omega), hn]; rfl) ?_
      refine lv_if_eq (tgt := 42) X.1 X.2.1 dX4_at_35 (by decide) (fun c35 => ?_) (fun c35 => ?_)
      · refine lv_iconst (v := 1) X.1 X.2.1 dX4_at_42 (by decide) ?_
        refine pf_X4_55 X hw hx rfl rfl (Nat.le_of_ble_eq_true rfl) dX4_at_43 (fun H locs hw => ?_)
        obtain ⟨k2, hk2⟩ : ∃ zz, zz = h_cu k1 (20, 0, 0) (some (.inr (4, [.int 1, .int (nI (s_cop σ)), .int (nI (s_nS σ)), .ref (ad (20, 3, 0)), .ref (ad (20, 4, 0)), .ref (ad (20, 5, 0)), .ref (ad (20, 6, 0)), .int (nI (s_col σ).length), .ref (ad (20, 8, 0)), .int (nI (s_nF σ)), .ref (ad (20, 10, 0)), .ref (ad (20, 11, 0)), .ref (ad (20, 12, 0)), .ref (ad (20, 13, 0)), .int (nI (s_as σ).length), .ref (ad (20, 15, 0)), .ref (ad (20, 16, 0)), .ref (ad (20, 17, 0)), .ref (ad (20, 18, 0)), .int (s_dg σ)]))) := ⟨_, rfl⟩
        replace hw := h_W.ren hw hk2
        have f2_20_0_0 : k2 (20, 0, 0) = some (.inr (4, [.int 1, .int (nI (s_cop σ)), .int (nI (s_nS σ)), .ref (ad (20, 3, 0)), .ref (ad (20, 4, 0)), .ref (ad (20, 5, 0)), .ref (ad (20, 6, 0)), .int (nI (s_col σ).length), .ref (ad (20, 8, 0)), .int (nI (s_nF σ)), .ref (ad (20, 10, 0)), .ref (ad (20, 11, 0)), .ref (ad (20, 12, 0)), .ref (ad (20, 13, 0)), .int (nI (s_as σ).length), .ref (ad (20, 15, 0)), .ref (ad (20, 16, 0)), .ref (ad (20, 17, 0)), .ref (ad (20, 18, 0)), .int (s_dg σ)])) := by rw [hk2]; exact h_cs _ _ _
        have f2_20_12_0 : k2 (20, 12, 0) = some (.inl (G.2 0, 400, .inl gZ)) := by rw [hk2, h_cn _ _ (by simp)]; exact eZ
        refine lv_aload_n X.1 X.2.1 dX4_at_46 rfl (lv_at hl 0 rfl) ?_
        refine gf_X4_55 X hw f2_20_0_0 rfl dX4_at_47 ?_
        refine lv_if_le (tgt := 57) X.1 X.2.1 dX4_at_50 (by decide) (fun c50 => ?_) (fun c50 => ?_)
        · exact absurd c50 (by decide)
        · refine lv_iconst (v := 0) X.1 X.2.1 dX4_at_53 (by decide) ?_
          refine lv_goto (tgt := 77) X.1 X.2.1 dX4_at_54 (by decide) ?_
          have hO : ∀ t : h_T, t ≠ (20, 0, 0) → k2 t = k1 t := fun t n0 => by rw [hk2, h_cn _ _ n0]
          exact h_iretW X Y hw ⟨rfl, rfl, ⟨f2_20_0_0, ⟨gP, (hO (20, 3, 0) (by simp)).trans eP, vP⟩, ⟨gS, (hO (20, 4, 0) (by simp)).trans eS, vS⟩, ⟨gU, (hO (20, 5, 0) (by simp)).trans eU, vU⟩, ⟨gD, (hO (20, 6, 0) (by simp)).trans eD, vD⟩, ⟨gA, (hO (20, 8, 0) (by simp)).trans eA, vA⟩, ⟨gK, (hO (20, 10, 0) (by simp)).trans eK, vK⟩, ⟨gN, (hO (20, 11, 0) (by simp)).trans eN, vN⟩, ⟨gZ, (hO (20, 12, 0) (by simp)).trans eZ, vZ⟩, ⟨gB, (hO (20, 13, 0) (by simp)).trans eB, vB⟩, ⟨g0, g1, g2, (hO (20, 15, 0) (by simp)).trans e15, (hO (20, 16, 0) (by simp)).trans e16, (hO (20, 17, 0) (by simp)).trans e17, v3⟩, ⟨gM, (hO (20, 18, 0) (by simp)).trans eM⟩, hok⟩, fun t ht => by rw [hO t (t_ne20 ht), hk1, h_cn _ _ (t_ne20 ht)]⟩ (Nat.zero_le _) (Nat.zero_le _) dX4_at_77
      · exact absurd (by decide) c35
    · exact absurd c11 (by decide)
  obtain rfl := ix_eq hn
  have hj := ix_lt hn
  refine lv_aload_n X.1 X.2.1 dX4_at_5 rfl (lv_at hl 0 rfl) ?_
  refine lv_iload_n X.1 X.2.1 dX4_at_6 rfl (lv_at hl 1 rfl) ?_
  refine lv_iload_n X.1 X.2.1 dX4_at_7 rfl (lv_at hl 2 rfl) ?_
  refine h_callRV (t := (20, 0, 0)) (As := [.int (nI s9), .int (nI f)]) (rest := []) X hw cs_X4_75 (c_X4_has l G hM1 (nI s9) (nI f)) hx rfl rfl hl.1 rfl (Nat.le_of_ble_eq_true rfl) ⟨by decide, by decide⟩ ⟨Nat.zero_le _, Nat.zero_le _⟩ dX4_at_8 ?_
  refine h_tv (b := .int 1) (by rw [ha]; rfl) ?_
  refine lv_if_ne (tgt := 16) X.1 X.2.1 dX4_at_11 (by decide) (fun c11 => ?_) (fun c11 => ?_)
  · refine lv_aload_n X.1 X.2.1 dX4_at_16 rfl (lv_at hl 0 rfl) ?_
    refine lv_iload_n X.1 X.2.1 dX4_at_17 rfl (lv_at hl 3 rfl) ?_
    refine lv_iconst (v := 0) X.1 X.2.1 dX4_at_18 (by decide) ?_
    refine lv_aload_n X.1 X.2.1 dX4_at_19 rfl (lv_at hl 0 rfl) ?_
    refine gf_X4_33 X hw hx rfl dX4_at_20 ?_
    refine lv_bipush (v := 40) X.1 X.2.1 dX4_at_23 (by decide) ?_
    refine lv_iload_n X.1 X.2.1 dX4_at_25 rfl (lv_at hl 1 rfl) ?_
    refine lv_imul X.1 X.2.1 dX4_at_26 ?_
    refine h_ti (b := nI (40 * s9)) (pk_mul 40 s9) ?_
    refine lv_iload_n X.1 X.2.1 dX4_at_27 rfl (lv_at hl 2 rfl) ?_
    refine lv_iadd X.1 X.2.1 dX4_at_28 ?_
    refine h_ti (b := nI ((40 * s9) + f)) (nI_add (40 * s9) f) ?_
    refine h_iald X hw eZ (vp_in_nI (by omega) (by decide)) dX4_at_29 ?_
    refine h_tv (b := .int (nI b.length)) (by rw [nI_clamp (by omega), vZ s9 f (by omega) (by omega), msz_s hc]) ?_
    refine lv_iconst (v := 1) X.1 X.2.1 dX4_at_30 (by decide) ?_
    refine lv_isub X.1 X.2.1 dX4_at_31 ?_
    refine h_callRS (As := [.int (nI j), .int 0, .int (nI b.length - 1)]) (rest := [.ref (ad (20, 0, 0))]) X hw cs_X4_61 (c_X4_in l G (nI j) 0 (nI b.length - 1)) rfl hl.1 rfl (Nat.le_of_ble_eq_true rfl) ⟨by decide, by decide⟩ ⟨Nat.zero_le _, Nat.zero_le _⟩ dX4_at_32 ?_
    refine h_tv (b := .int 1) (by rw [in_ix (by omega), hn]; rfl) ?_
    refine lv_if_eq (tgt := 42) X.1 X.2.1 dX4_at_35 (by decide) (fun c35 => ?_) (fun c35 => ?_)
    · exact absurd c35 (by decide)
    · refine lv_iconst (v := 0) X.1 X.2.1 dX4_at_38 (by decide) ?_
      refine lv_goto (tgt := 43) X.1 X.2.1 dX4_at_39 (by decide) ?_
      refine pf_X4_55 X hw hx rfl rfl (Nat.le_of_ble_eq_true rfl) dX4_at_43 (fun H locs hw => ?_)
      obtain ⟨k2, hk2⟩ : ∃ zz, zz = h_cu k1 (20, 0, 0) (some (.inr (4, [.int 0, .int (nI (s_cop σ)), .int (nI (s_nS σ)), .ref (ad (20, 3, 0)), .ref (ad (20, 4, 0)), .ref (ad (20, 5, 0)), .ref (ad (20, 6, 0)), .int (nI (s_col σ).length), .ref (ad (20, 8, 0)), .int (nI (s_nF σ)), .ref (ad (20, 10, 0)), .ref (ad (20, 11, 0)), .ref (ad (20, 12, 0)), .ref (ad (20, 13, 0)), .int (nI (s_as σ).length), .ref (ad (20, 15, 0)), .ref (ad (20, 16, 0)), .ref (ad (20, 17, 0)), .ref (ad (20, 18, 0)), .int (s_dg σ)]))) := ⟨_, rfl⟩
      replace hw := h_W.ren hw hk2
      have f2_20_0_0 : k2 (20, 0, 0) = some (.inr (4, [.int 0, .int (nI (s_cop σ)), .int (nI (s_nS σ)), .ref (ad (20, 3, 0)), .ref (ad (20, 4, 0)), .ref (ad (20, 5, 0)), .ref (ad (20, 6, 0)), .int (nI (s_col σ).length), .ref (ad (20, 8, 0)), .int (nI (s_nF σ)), .ref (ad (20, 10, 0)), .ref (ad (20, 11, 0)), .ref (ad (20, 12, 0)), .ref (ad (20, 13, 0)), .int (nI (s_as σ).length), .ref (ad (20, 15, 0)), .ref (ad (20, 16, 0)), .ref (ad (20, 17, 0)), .ref (ad (20, 18, 0)), .int (s_dg σ)])) := by rw [hk2]; exact h_cs _ _ _
      have f2_20_12_0 : k2 (20, 12, 0) = some (.inl (G.2 0, 400, .inl gZ)) := by rw [hk2, h_cn _ _ (by simp)]; exact eZ
      have f2_20_13_0 : k2 (20, 13, 0) = some (.inl (G.2 3, 6400, .inl gB)) := by rw [hk2, h_cn _ _ (by simp)]; exact eB
      refine lv_aload_n X.1 X.2.1 dX4_at_46 rfl (lv_at hl 0 rfl) ?_
      refine gf_X4_55 X hw f2_20_0_0 rfl dX4_at_47 ?_
      refine lv_if_le (tgt := 57) X.1 X.2.1 dX4_at_50 (by decide) (fun c50 => ?_) (fun c50 => ?_)
      · refine lv_aload_n X.1 X.2.1 dX4_at_57 rfl (lv_at hl 0 rfl) ?_
        refine gf_X4_36 X hw f2_20_0_0 rfl dX4_at_58 ?_
        refine lv_bipush (v := 16) X.1 X.2.1 dX4_at_61 (by decide) ?_
        refine lv_bipush (v := 40) X.1 X.2.1 dX4_at_63 (by decide) ?_
        refine lv_iload_n X.1 X.2.1 dX4_at_65 rfl (lv_at hl 1 rfl) ?_
        refine lv_imul X.1 X.2.1 dX4_at_66 ?_
        refine h_ti (b := nI (40 * s9)) (pk_mul 40 s9) ?_
        refine lv_iload_n X.1 X.2.1 dX4_at_67 rfl (lv_at hl 2 rfl) ?_
        refine lv_iadd X.1 X.2.1 dX4_at_68 ?_
        refine h_ti (b := nI ((40 * s9) + f)) (nI_add (40 * s9) f) ?_
        refine lv_imul X.1 X.2.1 dX4_at_69 ?_
        refine h_ti (b := nI (16 * ((40 * s9) + f))) (pk_mul 16 ((40 * s9) + f)) ?_
        refine lv_iload_n X.1 X.2.1 dX4_at_70 rfl (lv_at hl 3 rfl) ?_
        refine lv_iadd X.1 X.2.1 dX4_at_71 ?_
        refine h_ti (b := nI ((16 * ((40 * s9) + f)) + j)) (nI_add (16 * ((40 * s9) + f)) j) ?_
        refine h_bald X hw f2_20_13_0 (vp_in_nI (by omega) (by decide)) dX4_at_72 ?_
        refine h_tv (b := .int (gB (16 * (40 * s9 + f) + j))) (by rw [nI_clamp (by omega)]) ?_
        refine lv_sipush (v := 255) X.1 X.2.1 dX4_at_73 (by decide) ?_
        refine lv_iand X.1 X.2.1 dX4_at_76 ?_
        refine h_ti (b := b.getD j 0) (vB s9 f b hc j hj) ?_
        have hO : ∀ t : h_T, t ≠ (20, 0, 0) → k2 t = k1 t := fun t n0 => by rw [hk2, h_cn _ _ n0]
        exact h_iretW X Y hw ⟨rfl, rfl, ⟨f2_20_0_0, ⟨gP, (hO (20, 3, 0) (by simp)).trans eP, vP⟩, ⟨gS, (hO (20, 4, 0) (by simp)).trans eS, vS⟩, ⟨gU, (hO (20, 5, 0) (by simp)).trans eU, vU⟩, ⟨gD, (hO (20, 6, 0) (by simp)).trans eD, vD⟩, ⟨gA, (hO (20, 8, 0) (by simp)).trans eA, vA⟩, ⟨gK, (hO (20, 10, 0) (by simp)).trans eK, vK⟩, ⟨gN, (hO (20, 11, 0) (by simp)).trans eN, vN⟩, ⟨gZ, (hO (20, 12, 0) (by simp)).trans eZ, vZ⟩, ⟨gB, (hO (20, 13, 0) (by simp)).trans eB, vB⟩, ⟨g0, g1, g2, (hO (20, 15, 0) (by simp)).trans e15, (hO (20, 16, 0) (by simp)).trans e16, (hO (20, 17, 0) (by simp)).trans e17, v3⟩, ⟨gM, (hO (20, 18, 0) (by simp)).trans eM⟩, hok⟩, fun t ht => by rw [hO t (t_ne20 ht), hk1, h_cn _ _ (t_ne20 ht)]⟩ (Nat.zero_le _) (Nat.zero_le _) dX4_at_77
      · exact absurd (by decide) c50
  · exact absurd c11 (by decide)
