set_option maxHeartbeats 4000000 in
set_option maxRecDepth 100000 in
/-- storeOf: the store of that number, or null -/
theorem c_X3_storeOf (l : Launch) (G : h_G) {ad : h_T → Nat} {k : h_C} {σ : S_t} (hR : RX G ad k σ) (x : Int32) : h_Rd l yX3_storeOf cX3_storeOf 2 (some (.object "CopyPolls$Store")) 0 0 G ad k [.ref (ad (0, 0, 0)), .int x] (some (va_rf ((ix x (s_nS σ)).map (fun i => ad (6, i, 0))))) := by
  refine h_rd (by decide +kernel) (Nat.le_of_ble_eq_true rfl) ?_
  intro p e s m args below meth c X Y hw ls hl
  have hl : lv_has ls 2 [(0, .ref (ad (0, 0, 0))), (1, .int x)] := hl
  have hok := hR.ok
  obtain ⟨hx, hs, hst, hi, hit, hcp, hcol, hmx, hask, -⟩ := id hR
  have hx : k (0, 0, 0) = some (.inr (3, [.int (nI (s_cop σ)), .ref (ad (1, 0, 0)), .int (nI (s_nS σ)), .ref (ad (2, 0, 0)), .int (nI (s_nF σ)), .ref (ad (3, 0, 0)), .ref (ad (4, 0, 0)), .ref (ad (5, 0, 0)), .ref (ad (5, 1, 0)), .ref (ad (5, 2, 0)), .int (nI (s_as σ).length), .int (s_dg σ)])) := hx
  have hnS : s_nS σ ≤ 10 := hok.2.1
  have hnF : s_nF σ ≤ 40 := hok.2.2.1
  rcases ix_cases x (n := s_nS σ) (by omega) with ⟨e0, h0⟩ | ⟨e0, h0, h1⟩ | ⟨j, hj, rfl, e0⟩
  · rw [e0]
    refine lv_iload_n X.1 X.2.1 dX3_storeOf_0 rfl (lv_at hl 1 rfl) ?_
    refine lv_if_lt (tgt := 21) X.1 X.2.1 dX3_storeOf_1 (by decide) (fun c1 => ?_) (fun c1 => ?_)
    · refine lv_null X.1 X.2.1 dX3_storeOf_21 ?_
      exact h_aret (o := none) X Y dX3_storeOf_22
    · exact absurd h0 c1
  · rw [e0]
    refine lv_iload_n X.1 X.2.1 dX3_storeOf_0 rfl (lv_at hl 1 rfl) ?_
    refine lv_if_lt (tgt := 21) X.1 X.2.1 dX3_storeOf_1 (by decide) (fun c1 => ?_) (fun c1 => ?_)
    · exact absurd c1 h0
    · refine lv_iload_n X.1 X.2.1 dX3_storeOf_4 rfl (lv_at hl 1 rfl) ?_
      refine lv_aload_n X.1 X.2.1 dX3_storeOf_5 rfl (lv_at hl 0 rfl) ?_
      refine gf_X3_15 X hw hx rfl dX3_storeOf_6 ?_
      refine lv_icmp_ge (tgt := 21) X.1 X.2.1 dX3_storeOf_9 (by decide) (fun c9 => ?_) (fun c9 => ?_)
      · refine lv_null X.1 X.2.1 dX3_storeOf_21 ?_
        exact h_aret (o := none) X Y dX3_storeOf_22
      · exact absurd h1 c9
  · rw [e0]
    refine lv_iload_n X.1 X.2.1 dX3_storeOf_0 rfl (lv_at hl 1 rfl) ?_
    refine lv_if_lt (tgt := 21) X.1 X.2.1 dX3_storeOf_1 (by decide) (fun c1 => ?_) (fun c1 => ?_)
    · exact absurd c1 (nI_pos (by omega))
    · refine lv_iload_n X.1 X.2.1 dX3_storeOf_4 rfl (lv_at hl 1 rfl) ?_
      refine lv_aload_n X.1 X.2.1 dX3_storeOf_5 rfl (lv_at hl 0 rfl) ?_
      refine gf_X3_15 X hw hx rfl dX3_storeOf_6 ?_
      refine lv_icmp_ge (tgt := 21) X.1 X.2.1 dX3_storeOf_9 (by decide) (fun c9 => ?_) (fun c9 => ?_)
      · exact absurd c9 (nI_ge hj (by omega))
      · refine lv_aload_n X.1 X.2.1 dX3_storeOf_12 rfl (lv_at hl 0 rfl) ?_
        refine gf_X3_11 X hw hx rfl dX3_storeOf_13 ?_
        refine lv_iload_n X.1 X.2.1 dX3_storeOf_16 rfl (lv_at hl 1 rfl) ?_
        refine h_aald X hw 6 rfl hs (vp_in_nI (by omega) (by decide)) dX3_storeOf_17 ?_
        refine h_tv (b := .ref (ad (6, j, 0))) (by rw [nI_clamp (by omega)]; simp only [x_sto, if_pos hj, va_rf]) ?_
        refine lv_goto (tgt := 22) X.1 X.2.1 dX3_storeOf_18 (by decide) ?_
        exact h_aret (o := some (ad (6, j, 0))) X Y dX3_storeOf_22
set_option maxHeartbeats 4000000 in
set_option maxRecDepth 100000 in
/-- itemOf: the file of that number, or null -/
theorem c_X3_itemOf (l : Launch) (G : h_G) {ad : h_T → Nat} {k : h_C} {σ : S_t} (hR : RX G ad k σ) (x : Int32) : h_Rd l yX3_itemOf cX3_itemOf 2 (some (.object "CopyPolls$Item")) 0 0 G ad k [.ref (ad (0, 0, 0)), .int x] (some (va_rf ((ix x (s_nF σ)).map (fun i => ad (7, i, 0))))) := by
  refine h_rd (by decide +kernel) (Nat.le_of_ble_eq_true rfl) ?_
  intro p e s m args below meth c X Y hw ls hl
  have hl : lv_has ls 2 [(0, .ref (ad (0, 0, 0))), (1, .int x)] := hl
  have hok := hR.ok
  obtain ⟨hx, hs, hst, hi, hit, hcp, hcol, hmx, hask, -⟩ := id hR
  have hx : k (0, 0, 0) = some (.inr (3, [.int (nI (s_cop σ)), .ref (ad (1, 0, 0)), .int (nI (s_nS σ)), .ref (ad (2, 0, 0)), .int (nI (s_nF σ)), .ref (ad (3, 0, 0)), .ref (ad (4, 0, 0)), .ref (ad (5, 0, 0)), .ref (ad (5, 1, 0)), .ref (ad (5, 2, 0)), .int (nI (s_as σ).length), .int (s_dg σ)])) := hx
  have hnS : s_nS σ ≤ 10 := hok.2.1
  have hnF : s_nF σ ≤ 40 := hok.2.2.1
  rcases ix_cases x (n := s_nF σ) (by omega) with ⟨e0, h0⟩ | ⟨e0, h0, h1⟩ | ⟨j, hj, rfl, e0⟩
  · rw [e0]
    refine lv_iload_n X.1 X.2.1 dX3_itemOf_0 rfl (lv_at hl 1 rfl) ?_
    refine lv_if_lt (tgt := 21) X.1 X.2.1 dX3_itemOf_1 (by decide) (fun c1 => ?_) (fun c1 => ?_)
    · refine lv_null X.1 X.2.1 dX3_itemOf_21 ?_
      exact h_aret (o := none) X Y dX3_itemOf_22
    · exact absurd h0 c1
  · rw [e0]
    refine lv_iload_n X.1 X.2.1 dX3_itemOf_0 rfl (lv_at hl 1 rfl) ?_
    refine lv_if_lt (tgt := 21) X.1 X.2.1 dX3_itemOf_1 (by decide) (fun c1 => ?_) (fun c1 => ?_)
    · exact absurd c1 h0
    · refine lv_iload_n X.1 X.2.1 dX3_itemOf_4 rfl (lv_at hl 1 rfl) ?_
      refine lv_aload_n X.1 X.2.1 dX3_itemOf_5 rfl (lv_at hl 0 rfl) ?_
      refine gf_X3_25 X hw hx rfl dX3_itemOf_6 ?_
      refine lv_icmp_ge (tgt := 21) X.1 X.2.1 dX3_itemOf_9 (by decide) (fun c9 => ?_) (fun c9 => ?_)
      · refine lv_null X.1 X.2.1 dX3_itemOf_21 ?_
        exact h_aret (o := none) X Y dX3_itemOf_22
      · exact absurd h1 c9
  · rw [e0]
    refine lv_iload_n X.1 X.2.1 dX3_itemOf_0 rfl (lv_at hl 1 rfl) ?_
    refine lv_if_lt (tgt := 21) X.1 X.2.1 dX3_itemOf_1 (by decide) (fun c1 => ?_) (fun c1 => ?_)
    · exact absurd c1 (nI_pos (by omega))
    · refine lv_iload_n X.1 X.2.1 dX3_itemOf_4 rfl (lv_at hl 1 rfl) ?_
      refine lv_aload_n X.1 X.2.1 dX3_itemOf_5 rfl (lv_at hl 0 rfl) ?_
      refine gf_X3_25 X hw hx rfl dX3_itemOf_6 ?_
      refine lv_icmp_ge (tgt := 21) X.1 X.2.1 dX3_itemOf_9 (by decide) (fun c9 => ?_) (fun c9 => ?_)
      · exact absurd c9 (nI_ge hj (by omega))
      · refine lv_aload_n X.1 X.2.1 dX3_itemOf_12 rfl (lv_at hl 0 rfl) ?_
        refine gf_X3_21 X hw hx rfl dX3_itemOf_13 ?_
        refine lv_iload_n X.1 X.2.1 dX3_itemOf_16 rfl (lv_at hl 1 rfl) ?_
        refine h_aald X hw 4 rfl hi (vp_in_nI (by omega) (by decide)) dX3_itemOf_17 ?_
        refine h_tv (b := .ref (ad (7, j, 0))) (by rw [nI_clamp (by omega)]; simp only [x_ite, if_pos hj, va_rf]) ?_
        refine lv_goto (tgt := 22) X.1 X.2.1 dX3_itemOf_18 (by decide) ?_
        exact h_aret (o := some (ad (7, j, 0))) X Y dX3_itemOf_22
