set_option maxHeartbeats 4000000 in
set_option maxRecDepth 100000 in
/-- digest -/
theorem c_X3_digest (l : Launch) (G : h_G) {ad : h_T → Nat} {k : h_C} {σ : S_t} (hR : RX G ad k σ)  : h_Rd l yX3_digest cX3_digest 1 (some .int) 0 0 G ad k [.ref (ad (0, 0, 0))] (some (.int (s_dg σ))) := by
  refine h_rd (by decide +kernel) (Nat.le_of_ble_eq_true rfl) ?_
  intro p e s m args below meth c X Y hw ls hl
  have hl : lv_has ls 1 [(0, .ref (ad (0, 0, 0)))] := hl
  have hok := hR.ok
  obtain ⟨hx, hs, hst, hi, hit, hcp, hcol, hmx, hask, -⟩ := id hR
  have hx : k (0, 0, 0) = some (.inr (3, [.int (nI (s_cop σ)), .ref (ad (1, 0, 0)), .int (nI (s_nS σ)), .ref (ad (2, 0, 0)), .int (nI (s_nF σ)), .ref (ad (3, 0, 0)), .ref (ad (4, 0, 0)), .ref (ad (5, 0, 0)), .ref (ad (5, 1, 0)), .ref (ad (5, 2, 0)), .int (nI (s_as σ).length), .int (s_dg σ)])) := hx
  have hnS : s_nS σ ≤ 10 := hok.2.1
  have hnF : s_nF σ ≤ 40 := hok.2.2.1
  refine lv_aload_n X.1 X.2.1 dX3_digest_0 rfl (lv_at hl 0 rfl) ?_
  refine gf_X3_51 X hw hx rfl dX3_digest_1 ?_
  exact h_iret X Y dX3_digest_4
set_option maxHeartbeats 4000000 in
set_option maxRecDepth 100000 in
/-- load -/
theorem c_X3_load (l : Launch) (G : h_G) {ad : h_T → Nat} {k : h_C} {σ : S_t} (hR : RX G ad k σ) (x : Int32) : h_Rd l yX3_load cX3_load 2 (some .int) 3 67 G ad k [.ref (ad (0, 0, 0)), .int x] (some (.int (sp_load σ x))) := by
  refine h_rd (by decide +kernel) (Nat.le_of_ble_eq_true rfl) ?_
  intro p e s m args below meth c X Y hw ls hl
  have hl : lv_has ls 2 [(0, .ref (ad (0, 0, 0))), (1, .int x)] := hl
  have hok := hR.ok
  obtain ⟨hx, hs, hst, hi, hit, hcp, hcol, hmx, hask, -⟩ := id hR
  have hx : k (0, 0, 0) = some (.inr (3, [.int (nI (s_cop σ)), .ref (ad (1, 0, 0)), .int (nI (s_nS σ)), .ref (ad (2, 0, 0)), .int (nI (s_nF σ)), .ref (ad (3, 0, 0)), .ref (ad (4, 0, 0)), .ref (ad (5, 0, 0)), .ref (ad (5, 1, 0)), .ref (ad (5, 2, 0)), .int (nI (s_as σ).length), .int (s_dg σ)])) := hx
  have hnS : s_nS σ ≤ 10 := hok.2.1
  have hnF : s_nF σ ≤ 40 := hok.2.2.1
  unfold sp_load
  rcases hc : ix x (s_nS σ) with _ | j
  · refine lv_aload_n X.1 X.2.1 dX3_load_0 rfl (lv_at hl 0 rfl) ?_
    refine lv_iload_n X.1 X.2.1 dX3_load_1 rfl (lv_at hl 1 rfl) ?_
    refine h_callRV (t := (0, 0, 0)) (As := [.int x]) (rest := []) X hw cs_X3_91 (c_X3_storeOf l G hR x) hx rfl rfl hl.1 rfl (Nat.le_of_ble_eq_true rfl) ⟨by decide, by decide⟩ ⟨Nat.zero_le _, Nat.zero_le _⟩ dX3_load_2 ?_
    refine h_tv (b := .null) (by rw [hc]; rfl) ?_
    refine lv_ifnonnullN X.1 X.2.1 dX3_load_5 ?_
    refine lv_iconst (v := (-1)) X.1 X.2.1 dX3_load_8 (by decide) ?_
    refine lv_goto (tgt := 17) X.1 X.2.1 dX3_load_9 (by decide) ?_
    exact h_iret (v := -1) X Y dX3_load_17
  · have hj : j < s_nS σ := ix_lt hc
    obtain rfl : x = nI j := ix_eq hc
    refine lv_aload_n X.1 X.2.1 dX3_load_0 rfl (lv_at hl 0 rfl) ?_
    refine lv_iload_n X.1 X.2.1 dX3_load_1 rfl (lv_at hl 1 rfl) ?_
    refine h_callRV (t := (0, 0, 0)) (As := [.int (nI j)]) (rest := []) X hw cs_X3_91 (c_X3_storeOf l G hR (nI j)) hx rfl rfl hl.1 rfl (Nat.le_of_ble_eq_true rfl) ⟨by decide, by decide⟩ ⟨Nat.zero_le _, Nat.zero_le _⟩ dX3_load_2 ?_
    refine h_tv (b := .ref (ad (6, j, 0))) (by rw [hc]; rfl) ?_
    refine lv_ifnonnull (tgt := 12) X.1 X.2.1 dX3_load_5 (by decide) ?_
    refine lv_aload_n X.1 X.2.1 dX3_load_12 rfl (lv_at hl 0 rfl) ?_
    refine lv_iload_n X.1 X.2.1 dX3_load_13 rfl (lv_at hl 1 rfl) ?_
    refine h_callRV (t := (0, 0, 0)) (As := [.int (nI j)]) (rest := []) X hw cs_X3_191 (c_X3_copiesOn l G hR hj) hx rfl rfl hl.1 rfl (Nat.le_of_ble_eq_true rfl) ⟨by decide, by decide⟩ ⟨Nat.zero_le _, Nat.zero_le _⟩ dX3_load_14 ?_
    exact h_iret X Y dX3_load_17
set_option maxHeartbeats 4000000 in
set_option maxRecDepth 100000 in
/-- about -/
theorem c_X3_about (l : Launch) (G : h_G) {ad : h_T → Nat} {k : h_C} {σ : S_t} (hR : RX G ad k σ) (y w : Int32) : h_Rd l yX3_about cX3_about 4 (some .int) 4 88 G ad k [.ref (ad (0, 0, 0)), .int y, .int w] (some (.int (sp_about σ y w))) := by
  refine h_rd (by decide +kernel) (Nat.le_of_ble_eq_true rfl) ?_
  intro p e s m args below meth c X Y hw ls hl
  have hl : lv_has ls 4 [(0, .ref (ad (0, 0, 0))), (1, .int y), (2, .int w)] := hl
  have hok := hR.ok
  obtain ⟨hx, hs, hst, hi, hit, hcp, hcol, hmx, hask, -⟩ := id hR
  have hx : k (0, 0, 0) = some (.inr (3, [.int (nI (s_cop σ)), .ref (ad (1, 0, 0)), .int (nI (s_nS σ)), .ref (ad (2, 0, 0)), .int (nI (s_nF σ)), .ref (ad (3, 0, 0)), .ref (ad (4, 0, 0)), .ref (ad (5, 0, 0)), .ref (ad (5, 1, 0)), .ref (ad (5, 2, 0)), .int (nI (s_as σ).length), .int (s_dg σ)])) := hx
  have hnS : s_nS σ ≤ 10 := hok.2.1
  have hnF : s_nF σ ≤ 40 := hok.2.2.1
  unfold sp_about
  rcases hc : ix y (s_nF σ) with _ | f
  · refine lv_aload_n X.1 X.2.1 dX3_about_0 rfl (lv_at hl 0 rfl) ?_
    refine lv_iload_n X.1 X.2.1 dX3_about_1 rfl (lv_at hl 1 rfl) ?_
    refine h_callRV (t := (0, 0, 0)) (As := [.int y]) (rest := []) X hw cs_X3_109 (c_X3_itemOf l G hR y) hx rfl rfl hl.1 rfl (Nat.le_of_ble_eq_true rfl) ⟨by decide, by decide⟩ ⟨Nat.zero_le _, Nat.zero_le _⟩ dX3_about_2 ?_
    refine h_tv (b := .null) (by rw [hc]; rfl) ?_
    refine lv_astore_nN (lv' := [(3, .null), (0, .ref (ad (0, 0, 0))), (1, .int y), (2, .int w)]) X.1 X.2.1 dX3_about_5 rfl hl (by decide) rfl (fun ls hl => ?_)
    refine lv_aload_nN X.1 X.2.1 dX3_about_6 rfl (lv_at hl 0 rfl) ?_
    refine lv_ifnonnullN X.1 X.2.1 dX3_about_7 ?_
    refine lv_iconst (v := (-1)) X.1 X.2.1 dX3_about_10 (by decide) ?_
    exact h_iret (v := -1) X Y dX3_about_11
  · have hf : f < s_nF σ := ix_lt hc
    show W p l e _ s m args below meth c _ _ _ _ (MQ below (h_Qr (some (.int (if w = 0 then s_pk σ f else if w = 1 then nI (cN (fun s => s_has σ s f) (s_nS σ)) else if w = 2 then nI (cN (s_isC σ f) (s_nS σ)) else if w = 3 then s_rn σ f else -1)))) args s 0 0 (fun _ => False)) _
    by_cases w0 : w = 0
    · subst w0
      refine lv_aload_n X.1 X.2.1 dX3_about_0 rfl (lv_at hl 0 rfl) ?_
      refine lv_iload_n X.1 X.2.1 dX3_about_1 rfl (lv_at hl 1 rfl) ?_
      refine h_callRV (t := (0, 0, 0)) (As := [.int y]) (rest := []) X hw cs_X3_109 (c_X3_itemOf l G hR y) hx rfl rfl hl.1 rfl (Nat.le_of_ble_eq_true rfl) ⟨by decide, by decide⟩ ⟨Nat.zero_le _, Nat.zero_le _⟩ dX3_about_2 ?_
      refine h_tv (b := .ref (ad (7, f, 0))) (by rw [hc]; rfl) ?_
      refine lv_astore_n (lv' := [(3, .ref (ad (7, f, 0))), (0, .ref (ad (0, 0, 0))), (1, .int y), (2, .int 0)]) X.1 X.2.1 dX3_about_5 rfl hl (by decide) rfl (fun ls hl => ?_)
      refine lv_aload_n X.1 X.2.1 dX3_about_6 rfl (lv_at hl 0 rfl) ?_
      refine lv_ifnonnull (tgt := 12) X.1 X.2.1 dX3_about_7 (by decide) ?_
      refine lv_iload_n X.1 X.2.1 dX3_about_12 rfl (lv_at hl 3 rfl) ?_
      refine lv_tableIn (tgt := 44) X.1 X.2.1 dX3_about_13 (by decide) (by decide) (by rfl) (by decide) ?_
      refine lv_aload_n X.1 X.2.1 dX3_about_44 rfl (lv_at hl 0 rfl) ?_
      refine gf_X3_117 X hw (hit f hf).1 rfl dX3_about_45 ?_
      exact h_iret X Y dX3_about_48
    by_cases w1 : w = 1
    · subst w1
      refine lv_aload_n X.1 X.2.1 dX3_about_0 rfl (lv_at hl 0 rfl) ?_
      refine lv_iload_n X.1 X.2.1 dX3_about_1 rfl (lv_at hl 1 rfl) ?_
      refine h_callRV (t := (0, 0, 0)) (As := [.int y]) (rest := []) X hw cs_X3_109 (c_X3_itemOf l G hR y) hx rfl rfl hl.1 rfl (Nat.le_of_ble_eq_true rfl) ⟨by decide, by decide⟩ ⟨Nat.zero_le _, Nat.zero_le _⟩ dX3_about_2 ?_
      refine h_tv (b := .ref (ad (7, f, 0))) (by rw [hc]; rfl) ?_
      refine lv_astore_n (lv' := [(3, .ref (ad (7, f, 0))), (0, .ref (ad (0, 0, 0))), (1, .int y), (2, .int 1)]) X.1 X.2.1 dX3_about_5 rfl hl (by decide) rfl (fun ls hl => ?_)
      refine lv_aload_n X.1 X.2.1 dX3_about_6 rfl (lv_at hl 0 rfl) ?_
      refine lv_ifnonnull (tgt := 12) X.1 X.2.1 dX3_about_7 (by decide) ?_
      refine lv_iload_n X.1 X.2.1 dX3_about_12 rfl (lv_at hl 3 rfl) ?_
      refine lv_tableIn (tgt := 49) X.1 X.2.1 dX3_about_13 (by decide) (by decide) (by rfl) (by decide) ?_
      refine lv_aload_n X.1 X.2.1 dX3_about_49 rfl (lv_at hl 0 rfl) ?_
      refine h_callRV (t := (7, f, 0)) (As := []) (rest := []) X hw cs_X3_182 (c_X0_copyCount l G hR hf) (hit f hf).1 rfl rfl hl.1 rfl (Nat.le_of_ble_eq_true rfl) ⟨by decide, by decide⟩ ⟨Nat.zero_le _, Nat.zero_le _⟩ dX3_about_50 ?_
      refine h_tv (b := .int (nI (cN (fun s => s_has σ s f) (s_nS σ)))) (by rw [cN_has10 hok]) ?_
      exact h_iret X Y dX3_about_53
    by_cases w2 : w = 2
    · subst w2
      refine lv_aload_n X.1 X.2.1 dX3_about_0 rfl (lv_at hl 0 rfl) ?_
      refine lv_iload_n X.1 X.2.1 dX3_about_1 rfl (lv_at hl 1 rfl) ?_
      refine h_callRV (t := (0, 0, 0)) (As := [.int y]) (rest := []) X hw cs_X3_109 (c_X3_itemOf l G hR y) hx rfl rfl hl.1 rfl (Nat.le_of_ble_eq_true rfl) ⟨by decide, by decide⟩ ⟨Nat.zero_le _, Nat.zero_le _⟩ dX3_about_2 ?_
      refine h_tv (b := .ref (ad (7, f, 0))) (by rw [hc]; rfl) ?_
      refine lv_astore_n (lv' := [(3, .ref (ad (7, f, 0))), (0, .ref (ad (0, 0, 0))), (1, .int y), (2, .int 2)]) X.1 X.2.1 dX3_about_5 rfl hl (by decide) rfl (fun ls hl => ?_)
      refine lv_aload_n X.1 X.2.1 dX3_about_6 rfl (lv_at hl 0 rfl) ?_
      refine lv_ifnonnull (tgt := 12) X.1 X.2.1 dX3_about_7 (by decide) ?_
      refine lv_iload_n X.1 X.2.1 dX3_about_12 rfl (lv_at hl 3 rfl) ?_
      refine lv_tableIn (tgt := 54) X.1 X.2.1 dX3_about_13 (by decide) (by decide) (by rfl) (by decide) ?_
      refine lv_aload_n X.1 X.2.1 dX3_about_54 rfl (lv_at hl 1 rfl) ?_
      refine lv_aload_n X.1 X.2.1 dX3_about_55 rfl (lv_at hl 0 rfl) ?_
      refine h_callRV (t := (0, 0, 0)) (As := [.ref (ad (7, f, 0))]) (rest := []) X hw cs_X3_185 (c_X3_countingCopies l G hR hf) hx rfl rfl hl.1 rfl (Nat.le_of_ble_eq_true rfl) ⟨by decide, by decide⟩ ⟨Nat.zero_le _, Nat.zero_le _⟩ dX3_about_56 ?_
      exact h_iret X Y dX3_about_59
    by_cases w3 : w = 3
    · subst w3
      refine lv_aload_n X.1 X.2.1 dX3_about_0 rfl (lv_at hl 0 rfl) ?_
      refine lv_iload_n X.1 X.2.1 dX3_about_1 rfl (lv_at hl 1 rfl) ?_
      refine h_callRV (t := (0, 0, 0)) (As := [.int y]) (rest := []) X hw cs_X3_109 (c_X3_itemOf l G hR y) hx rfl rfl hl.1 rfl (Nat.le_of_ble_eq_true rfl) ⟨by decide, by decide⟩ ⟨Nat.zero_le _, Nat.zero_le _⟩ dX3_about_2 ?_
      refine h_tv (b := .ref (ad (7, f, 0))) (by rw [hc]; rfl) ?_
      refine lv_astore_n (lv' := [(3, .ref (ad (7, f, 0))), (0, .ref (ad (0, 0, 0))), (1, .int y), (2, .int 3)]) X.1 X.2.1 dX3_about_5 rfl hl (by decide) rfl (fun ls hl => ?_)
      refine lv_aload_n X.1 X.2.1 dX3_about_6 rfl (lv_at hl 0 rfl) ?_
      refine lv_ifnonnull (tgt := 12) X.1 X.2.1 dX3_about_7 (by decide) ?_
      refine lv_iload_n X.1 X.2.1 dX3_about_12 rfl (lv_at hl 3 rfl) ?_
      refine lv_tableIn (tgt := 60) X.1 X.2.1 dX3_about_13 (by decide) (by decide) (by rfl) (by decide) ?_
      refine lv_aload_n X.1 X.2.1 dX3_about_60 rfl (lv_at hl 0 rfl) ?_
      refine gf_X3_188 X hw (hit f hf).1 rfl dX3_about_61 ?_
      exact h_iret X Y dX3_about_64
    rw [if_neg w0, if_neg w1, if_neg w2, if_neg w3]
    refine lv_aload_n X.1 X.2.1 dX3_about_0 rfl (lv_at hl 0 rfl) ?_
    refine lv_iload_n X.1 X.2.1 dX3_about_1 rfl (lv_at hl 1 rfl) ?_
    refine h_callRV (t := (0, 0, 0)) (As := [.int y]) (rest := []) X hw cs_X3_109 (c_X3_itemOf l G hR y) hx rfl rfl hl.1 rfl (Nat.le_of_ble_eq_true rfl) ⟨by decide, by decide⟩ ⟨Nat.zero_le _, Nat.zero_le _⟩ dX3_about_2 ?_
    refine h_tv (b := .ref (ad (7, f, 0))) (by rw [hc]; rfl) ?_
    refine lv_astore_n (lv' := [(3, .ref (ad (7, f, 0))), (0, .ref (ad (0, 0, 0))), (1, .int y), (2, .int w)]) X.1 X.2.1 dX3_about_5 rfl hl (by decide) rfl (fun ls hl => ?_)
    refine lv_aload_n X.1 X.2.1 dX3_about_6 rfl (lv_at hl 0 rfl) ?_
    refine lv_ifnonnull (tgt := 12) X.1 X.2.1 dX3_about_7 (by decide) ?_
    refine lv_iload_n X.1 X.2.1 dX3_about_12 rfl (lv_at hl 3 rfl) ?_
    refine lv_tableOut (tgt := 65) X.1 X.2.1 dX3_about_13 (by
      rcases Int.lt_or_le w.toInt 0 with q | q
      · exact Or.inl q
      · rcases Int.lt_or_le 3 w.toInt with q2 | q2
        · exact Or.inr q2
        · exfalso
          rcases (show w.toInt = 0 ∨ w.toInt = 1 ∨ w.toInt = 2 ∨ w.toInt = 3 by omega) with z | z | z | z
          · exact w0 (Int32.toInt_inj.mp z)
          · exact w1 (Int32.toInt_inj.mp z)
          · exact w2 (Int32.toInt_inj.mp z)
          · exact w3 (Int32.toInt_inj.mp z)) (by decide) ?_
    refine lv_iconst (v := (-1)) X.1 X.2.1 dX3_about_65 (by decide) ?_
    exact h_iret (v := -1) X Y dX3_about_66
set_option maxHeartbeats 4000000 in
set_option maxRecDepth 100000 in
/-- stale -/
theorem c_X3_stale (l : Launch) (G : h_G) {ad : h_T → Nat} {k : h_C} {σ : S_t} (hR : RX G ad k σ) (x y : Int32) : h_Rd l yX3_stale cX3_stale 6 (some .int) 5 114 G ad k [.ref (ad (0, 0, 0)), .int x, .int y] (some (.int (sp_stale σ x y))) := by
  refine h_rd (by decide +kernel) (Nat.le_of_ble_eq_true rfl) ?_
  intro p e s m args below meth c X Y hw ls hl
  have hl : lv_has ls 6 [(0, .ref (ad (0, 0, 0))), (1, .int x), (2, .int y)] := hl
  have hok := hR.ok
  obtain ⟨hx, hs, hst, hi, hit, hcp, hcol, hmx, hask, -⟩ := id hR
  have hx : k (0, 0, 0) = some (.inr (3, [.int (nI (s_cop σ)), .ref (ad (1, 0, 0)), .int (nI (s_nS σ)), .ref (ad (2, 0, 0)), .int (nI (s_nF σ)), .ref (ad (3, 0, 0)), .ref (ad (4, 0, 0)), .ref (ad (5, 0, 0)), .ref (ad (5, 1, 0)), .ref (ad (5, 2, 0)), .int (nI (s_as σ).length), .int (s_dg σ)])) := hx
  have hnS : s_nS σ ≤ 10 := hok.2.1
  have hnF : s_nF σ ≤ 40 := hok.2.2.1
  unfold sp_stale
  rcases ha : s_at σ x y with _ | ⟨j, f, b⟩
  · rcases hy : ix y (s_nF σ) with _ | f
    · refine lv_aload_n X.1 X.2.1 dX3_stale_0 rfl (lv_at hl 0 rfl) ?_
      refine lv_iload_n X.1 X.2.1 dX3_stale_1 rfl (lv_at hl 2 rfl) ?_
      refine h_callRV (t := (0, 0, 0)) (As := [.int y]) (rest := []) X hw cs_X3_109 (c_X3_itemOf l G hR y) hx rfl rfl hl.1 rfl (Nat.le_of_ble_eq_true rfl) ⟨by decide, by decide⟩ ⟨Nat.zero_le _, Nat.zero_le _⟩ dX3_stale_2 ?_
      refine h_tv (b := .null) (by rw [hy]; rfl) ?_
      refine lv_astore_nN (lv' := [(3, .null), (0, .ref (ad (0, 0, 0))), (1, .int x), (2, .int y)]) X.1 X.2.1 dX3_stale_5 rfl hl (by decide) rfl (fun ls hl => ?_)
      refine lv_aload_n X.1 X.2.1 dX3_stale_6 rfl (lv_at hl 1 rfl) ?_
      refine lv_iload_n X.1 X.2.1 dX3_stale_7 rfl (lv_at hl 2 rfl) ?_
      refine lv_iload_n X.1 X.2.1 dX3_stale_8 rfl (lv_at hl 3 rfl) ?_
      refine h_callRV (t := (0, 0, 0)) (As := [.int x, .int y]) (rest := []) X hw cs_X3_99 (c_X3_copyOf l G hR x y) hx rfl rfl hl.1 rfl (Nat.le_of_ble_eq_true rfl) ⟨by decide, by decide⟩ ⟨Nat.zero_le _, Nat.zero_le _⟩ dX3_stale_9 ?_
      refine h_tv (b := .null) (by rw [x_copy_at, ha]; rfl) ?_
      refine lv_astoreN (lv' := [(4, .null), (3, .null), (0, .ref (ad (0, 0, 0))), (1, .int x), (2, .int y)]) X.1 X.2.1 dX3_stale_12 hl (by decide) rfl (fun ls hl => ?_)
      refine lv_aload_nN X.1 X.2.1 dX3_stale_14 rfl (lv_at hl 1 rfl) ?_
      refine lv_ifnullN (tgt := 23) X.1 X.2.1 dX3_stale_15 (by decide) ?_
      refine lv_iconst (v := (-1)) X.1 X.2.1 dX3_stale_23 (by decide) ?_
      exact h_iret (v := -1) X Y dX3_stale_24
    · refine lv_aload_n X.1 X.2.1 dX3_stale_0 rfl (lv_at hl 0 rfl) ?_
      refine lv_iload_n X.1 X.2.1 dX3_stale_1 rfl (lv_at hl 2 rfl) ?_
      refine h_callRV (t := (0, 0, 0)) (As := [.int y]) (rest := []) X hw cs_X3_109 (c_X3_itemOf l G hR y) hx rfl rfl hl.1 rfl (Nat.le_of_ble_eq_true rfl) ⟨by decide, by decide⟩ ⟨Nat.zero_le _, Nat.zero_le _⟩ dX3_stale_2 ?_
      refine h_tv (b := .ref (ad (7, f, 0))) (by rw [hy]; rfl) ?_
      refine lv_astore_n (lv' := [(3, .ref (ad (7, f, 0))), (0, .ref (ad (0, 0, 0))), (1, .int x), (2, .int y)]) X.1 X.2.1 dX3_stale_5 rfl hl (by decide) rfl (fun ls hl => ?_)
      refine lv_aload_n X.1 X.2.1 dX3_stale_6 rfl (lv_at hl 1 rfl) ?_
      refine lv_iload_n X.1 X.2.1 dX3_stale_7 rfl (lv_at hl 2 rfl) ?_
      refine lv_iload_n X.1 X.2.1 dX3_stale_8 rfl (lv_at hl 3 rfl) ?_
      refine h_callRV (t := (0, 0, 0)) (As := [.int x, .int y]) (rest := []) X hw cs_X3_99 (c_X3_copyOf l G hR x y) hx rfl rfl hl.1 rfl (Nat.le_of_ble_eq_true rfl) ⟨by decide, by decide⟩ ⟨Nat.zero_le _, Nat.zero_le _⟩ dX3_stale_9 ?_
      refine h_tv (b := .null) (by rw [x_copy_at, ha]; rfl) ?_
      refine lv_astoreN (lv' := [(4, .null), (3, .ref (ad (7, f, 0))), (0, .ref (ad (0, 0, 0))), (1, .int x), (2, .int y)]) X.1 X.2.1 dX3_stale_12 hl (by decide) rfl (fun ls hl => ?_)
      refine lv_aload_n X.1 X.2.1 dX3_stale_14 rfl (lv_at hl 1 rfl) ?_
      refine lv_ifnull X.1 X.2.1 dX3_stale_15 ?_
      refine lv_aloadN X.1 X.2.1 dX3_stale_18 (lv_at hl 0 rfl) ?_
      refine lv_ifnonnullN X.1 X.2.1 dX3_stale_20 ?_
      refine lv_iconst (v := (-1)) X.1 X.2.1 dX3_stale_23 (by decide) ?_
      exact h_iret (v := -1) X Y dX3_stale_24
  · obtain ⟨-, -, hj, hf, hb, -, hy⟩ := s_at_some ha
    rcases hq : s_lead σ f with _ | q
    · show W p l e _ s m args below meth c _ _ _ _ (MQ below (h_Qr (some (.int (match s_ldg σ f with | none => 0 | some d => if d = dgL b then 0 else 1)))) args s 0 0 (fun _ => False)) _
      rw [s_ldg_none hq]
      refine lv_aload_n X.1 X.2.1 dX3_stale_0 rfl (lv_at hl 0 rfl) ?_
      refine lv_iload_n X.1 X.2.1 dX3_stale_1 rfl (lv_at hl 2 rfl) ?_
      refine h_callRV (t := (0, 0, 0)) (As := [.int y]) (rest := []) X hw cs_X3_109 (c_X3_itemOf l G hR y) hx rfl rfl hl.1 rfl (Nat.le_of_ble_eq_true rfl) ⟨by decide, by decide⟩ ⟨Nat.zero_le _, Nat.zero_le _⟩ dX3_stale_2 ?_
      refine h_tv (b := .ref (ad (7, f, 0))) (by rw [hy]; rfl) ?_
      refine lv_astore_n (lv' := [(3, .ref (ad (7, f, 0))), (0, .ref (ad (0, 0, 0))), (1, .int x), (2, .int y)]) X.1 X.2.1 dX3_stale_5 rfl hl (by decide) rfl (fun ls hl => ?_)
      refine lv_aload_n X.1 X.2.1 dX3_stale_6 rfl (lv_at hl 1 rfl) ?_
      refine lv_iload_n X.1 X.2.1 dX3_stale_7 rfl (lv_at hl 2 rfl) ?_
      refine lv_iload_n X.1 X.2.1 dX3_stale_8 rfl (lv_at hl 3 rfl) ?_
      refine h_callRV (t := (0, 0, 0)) (As := [.int x, .int y]) (rest := []) X hw cs_X3_99 (c_X3_copyOf l G hR x y) hx rfl rfl hl.1 rfl (Nat.le_of_ble_eq_true rfl) ⟨by decide, by decide⟩ ⟨Nat.zero_le _, Nat.zero_le _⟩ dX3_stale_9 ?_
      refine h_tv (b := .ref (ad (9, j, f))) (by rw [x_copy_at, ha]; rfl) ?_
      refine lv_astore (lv' := [(4, .ref (ad (9, j, f))), (3, .ref (ad (7, f, 0))), (0, .ref (ad (0, 0, 0))), (1, .int x), (2, .int y)]) X.1 X.2.1 dX3_stale_12 hl (by decide) rfl (fun ls hl => ?_)
      refine lv_aload_n X.1 X.2.1 dX3_stale_14 rfl (lv_at hl 1 rfl) ?_
      refine lv_ifnull X.1 X.2.1 dX3_stale_15 ?_
      refine lv_aload X.1 X.2.1 dX3_stale_18 (lv_at hl 0 rfl) ?_
      refine lv_ifnonnull (tgt := 25) X.1 X.2.1 dX3_stale_20 (by decide) ?_
      refine lv_aload_n X.1 X.2.1 dX3_stale_25 rfl (lv_at hl 2 rfl) ?_
      refine lv_aload_n X.1 X.2.1 dX3_stale_26 rfl (lv_at hl 1 rfl) ?_
      refine h_callRV (t := (0, 0, 0)) (As := [.ref (ad (7, f, 0))]) (rest := []) X hw cs_X3_139 (c_X3_majorityRow l G hR hf) hx rfl rfl hl.1 rfl (Nat.le_of_ble_eq_true rfl) ⟨by decide, by decide⟩ ⟨Nat.zero_le _, Nat.zero_le _⟩ dX3_stale_27 ?_
      refine h_tv (b := .null) (by rw [hq]; rfl) ?_
      refine lv_astoreN (lv' := [(5, .null), (4, .ref (ad (9, j, f))), (3, .ref (ad (7, f, 0))), (0, .ref (ad (0, 0, 0))), (1, .int x), (2, .int y)]) X.1 X.2.1 dX3_stale_30 hl (by decide) rfl (fun ls hl => ?_)
      refine lv_aloadN X.1 X.2.1 dX3_stale_32 (lv_at hl 0 rfl) ?_
      refine lv_ifnullN (tgt := 54) X.1 X.2.1 dX3_stale_34 (by decide) ?_
      refine lv_iconst (v := 0) X.1 X.2.1 dX3_stale_54 (by decide) ?_
      exact h_iret (v := 0) X Y dX3_stale_55
    · obtain ⟨hq1, b2, hb2⟩ := s_lead_spec hq
      show W p l e _ s m args below meth c _ _ _ _ (MQ below (h_Qr (some (.int (match s_ldg σ f with | none => 0 | some d => if d = dgL b then 0 else 1)))) args s 0 0 (fun _ => False)) _
      rw [s_ldg_some hq hb2]
      show W p l e _ s m args below meth c _ _ _ _ (MQ below (h_Qr (some (.int (if dgL b2 = dgL b then 0 else 1)))) args s 0 0 (fun _ => False)) _
      refine lv_aload_n X.1 X.2.1 dX3_stale_0 rfl (lv_at hl 0 rfl) ?_
      refine lv_iload_n X.1 X.2.1 dX3_stale_1 rfl (lv_at hl 2 rfl) ?_
      refine h_callRV (t := (0, 0, 0)) (As := [.int y]) (rest := []) X hw cs_X3_109 (c_X3_itemOf l G hR y) hx rfl rfl hl.1 rfl (Nat.le_of_ble_eq_true rfl) ⟨by decide, by decide⟩ ⟨Nat.zero_le _, Nat.zero_le _⟩ dX3_stale_2 ?_
      refine h_tv (b := .ref (ad (7, f, 0))) (by rw [hy]; rfl) ?_
      refine lv_astore_n (lv' := [(3, .ref (ad (7, f, 0))), (0, .ref (ad (0, 0, 0))), (1, .int x), (2, .int y)]) X.1 X.2.1 dX3_stale_5 rfl hl (by decide) rfl (fun ls hl => ?_)
      refine lv_aload_n X.1 X.2.1 dX3_stale_6 rfl (lv_at hl 1 rfl) ?_
      refine lv_iload_n X.1 X.2.1 dX3_stale_7 rfl (lv_at hl 2 rfl) ?_
      refine lv_iload_n X.1 X.2.1 dX3_stale_8 rfl (lv_at hl 3 rfl) ?_
      refine h_callRV (t := (0, 0, 0)) (As := [.int x, .int y]) (rest := []) X hw cs_X3_99 (c_X3_copyOf l G hR x y) hx rfl rfl hl.1 rfl (Nat.le_of_ble_eq_true rfl) ⟨by decide, by decide⟩ ⟨Nat.zero_le _, Nat.zero_le _⟩ dX3_stale_9 ?_
      refine h_tv (b := .ref (ad (9, j, f))) (by rw [x_copy_at, ha]; rfl) ?_
      refine lv_astore (lv' := [(4, .ref (ad (9, j, f))), (3, .ref (ad (7, f, 0))), (0, .ref (ad (0, 0, 0))), (1, .int x), (2, .int y)]) X.1 X.2.1 dX3_stale_12 hl (by decide) rfl (fun ls hl => ?_)
      refine lv_aload_n X.1 X.2.1 dX3_stale_14 rfl (lv_at hl 1 rfl) ?_
      refine lv_ifnull X.1 X.2.1 dX3_stale_15 ?_
      refine lv_aload X.1 X.2.1 dX3_stale_18 (lv_at hl 0 rfl) ?_
      refine lv_ifnonnull (tgt := 25) X.1 X.2.1 dX3_stale_20 (by decide) ?_
      refine lv_aload_n X.1 X.2.1 dX3_stale_25 rfl (lv_at hl 2 rfl) ?_
      refine lv_aload_n X.1 X.2.1 dX3_stale_26 rfl (lv_at hl 1 rfl) ?_
      refine h_callRV (t := (0, 0, 0)) (As := [.ref (ad (7, f, 0))]) (rest := []) X hw cs_X3_139 (c_X3_majorityRow l G hR hf) hx rfl rfl hl.1 rfl (Nat.le_of_ble_eq_true rfl) ⟨by decide, by decide⟩ ⟨Nat.zero_le _, Nat.zero_le _⟩ dX3_stale_27 ?_
      refine h_tv (b := .ref (ad (9, q, f))) (by rw [hq]; rfl) ?_
      refine lv_astore (lv' := [(5, .ref (ad (9, q, f))), (4, .ref (ad (9, j, f))), (3, .ref (ad (7, f, 0))), (0, .ref (ad (0, 0, 0))), (1, .int x), (2, .int y)]) X.1 X.2.1 dX3_stale_30 hl (by decide) rfl (fun ls hl => ?_)
      refine lv_aload X.1 X.2.1 dX3_stale_32 (lv_at hl 0 rfl) ?_
      refine lv_ifnull X.1 X.2.1 dX3_stale_34 ?_
      refine lv_aload X.1 X.2.1 dX3_stale_37 (lv_at hl 0 rfl) ?_
      refine h_callRV (t := (9, q, f)) (As := []) (rest := []) X hw cs_X3_143 (c_X1_sum l G (hcp q f b2 (s_cnt_cp hb2).1) (hok.2.2.2.2.2.2.1 q f b2 (s_cnt_cp hb2).1)) (hcp q f b2 (s_cnt_cp hb2).1).1 rfl rfl hl.1 rfl (Nat.le_of_ble_eq_true rfl) ⟨by decide, by decide⟩ ⟨Nat.zero_le _, Nat.zero_le _⟩ dX3_stale_39 ?_
      refine lv_aload X.1 X.2.1 dX3_stale_42 (lv_at hl 1 rfl) ?_
      refine h_callRV (t := (9, j, f)) (As := []) (rest := [.int (dgL b2)]) X hw cs_X3_143 (c_X1_sum l G (hcp j f b hb) (hok.2.2.2.2.2.2.1 j f b hb)) (hcp j f b hb).1 rfl rfl hl.1 rfl (Nat.le_of_ble_eq_true rfl) ⟨by decide, by decide⟩ ⟨Nat.zero_le _, Nat.zero_le _⟩ dX3_stale_44 ?_
      refine lv_icmp_eq (tgt := 54) X.1 X.2.1 dX3_stale_47 (by decide) (fun c47 => ?_) (fun c47 => ?_)
      · refine lv_iconst (v := 0) X.1 X.2.1 dX3_stale_54 (by decide) ?_
        rw [if_pos c47]
        exact h_iret X Y dX3_stale_55
      · refine lv_iconst (v := 1) X.1 X.2.1 dX3_stale_50 (by decide) ?_
        refine lv_goto (tgt := 55) X.1 X.2.1 dX3_stale_51 (by decide) ?_
        rw [if_neg c47]
        exact h_iret X Y dX3_stale_55
