set_option maxHeartbeats 4000000 in
set_option maxRecDepth 100000 in
/-- in -/
theorem c_X4_in (l : Launch) (G : h_G) {ad : h_T → Nat} {k : h_C} (x lo hi : Int32) : h_Rd l yX4_in cX4_in 3 (some .boolean) 0 0 G ad k [.int x, .int lo, .int hi] (some (.int (bI (decide (lo ≤ x ∧ x ≤ hi))))) := by
  refine h_rd (by decide +kernel) (Nat.le_of_ble_eq_true rfl) ?_
  intro p e s m args below meth c X Y hw ls hl
  have hl : lv_has ls 3 [(0, .int x), (1, .int lo), (2, .int hi)] := hl
  by_cases h1 : x < lo
  · rw [show decide (lo ≤ x ∧ x ≤ hi) = false from decide_eq_false (fun q => i_nle h1 q.1)]
    refine lv_iload_n X.1 X.2.1 dX4_in_0 rfl (lv_at hl 0 rfl) ?_
    refine lv_iload_n X.1 X.2.1 dX4_in_1 rfl (lv_at hl 1 rfl) ?_
    refine lv_icmp_lt (tgt := 14) X.1 X.2.1 dX4_in_2 (by decide) (fun c2 => ?_) (fun c2 => ?_)
    · refine lv_iconst (v := 0) X.1 X.2.1 dX4_in_14 (by decide) ?_
      exact h_zret X Y (narrow_bI _) dX4_in_15
    · exact absurd h1 c2
  by_cases h2 : hi < x
  · rw [show decide (lo ≤ x ∧ x ≤ hi) = false from decide_eq_false (fun q => i_nle h2 q.2)]
    refine lv_iload_n X.1 X.2.1 dX4_in_0 rfl (lv_at hl 0 rfl) ?_
    refine lv_iload_n X.1 X.2.1 dX4_in_1 rfl (lv_at hl 1 rfl) ?_
    refine lv_icmp_lt (tgt := 14) X.1 X.2.1 dX4_in_2 (by decide) (fun c2 => ?_) (fun c2 => ?_)
    · exact absurd c2 h1
    · refine lv_iload_n X.1 X.2.1 dX4_in_5 rfl (lv_at hl 0 rfl) ?_
      refine lv_iload_n X.1 X.2.1 dX4_in_6 rfl (lv_at hl 2 rfl) ?_
      refine lv_icmp_gt (tgt := 14) X.1 X.2.1 dX4_in_7 (by decide) (fun c7 => ?_) (fun c7 => ?_)
      · refine lv_iconst (v := 0) X.1 X.2.1 dX4_in_14 (by decide) ?_
        exact h_zret X Y (narrow_bI _) dX4_in_15
      · exact absurd h2 c7
  rw [show decide (lo ≤ x ∧ x ≤ hi) = true from decide_eq_true ⟨i_le h1, i_le h2⟩]
  refine lv_iload_n X.1 X.2.1 dX4_in_0 rfl (lv_at hl 0 rfl) ?_
  refine lv_iload_n X.1 X.2.1 dX4_in_1 rfl (lv_at hl 1 rfl) ?_
  refine lv_icmp_lt (tgt := 14) X.1 X.2.1 dX4_in_2 (by decide) (fun c2 => ?_) (fun c2 => ?_)
  · exact absurd c2 h1
  · refine lv_iload_n X.1 X.2.1 dX4_in_5 rfl (lv_at hl 0 rfl) ?_
    refine lv_iload_n X.1 X.2.1 dX4_in_6 rfl (lv_at hl 2 rfl) ?_
    refine lv_icmp_gt (tgt := 14) X.1 X.2.1 dX4_in_7 (by decide) (fun c7 => ?_) (fun c7 => ?_)
    · exact absurd c7 h2
    · refine lv_iconst (v := 1) X.1 X.2.1 dX4_in_10 (by decide) ?_
      refine lv_goto (tgt := 15) X.1 X.2.1 dX4_in_11 (by decide) ?_
      exact h_zret X Y (narrow_bI _) dX4_in_15
set_option maxHeartbeats 4000000 in
set_option maxRecDepth 100000 in
/-- isStore -/
theorem c_X4_isStore (l : Launch) (G : h_G) {ad : h_T → Nat} {k : h_C} {σ : S_t} {th : Int32} (hM : RM G ad k σ th) (x : Int32) : h_Rd l yX4_isStore cX4_isStore 2 (some .boolean) 1 22 G ad k [.ref (ad (20, 0, 0)), .int x] (some (.int (bI (ix x (s_nS σ)).isSome))) := by
  refine h_rd (by decide +kernel) (Nat.le_of_ble_eq_true rfl) ?_
  intro p e s m args below meth c X Y hw ls hl
  have hl : lv_has ls 2 [(0, .ref (ad (20, 0, 0))), (1, .int x)] := hl
  have hok := hM.ok
  obtain ⟨hx, ⟨gP, eP, vP⟩, ⟨gS, eS, vS⟩, ⟨gU, eU, vU⟩, ⟨gD, eD, vD⟩, ⟨gA, eA, vA⟩, ⟨gK, eK, vK⟩, ⟨gN, eN, vN⟩, ⟨gZ, eZ, vZ⟩, ⟨gB, eB, vB⟩, ⟨g0, g1, g2, e15, e16, e17, v3⟩, ⟨gM, eM⟩, -⟩ := id hM
  have hx : k (20, 0, 0) = some (.inr (4, [.int th, .int (nI (s_cop σ)), .int (nI (s_nS σ)), .ref (ad (20, 3, 0)), .ref (ad (20, 4, 0)), .ref (ad (20, 5, 0)), .ref (ad (20, 6, 0)), .int (nI (s_col σ).length), .ref (ad (20, 8, 0)), .int (nI (s_nF σ)), .ref (ad (20, 10, 0)), .ref (ad (20, 11, 0)), .ref (ad (20, 12, 0)), .ref (ad (20, 13, 0)), .int (nI (s_as σ).length), .ref (ad (20, 15, 0)), .ref (ad (20, 16, 0)), .ref (ad (20, 17, 0)), .ref (ad (20, 18, 0)), .int (s_dg σ)])) := hx
  have hnS : s_nS σ ≤ 10 := hok.2.1
  have hnF : s_nF σ ≤ 40 := hok.2.2.1
  refine lv_iload_n X.1 X.2.1 dX4_isStore_0 rfl (lv_at hl 1 rfl) ?_
  refine lv_iconst (v := 0) X.1 X.2.1 dX4_isStore_1 (by decide) ?_
  refine lv_aload_n X.1 X.2.1 dX4_isStore_2 rfl (lv_at hl 0 rfl) ?_
  refine gf_X4_58 X hw hx rfl dX4_isStore_3 ?_
  refine lv_iconst (v := 1) X.1 X.2.1 dX4_isStore_6 (by decide) ?_
  refine lv_isub X.1 X.2.1 dX4_isStore_7 ?_
  refine h_callRS (As := [.int x, .int 0, .int (nI (s_nS σ) - 1)]) (rest := []) X hw cs_X4_61 (c_X4_in l G x 0 (nI (s_nS σ) - 1)) rfl hl.1 rfl (Nat.le_of_ble_eq_true rfl) ⟨by decide, by decide⟩ ⟨Nat.zero_le _, Nat.zero_le _⟩ dX4_isStore_8 ?_
  refine h_tv (b := .int (bI (ix x (s_nS σ)).isSome)) (by rw [in_ix (by omega)]) ?_
  exact h_zret X Y (narrow_bI _) dX4_isStore_11
set_option maxHeartbeats 4000000 in
set_option maxRecDepth 100000 in
/-- isFile -/
theorem c_X4_isFile (l : Launch) (G : h_G) {ad : h_T → Nat} {k : h_C} {σ : S_t} {th : Int32} (hM : RM G ad k σ th) (x : Int32) : h_Rd l yX4_isFile cX4_isFile 2 (some .boolean) 1 22 G ad k [.ref (ad (20, 0, 0)), .int x] (some (.int (bI (ix x (s_nF σ)).isSome))) := by
  refine h_rd (by decide +kernel) (Nat.le_of_ble_eq_true rfl) ?_
  intro p e s m args below meth c X Y hw ls hl
  have hl : lv_has ls 2 [(0, .ref (ad (20, 0, 0))), (1, .int x)] := hl
  have hok := hM.ok
  obtain ⟨hx, ⟨gP, eP, vP⟩, ⟨gS, eS, vS⟩, ⟨gU, eU, vU⟩, ⟨gD, eD, vD⟩, ⟨gA, eA, vA⟩, ⟨gK, eK, vK⟩, ⟨gN, eN, vN⟩, ⟨gZ, eZ, vZ⟩, ⟨gB, eB, vB⟩, ⟨g0, g1, g2, e15, e16, e17, v3⟩, ⟨gM, eM⟩, -⟩ := id hM
  have hx : k (20, 0, 0) = some (.inr (4, [.int th, .int (nI (s_cop σ)), .int (nI (s_nS σ)), .ref (ad (20, 3, 0)), .ref (ad (20, 4, 0)), .ref (ad (20, 5, 0)), .ref (ad (20, 6, 0)), .int (nI (s_col σ).length), .ref (ad (20, 8, 0)), .int (nI (s_nF σ)), .ref (ad (20, 10, 0)), .ref (ad (20, 11, 0)), .ref (ad (20, 12, 0)), .ref (ad (20, 13, 0)), .int (nI (s_as σ).length), .ref (ad (20, 15, 0)), .ref (ad (20, 16, 0)), .ref (ad (20, 17, 0)), .ref (ad (20, 18, 0)), .int (s_dg σ)])) := hx
  have hnS : s_nS σ ≤ 10 := hok.2.1
  have hnF : s_nF σ ≤ 40 := hok.2.2.1
  refine lv_iload_n X.1 X.2.1 dX4_isFile_0 rfl (lv_at hl 1 rfl) ?_
  refine lv_iconst (v := 0) X.1 X.2.1 dX4_isFile_1 (by decide) ?_
  refine lv_aload_n X.1 X.2.1 dX4_isFile_2 rfl (lv_at hl 0 rfl) ?_
  refine gf_X4_65 X hw hx rfl dX4_isFile_3 ?_
  refine lv_iconst (v := 1) X.1 X.2.1 dX4_isFile_6 (by decide) ?_
  refine lv_isub X.1 X.2.1 dX4_isFile_7 ?_
  refine h_callRS (As := [.int x, .int 0, .int (nI (s_nF σ) - 1)]) (rest := []) X hw cs_X4_61 (c_X4_in l G x 0 (nI (s_nF σ) - 1)) rfl hl.1 rfl (Nat.le_of_ble_eq_true rfl) ⟨by decide, by decide⟩ ⟨Nat.zero_le _, Nat.zero_le _⟩ dX4_isFile_8 ?_
  refine h_tv (b := .int (bI (ix x (s_nF σ)).isSome)) (by rw [in_ix (by omega)]) ?_
  exact h_zret X Y (narrow_bI _) dX4_isFile_11
set_option maxHeartbeats 4000000 in
set_option maxRecDepth 100000 in
/-- has -/
theorem c_X4_has (l : Launch) (G : h_G) {ad : h_T → Nat} {k : h_C} {σ : S_t} {th : Int32} (hM : RM G ad k σ th) (x y : Int32) : h_Rd l yX4_has cX4_has 3 (some .boolean) 2 43 G ad k [.ref (ad (20, 0, 0)), .int x, .int y] (some (.int (bI (s_at σ x y).isSome))) := by
  refine h_rd (by decide +kernel) (Nat.le_of_ble_eq_true rfl) ?_
  intro p e s m args below meth c X Y hw ls hl
  have hl : lv_has ls 3 [(0, .ref (ad (20, 0, 0))), (1, .int x), (2, .int y)] := hl
  have hok := hM.ok
  obtain ⟨hx, ⟨gP, eP, vP⟩, ⟨gS, eS, vS⟩, ⟨gU, eU, vU⟩, ⟨gD, eD, vD⟩, ⟨gA, eA, vA⟩, ⟨gK, eK, vK⟩, ⟨gN, eN, vN⟩, ⟨gZ, eZ, vZ⟩, ⟨gB, eB, vB⟩, ⟨g0, g1, g2, e15, e16, e17, v3⟩, ⟨gM, eM⟩, -⟩ := id hM
  have hx : k (20, 0, 0) = some (.inr (4, [.int th, .int (nI (s_cop σ)), .int (nI (s_nS σ)), .ref (ad (20, 3, 0)), .ref (ad (20, 4, 0)), .ref (ad (20, 5, 0)), .ref (ad (20, 6, 0)), .int (nI (s_col σ).length), .ref (ad (20, 8, 0)), .int (nI (s_nF σ)), .ref (ad (20, 10, 0)), .ref (ad (20, 11, 0)), .ref (ad (20, 12, 0)), .ref (ad (20, 13, 0)), .int (nI (s_as σ).length), .ref (ad (20, 15, 0)), .ref (ad (20, 16, 0)), .ref (ad (20, 17, 0)), .ref (ad (20, 18, 0)), .int (s_dg σ)])) := hx
  have hnS : s_nS σ ≤ 10 := hok.2.1
  have hnF : s_nF σ ≤ 40 := hok.2.2.1
  unfold s_at
  rcases hs : ix x (s_nS σ) with _ | s9
  · rw [show ((ix y (s_nF σ)).bind fun f => (none : Option Nat).bind fun s => (s_cp σ s f).map fun b => (s, f, b)) = none by cases ix y (s_nF σ) <;> rfl]
    refine lv_aload_n X.1 X.2.1 dX4_has_0 rfl (lv_at hl 0 rfl) ?_
    refine lv_iload_n X.1 X.2.1 dX4_has_1 rfl (lv_at hl 1 rfl) ?_
    refine h_callRV (t := (20, 0, 0)) (As := [.int x]) (rest := []) X hw cs_X4_68 (c_X4_isStore l G hM x) hx rfl rfl hl.1 rfl (Nat.le_of_ble_eq_true rfl) ⟨by decide, by decide⟩ ⟨Nat.zero_le _, Nat.zero_le _⟩ dX4_has_2 ?_
    refine h_tv (b := .int 0) (by rw [hs]; rfl) ?_
    refine lv_if_eq (tgt := 34) X.1 X.2.1 dX4_has_5 (by decide) (fun c5 => ?_) (fun c5 => ?_)
    · refine lv_iconst (v := 0) X.1 X.2.1 dX4_has_34 (by decide) ?_
      exact h_zret X Y (narrow_bI _) dX4_has_35
    · exact absurd (by decide) c5
  rcases hf : ix y (s_nF σ) with _ | f9
  · refine lv_aload_n X.1 X.2.1 dX4_has_0 rfl (lv_at hl 0 rfl) ?_
    refine lv_iload_n X.1 X.2.1 dX4_has_1 rfl (lv_at hl 1 rfl) ?_
    refine h_callRV (t := (20, 0, 0)) (As := [.int x]) (rest := []) X hw cs_X4_68 (c_X4_isStore l G hM x) hx rfl rfl hl.1 rfl (Nat.le_of_ble_eq_true rfl) ⟨by decide, by decide⟩ ⟨Nat.zero_le _, Nat.zero_le _⟩ dX4_has_2 ?_
    refine h_tv (b := .int 1) (by rw [hs]; rfl) ?_
    refine lv_if_eq (tgt := 34) X.1 X.2.1 dX4_has_5 (by decide) (fun c5 => ?_) (fun c5 => ?_)
    · exact absurd c5 (by decide)
    · refine lv_aload_n X.1 X.2.1 dX4_has_8 rfl (lv_at hl 0 rfl) ?_
      refine lv_iload_n X.1 X.2.1 dX4_has_9 rfl (lv_at hl 2 rfl) ?_
      refine h_callRV (t := (20, 0, 0)) (As := [.int y]) (rest := []) X hw cs_X4_72 (c_X4_isFile l G hM y) hx rfl rfl hl.1 rfl (Nat.le_of_ble_eq_true rfl) ⟨by decide, by decide⟩ ⟨Nat.zero_le _, Nat.zero_le _⟩ dX4_has_10 ?_
      refine h_tv (b := .int 0) (by rw [hf]; rfl) ?_
      refine lv_if_eq (tgt := 34) X.1 X.2.1 dX4_has_13 (by decide) (fun c13 => ?_) (fun c13 => ?_)
      · refine lv_iconst (v := 0) X.1 X.2.1 dX4_has_34 (by decide) ?_
        exact h_zret X Y (narrow_bI _) dX4_has_35
      · exact absurd (by decide) c13
  obtain rfl := ix_eq hs
  obtain rfl := ix_eq hf
  have h1 := ix_lt hs
  have h2 := ix_lt hf
  show W p l e _ s m args below meth c s.heap [] 0 0 (MQ below (h_Qr (some (.int (bI ((s_cp σ s9 f9).map fun b => (s9, f9, b)).isSome)))) args s 0 0 (fun _ => False)) _
  have hl : lv_has ls 3 [(0, .ref (ad (20, 0, 0))), (1, .int (nI s9)), (2, .int (nI f9))] := hl
  rcases hc : s_cp σ s9 f9 with _ | b9
  · refine lv_aload_n X.1 X.2.1 dX4_has_0 rfl (lv_at hl 0 rfl) ?_
    refine lv_iload_n X.1 X.2.1 dX4_has_1 rfl (lv_at hl 1 rfl) ?_
    refine h_callRV (t := (20, 0, 0)) (As := [.int (nI s9)]) (rest := []) X hw cs_X4_68 (c_X4_isStore l G hM (nI s9)) hx rfl rfl hl.1 rfl (Nat.le_of_ble_eq_true rfl) ⟨by decide, by decide⟩ ⟨Nat.zero_le _, Nat.zero_le _⟩ dX4_has_2 ?_
    refine h_tv (b := .int 1) (by rw [hs]; rfl) ?_
    refine lv_if_eq (tgt := 34) X.1 X.2.1 dX4_has_5 (by decide) (fun c5 => ?_) (fun c5 => ?_)
    · exact absurd c5 (by decide)
    · refine lv_aload_n X.1 X.2.1 dX4_has_8 rfl (lv_at hl 0 rfl) ?_
      refine lv_iload_n X.1 X.2.1 dX4_has_9 rfl (lv_at hl 2 rfl) ?_
      refine h_callRV (t := (20, 0, 0)) (As := [.int (nI f9)]) (rest := []) X hw cs_X4_72 (c_X4_isFile l G hM (nI f9)) hx rfl rfl hl.1 rfl (Nat.le_of_ble_eq_true rfl) ⟨by decide, by decide⟩ ⟨Nat.zero_le _, Nat.zero_le _⟩ dX4_has_10 ?_
      refine h_tv (b := .int 1) (by rw [hf]; rfl) ?_
      refine lv_if_eq (tgt := 34) X.1 X.2.1 dX4_has_13 (by decide) (fun c13 => ?_) (fun c13 => ?_)
      · exact absurd c13 (by decide)
      · refine lv_aload_n X.1 X.2.1 dX4_has_16 rfl (lv_at hl 0 rfl) ?_
        refine gf_X4_33 X hw hx rfl dX4_has_17 ?_
        refine lv_bipush (v := 40) X.1 X.2.1 dX4_has_20 (by decide) ?_
        refine lv_iload_n X.1 X.2.1 dX4_has_22 rfl (lv_at hl 1 rfl) ?_
        refine lv_imul X.1 X.2.1 dX4_has_23 ?_
        refine h_ti (b := nI (40 * s9)) (pk_mul 40 s9) ?_
        refine lv_iload_n X.1 X.2.1 dX4_has_24 rfl (lv_at hl 2 rfl) ?_
        refine lv_iadd X.1 X.2.1 dX4_has_25 ?_
        refine h_ti (b := nI ((40 * s9) + f9)) (nI_add (40 * s9) f9) ?_
        refine h_iald X hw eZ (vp_in_nI (by omega) (by decide)) dX4_has_26 ?_
        refine h_tv (b := .int (-1)) (by rw [nI_clamp (by omega), vZ s9 f9 (by omega) (by omega), msz_n hc]) ?_
        refine lv_if_lt (tgt := 34) X.1 X.2.1 dX4_has_27 (by decide) (fun c27 => ?_) (fun c27 => ?_)
        · refine lv_iconst (v := 0) X.1 X.2.1 dX4_has_34 (by decide) ?_
          exact h_zret X Y (narrow_bI _) dX4_has_35
        · exact absurd (by decide) c27
  · have hbl := hok.2.2.2.2.2.2.1 _ _ _ hc
    refine lv_aload_n X.1 X.2.1 dX4_has_0 rfl (lv_at hl 0 rfl) ?_
    refine lv_iload_n X.1 X.2.1 dX4_has_1 rfl (lv_at hl 1 rfl) ?_
    refine h_callRV (t := (20, 0, 0)) (As := [.int (nI s9)]) (rest := []) X hw cs_X4_68 (c_X4_isStore l G hM (nI s9)) hx rfl rfl hl.1 rfl (Nat.le_of_ble_eq_true rfl) ⟨by decide, by decide⟩ ⟨Nat.zero_le _, Nat.zero_le _⟩ dX4_has_2 ?_
    refine h_tv (b := .int 1) (by rw [hs]; rfl) ?_
    refine lv_if_eq (tgt := 34) X.1 X.2.1 dX4_has_5 (by decide) (fun c5 => ?_) (fun c5 => ?_)
    · exact absurd c5 (by decide)
    · refine lv_aload_n X.1 X.2.1 dX4_has_8 rfl (lv_at hl 0 rfl) ?_
      refine lv_iload_n X.1 X.2.1 dX4_has_9 rfl (lv_at hl 2 rfl) ?_
      refine h_callRV (t := (20, 0, 0)) (As := [.int (nI f9)]) (rest := []) X hw cs_X4_72 (c_X4_isFile l G hM (nI f9)) hx rfl rfl hl.1 rfl (Nat.le_of_ble_eq_true rfl) ⟨by decide, by decide⟩ ⟨Nat.zero_le _, Nat.zero_le _⟩ dX4_has_10 ?_
      refine h_tv (b := .int 1) (by rw [hf]; rfl) ?_
      refine lv_if_eq (tgt := 34) X.1 X.2.1 dX4_has_13 (by decide) (fun c13 => ?_) (fun c13 => ?_)
      · exact absurd c13 (by decide)
      · refine lv_aload_n X.1 X.2.1 dX4_has_16 rfl (lv_at hl 0 rfl) ?_
        refine gf_X4_33 X hw hx rfl dX4_has_17 ?_
        refine lv_bipush (v := 40) X.1 X.2.1 dX4_has_20 (by decide) ?_
        refine lv_iload_n X.1 X.2.1 dX4_has_22 rfl (lv_at hl 1 rfl) ?_
        refine lv_imul X.1 X.2.1 dX4_has_23 ?_
        refine h_ti (b := nI (40 * s9)) (pk_mul 40 s9) ?_
        refine lv_iload_n X.1 X.2.1 dX4_has_24 rfl (lv_at hl 2 rfl) ?_
        refine lv_iadd X.1 X.2.1 dX4_has_25 ?_
        refine h_ti (b := nI ((40 * s9) + f9)) (nI_add (40 * s9) f9) ?_
        refine h_iald X hw eZ (vp_in_nI (by omega) (by decide)) dX4_has_26 ?_
        refine h_tv (b := .int (nI b9.length)) (by rw [nI_clamp (by omega), vZ s9 f9 (by omega) (by omega), msz_s hc]) ?_
        refine lv_if_lt (tgt := 34) X.1 X.2.1 dX4_has_27 (by decide) (fun c27 => ?_) (fun c27 => ?_)
        · exact absurd c27 (nI_pos (by omega))
        · refine lv_iconst (v := 1) X.1 X.2.1 dX4_has_30 (by decide) ?_
          refine lv_goto (tgt := 35) X.1 X.2.1 dX4_has_31 (by decide) ?_
          exact h_zret X Y (narrow_bI _) dX4_has_35
theorem c_X4_hasN (l : Launch) (G : h_G) {ad : h_T → Nat} {k : h_C} {σ : S_t} {th : Int32} (hM : RM G ad k σ th) {s f : Nat} (hs : s < s_nS σ) (hf : f < s_nF σ) : h_Rd l yX4_has cX4_has 3 (some .boolean) 2 43 G ad k [.ref (ad (20, 0, 0)), .int (nI s), .int (nI f)] (some (.int (bI (s_has σ s f)))) := by
  have h := c_X4_has l G hM (nI s) (nI f)
  rw [at_nI hM.ok hs hf] at h
  exact h
set_option maxHeartbeats 4000000 in
set_option maxRecDepth 100000 in
/-- counts -/
theorem c_X4_counts (l : Launch) (G : h_G) {ad : h_T → Nat} {k : h_C} {σ : S_t} {th : Int32} (hM : RM G ad k σ th) {s9 f : Nat} (hs : s9 < s_nS σ) (hf : f < s_nF σ) : h_Rd l yX4_counts cX4_counts 3 (some .boolean) 3 65 G ad k [.ref (ad (20, 0, 0)), .int (nI s9), .int (nI f)] (some (.int (bI (s_isC σ f s9)))) := by
  refine h_rd (by decide +kernel) (Nat.le_of_ble_eq_true rfl) ?_
  intro p e s m args below meth c X Y hw ls hl
  have hl : lv_has ls 3 [(0, .ref (ad (20, 0, 0))), (1, .int (nI s9)), (2, .int (nI f))] := hl
  have hok := hM.ok
  obtain ⟨hx, ⟨gP, eP, vP⟩, ⟨gS, eS, vS⟩, ⟨gU, eU, vU⟩, ⟨gD, eD, vD⟩, ⟨gA, eA, vA⟩, ⟨gK, eK, vK⟩, ⟨gN, eN, vN⟩, ⟨gZ, eZ, vZ⟩, ⟨gB, eB, vB⟩, ⟨g0, g1, g2, e15, e16, e17, v3⟩, ⟨gM, eM⟩, -⟩ := id hM
  have hx : k (20, 0, 0) = some (.inr (4, [.int th, .int (nI (s_cop σ)), .int (nI (s_nS σ)), .ref (ad (20, 3, 0)), .ref (ad (20, 4, 0)), .ref (ad (20, 5, 0)), .ref (ad (20, 6, 0)), .int (nI (s_col σ).length), .ref (ad (20, 8, 0)), .int (nI (s_nF σ)), .ref (ad (20, 10, 0)), .ref (ad (20, 11, 0)), .ref (ad (20, 12, 0)), .ref (ad (20, 13, 0)), .int (nI (s_as σ).length), .ref (ad (20, 15, 0)), .ref (ad (20, 16, 0)), .ref (ad (20, 17, 0)), .ref (ad (20, 18, 0)), .int (s_dg σ)])) := hx
  have hnS : s_nS σ ≤ 10 := hok.2.1
  have hnF : s_nF σ ≤ 40 := hok.2.2.1
  rw [isC_eq]
  rcases hh : s_has σ s9 f with _ | _
  · refine lv_aload_n X.1 X.2.1 dX4_counts_0 rfl (lv_at hl 0 rfl) ?_
    refine lv_iload_n X.1 X.2.1 dX4_counts_1 rfl (lv_at hl 1 rfl) ?_
    refine lv_iload_n X.1 X.2.1 dX4_counts_2 rfl (lv_at hl 2 rfl) ?_
    refine h_callRV (t := (20, 0, 0)) (As := [.int (nI s9), .int (nI f)]) (rest := []) X hw cs_X4_75 (c_X4_hasN l G hM hs hf) hx rfl rfl hl.1 rfl (Nat.le_of_ble_eq_true rfl) ⟨by decide, by decide⟩ ⟨Nat.zero_le _, Nat.zero_le _⟩ dX4_counts_3 ?_
    refine h_tv (b := .int 0) (by rw [hh]; rfl) ?_
    refine lv_if_eq (tgt := 22) X.1 X.2.1 dX4_counts_6 (by decide) (fun c6 => ?_) (fun c6 => ?_)
    · refine lv_iconst (v := 0) X.1 X.2.1 dX4_counts_22 (by decide) ?_
      exact h_zret X Y (narrow_bI _) dX4_counts_23
    · exact absurd (by decide) c6
  rcases hb : s_si σ s9 with _ | _
  · refine lv_aload_n X.1 X.2.1 dX4_counts_0 rfl (lv_at hl 0 rfl) ?_
    refine lv_iload_n X.1 X.2.1 dX4_counts_1 rfl (lv_at hl 1 rfl) ?_
    refine lv_iload_n X.1 X.2.1 dX4_counts_2 rfl (lv_at hl 2 rfl) ?_
    refine h_callRV (t := (20, 0, 0)) (As := [.int (nI s9), .int (nI f)]) (rest := []) X hw cs_X4_75 (c_X4_hasN l G hM hs hf) hx rfl rfl hl.1 rfl (Nat.le_of_ble_eq_true rfl) ⟨by decide, by decide⟩ ⟨Nat.zero_le _, Nat.zero_le _⟩ dX4_counts_3 ?_
    refine h_tv (b := .int 1) (by rw [hh]; rfl) ?_
    refine lv_if_eq (tgt := 22) X.1 X.2.1 dX4_counts_6 (by decide) (fun c6 => ?_) (fun c6 => ?_)
    · exact absurd c6 (by decide)
    · refine lv_aload_n X.1 X.2.1 dX4_counts_9 rfl (lv_at hl 0 rfl) ?_
      refine gf_X4_13 X hw hx rfl dX4_counts_10 ?_
      refine lv_iload_n X.1 X.2.1 dX4_counts_13 rfl (lv_at hl 1 rfl) ?_
      refine h_zald X hw eS (vp_in_nI (by omega) (by decide)) dX4_counts_14 ?_
      refine h_tv (b := .int 0) (by rw [nI_clamp (by omega), vS s9 (by omega), hb, bI_f]) ?_
      refine lv_if_ne (tgt := 22) X.1 X.2.1 dX4_counts_15 (by decide) (fun c15 => ?_) (fun c15 => ?_)
      · exact absurd (by decide) c15
      · refine lv_iconst (v := 1) X.1 X.2.1 dX4_counts_18 (by decide) ?_
        refine lv_goto (tgt := 23) X.1 X.2.1 dX4_counts_19 (by decide) ?_
        exact h_zret X Y (narrow_bI _) dX4_counts_23
  · refine lv_aload_n X.1 X.2.1 dX4_counts_0 rfl (lv_at hl 0 rfl) ?_
    refine lv_iload_n X.1 X.2.1 dX4_counts_1 rfl (lv_at hl 1 rfl) ?_
    refine lv_iload_n X.1 X.2.1 dX4_counts_2 rfl (lv_at hl 2 rfl) ?_
    refine h_callRV (t := (20, 0, 0)) (As := [.int (nI s9), .int (nI f)]) (rest := []) X hw cs_X4_75 (c_X4_hasN l G hM hs hf) hx rfl rfl hl.1 rfl (Nat.le_of_ble_eq_true rfl) ⟨by decide, by decide⟩ ⟨Nat.zero_le _, Nat.zero_le _⟩ dX4_counts_3 ?_
    refine h_tv (b := .int 1) (by rw [hh]; rfl) ?_
    refine lv_if_eq (tgt := 22) X.1 X.2.1 dX4_counts_6 (by decide) (fun c6 => ?_) (fun c6 => ?_)
    · exact absurd c6 (by decide)
    · refine lv_aload_n X.1 X.2.1 dX4_counts_9 rfl (lv_at hl 0 rfl) ?_
      refine gf_X4_13 X hw hx rfl dX4_counts_10 ?_
      refine lv_iload_n X.1 X.2.1 dX4_counts_13 rfl (lv_at hl 1 rfl) ?_
      refine h_zald X hw eS (vp_in_nI (by omega) (by decide)) dX4_counts_14 ?_
      refine h_tv (b := .int 1) (by rw [nI_clamp (by omega), vS s9 (by omega), hb, bI_t]) ?_
      refine lv_if_ne (tgt := 22) X.1 X.2.1 dX4_counts_15 (by decide) (fun c15 => ?_) (fun c15 => ?_)
      · refine lv_iconst (v := 0) X.1 X.2.1 dX4_counts_22 (by decide) ?_
        exact h_zret X Y (narrow_bI _) dX4_counts_23
      · exact absurd c15 (by decide)
set_option maxHeartbeats 4000000 in
set_option maxRecDepth 100000 in
/-- loadOf -/
theorem c_X4_loadOf (l : Launch) (G : h_G) {ad : h_T → Nat} {k : h_C} {σ : S_t} {th : Int32} (hM : RM G ad k σ th) {s9 : Nat} (hs : s9 < s_nS σ) : h_Rd l yX4_loadOf cX4_loadOf 4 (some .int) 0 0 G ad k [.ref (ad (20, 0, 0)), .int (nI s9)] (some (.int (nI (s_ld σ s9)))) := by
  refine h_rd (by decide +kernel) (Nat.le_of_ble_eq_true rfl) ?_
  intro p e s m args below meth c X Y hw ls hl
  have hl : lv_has ls 4 [(0, .ref (ad (20, 0, 0))), (1, .int (nI s9))] := hl
  have hok := hM.ok
  obtain ⟨hx, ⟨gP, eP, vP⟩, ⟨gS, eS, vS⟩, ⟨gU, eU, vU⟩, ⟨gD, eD, vD⟩, ⟨gA, eA, vA⟩, ⟨gK, eK, vK⟩, ⟨gN, eN, vN⟩, ⟨gZ, eZ, vZ⟩, ⟨gB, eB, vB⟩, ⟨g0, g1, g2, e15, e16, e17, v3⟩, ⟨gM, eM⟩, -⟩ := id hM
  have hx : k (20, 0, 0) = some (.inr (4, [.int th, .int (nI (s_cop σ)), .int (nI (s_nS σ)), .ref (ad (20, 3, 0)), .ref (ad (20, 4, 0)), .ref (ad (20, 5, 0)), .ref (ad (20, 6, 0)), .int (nI (s_col σ).length), .ref (ad (20, 8, 0)), .int (nI (s_nF σ)), .ref (ad (20, 10, 0)), .ref (ad (20, 11, 0)), .ref (ad (20, 12, 0)), .ref (ad (20, 13, 0)), .int (nI (s_as σ).length), .ref (ad (20, 15, 0)), .ref (ad (20, 16, 0)), .ref (ad (20, 17, 0)), .ref (ad (20, 18, 0)), .int (s_dg σ)])) := hx
  have hnS : s_nS σ ≤ 10 := hok.2.1
  have hnF : s_nF σ ≤ 40 := hok.2.2.1
  unfold s_ld
  have loop : ∀ (n i : Nat), i ≤ s_nF σ → s_nF σ + 1 ≤ i + n → ∀ (ls : Array Slot), lv_has ls 4 [(0, .ref (ad (20, 0, 0))), (1, .int (nI s9)), (2, .int (nI (cN (fun f => s_has σ s9 f) i))), (3, .int (nI i))] → W p l e (h_rm 0 0 0 0) s m args below meth c s.heap [] 0 0 (MQ below (h_Qr (some (.int (nI (cN (fun f => s_has σ s9 f) (s_nF σ)))))) args s 0 0 (fun _ => False)) (F0 m 4 ls []) := by
    intro n
    induction n with
    | zero =>
      intro i h1 h2
      exact absurd h2 (by omega)
    | succ n ih =>
      intro i hii hni ls hl
      refine lv_iload_n X.1 X.2.1 dX4_loadOf_4 rfl (lv_at hl 3 rfl) ?_
      refine lv_aload_n X.1 X.2.1 dX4_loadOf_5 rfl (lv_at hl 0 rfl) ?_
      refine gf_X4_65 X hw hx rfl dX4_loadOf_6 ?_
      refine lv_icmp_ge (tgt := 40) X.1 X.2.1 dX4_loadOf_9 (by decide) (fun c9 => ?_) (fun c9 => ?_)
      · obtain rfl : i = s_nF σ := Nat.le_antisymm hii (Nat.le_of_not_lt (fun q => absurd c9 (nI_ge (b := s_nF σ) q (by omega))))
        refine lv_iload_n X.1 X.2.1 dX4_loadOf_40 rfl (lv_at hl 2 rfl) ?_
        exact h_iret X Y dX4_loadOf_41
      · have hiib : i < s_nF σ := Nat.lt_of_not_le (fun q => c9 (nI_le (a := s_nF σ) q (by omega)))
        rcases hc : s_cp σ s9 i with _ | b9
        · refine lv_iload_n X.1 X.2.1 dX4_loadOf_12 rfl (lv_at hl 2 rfl) ?_
          refine lv_aload_n X.1 X.2.1 dX4_loadOf_13 rfl (lv_at hl 0 rfl) ?_
          refine gf_X4_33 X hw hx rfl dX4_loadOf_14 ?_
          refine lv_bipush (v := 40) X.1 X.2.1 dX4_loadOf_17 (by decide) ?_
          refine lv_iload_n X.1 X.2.1 dX4_loadOf_19 rfl (lv_at hl 1 rfl) ?_
          refine lv_imul X.1 X.2.1 dX4_loadOf_20 ?_
          refine h_ti (b := nI (40 * s9)) (pk_mul 40 s9) ?_
          refine lv_iload_n X.1 X.2.1 dX4_loadOf_21 rfl (lv_at hl 3 rfl) ?_
          refine lv_iadd X.1 X.2.1 dX4_loadOf_22 ?_
          refine h_ti (b := nI ((40 * s9) + i)) (nI_add (40 * s9) i) ?_
          refine h_iald X hw eZ (vp_in_nI (by omega) (by decide)) dX4_loadOf_23 ?_
          refine h_tv (b := .int (-1)) (by rw [nI_clamp (by omega), vZ s9 i (by omega) (by omega), msz_n hc]) ?_
          refine lv_if_lt (tgt := 31) X.1 X.2.1 dX4_loadOf_24 (by decide) (fun c24 => ?_) (fun c24 => ?_)
          · refine lv_iconst (v := 0) X.1 X.2.1 dX4_loadOf_31 (by decide) ?_
            refine lv_iadd X.1 X.2.1 dX4_loadOf_32 ?_
            refine h_ti (b := nI ((cN (fun f => s_has σ s9 f) i) + 0)) (nI_add (cN (fun f => s_has σ s9 f) i) 0) ?_
            refine lv_istore_n (lv' := [(2, .int (nI ((cN (fun f => s_has σ s9 f) i) + 0))), (0, .ref (ad (20, 0, 0))), (1, .int (nI s9)), (3, .int (nI i))]) X.1 X.2.1 dX4_loadOf_33 rfl hl (by decide) rfl (fun ls hl => ?_)
            refine lv_iinc (v := nI (i + 1)) (lv' := [(3, .int (nI (i + 1))), (2, .int (nI ((cN (fun f => s_has σ s9 f) i) + 0))), (0, .ref (ad (20, 0, 0))), (1, .int (nI s9))]) X.1 X.2.1 dX4_loadOf_34 hl (k := 3) rfl (nI_1 _) (by decide) rfl (fun ls hl => ?_)
            refine lv_goto (tgt := 4) X.1 X.2.1 dX4_loadOf_37 (by decide) ?_
            exact ih (i + 1) (by omega) (by omega) ls (by
              rw [cN_f (show s_has σ s9 i = false by unfold s_has; rw [hc]; rfl)]
              exact lv_sub hl [2, 3, 1, 0] rfl)
          · exact absurd (by decide) c24
        · refine lv_iload_n X.1 X.2.1 dX4_loadOf_12 rfl (lv_at hl 2 rfl) ?_
          refine lv_aload_n X.1 X.2.1 dX4_loadOf_13 rfl (lv_at hl 0 rfl) ?_
          refine gf_X4_33 X hw hx rfl dX4_loadOf_14 ?_
          refine lv_bipush (v := 40) X.1 X.2.1 dX4_loadOf_17 (by decide) ?_
          refine lv_iload_n X.1 X.2.1 dX4_loadOf_19 rfl (lv_at hl 1 rfl) ?_
          refine lv_imul X.1 X.2.1 dX4_loadOf_20 ?_
          refine h_ti (b := nI (40 * s9)) (pk_mul 40 s9) ?_
          refine lv_iload_n X.1 X.2.1 dX4_loadOf_21 rfl (lv_at hl 3 rfl) ?_
          refine lv_iadd X.1 X.2.1 dX4_loadOf_22 ?_
          refine h_ti (b := nI ((40 * s9) + i)) (nI_add (40 * s9) i) ?_
          refine h_iald X hw eZ (vp_in_nI (by omega) (by decide)) dX4_loadOf_23 ?_
          refine h_tv (b := .int (nI b9.length)) (by rw [nI_clamp (by omega), vZ s9 i (by omega) (by omega), msz_s hc]) ?_
          refine lv_if_lt (tgt := 31) X.1 X.2.1 dX4_loadOf_24 (by decide) (fun c24 => ?_) (fun c24 => ?_)
          · exact absurd c24 (nI_pos (by have := hok.2.2.2.2.2.2.1 _ _ _ hc; omega))
          · refine lv_iconst (v := 1) X.1 X.2.1 dX4_loadOf_27 (by decide) ?_
            refine lv_goto (tgt := 32) X.1 X.2.1 dX4_loadOf_28 (by decide) ?_
            refine lv_iadd X.1 X.2.1 dX4_loadOf_32 ?_
            refine h_ti (b := nI ((cN (fun f => s_has σ s9 f) i) + 1)) (nI_add (cN (fun f => s_has σ s9 f) i) 1) ?_
            refine lv_istore_n (lv' := [(2, .int (nI ((cN (fun f => s_has σ s9 f) i) + 1))), (0, .ref (ad (20, 0, 0))), (1, .int (nI s9)), (3, .int (nI i))]) X.1 X.2.1 dX4_loadOf_33 rfl hl (by decide) rfl (fun ls hl => ?_)
            refine lv_iinc (v := nI (i + 1)) (lv' := [(3, .int (nI (i + 1))), (2, .int (nI ((cN (fun f => s_has σ s9 f) i) + 1))), (0, .ref (ad (20, 0, 0))), (1, .int (nI s9))]) X.1 X.2.1 dX4_loadOf_34 hl (k := 3) rfl (nI_1 _) (by decide) rfl (fun ls hl => ?_)
            refine lv_goto (tgt := 4) X.1 X.2.1 dX4_loadOf_37 (by decide) ?_
            exact ih (i + 1) (by omega) (by omega) ls (by
              rw [cN_t (show s_has σ s9 i = true by unfold s_has; rw [hc]; rfl)]
              exact lv_sub hl [2, 3, 1, 0] rfl)
  refine lv_iconst (v := 0) X.1 X.2.1 dX4_loadOf_0 (by decide) ?_
  refine lv_istore_n (lv' := [(2, .int 0), (0, .ref (ad (20, 0, 0))), (1, .int (nI s9))]) X.1 X.2.1 dX4_loadOf_1 rfl hl (by decide) rfl (fun ls hl => ?_)
  refine lv_iconst (v := 0) X.1 X.2.1 dX4_loadOf_2 (by decide) ?_
  refine lv_istore_n (lv' := [(3, .int 0), (2, .int 0), (0, .ref (ad (20, 0, 0))), (1, .int (nI s9))]) X.1 X.2.1 dX4_loadOf_3 rfl hl (by decide) rfl (fun ls hl => ?_)
  exact loop (s_nF σ + 1) 0 (by omega) (by omega) ls (lv_sub hl [2, 3, 1, 0] rfl)
