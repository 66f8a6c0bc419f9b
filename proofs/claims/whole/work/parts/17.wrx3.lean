theorem x_rws_set (ad : h_T → Nat) (σ : S_t) (j f : Nat) (v : Option (List Int32)) : x_rws ad (s_setCp σ j f v) f = va_up (x_rws ad σ f) j (v.map (fun _ => ad (9, j, f))) := by
  funext a
  show (s_c2 (s_cp σ) j f v a f).map _ = _
  by_cases haj : a = j
  · subst haj
    rw [s_c2_s, va_up_self]
  · rw [s_c2_n (fun h => haj h.1), va_up_ne _ _ haj]
    rfl
set_option maxHeartbeats 4000000 in
set_option maxRecDepth 100000 in
/-- lose -/
theorem c_X3_lose (l : Launch) (G : h_G) {ad : h_T → Nat} {k : h_C} {σ : S_t} (hR : RX G ad k σ) (x y : Int32) : h_Wr l yX3_lose cX3_lose 4 (some .int) 2 44 0 0 G ad k [.ref (ad (0, 0, 0)), .int x, .int y] (XPost G ad k (some (.int (sp_lose σ x y).1)) (sp_lose σ x y).2) := by
  refine h_wr (by decide +kernel) (Nat.le_of_ble_eq_true rfl) ?_
  intro p e s m args below meth c X Y hw ls hl
  have hl : lv_has ls 4 [(0, .ref (ad (0, 0, 0))), (1, .int x), (2, .int y)] := hl
  have hok := hR.ok
  obtain ⟨hx, hs, hst, hi, hit, hcp, hcol, hmx, hask, -⟩ := id hR
  have hx : k (0, 0, 0) = some (.inr (3, [.int (nI (s_cop σ)), .ref (ad (1, 0, 0)), .int (nI (s_nS σ)), .ref (ad (2, 0, 0)), .int (nI (s_nF σ)), .ref (ad (3, 0, 0)), .ref (ad (4, 0, 0)), .ref (ad (5, 0, 0)), .ref (ad (5, 1, 0)), .ref (ad (5, 2, 0)), .int (nI (s_as σ).length), .int (s_dg σ)])) := hx
  have hnS : s_nS σ ≤ 10 := hok.2.1
  have hnF : s_nF σ ≤ 40 := hok.2.2.1
  unfold sp_lose
  rcases ha : s_at σ x y with _ | ⟨j, f, b⟩
  · rcases hyf : ix y (s_nF σ) with _ | f
    · refine lv_aload_n X.1 X.2.1 dX3_lose_0 rfl (lv_at hl 0 rfl) ?_
      refine lv_iload_n X.1 X.2.1 dX3_lose_1 rfl (lv_at hl 2 rfl) ?_
      refine h_callRV (t := (0, 0, 0)) (As := [.int y]) (rest := []) X hw cs_X3_109 (c_X3_itemOf l G hR y) hx rfl rfl hl.1 rfl (Nat.le_of_ble_eq_true rfl) ⟨by decide, by decide⟩ ⟨Nat.zero_le _, Nat.zero_le _⟩ dX3_lose_2 ?_
      refine h_tv (b := .null) (by rw [hyf]; rfl) ?_
      refine lv_astore_nN (lv' := [(3, .null), (0, .ref (ad (0, 0, 0))), (1, .int x), (2, .int y)]) X.1 X.2.1 dX3_lose_5 rfl hl (by decide) rfl (fun ls hl => ?_)
      refine lv_aload_nN X.1 X.2.1 dX3_lose_6 rfl (lv_at hl 0 rfl) ?_
      refine lv_ifnullN (tgt := 19) X.1 X.2.1 dX3_lose_7 (by decide) ?_
      refine lv_iconst (v := (-1)) X.1 X.2.1 dX3_lose_19 (by decide) ?_
      exact h_iretW (v := -1) X Y hw ⟨rfl, hR, fun _ _ => ⟨rfl, rfl⟩, rfl⟩ (Nat.zero_le _) (Nat.zero_le _) dX3_lose_20
    · refine lv_aload_n X.1 X.2.1 dX3_lose_0 rfl (lv_at hl 0 rfl) ?_
      refine lv_iload_n X.1 X.2.1 dX3_lose_1 rfl (lv_at hl 2 rfl) ?_
      refine h_callRV (t := (0, 0, 0)) (As := [.int y]) (rest := []) X hw cs_X3_109 (c_X3_itemOf l G hR y) hx rfl rfl hl.1 rfl (Nat.le_of_ble_eq_true rfl) ⟨by decide, by decide⟩ ⟨Nat.zero_le _, Nat.zero_le _⟩ dX3_lose_2 ?_
      refine h_tv (b := .ref (ad (7, f, 0))) (by rw [hyf]; rfl) ?_
      refine lv_astore_n (lv' := [(3, .ref (ad (7, f, 0))), (0, .ref (ad (0, 0, 0))), (1, .int x), (2, .int y)]) X.1 X.2.1 dX3_lose_5 rfl hl (by decide) rfl (fun ls hl => ?_)
      refine lv_aload_n X.1 X.2.1 dX3_lose_6 rfl (lv_at hl 0 rfl) ?_
      refine lv_ifnull X.1 X.2.1 dX3_lose_7 ?_
      refine lv_aload_n X.1 X.2.1 dX3_lose_10 rfl (lv_at hl 1 rfl) ?_
      refine lv_iload_n X.1 X.2.1 dX3_lose_11 rfl (lv_at hl 2 rfl) ?_
      refine lv_iload_n X.1 X.2.1 dX3_lose_12 rfl (lv_at hl 3 rfl) ?_
      refine h_callRV (t := (0, 0, 0)) (As := [.int x, .int y]) (rest := []) X hw cs_X3_99 (c_X3_copyOf l G hR x y) hx rfl rfl hl.1 rfl (Nat.le_of_ble_eq_true rfl) ⟨by decide, by decide⟩ ⟨Nat.zero_le _, Nat.zero_le _⟩ dX3_lose_13 ?_
      refine h_tv (b := .null) (by rw [x_copy_at, ha]; rfl) ?_
      refine lv_ifnonnullN X.1 X.2.1 dX3_lose_16 ?_
      refine lv_iconst (v := (-1)) X.1 X.2.1 dX3_lose_19 (by decide) ?_
      exact h_iretW (v := -1) X Y hw ⟨rfl, hR, fun _ _ => ⟨rfl, rfl⟩, rfl⟩ (Nat.zero_le _) (Nat.zero_le _) dX3_lose_20
  · obtain ⟨ex, ey, hj, hf, hb, hxj, hyf⟩ := s_at_some ha
    refine lv_aload_n X.1 X.2.1 dX3_lose_0 rfl (lv_at hl 0 rfl) ?_
    refine lv_iload_n X.1 X.2.1 dX3_lose_1 rfl (lv_at hl 2 rfl) ?_
    refine h_callRV (t := (0, 0, 0)) (As := [.int y]) (rest := []) X hw cs_X3_109 (c_X3_itemOf l G hR y) hx rfl rfl hl.1 rfl (Nat.le_of_ble_eq_true rfl) ⟨by decide, by decide⟩ ⟨Nat.zero_le _, Nat.zero_le _⟩ dX3_lose_2 ?_
    refine h_tv (b := .ref (ad (7, f, 0))) (by rw [hyf]; rfl) ?_
    refine lv_astore_n (lv' := [(3, .ref (ad (7, f, 0))), (0, .ref (ad (0, 0, 0))), (1, .int x), (2, .int y)]) X.1 X.2.1 dX3_lose_5 rfl hl (by decide) rfl (fun ls hl => ?_)
    refine lv_aload_n X.1 X.2.1 dX3_lose_6 rfl (lv_at hl 0 rfl) ?_
    refine lv_ifnull X.1 X.2.1 dX3_lose_7 ?_
    refine lv_aload_n X.1 X.2.1 dX3_lose_10 rfl (lv_at hl 1 rfl) ?_
    refine lv_iload_n X.1 X.2.1 dX3_lose_11 rfl (lv_at hl 2 rfl) ?_
    refine lv_iload_n X.1 X.2.1 dX3_lose_12 rfl (lv_at hl 3 rfl) ?_
    refine h_callRV (t := (0, 0, 0)) (As := [.int x, .int y]) (rest := []) X hw cs_X3_99 (c_X3_copyOf l G hR x y) hx rfl rfl hl.1 rfl (Nat.le_of_ble_eq_true rfl) ⟨by decide, by decide⟩ ⟨Nat.zero_le _, Nat.zero_le _⟩ dX3_lose_13 ?_
    refine h_tv (b := .ref (ad (9, j, f))) (by rw [x_copy_at, ha]; rfl) ?_
    refine lv_ifnonnull (tgt := 21) X.1 X.2.1 dX3_lose_16 (by decide) ?_
    refine lv_aload_n X.1 X.2.1 dX3_lose_21 rfl (lv_at hl 0 rfl) ?_
    refine gf_X3_113 X hw (hit f hf).1 rfl dX3_lose_22 ?_
    refine lv_iload_n X.1 X.2.1 dX3_lose_25 rfl (lv_at hl 2 rfl) ?_
    refine lv_null X.1 X.2.1 dX3_lose_26 ?_
    refine h_aastN X hw 5 rfl (hit f hf).2 (by rw [ex]; exact vp_in_nI (by omega) (by decide)) dX3_lose_27 (fun H locs hw => ?_)
    obtain ⟨k1, hk1⟩ : ∃ zz, zz = h_cu k (8, f, 0) (some (.inl (G.2 5, 10, x_refs (va_up (x_rws ad σ f) (x).toNatClampNeg none)))) := ⟨_, rfl⟩
    have hw := h_W.ren hw hk1
    have f1_0_0_0 : k1 (0, 0, 0) = some (.inr (3, [.int (nI (s_cop σ)), .ref (ad (1, 0, 0)), .int (nI (s_nS σ)), .ref (ad (2, 0, 0)), .int (nI (s_nF σ)), .ref (ad (3, 0, 0)), .ref (ad (4, 0, 0)), .ref (ad (5, 0, 0)), .ref (ad (5, 1, 0)), .ref (ad (5, 2, 0)), .int (nI (s_as σ).length), .int (s_dg σ)])) := by rw [hk1, h_cn _ _ (by simp)]; exact hx
    have f1_7_f_0 : k1 (7, f, 0) = some (.inr (0, [.int (s_pk σ f), .ref (ad (8, f, 0)), .int (s_rn σ f)])) := by rw [hk1, h_cn _ _ (by simp)]; exact (hit f hf).1
    have f1_8_f_0 : k1 (8, f, 0) = some (.inl (G.2 5, 10, x_refs (va_up (x_rws ad σ f) (x).toNatClampNeg none))) := by rw [hk1]; exact h_cs _ _ _
    refine lv_iconst (v := 1) X.1 X.2.1 dX3_lose_28 (by decide) ?_
    exact h_iretW (v := 1) X Y hw ⟨rfl, hR.file (τ := s_setCp σ j f none) (f := f) rfl rfl rfl (fun _ _ => rfl) rfl (fun a g hg => s_c2_n (fun h => hg h.2)) hf (fun a ha2 => by
      show s_c2 (s_cp σ) j f none a f = none
      by_cases haj : a = j
      · subst haj; exact s_c2_s
      · rw [s_c2_n (fun h => haj h.1)]; exact hok.2.2.2.2.2.1 a f (Or.inl ha2)) (fun a l hl => by
      have hl : s_c2 (s_cp σ) j f none a f = some l := hl
      by_cases haj : a = j
      · subst haj; rw [s_c2_s] at hl; cases hl
      · rw [s_c2_n (fun h => haj h.1)] at hl; exact hok.2.2.2.2.2.2.1 a f l hl) ⟨f1_7_f_0, by rw [x_rws_set]; rw [f1_8_f_0, ex, nI_clamp (by omega)]; rfl⟩ (fun a l hl => by
      have hl : s_c2 (s_cp σ) j f none a f = some l := hl
      by_cases haj : a = j
      · subst haj; rw [s_c2_s] at hl; cases hl
      · rw [s_c2_n (fun h => haj h.1)] at hl
        exact (hcp a f l hl).congr (by rw [hk1, h_cn _ _ (by simp)]) (by rw [hk1, h_cn _ _ (by simp)]) rfl) rfl (fun t _ _ h8 _ => ⟨by rw [hk1, h_cn _ _ h8], rfl⟩), fun t ht => ⟨by rw [hk1, h_cn _ _ (t20 ht (Nat.le_of_ble_eq_true rfl))], rfl⟩, rfl⟩ (Nat.zero_le _) (Nat.zero_le _) dX3_lose_29
set_option maxHeartbeats 4000000 in
set_option maxRecDepth 100000 in
/-- move -/
theorem c_X3_move (l : Launch) (G : h_G) {ad : h_T → Nat} {k : h_C} {σ : S_t} (hR : RX G ad k σ) (y x z : Int32) : h_Wr l yX3_move cX3_move 6 (some .int) 2 44 0 0 G ad k [.ref (ad (0, 0, 0)), .int y, .int x, .int z] (XPost G ad k (some (.int (sp_move σ y x z).1)) (sp_move σ y x z).2) := by
  refine h_wr (by decide +kernel) (Nat.le_of_ble_eq_true rfl) ?_
  intro p e s m args below meth c X Y hw ls hl
  have hl : lv_has ls 6 [(0, .ref (ad (0, 0, 0))), (1, .int y), (2, .int x), (3, .int z)] := hl
  have hok := hR.ok
  obtain ⟨hx, hs, hst, hi, hit, hcp, hcol, hmx, hask, -⟩ := id hR
  have hx : k (0, 0, 0) = some (.inr (3, [.int (nI (s_cop σ)), .ref (ad (1, 0, 0)), .int (nI (s_nS σ)), .ref (ad (2, 0, 0)), .int (nI (s_nF σ)), .ref (ad (3, 0, 0)), .ref (ad (4, 0, 0)), .ref (ad (5, 0, 0)), .ref (ad (5, 1, 0)), .ref (ad (5, 2, 0)), .int (nI (s_as σ).length), .int (s_dg σ)])) := hx
  have hnS : s_nS σ ≤ 10 := hok.2.1
  have hnF : s_nF σ ≤ 40 := hok.2.2.1
  unfold sp_move
  rcases ha : s_at σ x y with _ | ⟨j, f, b⟩
  · rcases hyf : ix y (s_nF σ) with _ | f
    · refine lv_aload_n X.1 X.2.1 dX3_move_0 rfl (lv_at hl 0 rfl) ?_
      refine lv_iload_n X.1 X.2.1 dX3_move_1 rfl (lv_at hl 1 rfl) ?_
      refine h_callRV (t := (0, 0, 0)) (As := [.int y]) (rest := []) X hw cs_X3_109 (c_X3_itemOf l G hR y) hx rfl rfl hl.1 rfl (Nat.le_of_ble_eq_true rfl) ⟨by decide, by decide⟩ ⟨Nat.zero_le _, Nat.zero_le _⟩ dX3_move_2 ?_
      refine h_tv (b := .null) (by rw [hyf]; rfl) ?_
      refine lv_astoreN (lv' := [(4, .null), (0, .ref (ad (0, 0, 0))), (1, .int y), (2, .int x), (3, .int z)]) X.1 X.2.1 dX3_move_5 hl (by decide) rfl (fun ls hl => ?_)
      refine lv_aload_n X.1 X.2.1 dX3_move_7 rfl (lv_at hl 1 rfl) ?_
      refine lv_iload_n X.1 X.2.1 dX3_move_8 rfl (lv_at hl 3 rfl) ?_
      refine lv_iload_n X.1 X.2.1 dX3_move_9 rfl (lv_at hl 2 rfl) ?_
      refine h_callRV (t := (0, 0, 0)) (As := [.int x, .int y]) (rest := []) X hw cs_X3_99 (c_X3_copyOf l G hR x y) hx rfl rfl hl.1 rfl (Nat.le_of_ble_eq_true rfl) ⟨by decide, by decide⟩ ⟨Nat.zero_le _, Nat.zero_le _⟩ dX3_move_10 ?_
      refine h_tv (b := .null) (by rw [x_copy_at, ha]; rfl) ?_
      refine lv_astoreN (lv' := [(5, .null), (4, .null), (0, .ref (ad (0, 0, 0))), (1, .int y), (2, .int x), (3, .int z)]) X.1 X.2.1 dX3_move_13 hl (by decide) rfl (fun ls hl => ?_)
      refine lv_aloadN X.1 X.2.1 dX3_move_15 (lv_at hl 1 rfl) ?_
      refine lv_ifnullN (tgt := 33) X.1 X.2.1 dX3_move_17 (by decide) ?_
      refine lv_iconst (v := (-1)) X.1 X.2.1 dX3_move_33 (by decide) ?_
      exact h_iretW (v := -1) X Y hw ⟨rfl, hR, fun _ _ => ⟨rfl, rfl⟩, rfl⟩ (Nat.zero_le _) (Nat.zero_le _) dX3_move_34
    · refine lv_aload_n X.1 X.2.1 dX3_move_0 rfl (lv_at hl 0 rfl) ?_
      refine lv_iload_n X.1 X.2.1 dX3_move_1 rfl (lv_at hl 1 rfl) ?_
      refine h_callRV (t := (0, 0, 0)) (As := [.int y]) (rest := []) X hw cs_X3_109 (c_X3_itemOf l G hR y) hx rfl rfl hl.1 rfl (Nat.le_of_ble_eq_true rfl) ⟨by decide, by decide⟩ ⟨Nat.zero_le _, Nat.zero_le _⟩ dX3_move_2 ?_
      refine h_tv (b := .ref (ad (7, f, 0))) (by rw [hyf]; rfl) ?_
      refine lv_astore (lv' := [(4, .ref (ad (7, f, 0))), (0, .ref (ad (0, 0, 0))), (1, .int y), (2, .int x), (3, .int z)]) X.1 X.2.1 dX3_move_5 hl (by decide) rfl (fun ls hl => ?_)
      refine lv_aload_n X.1 X.2.1 dX3_move_7 rfl (lv_at hl 1 rfl) ?_
      refine lv_iload_n X.1 X.2.1 dX3_move_8 rfl (lv_at hl 3 rfl) ?_
      refine lv_iload_n X.1 X.2.1 dX3_move_9 rfl (lv_at hl 2 rfl) ?_
      refine h_callRV (t := (0, 0, 0)) (As := [.int x, .int y]) (rest := []) X hw cs_X3_99 (c_X3_copyOf l G hR x y) hx rfl rfl hl.1 rfl (Nat.le_of_ble_eq_true rfl) ⟨by decide, by decide⟩ ⟨Nat.zero_le _, Nat.zero_le _⟩ dX3_move_10 ?_
      refine h_tv (b := .null) (by rw [x_copy_at, ha]; rfl) ?_
      refine lv_astoreN (lv' := [(5, .null), (4, .ref (ad (7, f, 0))), (0, .ref (ad (0, 0, 0))), (1, .int y), (2, .int x), (3, .int z)]) X.1 X.2.1 dX3_move_13 hl (by decide) rfl (fun ls hl => ?_)
      refine lv_aload X.1 X.2.1 dX3_move_15 (lv_at hl 1 rfl) ?_
      refine lv_ifnull X.1 X.2.1 dX3_move_17 ?_
      refine lv_aloadN X.1 X.2.1 dX3_move_20 (lv_at hl 0 rfl) ?_
      refine lv_ifnullN (tgt := 33) X.1 X.2.1 dX3_move_22 (by decide) ?_
      refine lv_iconst (v := (-1)) X.1 X.2.1 dX3_move_33 (by decide) ?_
      exact h_iretW (v := -1) X Y hw ⟨rfl, hR, fun _ _ => ⟨rfl, rfl⟩, rfl⟩ (Nat.zero_le _) (Nat.zero_le _) dX3_move_34
  · obtain ⟨ex, ey, hj, hf, hb, hxj, hyf⟩ := s_at_some ha
    show W p l e _ s m args below meth c _ _ _ _ (MQ below (h_Qw G ad k s.heap.size (XPost G ad k (some (.int ((match ix z (s_nS σ) with | none => (-1, σ) | some u => if j = u ∨ s_si σ j = true ∨ s_si σ u = true ∨ s_has σ u f = true then (-3, σ) else (1, s_setCp (s_setCp σ u f (some b)) j f none)) : Int32 × S_t).1)) ((match ix z (s_nS σ) with | none => (-1, σ) | some u => if j = u ∨ s_si σ j = true ∨ s_si σ u = true ∨ s_has σ u f = true then (-3, σ) else (1, s_setCp (s_setCp σ u f (some b)) j f none)) : Int32 × S_t).2)) args s 0 0 (h_A ad k s.heap.size)) _
    rcases hz : ix z (s_nS σ) with _ | u
    · refine lv_aload_n X.1 X.2.1 dX3_move_0 rfl (lv_at hl 0 rfl) ?_
      refine lv_iload_n X.1 X.2.1 dX3_move_1 rfl (lv_at hl 1 rfl) ?_
      refine h_callRV (t := (0, 0, 0)) (As := [.int y]) (rest := []) X hw cs_X3_109 (c_X3_itemOf l G hR y) hx rfl rfl hl.1 rfl (Nat.le_of_ble_eq_true rfl) ⟨by decide, by decide⟩ ⟨Nat.zero_le _, Nat.zero_le _⟩ dX3_move_2 ?_
      refine h_tv (b := .ref (ad (7, f, 0))) (by rw [hyf]; rfl) ?_
      refine lv_astore (lv' := [(4, .ref (ad (7, f, 0))), (0, .ref (ad (0, 0, 0))), (1, .int y), (2, .int x), (3, .int z)]) X.1 X.2.1 dX3_move_5 hl (by decide) rfl (fun ls hl => ?_)
      refine lv_aload_n X.1 X.2.1 dX3_move_7 rfl (lv_at hl 1 rfl) ?_
      refine lv_iload_n X.1 X.2.1 dX3_move_8 rfl (lv_at hl 3 rfl) ?_
      refine lv_iload_n X.1 X.2.1 dX3_move_9 rfl (lv_at hl 2 rfl) ?_
      refine h_callRV (t := (0, 0, 0)) (As := [.int x, .int y]) (rest := []) X hw cs_X3_99 (c_X3_copyOf l G hR x y) hx rfl rfl hl.1 rfl (Nat.le_of_ble_eq_true rfl) ⟨by decide, by decide⟩ ⟨Nat.zero_le _, Nat.zero_le _⟩ dX3_move_10 ?_
      refine h_tv (b := .ref (ad (9, j, f))) (by rw [x_copy_at, ha]; rfl) ?_
      refine lv_astore (lv' := [(5, .ref (ad (9, j, f))), (4, .ref (ad (7, f, 0))), (0, .ref (ad (0, 0, 0))), (1, .int y), (2, .int x), (3, .int z)]) X.1 X.2.1 dX3_move_13 hl (by decide) rfl (fun ls hl => ?_)
      refine lv_aload X.1 X.2.1 dX3_move_15 (lv_at hl 1 rfl) ?_
      refine lv_ifnull X.1 X.2.1 dX3_move_17 ?_
      refine lv_aload X.1 X.2.1 dX3_move_20 (lv_at hl 0 rfl) ?_
      refine lv_ifnull X.1 X.2.1 dX3_move_22 ?_
      refine lv_aload_n X.1 X.2.1 dX3_move_25 rfl (lv_at hl 2 rfl) ?_
      refine lv_iload_n X.1 X.2.1 dX3_move_26 rfl (lv_at hl 5 rfl) ?_
      refine h_callRV (t := (0, 0, 0)) (As := [.int z]) (rest := []) X hw cs_X3_91 (c_X3_storeOf l G hR z) hx rfl rfl hl.1 rfl (Nat.le_of_ble_eq_true rfl) ⟨by decide, by decide⟩ ⟨Nat.zero_le _, Nat.zero_le _⟩ dX3_move_27 ?_
      refine h_tv (b := .null) (by rw [hz]; rfl) ?_
      refine lv_ifnonnullN X.1 X.2.1 dX3_move_30 ?_
      refine lv_iconst (v := (-1)) X.1 X.2.1 dX3_move_33 (by decide) ?_
      exact h_iretW (v := -1) X Y hw ⟨rfl, hR, fun _ _ => ⟨rfl, rfl⟩, rfl⟩ (Nat.zero_le _) (Nat.zero_le _) dX3_move_34
    · have hu : u < s_nS σ := ix_lt hz
      have ez : z = nI u := ix_eq hz
      show W p l e _ s m args below meth c _ _ _ _ (MQ below (h_Qw G ad k s.heap.size (XPost G ad k (some (.int ((if j = u ∨ s_si σ j = true ∨ s_si σ u = true ∨ s_has σ u f = true then (-3, σ) else (1, s_setCp (s_setCp σ u f (some b)) j f none)) : Int32 × S_t).1)) ((if j = u ∨ s_si σ j = true ∨ s_si σ u = true ∨ s_has σ u f = true then (-3, σ) else (1, s_setCp (s_setCp σ u f (some b)) j f none)) : Int32 × S_t).2)) args s 0 0 (h_A ad k s.heap.size)) _
      by_cases hju : j = u
      · rw [if_pos (Or.inl hju)]
        refine lv_aload_n X.1 X.2.1 dX3_move_0 rfl (lv_at hl 0 rfl) ?_
        refine lv_iload_n X.1 X.2.1 dX3_move_1 rfl (lv_at hl 1 rfl) ?_
        refine h_callRV (t := (0, 0, 0)) (As := [.int y]) (rest := []) X hw cs_X3_109 (c_X3_itemOf l G hR y) hx rfl rfl hl.1 rfl (Nat.le_of_ble_eq_true rfl) ⟨by decide, by decide⟩ ⟨Nat.zero_le _, Nat.zero_le _⟩ dX3_move_2 ?_
        refine h_tv (b := .ref (ad (7, f, 0))) (by rw [hyf]; rfl) ?_
        refine lv_astore (lv' := [(4, .ref (ad (7, f, 0))), (0, .ref (ad (0, 0, 0))), (1, .int y), (2, .int x), (3, .int z)]) X.1 X.2.1 dX3_move_5 hl (by decide) rfl (fun ls hl => ?_)
        refine lv_aload_n X.1 X.2.1 dX3_move_7 rfl (lv_at hl 1 rfl) ?_
        refine lv_iload_n X.1 X.2.1 dX3_move_8 rfl (lv_at hl 3 rfl) ?_
        refine lv_iload_n X.1 X.2.1 dX3_move_9 rfl (lv_at hl 2 rfl) ?_
        refine h_callRV (t := (0, 0, 0)) (As := [.int x, .int y]) (rest := []) X hw cs_X3_99 (c_X3_copyOf l G hR x y) hx rfl rfl hl.1 rfl (Nat.le_of_ble_eq_true rfl) ⟨by decide, by decide⟩ ⟨Nat.zero_le _, Nat.zero_le _⟩ dX3_move_10 ?_
        refine h_tv (b := .ref (ad (9, j, f))) (by rw [x_copy_at, ha]; rfl) ?_
        refine lv_astore (lv' := [(5, .ref (ad (9, j, f))), (4, .ref (ad (7, f, 0))), (0, .ref (ad (0, 0, 0))), (1, .int y), (2, .int x), (3, .int z)]) X.1 X.2.1 dX3_move_13 hl (by decide) rfl (fun ls hl => ?_)
        refine lv_aload X.1 X.2.1 dX3_move_15 (lv_at hl 1 rfl) ?_
        refine lv_ifnull X.1 X.2.1 dX3_move_17 ?_
        refine lv_aload X.1 X.2.1 dX3_move_20 (lv_at hl 0 rfl) ?_
        refine lv_ifnull X.1 X.2.1 dX3_move_22 ?_
        refine lv_aload_n X.1 X.2.1 dX3_move_25 rfl (lv_at hl 2 rfl) ?_
        refine lv_iload_n X.1 X.2.1 dX3_move_26 rfl (lv_at hl 5 rfl) ?_
        refine h_callRV (t := (0, 0, 0)) (As := [.int z]) (rest := []) X hw cs_X3_91 (c_X3_storeOf l G hR z) hx rfl rfl hl.1 rfl (Nat.le_of_ble_eq_true rfl) ⟨by decide, by decide⟩ ⟨Nat.zero_le _, Nat.zero_le _⟩ dX3_move_27 ?_
        refine h_tv (b := .ref (ad (6, u, 0))) (by rw [hz]; rfl) ?_
        refine lv_ifnonnull (tgt := 35) X.1 X.2.1 dX3_move_30 (by decide) ?_
        refine lv_iload_n X.1 X.2.1 dX3_move_35 rfl (lv_at hl 4 rfl) ?_
        refine lv_iload_n X.1 X.2.1 dX3_move_36 rfl (lv_at hl 5 rfl) ?_
        refine lv_icmp_eq (tgt := 66) X.1 X.2.1 dX3_move_37 (by decide) (fun c37 => ?_) (fun c37 => ?_)
        · refine lv_bipush (v := (-3)) X.1 X.2.1 dX3_move_66 (by decide) ?_
          exact h_iretW (v := -3) X Y hw ⟨rfl, hR, fun _ _ => ⟨rfl, rfl⟩, rfl⟩ (Nat.zero_le _) (Nat.zero_le _) dX3_move_68
        · exact absurd (by rw [ex, ez, hju]) c37
      rcases hs1 : s_si σ j with _ | _
      rotate_left
      · rw [if_pos (Or.inr (Or.inl rfl))]
        refine lv_aload_n X.1 X.2.1 dX3_move_0 rfl (lv_at hl 0 rfl) ?_
        refine lv_iload_n X.1 X.2.1 dX3_move_1 rfl (lv_at hl 1 rfl) ?_
        refine h_callRV (t := (0, 0, 0)) (As := [.int y]) (rest := []) X hw cs_X3_109 (c_X3_itemOf l G hR y) hx rfl rfl hl.1 rfl (Nat.le_of_ble_eq_true rfl) ⟨by decide, by decide⟩ ⟨Nat.zero_le _, Nat.zero_le _⟩ dX3_move_2 ?_
        refine h_tv (b := .ref (ad (7, f, 0))) (by rw [hyf]; rfl) ?_
        refine lv_astore (lv' := [(4, .ref (ad (7, f, 0))), (0, .ref (ad (0, 0, 0))), (1, .int y), (2, .int x), (3, .int z)]) X.1 X.2.1 dX3_move_5 hl (by decide) rfl (fun ls hl => ?_)
        refine lv_aload_n X.1 X.2.1 dX3_move_7 rfl (lv_at hl 1 rfl) ?_
        refine lv_iload_n X.1 X.2.1 dX3_move_8 rfl (lv_at hl 3 rfl) ?_
        refine lv_iload_n X.1 X.2.1 dX3_move_9 rfl (lv_at hl 2 rfl) ?_
        refine h_callRV (t := (0, 0, 0)) (As := [.int x, .int y]) (rest := []) X hw cs_X3_99 (c_X3_copyOf l G hR x y) hx rfl rfl hl.1 rfl (Nat.le_of_ble_eq_true rfl) ⟨by decide, by decide⟩ ⟨Nat.zero_le _, Nat.zero_le _⟩ dX3_move_10 ?_
        refine h_tv (b := .ref (ad (9, j, f))) (by rw [x_copy_at, ha]; rfl) ?_
        refine lv_astore (lv' := [(5, .ref (ad (9, j, f))), (4, .ref (ad (7, f, 0))), (0, .ref (ad (0, 0, 0))), (1, .int y), (2, .int x), (3, .int z)]) X.1 X.2.1 dX3_move_13 hl (by decide) rfl (fun ls hl => ?_)
        refine lv_aload X.1 X.2.1 dX3_move_15 (lv_at hl 1 rfl) ?_
        refine lv_ifnull X.1 X.2.1 dX3_move_17 ?_
        refine lv_aload X.1 X.2.1 dX3_move_20 (lv_at hl 0 rfl) ?_
        refine lv_ifnull X.1 X.2.1 dX3_move_22 ?_
        refine lv_aload_n X.1 X.2.1 dX3_move_25 rfl (lv_at hl 2 rfl) ?_
        refine lv_iload_n X.1 X.2.1 dX3_move_26 rfl (lv_at hl 5 rfl) ?_
        refine h_callRV (t := (0, 0, 0)) (As := [.int z]) (rest := []) X hw cs_X3_91 (c_X3_storeOf l G hR z) hx rfl rfl hl.1 rfl (Nat.le_of_ble_eq_true rfl) ⟨by decide, by decide⟩ ⟨Nat.zero_le _, Nat.zero_le _⟩ dX3_move_27 ?_
        refine h_tv (b := .ref (ad (6, u, 0))) (by rw [hz]; rfl) ?_
        refine lv_ifnonnull (tgt := 35) X.1 X.2.1 dX3_move_30 (by decide) ?_
        refine lv_iload_n X.1 X.2.1 dX3_move_35 rfl (lv_at hl 4 rfl) ?_
        refine lv_iload_n X.1 X.2.1 dX3_move_36 rfl (lv_at hl 5 rfl) ?_
        refine lv_icmp_eq (tgt := 66) X.1 X.2.1 dX3_move_37 (by decide) (fun c37 => ?_) (fun c37 => ?_)
        · exact absurd (by rw [ex, ez] at c37; exact (nI_eq (by omega) (by omega)).mp c37) hju
        · refine lv_aload_n X.1 X.2.1 dX3_move_40 rfl (lv_at hl 2 rfl) ?_
          refine lv_iload_n X.1 X.2.1 dX3_move_41 rfl (lv_at hl 4 rfl) ?_
          refine h_callRV (t := (0, 0, 0)) (As := [.int x]) (rest := []) X hw cs_X3_153 (c_X3_isAnswering l G hR x) hx rfl rfl hl.1 rfl (Nat.le_of_ble_eq_true rfl) ⟨by decide, by decide⟩ ⟨Nat.zero_le _, Nat.zero_le _⟩ dX3_move_42 ?_
          refine h_tv (b := .int 0) (by rw [hxj]; simp only [hs1]; rfl) ?_
          refine lv_if_eq (tgt := 66) X.1 X.2.1 dX3_move_45 (by decide) (fun c45 => ?_) (fun c45 => ?_)
          · refine lv_bipush (v := (-3)) X.1 X.2.1 dX3_move_66 (by decide) ?_
            exact h_iretW (v := -3) X Y hw ⟨rfl, hR, fun _ _ => ⟨rfl, rfl⟩, rfl⟩ (Nat.zero_le _) (Nat.zero_le _) dX3_move_68
          · exact absurd (by decide) c45
      rcases hs2 : s_si σ u with _ | _
      rotate_left
      · rw [if_pos (Or.inr (Or.inr (Or.inl rfl)))]
        refine lv_aload_n X.1 X.2.1 dX3_move_0 rfl (lv_at hl 0 rfl) ?_
        refine lv_iload_n X.1 X.2.1 dX3_move_1 rfl (lv_at hl 1 rfl) ?_
        refine h_callRV (t := (0, 0, 0)) (As := [.int y]) (rest := []) X hw cs_X3_109 (c_X3_itemOf l G hR y) hx rfl rfl hl.1 rfl (Nat.le_of_ble_eq_true rfl) ⟨by decide, by decide⟩ ⟨Nat.zero_le _, Nat.zero_le _⟩ dX3_move_2 ?_
        refine h_tv (b := .ref (ad (7, f, 0))) (by rw [hyf]; rfl) ?_
        refine lv_astore (lv' := [(4, .ref (ad (7, f, 0))), (0, .ref (ad (0, 0, 0))), (1, .int y), (2, .int x), (3, .int z)]) X.1 X.2.1 dX3_move_5 hl (by decide) rfl (fun ls hl => ?_)
        refine lv_aload_n X.1 X.2.1 dX3_move_7 rfl (lv_at hl 1 rfl) ?_
        refine lv_iload_n X.1 X.2.1 dX3_move_8 rfl (lv_at hl 3 rfl) ?_
        refine lv_iload_n X.1 X.2.1 dX3_move_9 rfl (lv_at hl 2 rfl) ?_
        refine h_callRV (t := (0, 0, 0)) (As := [.int x, .int y]) (rest := []) X hw cs_X3_99 (c_X3_copyOf l G hR x y) hx rfl rfl hl.1 rfl (Nat.le_of_ble_eq_true rfl) ⟨by decide, by decide⟩ ⟨Nat.zero_le _, Nat.zero_le _⟩ dX3_move_10 ?_
        refine h_tv (b := .ref (ad (9, j, f))) (by rw [x_copy_at, ha]; rfl) ?_
        refine lv_astore (lv' := [(5, .ref (ad (9, j, f))), (4, .ref (ad (7, f, 0))), (0, .ref (ad (0, 0, 0))), (1, .int y), (2, .int x), (3, .int z)]) X.1 X.2.1 dX3_move_13 hl (by decide) rfl (fun ls hl => ?_)
        refine lv_aload X.1 X.2.1 dX3_move_15 (lv_at hl 1 rfl) ?_
        refine lv_ifnull X.1 X.2.1 dX3_move_17 ?_
        refine lv_aload X.1 X.2.1 dX3_move_20 (lv_at hl 0 rfl) ?_
        refine lv_ifnull X.1 X.2.1 dX3_move_22 ?_
        refine lv_aload_n X.1 X.2.1 dX3_move_25 rfl (lv_at hl 2 rfl) ?_
        refine lv_iload_n X.1 X.2.1 dX3_move_26 rfl (lv_at hl 5 rfl) ?_
        refine h_callRV (t := (0, 0, 0)) (As := [.int z]) (rest := []) X hw cs_X3_91 (c_X3_storeOf l G hR z) hx rfl rfl hl.1 rfl (Nat.le_of_ble_eq_true rfl) ⟨by decide, by decide⟩ ⟨Nat.zero_le _, Nat.zero_le _⟩ dX3_move_27 ?_
        refine h_tv (b := .ref (ad (6, u, 0))) (by rw [hz]; rfl) ?_
        refine lv_ifnonnull (tgt := 35) X.1 X.2.1 dX3_move_30 (by decide) ?_
        refine lv_iload_n X.1 X.2.1 dX3_move_35 rfl (lv_at hl 4 rfl) ?_
        refine lv_iload_n X.1 X.2.1 dX3_move_36 rfl (lv_at hl 5 rfl) ?_
        refine lv_icmp_eq (tgt := 66) X.1 X.2.1 dX3_move_37 (by decide) (fun c37 => ?_) (fun c37 => ?_)
        · exact absurd (by rw [ex, ez] at c37; exact (nI_eq (by omega) (by omega)).mp c37) hju
        · refine lv_aload_n X.1 X.2.1 dX3_move_40 rfl (lv_at hl 2 rfl) ?_
          refine lv_iload_n X.1 X.2.1 dX3_move_41 rfl (lv_at hl 4 rfl) ?_
          refine h_callRV (t := (0, 0, 0)) (As := [.int x]) (rest := []) X hw cs_X3_153 (c_X3_isAnswering l G hR x) hx rfl rfl hl.1 rfl (Nat.le_of_ble_eq_true rfl) ⟨by decide, by decide⟩ ⟨Nat.zero_le _, Nat.zero_le _⟩ dX3_move_42 ?_
          refine h_tv (b := .int 1) (by rw [hxj]; simp only [hs1]; rfl) ?_
          refine lv_if_eq (tgt := 66) X.1 X.2.1 dX3_move_45 (by decide) (fun c45 => ?_) (fun c45 => ?_)
          · exact absurd c45 (by decide)
          · refine lv_aload_n X.1 X.2.1 dX3_move_48 rfl (lv_at hl 2 rfl) ?_
            refine lv_iload_n X.1 X.2.1 dX3_move_49 rfl (lv_at hl 5 rfl) ?_
            refine h_callRV (t := (0, 0, 0)) (As := [.int z]) (rest := []) X hw cs_X3_153 (c_X3_isAnswering l G hR z) hx rfl rfl hl.1 rfl (Nat.le_of_ble_eq_true rfl) ⟨by decide, by decide⟩ ⟨Nat.zero_le _, Nat.zero_le _⟩ dX3_move_50 ?_
            refine h_tv (b := .int 0) (by rw [hz]; simp only [hs2]; rfl) ?_
            refine lv_if_eq (tgt := 66) X.1 X.2.1 dX3_move_53 (by decide) (fun c53 => ?_) (fun c53 => ?_)
            · refine lv_bipush (v := (-3)) X.1 X.2.1 dX3_move_66 (by decide) ?_
              exact h_iretW (v := -3) X Y hw ⟨rfl, hR, fun _ _ => ⟨rfl, rfl⟩, rfl⟩ (Nat.zero_le _) (Nat.zero_le _) dX3_move_68
            · exact absurd (by decide) c53
      rcases hc2 : s_cp σ u f with _ | b2
      rotate_left
      · rw [if_pos (Or.inr (Or.inr (Or.inr (by unfold s_has; rw [hc2]; rfl))))]
        refine lv_aload_n X.1 X.2.1 dX3_move_0 rfl (lv_at hl 0 rfl) ?_
        refine lv_iload_n X.1 X.2.1 dX3_move_1 rfl (lv_at hl 1 rfl) ?_
        refine h_callRV (t := (0, 0, 0)) (As := [.int y]) (rest := []) X hw cs_X3_109 (c_X3_itemOf l G hR y) hx rfl rfl hl.1 rfl (Nat.le_of_ble_eq_true rfl) ⟨by decide, by decide⟩ ⟨Nat.zero_le _, Nat.zero_le _⟩ dX3_move_2 ?_
        refine h_tv (b := .ref (ad (7, f, 0))) (by rw [hyf]; rfl) ?_
        refine lv_astore (lv' := [(4, .ref (ad (7, f, 0))), (0, .ref (ad (0, 0, 0))), (1, .int y), (2, .int x), (3, .int z)]) X.1 X.2.1 dX3_move_5 hl (by decide) rfl (fun ls hl => ?_)
        refine lv_aload_n X.1 X.2.1 dX3_move_7 rfl (lv_at hl 1 rfl) ?_
        refine lv_iload_n X.1 X.2.1 dX3_move_8 rfl (lv_at hl 3 rfl) ?_
        refine lv_iload_n X.1 X.2.1 dX3_move_9 rfl (lv_at hl 2 rfl) ?_
        refine h_callRV (t := (0, 0, 0)) (As := [.int x, .int y]) (rest := []) X hw cs_X3_99 (c_X3_copyOf l G hR x y) hx rfl rfl hl.1 rfl (Nat.le_of_ble_eq_true rfl) ⟨by decide, by decide⟩ ⟨Nat.zero_le _, Nat.zero_le _⟩ dX3_move_10 ?_
        refine h_tv (b := .ref (ad (9, j, f))) (by rw [x_copy_at, ha]; rfl) ?_
        refine lv_astore (lv' := [(5, .ref (ad (9, j, f))), (4, .ref (ad (7, f, 0))), (0, .ref (ad (0, 0, 0))), (1, .int y), (2, .int x), (3, .int z)]) X.1 X.2.1 dX3_move_13 hl (by decide) rfl (fun ls hl => ?_)
        refine lv_aload X.1 X.2.1 dX3_move_15 (lv_at hl 1 rfl) ?_
        refine lv_ifnull X.1 X.2.1 dX3_move_17 ?_
        refine lv_aload X.1 X.2.1 dX3_move_20 (lv_at hl 0 rfl) ?_
        refine lv_ifnull X.1 X.2.1 dX3_move_22 ?_
        refine lv_aload_n X.1 X.2.1 dX3_move_25 rfl (lv_at hl 2 rfl) ?_
        refine lv_iload_n X.1 X.2.1 dX3_move_26 rfl (lv_at hl 5 rfl) ?_
        refine h_callRV (t := (0, 0, 0)) (As := [.int z]) (rest := []) X hw cs_X3_91 (c_X3_storeOf l G hR z) hx rfl rfl hl.1 rfl (Nat.le_of_ble_eq_true rfl) ⟨by decide, by decide⟩ ⟨Nat.zero_le _, Nat.zero_le _⟩ dX3_move_27 ?_
        refine h_tv (b := .ref (ad (6, u, 0))) (by rw [hz]; rfl) ?_
        refine lv_ifnonnull (tgt := 35) X.1 X.2.1 dX3_move_30 (by decide) ?_
        refine lv_iload_n X.1 X.2.1 dX3_move_35 rfl (lv_at hl 4 rfl) ?_
        refine lv_iload_n X.1 X.2.1 dX3_move_36 rfl (lv_at hl 5 rfl) ?_
        refine lv_icmp_eq (tgt := 66) X.1 X.2.1 dX3_move_37 (by decide) (fun c37 => ?_) (fun c37 => ?_)
        · exact absurd (by rw [ex, ez] at c37; exact (nI_eq (by omega) (by omega)).mp c37) hju
        · refine lv_aload_n X.1 X.2.1 dX3_move_40 rfl (lv_at hl 2 rfl) ?_
          refine lv_iload_n X.1 X.2.1 dX3_move_41 rfl (lv_at hl 4 rfl) ?_
          refine h_callRV (t := (0, 0, 0)) (As := [.int x]) (rest := []) X hw cs_X3_153 (c_X3_isAnswering l G hR x) hx rfl rfl hl.1 rfl (Nat.le_of_ble_eq_true rfl) ⟨by decide, by decide⟩ ⟨Nat.zero_le _, Nat.zero_le _⟩ dX3_move_42 ?_
          refine h_tv (b := .int 1) (by rw [hxj]; simp only [hs1]; rfl) ?_
          refine lv_if_eq (tgt := 66) X.1 X.2.1 dX3_move_45 (by decide) (fun c45 => ?_) (fun c45 => ?_)
          · exact absurd c45 (by decide)
          · refine lv_aload_n X.1 X.2.1 dX3_move_48 rfl (lv_at hl 2 rfl) ?_
            refine lv_iload_n X.1 X.2.1 dX3_move_49 rfl (lv_at hl 5 rfl) ?_
            refine h_callRV (t := (0, 0, 0)) (As := [.int z]) (rest := []) X hw cs_X3_153 (c_X3_isAnswering l G hR z) hx rfl rfl hl.1 rfl (Nat.le_of_ble_eq_true rfl) ⟨by decide, by decide⟩ ⟨Nat.zero_le _, Nat.zero_le _⟩ dX3_move_50 ?_
            refine h_tv (b := .int 1) (by rw [hz]; simp only [hs2]; rfl) ?_
            refine lv_if_eq (tgt := 66) X.1 X.2.1 dX3_move_53 (by decide) (fun c53 => ?_) (fun c53 => ?_)
            · exact absurd c53 (by decide)
            · refine lv_aload X.1 X.2.1 dX3_move_56 (lv_at hl 1 rfl) ?_
              refine gf_X3_113 X hw (hit f hf).1 rfl dX3_move_58 ?_
              refine lv_iload_n X.1 X.2.1 dX3_move_61 rfl (lv_at hl 5 rfl) ?_
              refine h_aald X hw 5 rfl (hit f hf).2 (by rw [ez]; exact vp_in_nI (by omega) (by decide)) dX3_move_62 ?_
              refine h_tv (b := .ref (ad (9, u, f))) (by rw [ez, nI_clamp (by omega)]; simp only [x_rws, hc2]; rfl) ?_
              refine lv_ifnull X.1 X.2.1 dX3_move_63 ?_
              refine lv_bipush (v := (-3)) X.1 X.2.1 dX3_move_66 (by decide) ?_
              exact h_iretW (v := -3) X Y hw ⟨rfl, hR, fun _ _ => ⟨rfl, rfl⟩, rfl⟩ (Nat.zero_le _) (Nat.zero_le _) dX3_move_68
      rw [if_neg (fun q => by
        rcases q with q | q | q | q
        · exact hju q
        · cases q
        · cases q
        · unfold s_has at q; rw [hc2] at q; cases q)]
      obtain ⟨hr1, g, hg, hgi⟩ := hcp j f b hb
      refine lv_aload_n X.1 X.2.1 dX3_move_0 rfl (lv_at hl 0 rfl) ?_
      refine lv_iload_n X.1 X.2.1 dX3_move_1 rfl (lv_at hl 1 rfl) ?_
      refine h_callRV (t := (0, 0, 0)) (As := [.int y]) (rest := []) X hw cs_X3_109 (c_X3_itemOf l G hR y) hx rfl rfl hl.1 rfl (Nat.le_of_ble_eq_true rfl) ⟨by decide, by decide⟩ ⟨Nat.zero_le _, Nat.zero_le _⟩ dX3_move_2 ?_
      refine h_tv (b := .ref (ad (7, f, 0))) (by rw [hyf]; rfl) ?_
      refine lv_astore (lv' := [(4, .ref (ad (7, f, 0))), (0, .ref (ad (0, 0, 0))), (1, .int y), (2, .int x), (3, .int z)]) X.1 X.2.1 dX3_move_5 hl (by decide) rfl (fun ls hl => ?_)
      refine lv_aload_n X.1 X.2.1 dX3_move_7 rfl (lv_at hl 1 rfl) ?_
      refine lv_iload_n X.1 X.2.1 dX3_move_8 rfl (lv_at hl 3 rfl) ?_
      refine lv_iload_n X.1 X.2.1 dX3_move_9 rfl (lv_at hl 2 rfl) ?_
      refine h_callRV (t := (0, 0, 0)) (As := [.int x, .int y]) (rest := []) X hw cs_X3_99 (c_X3_copyOf l G hR x y) hx rfl rfl hl.1 rfl (Nat.le_of_ble_eq_true rfl) ⟨by decide, by decide⟩ ⟨Nat.zero_le _, Nat.zero_le _⟩ dX3_move_10 ?_
      refine h_tv (b := .ref (ad (9, j, f))) (by rw [x_copy_at, ha]; rfl) ?_
      refine lv_astore (lv' := [(5, .ref (ad (9, j, f))), (4, .ref (ad (7, f, 0))), (0, .ref (ad (0, 0, 0))), (1, .int y), (2, .int x), (3, .int z)]) X.1 X.2.1 dX3_move_13 hl (by decide) rfl (fun ls hl => ?_)
      refine lv_aload X.1 X.2.1 dX3_move_15 (lv_at hl 1 rfl) ?_
      refine lv_ifnull X.1 X.2.1 dX3_move_17 ?_
      refine lv_aload X.1 X.2.1 dX3_move_20 (lv_at hl 0 rfl) ?_
      refine lv_ifnull X.1 X.2.1 dX3_move_22 ?_
      refine lv_aload_n X.1 X.2.1 dX3_move_25 rfl (lv_at hl 2 rfl) ?_
      refine lv_iload_n X.1 X.2.1 dX3_move_26 rfl (lv_at hl 5 rfl) ?_
      refine h_callRV (t := (0, 0, 0)) (As := [.int z]) (rest := []) X hw cs_X3_91 (c_X3_storeOf l G hR z) hx rfl rfl hl.1 rfl (Nat.le_of_ble_eq_true rfl) ⟨by decide, by decide⟩ ⟨Nat.zero_le _, Nat.zero_le _⟩ dX3_move_27 ?_
      refine h_tv (b := .ref (ad (6, u, 0))) (by rw [hz]; rfl) ?_
      refine lv_ifnonnull (tgt := 35) X.1 X.2.1 dX3_move_30 (by decide) ?_
      refine lv_iload_n X.1 X.2.1 dX3_move_35 rfl (lv_at hl 4 rfl) ?_
      refine lv_iload_n X.1 X.2.1 dX3_move_36 rfl (lv_at hl 5 rfl) ?_
      refine lv_icmp_eq (tgt := 66) X.1 X.2.1 dX3_move_37 (by decide) (fun c37 => ?_) (fun c37 => ?_)
      · exact absurd (by rw [ex, ez] at c37; exact (nI_eq (by omega) (by omega)).mp c37) hju
      · refine lv_aload_n X.1 X.2.1 dX3_move_40 rfl (lv_at hl 2 rfl) ?_
        refine lv_iload_n X.1 X.2.1 dX3_move_41 rfl (lv_at hl 4 rfl) ?_
        refine h_callRV (t := (0, 0, 0)) (As := [.int x]) (rest := []) X hw cs_X3_153 (c_X3_isAnswering l G hR x) hx rfl rfl hl.1 rfl (Nat.le_of_ble_eq_true rfl) ⟨by decide, by decide⟩ ⟨Nat.zero_le _, Nat.zero_le _⟩ dX3_move_42 ?_
        refine h_tv (b := .int 1) (by rw [hxj]; simp only [hs1]; rfl) ?_
        refine lv_if_eq (tgt := 66) X.1 X.2.1 dX3_move_45 (by decide) (fun c45 => ?_) (fun c45 => ?_)
        · exact absurd c45 (by decide)
        · refine lv_aload_n X.1 X.2.1 dX3_move_48 rfl (lv_at hl 2 rfl) ?_
          refine lv_iload_n X.1 X.2.1 dX3_move_49 rfl (lv_at hl 5 rfl) ?_
          refine h_callRV (t := (0, 0, 0)) (As := [.int z]) (rest := []) X hw cs_X3_153 (c_X3_isAnswering l G hR z) hx rfl rfl hl.1 rfl (Nat.le_of_ble_eq_true rfl) ⟨by decide, by decide⟩ ⟨Nat.zero_le _, Nat.zero_le _⟩ dX3_move_50 ?_
          refine h_tv (b := .int 1) (by rw [hz]; simp only [hs2]; rfl) ?_
          refine lv_if_eq (tgt := 66) X.1 X.2.1 dX3_move_53 (by decide) (fun c53 => ?_) (fun c53 => ?_)
          · exact absurd c53 (by decide)
          · refine lv_aload X.1 X.2.1 dX3_move_56 (lv_at hl 1 rfl) ?_
            refine gf_X3_113 X hw (hit f hf).1 rfl dX3_move_58 ?_
            refine lv_iload_n X.1 X.2.1 dX3_move_61 rfl (lv_at hl 5 rfl) ?_
            refine h_aald X hw 5 rfl (hit f hf).2 (by rw [ez]; exact vp_in_nI (by omega) (by decide)) dX3_move_62 ?_
            refine h_tv (b := .null) (by rw [ez, nI_clamp (by omega)]; simp only [x_rws, hc2]; rfl) ?_
            refine lv_ifnullN (tgt := 69) X.1 X.2.1 dX3_move_63 (by decide) ?_
            refine lv_aload X.1 X.2.1 dX3_move_69 (lv_at hl 1 rfl) ?_
            refine gf_X3_113 X hw (hit f hf).1 rfl dX3_move_71 ?_
            refine lv_iload_n X.1 X.2.1 dX3_move_74 rfl (lv_at hl 5 rfl) ?_
            refine lv_aload X.1 X.2.1 dX3_move_75 (lv_at hl 0 rfl) ?_
            refine h_aast (u := (9, j, f)) X hw 5 1 rfl (hit f hf).2 hr1 rfl (by rw [ez]; exact vp_in_nI (by omega) (by decide)) dX3_move_77 (fun H locs hw => ?_)
            obtain ⟨k1, hk1⟩ : ∃ zz, zz = h_cu k (8, f, 0) (some (.inl (G.2 5, 10, x_refs (va_up (x_rws ad σ f) (z).toNatClampNeg (some (ad (9, j, f))))))) := ⟨_, rfl⟩
            have hw := h_W.ren hw hk1
            have f1_0_0_0 : k1 (0, 0, 0) = some (.inr (3, [.int (nI (s_cop σ)), .ref (ad (1, 0, 0)), .int (nI (s_nS σ)), .ref (ad (2, 0, 0)), .int (nI (s_nF σ)), .ref (ad (3, 0, 0)), .ref (ad (4, 0, 0)), .ref (ad (5, 0, 0)), .ref (ad (5, 1, 0)), .ref (ad (5, 2, 0)), .int (nI (s_as σ).length), .int (s_dg σ)])) := by rw [hk1, h_cn _ _ (by simp)]; exact hx
            have f1_7_f_0 : k1 (7, f, 0) = some (.inr (0, [.int (s_pk σ f), .ref (ad (8, f, 0)), .int (s_rn σ f)])) := by rw [hk1, h_cn _ _ (by simp)]; exact (hit f hf).1
            have f1_8_f_0 : k1 (8, f, 0) = some (.inl (G.2 5, 10, x_refs (va_up (x_rws ad σ f) (z).toNatClampNeg (some (ad (9, j, f)))))) := by rw [hk1]; exact h_cs _ _ _
            have f1_9_j_f : k1 (9, j, f) = some (.inr (1, [.ref (ad (10, j, f)), .int (nI b.length)])) := by rw [hk1, h_cn _ _ (by simp)]; exact hr1
            have f1_10_j_f : k1 (10, j, f) = some (.inl (G.2 0, 16, .inl g)) := by rw [hk1, h_cn _ _ (by simp)]; exact hg
            refine lv_aload X.1 X.2.1 dX3_move_78 (lv_at hl 1 rfl) ?_
            refine gf_X3_113 X hw f1_7_f_0 rfl dX3_move_80 ?_
            refine lv_iload_n X.1 X.2.1 dX3_move_83 rfl (lv_at hl 4 rfl) ?_
            refine lv_null X.1 X.2.1 dX3_move_84 ?_
            refine h_aastN X hw 5 rfl f1_8_f_0 (by rw [ex]; exact vp_in_nI (by omega) (by decide)) dX3_move_85 (fun H locs hw => ?_)
            obtain ⟨k2, hk2⟩ : ∃ zz, zz = h_cu k1 (8, f, 0) (some (.inl (G.2 5, 10, x_refs (va_up (va_up (x_rws ad σ f) (z).toNatClampNeg (some (ad (9, j, f)))) (x).toNatClampNeg none)))) := ⟨_, rfl⟩
            have hw := h_W.ren hw hk2
            have f2_0_0_0 : k2 (0, 0, 0) = some (.inr (3, [.int (nI (s_cop σ)), .ref (ad (1, 0, 0)), .int (nI (s_nS σ)), .ref (ad (2, 0, 0)), .int (nI (s_nF σ)), .ref (ad (3, 0, 0)), .ref (ad (4, 0, 0)), .ref (ad (5, 0, 0)), .ref (ad (5, 1, 0)), .ref (ad (5, 2, 0)), .int (nI (s_as σ).length), .int (s_dg σ)])) := by rw [hk2, h_cn _ _ (by simp)]; exact f1_0_0_0
            have f2_7_f_0 : k2 (7, f, 0) = some (.inr (0, [.int (s_pk σ f), .ref (ad (8, f, 0)), .int (s_rn σ f)])) := by rw [hk2, h_cn _ _ (by simp)]; exact f1_7_f_0
            have f2_8_f_0 : k2 (8, f, 0) = some (.inl (G.2 5, 10, x_refs (va_up (va_up (x_rws ad σ f) (z).toNatClampNeg (some (ad (9, j, f)))) (x).toNatClampNeg none))) := by rw [hk2]; exact h_cs _ _ _
            have f2_9_j_f : k2 (9, j, f) = some (.inr (1, [.ref (ad (10, j, f)), .int (nI b.length)])) := by rw [hk2, h_cn _ _ (by simp)]; exact f1_9_j_f
            have f2_10_j_f : k2 (10, j, f) = some (.inl (G.2 0, 16, .inl g)) := by rw [hk2, h_cn _ _ (by simp)]; exact f1_10_j_f
            refine lv_iconst (v := 1) X.1 X.2.1 dX3_move_86 (by decide) ?_
            have n9 : ((9, j, f) : h_T) ≠ (9, u, f) := by simp [hju]
            have n10 : ((10, j, f) : h_T) ≠ (10, u, f) := by simp [hju]
            obtain ⟨k3, hk3⟩ : ∃ q, q = h_cu (h_cu k2 (9, u, f) none) (10, u, f) none := ⟨_, rfl⟩
            have hw := ((hw.drop (9, u, f)).drop (10, u, f)).ren hk3
            have o3 : ∀ t : h_T, t ≠ (9, u, f) → t ≠ (10, u, f) → k3 t = k2 t := fun t h1 h2 => by rw [hk3, h_cn _ _ h2, h_cn _ _ h1]
            obtain ⟨k4, hk4⟩ : ∃ q, q = h_cu (h_cu k3 (9, u, f) (k3 (9, j, f))) (9, j, f) none := ⟨_, rfl⟩
            obtain ⟨ad4, had4⟩ : ∃ q, q = h_au ad (9, u, f) (ad (9, j, f)) := ⟨_, rfl⟩
            have hw := ((hw.retag n9 (by rw [hk3, h_cn _ _ (by simp), h_cs])).ren hk4).renA had4
            obtain ⟨k5, hk5⟩ : ∃ q, q = h_cu (h_cu k4 (10, u, f) (k4 (10, j, f))) (10, j, f) none := ⟨_, rfl⟩
            obtain ⟨ad5, had5⟩ : ∃ q, q = h_au ad4 (10, u, f) (ad4 (10, j, f)) := ⟨_, rfl⟩
            have hw := ((hw.retag n10 (by rw [hk4, h_cn _ _ (by simp), h_cn _ _ (by simp), hk3, h_cs])).ren hk5).renA had5
            have o5 : ∀ t : h_T, t ≠ (9, u, f) → t ≠ (10, u, f) → t ≠ (9, j, f) → t ≠ (10, j, f) → k5 t = k2 t ∧ ad5 t = ad t := fun t h1 h2 h3 h4 => ⟨by rw [hk5, h_cn _ _ h4, h_cn _ _ h2, hk4, h_cn _ _ h3, h_cn _ _ h1, o3 t h1 h2], by rw [had5, h_an _ _ h2, had4, h_an _ _ h1]⟩
            have a9 : ad5 (9, u, f) = ad (9, j, f) := by rw [had5, h_an _ _ (by simp), had4, h_as]
            have a10 : ad5 (10, u, f) = ad (10, j, f) := by rw [had5, h_as, had4, h_an _ _ (by simp)]
            have c9 : k5 (9, u, f) = some (.inr (1, [.ref (ad5 (10, u, f)), .int (nI b.length)])) := by
              rw [a10, hk5, h_cn _ _ (by simp), h_cn _ _ (by simp), hk4, h_cn _ _ (Ne.symm n9), h_cs, o3 _ n9 (by simp)]
              exact f2_9_j_f
            have c10 : k5 (10, u, f) = some (.inl (G.2 0, 16, .inl g)) := by
              rw [hk5, h_cn _ _ (Ne.symm n10), h_cs, hk4, h_cn _ _ (by simp), h_cn _ _ (by simp), o3 _ (by simp) n10]
              exact f2_10_j_f
            have cpt : ∀ a g, s_cp (s_setCp (s_setCp σ u f (some b)) j f none) a g = s_c2 (s_c2 (s_cp σ) u f (some b)) j f none a g := fun _ _ => rfl
            have cpo : ∀ a, a ≠ j → a ≠ u → s_cp (s_setCp (s_setCp σ u f (some b)) j f none) a f = s_cp σ a f := fun a h1 h2 => by rw [cpt, s_c2_n (fun h => h1 h.1), s_c2_n (fun h => h2 h.1)]
            have cpj : s_cp (s_setCp (s_setCp σ u f (some b)) j f none) j f = none := by rw [cpt, s_c2_s]
            have cpu : s_cp (s_setCp (s_setCp σ u f (some b)) j f none) u f = some b := by rw [cpt, s_c2_n (fun h => hju h.1.symm), s_c2_s]
            exact h_iretW (v := 1) X Y hw ⟨rfl, hR.file (τ := s_setCp (s_setCp σ u f (some b)) j f none) (f := f) rfl rfl rfl (fun _ _ => rfl) rfl (fun a g hg => by rw [cpt, s_c2_n (fun h => hg h.2), s_c2_n (fun h => hg h.2)]) hf (fun a ha2 => by
              rw [cpo a (by omega) (by omega)]
              exact hok.2.2.2.2.2.1 a f (Or.inl ha2)) (fun a l hl => by
              by_cases haj : a = j
              · rw [haj, cpj] at hl; cases hl
              · by_cases hau : a = u
                · rw [hau, cpu] at hl; cases hl; exact hok.2.2.2.2.2.2.1 j f b hb
                · rw [cpo a haj hau] at hl; exact hok.2.2.2.2.2.2.1 a f l hl) ⟨by
              rw [(o5 (7, f, 0) (by simp) (by simp) (by simp) (by simp)).1, (o5 (8, f, 0) (by simp) (by simp) (by simp) (by simp)).2]
              exact f2_7_f_0, by
              rw [(o5 (8, f, 0) (by simp) (by simp) (by simp) (by simp)).1, f2_8_f_0, ex, ez, nI_clamp (by omega), nI_clamp (by omega)]
              have : x_rws ad5 (s_setCp (s_setCp σ u f (some b)) j f none) f = va_up (va_up (x_rws ad σ f) u (some (ad (9, j, f)))) j none := by
                funext a
                unfold x_rws
                by_cases haj : a = j
                · rw [haj, cpj, va_up_self]; rfl
                · by_cases hau : a = u
                  · rw [hau, cpu, va_up_ne _ _ (Ne.symm hju), va_up_self, Option.map_some, a9]
                  · rw [cpo a haj hau, va_up_ne _ _ haj, va_up_ne _ _ hau, (o5 (9, a, f) (by simp [hau]) (by simp) (by simp [haj]) (by simp)).2]
              rw [this]⟩ (fun a l hl => by
              by_cases haj : a = j
              · rw [haj, cpj] at hl; cases hl
              · by_cases hau : a = u
                · rw [hau, cpu] at hl
                  cases hl
                  subst hau
                  exact ⟨c9, g, c10, hgi⟩
                · rw [cpo a haj hau] at hl
                  have p9 := o5 (9, a, f) (by simp [hau]) (by simp) (by simp [haj]) (by simp)
                  have p10 := o5 (10, a, f) (by simp) (by simp [hau]) (by simp) (by simp [haj])
                  exact (hcp a f l hl).congr (by rw [p9.1, hk2, h_cn _ _ (by simp), hk1, h_cn _ _ (by simp)]) (by rw [p10.1, hk2, h_cn _ _ (by simp), hk1, h_cn _ _ (by simp)]) p10.2) (o5 (7, f, 0) (by simp) (by simp) (by simp) (by simp)).2 (fun t _ _ h8 h9 => by
              obtain ⟨q1, q2⟩ := o5 t (h9 u).1 (h9 u).2 (h9 j).1 (h9 j).2
              exact ⟨by rw [q1, hk2, h_cn _ _ h8, hk1, h_cn _ _ h8], q2⟩), fun t ht => by
              obtain ⟨q1, q2⟩ := o5 t (t20 ht (Nat.le_of_ble_eq_true rfl)) (t20 ht (Nat.le_of_ble_eq_true rfl)) (t20 ht (Nat.le_of_ble_eq_true rfl)) (t20 ht (Nat.le_of_ble_eq_true rfl))
              exact ⟨by rw [q1, hk2, h_cn _ _ (t20 ht (Nat.le_of_ble_eq_true rfl)), hk1, h_cn _ _ (t20 ht (Nat.le_of_ble_eq_true rfl))], q2⟩, (o5 (0, 0, 0) (by simp) (by simp) (by simp) (by simp)).2⟩ (Nat.zero_le _) (Nat.zero_le _) dX3_move_87
