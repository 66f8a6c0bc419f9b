set_option maxHeartbeats 4000000 in
set_option maxRecDepth 100000 in
/-- answers -/
theorem c_X3_answers (l : Launch) (G : h_G) {ad : h_T → Nat} {k : h_C} {σ : S_t} (hR : RX G ad k σ) (x : Int32) (on : Bool) : h_Wr l yX3_answers cX3_answers 4 (some .int) 1 21 0 0 G ad k [.ref (ad (0, 0, 0)), .int x, .int (bI on)] (XPost G ad k (some (.int (sp_answers σ x on).1)) (sp_answers σ x on).2) := by
  refine h_wr (by decide +kernel) (Nat.le_of_ble_eq_true rfl) ?_
  intro p e s m args below meth c X Y hw ls hl
  have hl : lv_has ls 4 [(0, .ref (ad (0, 0, 0))), (1, .int x), (2, .int (bI on))] := hl
  have hok := hR.ok
  obtain ⟨hx, hs, hst, hi, hit, hcp, hcol, hmx, hask, -⟩ := id hR
  have hx : k (0, 0, 0) = some (.inr (3, [.int (nI (s_cop σ)), .ref (ad (1, 0, 0)), .int (nI (s_nS σ)), .ref (ad (2, 0, 0)), .int (nI (s_nF σ)), .ref (ad (3, 0, 0)), .ref (ad (4, 0, 0)), .ref (ad (5, 0, 0)), .ref (ad (5, 1, 0)), .ref (ad (5, 2, 0)), .int (nI (s_as σ).length), .int (s_dg σ)])) := hx
  have hnS : s_nS σ ≤ 10 := hok.2.1
  have hnF : s_nF σ ≤ 40 := hok.2.2.1
  unfold sp_answers
  rcases hc : ix x (s_nS σ) with _ | j
  · refine lv_aload_n X.1 X.2.1 dX3_answers_0 rfl (lv_at hl 0 rfl) ?_
    refine lv_iload_n X.1 X.2.1 dX3_answers_1 rfl (lv_at hl 1 rfl) ?_
    refine h_callRV (t := (0, 0, 0)) (As := [.int x]) (rest := []) X hw cs_X3_91 (c_X3_storeOf l G hR x) hx rfl rfl hl.1 rfl (Nat.le_of_ble_eq_true rfl) ⟨by decide, by decide⟩ ⟨Nat.zero_le _, Nat.zero_le _⟩ dX3_answers_2 ?_
    refine h_tv (b := .null) (by rw [hc]; rfl) ?_
    refine lv_astore_nN (lv' := [(3, .null), (0, .ref (ad (0, 0, 0))), (1, .int x), (2, .int (bI on))]) X.1 X.2.1 dX3_answers_5 rfl hl (by decide) rfl (fun ls hl => ?_)
    refine lv_aload_nN X.1 X.2.1 dX3_answers_6 rfl (lv_at hl 0 rfl) ?_
    refine lv_ifnonnullN X.1 X.2.1 dX3_answers_7 ?_
    refine lv_iconst (v := (-1)) X.1 X.2.1 dX3_answers_10 (by decide) ?_
    exact h_iretW (v := -1) X Y hw ⟨rfl, hR, fun _ _ => ⟨rfl, rfl⟩, rfl⟩ (Nat.zero_le _) (Nat.zero_le _) dX3_answers_11
  · have hj : j < s_nS σ := ix_lt hc
    have hsj := hst j hj
    unfold x_st at hsj
    refine lv_aload_n X.1 X.2.1 dX3_answers_0 rfl (lv_at hl 0 rfl) ?_
    refine lv_iload_n X.1 X.2.1 dX3_answers_1 rfl (lv_at hl 1 rfl) ?_
    refine h_callRV (t := (0, 0, 0)) (As := [.int x]) (rest := []) X hw cs_X3_91 (c_X3_storeOf l G hR x) hx rfl rfl hl.1 rfl (Nat.le_of_ble_eq_true rfl) ⟨by decide, by decide⟩ ⟨Nat.zero_le _, Nat.zero_le _⟩ dX3_answers_2 ?_
    refine h_tv (b := .ref (ad (6, j, 0))) (by rw [hc]; rfl) ?_
    refine lv_astore_n (lv' := [(3, .ref (ad (6, j, 0))), (0, .ref (ad (0, 0, 0))), (1, .int x), (2, .int (bI on))]) X.1 X.2.1 dX3_answers_5 rfl hl (by decide) rfl (fun ls hl => ?_)
    refine lv_aload_n X.1 X.2.1 dX3_answers_6 rfl (lv_at hl 0 rfl) ?_
    refine lv_ifnonnull (tgt := 12) X.1 X.2.1 dX3_answers_7 (by decide) ?_
    refine lv_aload_n X.1 X.2.1 dX3_answers_12 rfl (lv_at hl 0 rfl) ?_
    refine lv_iload_n X.1 X.2.1 dX3_answers_13 rfl (lv_at hl 3 rfl) ?_
    refine pf_X3_95 X hw hsj (by cases on <;> rfl) (by cases on <;> rfl) (Nat.le_of_ble_eq_true rfl) dX3_answers_14 (fun H locs hw => ?_)
    obtain ⟨k1, hk1⟩ : ∃ zz, zz = h_cu k (6, j, 0) (some (.inr (2, [.int (s_pl σ j), .int (bI on), .int (s_up σ j), .int (s_dn σ j)]))) := ⟨_, rfl⟩
    have hw := h_W.ren hw hk1
    have f1_0_0_0 : k1 (0, 0, 0) = some (.inr (3, [.int (nI (s_cop σ)), .ref (ad (1, 0, 0)), .int (nI (s_nS σ)), .ref (ad (2, 0, 0)), .int (nI (s_nF σ)), .ref (ad (3, 0, 0)), .ref (ad (4, 0, 0)), .ref (ad (5, 0, 0)), .ref (ad (5, 1, 0)), .ref (ad (5, 2, 0)), .int (nI (s_as σ).length), .int (s_dg σ)])) := by rw [hk1, h_cn _ _ (by simp)]; exact hx
    have f1_6_j_0 : k1 (6, j, 0) = some (.inr (2, [.int (s_pl σ j), .int (bI on), .int (s_up σ j), .int (s_dn σ j)])) := by rw [hk1]; exact h_cs _ _ _
    refine lv_iconst (v := 1) X.1 X.2.1 dX3_answers_17 (by decide) ?_
    exact h_iretW (v := 1) X Y hw ⟨rfl, hR.setStore (τ := s_setSi σ j (!on)) hj rfl rfl rfl (fun i hi => ⟨if_neg hi, rfl, rfl⟩) (by
      rw [hk1, h_cs]
      show _ = some (Sum.inr (2, [Value.int (s_pl σ j), Value.int (bI (!(if j = j then !on else s_si σ j))), Value.int (s_up σ j), Value.int (s_dn σ j)]))
      rw [if_pos rfl, Bool.not_not]) (fun t ht => by rw [hk1, h_cn _ _ ht]), fun t ht => ⟨by rw [hk1, h_cn _ _ (t20 ht (Nat.le_of_ble_eq_true rfl))], rfl⟩, rfl⟩ (Nat.zero_le _) (Nat.zero_le _) dX3_answers_18
set_option maxHeartbeats 4000000 in
set_option maxRecDepth 100000 in
/-- rate -/
theorem c_X3_rate (l : Launch) (G : h_G) {ad : h_T → Nat} {k : h_C} {σ : S_t} (hR : RX G ad k σ) (x a b : Int32) : h_Wr l yX3_rate cX3_rate 5 (some .int) 1 21 0 0 G ad k [.ref (ad (0, 0, 0)), .int x, .int a, .int b] (XPost G ad k (some (.int (sp_rate σ x a b).1)) (sp_rate σ x a b).2) := by
  refine h_wr (by decide +kernel) (Nat.le_of_ble_eq_true rfl) ?_
  intro p e s m args below meth c X Y hw ls hl
  have hl : lv_has ls 5 [(0, .ref (ad (0, 0, 0))), (1, .int x), (2, .int a), (3, .int b)] := hl
  have hok := hR.ok
  obtain ⟨hx, hs, hst, hi, hit, hcp, hcol, hmx, hask, -⟩ := id hR
  have hx : k (0, 0, 0) = some (.inr (3, [.int (nI (s_cop σ)), .ref (ad (1, 0, 0)), .int (nI (s_nS σ)), .ref (ad (2, 0, 0)), .int (nI (s_nF σ)), .ref (ad (3, 0, 0)), .ref (ad (4, 0, 0)), .ref (ad (5, 0, 0)), .ref (ad (5, 1, 0)), .ref (ad (5, 2, 0)), .int (nI (s_as σ).length), .int (s_dg σ)])) := hx
  have hnS : s_nS σ ≤ 10 := hok.2.1
  have hnF : s_nF σ ≤ 40 := hok.2.2.1
  unfold sp_rate
  rcases hc : ix x (s_nS σ) with _ | j
  · refine lv_aload_n X.1 X.2.1 dX3_rate_0 rfl (lv_at hl 0 rfl) ?_
    refine lv_iload_n X.1 X.2.1 dX3_rate_1 rfl (lv_at hl 1 rfl) ?_
    refine h_callRV (t := (0, 0, 0)) (As := [.int x]) (rest := []) X hw cs_X3_91 (c_X3_storeOf l G hR x) hx rfl rfl hl.1 rfl (Nat.le_of_ble_eq_true rfl) ⟨by decide, by decide⟩ ⟨Nat.zero_le _, Nat.zero_le _⟩ dX3_rate_2 ?_
    refine h_tv (b := .null) (by rw [hc]; rfl) ?_
    refine lv_astoreN (lv' := [(4, .null), (0, .ref (ad (0, 0, 0))), (1, .int x), (2, .int a), (3, .int b)]) X.1 X.2.1 dX3_rate_5 hl (by decide) rfl (fun ls hl => ?_)
    refine lv_aloadN X.1 X.2.1 dX3_rate_7 (lv_at hl 0 rfl) ?_
    refine lv_ifnonnullN X.1 X.2.1 dX3_rate_9 ?_
    refine lv_iconst (v := (-1)) X.1 X.2.1 dX3_rate_12 (by decide) ?_
    exact h_iretW (v := -1) X Y hw ⟨rfl, hR, fun _ _ => ⟨rfl, rfl⟩, rfl⟩ (Nat.zero_le _) (Nat.zero_le _) dX3_rate_13
  · have hj : j < s_nS σ := ix_lt hc
    have hsj := hst j hj
    unfold x_st at hsj
    show W p l e _ s m args below meth c _ _ _ _ (MQ below (h_Qw G ad k s.heap.size (XPost G ad k (some (.int ((if b < 1 ∨ 1000 < b ∨ a < 0 ∨ b < a then (-2, σ) else (1, s_setRate σ j a b) : Int32 × S_t)).1)) ((if b < 1 ∨ 1000 < b ∨ a < 0 ∨ b < a then (-2, σ) else (1, s_setRate σ j a b) : Int32 × S_t)).2)) args s 0 0 (h_A ad k s.heap.size)) _
    refine lv_aload_n X.1 X.2.1 dX3_rate_0 rfl (lv_at hl 0 rfl) ?_
    refine lv_iload_n X.1 X.2.1 dX3_rate_1 rfl (lv_at hl 1 rfl) ?_
    refine h_callRV (t := (0, 0, 0)) (As := [.int x]) (rest := []) X hw cs_X3_91 (c_X3_storeOf l G hR x) hx rfl rfl hl.1 rfl (Nat.le_of_ble_eq_true rfl) ⟨by decide, by decide⟩ ⟨Nat.zero_le _, Nat.zero_le _⟩ dX3_rate_2 ?_
    refine h_tv (b := .ref (ad (6, j, 0))) (by rw [hc]; rfl) ?_
    refine lv_astore (lv' := [(4, .ref (ad (6, j, 0))), (0, .ref (ad (0, 0, 0))), (1, .int x), (2, .int a), (3, .int b)]) X.1 X.2.1 dX3_rate_5 hl (by decide) rfl (fun ls hl => ?_)
    refine lv_aload X.1 X.2.1 dX3_rate_7 (lv_at hl 0 rfl) ?_
    refine lv_ifnonnull (tgt := 14) X.1 X.2.1 dX3_rate_9 (by decide) ?_
    refine lv_iload_n X.1 X.2.1 dX3_rate_14 rfl (lv_at hl 4 rfl) ?_
    refine lv_iconst (v := 1) X.1 X.2.1 dX3_rate_15 (by decide) ?_
    refine lv_icmp_lt (tgt := 35) X.1 X.2.1 dX3_rate_16 (by decide) (fun c16 => ?_) (fun c16 => ?_)
    · refine lv_bipush (v := (-2)) X.1 X.2.1 dX3_rate_35 (by decide) ?_
      rw [if_pos (Or.inl c16)]
      exact h_iretW (v := -2) X Y hw ⟨rfl, hR, fun _ _ => ⟨rfl, rfl⟩, rfl⟩ (Nat.zero_le _) (Nat.zero_le _) dX3_rate_37
    · refine lv_iload_n X.1 X.2.1 dX3_rate_19 rfl (lv_at hl 4 rfl) ?_
      refine lv_sipush (v := 1000) X.1 X.2.1 dX3_rate_20 (by decide) ?_
      refine lv_icmp_gt (tgt := 35) X.1 X.2.1 dX3_rate_23 (by decide) (fun c23 => ?_) (fun c23 => ?_)
      · refine lv_bipush (v := (-2)) X.1 X.2.1 dX3_rate_35 (by decide) ?_
        rw [if_pos (Or.inr (Or.inl c23))]
        exact h_iretW (v := -2) X Y hw ⟨rfl, hR, fun _ _ => ⟨rfl, rfl⟩, rfl⟩ (Nat.zero_le _) (Nat.zero_le _) dX3_rate_37
      · refine lv_iload_n X.1 X.2.1 dX3_rate_26 rfl (lv_at hl 3 rfl) ?_
        refine lv_if_lt (tgt := 35) X.1 X.2.1 dX3_rate_27 (by decide) (fun c27 => ?_) (fun c27 => ?_)
        · refine lv_bipush (v := (-2)) X.1 X.2.1 dX3_rate_35 (by decide) ?_
          rw [if_pos (Or.inr (Or.inr (Or.inl c27)))]
          exact h_iretW (v := -2) X Y hw ⟨rfl, hR, fun _ _ => ⟨rfl, rfl⟩, rfl⟩ (Nat.zero_le _) (Nat.zero_le _) dX3_rate_37
        · refine lv_iload_n X.1 X.2.1 dX3_rate_30 rfl (lv_at hl 3 rfl) ?_
          refine lv_iload_n X.1 X.2.1 dX3_rate_31 rfl (lv_at hl 4 rfl) ?_
          refine lv_icmp_le (tgt := 38) X.1 X.2.1 dX3_rate_32 (by decide) (fun c32 => ?_) (fun c32 => ?_)
          · refine lv_aload X.1 X.2.1 dX3_rate_38 (lv_at hl 0 rfl) ?_
            refine lv_iload_n X.1 X.2.1 dX3_rate_40 rfl (lv_at hl 3 rfl) ?_
            refine pf_X3_156 X hw hsj rfl rfl (Nat.le_of_ble_eq_true rfl) dX3_rate_41 (fun H locs hw => ?_)
            obtain ⟨k1, hk1⟩ : ∃ zz, zz = h_cu k (6, j, 0) (some (.inr (2, [.int (s_pl σ j), .int (bI (!s_si σ j)), .int a, .int (s_dn σ j)]))) := ⟨_, rfl⟩
            have hw := h_W.ren hw hk1
            have f1_0_0_0 : k1 (0, 0, 0) = some (.inr (3, [.int (nI (s_cop σ)), .ref (ad (1, 0, 0)), .int (nI (s_nS σ)), .ref (ad (2, 0, 0)), .int (nI (s_nF σ)), .ref (ad (3, 0, 0)), .ref (ad (4, 0, 0)), .ref (ad (5, 0, 0)), .ref (ad (5, 1, 0)), .ref (ad (5, 2, 0)), .int (nI (s_as σ).length), .int (s_dg σ)])) := by rw [hk1, h_cn _ _ (by simp)]; exact hx
            have f1_6_j_0 : k1 (6, j, 0) = some (.inr (2, [.int (s_pl σ j), .int (bI (!s_si σ j)), .int a, .int (s_dn σ j)])) := by rw [hk1]; exact h_cs _ _ _
            refine lv_aload X.1 X.2.1 dX3_rate_44 (lv_at hl 0 rfl) ?_
            refine lv_iload_n X.1 X.2.1 dX3_rate_46 rfl (lv_at hl 4 rfl) ?_
            refine pf_X3_159 X hw f1_6_j_0 rfl rfl (Nat.le_of_ble_eq_true rfl) dX3_rate_47 (fun H locs hw => ?_)
            obtain ⟨k2, hk2⟩ : ∃ zz, zz = h_cu k1 (6, j, 0) (some (.inr (2, [.int (s_pl σ j), .int (bI (!s_si σ j)), .int a, .int b]))) := ⟨_, rfl⟩
            have hw := h_W.ren hw hk2
            have f2_0_0_0 : k2 (0, 0, 0) = some (.inr (3, [.int (nI (s_cop σ)), .ref (ad (1, 0, 0)), .int (nI (s_nS σ)), .ref (ad (2, 0, 0)), .int (nI (s_nF σ)), .ref (ad (3, 0, 0)), .ref (ad (4, 0, 0)), .ref (ad (5, 0, 0)), .ref (ad (5, 1, 0)), .ref (ad (5, 2, 0)), .int (nI (s_as σ).length), .int (s_dg σ)])) := by rw [hk2, h_cn _ _ (by simp)]; exact f1_0_0_0
            have f2_6_j_0 : k2 (6, j, 0) = some (.inr (2, [.int (s_pl σ j), .int (bI (!s_si σ j)), .int a, .int b])) := by rw [hk2]; exact h_cs _ _ _
            refine lv_iconst (v := 1) X.1 X.2.1 dX3_rate_50 (by decide) ?_
            rw [if_neg (fun q => by
              rcases q with q | q | q | q
              · exact c16 q
              · exact c23 q
              · exact c27 q
              · exact Int32.not_le.mpr q c32)]
            exact h_iretW (v := 1) X Y hw ⟨rfl, hR.setStore (τ := s_setRate σ j a b) hj rfl rfl rfl (fun i hi => ⟨rfl, if_neg hi, if_neg hi⟩) (by
              rw [hk2, h_cs]
              show _ = some (Sum.inr (2, [Value.int (s_pl σ j), Value.int (bI (!s_si σ j)), Value.int (upd (s_up σ) j a j), Value.int (upd (s_dn σ) j b j)]))
              rw [pk_us, pk_us]) (fun t ht => by rw [hk2, h_cn _ _ ht, hk1, h_cn _ _ ht]), fun t ht => ⟨by rw [hk2, h_cn _ _ (t20 ht (Nat.le_of_ble_eq_true rfl)), hk1, h_cn _ _ (t20 ht (Nat.le_of_ble_eq_true rfl))], rfl⟩, rfl⟩ (Nat.zero_le _) (Nat.zero_le _) dX3_rate_51
          · refine lv_bipush (v := (-2)) X.1 X.2.1 dX3_rate_35 (by decide) ?_
            rw [if_pos (Or.inr (Or.inr (Or.inr (Int32.not_le.mp c32))))]
            exact h_iretW (v := -2) X Y hw ⟨rfl, hR, fun _ _ => ⟨rfl, rfl⟩, rfl⟩ (Nat.zero_le _) (Nat.zero_le _) dX3_rate_37
set_option maxHeartbeats 4000000 in
set_option maxRecDepth 100000 in
/-- majority -/
theorem c_X3_majority (l : Launch) (G : h_G) {ad : h_T → Nat} {k : h_C} {σ : S_t} (hR : RX G ad k σ) (y : Int32) : h_Wr l yX3_majority cX3_majority 4 (some .int) 5 114 0 0 G ad k [.ref (ad (0, 0, 0)), .int y] (XPost G ad k (some (.int (sp_majority σ y).1)) (sp_majority σ y).2) := by
  refine h_wr (by decide +kernel) (Nat.le_of_ble_eq_true rfl) ?_
  intro p e s m args below meth c X Y hw ls hl
  have hl : lv_has ls 4 [(0, .ref (ad (0, 0, 0))), (1, .int y)] := hl
  have hok := hR.ok
  obtain ⟨hx, hs, hst, hi, hit, hcp, hcol, hmx, hask, -⟩ := id hR
  have hx : k (0, 0, 0) = some (.inr (3, [.int (nI (s_cop σ)), .ref (ad (1, 0, 0)), .int (nI (s_nS σ)), .ref (ad (2, 0, 0)), .int (nI (s_nF σ)), .ref (ad (3, 0, 0)), .ref (ad (4, 0, 0)), .ref (ad (5, 0, 0)), .ref (ad (5, 1, 0)), .ref (ad (5, 2, 0)), .int (nI (s_as σ).length), .int (s_dg σ)])) := hx
  have hnS : s_nS σ ≤ 10 := hok.2.1
  have hnF : s_nF σ ≤ 40 := hok.2.2.1
  unfold sp_majority
  rcases hc : ix y (s_nF σ) with _ | f
  · refine lv_aload_n X.1 X.2.1 dX3_majority_0 rfl (lv_at hl 0 rfl) ?_
    refine lv_iload_n X.1 X.2.1 dX3_majority_1 rfl (lv_at hl 1 rfl) ?_
    refine h_callRV (t := (0, 0, 0)) (As := [.int y]) (rest := []) X hw cs_X3_109 (c_X3_itemOf l G hR y) hx rfl rfl hl.1 rfl (Nat.le_of_ble_eq_true rfl) ⟨by decide, by decide⟩ ⟨Nat.zero_le _, Nat.zero_le _⟩ dX3_majority_2 ?_
    refine h_tv (b := .null) (by rw [hc]; rfl) ?_
    refine lv_astore_nN (lv' := [(2, .null), (0, .ref (ad (0, 0, 0))), (1, .int y)]) X.1 X.2.1 dX3_majority_5 rfl hl (by decide) rfl (fun ls hl => ?_)
    refine lv_aload_nN X.1 X.2.1 dX3_majority_6 rfl (lv_at hl 0 rfl) ?_
    refine lv_ifnonnullN X.1 X.2.1 dX3_majority_7 ?_
    refine lv_iconst (v := (-1)) X.1 X.2.1 dX3_majority_10 (by decide) ?_
    exact h_iretW (v := -1) X Y hw ⟨rfl, hR, fun _ _ => ⟨rfl, rfl⟩, rfl⟩ (Nat.zero_le _) (Nat.zero_le _) dX3_majority_11
  · have hf : f < s_nF σ := ix_lt hc
    show W p l e _ s m args below meth c _ _ _ _ (MQ below (h_Qw G ad k s.heap.size (XPost G ad k (some (.int ((match s_ldg σ f with | none => (0, s_setDg σ 0) | some d => (1, s_setDg σ d) : Int32 × S_t)).1)) ((match s_ldg σ f with | none => (0, s_setDg σ 0) | some d => (1, s_setDg σ d) : Int32 × S_t)).2)) args s 0 0 (h_A ad k s.heap.size)) _
    rcases hq : s_lead σ f with _ | q
    · rw [s_ldg_none hq]
      refine lv_aload_n X.1 X.2.1 dX3_majority_0 rfl (lv_at hl 0 rfl) ?_
      refine lv_iload_n X.1 X.2.1 dX3_majority_1 rfl (lv_at hl 1 rfl) ?_
      refine h_callRV (t := (0, 0, 0)) (As := [.int y]) (rest := []) X hw cs_X3_109 (c_X3_itemOf l G hR y) hx rfl rfl hl.1 rfl (Nat.le_of_ble_eq_true rfl) ⟨by decide, by decide⟩ ⟨Nat.zero_le _, Nat.zero_le _⟩ dX3_majority_2 ?_
      refine h_tv (b := .ref (ad (7, f, 0))) (by rw [hc]; rfl) ?_
      refine lv_astore_n (lv' := [(2, .ref (ad (7, f, 0))), (0, .ref (ad (0, 0, 0))), (1, .int y)]) X.1 X.2.1 dX3_majority_5 rfl hl (by decide) rfl (fun ls hl => ?_)
      refine lv_aload_n X.1 X.2.1 dX3_majority_6 rfl (lv_at hl 0 rfl) ?_
      refine lv_ifnonnull (tgt := 12) X.1 X.2.1 dX3_majority_7 (by decide) ?_
      refine lv_aload_n X.1 X.2.1 dX3_majority_12 rfl (lv_at hl 1 rfl) ?_
      refine lv_aload_n X.1 X.2.1 dX3_majority_13 rfl (lv_at hl 0 rfl) ?_
      refine h_callRV (t := (0, 0, 0)) (As := [.ref (ad (7, f, 0))]) (rest := []) X hw cs_X3_139 (c_X3_majorityRow l G hR hf) hx rfl rfl hl.1 rfl (Nat.le_of_ble_eq_true rfl) ⟨by decide, by decide⟩ ⟨Nat.zero_le _, Nat.zero_le _⟩ dX3_majority_14 ?_
      refine h_tv (b := .null) (by rw [hq]; rfl) ?_
      refine lv_astore_nN (lv' := [(3, .null), (2, .ref (ad (7, f, 0))), (0, .ref (ad (0, 0, 0))), (1, .int y)]) X.1 X.2.1 dX3_majority_17 rfl hl (by decide) rfl (fun ls hl => ?_)
      refine lv_aload_n X.1 X.2.1 dX3_majority_18 rfl (lv_at hl 2 rfl) ?_
      refine lv_aload_nN X.1 X.2.1 dX3_majority_19 rfl (lv_at hl 0 rfl) ?_
      refine lv_ifnonnullN X.1 X.2.1 dX3_majority_20 ?_
      refine lv_iconst (v := 0) X.1 X.2.1 dX3_majority_23 (by decide) ?_
      refine lv_goto (tgt := 31) X.1 X.2.1 dX3_majority_24 (by decide) ?_
      refine pf_X3_51 X hw hx rfl rfl (Nat.le_of_ble_eq_true rfl) dX3_majority_31 (fun H locs hw => ?_)
      obtain ⟨k1, hk1⟩ : ∃ zz, zz = h_cu k (0, 0, 0) (some (.inr (3, [.int (nI (s_cop σ)), .ref (ad (1, 0, 0)), .int (nI (s_nS σ)), .ref (ad (2, 0, 0)), .int (nI (s_nF σ)), .ref (ad (3, 0, 0)), .ref (ad (4, 0, 0)), .ref (ad (5, 0, 0)), .ref (ad (5, 1, 0)), .ref (ad (5, 2, 0)), .int (nI (s_as σ).length), .int 0]))) := ⟨_, rfl⟩
      have hw := h_W.ren hw hk1
      have f1_0_0_0 : k1 (0, 0, 0) = some (.inr (3, [.int (nI (s_cop σ)), .ref (ad (1, 0, 0)), .int (nI (s_nS σ)), .ref (ad (2, 0, 0)), .int (nI (s_nF σ)), .ref (ad (3, 0, 0)), .ref (ad (4, 0, 0)), .ref (ad (5, 0, 0)), .ref (ad (5, 1, 0)), .ref (ad (5, 2, 0)), .int (nI (s_as σ).length), .int 0])) := by rw [hk1]; exact h_cs _ _ _
      refine lv_aload_nN X.1 X.2.1 dX3_majority_34 rfl (lv_at hl 0 rfl) ?_
      refine lv_ifnonnullN X.1 X.2.1 dX3_majority_35 ?_
      refine lv_iconst (v := 0) X.1 X.2.1 dX3_majority_38 (by decide) ?_
      refine lv_goto (tgt := 43) X.1 X.2.1 dX3_majority_39 (by decide) ?_
      exact h_iretW (v := 0) X Y hw ⟨rfl, hR.setObj (τ := s_setDg σ 0) rfl rfl rfl rfl rfl (by rw [hk1, h_cs]; rfl) (fun t ht => by rw [hk1, h_cn _ _ ht]), fun t ht => ⟨by rw [hk1, h_cn _ _ (t20 ht (Nat.le_of_ble_eq_true rfl))], rfl⟩, rfl⟩ (Nat.zero_le _) (Nat.zero_le _) dX3_majority_43
    · obtain ⟨hq1, b2, hb2⟩ := s_lead_spec hq
      rw [s_ldg_some hq hb2]
      refine lv_aload_n X.1 X.2.1 dX3_majority_0 rfl (lv_at hl 0 rfl) ?_
      refine lv_iload_n X.1 X.2.1 dX3_majority_1 rfl (lv_at hl 1 rfl) ?_
      refine h_callRV (t := (0, 0, 0)) (As := [.int y]) (rest := []) X hw cs_X3_109 (c_X3_itemOf l G hR y) hx rfl rfl hl.1 rfl (Nat.le_of_ble_eq_true rfl) ⟨by decide, by decide⟩ ⟨Nat.zero_le _, Nat.zero_le _⟩ dX3_majority_2 ?_
      refine h_tv (b := .ref (ad (7, f, 0))) (by rw [hc]; rfl) ?_
      refine lv_astore_n (lv' := [(2, .ref (ad (7, f, 0))), (0, .ref (ad (0, 0, 0))), (1, .int y)]) X.1 X.2.1 dX3_majority_5 rfl hl (by decide) rfl (fun ls hl => ?_)
      refine lv_aload_n X.1 X.2.1 dX3_majority_6 rfl (lv_at hl 0 rfl) ?_
      refine lv_ifnonnull (tgt := 12) X.1 X.2.1 dX3_majority_7 (by decide) ?_
      refine lv_aload_n X.1 X.2.1 dX3_majority_12 rfl (lv_at hl 1 rfl) ?_
      refine lv_aload_n X.1 X.2.1 dX3_majority_13 rfl (lv_at hl 0 rfl) ?_
      refine h_callRV (t := (0, 0, 0)) (As := [.ref (ad (7, f, 0))]) (rest := []) X hw cs_X3_139 (c_X3_majorityRow l G hR hf) hx rfl rfl hl.1 rfl (Nat.le_of_ble_eq_true rfl) ⟨by decide, by decide⟩ ⟨Nat.zero_le _, Nat.zero_le _⟩ dX3_majority_14 ?_
      refine h_tv (b := .ref (ad (9, q, f))) (by rw [hq]; rfl) ?_
      refine lv_astore_n (lv' := [(3, .ref (ad (9, q, f))), (2, .ref (ad (7, f, 0))), (0, .ref (ad (0, 0, 0))), (1, .int y)]) X.1 X.2.1 dX3_majority_17 rfl hl (by decide) rfl (fun ls hl => ?_)
      refine lv_aload_n X.1 X.2.1 dX3_majority_18 rfl (lv_at hl 2 rfl) ?_
      refine lv_aload_n X.1 X.2.1 dX3_majority_19 rfl (lv_at hl 0 rfl) ?_
      refine lv_ifnonnull (tgt := 27) X.1 X.2.1 dX3_majority_20 (by decide) ?_
      refine lv_aload_n X.1 X.2.1 dX3_majority_27 rfl (lv_at hl 0 rfl) ?_
      refine h_callRV (t := (9, q, f)) (As := []) (rest := [.ref (ad (0, 0, 0))]) X hw cs_X3_143 (c_X1_sum l G (hcp q f b2 (s_cnt_cp hb2).1) (hok.2.2.2.2.2.2.1 q f b2 (s_cnt_cp hb2).1)) (hcp q f b2 (s_cnt_cp hb2).1).1 rfl rfl hl.1 rfl (Nat.le_of_ble_eq_true rfl) ⟨by decide, by decide⟩ ⟨Nat.zero_le _, Nat.zero_le _⟩ dX3_majority_28 ?_
      refine pf_X3_51 X hw hx rfl rfl (Nat.le_of_ble_eq_true rfl) dX3_majority_31 (fun H locs hw => ?_)
      obtain ⟨k1, hk1⟩ : ∃ zz, zz = h_cu k (0, 0, 0) (some (.inr (3, [.int (nI (s_cop σ)), .ref (ad (1, 0, 0)), .int (nI (s_nS σ)), .ref (ad (2, 0, 0)), .int (nI (s_nF σ)), .ref (ad (3, 0, 0)), .ref (ad (4, 0, 0)), .ref (ad (5, 0, 0)), .ref (ad (5, 1, 0)), .ref (ad (5, 2, 0)), .int (nI (s_as σ).length), .int (dgL b2)]))) := ⟨_, rfl⟩
      have hw := h_W.ren hw hk1
      have f1_0_0_0 : k1 (0, 0, 0) = some (.inr (3, [.int (nI (s_cop σ)), .ref (ad (1, 0, 0)), .int (nI (s_nS σ)), .ref (ad (2, 0, 0)), .int (nI (s_nF σ)), .ref (ad (3, 0, 0)), .ref (ad (4, 0, 0)), .ref (ad (5, 0, 0)), .ref (ad (5, 1, 0)), .ref (ad (5, 2, 0)), .int (nI (s_as σ).length), .int (dgL b2)])) := by rw [hk1]; exact h_cs _ _ _
      refine lv_aload_n X.1 X.2.1 dX3_majority_34 rfl (lv_at hl 0 rfl) ?_
      refine lv_ifnonnull (tgt := 42) X.1 X.2.1 dX3_majority_35 (by decide) ?_
      refine lv_iconst (v := 1) X.1 X.2.1 dX3_majority_42 (by decide) ?_
      exact h_iretW (v := 1) X Y hw ⟨rfl, hR.setObj (τ := s_setDg σ (dgL b2)) rfl rfl rfl rfl rfl (by rw [hk1, h_cs]; rfl) (fun t ht => by rw [hk1, h_cn _ _ ht]), fun t ht => ⟨by rw [hk1, h_cn _ _ (t20 ht (Nat.le_of_ble_eq_true rfl))], rfl⟩, rfl⟩ (Nat.zero_le _) (Nat.zero_le _) dX3_majority_43
