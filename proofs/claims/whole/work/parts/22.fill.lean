set_option maxHeartbeats 4000000 in
set_option maxRecDepth 100000 in
/-- fillItem -/
theorem c_X3_fillItem (l : Launch) (G : h_G) {ad : h_T → Nat} {k : h_C} {σ : S_t} (hR : RX G ad k σ) {f j : Nat} (hf : f < s_nF σ) (hj : j < s_nS σ) : h_Wr l yX3_fillItem cX3_fillItem 4 (some .boolean) 5 114 2 18 G ad k [.ref (ad (0, 0, 0)), .ref (ad (7, f, 0)), .int (nI j)] (XPost G ad k (some (.int (bI (s_fillF σ j f).1))) (s_fillF σ j f).2) := by
  refine h_wr (by decide +kernel) (Nat.le_of_ble_eq_true rfl) ?_
  intro p e s m args below meth c X Y hw ls hl
  have hl : lv_has ls 4 [(0, .ref (ad (0, 0, 0))), (1, .ref (ad (7, f, 0))), (2, .int (nI j))] := hl
  have hok := hR.ok
  obtain ⟨hx, hs, hst, hi, hit, hcp, hcol, hmx, hask, -⟩ := id hR
  have hx : k (0, 0, 0) = some (.inr (3, [.int (nI (s_cop σ)), .ref (ad (1, 0, 0)), .int (nI (s_nS σ)), .ref (ad (2, 0, 0)), .int (nI (s_nF σ)), .ref (ad (3, 0, 0)), .ref (ad (4, 0, 0)), .ref (ad (5, 0, 0)), .ref (ad (5, 1, 0)), .ref (ad (5, 2, 0)), .int (nI (s_as σ).length), .int (s_dg σ)])) := hx
  have hnS : s_nS σ ≤ 10 := hok.2.1
  have hnF : s_nF σ ≤ 40 := hok.2.2.1
  unfold s_fillF
  have hcop := hok.1
  rcases hc : s_cp σ j f with _ | b0
  rotate_left
  · rw [if_pos (Or.inl (show s_has σ j f = true by unfold s_has; rw [hc]; rfl))]
    refine lv_aload_n X.1 X.2.1 dX3_fillItem_0 rfl (lv_at hl 0 rfl) ?_
    refine lv_iload_n X.1 X.2.1 dX3_fillItem_1 rfl (lv_at hl 2 rfl) ?_
    refine h_callRV (t := (0, 0, 0)) (As := [.int (nI j)]) (rest := []) X hw cs_X3_91 (c_X3_storeOf l G hR (nI j)) hx rfl rfl hl.1 rfl (Nat.le_of_ble_eq_true rfl) ⟨by decide, by decide⟩ ⟨Nat.zero_le _, Nat.zero_le _⟩ dX3_fillItem_2 ?_
    refine h_tv (b := .ref (ad (6, j, 0))) (by rw [ix_nI hj (by omega)]; rfl) ?_
    refine lv_ifnull X.1 X.2.1 dX3_fillItem_5 ?_
    refine lv_aload_n X.1 X.2.1 dX3_fillItem_8 rfl (lv_at hl 1 rfl) ?_
    refine gf_X3_113 X hw (hit f hf).1 rfl dX3_fillItem_9 ?_
    refine lv_iload_n X.1 X.2.1 dX3_fillItem_12 rfl (lv_at hl 2 rfl) ?_
    refine h_aald X hw 5 rfl (hit f hf).2 (vp_in_nI (by omega) (by decide)) dX3_fillItem_13 ?_
    refine h_tv (b := .ref (ad (9, j, f))) (by rw [nI_clamp (by omega)]; simp only [x_rws, hc]; rfl) ?_
    refine lv_ifnonnull (tgt := 28) X.1 X.2.1 dX3_fillItem_14 (by decide) ?_
    refine lv_iconst (v := 0) X.1 X.2.1 dX3_fillItem_28 (by decide) ?_
    exact h_zretW (v := 0) X Y (by decide) hw ⟨rfl, hR, fun _ _ => ⟨rfl, rfl⟩, rfl⟩ (Nat.zero_le _) (Nat.zero_le _) dX3_fillItem_29
  have hcn := cN_le (fun s => s_has σ s f) (s_nS σ)
  by_cases hfew : s_cop σ ≤ cN (fun s => s_has σ s f) (s_nS σ)
  · rw [if_pos (Or.inr hfew)]
    refine lv_aload_n X.1 X.2.1 dX3_fillItem_0 rfl (lv_at hl 0 rfl) ?_
    refine lv_iload_n X.1 X.2.1 dX3_fillItem_1 rfl (lv_at hl 2 rfl) ?_
    refine h_callRV (t := (0, 0, 0)) (As := [.int (nI j)]) (rest := []) X hw cs_X3_91 (c_X3_storeOf l G hR (nI j)) hx rfl rfl hl.1 rfl (Nat.le_of_ble_eq_true rfl) ⟨by decide, by decide⟩ ⟨Nat.zero_le _, Nat.zero_le _⟩ dX3_fillItem_2 ?_
    refine h_tv (b := .ref (ad (6, j, 0))) (by rw [ix_nI hj (by omega)]; rfl) ?_
    refine lv_ifnull X.1 X.2.1 dX3_fillItem_5 ?_
    refine lv_aload_n X.1 X.2.1 dX3_fillItem_8 rfl (lv_at hl 1 rfl) ?_
    refine gf_X3_113 X hw (hit f hf).1 rfl dX3_fillItem_9 ?_
    refine lv_iload_n X.1 X.2.1 dX3_fillItem_12 rfl (lv_at hl 2 rfl) ?_
    refine h_aald X hw 5 rfl (hit f hf).2 (vp_in_nI (by omega) (by decide)) dX3_fillItem_13 ?_
    refine h_tv (b := .null) (by rw [nI_clamp (by omega)]; simp only [x_rws, hc]; rfl) ?_
    refine lv_ifnonnullN X.1 X.2.1 dX3_fillItem_14 ?_
    refine lv_aload_n X.1 X.2.1 dX3_fillItem_17 rfl (lv_at hl 1 rfl) ?_
    refine h_callRV (t := (7, f, 0)) (As := []) (rest := []) X hw cs_X3_182 (c_X0_copyCount l G hR hf) (hit f hf).1 rfl rfl hl.1 rfl (Nat.le_of_ble_eq_true rfl) ⟨by decide, by decide⟩ ⟨Nat.zero_le _, Nat.zero_le _⟩ dX3_fillItem_18 ?_
    refine h_tv (b := .int (nI (cN (fun s => s_has σ s f) (s_nS σ)))) (by rw [cN_has10 hok]) ?_
    refine lv_aload_n X.1 X.2.1 dX3_fillItem_21 rfl (lv_at hl 0 rfl) ?_
    refine gf_X3_63 X hw hx rfl dX3_fillItem_22 ?_
    refine lv_icmp_lt (tgt := 30) X.1 X.2.1 dX3_fillItem_25 (by decide) (fun c25 => ?_) (fun c25 => ?_)
    · exact absurd c25 (nI_nlt hfew (by omega))
    · refine lv_iconst (v := 0) X.1 X.2.1 dX3_fillItem_28 (by decide) ?_
      exact h_zretW (v := 0) X Y (by decide) hw ⟨rfl, hR, fun _ _ => ⟨rfl, rfl⟩, rfl⟩ (Nat.zero_le _) (Nat.zero_le _) dX3_fillItem_29
  rw [if_neg (fun q => by
    rcases q with q | q
    · unfold s_has at q; rw [hc] at q; cases q
    · exact hfew q)]
  rcases hq : s_lead σ f with _ | q
  · rw [show s_lrow σ f = none by unfold s_lrow; rw [hq]; rfl]
    refine lv_aload_n X.1 X.2.1 dX3_fillItem_0 rfl (lv_at hl 0 rfl) ?_
    refine lv_iload_n X.1 X.2.1 dX3_fillItem_1 rfl (lv_at hl 2 rfl) ?_
    refine h_callRV (t := (0, 0, 0)) (As := [.int (nI j)]) (rest := []) X hw cs_X3_91 (c_X3_storeOf l G hR (nI j)) hx rfl rfl hl.1 rfl (Nat.le_of_ble_eq_true rfl) ⟨by decide, by decide⟩ ⟨Nat.zero_le _, Nat.zero_le _⟩ dX3_fillItem_2 ?_
    refine h_tv (b := .ref (ad (6, j, 0))) (by rw [ix_nI hj (by omega)]; rfl) ?_
    refine lv_ifnull X.1 X.2.1 dX3_fillItem_5 ?_
    refine lv_aload_n X.1 X.2.1 dX3_fillItem_8 rfl (lv_at hl 1 rfl) ?_
    refine gf_X3_113 X hw (hit f hf).1 rfl dX3_fillItem_9 ?_
    refine lv_iload_n X.1 X.2.1 dX3_fillItem_12 rfl (lv_at hl 2 rfl) ?_
    refine h_aald X hw 5 rfl (hit f hf).2 (vp_in_nI (by omega) (by decide)) dX3_fillItem_13 ?_
    refine h_tv (b := .null) (by rw [nI_clamp (by omega)]; simp only [x_rws, hc]; rfl) ?_
    refine lv_ifnonnullN X.1 X.2.1 dX3_fillItem_14 ?_
    refine lv_aload_n X.1 X.2.1 dX3_fillItem_17 rfl (lv_at hl 1 rfl) ?_
    refine h_callRV (t := (7, f, 0)) (As := []) (rest := []) X hw cs_X3_182 (c_X0_copyCount l G hR hf) (hit f hf).1 rfl rfl hl.1 rfl (Nat.le_of_ble_eq_true rfl) ⟨by decide, by decide⟩ ⟨Nat.zero_le _, Nat.zero_le _⟩ dX3_fillItem_18 ?_
    refine h_tv (b := .int (nI (cN (fun s => s_has σ s f) (s_nS σ)))) (by rw [cN_has10 hok]) ?_
    refine lv_aload_n X.1 X.2.1 dX3_fillItem_21 rfl (lv_at hl 0 rfl) ?_
    refine gf_X3_63 X hw hx rfl dX3_fillItem_22 ?_
    refine lv_icmp_lt (tgt := 30) X.1 X.2.1 dX3_fillItem_25 (by decide) (fun c25 => ?_) (fun c25 => ?_)
    · refine lv_aload_n X.1 X.2.1 dX3_fillItem_30 rfl (lv_at hl 0 rfl) ?_
      refine lv_aload_n X.1 X.2.1 dX3_fillItem_31 rfl (lv_at hl 1 rfl) ?_
      refine h_callRV (t := (0, 0, 0)) (As := [.ref (ad (7, f, 0))]) (rest := []) X hw cs_X3_139 (c_X3_majorityRow l G hR hf) hx rfl rfl hl.1 rfl (Nat.le_of_ble_eq_true rfl) ⟨by decide, by decide⟩ ⟨Nat.zero_le _, Nat.zero_le _⟩ dX3_fillItem_32 ?_
      refine h_tv (b := .null) (by rw [hq]; rfl) ?_
      refine lv_astore_nN (lv' := [(3, .null), (0, .ref (ad (0, 0, 0))), (1, .ref (ad (7, f, 0))), (2, .int (nI j))]) X.1 X.2.1 dX3_fillItem_35 rfl hl (by decide) rfl (fun ls hl => ?_)
      refine lv_aload_nN X.1 X.2.1 dX3_fillItem_36 rfl (lv_at hl 0 rfl) ?_
      refine lv_ifnonnullN X.1 X.2.1 dX3_fillItem_37 ?_
      refine lv_iconst (v := 0) X.1 X.2.1 dX3_fillItem_40 (by decide) ?_
      exact h_zretW (v := 0) X Y (by decide) hw ⟨rfl, hR, fun _ _ => ⟨rfl, rfl⟩, rfl⟩ (Nat.zero_le _) (Nat.zero_le _) dX3_fillItem_41
    · exact absurd (nI_lt (Nat.lt_of_not_le hfew) (by omega)) c25
  · obtain ⟨hq1, b, hb⟩ := s_lead_spec hq
    have hbc := (s_cnt_cp hb).1
    have hbl := hok.2.2.2.2.2.2.1 q f b hbc
    have hqj : q ≠ j := fun e => by rw [e, hc] at hbc; cases hbc
    rw [show s_lrow σ f = some b by unfold s_lrow; rw [hq, Option.bind_some, hb]]
    obtain ⟨hr1, g, hg, hgi⟩ := hcp q f b hbc
    refine lv_aload_n X.1 X.2.1 dX3_fillItem_0 rfl (lv_at hl 0 rfl) ?_
    refine lv_iload_n X.1 X.2.1 dX3_fillItem_1 rfl (lv_at hl 2 rfl) ?_
    refine h_callRV (t := (0, 0, 0)) (As := [.int (nI j)]) (rest := []) X hw cs_X3_91 (c_X3_storeOf l G hR (nI j)) hx rfl rfl hl.1 rfl (Nat.le_of_ble_eq_true rfl) ⟨by decide, by decide⟩ ⟨Nat.zero_le _, Nat.zero_le _⟩ dX3_fillItem_2 ?_
    refine h_tv (b := .ref (ad (6, j, 0))) (by rw [ix_nI hj (by omega)]; rfl) ?_
    refine lv_ifnull X.1 X.2.1 dX3_fillItem_5 ?_
    refine lv_aload_n X.1 X.2.1 dX3_fillItem_8 rfl (lv_at hl 1 rfl) ?_
    refine gf_X3_113 X hw (hit f hf).1 rfl dX3_fillItem_9 ?_
    refine lv_iload_n X.1 X.2.1 dX3_fillItem_12 rfl (lv_at hl 2 rfl) ?_
    refine h_aald X hw 5 rfl (hit f hf).2 (vp_in_nI (by omega) (by decide)) dX3_fillItem_13 ?_
    refine h_tv (b := .null) (by rw [nI_clamp (by omega)]; simp only [x_rws, hc]; rfl) ?_
    refine lv_ifnonnullN X.1 X.2.1 dX3_fillItem_14 ?_
    refine lv_aload_n X.1 X.2.1 dX3_fillItem_17 rfl (lv_at hl 1 rfl) ?_
    refine h_callRV (t := (7, f, 0)) (As := []) (rest := []) X hw cs_X3_182 (c_X0_copyCount l G hR hf) (hit f hf).1 rfl rfl hl.1 rfl (Nat.le_of_ble_eq_true rfl) ⟨by decide, by decide⟩ ⟨Nat.zero_le _, Nat.zero_le _⟩ dX3_fillItem_18 ?_
    refine h_tv (b := .int (nI (cN (fun s => s_has σ s f) (s_nS σ)))) (by rw [cN_has10 hok]) ?_
    refine lv_aload_n X.1 X.2.1 dX3_fillItem_21 rfl (lv_at hl 0 rfl) ?_
    refine gf_X3_63 X hw hx rfl dX3_fillItem_22 ?_
    refine lv_icmp_lt (tgt := 30) X.1 X.2.1 dX3_fillItem_25 (by decide) (fun c25 => ?_) (fun c25 => ?_)
    · refine lv_aload_n X.1 X.2.1 dX3_fillItem_30 rfl (lv_at hl 0 rfl) ?_
      refine lv_aload_n X.1 X.2.1 dX3_fillItem_31 rfl (lv_at hl 1 rfl) ?_
      refine h_callRV (t := (0, 0, 0)) (As := [.ref (ad (7, f, 0))]) (rest := []) X hw cs_X3_139 (c_X3_majorityRow l G hR hf) hx rfl rfl hl.1 rfl (Nat.le_of_ble_eq_true rfl) ⟨by decide, by decide⟩ ⟨Nat.zero_le _, Nat.zero_le _⟩ dX3_fillItem_32 ?_
      refine h_tv (b := .ref (ad (9, q, f))) (by rw [hq]; rfl) ?_
      refine lv_astore_n (lv' := [(3, .ref (ad (9, q, f))), (0, .ref (ad (0, 0, 0))), (1, .ref (ad (7, f, 0))), (2, .int (nI j))]) X.1 X.2.1 dX3_fillItem_35 rfl hl (by decide) rfl (fun ls hl => ?_)
      refine lv_aload_n X.1 X.2.1 dX3_fillItem_36 rfl (lv_at hl 0 rfl) ?_
      refine lv_ifnonnull (tgt := 42) X.1 X.2.1 dX3_fillItem_37 (by decide) ?_
      obtain ⟨k0, hk0⟩ : ∃ zz, zz = h_cu (h_cu k (9, j, f) none) (10, j, f) none := ⟨_, rfl⟩
      replace hw := ((hw.drop (9, j, f)).drop (10, j, f)).ren hk0
      have f0_0_0_0 : k0 (0, 0, 0) = some (.inr (3, [.int (nI (s_cop σ)), .ref (ad (1, 0, 0)), .int (nI (s_nS σ)), .ref (ad (2, 0, 0)), .int (nI (s_nF σ)), .ref (ad (3, 0, 0)), .ref (ad (4, 0, 0)), .ref (ad (5, 0, 0)), .ref (ad (5, 1, 0)), .ref (ad (5, 2, 0)), .int (nI (s_as σ).length), .int (s_dg σ)])) := by rw [hk0, h_cn _ _ (by simp), h_cn _ _ (by simp)]; exact hx
      have f0_7_f_0 : k0 (7, f, 0) = some (.inr (0, [.int (s_pk σ f), .ref (ad (8, f, 0)), .int (s_rn σ f)])) := by rw [hk0, h_cn _ _ (by simp), h_cn _ _ (by simp)]; exact (hit f hf).1
      have f0_8_f_0 : k0 (8, f, 0) = some (.inl (G.2 5, 10, x_refs (x_rws ad σ f))) := by rw [hk0, h_cn _ _ (by simp), h_cn _ _ (by simp)]; exact (hit f hf).2
      have f0_9_q_f : k0 (9, q, f) = some (.inr (1, [.ref (ad (10, q, f)), .int (nI b.length)])) := by rw [hk0, h_cn _ _ (by simp), h_cn _ _ (by simp [hqj])]; exact hr1
      have f0_10_q_f : k0 (10, q, f) = some (.inl (G.2 0, 16, .inl g)) := by rw [hk0, h_cn _ _ (by simp [hqj]), h_cn _ _ (by simp)]; exact hg
      refine lv_aload_n X.1 X.2.1 dX3_fillItem_42 rfl (lv_at hl 2 rfl) ?_
      refine gf_X3_113 X hw f0_7_f_0 rfl dX3_fillItem_43 ?_
      refine lv_iload_n X.1 X.2.1 dX3_fillItem_46 rfl (lv_at hl 3 rfl) ?_
      refine lv_aload_n X.1 X.2.1 dX3_fillItem_47 rfl (lv_at hl 0 rfl) ?_
      refine h_callWV (t := (9, q, f)) (As := []) (rest := [.int (nI j), .ref (ad (8, f, 0))]) X hw cs_X3_198 (c_X1_twin l G (t := (9, q, f)) (u := (10, q, f)) (t2 := (9, j, f)) (u2 := (10, j, f)) ⟨f0_9_q_f, g, f0_10_q_f, hgi⟩ hbl (by simp) (by rw [hk0, h_cn _ _ (by simp), h_cs]) (by rw [hk0, h_cs]) (by simp)) f0_9_q_f rfl rfl hl.1 rfl (Nat.le_of_ble_eq_true rfl) ⟨by decide, by decide⟩ ⟨(Nat.le_of_ble_eq_true rfl), (Nat.le_of_ble_eq_true rfl)⟩ dX3_fillItem_48 (fun r9 ad1 k1 H locs hp9 hw => ?_)
      obtain ⟨rfl, hr1, ho1⟩ := hp9
      refine W.eq (g2 := F0 m 51 ls [.ref (ad1 (9, j, f)), .int (nI j), .ref (ad (8, f, 0))]) rfl ?_
      have eb1_0 : ad (9, q, f) = ad1 (9, q, f) := ((ho1 (9, q, f) (by simp [hqj]) (by simp)).2).symm
      have eb1_1 : ad (0, 0, 0) = ad1 (0, 0, 0) := ((ho1 (0, 0, 0) (by simp) (by simp)).2).symm
      have eb1_2 : ad (7, f, 0) = ad1 (7, f, 0) := ((ho1 (7, f, 0) (by simp) (by simp)).2).symm
      have eb1_3 : ad (8, f, 0) = ad1 (8, f, 0) := ((ho1 (8, f, 0) (by simp) (by simp)).2).symm
      have eb1_4 : ad (1, 0, 0) = ad1 (1, 0, 0) := ((ho1 (1, 0, 0) (by simp) (by simp)).2).symm
      have eb1_5 : ad (2, 0, 0) = ad1 (2, 0, 0) := ((ho1 (2, 0, 0) (by simp) (by simp)).2).symm
      have eb1_6 : ad (3, 0, 0) = ad1 (3, 0, 0) := ((ho1 (3, 0, 0) (by simp) (by simp)).2).symm
      have eb1_7 : ad (4, 0, 0) = ad1 (4, 0, 0) := ((ho1 (4, 0, 0) (by simp) (by simp)).2).symm
      have eb1_8 : ad (5, 0, 0) = ad1 (5, 0, 0) := ((ho1 (5, 0, 0) (by simp) (by simp)).2).symm
      have eb1_9 : ad (5, 1, 0) = ad1 (5, 1, 0) := ((ho1 (5, 1, 0) (by simp) (by simp)).2).symm
      have eb1_10 : ad (5, 2, 0) = ad1 (5, 2, 0) := ((ho1 (5, 2, 0) (by simp) (by simp)).2).symm
      have eb1_11 : ad (10, q, f) = ad1 (10, q, f) := ((ho1 (10, q, f) (by simp) (by simp [hqj])).2).symm
      simp only [eb1_0, eb1_1, eb1_2, eb1_3, eb1_4, eb1_5, eb1_6, eb1_7, eb1_8, eb1_9, eb1_10, eb1_11] at hl
      simp only [eb1_0, eb1_1, eb1_2, eb1_3, eb1_4, eb1_5, eb1_6, eb1_7, eb1_8, eb1_9, eb1_10, eb1_11]
      have f1_0_0_0 : k1 (0, 0, 0) = some (.inr (3, [.int (nI (s_cop σ)), .ref (ad1 (1, 0, 0)), .int (nI (s_nS σ)), .ref (ad1 (2, 0, 0)), .int (nI (s_nF σ)), .ref (ad1 (3, 0, 0)), .ref (ad1 (4, 0, 0)), .ref (ad1 (5, 0, 0)), .ref (ad1 (5, 1, 0)), .ref (ad1 (5, 2, 0)), .int (nI (s_as σ).length), .int (s_dg σ)])) := by rw [(ho1 (0, 0, 0) (by simp) (by simp)).1, f0_0_0_0]; simp only [eb1_0, eb1_1, eb1_2, eb1_3, eb1_4, eb1_5, eb1_6, eb1_7, eb1_8, eb1_9, eb1_10, eb1_11]
      have f1_7_f_0 : k1 (7, f, 0) = some (.inr (0, [.int (s_pk σ f), .ref (ad1 (8, f, 0)), .int (s_rn σ f)])) := by rw [(ho1 (7, f, 0) (by simp) (by simp)).1, f0_7_f_0]; simp only [eb1_0, eb1_1, eb1_2, eb1_3, eb1_4, eb1_5, eb1_6, eb1_7, eb1_8, eb1_9, eb1_10, eb1_11]
      have f1_8_f_0 : k1 (8, f, 0) = some (.inl (G.2 5, 10, x_refs (x_rws ad σ f))) := by rw [(ho1 (8, f, 0) (by simp) (by simp)).1, f0_8_f_0]
      have f1_9_q_f : k1 (9, q, f) = some (.inr (1, [.ref (ad1 (10, q, f)), .int (nI b.length)])) := by rw [(ho1 (9, q, f) (by simp [hqj]) (by simp)).1, f0_9_q_f]; simp only [eb1_0, eb1_1, eb1_2, eb1_3, eb1_4, eb1_5, eb1_6, eb1_7, eb1_8, eb1_9, eb1_10, eb1_11]
      have f1_10_q_f : k1 (10, q, f) = some (.inl (G.2 0, 16, .inl g)) := by rw [(ho1 (10, q, f) (by simp) (by simp [hqj])).1, f0_10_q_f]
      refine h_aast (u := (9, j, f)) X hw 5 1 rfl f1_8_f_0 hr1.1 rfl (vp_in_nI (by omega) (by decide)) dX3_fillItem_51 (fun H locs hw => ?_)
      obtain ⟨k2, hk2⟩ : ∃ zz, zz = h_cu k1 (8, f, 0) (some (.inl (G.2 5, 10, x_refs (va_up (x_rws ad σ f) (nI j).toNatClampNeg (some (ad1 (9, j, f))))))) := ⟨_, rfl⟩
      replace hw := h_W.ren hw hk2
      have f2_0_0_0 : k2 (0, 0, 0) = some (.inr (3, [.int (nI (s_cop σ)), .ref (ad1 (1, 0, 0)), .int (nI (s_nS σ)), .ref (ad1 (2, 0, 0)), .int (nI (s_nF σ)), .ref (ad1 (3, 0, 0)), .ref (ad1 (4, 0, 0)), .ref (ad1 (5, 0, 0)), .ref (ad1 (5, 1, 0)), .ref (ad1 (5, 2, 0)), .int (nI (s_as σ).length), .int (s_dg σ)])) := by rw [hk2, h_cn _ _ (by simp)]; exact f1_0_0_0
      have f2_7_f_0 : k2 (7, f, 0) = some (.inr (0, [.int (s_pk σ f), .ref (ad1 (8, f, 0)), .int (s_rn σ f)])) := by rw [hk2, h_cn _ _ (by simp)]; exact f1_7_f_0
      have f2_8_f_0 : k2 (8, f, 0) = some (.inl (G.2 5, 10, x_refs (va_up (x_rws ad σ f) (nI j).toNatClampNeg (some (ad1 (9, j, f)))))) := by rw [hk2]; exact h_cs _ _ _
      have f2_9_q_f : k2 (9, q, f) = some (.inr (1, [.ref (ad1 (10, q, f)), .int (nI b.length)])) := by rw [hk2, h_cn _ _ (by simp)]; exact f1_9_q_f
      have f2_10_q_f : k2 (10, q, f) = some (.inl (G.2 0, 16, .inl g)) := by rw [hk2, h_cn _ _ (by simp)]; exact f1_10_q_f
      have f2_9_j_f : k2 (9, j, f) = some (.inr (1, [.ref (ad1 (10, j, f)), .int (nI b.length)])) := by rw [hk2, h_cn _ _ (by simp)]; exact hr1.1
      refine lv_aload_n X.1 X.2.1 dX3_fillItem_52 rfl (lv_at hl 2 rfl) ?_
      refine lv_dup X.1 X.2.1 dX3_fillItem_53 rfl ?_
      refine gf_X3_188 X hw f2_7_f_0 rfl dX3_fillItem_54 ?_
      refine lv_iconst (v := 1) X.1 X.2.1 dX3_fillItem_57 (by decide) ?_
      refine lv_iadd X.1 X.2.1 dX3_fillItem_58 ?_
      refine pf_X3_188 X hw f2_7_f_0 rfl rfl (Nat.le_of_ble_eq_true rfl) dX3_fillItem_59 (fun H locs hw => ?_)
      obtain ⟨k3, hk3⟩ : ∃ zz, zz = h_cu k2 (7, f, 0) (some (.inr (0, [.int (s_pk σ f), .ref (ad1 (8, f, 0)), .int (s_rn σ f + 1)]))) := ⟨_, rfl⟩
      replace hw := h_W.ren hw hk3
      have f3_0_0_0 : k3 (0, 0, 0) = some (.inr (3, [.int (nI (s_cop σ)), .ref (ad1 (1, 0, 0)), .int (nI (s_nS σ)), .ref (ad1 (2, 0, 0)), .int (nI (s_nF σ)), .ref (ad1 (3, 0, 0)), .ref (ad1 (4, 0, 0)), .ref (ad1 (5, 0, 0)), .ref (ad1 (5, 1, 0)), .ref (ad1 (5, 2, 0)), .int (nI (s_as σ).length), .int (s_dg σ)])) := by rw [hk3, h_cn _ _ (by simp)]; exact f2_0_0_0
      have f3_7_f_0 : k3 (7, f, 0) = some (.inr (0, [.int (s_pk σ f), .ref (ad1 (8, f, 0)), .int (s_rn σ f + 1)])) := by rw [hk3]; exact h_cs _ _ _
      have f3_8_f_0 : k3 (8, f, 0) = some (.inl (G.2 5, 10, x_refs (va_up (x_rws ad σ f) (nI j).toNatClampNeg (some (ad1 (9, j, f)))))) := by rw [hk3, h_cn _ _ (by simp)]; exact f2_8_f_0
      have f3_9_q_f : k3 (9, q, f) = some (.inr (1, [.ref (ad1 (10, q, f)), .int (nI b.length)])) := by rw [hk3, h_cn _ _ (by simp)]; exact f2_9_q_f
      have f3_10_q_f : k3 (10, q, f) = some (.inl (G.2 0, 16, .inl g)) := by rw [hk3, h_cn _ _ (by simp)]; exact f2_10_q_f
      have f3_9_j_f : k3 (9, j, f) = some (.inr (1, [.ref (ad1 (10, j, f)), .int (nI b.length)])) := by rw [hk3, h_cn _ _ (by simp)]; exact f2_9_j_f
      refine lv_iconst (v := 1) X.1 X.2.1 dX3_fillItem_62 (by decide) ?_
      have cpt : ∀ a g, s_cp (s_setRn (s_setCp σ j f (some b)) f (s_rn σ f + 1)) a g = s_c2 (s_cp σ) j f (some b) a g := fun _ _ => rfl
      have hO : ∀ t : h_T, t ≠ (7, f, 0) → t ≠ (8, f, 0) → t ≠ (9, j, f) → t ≠ (10, j, f) → k3 t = k t ∧ ad1 t = ad t := fun t h7 h8 h9 h10 => ⟨by rw [hk3, h_cn _ _ h7, hk2, h_cn _ _ h8, (ho1 t h9 h10).1, hk0, h_cn _ _ h10, h_cn _ _ h9], (ho1 t h9 h10).2⟩
      have ha : ∀ t : h_T, t ≠ (9, j, f) → t ≠ (10, j, f) → ad1 t = ad t := fun t h9 h10 => (ho1 t h9 h10).2
      have hrw : x_row G ad1 k3 (9, j, f) (10, j, f) b := hr1.congr (by rw [hk3, h_cn _ _ (by simp), hk2, h_cn _ _ (by simp)]) (by rw [hk3, h_cn _ _ (by simp), hk2, h_cn _ _ (by simp)]) rfl
      exact h_zretW (v := 1) X Y (by decide) hw ⟨rfl, hR.file (τ := s_setRn (s_setCp σ j f (some b)) f (s_rn σ f + 1)) (f := f) rfl rfl rfl (fun g hg => pk_un hg) rfl (fun a g hg => by rw [cpt, s_c2_n (fun h => hg h.2)]) hf (fun a ha2 => by
        rw [cpt, s_c2_n (fun h => by have := h.1; omega)]
        exact hok.2.2.2.2.2.1 a f (Or.inl ha2)) (fun a l hl => by
        rw [cpt] at hl
        by_cases haj : a = j
        · rw [haj, s_c2_s] at hl; cases hl; exact hbl
        · rw [s_c2_n (fun h => haj h.1)] at hl; exact hok.2.2.2.2.2.2.1 a f l hl) ⟨by
        rw [f3_7_f_0]
        show some (Sum.inr (0, [Value.int (s_pk σ f), Value.ref (ad1 (8, f, 0)), Value.int (s_rn σ f + 1)])) = some (Sum.inr (0, [Value.int (s_pk σ f), Value.ref (ad1 (8, f, 0)), Value.int (upd (s_rn σ) f (s_rn σ f + 1) f)]))
        rw [pk_us], by
        rw [f3_8_f_0, nI_clamp (by omega)]
        have : x_rws ad1 (s_setRn (s_setCp σ j f (some b)) f (s_rn σ f + 1)) f = va_up (x_rws ad σ f) j (some (ad1 (9, j, f))) := by
          funext a
          unfold x_rws
          rw [cpt]
          by_cases haj : a = j
          · rw [haj, s_c2_s, va_up_self]; rfl
          · rw [s_c2_n (fun h => haj h.1), va_up_ne _ _ haj, ha _ (by simp [haj]) (by simp)]
        rw [this]⟩ (fun a l hl => by
        rw [cpt] at hl
        by_cases haj : a = j
        · rw [haj, s_c2_s] at hl; cases hl; rw [haj]; exact hrw
        · rw [s_c2_n (fun h => haj h.1)] at hl
          have p9 := hO (9, a, f) (by simp) (by simp) (by simp [haj]) (by simp)
          have p10 := hO (10, a, f) (by simp) (by simp) (by simp) (by simp [haj])
          exact (hcp a f l hl).congr p9.1 p10.1 p10.2) (ha _ (by simp) (by simp)) (fun t _ h7 h8 h9 => hO t h7 h8 (h9 j).1 (h9 j).2), fun t ht => hO t (t20 ht (Nat.le_of_ble_eq_true rfl)) (t20 ht (Nat.le_of_ble_eq_true rfl)) (t20 ht (Nat.le_of_ble_eq_true rfl)) (t20 ht (Nat.le_of_ble_eq_true rfl)), ha _ (by simp) (by simp)⟩ (Nat.le_of_ble_eq_true rfl) (Nat.le_of_ble_eq_true rfl) dX3_fillItem_63
    · exact absurd (nI_lt (Nat.lt_of_not_le hfew) (by omega)) c25
set_option maxHeartbeats 4000000 in
set_option maxRecDepth 100000 in
/-- fill -/
theorem c_X3_fill (l : Launch) (G : h_G) {ad : h_T → Nat} {k : h_C} {σ : S_t} (hR : RX G ad k σ) (x : Int32) : h_Wr l yX3_fill cX3_fill 6 (some .int) 6 137 80 720 G ad k [.ref (ad (0, 0, 0)), .int x] (XPost G ad k (some (.int (sp_fill σ x).1)) (sp_fill σ x).2) := by
  refine h_wr (by decide +kernel) (Nat.le_of_ble_eq_true rfl) ?_
  intro p e s m args below meth c X Y hw ls hl
  have hl : lv_has ls 6 [(0, .ref (ad (0, 0, 0))), (1, .int x)] := hl
  have hok := hR.ok
  obtain ⟨hx, hs, hst, hi, hit, hcp, hcol, hmx, hask, -⟩ := id hR
  have hx : k (0, 0, 0) = some (.inr (3, [.int (nI (s_cop σ)), .ref (ad (1, 0, 0)), .int (nI (s_nS σ)), .ref (ad (2, 0, 0)), .int (nI (s_nF σ)), .ref (ad (3, 0, 0)), .ref (ad (4, 0, 0)), .ref (ad (5, 0, 0)), .ref (ad (5, 1, 0)), .ref (ad (5, 2, 0)), .int (nI (s_as σ).length), .int (s_dg σ)])) := hx
  have hnS : s_nS σ ≤ 10 := hok.2.1
  have hnF : s_nF σ ≤ 40 := hok.2.2.1
  unfold sp_fill
  rcases hc : ix x (s_nS σ) with _ | j
  · refine lv_aload_n X.1 X.2.1 dX3_fill_0 rfl (lv_at hl 0 rfl) ?_
    refine lv_iload_n X.1 X.2.1 dX3_fill_1 rfl (lv_at hl 1 rfl) ?_
    refine h_callRV (t := (0, 0, 0)) (As := [.int x]) (rest := []) X hw cs_X3_91 (c_X3_storeOf l G hR x) hx rfl rfl hl.1 rfl (Nat.le_of_ble_eq_true rfl) ⟨by decide, by decide⟩ ⟨Nat.zero_le _, Nat.zero_le _⟩ dX3_fill_2 ?_
    refine h_tv (b := .null) (by rw [hc]; rfl) ?_
    refine lv_astore_nN (lv' := [(2, .null), (0, .ref (ad (0, 0, 0))), (1, .int x)]) X.1 X.2.1 dX3_fill_5 rfl hl (by decide) rfl (fun ls hl => ?_)
    refine lv_aload_nN X.1 X.2.1 dX3_fill_6 rfl (lv_at hl 0 rfl) ?_
    refine lv_ifnonnullN X.1 X.2.1 dX3_fill_7 ?_
    refine lv_iconst (v := (-1)) X.1 X.2.1 dX3_fill_10 (by decide) ?_
    exact h_iretW (v := -1) X Y hw ⟨rfl, hR, fun _ _ => ⟨rfl, rfl⟩, rfl⟩ (Nat.zero_le _) (Nat.zero_le _) dX3_fill_11
  · have hj : j < s_nS σ := ix_lt hc
    have ex : x = nI j := ix_eq hc
    have hsj := hst j hj
    unfold x_st at hsj
    show W p l e _ s m args below meth c _ _ _ _ (MQ below (h_Qw G ad k s.heap.size (XPost G ad k (some (.int ((if s_si σ j = true then (-3, σ) else (nI (sp_fillN σ j (s_nF σ)).1, (sp_fillN σ j (s_nF σ)).2)) : Int32 × S_t).1)) ((if s_si σ j = true then (-3, σ) else (nI (sp_fillN σ j (s_nF σ)).1, (sp_fillN σ j (s_nF σ)).2)) : Int32 × S_t).2)) args s 80 720 (h_A ad k s.heap.size)) _
    rcases hsi : s_si σ j with _ | _
    rotate_left
    · rw [if_pos rfl]
      refine lv_aload_n X.1 X.2.1 dX3_fill_0 rfl (lv_at hl 0 rfl) ?_
      refine lv_iload_n X.1 X.2.1 dX3_fill_1 rfl (lv_at hl 1 rfl) ?_
      refine h_callRV (t := (0, 0, 0)) (As := [.int x]) (rest := []) X hw cs_X3_91 (c_X3_storeOf l G hR x) hx rfl rfl hl.1 rfl (Nat.le_of_ble_eq_true rfl) ⟨by decide, by decide⟩ ⟨Nat.zero_le _, Nat.zero_le _⟩ dX3_fill_2 ?_
      refine h_tv (b := .ref (ad (6, j, 0))) (by rw [hc]; rfl) ?_
      refine lv_astore_n (lv' := [(2, .ref (ad (6, j, 0))), (0, .ref (ad (0, 0, 0))), (1, .int x)]) X.1 X.2.1 dX3_fill_5 rfl hl (by decide) rfl (fun ls hl => ?_)
      refine lv_aload_n X.1 X.2.1 dX3_fill_6 rfl (lv_at hl 0 rfl) ?_
      refine lv_ifnonnull (tgt := 12) X.1 X.2.1 dX3_fill_7 (by decide) ?_
      refine lv_aload_n X.1 X.2.1 dX3_fill_12 rfl (lv_at hl 0 rfl) ?_
      refine gf_X3_95 X hw hsj rfl dX3_fill_13 ?_
      refine lv_if_ne (tgt := 22) X.1 X.2.1 dX3_fill_16 (by decide) (fun c16 => ?_) (fun c16 => ?_)
      · exact absurd (by rw [hsi]; rfl) c16
      · refine lv_bipush (v := (-3)) X.1 X.2.1 dX3_fill_19 (by decide) ?_
        exact h_iretW (v := -3) X Y hw ⟨rfl, hR, fun _ _ => ⟨rfl, rfl⟩, rfl⟩ (Nat.zero_le _) (Nat.zero_le _) dX3_fill_21
    · rw [if_neg (fun q => by cases q)]
      have loop : ∀ (n i : Nat), i ≤ s_nF σ → s_nF σ + 1 ≤ i + n → ∀ (aa : h_T → Nat) (kk : h_C) (H : Heap) (locs : List Loc), RX G aa kk (sp_fillN σ j i).2 → (∀ t : h_T, 20 ≤ t.1 → kk t = k t ∧ aa t = ad t) → aa (0, 0, 0) = ad (0, 0, 0) → h_W G.1 h_cl (h_A ad k s.heap.size) s.heap aa kk H locs → ∀ (ls : Array Slot), lv_has ls 6 [(0, .ref (aa (0, 0, 0))), (1, .int (nI j)), (3, .int (nI ((sp_fillN σ j i).1))), (4, .int (nI i))] → W p l e (h_rm 6 137 80 720) s m args below meth c H locs (2 * i) (18 * i) (MQ below (h_Qw G ad k s.heap.size (XPost G ad k (some (.int (nI (sp_fillN σ j (s_nF σ)).1, (sp_fillN σ j (s_nF σ)).2).1)) (nI (sp_fillN σ j (s_nF σ)).1, (sp_fillN σ j (s_nF σ)).2).2)) args s 80 720 (h_A ad k s.heap.size)) (F0 m 27 ls []) := by
        intro n
        induction n with
        | zero =>
          intro i h1 h2
          exact absurd h2 (by omega)
        | succ n ih =>
          intro i hii hni aa kk H locs hRk h20 h00 hw ls hl
          obtain ⟨τ, hτ⟩ : ∃ zz, zz = (sp_fillN σ j i).2 := ⟨_, rfl⟩
          rw [← hτ] at hRk
          obtain ⟨e1, e2, e3⟩ := fillNN σ j i
          rw [← hτ] at e1 e2 e3
          have eF : s_nF τ = s_nF σ := by unfold s_nF; rw [e1]
          have eS : s_nS τ = s_nS σ := by unfold s_nS; rw [e1]
          have hle := fillN_le σ j i
          have gx : kk (0, 0, 0) = some (.inr (3, [.int (nI (s_cop τ)), .ref (aa (1, 0, 0)), .int (nI (s_nS τ)), .ref (aa (2, 0, 0)), .int (nI (s_nF τ)), .ref (aa (3, 0, 0)), .ref (aa (4, 0, 0)), .ref (aa (5, 0, 0)), .ref (aa (5, 1, 0)), .ref (aa (5, 2, 0)), .int (nI (s_as τ).length), .int (s_dg τ)])) := hRk.1
          obtain ⟨-, -, -, gi0, git, -, -, -, -, gok⟩ := id hRk
          refine lv_iload X.1 X.2.1 dX3_fill_27 (lv_at hl 3 rfl) ?_
          refine lv_aload_n X.1 X.2.1 dX3_fill_29 rfl (lv_at hl 0 rfl) ?_
          refine gf_X3_25 X hw gx rfl dX3_fill_30 ?_
          refine lv_icmp_ge (tgt := 69) X.1 X.2.1 dX3_fill_33 (by decide) (fun c33 => ?_) (fun c33 => ?_)
          · refine lv_iload_n X.1 X.2.1 dX3_fill_69 rfl (lv_at hl 2 rfl) ?_
            have hiE : s_nF σ = i := Nat.le_antisymm (by rw [← eF]; exact Nat.le_of_not_lt (fun q => absurd c33 (nI_ge q (by omega)))) hii
            rw [hiE]
            exact h_iretW X Y hw ⟨rfl, by rw [← hτ]; exact hRk, h20, h00⟩ (by omega) (by omega) dX3_fill_70
          · have hib : i < s_nF τ := Nat.lt_of_not_le (fun q => c33 (nI_le q (by omega)))
            have gi := (git i hib).1
            rcases hfl : (s_fillF τ j i).1 with _ | _
            · refine lv_aload_n X.1 X.2.1 dX3_fill_36 rfl (lv_at hl 0 rfl) ?_
              refine gf_X3_21 X hw gx rfl dX3_fill_37 ?_
              refine lv_iload X.1 X.2.1 dX3_fill_40 (lv_at hl 3 rfl) ?_
              refine h_aald X hw 4 rfl gi0 (vp_in_nI (by omega) (by decide)) dX3_fill_42 ?_
              refine h_tv (b := .ref (aa (7, i, 0))) (by rw [nI_clamp (by omega)]; simp only [x_ite, if_pos hib, va_rf]) ?_
              refine lv_astore (lv' := [(5, .ref (aa (7, i, 0))), (0, .ref (aa (0, 0, 0))), (1, .int (nI j)), (3, .int (nI ((sp_fillN σ j i).1))), (4, .int (nI i))]) X.1 X.2.1 dX3_fill_43 hl (by decide) rfl (fun ls hl => ?_)
              refine lv_aload X.1 X.2.1 dX3_fill_45 (lv_at hl 0 rfl) ?_
              refine lv_ifnull X.1 X.2.1 dX3_fill_47 ?_
              refine lv_aload_n X.1 X.2.1 dX3_fill_50 rfl (lv_at hl 1 rfl) ?_
              refine lv_aload X.1 X.2.1 dX3_fill_51 (lv_at hl 0 rfl) ?_
              refine lv_iload_n X.1 X.2.1 dX3_fill_53 rfl (lv_at hl 2 rfl) ?_
              refine h_callWV (t := (0, 0, 0)) (As := [.ref (aa (7, i, 0)), .int (nI j)]) (rest := []) X hw cs_X3_149 (c_X3_fillItem l G hRk hib (by omega)) gx rfl rfl hl.1 rfl (Nat.le_of_ble_eq_true rfl) ⟨by decide, by decide⟩ ⟨by show 2 * i + 2 ≤ 80; omega, by show 18 * i + 18 ≤ 720; omega⟩ dX3_fill_54 (fun r9 ad1 k1 H locs hp9 hw => ?_)
              obtain ⟨rfl, hRn, hfr, ha0⟩ := hp9
              refine W.eq (g2 := F0 m 57 ls [.int (bI (s_fillF τ j i).1)]) rfl ?_
              have eb1_0 : aa (0, 0, 0) = ad1 (0, 0, 0) := (ha0).symm
              simp only [eb1_0] at hl
              refine h_ti (b := 0) (by rw [hfl]; rfl) ?_
              refine lv_if_eq (tgt := 63) X.1 X.2.1 dX3_fill_57 (by decide) (fun c57 => ?_) (fun c57 => ?_)
              · refine lv_iinc (v := nI (i + 1)) (lv' := [(4, .int (nI (i + 1))), (5, .ref (aa (7, i, 0))), (0, .ref (ad1 (0, 0, 0))), (1, .int (nI j)), (3, .int (nI ((sp_fillN σ j i).1)))]) X.1 X.2.1 dX3_fill_63 hl (k := 4) rfl (nI_1 _) (by decide) rfl (fun ls hl => ?_)
                refine lv_goto (tgt := 27) X.1 X.2.1 dX3_fill_66 (by decide) ?_
                have es : sp_fillN σ j (i + 1) = ((sp_fillN σ j i).1 + (if (s_fillF (sp_fillN σ j i).2 j i).1 then 1 else 0), (s_fillF (sp_fillN σ j i).2 j i).2) := rfl
                rw [← hτ, hfl] at es
                refine W.widen (k := 2 * (i + 1)) (n := 18 * (i + 1)) (by omega) (by omega) ?_
                exact ih (i + 1) (by omega) (by omega) ad1 k1 _ _ (by rw [es]; exact hRn) (fun t ht => ⟨by rw [(hfr t ht).1, (h20 t ht).1], by rw [(hfr t ht).2, (h20 t ht).2]⟩) (ha0.trans h00) hw ls (by
                  rw [es]
                  exact lv_sub hl [2, 3, 4, 0] rfl)
              · exact absurd (by decide) c57
            · refine lv_aload_n X.1 X.2.1 dX3_fill_36 rfl (lv_at hl 0 rfl) ?_
              refine gf_X3_21 X hw gx rfl dX3_fill_37 ?_
              refine lv_iload X.1 X.2.1 dX3_fill_40 (lv_at hl 3 rfl) ?_
              refine h_aald X hw 4 rfl gi0 (vp_in_nI (by omega) (by decide)) dX3_fill_42 ?_
              refine h_tv (b := .ref (aa (7, i, 0))) (by rw [nI_clamp (by omega)]; simp only [x_ite, if_pos hib, va_rf]) ?_
              refine lv_astore (lv' := [(5, .ref (aa (7, i, 0))), (0, .ref (aa (0, 0, 0))), (1, .int (nI j)), (3, .int (nI ((sp_fillN σ j i).1))), (4, .int (nI i))]) X.1 X.2.1 dX3_fill_43 hl (by decide) rfl (fun ls hl => ?_)
              refine lv_aload X.1 X.2.1 dX3_fill_45 (lv_at hl 0 rfl) ?_
              refine lv_ifnull X.1 X.2.1 dX3_fill_47 ?_
              refine lv_aload_n X.1 X.2.1 dX3_fill_50 rfl (lv_at hl 1 rfl) ?_
              refine lv_aload X.1 X.2.1 dX3_fill_51 (lv_at hl 0 rfl) ?_
              refine lv_iload_n X.1 X.2.1 dX3_fill_53 rfl (lv_at hl 2 rfl) ?_
              refine h_callWV (t := (0, 0, 0)) (As := [.ref (aa (7, i, 0)), .int (nI j)]) (rest := []) X hw cs_X3_149 (c_X3_fillItem l G hRk hib (by omega)) gx rfl rfl hl.1 rfl (Nat.le_of_ble_eq_true rfl) ⟨by decide, by decide⟩ ⟨by show 2 * i + 2 ≤ 80; omega, by show 18 * i + 18 ≤ 720; omega⟩ dX3_fill_54 (fun r9 ad1 k1 H locs hp9 hw => ?_)
              obtain ⟨rfl, hRn, hfr, ha0⟩ := hp9
              refine W.eq (g2 := F0 m 57 ls [.int (bI (s_fillF τ j i).1)]) rfl ?_
              have eb1_0 : aa (0, 0, 0) = ad1 (0, 0, 0) := (ha0).symm
              simp only [eb1_0] at hl
              refine h_ti (b := 1) (by rw [hfl]; rfl) ?_
              refine lv_if_eq (tgt := 63) X.1 X.2.1 dX3_fill_57 (by decide) (fun c57 => ?_) (fun c57 => ?_)
              · exact absurd c57 (by decide)
              · refine lv_iinc (v := nI (((sp_fillN σ j i).1) + 1)) (lv' := [(3, .int (nI (((sp_fillN σ j i).1) + 1))), (5, .ref (aa (7, i, 0))), (0, .ref (ad1 (0, 0, 0))), (1, .int (nI j)), (4, .int (nI i))]) X.1 X.2.1 dX3_fill_60 hl (k := 3) rfl (nI_1 _) (by decide) rfl (fun ls hl => ?_)
                refine lv_iinc (v := nI (i + 1)) (lv' := [(4, .int (nI (i + 1))), (3, .int (nI (((sp_fillN σ j i).1) + 1))), (5, .ref (aa (7, i, 0))), (0, .ref (ad1 (0, 0, 0))), (1, .int (nI j))]) X.1 X.2.1 dX3_fill_63 hl (k := 4) rfl (nI_1 _) (by decide) rfl (fun ls hl => ?_)
                refine lv_goto (tgt := 27) X.1 X.2.1 dX3_fill_66 (by decide) ?_
                have es : sp_fillN σ j (i + 1) = ((sp_fillN σ j i).1 + (if (s_fillF (sp_fillN σ j i).2 j i).1 then 1 else 0), (s_fillF (sp_fillN σ j i).2 j i).2) := rfl
                rw [← hτ, hfl] at es
                refine W.widen (k := 2 * (i + 1)) (n := 18 * (i + 1)) (by omega) (by omega) ?_
                exact ih (i + 1) (by omega) (by omega) ad1 k1 _ _ (by rw [es]; exact hRn) (fun t ht => ⟨by rw [(hfr t ht).1, (h20 t ht).1], by rw [(hfr t ht).2, (h20 t ht).2]⟩) (ha0.trans h00) hw ls (by
                  rw [es]
                  exact lv_sub hl [3, 4, 1, 0] rfl)
      subst ex
      refine lv_aload_n X.1 X.2.1 dX3_fill_0 rfl (lv_at hl 0 rfl) ?_
      refine lv_iload_n X.1 X.2.1 dX3_fill_1 rfl (lv_at hl 1 rfl) ?_
      refine h_callRV (t := (0, 0, 0)) (As := [.int (nI j)]) (rest := []) X hw cs_X3_91 (c_X3_storeOf l G hR (nI j)) hx rfl rfl hl.1 rfl (Nat.le_of_ble_eq_true rfl) ⟨by decide, by decide⟩ ⟨Nat.zero_le _, Nat.zero_le _⟩ dX3_fill_2 ?_
      refine h_tv (b := .ref (ad (6, j, 0))) (by rw [hc]; rfl) ?_
      refine lv_astore_n (lv' := [(2, .ref (ad (6, j, 0))), (0, .ref (ad (0, 0, 0))), (1, .int (nI j))]) X.1 X.2.1 dX3_fill_5 rfl hl (by decide) rfl (fun ls hl => ?_)
      refine lv_aload_n X.1 X.2.1 dX3_fill_6 rfl (lv_at hl 0 rfl) ?_
      refine lv_ifnonnull (tgt := 12) X.1 X.2.1 dX3_fill_7 (by decide) ?_
      refine lv_aload_n X.1 X.2.1 dX3_fill_12 rfl (lv_at hl 0 rfl) ?_
      refine gf_X3_95 X hw hsj rfl dX3_fill_13 ?_
      refine lv_if_ne (tgt := 22) X.1 X.2.1 dX3_fill_16 (by decide) (fun c16 => ?_) (fun c16 => ?_)
      · refine lv_iconst (v := 0) X.1 X.2.1 dX3_fill_22 (by decide) ?_
        refine lv_istore_n (lv' := [(3, .int 0), (2, .ref (ad (6, j, 0))), (0, .ref (ad (0, 0, 0))), (1, .int (nI j))]) X.1 X.2.1 dX3_fill_23 rfl hl (by decide) rfl (fun ls hl => ?_)
        refine lv_iconst (v := 0) X.1 X.2.1 dX3_fill_24 (by decide) ?_
        refine lv_istore (lv' := [(4, .int 0), (3, .int 0), (2, .ref (ad (6, j, 0))), (0, .ref (ad (0, 0, 0))), (1, .int (nI j))]) X.1 X.2.1 dX3_fill_25 hl (by decide) rfl (fun ls hl => ?_)
        exact loop (s_nF σ + 1) 0 (by omega) (by omega) ad k _ _ hR (fun _ _ => ⟨rfl, rfl⟩) rfl hw ls (lv_sub hl [3, 4, 1, 0] rfl)
      · exact absurd c16 (by rw [hsi]; decide)
