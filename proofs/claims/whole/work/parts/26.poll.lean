theorem nI_min3 {n : Nat} (h : n ≤ 10) : (if (3 : Int32) < nI n then (3 : Int32) else nI n) = nI (min n 3) := by
  rcases (show n = 0 ∨ n = 1 ∨ n = 2 ∨ n = 3 ∨ n = 4 ∨ n = 5 ∨ n = 6 ∨ n = 7 ∨ n = 8 ∨ n = 9 ∨ n = 10 by omega) with rfl | rfl | rfl | rfl | rfl | rfl | rfl | rfl | rfl | rfl | rfl <;> decide
set_option maxHeartbeats 4000000 in
set_option maxRecDepth 100000 in
/-- ask -/
theorem c_X3_ask (l : Launch) (G : h_G) {ad : h_T → Nat} {k : h_C} {σ : S_t} (hR : RX G ad k σ) {f : Nat} (hf : f < s_nF σ) {c0 : Nat} (hc0 : c0 ≤ 10) {m0 : Nat → Nat} {gg : Nat → Int32} (hgg : k (4, 0, 0) = some (.inl (G.2 0, 10, .inl gg))) (hgc : ∀ c, c < c0 → gg c = nI (m0 c)) (hin : ∀ c, c < c0 → m0 c < s_nS σ ∧ s_isC σ f (m0 c) = true) (hroom : (s_as σ).length + c0 ≤ 120) : h_Wr l yX3_ask cX3_ask 6 none 3 65 0 0 G ad k [.ref (ad (0, 0, 0)), .int (nI f), .ref (ad (7, f, 0)), .int (nI c0)] (fun r ad' k' => r = none ∧ ad' = ad ∧ RX G ad k' (s_setAs σ (s_as σ ++ p_ask σ f m0 c0)) ∧ ∀ t : h_T, t ≠ (0, 0, 0) → t.1 ≠ 5 → k' t = k t) := by
  refine h_wr (by decide +kernel) (Nat.le_of_ble_eq_true rfl) ?_
  intro p e s m args below meth c X Y hw ls hl
  have hl : lv_has ls 6 [(0, .ref (ad (0, 0, 0))), (1, .int (nI f)), (2, .ref (ad (7, f, 0))), (3, .int (nI c0))] := hl
  have hok := hR.ok
  obtain ⟨hx, hs, hst, hi, hit, hcp, hcol, hmx, hask, -⟩ := id hR
  have hx : k (0, 0, 0) = some (.inr (3, [.int (nI (s_cop σ)), .ref (ad (1, 0, 0)), .int (nI (s_nS σ)), .ref (ad (2, 0, 0)), .int (nI (s_nF σ)), .ref (ad (3, 0, 0)), .ref (ad (4, 0, 0)), .ref (ad (5, 0, 0)), .ref (ad (5, 1, 0)), .ref (ad (5, 2, 0)), .int (nI (s_as σ).length), .int (s_dg σ)])) := hx
  have hnS : s_nS σ ≤ 10 := hok.2.1
  have hnF : s_nF σ ≤ 40 := hok.2.2.1
  have loop : ∀ (n i : Nat), i ≤ c0 → c0 + 1 ≤ i + n → ∀ (kk : h_C) (H : Heap) (locs : List Loc), RX G ad kk (s_setAs σ (s_as σ ++ p_ask σ f m0 i)) → (∀ t : h_T, t ≠ (0, 0, 0) → t.1 ≠ 5 → kk t = k t) → h_W G.1 h_cl (h_A ad k s.heap.size) s.heap ad kk H locs → ∀ (ls : Array Slot), lv_has ls 6 [(0, .ref (ad (0, 0, 0))), (1, .int (nI f)), (2, .ref (ad (7, f, 0))), (3, .int (nI c0)), (4, .int (nI i))] → W p l e (h_rm 3 65 0 0) s m args below meth c H locs 0 0 (MQ below (h_Qw G ad k s.heap.size (fun r ad' k' => r = none ∧ ad' = ad ∧ RX G ad k' (s_setAs σ (s_as σ ++ p_ask σ f m0 c0)) ∧ ∀ t : h_T, t ≠ (0, 0, 0) → t.1 ≠ 5 → k' t = k t)) args s 0 0 (h_A ad k s.heap.size)) (F0 m 3 ls []) := by
    intro n
    induction n with
    | zero =>
      intro i h1 h2
      exact absurd h2 (by omega)
    | succ n ih =>
      intro i hii hni kk H locs hRk ho hw ls hl
      have hln : (s_as σ ++ p_ask σ f m0 i).length = (s_as σ).length + i := by rw [List.length_append, ask_len]
      have gx : kk (0, 0, 0) = some (.inr (3, [.int (nI (s_cop σ)), .ref (ad (1, 0, 0)), .int (nI (s_nS σ)), .ref (ad (2, 0, 0)), .int (nI (s_nF σ)), .ref (ad (3, 0, 0)), .ref (ad (4, 0, 0)), .ref (ad (5, 0, 0)), .ref (ad (5, 1, 0)), .ref (ad (5, 2, 0)), .int (nI ((s_as σ).length + i)), .int (s_dg σ)])) := by rw [← hln]; exact hRk.1
      obtain ⟨-, -, -, -, -, gcp, -, -, ⟨a0, a1, a2, b0, b1, b2, b3⟩, gok⟩ := id hRk
      have gm : kk (4, 0, 0) = some (.inl (G.2 0, 10, .inl gg)) := (ho _ (by simp) (by simp)).trans hgg
      refine lv_iload X.1 X.2.1 dX3_ask_3 (lv_at hl 4 rfl) ?_
      refine lv_iload_n X.1 X.2.1 dX3_ask_5 rfl (lv_at hl 3 rfl) ?_
      refine lv_icmp_ge (tgt := 96) X.1 X.2.1 dX3_ask_6 (by decide) (fun c6 => ?_) (fun c6 => ?_)
      · obtain rfl : i = c0 := Nat.le_antisymm hii (Nat.le_of_not_lt (fun q => absurd c6 (nI_ge (b := c0) q (by omega))))
        exact h_vretW X Y hw ⟨rfl, rfl, hRk, ho⟩ (Nat.zero_le _) (Nat.zero_le _) dX3_ask_96
      · have hib : i < c0 := Nat.lt_of_not_le (fun q => c6 (nI_le q (by omega)))
        obtain ⟨hm1, hm2⟩ := hin i hib
        obtain ⟨b, hc⟩ : ∃ b, s_cnt σ (m0 i) f = some b := Option.isSome_iff_exists.mp hm2
        have hcb := (s_cnt_cp hc).1
        have hrow := gcp (m0 i) f b hcb
        have hrow1 := hrow.1
        refine lv_aload_n X.1 X.2.1 dX3_ask_9 rfl (lv_at hl 0 rfl) ?_
        refine lv_aload_n X.1 X.2.1 dX3_ask_10 rfl (lv_at hl 2 rfl) ?_
        refine lv_aload_n X.1 X.2.1 dX3_ask_11 rfl (lv_at hl 0 rfl) ?_
        refine gf_X3_35 X hw gx rfl dX3_ask_12 ?_
        refine lv_iload X.1 X.2.1 dX3_ask_15 (lv_at hl 4 rfl) ?_
        refine h_iald X hw gm (vp_in_nI (by omega) (by decide)) dX3_ask_17 ?_
        refine h_tv (b := .int (nI (m0 i))) (by rw [nI_clamp (by omega), hgc _ hib]) ?_
        refine h_callRV (t := (0, 0, 0)) (As := [.ref (ad (7, f, 0)), .int (nI (m0 i))]) (rest := []) X hw cs_X3_202 (c_X3_countingRow l G hRk hf hm1) gx rfl rfl hl.1 rfl (Nat.le_of_ble_eq_true rfl) ⟨by decide, by decide⟩ ⟨Nat.zero_le _, Nat.zero_le _⟩ dX3_ask_18 ?_
        refine h_tv (b := .ref (ad (9, m0 i, f))) (by show va_rf ((s_cnt σ (m0 i) f).map _) = _; rw [hc]; rfl) ?_
        refine lv_astore (lv' := [(5, .ref (ad (9, m0 i, f))), (0, .ref (ad (0, 0, 0))), (1, .int (nI f)), (2, .ref (ad (7, f, 0))), (3, .int (nI c0)), (4, .int (nI i))]) X.1 X.2.1 dX3_ask_21 hl (by decide) rfl (fun ls hl => ?_)
        refine lv_aload X.1 X.2.1 dX3_ask_23 (lv_at hl 0 rfl) ?_
        refine lv_ifnull X.1 X.2.1 dX3_ask_25 ?_
        refine lv_aload_n X.1 X.2.1 dX3_ask_28 rfl (lv_at hl 1 rfl) ?_
        refine gf_X3_48 X hw gx rfl dX3_ask_29 ?_
        refine lv_aload_n X.1 X.2.1 dX3_ask_32 rfl (lv_at hl 1 rfl) ?_
        refine gf_X3_39 X hw gx rfl dX3_ask_33 ?_
        refine h_alen X hw 0 rfl b0 (v := 120) rfl dX3_ask_36 ?_
        refine lv_icmp_ge (tgt := 90) X.1 X.2.1 dX3_ask_37 (by decide) (fun c37 => ?_) (fun c37 => ?_)
        · exact absurd c37 (nI_ge (b := 120) (by omega) (by omega))
        · refine lv_aload_n X.1 X.2.1 dX3_ask_40 rfl (lv_at hl 1 rfl) ?_
          refine gf_X3_39 X hw gx rfl dX3_ask_41 ?_
          refine lv_aload_n X.1 X.2.1 dX3_ask_44 rfl (lv_at hl 1 rfl) ?_
          refine gf_X3_48 X hw gx rfl dX3_ask_45 ?_
          refine lv_iload_n X.1 X.2.1 dX3_ask_48 rfl (lv_at hl 2 rfl) ?_
          refine h_iast X hw b0 (vp_in_nI (by omega) (by decide)) dX3_ask_49 (fun H locs hw => ?_)
          obtain ⟨k1, hk1⟩ : ∃ zz, zz = h_cu kk (5, 0, 0) (some (.inl (G.2 0, 120, .inl (upd a0 (nI ((s_as σ).length + i)).toNatClampNeg (nI f))))) := ⟨_, rfl⟩
          replace hw := h_W.ren hw hk1
          have f1_0_0_0 : k1 (0, 0, 0) = some (.inr (3, [.int (nI (s_cop σ)), .ref (ad (1, 0, 0)), .int (nI (s_nS σ)), .ref (ad (2, 0, 0)), .int (nI (s_nF σ)), .ref (ad (3, 0, 0)), .ref (ad (4, 0, 0)), .ref (ad (5, 0, 0)), .ref (ad (5, 1, 0)), .ref (ad (5, 2, 0)), .int (nI ((s_as σ).length + i)), .int (s_dg σ)])) := by rw [hk1, h_cn _ _ (by simp)]; exact gx
          have f1_4_0_0 : k1 (4, 0, 0) = some (.inl (G.2 0, 10, .inl gg)) := by rw [hk1, h_cn _ _ (by simp)]; exact gm
          have f1_5_0_0 : k1 (5, 0, 0) = some (.inl (G.2 0, 120, .inl (upd a0 (nI ((s_as σ).length + i)).toNatClampNeg (nI f)))) := by rw [hk1]; exact h_cs _ _ _
          have f1_5_1_0 : k1 (5, 1, 0) = some (.inl (G.2 0, 120, .inl a1)) := by rw [hk1, h_cn _ _ (by simp)]; exact b1
          have f1_5_2_0 : k1 (5, 2, 0) = some (.inl (G.2 0, 120, .inl a2)) := by rw [hk1, h_cn _ _ (by simp)]; exact b2
          have f1_9_m0_i_f : k1 (9, m0 i, f) = some (.inr (1, [.ref (ad (10, m0 i, f)), .int (nI b.length)])) := by rw [hk1, h_cn _ _ (by simp)]; exact hrow1
          refine lv_aload_n X.1 X.2.1 dX3_ask_50 rfl (lv_at hl 1 rfl) ?_
          refine gf_X3_42 X hw f1_0_0_0 rfl dX3_ask_51 ?_
          refine lv_aload_n X.1 X.2.1 dX3_ask_54 rfl (lv_at hl 1 rfl) ?_
          refine gf_X3_48 X hw f1_0_0_0 rfl dX3_ask_55 ?_
          refine lv_aload_n X.1 X.2.1 dX3_ask_58 rfl (lv_at hl 1 rfl) ?_
          refine gf_X3_35 X hw f1_0_0_0 rfl dX3_ask_59 ?_
          refine lv_iload X.1 X.2.1 dX3_ask_62 (lv_at hl 5 rfl) ?_
          refine h_iald X hw f1_4_0_0 (vp_in_nI (by omega) (by decide)) dX3_ask_64 ?_
          refine h_tv (b := .int (nI (m0 i))) (by rw [nI_clamp (by omega), hgc _ hib]) ?_
          refine h_iast X hw f1_5_1_0 (vp_in_nI (by omega) (by decide)) dX3_ask_65 (fun H locs hw => ?_)
          obtain ⟨k2, hk2⟩ : ∃ zz, zz = h_cu k1 (5, 1, 0) (some (.inl (G.2 0, 120, .inl (upd a1 (nI ((s_as σ).length + i)).toNatClampNeg (nI (m0 i)))))) := ⟨_, rfl⟩
          replace hw := h_W.ren hw hk2
          have f2_0_0_0 : k2 (0, 0, 0) = some (.inr (3, [.int (nI (s_cop σ)), .ref (ad (1, 0, 0)), .int (nI (s_nS σ)), .ref (ad (2, 0, 0)), .int (nI (s_nF σ)), .ref (ad (3, 0, 0)), .ref (ad (4, 0, 0)), .ref (ad (5, 0, 0)), .ref (ad (5, 1, 0)), .ref (ad (5, 2, 0)), .int (nI ((s_as σ).length + i)), .int (s_dg σ)])) := by rw [hk2, h_cn _ _ (by simp)]; exact f1_0_0_0
          have f2_4_0_0 : k2 (4, 0, 0) = some (.inl (G.2 0, 10, .inl gg)) := by rw [hk2, h_cn _ _ (by simp)]; exact f1_4_0_0
          have f2_5_0_0 : k2 (5, 0, 0) = some (.inl (G.2 0, 120, .inl (upd a0 (nI ((s_as σ).length + i)).toNatClampNeg (nI f)))) := by rw [hk2, h_cn _ _ (by simp)]; exact f1_5_0_0
          have f2_5_1_0 : k2 (5, 1, 0) = some (.inl (G.2 0, 120, .inl (upd a1 (nI ((s_as σ).length + i)).toNatClampNeg (nI (m0 i))))) := by rw [hk2]; exact h_cs _ _ _
          have f2_5_2_0 : k2 (5, 2, 0) = some (.inl (G.2 0, 120, .inl a2)) := by rw [hk2, h_cn _ _ (by simp)]; exact f1_5_2_0
          have f2_9_m0_i_f : k2 (9, m0 i, f) = some (.inr (1, [.ref (ad (10, m0 i, f)), .int (nI b.length)])) := by rw [hk2, h_cn _ _ (by simp)]; exact f1_9_m0_i_f
          refine lv_aload_n X.1 X.2.1 dX3_ask_66 rfl (lv_at hl 1 rfl) ?_
          refine gf_X3_45 X hw f2_0_0_0 rfl dX3_ask_67 ?_
          refine lv_aload_n X.1 X.2.1 dX3_ask_70 rfl (lv_at hl 1 rfl) ?_
          refine gf_X3_48 X hw f2_0_0_0 rfl dX3_ask_71 ?_
          refine lv_aload X.1 X.2.1 dX3_ask_74 (lv_at hl 0 rfl) ?_
          refine h_callRV (t := (9, m0 i, f)) (As := []) (rest := [.int (nI ((s_as σ).length + i)), .ref (ad (5, 2, 0))]) X hw cs_X3_143 (c_X1_sum l G (hrow.congr (by rw [hk2, h_cn _ _ (by simp), hk1, h_cn _ _ (by simp)]) (by rw [hk2, h_cn _ _ (by simp), hk1, h_cn _ _ (by simp)]) rfl) (gok.2.2.2.2.2.2.1 (m0 i) f b hcb)) f2_9_m0_i_f rfl rfl hl.1 rfl (Nat.le_of_ble_eq_true rfl) ⟨by decide, by decide⟩ ⟨Nat.zero_le _, Nat.zero_le _⟩ dX3_ask_76 ?_
          refine h_iast X hw f2_5_2_0 (vp_in_nI (by omega) (by decide)) dX3_ask_79 (fun H locs hw => ?_)
          obtain ⟨k3, hk3⟩ : ∃ zz, zz = h_cu k2 (5, 2, 0) (some (.inl (G.2 0, 120, .inl (upd a2 (nI ((s_as σ).length + i)).toNatClampNeg (dgL b))))) := ⟨_, rfl⟩
          replace hw := h_W.ren hw hk3
          have f3_0_0_0 : k3 (0, 0, 0) = some (.inr (3, [.int (nI (s_cop σ)), .ref (ad (1, 0, 0)), .int (nI (s_nS σ)), .ref (ad (2, 0, 0)), .int (nI (s_nF σ)), .ref (ad (3, 0, 0)), .ref (ad (4, 0, 0)), .ref (ad (5, 0, 0)), .ref (ad (5, 1, 0)), .ref (ad (5, 2, 0)), .int (nI ((s_as σ).length + i)), .int (s_dg σ)])) := by rw [hk3, h_cn _ _ (by simp)]; exact f2_0_0_0
          have f3_4_0_0 : k3 (4, 0, 0) = some (.inl (G.2 0, 10, .inl gg)) := by rw [hk3, h_cn _ _ (by simp)]; exact f2_4_0_0
          have f3_5_0_0 : k3 (5, 0, 0) = some (.inl (G.2 0, 120, .inl (upd a0 (nI ((s_as σ).length + i)).toNatClampNeg (nI f)))) := by rw [hk3, h_cn _ _ (by simp)]; exact f2_5_0_0
          have f3_5_1_0 : k3 (5, 1, 0) = some (.inl (G.2 0, 120, .inl (upd a1 (nI ((s_as σ).length + i)).toNatClampNeg (nI (m0 i))))) := by rw [hk3, h_cn _ _ (by simp)]; exact f2_5_1_0
          have f3_5_2_0 : k3 (5, 2, 0) = some (.inl (G.2 0, 120, .inl (upd a2 (nI ((s_as σ).length + i)).toNatClampNeg (dgL b)))) := by rw [hk3]; exact h_cs _ _ _
          have f3_9_m0_i_f : k3 (9, m0 i, f) = some (.inr (1, [.ref (ad (10, m0 i, f)), .int (nI b.length)])) := by rw [hk3, h_cn _ _ (by simp)]; exact f2_9_m0_i_f
          refine lv_aload_n X.1 X.2.1 dX3_ask_80 rfl (lv_at hl 1 rfl) ?_
          refine lv_dup X.1 X.2.1 dX3_ask_81 rfl ?_
          refine gf_X3_48 X hw f3_0_0_0 rfl dX3_ask_82 ?_
          refine lv_iconst (v := 1) X.1 X.2.1 dX3_ask_85 (by decide) ?_
          refine lv_iadd X.1 X.2.1 dX3_ask_86 ?_
          refine h_ti (b := nI ((s_as σ).length + i + 1)) (nI_1 _) ?_
          refine pf_X3_48 X hw f3_0_0_0 rfl rfl (Nat.le_of_ble_eq_true rfl) dX3_ask_87 (fun H locs hw => ?_)
          obtain ⟨k4, hk4⟩ : ∃ zz, zz = h_cu k3 (0, 0, 0) (some (.inr (3, [.int (nI (s_cop σ)), .ref (ad (1, 0, 0)), .int (nI (s_nS σ)), .ref (ad (2, 0, 0)), .int (nI (s_nF σ)), .ref (ad (3, 0, 0)), .ref (ad (4, 0, 0)), .ref (ad (5, 0, 0)), .ref (ad (5, 1, 0)), .ref (ad (5, 2, 0)), .int (nI ((s_as σ).length + i + 1)), .int (s_dg σ)]))) := ⟨_, rfl⟩
          replace hw := h_W.ren hw hk4
          have f4_0_0_0 : k4 (0, 0, 0) = some (.inr (3, [.int (nI (s_cop σ)), .ref (ad (1, 0, 0)), .int (nI (s_nS σ)), .ref (ad (2, 0, 0)), .int (nI (s_nF σ)), .ref (ad (3, 0, 0)), .ref (ad (4, 0, 0)), .ref (ad (5, 0, 0)), .ref (ad (5, 1, 0)), .ref (ad (5, 2, 0)), .int (nI ((s_as σ).length + i + 1)), .int (s_dg σ)])) := by rw [hk4]; exact h_cs _ _ _
          have f4_4_0_0 : k4 (4, 0, 0) = some (.inl (G.2 0, 10, .inl gg)) := by rw [hk4, h_cn _ _ (by simp)]; exact f3_4_0_0
          have f4_5_0_0 : k4 (5, 0, 0) = some (.inl (G.2 0, 120, .inl (upd a0 (nI ((s_as σ).length + i)).toNatClampNeg (nI f)))) := by rw [hk4, h_cn _ _ (by simp)]; exact f3_5_0_0
          have f4_5_1_0 : k4 (5, 1, 0) = some (.inl (G.2 0, 120, .inl (upd a1 (nI ((s_as σ).length + i)).toNatClampNeg (nI (m0 i))))) := by rw [hk4, h_cn _ _ (by simp)]; exact f3_5_1_0
          have f4_5_2_0 : k4 (5, 2, 0) = some (.inl (G.2 0, 120, .inl (upd a2 (nI ((s_as σ).length + i)).toNatClampNeg (dgL b)))) := by rw [hk4, h_cn _ _ (by simp)]; exact f3_5_2_0
          have f4_9_m0_i_f : k4 (9, m0 i, f) = some (.inr (1, [.ref (ad (10, m0 i, f)), .int (nI b.length)])) := by rw [hk4, h_cn _ _ (by simp)]; exact f3_9_m0_i_f
          refine lv_iinc (v := nI (i + 1)) (lv' := [(4, .int (nI (i + 1))), (5, .ref (ad (9, m0 i, f))), (0, .ref (ad (0, 0, 0))), (1, .int (nI f)), (2, .ref (ad (7, f, 0))), (3, .int (nI c0))]) X.1 X.2.1 dX3_ask_90 hl (k := 5) rfl (nI_1 _) (by decide) rfl (fun ls hl => ?_)
          refine lv_goto (tgt := 3) X.1 X.2.1 dX3_ask_93 (by decide) ?_
          have hO : ∀ t : h_T, t ≠ (0, 0, 0) → t.1 ≠ 5 → k4 t = kk t := fun t h1 h5 => by
            rw [hk4, h_cn _ _ h1, hk3, h_cn _ _ (fun q => h5 (by rw [q])), hk2, h_cn _ _ (fun q => h5 (by rw [q])), hk1, h_cn _ _ (fun q => h5 (by rw [q]))]
          have hcl : (nI ((s_as σ).length + i)).toNatClampNeg = (s_as σ).length + i := nI_clamp (by omega)
          exact ih (i + 1) (by omega) (by omega) k4 _ _ (RX.setAs (as := s_as σ ++ p_ask σ f m0 (i + 1)) hRk (by rw [List.length_append, ask_len]; omega) (by
            rw [f4_0_0_0]
            show _ = some (Sum.inr (3, x_obj ad (s_setAs σ (s_as σ ++ p_ask σ f m0 (i + 1)))))
            unfold x_obj
            rw [show (s_as (s_setAs σ (s_as σ ++ p_ask σ f m0 (i + 1)))).length = (s_as σ).length + i + 1 by show (s_as σ ++ p_ask σ f m0 (i + 1)).length = _; rw [List.length_append, ask_len]; omega]
            rfl) ⟨_, _, _, f4_5_0_0, f4_5_1_0, f4_5_2_0, fun j hj => by
            rw [List.length_append, ask_len] at hj
            rw [hcl, ask_s, ← List.append_assoc, List.getD_eq_getElem?_getD]
            by_cases hjn : j = (s_as σ).length + i
            · rw [hjn, pk_us, pk_us, pk_us, List.getElem?_append_right (by omega), hln, Nat.sub_self]
              show (nI f, nI (m0 i), dgL b) = p_row σ f m0 i
              unfold p_row
              rw [hc]
              rfl
            · rw [pk_un hjn, pk_un hjn, pk_un hjn, List.getElem?_append_left (by omega), ← List.getD_eq_getElem?_getD]
              exact b3 j (by show j < (s_as σ ++ p_ask σ f m0 i).length; rw [hln]; omega)⟩ hO) (fun t h1 h5 => by rw [hO t h1 h5, ho t h1 h5]) hw ls (lv_sub hl [2, 3, 4, 5, 0] rfl)
  refine lv_iconst (v := 0) X.1 X.2.1 dX3_ask_0 (by decide) ?_
  refine lv_istore (lv' := [(4, .int 0), (0, .ref (ad (0, 0, 0))), (1, .int (nI f)), (2, .ref (ad (7, f, 0))), (3, .int (nI c0))]) X.1 X.2.1 dX3_ask_1 hl (by decide) rfl (fun ls hl => ?_)
  exact loop (c0 + 1) 0 (by omega) (by omega) k _ _ (by show RX G ad k (s_setAs σ (s_as σ ++ [])); rw [List.append_nil]; exact hR) (fun _ _ _ => rfl) hw ls (lv_sub hl [1, 2, 3, 4, 0] rfl)
set_option maxHeartbeats 4000000 in
set_option maxRecDepth 100000 in
/-- poll -/
theorem c_X3_poll (l : Launch) (G : h_G) {ad : h_T → Nat} {k : h_C} {σ : S_t} (hR : RX G ad k σ) (w : Int32) (x : Int64) : h_Wr l yX3_poll cX3_poll 9 (some .int) 4 90 0 0 G ad k [.ref (ad (0, 0, 0)), .int w, .long x] (XPost G ad k (some (.int (sp_poll σ w x).1)) (sp_poll σ w x).2) := by
  refine h_wr (by decide +kernel) (Nat.le_of_ble_eq_true rfl) ?_
  intro p e s m args below meth c X Y hw ls hl
  have hl : lv_has ls 9 [(0, .ref (ad (0, 0, 0))), (1, .int w), (2, .long x)] := hl
  have hok := hR.ok
  obtain ⟨hx, hs, hst, hi, hit, hcp, hcol, hmx, hask, -⟩ := id hR
  have hx : k (0, 0, 0) = some (.inr (3, [.int (nI (s_cop σ)), .ref (ad (1, 0, 0)), .int (nI (s_nS σ)), .ref (ad (2, 0, 0)), .int (nI (s_nF σ)), .ref (ad (3, 0, 0)), .ref (ad (4, 0, 0)), .ref (ad (5, 0, 0)), .ref (ad (5, 1, 0)), .ref (ad (5, 2, 0)), .int (nI (s_as σ).length), .int (s_dg σ)])) := hx
  have hnS : s_nS σ ≤ 10 := hok.2.1
  have hnF : s_nF σ ≤ 40 := hok.2.2.1
  unfold sp_poll
  rcases hpk : ix w 10 with _ | j
  · rw [if_pos (show (none : Option Nat).isNone = true from rfl)]
    refine lv_iload_n X.1 X.2.1 dX3_poll_0 rfl (lv_at hl 1 rfl) ?_
    refine h_callRS (As := [.int w]) (rest := []) X hw cs_X3_76 (c_X3_isPackage l G w) rfl hl.1 rfl (Nat.le_of_ble_eq_true rfl) ⟨by decide, by decide⟩ ⟨Nat.zero_le _, Nat.zero_le _⟩ dX3_poll_1 ?_
    refine h_tv (b := .int 0) (by rw [hpk]; rfl) ?_
    refine lv_if_ne (tgt := 10) X.1 X.2.1 dX3_poll_4 (by decide) (fun c4 => ?_) (fun c4 => ?_)
    · exact absurd (by decide) c4
    · refine lv_bipush (v := (-2)) X.1 X.2.1 dX3_poll_7 (by decide) ?_
      exact h_iretW (v := -2) X Y hw ⟨rfl, hR, fun _ _ => ⟨rfl, rfl⟩, rfl⟩ (Nat.zero_le _) (Nat.zero_le _) dX3_poll_9
  · rw [if_neg (show ¬ (some j : Option Nat).isNone = true from fun q => by cases q)]
    have loop : ∀ (n i : Nat), i ≤ s_nF σ → s_nF σ + 1 ≤ i + n → ∀ (kk : h_C) (H : Heap) (locs : List Loc), RX G ad kk (s_setAs σ (sp_pollN σ w x i).1) → (∀ t : h_T, 20 ≤ t.1 → kk t = k t) → h_W G.1 h_cl (h_A ad k s.heap.size) s.heap ad kk H locs → ∀ (ls : Array Slot), lv_has ls 9 [(0, .ref (ad (0, 0, 0))), (1, .int w), (4, .long ((sp_pollN σ w x i).2)), (6, .int (nI i))] → W p l e (h_rm 4 90 0 0) s m args below meth c H locs 0 0 (MQ below (h_Qw G ad k s.heap.size (XPost G ad k (some (.int (nI (sp_pollN σ w x (s_nF σ)).1.length))) (s_setAs σ (sp_pollN σ w x (s_nF σ)).1))) args s 0 0 (h_A ad k s.heap.size)) (F0 m 21 ls []) := by
      intro n
      induction n with
      | zero =>
        intro i h1 h2
        exact absurd h2 (by omega)
      | succ n ih =>
        intro i hii hni kk H locs hRk h20 hw ls hl
        have gx : kk (0, 0, 0) = some (.inr (3, [.int (nI (s_cop σ)), .ref (ad (1, 0, 0)), .int (nI (s_nS σ)), .ref (ad (2, 0, 0)), .int (nI (s_nF σ)), .ref (ad (3, 0, 0)), .ref (ad (4, 0, 0)), .ref (ad (5, 0, 0)), .ref (ad (5, 1, 0)), .ref (ad (5, 2, 0)), .int (nI (sp_pollN σ w x i).1.length), .int (s_dg σ)])) := hRk.1
        obtain ⟨-, -, -, gi0, git, -, -, -, -, gok⟩ := id hRk
        have hlen := pollN_len σ w x i
        have hcl := cN_le (s_isC σ i) (s_nS σ)
        refine lv_iload X.1 X.2.1 dX3_poll_21 (lv_at hl 3 rfl) ?_
        refine lv_aload_n X.1 X.2.1 dX3_poll_23 rfl (lv_at hl 0 rfl) ?_
        refine gf_X3_25 X hw gx rfl dX3_poll_24 ?_
        refine lv_icmp_ge (tgt := 91) X.1 X.2.1 dX3_poll_27 (by decide) (fun c27 => ?_) (fun c27 => ?_)
        · obtain rfl : i = s_nF σ := Nat.le_antisymm hii (Nat.le_of_not_lt (fun q => absurd c27 (nI_ge (b := s_nF σ) q (by omega))))
          refine lv_aload_n X.1 X.2.1 dX3_poll_91 rfl (lv_at hl 0 rfl) ?_
          refine gf_X3_48 X hw gx rfl dX3_poll_92 ?_
          exact h_iretW X Y hw ⟨rfl, hRk, fun t ht => ⟨h20 t ht, rfl⟩, rfl⟩ (Nat.zero_le _) (Nat.zero_le _) dX3_poll_95
        · have hib : i < s_nF σ := Nat.lt_of_not_le (fun q => c27 (nI_le q (by omega)))
          have gi : kk (7, i, 0) = some (.inr (0, [.int (s_pk σ i), .ref (ad (8, i, 0)), .int (s_rn σ i)])) := (git i hib).1
          refine lv_aload_n X.1 X.2.1 dX3_poll_30 rfl (lv_at hl 0 rfl) ?_
          refine gf_X3_21 X hw gx rfl dX3_poll_31 ?_
          refine lv_iload X.1 X.2.1 dX3_poll_34 (lv_at hl 3 rfl) ?_
          refine h_aald X hw 4 rfl gi0 (vp_in_nI (by omega) (by decide)) dX3_poll_36 ?_
          refine h_tv (b := .ref (ad (7, i, 0))) (by rw [nI_clamp (by omega)]; show va_rf (x_ite ad σ i) = _; simp only [x_ite, if_pos hib, va_rf]) ?_
          refine lv_astore (lv' := [(7, .ref (ad (7, i, 0))), (0, .ref (ad (0, 0, 0))), (1, .int w), (4, .long ((sp_pollN σ w x i).2)), (6, .int (nI i))]) X.1 X.2.1 dX3_poll_37 hl (by decide) rfl (fun ls hl => ?_)
          refine lv_aload X.1 X.2.1 dX3_poll_39 (lv_at hl 0 rfl) ?_
          refine lv_ifnull X.1 X.2.1 dX3_poll_41 ?_
          refine lv_aload X.1 X.2.1 dX3_poll_44 (lv_at hl 0 rfl) ?_
          refine gf_X3_117 X hw gi rfl dX3_poll_46 ?_
          refine lv_iload_n X.1 X.2.1 dX3_poll_49 rfl (lv_at hl 2 rfl) ?_
          refine lv_icmp_ne (tgt := 85) X.1 X.2.1 dX3_poll_50 (by decide) (fun c50 => ?_) (fun c50 => ?_)
          · refine lv_iinc (v := nI (i + 1)) (lv' := [(6, .int (nI (i + 1))), (7, .ref (ad (7, i, 0))), (0, .ref (ad (0, 0, 0))), (1, .int w), (4, .long ((sp_pollN σ w x i).2))]) X.1 X.2.1 dX3_poll_85 hl (k := 4) rfl (nI_1 _) (by decide) rfl (fun ls hl => ?_)
            refine lv_goto (tgt := 21) X.1 X.2.1 dX3_poll_88 (by decide) ?_
            have es := pollN_f (σ := σ) (w := w) (x := x) (n := i) c50
            exact ih (i + 1) (by omega) (by omega) kk _ _ (by rw [es]; exact hRk) h20 hw ls (by
              rw [es]
              exact lv_sub hl [2, 3, 4, 0] rfl)
          · refine lv_aload_n X.1 X.2.1 dX3_poll_53 rfl (lv_at hl 1 rfl) ?_
            refine lv_aload X.1 X.2.1 dX3_poll_54 (lv_at hl 0 rfl) ?_
            refine h_callWV (t := (0, 0, 0)) (As := [.ref (ad (7, i, 0))]) (rest := []) X hw cs_X3_120 (c_X3_listCounting l G hRk hib) gx rfl rfl hl.1 rfl (Nat.le_of_ble_eq_true rfl) ⟨by decide, by decide⟩ ⟨(Nat.le_of_ble_eq_true rfl), (Nat.le_of_ble_eq_true rfl)⟩ dX3_poll_56 (fun r9 ad1 k1 H locs hp9 hw => ?_)
            obtain ⟨rfl, ea1, ⟨g1, hg1, hc1⟩, ho1⟩ := hp9
            refine W.eq (g2 := F0 m 59 ls [.int (nI (cN (s_isC σ i) (s_nS σ)))]) rfl ?_
            replace hw := hw.renA ea1.symm
            have f1_0_0_0 : k1 (0, 0, 0) = some (.inr (3, [.int (nI (s_cop σ)), .ref (ad (1, 0, 0)), .int (nI (s_nS σ)), .ref (ad (2, 0, 0)), .int (nI (s_nF σ)), .ref (ad (3, 0, 0)), .ref (ad (4, 0, 0)), .ref (ad (5, 0, 0)), .ref (ad (5, 1, 0)), .ref (ad (5, 2, 0)), .int (nI (sp_pollN σ w x i).1.length), .int (s_dg σ)])) := by rw [ho1 (0, 0, 0) (by simp), gx]
            have f1_2_0_0 : k1 (2, 0, 0) = some (.inl (G.2 4, 40, x_refs (x_ite ad (s_setAs σ (sp_pollN σ w x i).1)))) := by rw [ho1 (2, 0, 0) (by simp), gi0]
            have f1_7_i_0 : k1 (7, i, 0) = some (.inr (0, [.int (s_pk σ i), .ref (ad (8, i, 0)), .int (s_rn σ i)])) := by rw [ho1 (7, i, 0) (by simp), gi]
            refine lv_istore (lv' := [(8, .int (nI (cN (s_isC σ i) (s_nS σ)))), (7, .ref (ad (7, i, 0))), (0, .ref (ad (0, 0, 0))), (1, .int w), (4, .long ((sp_pollN σ w x i).2)), (6, .int (nI i))]) X.1 X.2.1 dX3_poll_59 hl (by decide) rfl (fun ls hl => ?_)
            refine lv_aload_n X.1 X.2.1 dX3_poll_61 rfl (lv_at hl 2 rfl) ?_
            refine lv_iload X.1 X.2.1 dX3_poll_62 (lv_at hl 0 rfl) ?_
            refine lv_lload X.1 X.2.1 dX3_poll_64 (lv_at hl 4 rfl) ?_
            refine h_callWV (t := (0, 0, 0)) (As := [.int (nI (cN (s_isC σ i) (s_nS σ))), .long ((sp_pollN σ w x i).2)]) (rest := []) X hw cs_X3_124 (c_X3_mix l G (hRk.setMix hg1 ho1) (n0 := cN (s_isC σ i) (s_nS σ)) (by omega) hg1 hc1 (sp_pollN σ w x i).2) f1_0_0_0 rfl rfl hl.1 rfl (Nat.le_of_ble_eq_true rfl) ⟨by decide, by decide⟩ ⟨(Nat.le_of_ble_eq_true rfl), (Nat.le_of_ble_eq_true rfl)⟩ dX3_poll_66 (fun r9 ad2 k2 H locs hp9 hw => ?_)
            obtain ⟨rfl, ea2, ⟨g2, hg2, hc2⟩, ho2⟩ := hp9
            refine W.eq (g2 := F0 m 69 ls [.long ((p_mf σ i (sp_pollN σ w x i).2).2)]) rfl ?_
            replace hw := hw.renA ea2.symm
            have f2_0_0_0 : k2 (0, 0, 0) = some (.inr (3, [.int (nI (s_cop σ)), .ref (ad (1, 0, 0)), .int (nI (s_nS σ)), .ref (ad (2, 0, 0)), .int (nI (s_nF σ)), .ref (ad (3, 0, 0)), .ref (ad (4, 0, 0)), .ref (ad (5, 0, 0)), .ref (ad (5, 1, 0)), .ref (ad (5, 2, 0)), .int (nI (sp_pollN σ w x i).1.length), .int (s_dg σ)])) := by rw [ho2 (0, 0, 0) (by simp), f1_0_0_0]
            have f2_2_0_0 : k2 (2, 0, 0) = some (.inl (G.2 4, 40, x_refs (x_ite ad (s_setAs σ (sp_pollN σ w x i).1)))) := by rw [ho2 (2, 0, 0) (by simp), f1_2_0_0]
            have f2_7_i_0 : k2 (7, i, 0) = some (.inr (0, [.int (s_pk σ i), .ref (ad (8, i, 0)), .int (s_rn σ i)])) := by rw [ho2 (7, i, 0) (by simp), f1_7_i_0]
            refine lv_lstore (lv' := [(4, .long ((p_mf σ i (sp_pollN σ w x i).2).2)), (8, .int (nI (cN (s_isC σ i) (s_nS σ)))), (7, .ref (ad (7, i, 0))), (0, .ref (ad (0, 0, 0))), (1, .int w), (6, .int (nI i))]) X.1 X.2.1 dX3_poll_69 hl (by decide) rfl (fun ls hl => ?_)
            refine lv_aload_n X.1 X.2.1 dX3_poll_71 rfl (lv_at hl 3 rfl) ?_
            refine lv_iload X.1 X.2.1 dX3_poll_72 (lv_at hl 5 rfl) ?_
            refine lv_aload X.1 X.2.1 dX3_poll_74 (lv_at hl 2 rfl) ?_
            refine lv_iload X.1 X.2.1 dX3_poll_76 (lv_at hl 1 rfl) ?_
            refine lv_iconst (v := 3) X.1 X.2.1 dX3_poll_78 (by decide) ?_
            refine va_mmin X.1 X.2.1 (by rw [X.2.2.1]; exact hl.1.symm) X.2.2.2.1 (X.2.2.2.2.1 _ mm_min_l) (X.2.2.2.2.1 _ mm_min_s) (X.2.2.2.2.1 _ wn_java_lang_Math) (X.2.2.2.2.1 _ mm_min_c) (Nat.le_of_ble_eq_true rfl) (Nat.le_of_ble_eq_true rfl) (Nat.zero_le _) (Nat.zero_le _) dX3_poll_79 ?_
            refine h_ti (b := nI (p_n3 σ i)) (nI_min3 (by omega)) ?_
            refine h_callWV (t := (0, 0, 0)) (As := [.int (nI i), .ref (ad (7, i, 0)), .int (nI (p_n3 σ i))]) (rest := []) X hw cs_X3_128 (c_X3_ask l G ((hRk.setMix hg1 ho1).setMix hg2 ho2) (f := i) hib (c0 := p_n3 σ i) (Nat.le_trans (Nat.min_le_right _ _) (by decide)) (m0 := (p_mf σ i (sp_pollN σ w x i).2).1) hg2 (fun c hc => hc2 c (Nat.lt_of_lt_of_le hc (Nat.min_le_left _ _))) (fun c hc => mf_in (Nat.lt_of_lt_of_le hc (Nat.min_le_left _ _))) (by show (sp_pollN σ w x i).1.length + p_n3 σ i ≤ 120; have : p_n3 σ i ≤ 3 := Nat.min_le_right _ _; omega)) f2_0_0_0 rfl rfl hl.1 rfl (Nat.le_of_ble_eq_true rfl) ⟨by decide, by decide⟩ ⟨(Nat.le_of_ble_eq_true rfl), (Nat.le_of_ble_eq_true rfl)⟩ dX3_poll_82 (fun r9 ad3 k3 H locs hp9 hw => ?_)
            obtain ⟨rfl, ea3, hR3, ho3⟩ := hp9
            refine W.eq (g2 := F0 m 85 ls []) rfl ?_
            replace hw := hw.renA ea3.symm
            refine lv_iinc (v := nI (i + 1)) (lv' := [(6, .int (nI (i + 1))), (4, .long ((p_mf σ i (sp_pollN σ w x i).2).2)), (8, .int (nI (cN (s_isC σ i) (s_nS σ)))), (7, .ref (ad (7, i, 0))), (0, .ref (ad (0, 0, 0))), (1, .int w)]) X.1 X.2.1 dX3_poll_85 hl (k := 5) rfl (nI_1 _) (by decide) rfl (fun ls hl => ?_)
            refine lv_goto (tgt := 21) X.1 X.2.1 dX3_poll_88 (by decide) ?_
            have es := pollN_t (σ := σ) (w := w) (x := x) (n := i) c50
            exact ih (i + 1) (by omega) (by omega) k3 _ _ (by rw [es]; exact hR3) (fun t ht => by
              rw [ho3 t (t20 ht (Nat.le_of_ble_eq_true rfl)) (fun q => by omega), ho2 t (t20 ht (Nat.le_of_ble_eq_true rfl)), ho1 t (t20 ht (Nat.le_of_ble_eq_true rfl)), h20 t ht]) hw ls (by
              rw [es]
              exact lv_sub hl [4, 5, 1, 0] rfl)
    refine lv_iload_n X.1 X.2.1 dX3_poll_0 rfl (lv_at hl 1 rfl) ?_
    refine h_callRS (As := [.int w]) (rest := []) X hw cs_X3_76 (c_X3_isPackage l G w) rfl hl.1 rfl (Nat.le_of_ble_eq_true rfl) ⟨by decide, by decide⟩ ⟨Nat.zero_le _, Nat.zero_le _⟩ dX3_poll_1 ?_
    refine h_tv (b := .int 1) (by rw [hpk]; rfl) ?_
    refine lv_if_ne (tgt := 10) X.1 X.2.1 dX3_poll_4 (by decide) (fun c4 => ?_) (fun c4 => ?_)
    · refine lv_aload_n X.1 X.2.1 dX3_poll_10 rfl (lv_at hl 0 rfl) ?_
      refine lv_iconst (v := 0) X.1 X.2.1 dX3_poll_11 (by decide) ?_
      refine pf_X3_48 X hw hx rfl rfl (Nat.le_of_ble_eq_true rfl) dX3_poll_12 (fun H locs hw => ?_)
      obtain ⟨k1, hk1⟩ : ∃ zz, zz = h_cu k (0, 0, 0) (some (.inr (3, [.int (nI (s_cop σ)), .ref (ad (1, 0, 0)), .int (nI (s_nS σ)), .ref (ad (2, 0, 0)), .int (nI (s_nF σ)), .ref (ad (3, 0, 0)), .ref (ad (4, 0, 0)), .ref (ad (5, 0, 0)), .ref (ad (5, 1, 0)), .ref (ad (5, 2, 0)), .int 0, .int (s_dg σ)]))) := ⟨_, rfl⟩
      replace hw := h_W.ren hw hk1
      have f1_0_0_0 : k1 (0, 0, 0) = some (.inr (3, [.int (nI (s_cop σ)), .ref (ad (1, 0, 0)), .int (nI (s_nS σ)), .ref (ad (2, 0, 0)), .int (nI (s_nF σ)), .ref (ad (3, 0, 0)), .ref (ad (4, 0, 0)), .ref (ad (5, 0, 0)), .ref (ad (5, 1, 0)), .ref (ad (5, 2, 0)), .int 0, .int (s_dg σ)])) := by rw [hk1]; exact h_cs _ _ _
      refine lv_lload_n X.1 X.2.1 dX3_poll_15 rfl (lv_at hl 2 rfl) ?_
      refine lv_lstore (lv' := [(4, .long x), (0, .ref (ad (0, 0, 0))), (1, .int w), (2, .long x)]) X.1 X.2.1 dX3_poll_16 hl (by decide) rfl (fun ls hl => ?_)
      refine lv_iconst (v := 0) X.1 X.2.1 dX3_poll_18 (by decide) ?_
      refine lv_istore (lv' := [(6, .int 0), (4, .long x), (0, .ref (ad (0, 0, 0))), (1, .int w), (2, .long x)]) X.1 X.2.1 dX3_poll_19 hl (by decide) rfl (fun ls hl => ?_)
      obtain ⟨a0, a1, a2, b0, b1, b2, b3⟩ := hask
      have hO : ∀ t : h_T, t ≠ (0, 0, 0) → k1 t = k t := fun t h1 => by rw [hk1, h_cn _ _ h1]
      exact loop (s_nF σ + 1) 0 (by omega) (by omega) k1 _ _ (RX.setAs (as := []) hR (by decide) f1_0_0_0 ⟨a0, a1, a2, (hO _ (by simp)).trans b0, (hO _ (by simp)).trans b1, (hO _ (by simp)).trans b2, fun j hj => absurd hj (Nat.not_lt_zero j)⟩ (fun t h1 _ => hO t h1)) (fun t ht => hO t (t20 ht (Nat.le_of_ble_eq_true rfl))) hw ls (lv_sub hl [2, 3, 1, 0] rfl)
    · exact absurd c4 (by decide)
