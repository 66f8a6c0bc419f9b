theorem h_ot1 : ∀ w ∈ Cond.classLink RX3 132 h_E1 :: Cond.initialized h_E1 :: vx_atS RX3 136 h_E1 h_n2, vx_ot w = true := by decide +kernel
theorem h_ot2 : ∀ w ∈ Cond.classLink RX3 168 h_E2 :: Cond.initialized h_E2 :: vx_atS RX3 172 h_E2 h_n2, vx_ot w = true := by decide +kernel
theorem h_ot3 : ∀ w ∈ Cond.classLink RX3 177 h_E3 :: Cond.initialized h_E3 :: vx_atS RX3 181 h_E3 h_n3, vx_ot w = true := by decide +kernel
theorem l_mulI {n : Nat} {x : Int32} {a : Nat} (h : a ≤ 1000) (hx : x = nI a) : lN n * x.toInt64 = lN (n * x.toNatClampNeg) := by
  rw [hx, nI_l (by omega), nI_clamp (by omega), lN_mul]
set_option maxHeartbeats 4000000 in
set_option maxRecDepth 100000 in
/-- polled -/
theorem c_X3_polled (l : Launch) (G : h_G) {ad : h_T → Nat} {k : h_C} {σ : S_t} (hR : RX G ad k σ) (x w : Int32) (hlt : l.stackTraces = false) : h_Tr l yX3_polled cX3_polled 3 (some .int) 7 95 G ad k [.ref (ad (0, 0, 0)), .int x, .int w] ((sp_polled σ x w).map Value.int) h_E1 := by
  refine h_tr (by decide +kernel) (Nat.le_of_ble_eq_true rfl) ?_
  intro p e s m args below meth c X Y hw hZ hxt ls hl
  have hl : lv_has ls 3 [(0, .ref (ad (0, 0, 0))), (1, .int x), (2, .int w)] := hl
  have hok := hR.ok
  obtain ⟨hx, hs, hst, hi, hit, hcp, hcol, hmx, hask, -⟩ := id hR
  have hx : k (0, 0, 0) = some (.inr (3, [.int (nI (s_cop σ)), .ref (ad (1, 0, 0)), .int (nI (s_nS σ)), .ref (ad (2, 0, 0)), .int (nI (s_nF σ)), .ref (ad (3, 0, 0)), .ref (ad (4, 0, 0)), .ref (ad (5, 0, 0)), .ref (ad (5, 1, 0)), .ref (ad (5, 2, 0)), .int (nI (s_as σ).length), .int (s_dg σ)])) := hx
  have hnS : s_nS σ ≤ 10 := hok.2.1
  have hnF : s_nF σ ≤ 40 := hok.2.2.1
  unfold sp_polled
  obtain ⟨a0, a1, a2, b0, b1, b2, b3⟩ := hask
  have hal : (s_as σ).length ≤ 120 := hok.2.2.2.2.1
  rcases ix_cases x (n := (s_as σ).length) (by omega) with ⟨hn, hz⟩ | ⟨hn, hz, hz2⟩ | ⟨j, hj, rfl, hn⟩
  · refine lv_iload_n X.1 X.2.1 dX3_polled_0 rfl (lv_at hl 1 rfl) ?_
    refine lv_if_lt (tgt := 12) X.1 X.2.1 dX3_polled_1 (by decide) (fun c1 => ?_) (fun c1 => ?_)
    · obtain ⟨hs1, hs2, hs3, hw4, h5, h6⟩ := hZ
      obtain ⟨sa, hsa⟩ := hs1
      exact h_throw (E := h_E1) (names := h_n2) X Y hlt hxt (fun w hw => List.mem_append_left _ hw) (by decide +kernel) (by decide +kernel) wk_X3_132 wn_java_lang_IndexOutOfBoundsException h_ot1 hsa hw4 h5 h6 hl.1 (by rw [hn]; rfl) dX3_polled_12 dX3_polled_15 dX3_polled_16 dX3_polled_18 dX3_polled_21 (by decide) (by decide)
    · exact absurd hz c1
  · refine lv_iload_n X.1 X.2.1 dX3_polled_0 rfl (lv_at hl 1 rfl) ?_
    refine lv_if_lt (tgt := 12) X.1 X.2.1 dX3_polled_1 (by decide) (fun c1 => ?_) (fun c1 => ?_)
    · exact absurd c1 hz
    · refine lv_iload_n X.1 X.2.1 dX3_polled_4 rfl (lv_at hl 1 rfl) ?_
      refine lv_aload_n X.1 X.2.1 dX3_polled_5 rfl (lv_at hl 0 rfl) ?_
      refine gf_X3_48 X hw hx rfl dX3_polled_6 ?_
      refine lv_icmp_lt (tgt := 22) X.1 X.2.1 dX3_polled_9 (by decide) (fun c9 => ?_) (fun c9 => ?_)
      · exact absurd (Int32.lt_iff_toInt_lt.mp c9) (Int.not_lt.mpr (Int32.le_iff_toInt_le.mp hz2))
      · obtain ⟨hs1, hs2, hs3, hw4, h5, h6⟩ := hZ
        obtain ⟨sa, hsa⟩ := hs1
        exact h_throw (E := h_E1) (names := h_n2) X Y hlt hxt (fun w hw => List.mem_append_left _ hw) (by decide +kernel) (by decide +kernel) wk_X3_132 wn_java_lang_IndexOutOfBoundsException h_ot1 hsa hw4 h5 h6 hl.1 (by rw [hn]; rfl) dX3_polled_12 dX3_polled_15 dX3_polled_16 dX3_polled_18 dX3_polled_21 (by decide) (by decide)
  · rw [hn]
    have hv := b3 j hj
    by_cases w0 : w = 0
    · subst w0
      refine lv_iload_n X.1 X.2.1 dX3_polled_0 rfl (lv_at hl 1 rfl) ?_
      refine lv_if_lt (tgt := 12) X.1 X.2.1 dX3_polled_1 (by decide) (fun c1 => ?_) (fun c1 => ?_)
      · exact absurd c1 (nI_pos (by omega))
      · refine lv_iload_n X.1 X.2.1 dX3_polled_4 rfl (lv_at hl 1 rfl) ?_
        refine lv_aload_n X.1 X.2.1 dX3_polled_5 rfl (lv_at hl 0 rfl) ?_
        refine gf_X3_48 X hw hx rfl dX3_polled_6 ?_
        refine lv_icmp_lt (tgt := 22) X.1 X.2.1 dX3_polled_9 (by decide) (fun c9 => ?_) (fun c9 => ?_)
        · refine lv_iload_n X.1 X.2.1 dX3_polled_22 rfl (lv_at hl 2 rfl) ?_
          refine lv_tableIn (tgt := 48) X.1 X.2.1 dX3_polled_23 (by decide) (by decide) (by rfl) (by decide) ?_
          refine lv_aload_n X.1 X.2.1 dX3_polled_48 rfl (lv_at hl 0 rfl) ?_
          refine gf_X3_39 X hw hx rfl dX3_polled_49 ?_
          refine lv_iload_n X.1 X.2.1 dX3_polled_52 rfl (lv_at hl 1 rfl) ?_
          refine h_iald X hw b0 (vp_in_nI (by omega) (by decide)) dX3_polled_53 ?_
          refine h_tv (b := .int (a0 j)) (by rw [nI_clamp (by omega)]) ?_
          exact h_iretT X Y (by simp only [Option.map_some]; rw [← hv]; rfl) dX3_polled_54
        · exact absurd (nI_lt hj (by omega)) c9
    by_cases w1 : w = 1
    · subst w1
      refine lv_iload_n X.1 X.2.1 dX3_polled_0 rfl (lv_at hl 1 rfl) ?_
      refine lv_if_lt (tgt := 12) X.1 X.2.1 dX3_polled_1 (by decide) (fun c1 => ?_) (fun c1 => ?_)
      · exact absurd c1 (nI_pos (by omega))
      · refine lv_iload_n X.1 X.2.1 dX3_polled_4 rfl (lv_at hl 1 rfl) ?_
        refine lv_aload_n X.1 X.2.1 dX3_polled_5 rfl (lv_at hl 0 rfl) ?_
        refine gf_X3_48 X hw hx rfl dX3_polled_6 ?_
        refine lv_icmp_lt (tgt := 22) X.1 X.2.1 dX3_polled_9 (by decide) (fun c9 => ?_) (fun c9 => ?_)
        · refine lv_iload_n X.1 X.2.1 dX3_polled_22 rfl (lv_at hl 2 rfl) ?_
          refine lv_tableIn (tgt := 55) X.1 X.2.1 dX3_polled_23 (by decide) (by decide) (by rfl) (by decide) ?_
          refine lv_aload_n X.1 X.2.1 dX3_polled_55 rfl (lv_at hl 0 rfl) ?_
          refine gf_X3_42 X hw hx rfl dX3_polled_56 ?_
          refine lv_iload_n X.1 X.2.1 dX3_polled_59 rfl (lv_at hl 1 rfl) ?_
          refine h_iald X hw b1 (vp_in_nI (by omega) (by decide)) dX3_polled_60 ?_
          refine h_tv (b := .int (a1 j)) (by rw [nI_clamp (by omega)]) ?_
          exact h_iretT X Y (by simp only [Option.map_some]; rw [← hv]; rfl) dX3_polled_61
        · exact absurd (nI_lt hj (by omega)) c9
    by_cases w2 : w = 2
    · subst w2
      refine lv_iload_n X.1 X.2.1 dX3_polled_0 rfl (lv_at hl 1 rfl) ?_
      refine lv_if_lt (tgt := 12) X.1 X.2.1 dX3_polled_1 (by decide) (fun c1 => ?_) (fun c1 => ?_)
      · exact absurd c1 (nI_pos (by omega))
      · refine lv_iload_n X.1 X.2.1 dX3_polled_4 rfl (lv_at hl 1 rfl) ?_
        refine lv_aload_n X.1 X.2.1 dX3_polled_5 rfl (lv_at hl 0 rfl) ?_
        refine gf_X3_48 X hw hx rfl dX3_polled_6 ?_
        refine lv_icmp_lt (tgt := 22) X.1 X.2.1 dX3_polled_9 (by decide) (fun c9 => ?_) (fun c9 => ?_)
        · refine lv_iload_n X.1 X.2.1 dX3_polled_22 rfl (lv_at hl 2 rfl) ?_
          refine lv_tableIn (tgt := 62) X.1 X.2.1 dX3_polled_23 (by decide) (by decide) (by rfl) (by decide) ?_
          refine lv_aload_n X.1 X.2.1 dX3_polled_62 rfl (lv_at hl 0 rfl) ?_
          refine gf_X3_45 X hw hx rfl dX3_polled_63 ?_
          refine lv_iload_n X.1 X.2.1 dX3_polled_66 rfl (lv_at hl 1 rfl) ?_
          refine h_iald X hw b2 (vp_in_nI (by omega) (by decide)) dX3_polled_67 ?_
          refine h_tv (b := .int (a2 j)) (by rw [nI_clamp (by omega)]) ?_
          exact h_iretT X Y (by simp only [Option.map_some]; rw [← hv]; rfl) dX3_polled_68
        · exact absurd (nI_lt hj (by omega)) c9
    refine lv_iload_n X.1 X.2.1 dX3_polled_0 rfl (lv_at hl 1 rfl) ?_
    refine lv_if_lt (tgt := 12) X.1 X.2.1 dX3_polled_1 (by decide) (fun c1 => ?_) (fun c1 => ?_)
    · exact absurd c1 (nI_pos (by omega))
    · refine lv_iload_n X.1 X.2.1 dX3_polled_4 rfl (lv_at hl 1 rfl) ?_
      refine lv_aload_n X.1 X.2.1 dX3_polled_5 rfl (lv_at hl 0 rfl) ?_
      refine gf_X3_48 X hw hx rfl dX3_polled_6 ?_
      refine lv_icmp_lt (tgt := 22) X.1 X.2.1 dX3_polled_9 (by decide) (fun c9 => ?_) (fun c9 => ?_)
      · refine lv_iload_n X.1 X.2.1 dX3_polled_22 rfl (lv_at hl 2 rfl) ?_
        refine lv_tableOut (tgt := 69) X.1 X.2.1 dX3_polled_23 (by
          rcases Int.lt_or_le w.toInt 0 with q | q
          · exact Or.inl q
          · rcases Int.lt_or_le 2 w.toInt with q2 | q2
            · exact Or.inr q2
            · exfalso
              rcases (show w.toInt = 0 ∨ w.toInt = 1 ∨ w.toInt = 2 by omega) with z | z | z
              · exact w0 (Int32.toInt_inj.mp z)
              · exact w1 (Int32.toInt_inj.mp z)
              · exact w2 (Int32.toInt_inj.mp z)) (by decide) ?_
        refine lv_iconst (v := (-1)) X.1 X.2.1 dX3_polled_69 (by decide) ?_
        exact h_iretT X Y (by simp only [Option.map_some, if_neg w0, if_neg w1, if_neg w2]) dX3_polled_70
      · exact absurd (nI_lt hj (by omega)) c9
set_option maxHeartbeats 4000000 in
set_option maxRecDepth 100000 in
/-- at -/
theorem c_X3_at (l : Launch) (G : h_G) {ad : h_T → Nat} {k : h_C} {σ : S_t} (hR : RX G ad k σ) (x y i : Int32) (hlt : l.stackTraces = false) : h_Tr l yX3_at cX3_at 5 (some .int) 7 95 G ad k [.ref (ad (0, 0, 0)), .int x, .int y, .int i] ((sp_at σ x y i).map Value.int) h_E3 := by
  refine h_tr (by decide +kernel) (Nat.le_of_ble_eq_true rfl) ?_
  intro p e s m args below meth c X Y hw hZ hxt ls hl
  have hl : lv_has ls 5 [(0, .ref (ad (0, 0, 0))), (1, .int x), (2, .int y), (3, .int i)] := hl
  have hok := hR.ok
  obtain ⟨hx, hs, hst, hi, hit, hcp, hcol, hmx, hask, -⟩ := id hR
  have hx : k (0, 0, 0) = some (.inr (3, [.int (nI (s_cop σ)), .ref (ad (1, 0, 0)), .int (nI (s_nS σ)), .ref (ad (2, 0, 0)), .int (nI (s_nF σ)), .ref (ad (3, 0, 0)), .ref (ad (4, 0, 0)), .ref (ad (5, 0, 0)), .ref (ad (5, 1, 0)), .ref (ad (5, 2, 0)), .int (nI (s_as σ).length), .int (s_dg σ)])) := hx
  have hnS : s_nS σ ≤ 10 := hok.2.1
  have hnF : s_nF σ ≤ 40 := hok.2.2.1
  unfold sp_at
  rcases ha : s_at σ x y with _ | ⟨j, f, b⟩
  · refine lv_aload_n X.1 X.2.1 dX3_at_0 rfl (lv_at hl 0 rfl) ?_
    refine lv_iload_n X.1 X.2.1 dX3_at_1 rfl (lv_at hl 1 rfl) ?_
    refine lv_iload_n X.1 X.2.1 dX3_at_2 rfl (lv_at hl 2 rfl) ?_
    refine h_callRV (t := (0, 0, 0)) (As := [.int x, .int y]) (rest := []) X hw cs_X3_99 (c_X3_copyOf l G hR x y) hx rfl rfl hl.1 rfl (Nat.le_of_ble_eq_true rfl) ⟨by decide, by decide⟩ ⟨Nat.zero_le _, Nat.zero_le _⟩ dX3_at_3 ?_
    refine h_tv (b := .null) (by rw [x_copy_at, ha]; rfl) ?_
    refine lv_astoreN (lv' := [(4, .null), (0, .ref (ad (0, 0, 0))), (1, .int x), (2, .int y), (3, .int i)]) X.1 X.2.1 dX3_at_6 hl (by decide) rfl (fun ls hl => ?_)
    refine lv_aloadN X.1 X.2.1 dX3_at_8 (lv_at hl 0 rfl) ?_
    refine lv_ifnonnullN X.1 X.2.1 dX3_at_10 ?_
    refine lv_iconst (v := (-1)) X.1 X.2.1 dX3_at_13 (by decide) ?_
    exact h_iretT X Y rfl dX3_at_14
  · obtain ⟨-, -, hj, hf, hb, -, hy⟩ := s_at_some ha
    have hrow := hcp j f b hb
    have hlen := hok.2.2.2.2.2.2.1 j f b hb
    obtain ⟨hr1, g, hg, hgi⟩ := id hrow
    rcases ix_cases i (n := b.length) (by omega) with ⟨hn, -⟩ | ⟨hn, -, -⟩ | ⟨q, hq, rfl, hn⟩
    · refine lv_aload_n X.1 X.2.1 dX3_at_0 rfl (lv_at hl 0 rfl) ?_
      refine lv_iload_n X.1 X.2.1 dX3_at_1 rfl (lv_at hl 1 rfl) ?_
      refine lv_iload_n X.1 X.2.1 dX3_at_2 rfl (lv_at hl 2 rfl) ?_
      refine h_callRV (t := (0, 0, 0)) (As := [.int x, .int y]) (rest := []) X hw cs_X3_99 (c_X3_copyOf l G hR x y) hx rfl rfl hl.1 rfl (Nat.le_of_ble_eq_true rfl) ⟨by decide, by decide⟩ ⟨Nat.zero_le _, Nat.zero_le _⟩ dX3_at_3 ?_
      refine h_tv (b := .ref (ad (9, j, f))) (by rw [x_copy_at, ha]; rfl) ?_
      refine lv_astore (lv' := [(4, .ref (ad (9, j, f))), (0, .ref (ad (0, 0, 0))), (1, .int x), (2, .int y), (3, .int i)]) X.1 X.2.1 dX3_at_6 hl (by decide) rfl (fun ls hl => ?_)
      refine lv_aload X.1 X.2.1 dX3_at_8 (lv_at hl 0 rfl) ?_
      refine lv_ifnonnull (tgt := 15) X.1 X.2.1 dX3_at_10 (by decide) ?_
      refine lv_aload X.1 X.2.1 dX3_at_15 (lv_at hl 0 rfl) ?_
      refine lv_iload_n X.1 X.2.1 dX3_at_17 rfl (lv_at hl 4 rfl) ?_
      refine h_callRV (t := (9, j, f)) (As := [.int i]) (rest := []) X hw cs_X3_103 (c_X1_has l G hrow hlen i) hr1 rfl rfl hl.1 rfl (Nat.le_of_ble_eq_true rfl) ⟨by decide, by decide⟩ ⟨Nat.zero_le _, Nat.zero_le _⟩ dX3_at_18 ?_
      refine h_tv (b := .int 0) (by rw [hn]; rfl) ?_
      refine lv_if_ne (tgt := 34) X.1 X.2.1 dX3_at_21 (by decide) (fun c21 => ?_) (fun c21 => ?_)
      · exact absurd (by decide) c21
      · obtain ⟨hs1, hs2, hs3, hw4, h5, h6⟩ := hZ
        obtain ⟨sa, hsa⟩ := hs3
        exact h_throw (E := h_E3) (names := h_n3) X Y hlt hxt (fun w hw => List.mem_append_right _ (List.mem_append_right _ hw)) (by decide +kernel) (by decide +kernel) wk_X3_177 wn_java_lang_ArrayIndexOutOfBoundsException h_ot3 hsa hw4 h5 h6 hl.1 (by simp only [hn, Option.map_none]) dX3_at_24 dX3_at_27 dX3_at_28 dX3_at_30 dX3_at_33 (by decide) (by decide)
    · refine lv_aload_n X.1 X.2.1 dX3_at_0 rfl (lv_at hl 0 rfl) ?_
      refine lv_iload_n X.1 X.2.1 dX3_at_1 rfl (lv_at hl 1 rfl) ?_
      refine lv_iload_n X.1 X.2.1 dX3_at_2 rfl (lv_at hl 2 rfl) ?_
      refine h_callRV (t := (0, 0, 0)) (As := [.int x, .int y]) (rest := []) X hw cs_X3_99 (c_X3_copyOf l G hR x y) hx rfl rfl hl.1 rfl (Nat.le_of_ble_eq_true rfl) ⟨by decide, by decide⟩ ⟨Nat.zero_le _, Nat.zero_le _⟩ dX3_at_3 ?_
      refine h_tv (b := .ref (ad (9, j, f))) (by rw [x_copy_at, ha]; rfl) ?_
      refine lv_astore (lv' := [(4, .ref (ad (9, j, f))), (0, .ref (ad (0, 0, 0))), (1, .int x), (2, .int y), (3, .int i)]) X.1 X.2.1 dX3_at_6 hl (by decide) rfl (fun ls hl => ?_)
      refine lv_aload X.1 X.2.1 dX3_at_8 (lv_at hl 0 rfl) ?_
      refine lv_ifnonnull (tgt := 15) X.1 X.2.1 dX3_at_10 (by decide) ?_
      refine lv_aload X.1 X.2.1 dX3_at_15 (lv_at hl 0 rfl) ?_
      refine lv_iload_n X.1 X.2.1 dX3_at_17 rfl (lv_at hl 4 rfl) ?_
      refine h_callRV (t := (9, j, f)) (As := [.int i]) (rest := []) X hw cs_X3_103 (c_X1_has l G hrow hlen i) hr1 rfl rfl hl.1 rfl (Nat.le_of_ble_eq_true rfl) ⟨by decide, by decide⟩ ⟨Nat.zero_le _, Nat.zero_le _⟩ dX3_at_18 ?_
      refine h_tv (b := .int 0) (by rw [hn]; rfl) ?_
      refine lv_if_ne (tgt := 34) X.1 X.2.1 dX3_at_21 (by decide) (fun c21 => ?_) (fun c21 => ?_)
      · exact absurd (by decide) c21
      · obtain ⟨hs1, hs2, hs3, hw4, h5, h6⟩ := hZ
        obtain ⟨sa, hsa⟩ := hs3
        exact h_throw (E := h_E3) (names := h_n3) X Y hlt hxt (fun w hw => List.mem_append_right _ (List.mem_append_right _ hw)) (by decide +kernel) (by decide +kernel) wk_X3_177 wn_java_lang_ArrayIndexOutOfBoundsException h_ot3 hsa hw4 h5 h6 hl.1 (by simp only [hn, Option.map_none]) dX3_at_24 dX3_at_27 dX3_at_28 dX3_at_30 dX3_at_33 (by decide) (by decide)
    · refine lv_aload_n X.1 X.2.1 dX3_at_0 rfl (lv_at hl 0 rfl) ?_
      refine lv_iload_n X.1 X.2.1 dX3_at_1 rfl (lv_at hl 1 rfl) ?_
      refine lv_iload_n X.1 X.2.1 dX3_at_2 rfl (lv_at hl 2 rfl) ?_
      refine h_callRV (t := (0, 0, 0)) (As := [.int x, .int y]) (rest := []) X hw cs_X3_99 (c_X3_copyOf l G hR x y) hx rfl rfl hl.1 rfl (Nat.le_of_ble_eq_true rfl) ⟨by decide, by decide⟩ ⟨Nat.zero_le _, Nat.zero_le _⟩ dX3_at_3 ?_
      refine h_tv (b := .ref (ad (9, j, f))) (by rw [x_copy_at, ha]; rfl) ?_
      refine lv_astore (lv' := [(4, .ref (ad (9, j, f))), (0, .ref (ad (0, 0, 0))), (1, .int x), (2, .int y), (3, .int (nI q))]) X.1 X.2.1 dX3_at_6 hl (by decide) rfl (fun ls hl => ?_)
      refine lv_aload X.1 X.2.1 dX3_at_8 (lv_at hl 0 rfl) ?_
      refine lv_ifnonnull (tgt := 15) X.1 X.2.1 dX3_at_10 (by decide) ?_
      refine lv_aload X.1 X.2.1 dX3_at_15 (lv_at hl 0 rfl) ?_
      refine lv_iload_n X.1 X.2.1 dX3_at_17 rfl (lv_at hl 4 rfl) ?_
      refine h_callRV (t := (9, j, f)) (As := [.int (nI q)]) (rest := []) X hw cs_X3_103 (c_X1_has l G hrow hlen (nI q)) hr1 rfl rfl hl.1 rfl (Nat.le_of_ble_eq_true rfl) ⟨by decide, by decide⟩ ⟨Nat.zero_le _, Nat.zero_le _⟩ dX3_at_18 ?_
      refine h_tv (b := .int 1) (by rw [hn]; rfl) ?_
      refine lv_if_ne (tgt := 34) X.1 X.2.1 dX3_at_21 (by decide) (fun c21 => ?_) (fun c21 => ?_)
      · refine lv_aload X.1 X.2.1 dX3_at_34 (lv_at hl 0 rfl) ?_
        refine gf_X3_106 X hw hr1 rfl dX3_at_36 ?_
        refine lv_iload_n X.1 X.2.1 dX3_at_39 rfl (lv_at hl 4 rfl) ?_
        refine h_iald X hw hg (vp_in_nI (by omega) (by decide)) dX3_at_40 ?_
        refine h_tv (b := .int (b.getD q 0)) (by rw [nI_clamp (by omega), hgi q hq]) ?_
        exact h_iretT X Y (by simp only [hn, Option.map_some]) dX3_at_41
      · exact absurd c21 (by decide)
set_option maxHeartbeats 4000000 in
set_option maxRecDepth 100000 in
/-- odds -/
theorem c_X3_odds (l : Launch) (G : h_G) {ad : h_T → Nat} {k : h_C} {σ : S_t} (hR : RX G ad k σ) (hiv : s_iv σ) (y side : Int32) (hlt : l.stackTraces = false) : h_Tr l yX3_odds cX3_odds 13 (some .long) 7 114 G ad k [.ref (ad (0, 0, 0)), .int y, .int side] ((sp_odds σ y side).map Value.long) h_E2 := by
  refine h_tr (by decide +kernel) (Nat.le_of_ble_eq_true rfl) ?_
  intro p e s m args below meth c X Y hw hZ hxt ls hl
  have hl : lv_has ls 13 [(0, .ref (ad (0, 0, 0))), (1, .int y), (2, .int side)] := hl
  have hok := hR.ok
  obtain ⟨hx, hs, hst, hi, hit, hcp, hcol, hmx, hask, -⟩ := id hR
  have hx : k (0, 0, 0) = some (.inr (3, [.int (nI (s_cop σ)), .ref (ad (1, 0, 0)), .int (nI (s_nS σ)), .ref (ad (2, 0, 0)), .int (nI (s_nF σ)), .ref (ad (3, 0, 0)), .ref (ad (4, 0, 0)), .ref (ad (5, 0, 0)), .ref (ad (5, 1, 0)), .ref (ad (5, 2, 0)), .int (nI (s_as σ).length), .int (s_dg σ)])) := hx
  have hnS : s_nS σ ≤ 10 := hok.2.1
  have hnF : s_nF σ ≤ 40 := hok.2.2.1
  unfold sp_odds
  rcases hy : ix y (s_nF σ) with _ | f
  · refine lv_aload_n X.1 X.2.1 dX3_odds_0 rfl (lv_at hl 0 rfl) ?_
    refine lv_iload_n X.1 X.2.1 dX3_odds_1 rfl (lv_at hl 1 rfl) ?_
    refine h_callRV (t := (0, 0, 0)) (As := [.int y]) (rest := []) X hw cs_X3_109 (c_X3_itemOf l G hR y) hx rfl rfl hl.1 rfl (Nat.le_of_ble_eq_true rfl) ⟨by decide, by decide⟩ ⟨Nat.zero_le _, Nat.zero_le _⟩ dX3_odds_2 ?_
    refine h_tv (b := .null) (by rw [hy]; rfl) ?_
    refine lv_astore_nN (lv' := [(3, .null), (0, .ref (ad (0, 0, 0))), (1, .int y), (2, .int side)]) X.1 X.2.1 dX3_odds_5 rfl hl (by decide) rfl (fun ls hl => ?_)
    refine lv_aload_nN X.1 X.2.1 dX3_odds_6 rfl (lv_at hl 0 rfl) ?_
    refine lv_ifnonnullN X.1 X.2.1 dX3_odds_7 ?_
    refine lv_ldc2 (v := (-1)) X.1 X.2.1 X.2.2.2.1 (X.2.2.2.2.1 _ wj_X3_162) dX3_odds_10 ?_
    exact h_lretT X Y rfl dX3_odds_13
  · have hf := ix_lt hy
    have hnum := iv_num hiv f
    have loop : ∀ (n i : Nat), i ≤ s_nS σ → s_nS σ + 1 ≤ i + n → (∀ a, a < i → o_bad σ f a = false) → ∀ (ls : Array Slot), lv_has ls 13 [(0, .ref (ad (0, 0, 0))), (1, .int y), (2, .int side), (3, .ref (ad (7, f, 0))), (4, va_rf ((s_lead σ f).map (fun s => ad (9, s, f)))), (5, .long (lN (o_P (s_up σ) (s_bears σ f) i))), (7, .long (lN (o_P (s_dn σ) (s_bears σ f) i))), (9, .int (nI i))] → W p l e (h_rm 7 114 1 6) s m args below meth c s.heap [] 0 0 (vx_MQ below (h_Qt (Option.map Value.long (if (ff (o_bad σ f) (s_nS σ)).isSome then none else some (lN (o_v σ f side))))) (h_Xt (Option.map Value.long (if (ff (o_bad σ f) (s_nS σ)).isSome then none else some (lN (o_v σ f side)))) h_E2) args s 1 6 (fun _ => False)) (F0 m 30 ls []) := by
      intro n
      induction n with
      | zero =>
        intro i h1 h2
        exact absurd h2 (by omega)
      | succ n ih =>
        intro i hii hni hnb ls hl
        refine lv_iload X.1 X.2.1 dX3_odds_30 (lv_at hl 7 rfl) ?_
        refine lv_aload_n X.1 X.2.1 dX3_odds_32 rfl (lv_at hl 0 rfl) ?_
        refine gf_X3_15 X hw hx rfl dX3_odds_33 ?_
        refine lv_icmp_ge (tgt := 111) X.1 X.2.1 dX3_odds_36 (by decide) (fun c36 => ?_) (fun c36 => ?_)
        · obtain rfl : i = s_nS σ := Nat.le_antisymm hii (Nat.le_of_not_lt (fun q => absurd c36 (nI_ge (b := s_nS σ) q (by omega))))
          obtain ⟨hA, hB⟩ := hnum (s_nS σ) (Nat.le_refl _)
          have hBp : 0 < o_P (s_dn σ) (s_bears σ f) (s_nS σ) := oP_pos (fun a ha hba => by
            obtain ⟨ra, rb, r1, r2, r3, r4⟩ := hiv.1 a
            have hq := hnb a ha
            unfold o_bad at hq
            rw [hba] at hq
            have hq2 : ¬ s_dn σ a = 0 := by simpa using hq
            rw [r4, nI_clamp (by omega)]
            rcases Nat.eq_zero_or_pos rb with z | z
            · exact absurd (by rw [r4, z]; rfl) hq2
            · exact z)
          have hff : ff (o_bad σ f) (s_nS σ) = none := ff_miss hnb
          have hgp : 0 < Nat.gcd (o_P (s_up σ) (s_bears σ f) (s_nS σ)) (o_P (s_dn σ) (s_bears σ f) (s_nS σ)) := Nat.gcd_pos_of_pos_right _ hBp
          have hgl : Nat.gcd (o_P (s_up σ) (s_bears σ f) (s_nS σ)) (o_P (s_dn σ) (s_bears σ f) (s_nS σ)) ≤ o_P (s_dn σ) (s_bears σ f) (s_nS σ) := Nat.le_of_dvd hBp (Nat.gcd_dvd_right _ _)
          refine lv_lload X.1 X.2.1 dX3_odds_111 (lv_at hl 5 rfl) ?_
          refine lv_lload X.1 X.2.1 dX3_odds_113 (lv_at hl 6 rfl) ?_
          refine h_callRS (As := [.long (lN (o_P (s_up σ) (s_bears σ f) (s_nS σ))), .long (lN (o_P (s_dn σ) (s_bears σ f) (s_nS σ)))]) (rest := []) X hw cs_X3_173 (c_X3_commonDivisor l G hA hB) rfl hl.1 rfl (Nat.le_of_ble_eq_true rfl) ⟨by decide, by decide⟩ ⟨Nat.zero_le _, Nat.zero_le _⟩ dX3_odds_115 ?_
          refine lv_lstore (lv' := [(9, .long (lN (Nat.gcd (o_P (s_up σ) (s_bears σ f) (s_nS σ)) (o_P (s_dn σ) (s_bears σ f) (s_nS σ))))), (0, .ref (ad (0, 0, 0))), (1, .int y), (2, .int side), (3, .ref (ad (7, f, 0))), (4, va_rf ((s_lead σ f).map (fun s => ad (9, s, f)))), (5, .long (lN (o_P (s_up σ) (s_bears σ f) (s_nS σ)))), (7, .long (lN (o_P (s_dn σ) (s_bears σ f) (s_nS σ))))]) X.1 X.2.1 dX3_odds_118 hl (by decide) rfl (fun ls hl => ?_)
          refine lv_iload_n X.1 X.2.1 dX3_odds_120 rfl (lv_at hl 3 rfl) ?_
          refine lv_if_ne (tgt := 129) X.1 X.2.1 dX3_odds_121 (by decide) (fun c121 => ?_) (fun c121 => ?_)
          · refine lv_lload X.1 X.2.1 dX3_odds_129 (lv_at hl 7 rfl) ?_
            refine lv_lstore (lv' := [(11, .long (lN (o_P (s_dn σ) (s_bears σ f) (s_nS σ)))), (9, .long (lN (Nat.gcd (o_P (s_up σ) (s_bears σ f) (s_nS σ)) (o_P (s_dn σ) (s_bears σ f) (s_nS σ))))), (0, .ref (ad (0, 0, 0))), (1, .int y), (2, .int side), (3, .ref (ad (7, f, 0))), (4, va_rf ((s_lead σ f).map (fun s => ad (9, s, f)))), (5, .long (lN (o_P (s_up σ) (s_bears σ f) (s_nS σ)))), (7, .long (lN (o_P (s_dn σ) (s_bears σ f) (s_nS σ))))]) X.1 X.2.1 dX3_odds_131 hl (by decide) rfl (fun ls hl => ?_)
            rcases Nat.eq_or_lt_of_le hgp with hg1 | hg1
            · refine lv_lload X.1 X.2.1 dX3_odds_133 (lv_at hl 1 rfl) ?_
              refine lv_lconst (v := 1) X.1 X.2.1 dX3_odds_135 (by decide) ?_
              refine h_lcmp (v := 0) (by rw [← hg1]; exact lcv_eq 1) X.1 X.2.1 dX3_odds_136 ?_
              refine lv_if_le (tgt := 148) X.1 X.2.1 dX3_odds_137 (by decide) (fun c137 => ?_) (fun c137 => ?_)
              · refine lv_lload X.1 X.2.1 dX3_odds_148 (lv_at hl 0 rfl) ?_
                exact h_lretT X Y (by
                  rw [hff]
                  show some (Value.long (lN (o_v σ f side))) = _
                  unfold o_v
                  rw [if_neg c121, ← hg1, Nat.div_one]) dX3_odds_150
              · exact absurd (by decide) c137
            · refine lv_lload X.1 X.2.1 dX3_odds_133 (lv_at hl 1 rfl) ?_
              refine lv_lconst (v := 1) X.1 X.2.1 dX3_odds_135 (by decide) ?_
              refine h_lcmp (v := 1) (lcv_gt (b := 1) (by omega) hg1) X.1 X.2.1 dX3_odds_136 ?_
              refine lv_if_le (tgt := 148) X.1 X.2.1 dX3_odds_137 (by decide) (fun c137 => ?_) (fun c137 => ?_)
              · exact absurd c137 (by decide)
              · refine lv_lload X.1 X.2.1 dX3_odds_140 (lv_at hl 0 rfl) ?_
                refine lv_lload X.1 X.2.1 dX3_odds_142 (lv_at hl 1 rfl) ?_
                refine lv_ldiv X.1 X.2.1 dX3_odds_144 (fun q => absurd ((pk_lEQ (b := 0) (by omega) (by omega)).mp q) (by omega)) ?_
                refine h_tl (b := lN (o_P (s_dn σ) (s_bears σ f) (s_nS σ) / Nat.gcd (o_P (s_up σ) (s_bears σ f) (s_nS σ)) (o_P (s_dn σ) (s_bears σ f) (s_nS σ)))) (pk_lDiv (by omega) hgp (by omega)) ?_
                refine lv_goto (tgt := 150) X.1 X.2.1 dX3_odds_145 (by decide) ?_
                exact h_lretT X Y (by
                  rw [hff]
                  show some (Value.long (lN (o_v σ f side))) = _
                  unfold o_v
                  rw [if_neg c121]) dX3_odds_150
          · refine lv_lload X.1 X.2.1 dX3_odds_124 (lv_at hl 6 rfl) ?_
            refine lv_goto (tgt := 131) X.1 X.2.1 dX3_odds_126 (by decide) ?_
            refine lv_lstore (lv' := [(11, .long (lN (o_P (s_up σ) (s_bears σ f) (s_nS σ)))), (9, .long (lN (Nat.gcd (o_P (s_up σ) (s_bears σ f) (s_nS σ)) (o_P (s_dn σ) (s_bears σ f) (s_nS σ))))), (0, .ref (ad (0, 0, 0))), (1, .int y), (2, .int side), (3, .ref (ad (7, f, 0))), (4, va_rf ((s_lead σ f).map (fun s => ad (9, s, f)))), (5, .long (lN (o_P (s_up σ) (s_bears σ f) (s_nS σ)))), (7, .long (lN (o_P (s_dn σ) (s_bears σ f) (s_nS σ))))]) X.1 X.2.1 dX3_odds_131 hl (by decide) rfl (fun ls hl => ?_)
            rcases Nat.eq_or_lt_of_le hgp with hg1 | hg1
            · refine lv_lload X.1 X.2.1 dX3_odds_133 (lv_at hl 1 rfl) ?_
              refine lv_lconst (v := 1) X.1 X.2.1 dX3_odds_135 (by decide) ?_
              refine h_lcmp (v := 0) (by rw [← hg1]; exact lcv_eq 1) X.1 X.2.1 dX3_odds_136 ?_
              refine lv_if_le (tgt := 148) X.1 X.2.1 dX3_odds_137 (by decide) (fun c137 => ?_) (fun c137 => ?_)
              · refine lv_lload X.1 X.2.1 dX3_odds_148 (lv_at hl 0 rfl) ?_
                exact h_lretT X Y (by
                  rw [hff]
                  show some (Value.long (lN (o_v σ f side))) = _
                  unfold o_v
                  rw [if_pos c121, ← hg1, Nat.div_one]) dX3_odds_150
              · exact absurd (by decide) c137
            · refine lv_lload X.1 X.2.1 dX3_odds_133 (lv_at hl 1 rfl) ?_
              refine lv_lconst (v := 1) X.1 X.2.1 dX3_odds_135 (by decide) ?_
              refine h_lcmp (v := 1) (lcv_gt (b := 1) (by omega) hg1) X.1 X.2.1 dX3_odds_136 ?_
              refine lv_if_le (tgt := 148) X.1 X.2.1 dX3_odds_137 (by decide) (fun c137 => ?_) (fun c137 => ?_)
              · exact absurd c137 (by decide)
              · refine lv_lload X.1 X.2.1 dX3_odds_140 (lv_at hl 0 rfl) ?_
                refine lv_lload X.1 X.2.1 dX3_odds_142 (lv_at hl 1 rfl) ?_
                refine lv_ldiv X.1 X.2.1 dX3_odds_144 (fun q => absurd ((pk_lEQ (b := 0) (by omega) (by omega)).mp q) (by omega)) ?_
                refine h_tl (b := lN (o_P (s_up σ) (s_bears σ f) (s_nS σ) / Nat.gcd (o_P (s_up σ) (s_bears σ f) (s_nS σ)) (o_P (s_dn σ) (s_bears σ f) (s_nS σ)))) (pk_lDiv (by omega) hgp (by omega)) ?_
                refine lv_goto (tgt := 150) X.1 X.2.1 dX3_odds_145 (by decide) ?_
                exact h_lretT X Y (by
                  rw [hff]
                  show some (Value.long (lN (o_v σ f side))) = _
                  unfold o_v
                  rw [if_pos c121]) dX3_odds_150
        · have hib : i < s_nS σ := Nat.lt_of_not_le (fun q => c36 (nI_le q (by omega)))
          have hsti := hst i hib
          unfold x_st at hsti
          obtain ⟨ra, rb, r1, r2, r3, r4⟩ := hiv.1 i
          refine lv_aload_n X.1 X.2.1 dX3_odds_39 rfl (lv_at hl 0 rfl) ?_
          refine gf_X3_11 X hw hx rfl dX3_odds_40 ?_
          refine lv_iload X.1 X.2.1 dX3_odds_43 (lv_at hl 7 rfl) ?_
          refine h_aald X hw 6 rfl hs (vp_in_nI (by omega) (by decide)) dX3_odds_45 ?_
          refine h_tv (b := .ref (ad (6, i, 0))) (by rw [nI_clamp (by omega)]; simp only [x_sto, if_pos hib, va_rf]) ?_
          refine lv_astore (lv' := [(10, .ref (ad (6, i, 0))), (0, .ref (ad (0, 0, 0))), (1, .int y), (2, .int side), (3, .ref (ad (7, f, 0))), (4, va_rf ((s_lead σ f).map (fun s => ad (9, s, f)))), (5, .long (lN (o_P (s_up σ) (s_bears σ f) i))), (7, .long (lN (o_P (s_dn σ) (s_bears σ f) i))), (9, .int (nI i))]) X.1 X.2.1 dX3_odds_46 hl (by decide) rfl (fun ls hl => ?_)
          refine lv_aload X.1 X.2.1 dX3_odds_48 (lv_at hl 0 rfl) ?_
          refine lv_ifnull X.1 X.2.1 dX3_odds_50 ?_
          refine lv_aload_n X.1 X.2.1 dX3_odds_53 rfl (lv_at hl 1 rfl) ?_
          refine lv_aload_n X.1 X.2.1 dX3_odds_54 rfl (lv_at hl 4 rfl) ?_
          refine lv_iload X.1 X.2.1 dX3_odds_55 (lv_at hl 8 rfl) ?_
          refine h_aload X dX3_odds_57 (lv_at hl 5 rfl) ?_
          refine h_callRV (t := (0, 0, 0)) (As := [.ref (ad (7, f, 0)), .int (nI i), va_rf ((s_lead σ f).map (fun s => ad (9, s, f)))]) (rest := []) X hw cs_X3_164 (c_X3_bearsOdds l G hR hf hib) hx rfl rfl hl.1 rfl (Nat.le_of_ble_eq_true rfl) ⟨by decide, by decide⟩ ⟨Nat.zero_le _, Nat.zero_le _⟩ dX3_odds_59 ?_
          rcases hb : s_bears σ f i with _ | _
          · refine h_ti (b := 0) rfl ?_
            refine lv_if_eq (tgt := 105) X.1 X.2.1 dX3_odds_62 (by decide) (fun c62 => ?_) (fun c62 => ?_)
            · refine lv_iinc (v := nI (i + 1)) (lv' := [(9, .int (nI (i + 1))), (10, .ref (ad (6, i, 0))), (0, .ref (ad (0, 0, 0))), (1, .int y), (2, .int side), (3, .ref (ad (7, f, 0))), (4, va_rf ((s_lead σ f).map (fun s => ad (9, s, f)))), (5, .long (lN (o_P (s_up σ) (s_bears σ f) i))), (7, .long (lN (o_P (s_dn σ) (s_bears σ f) i)))]) X.1 X.2.1 dX3_odds_105 hl (k := 8) rfl (nI_1 _) (by decide) rfl (fun ls hl => ?_)
              refine lv_goto (tgt := 30) X.1 X.2.1 dX3_odds_108 (by decide) ?_
              exact ih (i + 1) (by omega) (by omega) (fun a ha => by
                rcases Nat.lt_succ_iff_lt_or_eq.mp ha with q | q
                · exact hnb a q
                · rw [q]; unfold o_bad; rw [hb]; rfl) ls (by
                rw [oP_f hb, oP_f hb]
                exact lv_sub hl [2, 3, 4, 5, 6, 7, 8, 0] rfl)
            · exact absurd (by decide) c62
          · refine h_ti (b := 1) rfl ?_
            refine lv_if_eq (tgt := 105) X.1 X.2.1 dX3_odds_62 (by decide) (fun c62 => ?_) (fun c62 => ?_)
            · exact absurd c62 (by decide)
            · refine lv_aload X.1 X.2.1 dX3_odds_65 (lv_at hl 0 rfl) ?_
              refine gf_X3_159 X hw hsti rfl dX3_odds_67 ?_
              refine lv_if_ne (tgt := 83) X.1 X.2.1 dX3_odds_70 (by decide) (fun c70 => ?_) (fun c70 => ?_)
              · refine lv_lload X.1 X.2.1 dX3_odds_83 (lv_at hl 6 rfl) ?_
                refine lv_aload X.1 X.2.1 dX3_odds_85 (lv_at hl 0 rfl) ?_
                refine gf_X3_156 X hw hsti rfl dX3_odds_87 ?_
                refine lv_i2l X.1 X.2.1 dX3_odds_90 rfl ?_
                refine lv_lmul X.1 X.2.1 dX3_odds_91 ?_
                refine h_tl (b := lN (o_P (s_up σ) (s_bears σ f) i * (s_up σ i).toNatClampNeg)) (l_mulI (a := ra) (by omega) r3) ?_
                refine lv_lstore (lv' := [(5, .long (lN (o_P (s_up σ) (s_bears σ f) i * (s_up σ i).toNatClampNeg))), (10, .ref (ad (6, i, 0))), (0, .ref (ad (0, 0, 0))), (1, .int y), (2, .int side), (3, .ref (ad (7, f, 0))), (4, va_rf ((s_lead σ f).map (fun s => ad (9, s, f)))), (7, .long (lN (o_P (s_dn σ) (s_bears σ f) i))), (9, .int (nI i))]) X.1 X.2.1 dX3_odds_92 hl (by decide) (by simp [h_cat]) (fun ls hl => ?_)
                refine lv_lload X.1 X.2.1 dX3_odds_94 (lv_at hl 7 rfl) ?_
                refine lv_aload X.1 X.2.1 dX3_odds_96 (lv_at hl 1 rfl) ?_
                refine gf_X3_159 X hw hsti rfl dX3_odds_98 ?_
                refine lv_i2l X.1 X.2.1 dX3_odds_101 rfl ?_
                refine lv_lmul X.1 X.2.1 dX3_odds_102 ?_
                refine h_tl (b := lN (o_P (s_dn σ) (s_bears σ f) i * (s_dn σ i).toNatClampNeg)) (l_mulI (a := rb) (by omega) r4) ?_
                refine lv_lstore (lv' := [(7, .long (lN (o_P (s_dn σ) (s_bears σ f) i * (s_dn σ i).toNatClampNeg))), (5, .long (lN (o_P (s_up σ) (s_bears σ f) i * (s_up σ i).toNatClampNeg))), (10, .ref (ad (6, i, 0))), (0, .ref (ad (0, 0, 0))), (1, .int y), (2, .int side), (3, .ref (ad (7, f, 0))), (4, va_rf ((s_lead σ f).map (fun s => ad (9, s, f)))), (9, .int (nI i))]) X.1 X.2.1 dX3_odds_103 hl (by decide) rfl (fun ls hl => ?_)
                refine lv_iinc (v := nI (i + 1)) (lv' := [(9, .int (nI (i + 1))), (7, .long (lN (o_P (s_dn σ) (s_bears σ f) i * (s_dn σ i).toNatClampNeg))), (5, .long (lN (o_P (s_up σ) (s_bears σ f) i * (s_up σ i).toNatClampNeg))), (10, .ref (ad (6, i, 0))), (0, .ref (ad (0, 0, 0))), (1, .int y), (2, .int side), (3, .ref (ad (7, f, 0))), (4, va_rf ((s_lead σ f).map (fun s => ad (9, s, f))))]) X.1 X.2.1 dX3_odds_105 hl (k := 8) rfl (nI_1 _) (by decide) rfl (fun ls hl => ?_)
                refine lv_goto (tgt := 30) X.1 X.2.1 dX3_odds_108 (by decide) ?_
                exact ih (i + 1) (by omega) (by omega) (fun a ha => by
                  rcases Nat.lt_succ_iff_lt_or_eq.mp ha with q | q
                  · exact hnb a q
                  · rw [q]; unfold o_bad; rw [hb]; simp [c70]) ls (by
                  rw [oP_t hb, oP_t hb]
                  exact lv_sub hl [4, 5, 6, 7, 8, 2, 1, 0] rfl)
              · obtain ⟨hs1, hs2, hs3, hw4, h5, h6⟩ := hZ
                obtain ⟨sa, hsa⟩ := hs2
                exact h_throw (E := h_E2) (names := h_n2) X Y hlt hxt (fun w hw => List.mem_append_right _ (List.mem_append_left _ hw)) (by decide +kernel) (by decide +kernel) wk_X3_168 wn_java_lang_ArithmeticException h_ot2 hsa hw4 h5 h6 hl.1 (by rw [if_pos (by rw [ff_hit hnb (by unfold o_bad; rw [hb, c70]; rfl) hib]; rfl)]; rfl) dX3_odds_73 dX3_odds_76 dX3_odds_77 dX3_odds_79 dX3_odds_82 (by decide) (by decide)
    refine lv_aload_n X.1 X.2.1 dX3_odds_0 rfl (lv_at hl 0 rfl) ?_
    refine lv_iload_n X.1 X.2.1 dX3_odds_1 rfl (lv_at hl 1 rfl) ?_
    refine h_callRV (t := (0, 0, 0)) (As := [.int y]) (rest := []) X hw cs_X3_109 (c_X3_itemOf l G hR y) hx rfl rfl hl.1 rfl (Nat.le_of_ble_eq_true rfl) ⟨by decide, by decide⟩ ⟨Nat.zero_le _, Nat.zero_le _⟩ dX3_odds_2 ?_
    refine h_tv (b := .ref (ad (7, f, 0))) (by rw [hy]; rfl) ?_
    refine lv_astore_n (lv' := [(3, .ref (ad (7, f, 0))), (0, .ref (ad (0, 0, 0))), (1, .int y), (2, .int side)]) X.1 X.2.1 dX3_odds_5 rfl hl (by decide) rfl (fun ls hl => ?_)
    refine lv_aload_n X.1 X.2.1 dX3_odds_6 rfl (lv_at hl 0 rfl) ?_
    refine lv_ifnonnull (tgt := 14) X.1 X.2.1 dX3_odds_7 (by decide) ?_
    refine lv_aload_n X.1 X.2.1 dX3_odds_14 rfl (lv_at hl 1 rfl) ?_
    refine lv_aload_n X.1 X.2.1 dX3_odds_15 rfl (lv_at hl 0 rfl) ?_
    refine h_callRV (t := (0, 0, 0)) (As := [.ref (ad (7, f, 0))]) (rest := []) X hw cs_X3_139 (c_X3_majorityRow l G hR hf) hx rfl rfl hl.1 rfl (Nat.le_of_ble_eq_true rfl) ⟨by decide, by decide⟩ ⟨Nat.zero_le _, Nat.zero_le _⟩ dX3_odds_16 ?_
    refine h_astore (lv' := [(4, va_rf ((s_lead σ f).map (fun s => ad (9, s, f)))), (3, .ref (ad (7, f, 0))), (0, .ref (ad (0, 0, 0))), (1, .int y), (2, .int side)]) X dX3_odds_19 hl (by decide) rfl (fun ls hl => ?_)
    refine lv_lconst (v := 1) X.1 X.2.1 dX3_odds_21 (by decide) ?_
    refine lv_lstore (lv' := [(5, .long 1), (4, va_rf ((s_lead σ f).map (fun s => ad (9, s, f)))), (3, .ref (ad (7, f, 0))), (0, .ref (ad (0, 0, 0))), (1, .int y), (2, .int side)]) X.1 X.2.1 dX3_odds_22 hl (by decide) (by simp [h_cat]) (fun ls hl => ?_)
    refine lv_lconst (v := 1) X.1 X.2.1 dX3_odds_24 (by decide) ?_
    refine lv_lstore (lv' := [(7, .long 1), (5, .long 1), (4, va_rf ((s_lead σ f).map (fun s => ad (9, s, f)))), (3, .ref (ad (7, f, 0))), (0, .ref (ad (0, 0, 0))), (1, .int y), (2, .int side)]) X.1 X.2.1 dX3_odds_25 hl (by decide) rfl (fun ls hl => ?_)
    refine lv_iconst (v := 0) X.1 X.2.1 dX3_odds_27 (by decide) ?_
    refine lv_istore (lv' := [(9, .int 0), (7, .long 1), (5, .long 1), (4, va_rf ((s_lead σ f).map (fun s => ad (9, s, f)))), (3, .ref (ad (7, f, 0))), (0, .ref (ad (0, 0, 0))), (1, .int y), (2, .int side)]) X.1 X.2.1 dX3_odds_28 hl (by decide) rfl (fun ls hl => ?_)
    exact loop (s_nS σ + 1) 0 (by omega) (by omega) (fun a ha => absurd ha (Nat.not_lt_zero a)) ls (lv_sub hl [5, 6, 7, 4, 3, 2, 1, 0] rfl)
