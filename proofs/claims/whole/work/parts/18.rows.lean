set_option maxHeartbeats 4000000 in
set_option maxRecDepth 100000 in
/-- Row(): no bytes -/
theorem c_X1_init (l : Launch) (G : h_G) {ad : h_T → Nat} {k : h_C} {t u : h_T} (ht : k t = some (.inr (1, [.null, .int 0]))) (hu : k u = none) (htu : t ≠ u)  : h_Wr l yX1_init cX1_init 1 none 1 12 1 16 G ad k [.ref (ad t)] (fun r ad' k' => r = none ∧ x_row G ad' k' t u [] ∧ ad' t = ad t ∧ ∀ v : h_T, v ≠ t → v ≠ u → k' v = k v ∧ ad' v = ad v) := by
  refine h_wr (by decide +kernel) (Nat.le_of_ble_eq_true rfl) ?_
  intro p e s m args below meth c X Y hw ls hl
  have hl : lv_has ls 1 [(0, .ref (ad t))] := hl
  refine lv_aload_n X.1 X.2.1 dX1_init_0 rfl (lv_at hl 0 rfl) ?_
  refine W.objInit X.1 X.2.1 X.2.2.2.1 (X.2.2.2.2.1 _ oi_X1) (X.2.2.2.2.1 _ oi_i) (X.2.2.2.2.1 _ oi_c) rfl (by rw [X.2.2.1]; exact hl.1) rfl dX1_init_1 (Nat.le_of_ble_eq_true rfl) (Nat.le_of_ble_eq_true rfl) ?_
  refine W.eq (g2 := F0 m 4 ls []) rfl ?_
  refine lv_aload_n X.1 X.2.1 dX1_init_4 rfl (lv_at hl 0 rfl) ?_
  refine lv_bipush (v := 16) X.1 X.2.1 dX1_init_5 (by decide) ?_
  refine h_newa X hw u hu (ty := .int) rfl wr_int 0 rfl (N' := 16) (a0 := (16, .inl (fun _ => 0))) (fun _ => rfl) (by decide) (by decide) (by decide) (Nat.le_of_ble_eq_true rfl) (Nat.le_of_ble_eq_true rfl) dX1_init_7 (fun q H hw => ?_)
  obtain ⟨k1, hk1⟩ : ∃ zz, zz = h_cu k u (some (.inl (G.2 0, 16, .inl (fun _ => 0)))) := ⟨_, rfl⟩
  obtain ⟨ad1, had1⟩ : ∃ zz, zz = h_au ad u q := ⟨_, rfl⟩
  replace hw := (hw.ren hk1).renA had1
  obtain rfl : q = ad1 u := by rw [had1, h_as]
  have ea1_0 : ad t = ad1 t := by rw [had1, h_an _ _ htu]
  simp only [ea1_0] at hl
  simp only [ea1_0]
  have f1_t : k1 t = some (.inr (1, [.null, .int 0])) := by rw [hk1, h_cn _ _ htu, ht]
  have f1_u : k1 u = some (.inl (G.2 0, 16, .inl (fun _ => 0))) := by rw [hk1]; exact h_cs _ _ _
  refine pf_X1_9 X hw Y.2.2 f1_t rfl rfl (Nat.le_of_ble_eq_true rfl) dX1_init_9 (fun H locs hw => ?_)
  obtain ⟨k2, hk2⟩ : ∃ zz, zz = h_cu k1 t (some (.inr (1, [.ref (ad1 u), .int 0]))) := ⟨_, rfl⟩
  have hw := h_W.ren hw hk2
  have f2_t : k2 t = some (.inr (1, [.ref (ad1 u), .int 0])) := by rw [hk2]; exact h_cs _ _ _
  have f2_u : k2 u = some (.inl (G.2 0, 16, .inl (fun _ => 0))) := by rw [hk2, h_cn _ _ (Ne.symm htu)]; exact f1_u
  refine lv_aload_n X.1 X.2.1 dX1_init_12 rfl (lv_at hl 0 rfl) ?_
  refine lv_iconst (v := 0) X.1 X.2.1 dX1_init_13 (by decide) ?_
  refine pf_X1_15 X hw f2_t rfl rfl (Nat.le_of_ble_eq_true rfl) dX1_init_14 (fun H locs hw => ?_)
  obtain ⟨k3, hk3⟩ : ∃ zz, zz = h_cu k2 t (some (.inr (1, [.ref (ad1 u), .int 0]))) := ⟨_, rfl⟩
  have hw := h_W.ren hw hk3
  have f3_t : k3 t = some (.inr (1, [.ref (ad1 u), .int 0])) := by rw [hk3]; exact h_cs _ _ _
  have f3_u : k3 u = some (.inl (G.2 0, 16, .inl (fun _ => 0))) := by rw [hk3, h_cn _ _ (Ne.symm htu)]; exact f2_u
  exact h_vretW X Y hw ⟨rfl, ⟨by rw [hk3, h_cs]; rfl, _, by rw [hk3, h_cn _ _ (Ne.symm htu), hk2, h_cn _ _ (Ne.symm htu), hk1, h_cs], fun i hi => absurd hi (Nat.not_lt_zero i)⟩, by rw [had1, h_an _ _ htu], fun v h1 h2 => ⟨by rw [hk3, h_cn _ _ h1, hk2, h_cn _ _ h1, hk1, h_cn _ _ h2], by rw [had1, h_an _ _ h2]⟩⟩ (Nat.le_of_ble_eq_true rfl) (Nat.le_of_ble_eq_true rfl) dX1_init_17
set_option maxHeartbeats 4000000 in
set_option maxRecDepth 100000 in
/-- Row.append -/
theorem c_X1_append (l : Launch) (G : h_G) {ad : h_T → Nat} {k : h_C} {t u : h_T} {b : List Int32} (hb : x_row G ad k t u b) (hlen : b.length ≤ 16) (htu : t ≠ u) (x : Int32) : h_Wr l yX1_append cX1_append 2 none 0 0 0 0 G ad k [.ref (ad t), .int x] (fun r ad' k' => r = none ∧ ad' = ad ∧ x_row G ad k' t u (if b.length < 16 then b ++ [x &&& 255] else b) ∧ ∀ v : h_T, v ≠ t → v ≠ u → k' v = k v) := by
  refine h_wr (by decide +kernel) (Nat.le_of_ble_eq_true rfl) ?_
  intro p e s m args below meth c X Y hw ls hl
  have hl : lv_has ls 2 [(0, .ref (ad t)), (1, .int x)] := hl
  obtain ⟨hr1, g, hg, hgi⟩ := id hb
  refine lv_aload_n X.1 X.2.1 dX1_append_0 rfl (lv_at hl 0 rfl) ?_
  refine gf_X1_15 X hw hr1 rfl dX1_append_1 ?_
  refine lv_aload_n X.1 X.2.1 dX1_append_4 rfl (lv_at hl 0 rfl) ?_
  refine gf_X1_9 X hw hr1 rfl dX1_append_5 ?_
  refine h_alen X hw 0 rfl hg (v := 16) rfl dX1_append_8 ?_
  refine lv_icmp_ge (tgt := 36) X.1 X.2.1 dX1_append_9 (by decide) (fun c9 => ?_) (fun c9 => ?_)
  · rw [if_neg (fun q => absurd c9 (nI_ge (b := 16) q (by omega)))]
    exact h_vretW X Y hw ⟨rfl, rfl, hb, fun _ _ _ => rfl⟩ (Nat.zero_le _) (Nat.zero_le _) dX1_append_36
  · have hlt : b.length < 16 := Nat.lt_of_not_le (fun q => c9 (nI_le (a := 16) q (by omega)))
    refine lv_aload_n X.1 X.2.1 dX1_append_12 rfl (lv_at hl 0 rfl) ?_
    refine gf_X1_9 X hw hr1 rfl dX1_append_13 ?_
    refine lv_aload_n X.1 X.2.1 dX1_append_16 rfl (lv_at hl 0 rfl) ?_
    refine gf_X1_15 X hw hr1 rfl dX1_append_17 ?_
    refine lv_iload_n X.1 X.2.1 dX1_append_20 rfl (lv_at hl 1 rfl) ?_
    refine lv_sipush (v := 255) X.1 X.2.1 dX1_append_21 (by decide) ?_
    refine lv_iand X.1 X.2.1 dX1_append_24 ?_
    refine h_iast X hw hg (vp_in_nI hlt (by decide)) dX1_append_25 (fun H locs hw => ?_)
    obtain ⟨k1, hk1⟩ : ∃ zz, zz = h_cu k u (some (.inl (G.2 0, 16, .inl (upd g (nI b.length).toNatClampNeg (x &&& 255))))) := ⟨_, rfl⟩
    have hw := h_W.ren hw hk1
    have f1_t : k1 t = some (.inr (1, [.ref (ad u), .int (nI b.length)])) := by rw [hk1, h_cn _ _ htu]; exact hr1
    have f1_u : k1 u = some (.inl (G.2 0, 16, .inl (upd g (nI b.length).toNatClampNeg (x &&& 255)))) := by rw [hk1]; exact h_cs _ _ _
    refine lv_aload_n X.1 X.2.1 dX1_append_26 rfl (lv_at hl 0 rfl) ?_
    refine lv_dup X.1 X.2.1 dX1_append_27 rfl ?_
    refine gf_X1_15 X hw f1_t rfl dX1_append_28 ?_
    refine lv_iconst (v := 1) X.1 X.2.1 dX1_append_31 (by decide) ?_
    refine lv_iadd X.1 X.2.1 dX1_append_32 ?_
    refine h_ti (b := nI (b.length + 1)) (nI_1 _) ?_
    refine pf_X1_15 X hw f1_t rfl rfl (Nat.le_of_ble_eq_true rfl) dX1_append_33 (fun H locs hw => ?_)
    obtain ⟨k2, hk2⟩ : ∃ zz, zz = h_cu k1 t (some (.inr (1, [.ref (ad u), .int (nI (b.length + 1))]))) := ⟨_, rfl⟩
    have hw := h_W.ren hw hk2
    have f2_t : k2 t = some (.inr (1, [.ref (ad u), .int (nI (b.length + 1))])) := by rw [hk2]; exact h_cs _ _ _
    have f2_u : k2 u = some (.inl (G.2 0, 16, .inl (upd g (nI b.length).toNatClampNeg (x &&& 255)))) := by rw [hk2, h_cn _ _ (Ne.symm htu)]; exact f1_u
    rw [if_pos hlt]
    exact h_vretW X Y hw ⟨rfl, rfl, ⟨by rw [hk2, h_cs, List.length_append]; rfl, _, by rw [hk2, h_cn _ _ (Ne.symm htu), hk1, h_cs], fun i hi => by
      rw [List.length_append] at hi
      rw [nI_clamp (by omega)]
      by_cases hib : i = b.length
      · subst hib
        rw [pk_us, List.getD_eq_getElem?_getD, List.getElem?_append_right (Nat.le_refl _)]
        simp
      · have hi2 : i < b.length := by simp at hi; omega
        rw [pk_un hib, hgi i hi2, List.getD_eq_getElem?_getD, List.getD_eq_getElem?_getD, List.getElem?_append_left hi2]⟩, fun v h1 h2 => by rw [hk2, h_cn _ _ h1, hk1, h_cn _ _ h2]⟩ (Nat.zero_le _) (Nat.zero_le _) dX1_append_36
set_option maxHeartbeats 4000000 in
set_option maxRecDepth 100000 in
/-- Store(place) -/
theorem c_X2_init (l : Launch) (G : h_G) {ad : h_T → Nat} {k : h_C} {t : h_T} (ht : k t = some (.inr (2, [.int 0, .int 0, .int 0, .int 0]))) (x : Int32) : h_Wr l yX2_init cX2_init 2 none 1 12 0 0 G ad k [.ref (ad t), .int x] (fun r ad' k' => r = none ∧ ad' = ad ∧ k' = h_cu k t (some (.inr (2, [.int x, .int 1, .int 0, .int 0])))) := by
  refine h_wr (by decide +kernel) (Nat.le_of_ble_eq_true rfl) ?_
  intro p e s m args below meth c X Y hw ls hl
  have hl : lv_has ls 2 [(0, .ref (ad t)), (1, .int x)] := hl
  refine lv_aload_n X.1 X.2.1 dX2_init_0 rfl (lv_at hl 0 rfl) ?_
  refine W.objInit X.1 X.2.1 X.2.2.2.1 (X.2.2.2.2.1 _ oi_X2) (X.2.2.2.2.1 _ oi_i) (X.2.2.2.2.1 _ oi_c) rfl (by rw [X.2.2.1]; exact hl.1) rfl dX2_init_1 (Nat.le_of_ble_eq_true rfl) (Nat.le_of_ble_eq_true rfl) ?_
  refine W.eq (g2 := F0 m 4 ls []) rfl ?_
  refine lv_aload_n X.1 X.2.1 dX2_init_4 rfl (lv_at hl 0 rfl) ?_
  refine lv_iconst (v := 1) X.1 X.2.1 dX2_init_5 (by decide) ?_
  refine pf_X2_7 X hw ht rfl rfl (Nat.le_of_ble_eq_true rfl) dX2_init_6 (fun H locs hw => ?_)
  obtain ⟨k1, hk1⟩ : ∃ zz, zz = h_cu k t (some (.inr (2, [.int 0, .int 1, .int 0, .int 0]))) := ⟨_, rfl⟩
  have hw := h_W.ren hw hk1
  have f1_t : k1 t = some (.inr (2, [.int 0, .int 1, .int 0, .int 0])) := by rw [hk1]; exact h_cs _ _ _
  refine lv_aload_n X.1 X.2.1 dX2_init_9 rfl (lv_at hl 0 rfl) ?_
  refine lv_iconst (v := 0) X.1 X.2.1 dX2_init_10 (by decide) ?_
  refine pf_X2_13 X hw f1_t rfl rfl (Nat.le_of_ble_eq_true rfl) dX2_init_11 (fun H locs hw => ?_)
  obtain ⟨k2, hk2⟩ : ∃ zz, zz = h_cu k1 t (some (.inr (2, [.int 0, .int 1, .int 0, .int 0]))) := ⟨_, rfl⟩
  have hw := h_W.ren hw hk2
  have f2_t : k2 t = some (.inr (2, [.int 0, .int 1, .int 0, .int 0])) := by rw [hk2]; exact h_cs _ _ _
  refine lv_aload_n X.1 X.2.1 dX2_init_14 rfl (lv_at hl 0 rfl) ?_
  refine lv_iconst (v := 0) X.1 X.2.1 dX2_init_15 (by decide) ?_
  refine pf_X2_17 X hw f2_t rfl rfl (Nat.le_of_ble_eq_true rfl) dX2_init_16 (fun H locs hw => ?_)
  obtain ⟨k3, hk3⟩ : ∃ zz, zz = h_cu k2 t (some (.inr (2, [.int 0, .int 1, .int 0, .int 0]))) := ⟨_, rfl⟩
  have hw := h_W.ren hw hk3
  have f3_t : k3 t = some (.inr (2, [.int 0, .int 1, .int 0, .int 0])) := by rw [hk3]; exact h_cs _ _ _
  refine lv_aload_n X.1 X.2.1 dX2_init_19 rfl (lv_at hl 0 rfl) ?_
  refine lv_iload_n X.1 X.2.1 dX2_init_20 rfl (lv_at hl 1 rfl) ?_
  refine pf_X2_20 X hw Y.2.2 f3_t rfl rfl (Nat.le_of_ble_eq_true rfl) dX2_init_21 (fun H locs hw => ?_)
  obtain ⟨k4, hk4⟩ : ∃ zz, zz = h_cu k3 t (some (.inr (2, [.int x, .int 1, .int 0, .int 0]))) := ⟨_, rfl⟩
  have hw := h_W.ren hw hk4
  have f4_t : k4 t = some (.inr (2, [.int x, .int 1, .int 0, .int 0])) := by rw [hk4]; exact h_cs _ _ _
  exact h_vretW X Y hw ⟨rfl, rfl, by rw [hk4, hk3, hk2, hk1, h_cuu, h_cuu, h_cuu]⟩ (Nat.zero_le _) (Nat.zero_le _) dX2_init_24
set_option maxHeartbeats 4000000 in
set_option maxRecDepth 100000 in
/-- Item(package) -/
theorem c_X0_init (l : Launch) (G : h_G) {ad : h_T → Nat} {k : h_C} {t u : h_T} (ht : k t = some (.inr (0, [.int 0, .null, .int 0]))) (hu : k u = none) (htu : t ≠ u) (x : Int32) : h_Wr l yX0_init cX0_init 2 none 1 12 1 10 G ad k [.ref (ad t), .int x] (fun r ad' k' => r = none ∧ k' t = some (.inr (0, [.int x, .ref (ad' u), .int 0])) ∧ k' u = some (.inl (G.2 5, 10, x_refs (fun _ => none))) ∧ ad' t = ad t ∧ ∀ v : h_T, v ≠ t → v ≠ u → k' v = k v ∧ ad' v = ad v) := by
  refine h_wr (by decide +kernel) (Nat.le_of_ble_eq_true rfl) ?_
  intro p e s m args below meth c X Y hw ls hl
  have hl : lv_has ls 2 [(0, .ref (ad t)), (1, .int x)] := hl
  refine lv_aload_n X.1 X.2.1 dX0_init_0 rfl (lv_at hl 0 rfl) ?_
  refine W.objInit X.1 X.2.1 X.2.2.2.1 (X.2.2.2.2.1 _ oi_X0) (X.2.2.2.2.1 _ oi_i) (X.2.2.2.2.1 _ oi_c) rfl (by rw [X.2.2.1]; exact hl.1) rfl dX0_init_1 (Nat.le_of_ble_eq_true rfl) (Nat.le_of_ble_eq_true rfl) ?_
  refine W.eq (g2 := F0 m 4 ls []) rfl ?_
  refine lv_aload_n X.1 X.2.1 dX0_init_4 rfl (lv_at hl 0 rfl) ?_
  refine lv_bipush (v := 10) X.1 X.2.1 dX0_init_5 (by decide) ?_
  refine h_newq X hw u hu wk_X0_9 X.2.2.2.2.2.2.2.2.1 5 rfl (N' := 10) (by decide) (by decide) (by decide) (Nat.le_of_ble_eq_true rfl) (Nat.le_of_ble_eq_true rfl) dX0_init_7 (fun q H hw => ?_)
  obtain ⟨k1, hk1⟩ : ∃ zz, zz = h_cu k u (some (.inl (G.2 5, 10, x_refs (fun _ => none)))) := ⟨_, rfl⟩
  obtain ⟨ad1, had1⟩ : ∃ zz, zz = h_au ad u q := ⟨_, rfl⟩
  replace hw := (hw.ren hk1).renA had1
  obtain rfl : q = ad1 u := by rw [had1, h_as]
  have ea1_0 : ad t = ad1 t := by rw [had1, h_an _ _ htu]
  simp only [ea1_0] at hl
  simp only [ea1_0]
  have f1_t : k1 t = some (.inr (0, [.int 0, .null, .int 0])) := by rw [hk1, h_cn _ _ htu, ht]
  have f1_u : k1 u = some (.inl (G.2 5, 10, x_refs (fun _ => none))) := by rw [hk1]; exact h_cs _ _ _
  refine pf_X0_11 X hw Y.2.2 f1_t rfl rfl (Nat.le_of_ble_eq_true rfl) dX0_init_10 (fun H locs hw => ?_)
  obtain ⟨k2, hk2⟩ : ∃ zz, zz = h_cu k1 t (some (.inr (0, [.int 0, .ref (ad1 u), .int 0]))) := ⟨_, rfl⟩
  have hw := h_W.ren hw hk2
  have f2_t : k2 t = some (.inr (0, [.int 0, .ref (ad1 u), .int 0])) := by rw [hk2]; exact h_cs _ _ _
  have f2_u : k2 u = some (.inl (G.2 5, 10, x_refs (fun _ => none))) := by rw [hk2, h_cn _ _ (Ne.symm htu)]; exact f1_u
  refine lv_aload_n X.1 X.2.1 dX0_init_13 rfl (lv_at hl 0 rfl) ?_
  refine lv_iconst (v := 0) X.1 X.2.1 dX0_init_14 (by decide) ?_
  refine pf_X0_17 X hw f2_t rfl rfl (Nat.le_of_ble_eq_true rfl) dX0_init_15 (fun H locs hw => ?_)
  obtain ⟨k3, hk3⟩ : ∃ zz, zz = h_cu k2 t (some (.inr (0, [.int 0, .ref (ad1 u), .int 0]))) := ⟨_, rfl⟩
  have hw := h_W.ren hw hk3
  have f3_t : k3 t = some (.inr (0, [.int 0, .ref (ad1 u), .int 0])) := by rw [hk3]; exact h_cs _ _ _
  have f3_u : k3 u = some (.inl (G.2 5, 10, x_refs (fun _ => none))) := by rw [hk3, h_cn _ _ (Ne.symm htu)]; exact f2_u
  refine lv_aload_n X.1 X.2.1 dX0_init_18 rfl (lv_at hl 0 rfl) ?_
  refine lv_iload_n X.1 X.2.1 dX0_init_19 rfl (lv_at hl 1 rfl) ?_
  refine pf_X0_21 X hw Y.2.2 f3_t rfl rfl (Nat.le_of_ble_eq_true rfl) dX0_init_20 (fun H locs hw => ?_)
  obtain ⟨k4, hk4⟩ : ∃ zz, zz = h_cu k3 t (some (.inr (0, [.int x, .ref (ad1 u), .int 0]))) := ⟨_, rfl⟩
  have hw := h_W.ren hw hk4
  have f4_t : k4 t = some (.inr (0, [.int x, .ref (ad1 u), .int 0])) := by rw [hk4]; exact h_cs _ _ _
  have f4_u : k4 u = some (.inl (G.2 5, 10, x_refs (fun _ => none))) := by rw [hk4, h_cn _ _ (Ne.symm htu)]; exact f3_u
  exact h_vretW X Y hw ⟨rfl, by rw [hk4, h_cs], by rw [hk4, h_cn _ _ (Ne.symm htu), hk3, h_cn _ _ (Ne.symm htu), hk2, h_cn _ _ (Ne.symm htu), hk1, h_cs], by rw [had1, h_an _ _ htu], fun v h1 h2 => ⟨by rw [hk4, h_cn _ _ h1, hk3, h_cn _ _ h1, hk2, h_cn _ _ h1, hk1, h_cn _ _ h2], by rw [had1, h_an _ _ h2]⟩⟩ (Nat.le_of_ble_eq_true rfl) (Nat.le_of_ble_eq_true rfl) dX0_init_23
