set_option maxHeartbeats 4000000 in
set_option maxRecDepth 100000 in
/-- Row.become -/
theorem c_X1_become (l : Launch) (G : h_G) {ad : h_T → Nat} {k : h_C} {t u t2 u2 : h_T} {b b2 : List Int32} (hb : x_row G ad k t u b) (hb2 : x_row G ad k t2 u2 b2) (hlen : b2.length ≤ 16) (htu : t ≠ u) (ht2 : t2 ≠ t) (hu2 : u2 ≠ u) (htu2 : t2 ≠ u)  : h_Wr l yX1_become cX1_become 3 none 0 0 0 0 G ad k [.ref (ad t), .ref (ad t2)] (fun r ad' k' => r = none ∧ ad' = ad ∧ x_row G ad k' t u b2 ∧ ∀ v : h_T, v ≠ t → v ≠ u → k' v = k v) := by
  refine h_wr (by decide +kernel) (Nat.le_of_ble_eq_true rfl) ?_
  intro p e s m args below meth c X Y hw ls hl
  have hl : lv_has ls 3 [(0, .ref (ad t)), (1, .ref (ad t2))] := hl
  obtain ⟨hr1, g1, hg1, hgi1⟩ := id hb
  obtain ⟨hr2, g2, hg2, hgi2⟩ := id hb2
  have nut : u2 ≠ t := fun e => by rw [e, hr1] at hg2; cases hg2
  have loop : ∀ (n i : Nat), i ≤ b2.length → b2.length + 1 ≤ i + n → ∀ (kk : h_C) (g : Nat → Int32) (H : Heap) (locs : List Loc), kk u = some (.inl (G.2 0, 16, .inl g)) → (∀ v : h_T, v ≠ u → kk v = k v) → (∀ j, j < i → g j = b2.getD j 0) → h_W G.1 h_cl (h_A ad k s.heap.size) s.heap ad kk H locs → ∀ (ls : Array Slot), lv_has ls 3 [(0, .ref (ad t)), (1, .ref (ad t2)), (2, .int (nI i))] → W p l e (h_rm 0 0 0 0) s m args below meth c H locs 0 0 (MQ below (h_Qw G ad k s.heap.size (fun r ad' k' => r = none ∧ ad' = ad ∧ x_row G ad k' t u b2 ∧ ∀ v : h_T, v ≠ t → v ≠ u → k' v = k v)) args s 0 0 (h_A ad k s.heap.size)) (F0 m 2 ls []) := by
    intro n
    induction n with
    | zero =>
      intro i h1 h2
      exact absurd h2 (by omega)
    | succ n ih =>
      intro i hii hni kk g H locs fu ho hgg hw ls hl
      have ft : kk t = some (.inr (1, [.ref (ad u), .int (nI b.length)])) := by rw [ho t htu]; exact hr1
      have ft2 : kk t2 = some (.inr (1, [.ref (ad u2), .int (nI b2.length)])) := by rw [ho t2 htu2]; exact hr2
      have fu2 : kk u2 = some (.inl (G.2 0, 16, .inl g2)) := by rw [ho u2 hu2]; exact hg2
      refine lv_iload_n X.1 X.2.1 dX1_become_2 rfl (lv_at hl 2 rfl) ?_
      refine lv_aload_n X.1 X.2.1 dX1_become_3 rfl (lv_at hl 1 rfl) ?_
      refine gf_X1_15 X hw ft2 rfl dX1_become_4 ?_
      refine lv_icmp_ge (tgt := 28) X.1 X.2.1 dX1_become_7 (by decide) (fun c7 => ?_) (fun c7 => ?_)
      · refine lv_aload_n X.1 X.2.1 dX1_become_28 rfl (lv_at hl 0 rfl) ?_
        refine lv_aload_n X.1 X.2.1 dX1_become_29 rfl (lv_at hl 1 rfl) ?_
        refine gf_X1_15 X hw ft2 rfl dX1_become_30 ?_
        refine pf_X1_15 X hw ft rfl rfl (Nat.le_of_ble_eq_true rfl) dX1_become_33 (fun H locs hw => ?_)
        obtain ⟨k1, hk1⟩ : ∃ zz, zz = h_cu kk t (some (.inr (1, [.ref (ad u), .int (nI b2.length)]))) := ⟨_, rfl⟩
        have hw := h_W.ren hw hk1
        have f1_t : k1 t = some (.inr (1, [.ref (ad u), .int (nI b2.length)])) := by rw [hk1]; exact h_cs _ _ _
        have f1_u : k1 u = some (.inl (G.2 0, 16, .inl g)) := by rw [hk1, h_cn _ _ (Ne.symm htu)]; exact fu
        have f1_t2 : k1 t2 = some (.inr (1, [.ref (ad u2), .int (nI b2.length)])) := by rw [hk1, h_cn _ _ ht2]; exact ft2
        have f1_u2 : k1 u2 = some (.inl (G.2 0, 16, .inl g2)) := by rw [hk1, h_cn _ _ nut]; exact fu2
        obtain rfl : i = b2.length := Nat.le_antisymm hii (Nat.le_of_not_lt (fun q => absurd c7 (nI_ge q (by omega))))
        exact h_vretW X Y hw ⟨rfl, rfl, ⟨by rw [hk1, h_cs], g, by rw [hk1, h_cn _ _ (Ne.symm htu)]; exact fu, hgg⟩, fun v h1 h2 => by rw [hk1, h_cn _ _ h1, ho v h2]⟩ (Nat.zero_le _) (Nat.zero_le _) dX1_become_36
      · have hib : i < b2.length := Nat.lt_of_not_le (fun q => c7 (nI_le q (by omega)))
        refine lv_aload_n X.1 X.2.1 dX1_become_10 rfl (lv_at hl 0 rfl) ?_
        refine gf_X1_9 X hw ft rfl dX1_become_11 ?_
        refine lv_iload_n X.1 X.2.1 dX1_become_14 rfl (lv_at hl 2 rfl) ?_
        refine lv_aload_n X.1 X.2.1 dX1_become_15 rfl (lv_at hl 1 rfl) ?_
        refine gf_X1_9 X hw ft2 rfl dX1_become_16 ?_
        refine lv_iload_n X.1 X.2.1 dX1_become_19 rfl (lv_at hl 2 rfl) ?_
        refine h_iald X hw fu2 (vp_in_nI (by omega) (by decide)) dX1_become_20 ?_
        refine h_tv (b := .int (b2.getD i 0)) (by rw [nI_clamp (by omega), hgi2 i hib]) ?_
        refine h_iast X hw fu (vp_in_nI (by omega) (by decide)) dX1_become_21 (fun H locs hw => ?_)
        obtain ⟨k1, hk1⟩ : ∃ zz, zz = h_cu kk u (some (.inl (G.2 0, 16, .inl (upd g (nI i).toNatClampNeg (b2.getD i 0))))) := ⟨_, rfl⟩
        have hw := h_W.ren hw hk1
        have f1_t : k1 t = some (.inr (1, [.ref (ad u), .int (nI b.length)])) := by rw [hk1, h_cn _ _ htu]; exact ft
        have f1_u : k1 u = some (.inl (G.2 0, 16, .inl (upd g (nI i).toNatClampNeg (b2.getD i 0)))) := by rw [hk1]; exact h_cs _ _ _
        have f1_t2 : k1 t2 = some (.inr (1, [.ref (ad u2), .int (nI b2.length)])) := by rw [hk1, h_cn _ _ htu2]; exact ft2
        have f1_u2 : k1 u2 = some (.inl (G.2 0, 16, .inl g2)) := by rw [hk1, h_cn _ _ hu2]; exact fu2
        refine lv_iinc (v := nI (i + 1)) (lv' := [(2, .int (nI (i + 1))), (0, .ref (ad t)), (1, .ref (ad t2))]) X.1 X.2.1 dX1_become_22 hl (k := 2) rfl (nI_1 _) (by decide) rfl (fun ls hl => ?_)
        refine lv_goto (tgt := 2) X.1 X.2.1 dX1_become_25 (by decide) ?_
        exact ih (i + 1) (by omega) (by omega) k1 _ _ _ f1_u (fun v hv => by rw [hk1, h_cn _ _ hv, ho v hv]) (fun j hj => by
            rw [nI_clamp (by omega)]
            by_cases hji : j = i
            · subst hji; rw [pk_us]
            · rw [pk_un hji]; exact hgg j (by omega)) hw ls (lv_sub hl [1, 2, 0] rfl)
  refine lv_iconst (v := 0) X.1 X.2.1 dX1_become_0 (by decide) ?_
  refine lv_istore_n (lv' := [(2, .int 0), (0, .ref (ad t)), (1, .ref (ad t2))]) X.1 X.2.1 dX1_become_1 rfl hl (by decide) rfl (fun ls hl => ?_)
  exact loop (b2.length + 1) 0 (by omega) (by omega) k g1 _ _ hg1 (fun _ _ => rfl) (fun j hj => absurd hj (Nat.not_lt_zero j)) hw ls (lv_sub hl [1, 2, 0] rfl)
set_option maxHeartbeats 4000000 in
set_option maxRecDepth 100000 in
/-- Row.twin: a new row of the same bytes -/
theorem c_X1_twin (l : Launch) (G : h_G) {ad : h_T → Nat} {k : h_C} {t u t2 u2 : h_T} {b : List Int32} (hb : x_row G ad k t u b) (hlen : b.length ≤ 16) (htu : t ≠ u) (h2 : k t2 = none) (hu2 : k u2 = none) (htu2 : t2 ≠ u2)  : h_Wr l yX1_twin cX1_twin 2 (some (.object "CopyPolls$Row")) 2 32 2 18 G ad k [.ref (ad t)] (fun r ad' k' => r = some (.ref (ad' t2)) ∧ x_row G ad' k' t2 u2 b ∧ ∀ v : h_T, v ≠ t2 → v ≠ u2 → k' v = k v ∧ ad' v = ad v) := by
  refine h_wr (by decide +kernel) (Nat.le_of_ble_eq_true rfl) ?_
  intro p e s m args below meth c X Y hw ls hl
  have hl : lv_has ls 2 [(0, .ref (ad t))] := hl
  obtain ⟨hr1, g1, hg1, hgi1⟩ := id hb
  have nt : t ≠ t2 := fun e => by rw [e, h2] at hr1; cases hr1
  have ntu : t ≠ u2 := fun e => by rw [e, hu2] at hr1; cases hr1
  have nu : u ≠ t2 := fun e => by rw [e, h2] at hg1; cases hg1
  have nuu : u ≠ u2 := fun e => by rw [e, hu2] at hg1; cases hg1
  refine h_new X hw t2 h2 (ci := 1) rfl in_X1 tyX1 tyX1_ok wk_X1_10 wa_X1 wn_X1 (fs := [.null, .int 0]) (fun j hj => by rcases (show j = 0 ∨ j = 1 by omega) with rfl | rfl <;> rfl) (Nat.le_of_ble_eq_true rfl) (Nat.le_of_ble_eq_true rfl) dX1_twin_0 (fun q H hw => ?_)
  obtain ⟨k1, hk1⟩ : ∃ zz, zz = h_cu k t2 (some (.inr (1, [.null, .int 0]))) := ⟨_, rfl⟩
  obtain ⟨ad1, had1⟩ : ∃ zz, zz = h_au ad t2 q := ⟨_, rfl⟩
  replace hw := (hw.ren hk1).renA had1
  obtain rfl : q = ad1 t2 := by rw [had1, h_as]
  have ea1_0 : ad t = ad1 t := by rw [had1, h_an _ _ nt]
  have ea1_1 : ad u = ad1 u := by rw [had1, h_an _ _ nu]
  simp only [ea1_0, ea1_1] at hl
  have f1_t : k1 t = some (.inr (1, [.ref (ad1 u), .int (nI b.length)])) := by rw [hk1, h_cn _ _ nt, hr1]; simp only [ea1_0, ea1_1]
  have f1_u : k1 u = some (.inl (G.2 0, 16, .inl g1)) := by rw [hk1, h_cn _ _ nu, hg1]
  have f1_t2 : k1 t2 = some (.inr (1, [.null, .int 0])) := by rw [hk1]; exact h_cs _ _ _
  refine lv_dup X.1 X.2.1 dX1_twin_3 rfl ?_
  refine h_callWI (t := t2) (As := []) (rest := [.ref (ad1 t2)]) X hw cs_X1_19 (c_X1_init l G (t := t2) (u := u2) f1_t2 (by rw [hk1, h_cn _ _ (Ne.symm htu2)]; exact hu2) htu2) rfl hl.1 rfl (Nat.le_of_ble_eq_true rfl) ⟨by decide, by decide⟩ ⟨(Nat.le_of_ble_eq_true rfl), (Nat.le_of_ble_eq_true rfl)⟩ dX1_twin_4 (fun r9 ad2 k2 H locs hp9 hw => ?_)
  obtain ⟨rfl, hr2, ha2, ho2⟩ := hp9
  refine W.eq (g2 := F0 m 7 ls [.ref (ad1 t2)]) rfl ?_
  have eb2_0 : ad1 t = ad2 t := ((ho2 t nt ntu).2).symm
  have eb2_1 : ad1 t2 = ad2 t2 := (ha2).symm
  have eb2_2 : ad1 u = ad2 u := ((ho2 u nu nuu).2).symm
  simp only [eb2_0, eb2_1, eb2_2] at hl
  simp only [eb2_0, eb2_1, eb2_2]
  have f2_t : k2 t = some (.inr (1, [.ref (ad2 u), .int (nI b.length)])) := by rw [(ho2 t nt ntu).1, f1_t]; simp only [eb2_0, eb2_1, eb2_2]
  have f2_u : k2 u = some (.inl (G.2 0, 16, .inl g1)) := by rw [(ho2 u nu nuu).1, f1_u]
  refine lv_astore_n (lv' := [(1, .ref (ad2 t2)), (0, .ref (ad2 t))]) X.1 X.2.1 dX1_twin_7 rfl hl (by decide) rfl (fun ls hl => ?_)
  refine lv_aload_n X.1 X.2.1 dX1_twin_8 rfl (lv_at hl 0 rfl) ?_
  refine lv_aload_n X.1 X.2.1 dX1_twin_9 rfl (lv_at hl 1 rfl) ?_
  refine h_callWV (t := t2) (As := [.ref (ad2 t)]) (rest := []) X hw cs_X1_20 (c_X1_become l G hr2 (⟨f2_t, g1, f2_u, hgi1⟩ : x_row G ad2 k2 t u b) hlen htu2 nt nuu ntu) hr2.1 rfl rfl hl.1 rfl (Nat.le_of_ble_eq_true rfl) ⟨by decide, by decide⟩ ⟨(Nat.le_of_ble_eq_true rfl), (Nat.le_of_ble_eq_true rfl)⟩ dX1_twin_10 (fun r9 ad3 k3 H locs hp9 hw => ?_)
  obtain ⟨rfl, ea3, hr3, ho3⟩ := hp9
  refine W.eq (g2 := F0 m 13 ls []) rfl ?_
  replace hw := hw.renA ea3.symm
  have f3_t : k3 t = some (.inr (1, [.ref (ad2 u), .int (nI b.length)])) := by rw [ho3 t nt ntu, f2_t]
  have f3_u : k3 u = some (.inl (G.2 0, 16, .inl g1)) := by rw [ho3 u nu nuu, f2_u]
  refine lv_aload_n X.1 X.2.1 dX1_twin_13 rfl (lv_at hl 0 rfl) ?_
  refine h_aretW (o := some (ad2 t2)) X Y hw ⟨rfl, hr3, fun v h1 h3 => ?_⟩ (Nat.le_of_ble_eq_true rfl) (Nat.le_of_ble_eq_true rfl) dX1_twin_14
  exact ⟨by rw [ho3 v h1 h3, (ho2 v h1 h3).1, hk1, h_cn _ _ h1], by rw [(ho2 v h1 h3).2, had1, h_an _ _ h1]⟩
