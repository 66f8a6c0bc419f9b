/-- what is collected is another row -/
theorem RX.setCol {G : h_G} {ad : h_T → Nat} {k k' : h_C} {σ : S_t} (h : RX G ad k σ) {b : List Int32} (hl : b.length ≤ 16) (hk : x_row G ad k' (3, 0, 0) (3, 1, 0) b) (ho : ∀ t : h_T, t ≠ (3, 0, 0) → t ≠ (3, 1, 0) → k' t = k t) : RX G ad k' (s_setCol σ b) := by
  obtain ⟨g0, g1, g2, g3, g4, g5, g6, ⟨g, g7⟩, ⟨a0, a1, a2, b0, b1, b2, b3⟩, ok1, ok2, ok3, ok4, ok⟩ := h
  exact ⟨(ho _ (by simp) (by simp)).trans g0, (ho _ (by simp) (by simp)).trans g1, fun i hi => (ho _ (by simp) (by simp)).trans (g2 i hi), (ho _ (by simp) (by simp)).trans g3, fun f hf => ⟨(ho _ (by simp) (by simp)).trans (g4 f hf).1, (ho _ (by simp) (by simp)).trans (g4 f hf).2⟩, fun a f b hb => (g5 a f b hb).congr (ho _ (by simp) (by simp)) (ho _ (by simp) (by simp)) rfl, hk, ⟨g, (ho _ (by simp) (by simp)).trans g7⟩, ⟨a0, a1, a2, (ho _ (by simp) (by simp)).trans b0, (ho _ (by simp) (by simp)).trans b1, (ho _ (by simp) (by simp)).trans b2, b3⟩, ok1, ok2, ok3, hl, ok⟩
theorem s_setCol_self (σ : S_t) : s_setCol σ (s_col σ) = σ := rfl
set_option maxHeartbeats 4000000 in
set_option maxRecDepth 100000 in
/-- octet -/
theorem c_X3_octet (l : Launch) (G : h_G) {ad : h_T → Nat} {k : h_C} {σ : S_t} (hR : RX G ad k σ) (x : Int32) : h_Wr l yX3_octet cX3_octet 2 none 1 21 0 0 G ad k [.ref (ad (0, 0, 0)), .int x] (XPost G ad k none (sp_octet σ x)) := by
  refine h_wr (by decide +kernel) (Nat.le_of_ble_eq_true rfl) ?_
  intro p e s m args below meth c X Y hw ls hl
  have hl : lv_has ls 2 [(0, .ref (ad (0, 0, 0))), (1, .int x)] := hl
  have hok := hR.ok
  obtain ⟨hx, hs, hst, hi, hit, hcp, hcol, hmx, hask, -⟩ := id hR
  have hx : k (0, 0, 0) = some (.inr (3, [.int (nI (s_cop σ)), .ref (ad (1, 0, 0)), .int (nI (s_nS σ)), .ref (ad (2, 0, 0)), .int (nI (s_nF σ)), .ref (ad (3, 0, 0)), .ref (ad (4, 0, 0)), .ref (ad (5, 0, 0)), .ref (ad (5, 1, 0)), .ref (ad (5, 2, 0)), .int (nI (s_as σ).length), .int (s_dg σ)])) := hx
  have hnS : s_nS σ ≤ 10 := hok.2.1
  have hnF : s_nF σ ≤ 40 := hok.2.2.1
  refine lv_aload_n X.1 X.2.1 dX3_octet_0 rfl (lv_at hl 0 rfl) ?_
  refine gf_X3_31 X hw hx rfl dX3_octet_1 ?_
  refine lv_iload_n X.1 X.2.1 dX3_octet_4 rfl (lv_at hl 1 rfl) ?_
  refine h_callWV (t := (3, 0, 0)) (As := [.int x]) (rest := []) X hw cs_X3_73 (c_X1_append l G hcol hok.2.2.2.1 (by simp) x) hcol.1 rfl rfl hl.1 rfl (Nat.le_of_ble_eq_true rfl) ⟨by decide, by decide⟩ ⟨(Nat.le_of_ble_eq_true rfl), (Nat.le_of_ble_eq_true rfl)⟩ dX3_octet_5 (fun r9 ad1 k1 H locs hp9 hw => ?_)
  obtain ⟨rfl, ea1, hr1, ho1⟩ := hp9
  refine W.eq (g2 := F0 m 8 ls []) rfl ?_
  replace hw := hw.renA ea1.symm
  have f1_0_0_0 : k1 (0, 0, 0) = some (.inr (3, [.int (nI (s_cop σ)), .ref (ad (1, 0, 0)), .int (nI (s_nS σ)), .ref (ad (2, 0, 0)), .int (nI (s_nF σ)), .ref (ad (3, 0, 0)), .ref (ad (4, 0, 0)), .ref (ad (5, 0, 0)), .ref (ad (5, 1, 0)), .ref (ad (5, 2, 0)), .int (nI (s_as σ).length), .int (s_dg σ)])) := by rw [ho1 (0, 0, 0) (by simp) (by simp), hx]
  have hτ : sp_octet σ x = s_setCol σ (if (s_col σ).length < 16 then s_col σ ++ [x &&& 255] else s_col σ) := by
    unfold sp_octet
    split
    · rfl
    · rfl
  rw [hτ]
  exact h_vretW X Y hw ⟨rfl, hR.setCol (by
    have := hok.2.2.2.1
    split
    · rw [List.length_append]; simp; omega
    · exact this) hr1 (fun t h1 h2 => ho1 t h1 h2), fun t ht => ⟨ho1 t (t20 ht (Nat.le_of_ble_eq_true rfl)) (t20 ht (Nat.le_of_ble_eq_true rfl)), rfl⟩, rfl⟩ (Nat.zero_le _) (Nat.zero_le _) dX3_octet_8
/-- a store more -/
theorem RX.addStore {G : h_G} {ad ad' : h_T → Nat} {k k' : h_C} {σ : S_t} (h : RX G ad k σ) (x : Int32) (h10 : s_nS σ < 10) (hk0 : k' (0, 0, 0) = some (.inr (3, x_obj ad' (s_addS σ x)))) (hk1 : k' (1, 0, 0) = some (.inl (G.2 6, 10, x_refs (va_up (x_sto ad σ) (s_nS σ) (some (ad' (6, s_nS σ, 0))))))) (hk6 : k' (6, s_nS σ, 0) = some (.inr (2, [.int x, .int 1, .int 0, .int 0]))) (ho : ∀ t : h_T, t ≠ (0, 0, 0) → t ≠ (1, 0, 0) → t ≠ (6, s_nS σ, 0) → k' t = k t) (ha : ∀ t : h_T, t ≠ (6, s_nS σ, 0) → ad' t = ad t) : RX G ad' k' (s_addS σ x) := by
  obtain ⟨g0, g1, g2, g3, g4, g5, g6, ⟨g, g7⟩, ⟨a0, a1, a2, b0, b1, b2, b3⟩, ok1, ok2, ok3, ok4, ok5, ok6, ok7, ok8, ok9⟩ := h
  have o : ∀ t : h_T, t ≠ (0, 0, 0) → t ≠ (1, 0, 0) → t ≠ (6, s_nS σ, 0) → k' t = k t ∧ ad' t = ad t := fun t h1 h2 h3 => ⟨ho t h1 h2 h3, ha t h3⟩
  refine ⟨hk0, ?_, fun i hi => ?_, ?_, fun f hf => ⟨?_, ?_⟩, fun a f b hb => (g5 a f b hb).congr (ho _ (by simp) (by simp) (by simp)) (ho _ (by simp) (by simp) (by simp)) (ha _ (by simp)), g6.congr (ho _ (by simp) (by simp) (by simp)) (ho _ (by simp) (by simp) (by simp)) (ha _ (by simp)), ⟨g, (ho _ (by simp) (by simp) (by simp)).trans g7⟩, ⟨a0, a1, a2, (ho _ (by simp) (by simp) (by simp)).trans b0, (ho _ (by simp) (by simp) (by simp)).trans b1, (ho _ (by simp) (by simp) (by simp)).trans b2, b3⟩, ok1, ?_, ok3, ok4, ok5, fun a f hf => ?_, ok7, fun i hi => ?_, ok9⟩
  · rw [hk1]
    have : x_sto ad' (s_addS σ x) = va_up (x_sto ad σ) (s_nS σ) (some (ad' (6, s_nS σ, 0))) := by
      funext i
      show (if i < s_nS σ + 1 then _ else _) = _
      by_cases hi : i = s_nS σ
      · subst hi
        rw [va_up_self, if_pos (Nat.lt_succ_self _)]
      · rw [va_up_ne _ _ hi]
        unfold x_sto
        by_cases h2 : i < s_nS σ
        · rw [if_pos (by omega), if_pos h2, ha _ (by simp [hi])]
        · rw [if_neg (by omega), if_neg h2]
    rw [this]
  · have hi : i < s_nS σ + 1 := hi
    by_cases his : i = s_nS σ
    · subst his
      show k' (6, s_nS σ, 0) = some (.inr (2, [.int (upd (s_pl σ) (s_nS σ) x (s_nS σ)), .int (bI (!s_si σ (s_nS σ))), .int (s_up σ (s_nS σ)), .int (s_dn σ (s_nS σ))]))
      obtain ⟨e1, e2, e3⟩ := ok8 (s_nS σ) (Nat.le_refl _)
      rw [hk6, pk_us, e1, e2, e3]
      rfl
    · have := g2 i (by omega)
      unfold x_st at this
      show k' (6, i, 0) = some (.inr (2, [.int (upd (s_pl σ) (s_nS σ) x i), .int (bI (!s_si σ i)), .int (s_up σ i), .int (s_dn σ i)]))
      rw [ho _ (by simp) (by simp) (by simp [his]), this, pk_un his]
  · rw [ho _ (by simp) (by simp) (by simp), g3]
    have : x_ite ad' (s_addS σ x) = x_ite ad σ := by
      funext i
      unfold x_ite
      show (if i < s_nF σ then some (ad' (7, i, 0)) else none) = _
      rw [ha _ (by simp)]
    rw [this]
  · rw [ho _ (by simp) (by simp) (by simp), (g4 f hf).1, ha _ (by simp)]
    rfl
  · rw [ho _ (by simp) (by simp) (by simp), (g4 f hf).2]
    have : x_rws ad' (s_addS σ x) f = x_rws ad σ f := by
      funext a
      unfold x_rws
      show (s_cp σ a f).map (fun _ => ad' (9, a, f)) = _
      rw [ha _ (by simp)]
    rw [this]
  · show s_nS σ + 1 ≤ 10
    omega
  · exact ok6 a f (by
      rcases hf with hf | hf
      · exact Or.inl (by have : s_nS σ + 1 ≤ a := hf; omega)
      · exact Or.inr hf)
  · exact ok8 i (by have : s_nS σ + 1 ≤ i := hi; omega)
set_option maxHeartbeats 4000000 in
set_option maxRecDepth 100000 in
/-- store -/
theorem c_X3_store (l : Launch) (G : h_G) {ad : h_T → Nat} {k : h_C} {σ : S_t} (hR : RX G ad k σ) (x : Int32) : h_Wr l yX3_store cX3_store 2 (some .int) 2 33 1 4 G ad k [.ref (ad (0, 0, 0)), .int x] (XPost G ad k (some (.int (sp_store σ x).1)) (sp_store σ x).2) := by
  refine h_wr (by decide +kernel) (Nat.le_of_ble_eq_true rfl) ?_
  intro p e s m args below meth c X Y hw ls hl
  have hl : lv_has ls 2 [(0, .ref (ad (0, 0, 0))), (1, .int x)] := hl
  have hok := hR.ok
  obtain ⟨hx, hs, hst, hi, hit, hcp, hcol, hmx, hask, -⟩ := id hR
  have hx : k (0, 0, 0) = some (.inr (3, [.int (nI (s_cop σ)), .ref (ad (1, 0, 0)), .int (nI (s_nS σ)), .ref (ad (2, 0, 0)), .int (nI (s_nF σ)), .ref (ad (3, 0, 0)), .ref (ad (4, 0, 0)), .ref (ad (5, 0, 0)), .ref (ad (5, 1, 0)), .ref (ad (5, 2, 0)), .int (nI (s_as σ).length), .int (s_dg σ)])) := hx
  have hnS : s_nS σ ≤ 10 := hok.2.1
  have hnF : s_nF σ ≤ 40 := hok.2.2.1
  unfold sp_store
  rcases ix_cases x (n := 10) (by omega) with ⟨e0, h0⟩ | ⟨e0, h0, h1⟩ | ⟨j, hj, rfl, e0⟩
  · rw [e0]
    rw [if_pos (show (none : Option Nat).isNone = true from rfl)]
    refine lv_iload_n X.1 X.2.1 dX3_store_0 rfl (lv_at hl 1 rfl) ?_
    refine lv_if_lt (tgt := 10) X.1 X.2.1 dX3_store_1 (by decide) (fun c1 => ?_) (fun c1 => ?_)
    · refine lv_bipush (v := (-2)) X.1 X.2.1 dX3_store_10 (by decide) ?_
      exact h_iretW (v := -2) X Y hw ⟨rfl, hR, fun _ _ => ⟨rfl, rfl⟩, rfl⟩ (Nat.zero_le _) (Nat.zero_le _) dX3_store_12
    · exact absurd h0 c1
  · rw [e0]
    rw [if_pos (show (none : Option Nat).isNone = true from rfl)]
    refine lv_iload_n X.1 X.2.1 dX3_store_0 rfl (lv_at hl 1 rfl) ?_
    refine lv_if_lt (tgt := 10) X.1 X.2.1 dX3_store_1 (by decide) (fun c1 => ?_) (fun c1 => ?_)
    · exact absurd c1 h0
    · refine lv_iload_n X.1 X.2.1 dX3_store_4 rfl (lv_at hl 1 rfl) ?_
      refine lv_bipush (v := 10) X.1 X.2.1 dX3_store_5 (by decide) ?_
      refine lv_icmp_lt (tgt := 13) X.1 X.2.1 dX3_store_7 (by decide) (fun c7 => ?_) (fun c7 => ?_)
      · exact absurd c7 (Int32.not_lt.mpr h1)
      · refine lv_bipush (v := (-2)) X.1 X.2.1 dX3_store_10 (by decide) ?_
        exact h_iretW (v := -2) X Y hw ⟨rfl, hR, fun _ _ => ⟨rfl, rfl⟩, rfl⟩ (Nat.zero_le _) (Nat.zero_le _) dX3_store_12
  · rw [e0]
    rw [if_neg (show ¬ (some j : Option Nat).isNone = true from fun q => by cases q)]
    rcases hc : ff (fun s => decide (s_pl σ s = nI j)) (s_nS σ) with _ | q0
    rotate_left
    · rw [if_pos (show (some q0 : Option Nat).isSome = true from rfl)]
      refine lv_iload_n X.1 X.2.1 dX3_store_0 rfl (lv_at hl 1 rfl) ?_
      refine lv_if_lt (tgt := 10) X.1 X.2.1 dX3_store_1 (by decide) (fun c1 => ?_) (fun c1 => ?_)
      · exact absurd c1 (nI_pos (by omega))
      · refine lv_iload_n X.1 X.2.1 dX3_store_4 rfl (lv_at hl 1 rfl) ?_
        refine lv_bipush (v := 10) X.1 X.2.1 dX3_store_5 (by decide) ?_
        refine lv_icmp_lt (tgt := 13) X.1 X.2.1 dX3_store_7 (by decide) (fun c7 => ?_) (fun c7 => ?_)
        · refine lv_aload_n X.1 X.2.1 dX3_store_13 rfl (lv_at hl 0 rfl) ?_
          refine lv_iload_n X.1 X.2.1 dX3_store_14 rfl (lv_at hl 1 rfl) ?_
          refine h_callRV (t := (0, 0, 0)) (As := [.int (nI j)]) (rest := []) X hw cs_X3_66 (c_X3_isTaken l G hR (nI j)) hx rfl rfl hl.1 rfl (Nat.le_of_ble_eq_true rfl) ⟨by decide, by decide⟩ ⟨Nat.zero_le _, Nat.zero_le _⟩ dX3_store_15 ?_
          refine h_tv (b := .int 1) (by rw [hc]; rfl) ?_
          refine lv_if_eq (tgt := 24) X.1 X.2.1 dX3_store_18 (by decide) (fun c18 => ?_) (fun c18 => ?_)
          · exact absurd c18 (by decide)
          · refine lv_bipush (v := (-3)) X.1 X.2.1 dX3_store_21 (by decide) ?_
            exact h_iretW (v := -3) X Y hw ⟨rfl, hR, fun _ _ => ⟨rfl, rfl⟩, rfl⟩ (Nat.zero_le _) (Nat.zero_le _) dX3_store_23
        · exact absurd (nI_lt (b := 10) hj (by omega)) c7
    · rw [if_neg (show ¬ (none : Option Nat).isSome = true from fun q => by cases q)]
      by_cases h10 : 10 ≤ s_nS σ
      · rw [if_pos h10]
        refine lv_iload_n X.1 X.2.1 dX3_store_0 rfl (lv_at hl 1 rfl) ?_
        refine lv_if_lt (tgt := 10) X.1 X.2.1 dX3_store_1 (by decide) (fun c1 => ?_) (fun c1 => ?_)
        · exact absurd c1 (nI_pos (by omega))
        · refine lv_iload_n X.1 X.2.1 dX3_store_4 rfl (lv_at hl 1 rfl) ?_
          refine lv_bipush (v := 10) X.1 X.2.1 dX3_store_5 (by decide) ?_
          refine lv_icmp_lt (tgt := 13) X.1 X.2.1 dX3_store_7 (by decide) (fun c7 => ?_) (fun c7 => ?_)
          · refine lv_aload_n X.1 X.2.1 dX3_store_13 rfl (lv_at hl 0 rfl) ?_
            refine lv_iload_n X.1 X.2.1 dX3_store_14 rfl (lv_at hl 1 rfl) ?_
            refine h_callRV (t := (0, 0, 0)) (As := [.int (nI j)]) (rest := []) X hw cs_X3_66 (c_X3_isTaken l G hR (nI j)) hx rfl rfl hl.1 rfl (Nat.le_of_ble_eq_true rfl) ⟨by decide, by decide⟩ ⟨Nat.zero_le _, Nat.zero_le _⟩ dX3_store_15 ?_
            refine h_tv (b := .int 0) (by rw [hc]; rfl) ?_
            refine lv_if_eq (tgt := 24) X.1 X.2.1 dX3_store_18 (by decide) (fun c18 => ?_) (fun c18 => ?_)
            · refine lv_aload_n X.1 X.2.1 dX3_store_24 rfl (lv_at hl 0 rfl) ?_
              refine gf_X3_15 X hw hx rfl dX3_store_25 ?_
              refine lv_bipush (v := 10) X.1 X.2.1 dX3_store_28 (by decide) ?_
              refine lv_icmp_lt (tgt := 36) X.1 X.2.1 dX3_store_30 (by decide) (fun c30 => ?_) (fun c30 => ?_)
              · exact absurd c30 (nI_nlt (b := 10) h10 (by omega))
              · refine lv_bipush (v := (-4)) X.1 X.2.1 dX3_store_33 (by decide) ?_
                exact h_iretW (v := -4) X Y hw ⟨rfl, hR, fun _ _ => ⟨rfl, rfl⟩, rfl⟩ (Nat.zero_le _) (Nat.zero_le _) dX3_store_35
            · exact absurd (by decide) c18
          · exact absurd (nI_lt (b := 10) hj (by omega)) c7
      · rw [if_neg h10]
        refine lv_iload_n X.1 X.2.1 dX3_store_0 rfl (lv_at hl 1 rfl) ?_
        refine lv_if_lt (tgt := 10) X.1 X.2.1 dX3_store_1 (by decide) (fun c1 => ?_) (fun c1 => ?_)
        · exact absurd c1 (nI_pos (by omega))
        · refine lv_iload_n X.1 X.2.1 dX3_store_4 rfl (lv_at hl 1 rfl) ?_
          refine lv_bipush (v := 10) X.1 X.2.1 dX3_store_5 (by decide) ?_
          refine lv_icmp_lt (tgt := 13) X.1 X.2.1 dX3_store_7 (by decide) (fun c7 => ?_) (fun c7 => ?_)
          · refine lv_aload_n X.1 X.2.1 dX3_store_13 rfl (lv_at hl 0 rfl) ?_
            refine lv_iload_n X.1 X.2.1 dX3_store_14 rfl (lv_at hl 1 rfl) ?_
            refine h_callRV (t := (0, 0, 0)) (As := [.int (nI j)]) (rest := []) X hw cs_X3_66 (c_X3_isTaken l G hR (nI j)) hx rfl rfl hl.1 rfl (Nat.le_of_ble_eq_true rfl) ⟨by decide, by decide⟩ ⟨Nat.zero_le _, Nat.zero_le _⟩ dX3_store_15 ?_
            refine h_tv (b := .int 0) (by rw [hc]; rfl) ?_
            refine lv_if_eq (tgt := 24) X.1 X.2.1 dX3_store_18 (by decide) (fun c18 => ?_) (fun c18 => ?_)
            · refine lv_aload_n X.1 X.2.1 dX3_store_24 rfl (lv_at hl 0 rfl) ?_
              refine gf_X3_15 X hw hx rfl dX3_store_25 ?_
              refine lv_bipush (v := 10) X.1 X.2.1 dX3_store_28 (by decide) ?_
              refine lv_icmp_lt (tgt := 36) X.1 X.2.1 dX3_store_30 (by decide) (fun c30 => ?_) (fun c30 => ?_)
              · obtain ⟨k0, hk0⟩ : ∃ zz, zz = h_cu k (6, s_nS σ, 0) none := ⟨_, rfl⟩
                replace hw := (hw.drop (6, s_nS σ, 0)).ren hk0
                have f0_0_0_0 : k0 (0, 0, 0) = some (.inr (3, [.int (nI (s_cop σ)), .ref (ad (1, 0, 0)), .int (nI (s_nS σ)), .ref (ad (2, 0, 0)), .int (nI (s_nF σ)), .ref (ad (3, 0, 0)), .ref (ad (4, 0, 0)), .ref (ad (5, 0, 0)), .ref (ad (5, 1, 0)), .ref (ad (5, 2, 0)), .int (nI (s_as σ).length), .int (s_dg σ)])) := by rw [hk0, h_cn _ _ (by simp)]; exact hx
                have f0_1_0_0 : k0 (1, 0, 0) = some (.inl (G.2 6, 10, x_refs (x_sto ad σ))) := by rw [hk0, h_cn _ _ (by simp)]; exact hs
                refine lv_aload_n X.1 X.2.1 dX3_store_36 rfl (lv_at hl 0 rfl) ?_
                refine gf_X3_11 X hw f0_0_0_0 rfl dX3_store_37 ?_
                refine lv_aload_n X.1 X.2.1 dX3_store_40 rfl (lv_at hl 0 rfl) ?_
                refine gf_X3_15 X hw f0_0_0_0 rfl dX3_store_41 ?_
                refine h_new X hw (6, s_nS σ, 0) (by rw [hk0]; exact h_cs _ _ _) (ci := 2) rfl in_X2 tyX2 tyX2_ok wk_X3_9 wa_X2 wn_X2 (fs := [.int 0, .int 0, .int 0, .int 0]) (fun j hj => by rcases (show j = 0 ∨ j = 1 ∨ j = 2 ∨ j = 3 by omega) with rfl | rfl | rfl | rfl <;> rfl) (Nat.le_of_ble_eq_true rfl) (Nat.le_of_ble_eq_true rfl) dX3_store_44 (fun q H hw => ?_)
                obtain ⟨k1, hk1⟩ : ∃ zz, zz = h_cu k0 (6, s_nS σ, 0) (some (.inr (2, [.int 0, .int 0, .int 0, .int 0]))) := ⟨_, rfl⟩
                obtain ⟨ad1, had1⟩ : ∃ zz, zz = h_au ad (6, s_nS σ, 0) q := ⟨_, rfl⟩
                replace hw := (hw.ren hk1).renA had1
                obtain rfl : q = ad1 (6, s_nS σ, 0) := by rw [had1, h_as]
                have ea1_0 : ad (0, 0, 0) = ad1 (0, 0, 0) := by rw [had1, h_an _ _ (by simp)]
                have ea1_1 : ad (1, 0, 0) = ad1 (1, 0, 0) := by rw [had1, h_an _ _ (by simp)]
                have ea1_2 : ad (2, 0, 0) = ad1 (2, 0, 0) := by rw [had1, h_an _ _ (by simp)]
                have ea1_3 : ad (3, 0, 0) = ad1 (3, 0, 0) := by rw [had1, h_an _ _ (by simp)]
                have ea1_4 : ad (4, 0, 0) = ad1 (4, 0, 0) := by rw [had1, h_an _ _ (by simp)]
                have ea1_5 : ad (5, 0, 0) = ad1 (5, 0, 0) := by rw [had1, h_an _ _ (by simp)]
                have ea1_6 : ad (5, 1, 0) = ad1 (5, 1, 0) := by rw [had1, h_an _ _ (by simp)]
                have ea1_7 : ad (5, 2, 0) = ad1 (5, 2, 0) := by rw [had1, h_an _ _ (by simp)]
                simp only [ea1_0, ea1_1, ea1_2, ea1_3, ea1_4, ea1_5, ea1_6, ea1_7] at hl
                simp only [ea1_0, ea1_1, ea1_2, ea1_3, ea1_4, ea1_5, ea1_6, ea1_7]
                have f1_0_0_0 : k1 (0, 0, 0) = some (.inr (3, [.int (nI (s_cop σ)), .ref (ad1 (1, 0, 0)), .int (nI (s_nS σ)), .ref (ad1 (2, 0, 0)), .int (nI (s_nF σ)), .ref (ad1 (3, 0, 0)), .ref (ad1 (4, 0, 0)), .ref (ad1 (5, 0, 0)), .ref (ad1 (5, 1, 0)), .ref (ad1 (5, 2, 0)), .int (nI (s_as σ).length), .int (s_dg σ)])) := by rw [hk1, h_cn _ _ (by simp), f0_0_0_0]; simp only [ea1_0, ea1_1, ea1_2, ea1_3, ea1_4, ea1_5, ea1_6, ea1_7]
                have f1_1_0_0 : k1 (1, 0, 0) = some (.inl (G.2 6, 10, x_refs (x_sto ad σ))) := by rw [hk1, h_cn _ _ (by simp), f0_1_0_0]
                have f1_6_s_nS_σ_0 : k1 (6, s_nS σ, 0) = some (.inr (2, [.int 0, .int 0, .int 0, .int 0])) := by rw [hk1]; exact h_cs _ _ _
                refine lv_dup X.1 X.2.1 dX3_store_47 rfl ?_
                refine lv_iload_n X.1 X.2.1 dX3_store_48 rfl (lv_at hl 1 rfl) ?_
                refine h_callWI (t := (6, s_nS σ, 0)) (As := [.int (nI j)]) (rest := [.ref (ad1 (6, s_nS σ, 0)), .int (nI (s_nS σ)), .ref (ad1 (1, 0, 0))]) X hw cs_X3_70 (c_X2_init l G f1_6_s_nS_σ_0 (nI j)) rfl hl.1 rfl (Nat.le_of_ble_eq_true rfl) ⟨by decide, by decide⟩ ⟨(Nat.le_of_ble_eq_true rfl), (Nat.le_of_ble_eq_true rfl)⟩ dX3_store_49 (fun r9 ad2 k2 H locs hp9 hw => ?_)
                obtain ⟨rfl, ea2, hz2⟩ := hp9
                refine W.eq (g2 := F0 m 52 ls [.ref (ad1 (6, s_nS σ, 0)), .int (nI (s_nS σ)), .ref (ad1 (1, 0, 0))]) rfl ?_
                replace hw := hw.renA ea2.symm
                have f2_0_0_0 : k2 (0, 0, 0) = some (.inr (3, [.int (nI (s_cop σ)), .ref (ad1 (1, 0, 0)), .int (nI (s_nS σ)), .ref (ad1 (2, 0, 0)), .int (nI (s_nF σ)), .ref (ad1 (3, 0, 0)), .ref (ad1 (4, 0, 0)), .ref (ad1 (5, 0, 0)), .ref (ad1 (5, 1, 0)), .ref (ad1 (5, 2, 0)), .int (nI (s_as σ).length), .int (s_dg σ)])) := by rw [(by rw [hz2, h_cn _ _ (by simp)] : k2 (0, 0, 0) = k1 (0, 0, 0)), f1_0_0_0]
                have f2_1_0_0 : k2 (1, 0, 0) = some (.inl (G.2 6, 10, x_refs (x_sto ad σ))) := by rw [(by rw [hz2, h_cn _ _ (by simp)] : k2 (1, 0, 0) = k1 (1, 0, 0)), f1_1_0_0]
                refine h_aast (u := (6, s_nS σ, 0)) X hw 6 2 rfl f2_1_0_0 (by rw [hz2]; exact h_cs _ _ _) rfl (vp_in_nI (by omega) (by decide)) dX3_store_52 (fun H locs hw => ?_)
                obtain ⟨k3, hk3⟩ : ∃ zz, zz = h_cu k2 (1, 0, 0) (some (.inl (G.2 6, 10, x_refs (va_up (x_sto ad σ) (nI (s_nS σ)).toNatClampNeg (some (ad1 (6, s_nS σ, 0))))))) := ⟨_, rfl⟩
                have hw := h_W.ren hw hk3
                have f3_0_0_0 : k3 (0, 0, 0) = some (.inr (3, [.int (nI (s_cop σ)), .ref (ad1 (1, 0, 0)), .int (nI (s_nS σ)), .ref (ad1 (2, 0, 0)), .int (nI (s_nF σ)), .ref (ad1 (3, 0, 0)), .ref (ad1 (4, 0, 0)), .ref (ad1 (5, 0, 0)), .ref (ad1 (5, 1, 0)), .ref (ad1 (5, 2, 0)), .int (nI (s_as σ).length), .int (s_dg σ)])) := by rw [hk3, h_cn _ _ (by simp)]; exact f2_0_0_0
                have f3_1_0_0 : k3 (1, 0, 0) = some (.inl (G.2 6, 10, x_refs (va_up (x_sto ad σ) (nI (s_nS σ)).toNatClampNeg (some (ad1 (6, s_nS σ, 0)))))) := by rw [hk3]; exact h_cs _ _ _
                have f3_6_s_nS_σ_0 : k3 (6, s_nS σ, 0) = some (.inr (2, [.int (nI j), .int 1, .int 0, .int 0])) := by rw [hk3, h_cn _ _ (by simp)]; exact (by rw [hz2]; exact h_cs _ _ _)
                refine lv_aload_n X.1 X.2.1 dX3_store_53 rfl (lv_at hl 0 rfl) ?_
                refine lv_dup X.1 X.2.1 dX3_store_54 rfl ?_
                refine gf_X3_15 X hw f3_0_0_0 rfl dX3_store_55 ?_
                refine lv_iconst (v := 1) X.1 X.2.1 dX3_store_58 (by decide) ?_
                refine lv_iadd X.1 X.2.1 dX3_store_59 ?_
                refine h_ti (b := nI (s_nS σ + 1)) (nI_1 _) ?_
                refine pf_X3_15 X hw f3_0_0_0 rfl rfl (Nat.le_of_ble_eq_true rfl) dX3_store_60 (fun H locs hw => ?_)
                obtain ⟨k4, hk4⟩ : ∃ zz, zz = h_cu k3 (0, 0, 0) (some (.inr (3, [.int (nI (s_cop σ)), .ref (ad1 (1, 0, 0)), .int (nI (s_nS σ + 1)), .ref (ad1 (2, 0, 0)), .int (nI (s_nF σ)), .ref (ad1 (3, 0, 0)), .ref (ad1 (4, 0, 0)), .ref (ad1 (5, 0, 0)), .ref (ad1 (5, 1, 0)), .ref (ad1 (5, 2, 0)), .int (nI (s_as σ).length), .int (s_dg σ)]))) := ⟨_, rfl⟩
                have hw := h_W.ren hw hk4
                have f4_0_0_0 : k4 (0, 0, 0) = some (.inr (3, [.int (nI (s_cop σ)), .ref (ad1 (1, 0, 0)), .int (nI (s_nS σ + 1)), .ref (ad1 (2, 0, 0)), .int (nI (s_nF σ)), .ref (ad1 (3, 0, 0)), .ref (ad1 (4, 0, 0)), .ref (ad1 (5, 0, 0)), .ref (ad1 (5, 1, 0)), .ref (ad1 (5, 2, 0)), .int (nI (s_as σ).length), .int (s_dg σ)])) := by rw [hk4]; exact h_cs _ _ _
                have f4_1_0_0 : k4 (1, 0, 0) = some (.inl (G.2 6, 10, x_refs (va_up (x_sto ad σ) (nI (s_nS σ)).toNatClampNeg (some (ad1 (6, s_nS σ, 0)))))) := by rw [hk4, h_cn _ _ (by simp)]; exact f3_1_0_0
                have f4_6_s_nS_σ_0 : k4 (6, s_nS σ, 0) = some (.inr (2, [.int (nI j), .int 1, .int 0, .int 0])) := by rw [hk4, h_cn _ _ (by simp)]; exact f3_6_s_nS_σ_0
                refine lv_aload_n X.1 X.2.1 dX3_store_63 rfl (lv_at hl 0 rfl) ?_
                refine gf_X3_15 X hw f4_0_0_0 rfl dX3_store_64 ?_
                refine lv_iconst (v := 1) X.1 X.2.1 dX3_store_67 (by decide) ?_
                refine lv_isub X.1 X.2.1 dX3_store_68 ?_
                refine h_ti (b := nI (s_nS σ)) (nI_pred _) ?_
                have hall : ∀ t : h_T, t ≠ (0, 0, 0) → t ≠ (1, 0, 0) → t ≠ (6, s_nS σ, 0) → k4 t = k t := fun t h1 h2 h3 => by rw [hk4, h_cn _ _ h1, hk3, h_cn _ _ h2, hz2, h_cn _ _ h3, hk1, h_cn _ _ h3, hk0, h_cn _ _ h3]
                have haa : ∀ t : h_T, t ≠ (6, s_nS σ, 0) → ad1 t = ad t := fun t h3 => by rw [had1, h_an _ _ h3]
                exact h_iretW (v := nI (s_nS σ)) X Y hw ⟨rfl, hR.addStore (nI j) (by omega) f4_0_0_0 (by rw [f4_1_0_0, nI_clamp (by omega)]) (by rw [hk4, h_cn _ _ (by simp), hk3, h_cn _ _ (by simp), hz2, h_cs]) hall haa, fun t ht => ⟨hall t (t20 ht (Nat.le_of_ble_eq_true rfl)) (t20 ht (Nat.le_of_ble_eq_true rfl)) (t20 ht (Nat.le_of_ble_eq_true rfl)), haa t (t20 ht (Nat.le_of_ble_eq_true rfl))⟩, haa _ (by simp)⟩ (Nat.le_of_ble_eq_true rfl) (Nat.le_of_ble_eq_true rfl) dX3_store_69
              · exact absurd (nI_lt (b := 10) (by omega) (by omega)) c30
            · exact absurd (by decide) c18
          · exact absurd (nI_lt (b := 10) hj (by omega)) c7
