theorem h_ca1 : Cond.castable h_E1 h_E1 ∈ h_xw := by decide +kernel
theorem h_ca2 : Cond.castable h_E2 h_E2 ∈ h_xw := by decide +kernel
theorem h_ca3 : Cond.castable h_E3 h_E3 ∈ h_xw := by decide +kernel
/-- behind a helper: whether it threw; what it laid -/
def LPost (G : h_G) (ad : h_T → Nat) (k : h_C) (o : Option Int64) : h_Ps := fun r ad' k' => r = some (.int (o_th o)) ∧ ad' = ad ∧ (∀ t : h_T, t ≠ (21, 0, 0) → k' t = k t) ∧ ∃ g : Nat → Int64, k' (21, 0, 0) = some (.inl (G.2 1, 1, .inr (.inl g))) ∧ ∀ v, o = some v → g 0 = v
set_option maxHeartbeats 4000000 in
set_option maxRecDepth 100000 in
theorem c_L_polled (l : Launch) (hlt : l.stackTraces = false) (G : h_G) {ad : h_T → Nat} {k : h_C} {σ : S_t} (hR : RX G ad k σ) {g : Nat → Int64} (hg : k (21, 0, 0) = some (.inl (G.2 1, 1, .inr (.inl g)))) (x w : Int32) : h_Wx l yL_polled cL_polled 5 (some .int) [(0, 10, 13, 13)] 8 117 1 6 G ad k [.ref (ad (0, 0, 0)), .int x, .int w, .ref (ad (21, 0, 0))] (LPost G ad k ((sp_polled σ x w).map Int32.toInt64)) := by
  refine h_wx (by decide +kernel) (Nat.le_of_ble_eq_true rfl) ?_
  intro p e s m args below meth c X Y hw hZ htab ls hl
  have hl : lv_has ls 5 [(0, .ref (ad (0, 0, 0))), (1, .int x), (2, .int w), (3, .ref (ad (21, 0, 0)))] := hl
  have hx : k (0, 0, 0) = some (.inr (3, [.int (nI (s_cop σ)), .ref (ad (1, 0, 0)), .int (nI (s_nS σ)), .ref (ad (2, 0, 0)), .int (nI (s_nF σ)), .ref (ad (3, 0, 0)), .ref (ad (4, 0, 0)), .ref (ad (5, 0, 0)), .ref (ad (5, 1, 0)), .ref (ad (5, 2, 0)), .int (nI (s_as σ).length), .int (s_dg σ)])) := hR.1
  refine lv_aload_n X.1 X.2.1 dL_polled_0 rfl (lv_at hl 3 rfl) ?_
  refine lv_iconst (v := 0) X.1 X.2.1 dL_polled_1 (by decide) ?_
  refine lv_aload_n X.1 X.2.1 dL_polled_2 rfl (lv_at hl 0 rfl) ?_
  refine lv_iload_n X.1 X.2.1 dL_polled_3 rfl (lv_at hl 1 rfl) ?_
  refine lv_iload_n X.1 X.2.1 dL_polled_4 rfl (lv_at hl 2 rfl) ?_
  refine h_callTV (t := (0, 0, 0)) (As := [.int x, .int w]) (rest := [.int 0, .ref (ad (21, 0, 0))]) X hw hZ cs_L_7 (c_X3_polled l G hR x w hlt) hx rfl rfl hl.1 rfl (Nat.le_of_ble_eq_true rfl) ⟨by decide, by decide⟩ ⟨(Nat.le_of_ble_eq_true rfl), (Nat.le_of_ble_eq_true rfl)⟩ dL_polled_5 (fun v9 ho => ?_) (fun ho q ce H1 hz1 hk1 hce hcv hcl => ?_)
  · obtain ⟨v, hv, rfl⟩ : ∃ v, (sp_polled σ x w) = some v ∧ v9 = .int v := by
      cases hs : (sp_polled σ x w) with
      | none => rw [hs] at ho; cases ho
      | some v => rw [hs] at ho; exact ⟨v, rfl, (Option.some.inj ho).symm⟩
    refine lv_i2l X.1 X.2.1 dL_polled_8 rfl ?_
    refine h_last X hw hg (vp_in_nI (n := 0) (by decide) (by decide)) dL_polled_9 (fun H locs hw => ?_)
    obtain ⟨k1, hk1⟩ : ∃ zz, zz = h_cu k (21, 0, 0) (some (.inl (G.2 1, 1, .inr (.inl (vp_updL g (0 : Int32).toNatClampNeg (v).toInt64))))) := ⟨_, rfl⟩
    replace hw := h_W.ren hw hk1
    have f1_21_0_0 : k1 (21, 0, 0) = some (.inl (G.2 1, 1, .inr (.inl (vp_updL g (0 : Int32).toNatClampNeg (v).toInt64)))) := by rw [hk1]; exact h_cs _ _ _
    refine lv_goto (tgt := 17) X.1 X.2.1 dL_polled_10 (by decide) ?_
    refine lv_iconst (v := 0) X.1 X.2.1 dL_polled_17 (by decide) ?_
    exact h_iretW X Y hw ⟨by rw [hv]; rfl, rfl, fun t ht => by rw [hk1, h_cn _ _ ht], _, f1_21_0_0, fun z hz => by
      rw [hv] at hz
      cases hz
      rfl⟩ (Nat.le_of_ble_eq_true rfl) (Nat.le_of_ble_eq_true rfl) dL_polled_18
  · have hn : (sp_polled σ x w) = none := by
      cases hs : (sp_polled σ x w) with
      | none => rfl
      | some v => rw [hs] at ho; cases ho
    have hw2 := hw.grow hz1 hk1
    refine vx_catch (name := h_E1) (E := h_E1) X.2.2.2.1 [] ⟨0, 10, 13, 13⟩ [] htab (fun z hz => by cases hz) (by decide) (by decide) (X.2.2.2.2.1 _ wk_L_13) (va_Nw.use rfl (hZ.2.2.2.1 _ h_ca1)) hce hcv hcl ?_
    refine lv_astore (lv' := [(4, .ref q), (0, .ref (ad (0, 0, 0))), (1, .int x), (2, .int w), (3, .ref (ad (21, 0, 0)))]) X.1 X.2.1 dL_polled_13 hl (by decide) rfl (fun ls hl => ?_)
    refine lv_iconst (v := 1) X.1 X.2.1 dL_polled_15 (by decide) ?_
    exact h_iretW X Y hw2 ⟨by rw [hn]; rfl, rfl, fun _ _ => rfl, g, hg, fun z hz => by rw [hn] at hz; cases hz⟩ (Nat.le_of_ble_eq_true rfl) (Nat.le_of_ble_eq_true rfl) dL_polled_16
set_option maxHeartbeats 4000000 in
set_option maxRecDepth 100000 in
theorem c_L_odds (l : Launch) (hlt : l.stackTraces = false) (G : h_G) {ad : h_T → Nat} {k : h_C} {σ : S_t} (hR : RX G ad k σ) {g : Nat → Int64} (hg : k (21, 0, 0) = some (.inl (G.2 1, 1, .inr (.inl g)))) (hiv : s_iv σ) (y side : Int32) : h_Wx l yL_odds cL_odds 5 (some .int) [(0, 9, 12, 19)] 8 146 1 6 G ad k [.ref (ad (0, 0, 0)), .int y, .int side, .ref (ad (21, 0, 0))] (LPost G ad k (sp_odds σ y side)) := by
  refine h_wx (by decide +kernel) (Nat.le_of_ble_eq_true rfl) ?_
  intro p e s m args below meth c X Y hw hZ htab ls hl
  have hl : lv_has ls 5 [(0, .ref (ad (0, 0, 0))), (1, .int y), (2, .int side), (3, .ref (ad (21, 0, 0)))] := hl
  have hx : k (0, 0, 0) = some (.inr (3, [.int (nI (s_cop σ)), .ref (ad (1, 0, 0)), .int (nI (s_nS σ)), .ref (ad (2, 0, 0)), .int (nI (s_nF σ)), .ref (ad (3, 0, 0)), .ref (ad (4, 0, 0)), .ref (ad (5, 0, 0)), .ref (ad (5, 1, 0)), .ref (ad (5, 2, 0)), .int (nI (s_as σ).length), .int (s_dg σ)])) := hR.1
  refine lv_aload_n X.1 X.2.1 dL_odds_0 rfl (lv_at hl 3 rfl) ?_
  refine lv_iconst (v := 0) X.1 X.2.1 dL_odds_1 (by decide) ?_
  refine lv_aload_n X.1 X.2.1 dL_odds_2 rfl (lv_at hl 0 rfl) ?_
  refine lv_iload_n X.1 X.2.1 dL_odds_3 rfl (lv_at hl 1 rfl) ?_
  refine lv_iload_n X.1 X.2.1 dL_odds_4 rfl (lv_at hl 2 rfl) ?_
  refine h_callTV (t := (0, 0, 0)) (As := [.int y, .int side]) (rest := [.int 0, .ref (ad (21, 0, 0))]) X hw hZ cs_L_15 (c_X3_odds l G hR hiv y side hlt) hx rfl rfl hl.1 rfl (Nat.le_of_ble_eq_true rfl) ⟨by decide, by decide⟩ ⟨(Nat.le_of_ble_eq_true rfl), (Nat.le_of_ble_eq_true rfl)⟩ dL_odds_5 (fun v9 ho => ?_) (fun ho q ce H1 hz1 hk1 hce hcv hcl => ?_)
  · obtain ⟨v, hv, rfl⟩ : ∃ v, (sp_odds σ y side) = some v ∧ v9 = .long v := by
      cases hs : (sp_odds σ y side) with
      | none => rw [hs] at ho; cases ho
      | some v => rw [hs] at ho; exact ⟨v, rfl, (Option.some.inj ho).symm⟩
    refine h_last X hw hg (vp_in_nI (n := 0) (by decide) (by decide)) dL_odds_8 (fun H locs hw => ?_)
    obtain ⟨k1, hk1⟩ : ∃ zz, zz = h_cu k (21, 0, 0) (some (.inl (G.2 1, 1, .inr (.inl (vp_updL g (0 : Int32).toNatClampNeg v))))) := ⟨_, rfl⟩
    replace hw := h_W.ren hw hk1
    have f1_21_0_0 : k1 (21, 0, 0) = some (.inl (G.2 1, 1, .inr (.inl (vp_updL g (0 : Int32).toNatClampNeg v)))) := by rw [hk1]; exact h_cs _ _ _
    refine lv_goto (tgt := 16) X.1 X.2.1 dL_odds_9 (by decide) ?_
    refine lv_iconst (v := 0) X.1 X.2.1 dL_odds_16 (by decide) ?_
    exact h_iretW X Y hw ⟨by rw [hv]; rfl, rfl, fun t ht => by rw [hk1, h_cn _ _ ht], _, f1_21_0_0, fun z hz => by
      rw [hv] at hz
      cases hz
      rfl⟩ (Nat.le_of_ble_eq_true rfl) (Nat.le_of_ble_eq_true rfl) dL_odds_17
  · have hn : (sp_odds σ y side) = none := by
      cases hs : (sp_odds σ y side) with
      | none => rfl
      | some v => rw [hs] at ho; cases ho
    have hw2 := hw.grow hz1 hk1
    refine vx_catch (name := h_E2) (E := h_E2) X.2.2.2.1 [] ⟨0, 9, 12, 19⟩ [] htab (fun z hz => by cases hz) (by decide) (by decide) (X.2.2.2.2.1 _ wk_L_19) (va_Nw.use rfl (hZ.2.2.2.1 _ h_ca2)) hce hcv hcl ?_
    refine lv_astore (lv' := [(4, .ref q), (0, .ref (ad (0, 0, 0))), (1, .int y), (2, .int side), (3, .ref (ad (21, 0, 0)))]) X.1 X.2.1 dL_odds_12 hl (by decide) rfl (fun ls hl => ?_)
    refine lv_iconst (v := 1) X.1 X.2.1 dL_odds_14 (by decide) ?_
    exact h_iretW X Y hw2 ⟨by rw [hn]; rfl, rfl, fun _ _ => rfl, g, hg, fun z hz => by rw [hn] at hz; cases hz⟩ (Nat.le_of_ble_eq_true rfl) (Nat.le_of_ble_eq_true rfl) dL_odds_15
set_option maxHeartbeats 4000000 in
set_option maxRecDepth 100000 in
theorem c_L_at (l : Launch) (hlt : l.stackTraces = false) (G : h_G) {ad : h_T → Nat} {k : h_C} {σ : S_t} (hR : RX G ad k σ) {g : Nat → Int64} (hg : k (21, 0, 0) = some (.inl (G.2 1, 1, .inr (.inl g)))) (x y i : Int32) : h_Wx l yL_at cL_at 6 (some .int) [(0, 12, 15, 25)] 8 119 1 6 G ad k [.ref (ad (0, 0, 0)), .int x, .int y, .int i, .ref (ad (21, 0, 0))] (LPost G ad k ((sp_at σ x y i).map Int32.toInt64)) := by
  refine h_wx (by decide +kernel) (Nat.le_of_ble_eq_true rfl) ?_
  intro p e s m args below meth c X Y hw hZ htab ls hl
  have hl : lv_has ls 6 [(0, .ref (ad (0, 0, 0))), (1, .int x), (2, .int y), (3, .int i), (4, .ref (ad (21, 0, 0)))] := hl
  have hx : k (0, 0, 0) = some (.inr (3, [.int (nI (s_cop σ)), .ref (ad (1, 0, 0)), .int (nI (s_nS σ)), .ref (ad (2, 0, 0)), .int (nI (s_nF σ)), .ref (ad (3, 0, 0)), .ref (ad (4, 0, 0)), .ref (ad (5, 0, 0)), .ref (ad (5, 1, 0)), .ref (ad (5, 2, 0)), .int (nI (s_as σ).length), .int (s_dg σ)])) := hR.1
  refine lv_aload X.1 X.2.1 dL_at_0 (lv_at hl 4 rfl) ?_
  refine lv_iconst (v := 0) X.1 X.2.1 dL_at_2 (by decide) ?_
  refine lv_aload_n X.1 X.2.1 dL_at_3 rfl (lv_at hl 0 rfl) ?_
  refine lv_iload_n X.1 X.2.1 dL_at_4 rfl (lv_at hl 1 rfl) ?_
  refine lv_iload_n X.1 X.2.1 dL_at_5 rfl (lv_at hl 2 rfl) ?_
  refine lv_iload_n X.1 X.2.1 dL_at_6 rfl (lv_at hl 3 rfl) ?_
  refine h_callTV (t := (0, 0, 0)) (As := [.int x, .int y, .int i]) (rest := [.int 0, .ref (ad (21, 0, 0))]) X hw hZ cs_L_21 (c_X3_at l G hR x y i hlt) hx rfl rfl hl.1 rfl (Nat.le_of_ble_eq_true rfl) ⟨by decide, by decide⟩ ⟨(Nat.le_of_ble_eq_true rfl), (Nat.le_of_ble_eq_true rfl)⟩ dL_at_7 (fun v9 ho => ?_) (fun ho q ce H1 hz1 hk1 hce hcv hcl => ?_)
  · obtain ⟨v, hv, rfl⟩ : ∃ v, (sp_at σ x y i) = some v ∧ v9 = .int v := by
      cases hs : (sp_at σ x y i) with
      | none => rw [hs] at ho; cases ho
      | some v => rw [hs] at ho; exact ⟨v, rfl, (Option.some.inj ho).symm⟩
    refine lv_i2l X.1 X.2.1 dL_at_10 rfl ?_
    refine h_last X hw hg (vp_in_nI (n := 0) (by decide) (by decide)) dL_at_11 (fun H locs hw => ?_)
    obtain ⟨k1, hk1⟩ : ∃ zz, zz = h_cu k (21, 0, 0) (some (.inl (G.2 1, 1, .inr (.inl (vp_updL g (0 : Int32).toNatClampNeg (v).toInt64))))) := ⟨_, rfl⟩
    replace hw := h_W.ren hw hk1
    have f1_21_0_0 : k1 (21, 0, 0) = some (.inl (G.2 1, 1, .inr (.inl (vp_updL g (0 : Int32).toNatClampNeg (v).toInt64)))) := by rw [hk1]; exact h_cs _ _ _
    refine lv_goto (tgt := 19) X.1 X.2.1 dL_at_12 (by decide) ?_
    refine lv_iconst (v := 0) X.1 X.2.1 dL_at_19 (by decide) ?_
    exact h_iretW X Y hw ⟨by rw [hv]; rfl, rfl, fun t ht => by rw [hk1, h_cn _ _ ht], _, f1_21_0_0, fun z hz => by
      rw [hv] at hz
      cases hz
      rfl⟩ (Nat.le_of_ble_eq_true rfl) (Nat.le_of_ble_eq_true rfl) dL_at_20
  · have hn : (sp_at σ x y i) = none := by
      cases hs : (sp_at σ x y i) with
      | none => rfl
      | some v => rw [hs] at ho; cases ho
    have hw2 := hw.grow hz1 hk1
    refine vx_catch (name := h_E3) (E := h_E3) X.2.2.2.1 [] ⟨0, 12, 15, 25⟩ [] htab (fun z hz => by cases hz) (by decide) (by decide) (X.2.2.2.2.1 _ wk_L_25) (va_Nw.use rfl (hZ.2.2.2.1 _ h_ca3)) hce hcv hcl ?_
    refine lv_astore (lv' := [(5, .ref q), (0, .ref (ad (0, 0, 0))), (1, .int x), (2, .int y), (3, .int i), (4, .ref (ad (21, 0, 0)))]) X.1 X.2.1 dL_at_15 hl (by decide) rfl (fun ls hl => ?_)
    refine lv_iconst (v := 1) X.1 X.2.1 dL_at_17 (by decide) ?_
    exact h_iretW X Y hw2 ⟨by rw [hn]; rfl, rfl, fun _ _ => rfl, g, hg, fun z hz => by rw [hn] at hz; cases hz⟩ (Nat.le_of_ble_eq_true rfl) (Nat.le_of_ble_eq_true rfl) dL_at_18
