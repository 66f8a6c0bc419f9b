theorem fillF_cases (τ : S_t) (j f : Nat) : (s_lead τ f = none ∧ s_fillF τ j f = (false, τ)) ∨ (∃ q b, s_lead τ f = some q ∧ s_cnt τ q f = some b ∧ s_has τ j f = true ∧ s_fillF τ j f = (false, τ)) ∨ (∃ q b, s_lead τ f = some q ∧ s_cnt τ q f = some b ∧ s_has τ j f = false ∧ s_cop τ ≤ cN (fun s => s_has τ s f) (s_nS τ) ∧ s_fillF τ j f = (false, τ)) ∨ (∃ q b, s_lead τ f = some q ∧ s_cnt τ q f = some b ∧ s_has τ j f = false ∧ cN (fun s => s_has τ s f) (s_nS τ) < s_cop τ ∧ s_fillF τ j f = (true, s_setRn (s_setCp τ j f (some b)) f (s_rn τ f + 1))) := by
  cases hq : s_lead τ f with
  | none =>
    refine Or.inl ⟨rfl, ?_⟩
    unfold s_fillF
    split
    · rfl
    · rw [lrow_n hq]
  | some q =>
    obtain ⟨-, b, hb⟩ := s_lead_spec hq
    cases hh : s_has τ j f with
    | true =>
      refine Or.inr (Or.inl ⟨q, b, rfl, hb, rfl, ?_⟩)
      unfold s_fillF
      rw [if_pos (Or.inl hh)]
    | false =>
      by_cases hc : s_cop τ ≤ cN (fun s => s_has τ s f) (s_nS τ)
      · refine Or.inr (Or.inr (Or.inl ⟨q, b, rfl, hb, rfl, hc, ?_⟩))
        unfold s_fillF
        rw [if_pos (Or.inr hc)]
      · refine Or.inr (Or.inr (Or.inr ⟨q, b, rfl, hb, rfl, Nat.lt_of_not_le hc, ?_⟩))
        unfold s_fillF
        rw [if_neg (fun z => z.elim (fun y => by rw [hh] at y; cases y) hc), lrow_s hq hb]
set_option maxHeartbeats 4000000 in
set_option maxRecDepth 100000 in
/-- fill -/
theorem c_X4_fill (l : Launch) (G : h_G) {ad : h_T → Nat} {k : h_C} {σ : S_t} {th : Int32} (hM : RM G ad k σ th) (x : Int32) : h_Wr l yX4_fill cX4_fill 5 (some .int) 5 112 0 0 G ad k [.ref (ad (20, 0, 0)), .int x] (MPost G ad k (some (.int (sp_fill σ x).1)) (sp_fill σ x).2 0) := by
  refine h_wr (by decide +kernel) (Nat.le_of_ble_eq_true rfl) ?_
  intro p e s m args below meth c X Y hw ls hl
  have hl : lv_has ls 5 [(0, .ref (ad (20, 0, 0))), (1, .int x)] := hl
  unfold sp_fill
  have hok := hM.ok
  have hnS : s_nS σ ≤ 10 := hok.2.1
  have hnF : s_nF σ ≤ 40 := hok.2.2.1
  have hx : k (20, 0, 0) = some (.inr (4, [.int th, .int (nI (s_cop σ)), .int (nI (s_nS σ)), .ref (ad (20, 3, 0)), .ref (ad (20, 4, 0)), .ref (ad (20, 5, 0)), .ref (ad (20, 6, 0)), .int (nI (s_col σ).length), .ref (ad (20, 8, 0)), .int (nI (s_nF σ)), .ref (ad (20, 10, 0)), .ref (ad (20, 11, 0)), .ref (ad (20, 12, 0)), .ref (ad (20, 13, 0)), .int (nI (s_as σ).length), .ref (ad (20, 15, 0)), .ref (ad (20, 16, 0)), .ref (ad (20, 17, 0)), .ref (ad (20, 18, 0)), .int (s_dg σ)])) := hM.1
  refine lv_aload_n X.1 X.2.1 dX4_fill_0 rfl (lv_at hl 0 rfl) ?_
  refine lv_iconst (v := 0) X.1 X.2.1 dX4_fill_1 (by decide) ?_
  refine pf_X4_55 X hw hx rfl rfl (Nat.le_of_ble_eq_true rfl) dX4_fill_2 (fun H locs hw => ?_)
  obtain ⟨k1, hk1⟩ : ∃ zz, zz = h_cu k (20, 0, 0) (some (.inr (4, [.int 0, .int (nI (s_cop σ)), .int (nI (s_nS σ)), .ref (ad (20, 3, 0)), .ref (ad (20, 4, 0)), .ref (ad (20, 5, 0)), .ref (ad (20, 6, 0)), .int (nI (s_col σ).length), .ref (ad (20, 8, 0)), .int (nI (s_nF σ)), .ref (ad (20, 10, 0)), .ref (ad (20, 11, 0)), .ref (ad (20, 12, 0)), .ref (ad (20, 13, 0)), .int (nI (s_as σ).length), .ref (ad (20, 15, 0)), .ref (ad (20, 16, 0)), .ref (ad (20, 17, 0)), .ref (ad (20, 18, 0)), .int (s_dg σ)]))) := ⟨_, rfl⟩
  replace hw := h_W.ren hw hk1
  have f1_20_0_0 : k1 (20, 0, 0) = some (.inr (4, [.int 0, .int (nI (s_cop σ)), .int (nI (s_nS σ)), .ref (ad (20, 3, 0)), .ref (ad (20, 4, 0)), .ref (ad (20, 5, 0)), .ref (ad (20, 6, 0)), .int (nI (s_col σ).length), .ref (ad (20, 8, 0)), .int (nI (s_nF σ)), .ref (ad (20, 10, 0)), .ref (ad (20, 11, 0)), .ref (ad (20, 12, 0)), .ref (ad (20, 13, 0)), .int (nI (s_as σ).length), .ref (ad (20, 15, 0)), .ref (ad (20, 16, 0)), .ref (ad (20, 17, 0)), .ref (ad (20, 18, 0)), .int (s_dg σ)])) := by rw [hk1]; exact h_cs _ _ _
  have hM1 : RM G ad k1 σ 0 := hM.obj f1_20_0_0 (fun t ht => by rw [hk1, h_cn _ _ ht])
  obtain ⟨hx, ⟨gP, eP, vP⟩, ⟨gS, eS, vS⟩, ⟨gU, eU, vU⟩, ⟨gD, eD, vD⟩, ⟨gA, eA, vA⟩, ⟨gK, eK, vK⟩, ⟨gN, eN, vN⟩, ⟨gZ, eZ, vZ⟩, ⟨gB, eB, vB⟩, ⟨g0, g1, g2, e15, e16, e17, v3⟩, ⟨gM, eM⟩, -⟩ := id hM1
  have hx : k1 (20, 0, 0) = some (.inr (4, [.int 0, .int (nI (s_cop σ)), .int (nI (s_nS σ)), .ref (ad (20, 3, 0)), .ref (ad (20, 4, 0)), .ref (ad (20, 5, 0)), .ref (ad (20, 6, 0)), .int (nI (s_col σ).length), .ref (ad (20, 8, 0)), .int (nI (s_nF σ)), .ref (ad (20, 10, 0)), .ref (ad (20, 11, 0)), .ref (ad (20, 12, 0)), .ref (ad (20, 13, 0)), .int (nI (s_as σ).length), .ref (ad (20, 15, 0)), .ref (ad (20, 16, 0)), .ref (ad (20, 17, 0)), .ref (ad (20, 18, 0)), .int (s_dg σ)])) := hx
  rcases hs : ix x (s_nS σ) with _ | j
  · refine lv_aload_n X.1 X.2.1 dX4_fill_5 rfl (lv_at hl 0 rfl) ?_
    refine lv_iload_n X.1 X.2.1 dX4_fill_6 rfl (lv_at hl 1 rfl) ?_
    refine h_callRV (t := (20, 0, 0)) (As := [.int x]) (rest := []) X hw cs_X4_68 (c_X4_isStore l G hM1 x) hx rfl rfl hl.1 rfl (Nat.le_of_ble_eq_true rfl) ⟨by decide, by decide⟩ ⟨Nat.zero_le _, Nat.zero_le _⟩ dX4_fill_7 ?_
    refine h_tv (b := .int 0) (by rw [hs]; rfl) ?_
    refine lv_if_ne (tgt := 15) X.1 X.2.1 dX4_fill_10 (by decide) (fun c10 => ?_) (fun c10 => ?_)
    · exact absurd (by decide) c10
    · refine lv_iconst (v := (-1)) X.1 X.2.1 dX4_fill_13 (by decide) ?_
      exact h_iretW X Y hw ⟨rfl, rfl, hM1, fun t ht => by rw [hk1, h_cn _ _ (t_ne20 ht)]⟩ (Nat.zero_le _) (Nat.zero_le _) dX4_fill_14
  obtain rfl := ix_eq hs
  have hj := ix_lt hs
  dsimp only
  cases hsi : s_si σ j with
  | true =>
    rw [if_pos rfl]
    refine lv_aload_n X.1 X.2.1 dX4_fill_5 rfl (lv_at hl 0 rfl) ?_
    refine lv_iload_n X.1 X.2.1 dX4_fill_6 rfl (lv_at hl 1 rfl) ?_
    refine h_callRV (t := (20, 0, 0)) (As := [.int (nI j)]) (rest := []) X hw cs_X4_68 (c_X4_isStore l G hM1 (nI j)) hx rfl rfl hl.1 rfl (Nat.le_of_ble_eq_true rfl) ⟨by decide, by decide⟩ ⟨Nat.zero_le _, Nat.zero_le _⟩ dX4_fill_7 ?_
    refine h_tv (b := .int 1) (by rw [hs]; rfl) ?_
    refine lv_if_ne (tgt := 15) X.1 X.2.1 dX4_fill_10 (by decide) (fun c10 => ?_) (fun c10 => ?_)
    · refine lv_aload_n X.1 X.2.1 dX4_fill_15 rfl (lv_at hl 0 rfl) ?_
      refine gf_X4_13 X hw hx rfl dX4_fill_16 ?_
      refine lv_iload_n X.1 X.2.1 dX4_fill_19 rfl (lv_at hl 1 rfl) ?_
      refine h_zald X hw eS (vp_in_nI (by omega) (by decide)) dX4_fill_20 ?_
      refine h_tv (b := .int 1) (by rw [nI_clamp (by omega), vS j (by omega), hsi, bI_t]) ?_
      refine lv_if_eq (tgt := 27) X.1 X.2.1 dX4_fill_21 (by decide) (fun c21 => ?_) (fun c21 => ?_)
      · exact absurd c21 (by decide)
      · refine lv_bipush (v := (-3)) X.1 X.2.1 dX4_fill_24 (by decide) ?_
        exact h_iretW X Y hw ⟨rfl, rfl, hM1, fun t ht => by rw [hk1, h_cn _ _ (t_ne20 ht)]⟩ (Nat.zero_le _) (Nat.zero_le _) dX4_fill_26
    · exact absurd c10 (by decide)
  | false =>
    rw [if_neg (show ¬ (false : Bool) = true from fun q => by cases q)]
    have loop : ∀ (n i : Nat), i ≤ s_nF σ → s_nF σ + 1 ≤ i + n → ∀ (kk : h_C) (H : Heap) (locs : List Loc), RM G ad kk (sp_fillN σ j i).2 0 → (∀ t : h_T, t.1 ≠ 20 → kk t = k t) → h_W G.1 h_cl (h_A ad k s.heap.size) s.heap ad kk H locs → ∀ (ls : Array Slot), lv_has ls 5 [(0, .ref (ad (20, 0, 0))), (1, .int (nI j)), (2, .int (nI (sp_fillN σ j i).1)), (3, .int (nI i))] → W p l e (h_rm 5 112 0 0) s m args below meth c H locs 0 0 (MQ below (h_Qw G ad k s.heap.size (MPost G ad k (some (.int (nI (sp_fillN σ j (s_nF σ)).1))) (sp_fillN σ j (s_nF σ)).2 0)) args s 0 0 (h_A ad k s.heap.size)) (F0 m 31 ls []) := by
      intro n
      induction n with
      | zero =>
        intro i h1 h2
        exact absurd h2 (by omega)
      | succ n ih =>
        intro i hii hni kk H locs hMk h20 hw ls hl
        obtain ⟨τ, hτ⟩ : ∃ zz, zz = (sp_fillN σ j i).2 := ⟨_, rfl⟩
        rw [← hτ] at hMk
        obtain ⟨e1, e2, e3⟩ := fillNN σ j i
        rw [← hτ] at e1 e2 e3
        have eF : s_nF τ = s_nF σ := by unfold s_nF; rw [e1]
        have eS9 : s_nS τ = s_nS σ := by unfold s_nS; rw [e1]
        have eC : s_cop τ = s_cop σ := by unfold s_cop; rw [e1]
        have hle := fillN_le σ j i
        have hcop := hok.1
        have okt := hMk.ok
        obtain ⟨gx, -, -, -, -, -, -, ⟨gN2, eN2, vN2⟩, -, -, -, -, -⟩ := id hMk
        have gx : kk (20, 0, 0) = some (.inr (4, [.int 0, .int (nI (s_cop τ)), .int (nI (s_nS τ)), .ref (ad (20, 3, 0)), .ref (ad (20, 4, 0)), .ref (ad (20, 5, 0)), .ref (ad (20, 6, 0)), .int (nI (s_col τ).length), .ref (ad (20, 8, 0)), .int (nI (s_nF τ)), .ref (ad (20, 10, 0)), .ref (ad (20, 11, 0)), .ref (ad (20, 12, 0)), .ref (ad (20, 13, 0)), .int (nI (s_as τ).length), .ref (ad (20, 15, 0)), .ref (ad (20, 16, 0)), .ref (ad (20, 17, 0)), .ref (ad (20, 18, 0)), .int (s_dg τ)])) := gx
        have es : sp_fillN σ j (i + 1) = ((sp_fillN σ j i).1 + (if (s_fillF τ j i).1 then 1 else 0), (s_fillF τ j i).2) := by rw [hτ]; rfl
        refine lv_iload_n X.1 X.2.1 dX4_fill_31 rfl (lv_at hl 3 rfl) ?_
        refine lv_aload_n X.1 X.2.1 dX4_fill_32 rfl (lv_at hl 0 rfl) ?_
        refine gf_X4_65 X hw gx rfl dX4_fill_33 ?_
        refine lv_icmp_ge (tgt := 103) X.1 X.2.1 dX4_fill_36 (by decide) (fun c36 => ?_) (fun c36 => ?_)
        · refine lv_iload_n X.1 X.2.1 dX4_fill_103 rfl (lv_at hl 2 rfl) ?_
          have hiE : s_nF σ = i := Nat.le_antisymm (by rw [← eF]; exact Nat.le_of_not_lt (fun q => absurd c36 (nI_ge q (by omega)))) hii
          rw [hiE]
          exact h_iretW X Y hw ⟨rfl, rfl, by rw [← hτ]; exact hMk, h20⟩ (Nat.zero_le _) (Nat.zero_le _) dX4_fill_104
        · have hib : i < s_nF τ := Nat.lt_of_not_le (fun q => c36 (nI_le q (by omega)))
          have hjt : j < s_nS τ := by omega
          have hcl := cN_le (fun s => s_has τ s i) (s_nS τ)
          rcases fillF_cases τ j i with ⟨hq, ef⟩ | ⟨q9, bq, hq, hbq, hh, ef⟩ | ⟨q9, bq, hq, hbq, hh, hcc, ef⟩ | ⟨q9, bq, hq, hbq, hh, hcc, ef⟩
          · refine lv_aload_n X.1 X.2.1 dX4_fill_39 rfl (lv_at hl 0 rfl) ?_
            refine lv_iload_n X.1 X.2.1 dX4_fill_40 rfl (lv_at hl 3 rfl) ?_
            refine h_callRV (t := (20, 0, 0)) (As := [.int (nI i)]) (rest := []) X hw cs_X4_103 (c_X4_leader l G hMk hib) gx rfl rfl hl.1 rfl (Nat.le_of_ble_eq_true rfl) ⟨by decide, by decide⟩ ⟨Nat.zero_le _, Nat.zero_le _⟩ dX4_fill_41 ?_
            refine h_tv (b := .int (-1)) (by rw [hq]; rfl) ?_
            refine lv_istore (lv' := [(4, .int (-1)), (0, .ref (ad (20, 0, 0))), (1, .int (nI j)), (2, .int (nI (sp_fillN σ j i).1)), (3, .int (nI i))]) X.1 X.2.1 dX4_fill_44 hl (by decide) rfl (fun ls hl => ?_)
            refine lv_iload X.1 X.2.1 dX4_fill_46 (lv_at hl 0 rfl) ?_
            refine lv_if_lt (tgt := 97) X.1 X.2.1 dX4_fill_48 (by decide) (fun c48 => ?_) (fun c48 => ?_)
            · refine lv_iinc (v := nI (i + 1)) (lv' := [(3, .int (nI (i + 1))), (4, .int (-1)), (0, .ref (ad (20, 0, 0))), (1, .int (nI j)), (2, .int (nI (sp_fillN σ j i).1))]) X.1 X.2.1 dX4_fill_97 hl (k := 4) rfl (nI_1 _) (by decide) rfl (fun ls hl => ?_)
              refine lv_goto (tgt := 31) X.1 X.2.1 dX4_fill_100 (by decide) ?_
              exact ih (i + 1) (by omega) (by omega) kk _ _ (by rw [es, ef]; exact hMk) h20 hw ls (by
                rw [es, ef]
                exact lv_sub hl [2, 3, 4, 0] rfl)
            · exact absurd (by decide) c48
          · refine lv_aload_n X.1 X.2.1 dX4_fill_39 rfl (lv_at hl 0 rfl) ?_
            refine lv_iload_n X.1 X.2.1 dX4_fill_40 rfl (lv_at hl 3 rfl) ?_
            refine h_callRV (t := (20, 0, 0)) (As := [.int (nI i)]) (rest := []) X hw cs_X4_103 (c_X4_leader l G hMk hib) gx rfl rfl hl.1 rfl (Nat.le_of_ble_eq_true rfl) ⟨by decide, by decide⟩ ⟨Nat.zero_le _, Nat.zero_le _⟩ dX4_fill_41 ?_
            refine h_tv (b := .int (nI q9)) (by rw [hq]; rfl) ?_
            refine lv_istore (lv' := [(4, .int (nI q9)), (0, .ref (ad (20, 0, 0))), (1, .int (nI j)), (2, .int (nI (sp_fillN σ j i).1)), (3, .int (nI i))]) X.1 X.2.1 dX4_fill_44 hl (by decide) rfl (fun ls hl => ?_)
            obtain ⟨hq9l, -⟩ := s_lead_spec hq
            refine lv_iload X.1 X.2.1 dX4_fill_46 (lv_at hl 0 rfl) ?_
            refine lv_if_lt (tgt := 97) X.1 X.2.1 dX4_fill_48 (by decide) (fun c48 => ?_) (fun c48 => ?_)
            · exact absurd c48 (nI_pos (by omega))
            · refine lv_aload_n X.1 X.2.1 dX4_fill_51 rfl (lv_at hl 1 rfl) ?_
              refine lv_iload_n X.1 X.2.1 dX4_fill_52 rfl (lv_at hl 2 rfl) ?_
              refine lv_iload_n X.1 X.2.1 dX4_fill_53 rfl (lv_at hl 4 rfl) ?_
              refine h_callRV (t := (20, 0, 0)) (As := [.int (nI j), .int (nI i)]) (rest := []) X hw cs_X4_75 (c_X4_hasN l G hMk hjt hib) gx rfl rfl hl.1 rfl (Nat.le_of_ble_eq_true rfl) ⟨by decide, by decide⟩ ⟨Nat.zero_le _, Nat.zero_le _⟩ dX4_fill_54 ?_
              refine h_tv (b := .int 1) (by rw [hh]; rfl) ?_
              refine lv_if_ne (tgt := 97) X.1 X.2.1 dX4_fill_57 (by decide) (fun c57 => ?_) (fun c57 => ?_)
              · refine lv_iinc (v := nI (i + 1)) (lv' := [(3, .int (nI (i + 1))), (4, .int (nI q9)), (0, .ref (ad (20, 0, 0))), (1, .int (nI j)), (2, .int (nI (sp_fillN σ j i).1))]) X.1 X.2.1 dX4_fill_97 hl (k := 4) rfl (nI_1 _) (by decide) rfl (fun ls hl => ?_)
                refine lv_goto (tgt := 31) X.1 X.2.1 dX4_fill_100 (by decide) ?_
                exact ih (i + 1) (by omega) (by omega) kk _ _ (by rw [es, ef]; exact hMk) h20 hw ls (by
                  rw [es, ef]
                  exact lv_sub hl [2, 3, 4, 0] rfl)
              · exact absurd c57 (by decide)
          · refine lv_aload_n X.1 X.2.1 dX4_fill_39 rfl (lv_at hl 0 rfl) ?_
            refine lv_iload_n X.1 X.2.1 dX4_fill_40 rfl (lv_at hl 3 rfl) ?_
            refine h_callRV (t := (20, 0, 0)) (As := [.int (nI i)]) (rest := []) X hw cs_X4_103 (c_X4_leader l G hMk hib) gx rfl rfl hl.1 rfl (Nat.le_of_ble_eq_true rfl) ⟨by decide, by decide⟩ ⟨Nat.zero_le _, Nat.zero_le _⟩ dX4_fill_41 ?_
            refine h_tv (b := .int (nI q9)) (by rw [hq]; rfl) ?_
            refine lv_istore (lv' := [(4, .int (nI q9)), (0, .ref (ad (20, 0, 0))), (1, .int (nI j)), (2, .int (nI (sp_fillN σ j i).1)), (3, .int (nI i))]) X.1 X.2.1 dX4_fill_44 hl (by decide) rfl (fun ls hl => ?_)
            obtain ⟨hq9l, -⟩ := s_lead_spec hq
            refine lv_iload X.1 X.2.1 dX4_fill_46 (lv_at hl 0 rfl) ?_
            refine lv_if_lt (tgt := 97) X.1 X.2.1 dX4_fill_48 (by decide) (fun c48 => ?_) (fun c48 => ?_)
            · exact absurd c48 (nI_pos (by omega))
            · refine lv_aload_n X.1 X.2.1 dX4_fill_51 rfl (lv_at hl 1 rfl) ?_
              refine lv_iload_n X.1 X.2.1 dX4_fill_52 rfl (lv_at hl 2 rfl) ?_
              refine lv_iload_n X.1 X.2.1 dX4_fill_53 rfl (lv_at hl 4 rfl) ?_
              refine h_callRV (t := (20, 0, 0)) (As := [.int (nI j), .int (nI i)]) (rest := []) X hw cs_X4_75 (c_X4_hasN l G hMk hjt hib) gx rfl rfl hl.1 rfl (Nat.le_of_ble_eq_true rfl) ⟨by decide, by decide⟩ ⟨Nat.zero_le _, Nat.zero_le _⟩ dX4_fill_54 ?_
              refine h_tv (b := .int 0) (by rw [hh]; rfl) ?_
              refine lv_if_ne (tgt := 97) X.1 X.2.1 dX4_fill_57 (by decide) (fun c57 => ?_) (fun c57 => ?_)
              · exact absurd (by decide) c57
              · refine lv_aload_n X.1 X.2.1 dX4_fill_60 rfl (lv_at hl 1 rfl) ?_
                refine lv_iload_n X.1 X.2.1 dX4_fill_61 rfl (lv_at hl 4 rfl) ?_
                refine lv_iconst (v := 1) X.1 X.2.1 dX4_fill_62 (by decide) ?_
                refine h_callRV (t := (20, 0, 0)) (As := [.int (nI i), .int 1]) (rest := []) X hw cs_X4_113 (c_X4_copiesOf1 l G hMk hib) gx rfl rfl hl.1 rfl (Nat.le_of_ble_eq_true rfl) ⟨by decide, by decide⟩ ⟨Nat.zero_le _, Nat.zero_le _⟩ dX4_fill_63 ?_
                refine lv_aload_n X.1 X.2.1 dX4_fill_66 rfl (lv_at hl 1 rfl) ?_
                refine gf_X4_51 X hw gx rfl dX4_fill_67 ?_
                refine lv_icmp_lt (tgt := 76) X.1 X.2.1 dX4_fill_70 (by decide) (fun c70 => ?_) (fun c70 => ?_)
                · exact absurd c70 (nI_nlt (by omega) (by omega))
                · refine lv_goto (tgt := 97) X.1 X.2.1 dX4_fill_73 (by decide) ?_
                  refine lv_iinc (v := nI (i + 1)) (lv' := [(3, .int (nI (i + 1))), (4, .int (nI q9)), (0, .ref (ad (20, 0, 0))), (1, .int (nI j)), (2, .int (nI (sp_fillN σ j i).1))]) X.1 X.2.1 dX4_fill_97 hl (k := 4) rfl (nI_1 _) (by decide) rfl (fun ls hl => ?_)
                  refine lv_goto (tgt := 31) X.1 X.2.1 dX4_fill_100 (by decide) ?_
                  exact ih (i + 1) (by omega) (by omega) kk _ _ (by rw [es, ef]; exact hMk) h20 hw ls (by
                    rw [es, ef]
                    exact lv_sub hl [2, 3, 4, 0] rfl)
          · refine lv_aload_n X.1 X.2.1 dX4_fill_39 rfl (lv_at hl 0 rfl) ?_
            refine lv_iload_n X.1 X.2.1 dX4_fill_40 rfl (lv_at hl 3 rfl) ?_
            refine h_callRV (t := (20, 0, 0)) (As := [.int (nI i)]) (rest := []) X hw cs_X4_103 (c_X4_leader l G hMk hib) gx rfl rfl hl.1 rfl (Nat.le_of_ble_eq_true rfl) ⟨by decide, by decide⟩ ⟨Nat.zero_le _, Nat.zero_le _⟩ dX4_fill_41 ?_
            refine h_tv (b := .int (nI q9)) (by rw [hq]; rfl) ?_
            refine lv_istore (lv' := [(4, .int (nI q9)), (0, .ref (ad (20, 0, 0))), (1, .int (nI j)), (2, .int (nI (sp_fillN σ j i).1)), (3, .int (nI i))]) X.1 X.2.1 dX4_fill_44 hl (by decide) rfl (fun ls hl => ?_)
            obtain ⟨hq9l, -⟩ := s_lead_spec hq
            refine lv_iload X.1 X.2.1 dX4_fill_46 (lv_at hl 0 rfl) ?_
            refine lv_if_lt (tgt := 97) X.1 X.2.1 dX4_fill_48 (by decide) (fun c48 => ?_) (fun c48 => ?_)
            · exact absurd c48 (nI_pos (by omega))
            · refine lv_aload_n X.1 X.2.1 dX4_fill_51 rfl (lv_at hl 1 rfl) ?_
              refine lv_iload_n X.1 X.2.1 dX4_fill_52 rfl (lv_at hl 2 rfl) ?_
              refine lv_iload_n X.1 X.2.1 dX4_fill_53 rfl (lv_at hl 4 rfl) ?_
              refine h_callRV (t := (20, 0, 0)) (As := [.int (nI j), .int (nI i)]) (rest := []) X hw cs_X4_75 (c_X4_hasN l G hMk hjt hib) gx rfl rfl hl.1 rfl (Nat.le_of_ble_eq_true rfl) ⟨by decide, by decide⟩ ⟨Nat.zero_le _, Nat.zero_le _⟩ dX4_fill_54 ?_
              refine h_tv (b := .int 0) (by rw [hh]; rfl) ?_
              refine lv_if_ne (tgt := 97) X.1 X.2.1 dX4_fill_57 (by decide) (fun c57 => ?_) (fun c57 => ?_)
              · exact absurd (by decide) c57
              · refine lv_aload_n X.1 X.2.1 dX4_fill_60 rfl (lv_at hl 1 rfl) ?_
                refine lv_iload_n X.1 X.2.1 dX4_fill_61 rfl (lv_at hl 4 rfl) ?_
                refine lv_iconst (v := 1) X.1 X.2.1 dX4_fill_62 (by decide) ?_
                refine h_callRV (t := (20, 0, 0)) (As := [.int (nI i), .int 1]) (rest := []) X hw cs_X4_113 (c_X4_copiesOf1 l G hMk hib) gx rfl rfl hl.1 rfl (Nat.le_of_ble_eq_true rfl) ⟨by decide, by decide⟩ ⟨Nat.zero_le _, Nat.zero_le _⟩ dX4_fill_63 ?_
                refine lv_aload_n X.1 X.2.1 dX4_fill_66 rfl (lv_at hl 1 rfl) ?_
                refine gf_X4_51 X hw gx rfl dX4_fill_67 ?_
                refine lv_icmp_lt (tgt := 76) X.1 X.2.1 dX4_fill_70 (by decide) (fun c70 => ?_) (fun c70 => ?_)
                · refine lv_aload_n X.1 X.2.1 dX4_fill_76 rfl (lv_at hl 1 rfl) ?_
                  refine lv_iload_n X.1 X.2.1 dX4_fill_77 rfl (lv_at hl 4 rfl) ?_
                  refine lv_iload X.1 X.2.1 dX4_fill_78 (lv_at hl 0 rfl) ?_
                  refine lv_iload_n X.1 X.2.1 dX4_fill_80 rfl (lv_at hl 2 rfl) ?_
                  have hne : q9 ≠ j := fun z => by
                    rw [z] at hbq
                    have := (s_cnt_cp hbq).1
                    unfold s_has at hh
                    rw [this] at hh
                    cases hh
                  refine h_callWV (t := (20, 0, 0)) (As := [.int (nI i), .int (nI q9), .int (nI j)]) (rest := []) X hw cs_X4_109 (c_X4_copy l G hMk (s_cnt_cp hbq).1 hjt hne) gx rfl rfl hl.1 rfl (Nat.le_of_ble_eq_true rfl) ⟨by decide, by decide⟩ ⟨(Nat.le_of_ble_eq_true rfl), (Nat.le_of_ble_eq_true rfl)⟩ dX4_fill_81 (fun r9 ad2 k2 H locs hp9 hw => ?_)
                  obtain ⟨rfl, ea2, hM2, ho2⟩ := hp9
                  refine W.eq (g2 := F0 m 84 ls []) rfl ?_
                  replace hw := hw.renA ea2.symm
                  obtain ⟨hx2, -, -, -, -, -, -, ⟨gN3, eN3, vN3⟩, -, -, -, -, -⟩ := id hM2
                  have hx2 : k2 (20, 0, 0) = some (.inr (4, [.int 0, .int (nI (s_cop τ)), .int (nI (s_nS τ)), .ref (ad (20, 3, 0)), .ref (ad (20, 4, 0)), .ref (ad (20, 5, 0)), .ref (ad (20, 6, 0)), .int (nI (s_col τ).length), .ref (ad (20, 8, 0)), .int (nI (s_nF τ)), .ref (ad (20, 10, 0)), .ref (ad (20, 11, 0)), .ref (ad (20, 12, 0)), .ref (ad (20, 13, 0)), .int (nI (s_as τ).length), .ref (ad (20, 15, 0)), .ref (ad (20, 16, 0)), .ref (ad (20, 17, 0)), .ref (ad (20, 18, 0)), .int (s_dg τ)])) := hx2
                  refine lv_aload_n X.1 X.2.1 dX4_fill_84 rfl (lv_at hl 1 rfl) ?_
                  refine gf_X4_30 X hw hx2 rfl dX4_fill_85 ?_
                  refine lv_iload_n X.1 X.2.1 dX4_fill_88 rfl (lv_at hl 4 rfl) ?_
                  refine lv_dup2_11 X.1 X.2.1 dX4_fill_89 rfl rfl ?_
                  refine h_iald X hw eN3 (vp_in_nI (by omega) (by decide)) dX4_fill_90 ?_
                  refine h_tv (b := .int (s_rn τ i)) (by rw [nI_clamp (by omega), vN3 i (by omega)]; rfl) ?_
                  refine lv_iconst (v := 1) X.1 X.2.1 dX4_fill_91 (by decide) ?_
                  refine lv_iadd X.1 X.2.1 dX4_fill_92 ?_
                  refine h_ti (b := s_rn τ i + 1) rfl ?_
                  refine h_iast X hw eN3 (vp_in_nI (by omega) (by decide)) dX4_fill_93 (fun H locs hw => ?_)
                  obtain ⟨k3, hk3⟩ : ∃ zz, zz = h_cu k2 (20, 11, 0) (some (.inl (G.2 0, 40, .inl (upd gN3 (nI i).toNatClampNeg (s_rn τ i + 1))))) := ⟨_, rfl⟩
                  replace hw := h_W.ren hw hk3
                  have f3_20_0_0 : k3 (20, 0, 0) = some (.inr (4, [.int 0, .int (nI (s_cop τ)), .int (nI (s_nS τ)), .ref (ad (20, 3, 0)), .ref (ad (20, 4, 0)), .ref (ad (20, 5, 0)), .ref (ad (20, 6, 0)), .int (nI (s_col τ).length), .ref (ad (20, 8, 0)), .int (nI (s_nF τ)), .ref (ad (20, 10, 0)), .ref (ad (20, 11, 0)), .ref (ad (20, 12, 0)), .ref (ad (20, 13, 0)), .int (nI (s_as τ).length), .ref (ad (20, 15, 0)), .ref (ad (20, 16, 0)), .ref (ad (20, 17, 0)), .ref (ad (20, 18, 0)), .int (s_dg τ)])) := by rw [hk3, h_cn _ _ (by simp)]; exact hx2
                  have f3_20_11_0 : k3 (20, 11, 0) = some (.inl (G.2 0, 40, .inl (upd gN3 (nI i).toNatClampNeg (s_rn τ i + 1)))) := by rw [hk3]; exact h_cs _ _ _
                  refine lv_iinc (v := nI (((sp_fillN σ j i).1) + 1)) (lv' := [(2, .int (nI (((sp_fillN σ j i).1) + 1))), (4, .int (nI q9)), (0, .ref (ad (20, 0, 0))), (1, .int (nI j)), (3, .int (nI i))]) X.1 X.2.1 dX4_fill_94 hl (k := 3) rfl (nI_1 _) (by decide) rfl (fun ls hl => ?_)
                  refine lv_iinc (v := nI (i + 1)) (lv' := [(3, .int (nI (i + 1))), (2, .int (nI (((sp_fillN σ j i).1) + 1))), (4, .int (nI q9)), (0, .ref (ad (20, 0, 0))), (1, .int (nI j))]) X.1 X.2.1 dX4_fill_97 hl (k := 4) rfl (nI_1 _) (by decide) rfl (fun ls hl => ?_)
                  refine lv_goto (tgt := 31) X.1 X.2.1 dX4_fill_100 (by decide) ?_
                  exact ih (i + 1) (by omega) (by omega) k3 _ _ (by
                    rw [es, ef]
                    exact RM.rn hM2 hib (fun a ha => by
                      rw [nI_clamp (by omega)]
                      by_cases z : a = i
                      · rw [z, pk_us, pk_us]
                      · rw [pk_un z, pk_un z]; exact vN3 a ha) f3_20_11_0 (fun t ht => by rw [hk3, h_cn _ _ ht])) (fun t ht => by rw [hk3, h_cn _ _ (t_ne20 ht), ho2 t (t_ne20 ht) (t_ne20 ht), h20 t ht]) hw ls (by
                    rw [es, ef]
                    exact lv_sub hl [3, 4, 1, 0] rfl)
                · exact absurd (nI_lt (by omega) (by omega)) c70
    refine lv_aload_n X.1 X.2.1 dX4_fill_5 rfl (lv_at hl 0 rfl) ?_
    refine lv_iload_n X.1 X.2.1 dX4_fill_6 rfl (lv_at hl 1 rfl) ?_
    refine h_callRV (t := (20, 0, 0)) (As := [.int (nI j)]) (rest := []) X hw cs_X4_68 (c_X4_isStore l G hM1 (nI j)) hx rfl rfl hl.1 rfl (Nat.le_of_ble_eq_true rfl) ⟨by decide, by decide⟩ ⟨Nat.zero_le _, Nat.zero_le _⟩ dX4_fill_7 ?_
    refine h_tv (b := .int 1) (by rw [hs]; rfl) ?_
    refine lv_if_ne (tgt := 15) X.1 X.2.1 dX4_fill_10 (by decide) (fun c10 => ?_) (fun c10 => ?_)
    · refine lv_aload_n X.1 X.2.1 dX4_fill_15 rfl (lv_at hl 0 rfl) ?_
      refine gf_X4_13 X hw hx rfl dX4_fill_16 ?_
      refine lv_iload_n X.1 X.2.1 dX4_fill_19 rfl (lv_at hl 1 rfl) ?_
      refine h_zald X hw eS (vp_in_nI (by omega) (by decide)) dX4_fill_20 ?_
      refine h_tv (b := .int 0) (by rw [nI_clamp (by omega), vS j (by omega), hsi, bI_f]) ?_
      refine lv_if_eq (tgt := 27) X.1 X.2.1 dX4_fill_21 (by decide) (fun c21 => ?_) (fun c21 => ?_)
      · refine lv_iconst (v := 0) X.1 X.2.1 dX4_fill_27 (by decide) ?_
        refine lv_istore_n (lv' := [(2, .int 0), (0, .ref (ad (20, 0, 0))), (1, .int (nI j))]) X.1 X.2.1 dX4_fill_28 rfl hl (by decide) rfl (fun ls hl => ?_)
        refine lv_iconst (v := 0) X.1 X.2.1 dX4_fill_29 (by decide) ?_
        refine lv_istore_n (lv' := [(3, .int 0), (2, .int 0), (0, .ref (ad (20, 0, 0))), (1, .int (nI j))]) X.1 X.2.1 dX4_fill_30 rfl hl (by decide) rfl (fun ls hl => ?_)
        exact loop (s_nF σ + 1) 0 (by omega) (by omega) k1 _ _ hM1 (fun t ht => by rw [hk1, h_cn _ _ (t_ne20 ht)]) hw ls (lv_sub hl [2, 3, 1, 0] rfl)
      · exact absurd (by decide) c21
    · exact absurd c10 (by decide)
theorem mend_cases (τ : S_t) (f : Nat) (x : Int32) : (¬ s_pk τ f = x) ∨ (s_pk τ f = x ∧ s_lead τ f = none) ∨ (∃ q b, s_pk τ f = x ∧ s_lead τ f = some q ∧ s_cnt τ q f = some b) := by
  by_cases h : s_pk τ f = x
  · cases hq : s_lead τ f with
    | none => exact Or.inr (Or.inl ⟨h, rfl⟩)
    | some q =>
      obtain ⟨-, b, hb⟩ := s_lead_spec hq
      exact Or.inr (Or.inr ⟨q, b, h, rfl, hb⟩)
  · exact Or.inl h
set_option maxHeartbeats 4000000 in
set_option maxRecDepth 100000 in
/-- mend -/
theorem c_X4_mend (l : Launch) (G : h_G) {ad : h_T → Nat} {k : h_C} {σ : S_t} {th : Int32} (hM : RM G ad k σ th) (x : Int32) : h_Wr l yX4_mend cX4_mend 6 (some .int) 5 112 0 0 G ad k [.ref (ad (20, 0, 0)), .int x] (MPost G ad k (some (.int (sp_mend σ x).1)) (sp_mend σ x).2 0) := by
  refine h_wr (by decide +kernel) (Nat.le_of_ble_eq_true rfl) ?_
  intro p e s m args below meth c X Y hw ls hl
  have hl : lv_has ls 6 [(0, .ref (ad (20, 0, 0))), (1, .int x)] := hl
  unfold sp_mend
  have hok := hM.ok
  have hnS : s_nS σ ≤ 10 := hok.2.1
  have hnF : s_nF σ ≤ 40 := hok.2.2.1
  have hx : k (20, 0, 0) = some (.inr (4, [.int th, .int (nI (s_cop σ)), .int (nI (s_nS σ)), .ref (ad (20, 3, 0)), .ref (ad (20, 4, 0)), .ref (ad (20, 5, 0)), .ref (ad (20, 6, 0)), .int (nI (s_col σ).length), .ref (ad (20, 8, 0)), .int (nI (s_nF σ)), .ref (ad (20, 10, 0)), .ref (ad (20, 11, 0)), .ref (ad (20, 12, 0)), .ref (ad (20, 13, 0)), .int (nI (s_as σ).length), .ref (ad (20, 15, 0)), .ref (ad (20, 16, 0)), .ref (ad (20, 17, 0)), .ref (ad (20, 18, 0)), .int (s_dg σ)])) := hM.1
  refine lv_aload_n X.1 X.2.1 dX4_mend_0 rfl (lv_at hl 0 rfl) ?_
  refine lv_iconst (v := 0) X.1 X.2.1 dX4_mend_1 (by decide) ?_
  refine pf_X4_55 X hw hx rfl rfl (Nat.le_of_ble_eq_true rfl) dX4_mend_2 (fun H locs hw => ?_)
  obtain ⟨k1, hk1⟩ : ∃ zz, zz = h_cu k (20, 0, 0) (some (.inr (4, [.int 0, .int (nI (s_cop σ)), .int (nI (s_nS σ)), .ref (ad (20, 3, 0)), .ref (ad (20, 4, 0)), .ref (ad (20, 5, 0)), .ref (ad (20, 6, 0)), .int (nI (s_col σ).length), .ref (ad (20, 8, 0)), .int (nI (s_nF σ)), .ref (ad (20, 10, 0)), .ref (ad (20, 11, 0)), .ref (ad (20, 12, 0)), .ref (ad (20, 13, 0)), .int (nI (s_as σ).length), .ref (ad (20, 15, 0)), .ref (ad (20, 16, 0)), .ref (ad (20, 17, 0)), .ref (ad (20, 18, 0)), .int (s_dg σ)]))) := ⟨_, rfl⟩
  replace hw := h_W.ren hw hk1
  have f1_20_0_0 : k1 (20, 0, 0) = some (.inr (4, [.int 0, .int (nI (s_cop σ)), .int (nI (s_nS σ)), .ref (ad (20, 3, 0)), .ref (ad (20, 4, 0)), .ref (ad (20, 5, 0)), .ref (ad (20, 6, 0)), .int (nI (s_col σ).length), .ref (ad (20, 8, 0)), .int (nI (s_nF σ)), .ref (ad (20, 10, 0)), .ref (ad (20, 11, 0)), .ref (ad (20, 12, 0)), .ref (ad (20, 13, 0)), .int (nI (s_as σ).length), .ref (ad (20, 15, 0)), .ref (ad (20, 16, 0)), .ref (ad (20, 17, 0)), .ref (ad (20, 18, 0)), .int (s_dg σ)])) := by rw [hk1]; exact h_cs _ _ _
  have hM1 : RM G ad k1 σ 0 := hM.obj f1_20_0_0 (fun t ht => by rw [hk1, h_cn _ _ ht])
  obtain ⟨hx, ⟨gP, eP, vP⟩, ⟨gS, eS, vS⟩, ⟨gU, eU, vU⟩, ⟨gD, eD, vD⟩, ⟨gA, eA, vA⟩, ⟨gK, eK, vK⟩, ⟨gN, eN, vN⟩, ⟨gZ, eZ, vZ⟩, ⟨gB, eB, vB⟩, ⟨g0, g1, g2, e15, e16, e17, v3⟩, ⟨gM, eM⟩, -⟩ := id hM1
  have hx : k1 (20, 0, 0) = some (.inr (4, [.int 0, .int (nI (s_cop σ)), .int (nI (s_nS σ)), .ref (ad (20, 3, 0)), .ref (ad (20, 4, 0)), .ref (ad (20, 5, 0)), .ref (ad (20, 6, 0)), .int (nI (s_col σ).length), .ref (ad (20, 8, 0)), .int (nI (s_nF σ)), .ref (ad (20, 10, 0)), .ref (ad (20, 11, 0)), .ref (ad (20, 12, 0)), .ref (ad (20, 13, 0)), .int (nI (s_as σ).length), .ref (ad (20, 15, 0)), .ref (ad (20, 16, 0)), .ref (ad (20, 17, 0)), .ref (ad (20, 18, 0)), .int (s_dg σ)])) := hx
  rcases hp : ix x 10 with _ | p9
  · rw [if_pos (show (none : Option Nat).isNone = true from rfl)]
    refine lv_iload_n X.1 X.2.1 dX4_mend_5 rfl (lv_at hl 1 rfl) ?_
    refine lv_iconst (v := 0) X.1 X.2.1 dX4_mend_6 (by decide) ?_
    refine lv_bipush (v := 9) X.1 X.2.1 dX4_mend_7 (by decide) ?_
    refine h_callRS (As := [.int x, .int 0, .int 9]) (rest := []) X hw cs_X4_61 (c_X4_in l G x 0 9) rfl hl.1 rfl (Nat.le_of_ble_eq_true rfl) ⟨by decide, by decide⟩ ⟨Nat.zero_le _, Nat.zero_le _⟩ dX4_mend_9 ?_
    refine h_tv (b := .int 0) (by rw [show (9 : Int32) = nI 10 - 1 from by decide, in_ix (by decide), hp]; rfl) ?_
    refine lv_if_ne (tgt := 18) X.1 X.2.1 dX4_mend_12 (by decide) (fun c12 => ?_) (fun c12 => ?_)
    · exact absurd (by decide) c12
    · refine lv_bipush (v := (-2)) X.1 X.2.1 dX4_mend_15 (by decide) ?_
      exact h_iretW X Y hw ⟨rfl, rfl, hM1, fun t ht => by rw [hk1, h_cn _ _ (t_ne20 ht)]⟩ (Nat.zero_le _) (Nat.zero_le _) dX4_mend_17
  rw [if_neg (show ¬ (some p9 : Option Nat).isNone = true from fun q => by cases q)]
  have loop : ∀ (n j : Nat), j ≤ s_nF σ → s_nF σ + 1 ≤ j + n → ∀ (kk : h_C) (H : Heap) (locs : List Loc), RM G ad kk (sp_mendN σ x j).2 0 → (∀ t : h_T, t.1 ≠ 20 → kk t = k t) → h_W G.1 h_cl (h_A ad k s.heap.size) s.heap ad kk H locs → ∀ (ls : Array Slot), lv_has ls 6 [(0, .ref (ad (20, 0, 0))), (1, .int x), (2, .int ((sp_mendN σ x j).1)), (3, .int (nI j))] → W p l e (h_rm 5 112 0 0) s m args below meth c H locs 0 0 (MQ below (h_Qw G ad k s.heap.size (MPost G ad k (some (.int (sp_mendN σ x (s_nF σ)).1)) (sp_mendN σ x (s_nF σ)).2 0)) args s 0 0 (h_A ad k s.heap.size)) (F0 m 22 ls []) := by
    intro n
    induction n with
    | zero =>
      intro j h1 h2
      exact absurd h2 (by omega)
    | succ n ih =>
      intro j hij hnj kk H locs hMk h20 hw ls hl
      obtain ⟨τ, hτ⟩ : ∃ zz, zz = (sp_mendN σ x j).2 := ⟨_, rfl⟩
      rw [← hτ] at hMk
      obtain ⟨e1, e2, e3⟩ := mendNN σ x j
      rw [← hτ] at e1 e2 e3
      have eF : s_nF τ = s_nF σ := by unfold s_nF; rw [e1]
      have eS9 : s_nS τ = s_nS σ := by unfold s_nS; rw [e1]
      obtain ⟨gx, -, -, -, -, -, ⟨gK2, eK2, vK2⟩, -, -, -, -, -, -⟩ := id hMk
      have gx : kk (20, 0, 0) = some (.inr (4, [.int 0, .int (nI (s_cop τ)), .int (nI (s_nS τ)), .ref (ad (20, 3, 0)), .ref (ad (20, 4, 0)), .ref (ad (20, 5, 0)), .ref (ad (20, 6, 0)), .int (nI (s_col τ).length), .ref (ad (20, 8, 0)), .int (nI (s_nF τ)), .ref (ad (20, 10, 0)), .ref (ad (20, 11, 0)), .ref (ad (20, 12, 0)), .ref (ad (20, 13, 0)), .int (nI (s_as τ).length), .ref (ad (20, 15, 0)), .ref (ad (20, 16, 0)), .ref (ad (20, 17, 0)), .ref (ad (20, 18, 0)), .int (s_dg τ)])) := gx
      refine lv_iload_n X.1 X.2.1 dX4_mend_22 rfl (lv_at hl 3 rfl) ?_
      refine lv_aload_n X.1 X.2.1 dX4_mend_23 rfl (lv_at hl 0 rfl) ?_
      refine gf_X4_65 X hw gx rfl dX4_mend_24 ?_
      refine lv_icmp_ge (tgt := 132) X.1 X.2.1 dX4_mend_27 (by decide) (fun c27 => ?_) (fun c27 => ?_)
      · refine lv_iload_n X.1 X.2.1 dX4_mend_132 rfl (lv_at hl 2 rfl) ?_
        have hiE : s_nF σ = j := Nat.le_antisymm (by rw [← eF]; exact Nat.le_of_not_lt (fun q => absurd c27 (nI_ge q (by omega)))) hij
        rw [hiE]
        exact h_iretW X Y hw ⟨rfl, rfl, by rw [← hτ]; exact hMk, h20⟩ (Nat.zero_le _) (Nat.zero_le _) dX4_mend_133
      · have hjb : j < s_nF τ := Nat.lt_of_not_le (fun q => c27 (nI_le q (by omega)))
        rcases mend_cases τ j x with hpk | ⟨hpk, hq⟩ | ⟨q9, bq, hpk, hq, hbq⟩
        · refine lv_aload_n X.1 X.2.1 dX4_mend_30 rfl (lv_at hl 0 rfl) ?_
          refine gf_X4_27 X hw gx rfl dX4_mend_31 ?_
          refine lv_iload_n X.1 X.2.1 dX4_mend_34 rfl (lv_at hl 3 rfl) ?_
          refine h_iald X hw eK2 (vp_in_nI (by omega) (by decide)) dX4_mend_35 ?_
          refine h_tv (b := .int (s_pk τ j)) (by rw [nI_clamp (by omega), vK2 j hjb]) ?_
          refine lv_iload_n X.1 X.2.1 dX4_mend_36 rfl (lv_at hl 1 rfl) ?_
          refine lv_icmp_ne (tgt := 48) X.1 X.2.1 dX4_mend_37 (by decide) (fun c37 => ?_) (fun c37 => ?_)
          · refine lv_iconst (v := (-1)) X.1 X.2.1 dX4_mend_48 (by decide) ?_
            refine lv_istore (lv' := [(4, .int (-1)), (0, .ref (ad (20, 0, 0))), (1, .int x), (2, .int ((sp_mendN σ x j).1)), (3, .int (nI j))]) X.1 X.2.1 dX4_mend_49 hl (by decide) rfl (fun ls hl => ?_)
            refine lv_iconst (v := 0) X.1 X.2.1 dX4_mend_51 (by decide) ?_
            refine lv_istore (lv' := [(5, .int 0), (4, .int (-1)), (0, .ref (ad (20, 0, 0))), (1, .int x), (2, .int ((sp_mendN σ x j).1)), (3, .int (nI j))]) X.1 X.2.1 dX4_mend_52 hl (by decide) rfl (fun ls hl => ?_)
            refine lv_iload X.1 X.2.1 dX4_mend_54 (lv_at hl 0 rfl) ?_
            refine lv_aload_n X.1 X.2.1 dX4_mend_56 rfl (lv_at hl 2 rfl) ?_
            refine gf_X4_58 X hw gx rfl dX4_mend_57 ?_
            refine lv_icmp_ge (tgt := 126) X.1 X.2.1 dX4_mend_60 (by decide) (fun c60 => ?_) (fun c60 => ?_)
            · refine lv_iinc (v := nI (j + 1)) (lv' := [(3, .int (nI (j + 1))), (5, .int 0), (4, .int (-1)), (0, .ref (ad (20, 0, 0))), (1, .int x), (2, .int ((sp_mendN σ x j).1))]) X.1 X.2.1 dX4_mend_126 hl (k := 5) rfl (nI_1 _) (by decide) rfl (fun ls hl => ?_)
              refine lv_goto (tgt := 22) X.1 X.2.1 dX4_mend_129 (by decide) ?_
              have es := mendS_f (σ := σ) (n := j) (x := x) (by rw [← e3]; exact hpk)
              exact ih (j + 1) (by omega) (by omega) kk _ _ (by rw [es, ← hτ]; exact hMk) h20 hw ls (by
                rw [es]
                exact lv_sub hl [3, 4, 5, 0] rfl)
            · refine lv_iload X.1 X.2.1 dX4_mend_63 (lv_at hl 1 rfl) ?_
              refine lv_if_lt (tgt := 126) X.1 X.2.1 dX4_mend_65 (by decide) (fun c65 => ?_) (fun c65 => ?_)
              · refine lv_iinc (v := nI (j + 1)) (lv' := [(3, .int (nI (j + 1))), (5, .int 0), (4, .int (-1)), (0, .ref (ad (20, 0, 0))), (1, .int x), (2, .int ((sp_mendN σ x j).1))]) X.1 X.2.1 dX4_mend_126 hl (k := 5) rfl (nI_1 _) (by decide) rfl (fun ls hl => ?_)
                refine lv_goto (tgt := 22) X.1 X.2.1 dX4_mend_129 (by decide) ?_
                have es := mendS_f (σ := σ) (n := j) (x := x) (by rw [← e3]; exact hpk)
                exact ih (j + 1) (by omega) (by omega) kk _ _ (by rw [es, ← hτ]; exact hMk) h20 hw ls (by
                  rw [es]
                  exact lv_sub hl [3, 4, 5, 0] rfl)
              · exact absurd (by decide) c65
          · exact absurd c37 hpk
        · refine lv_aload_n X.1 X.2.1 dX4_mend_30 rfl (lv_at hl 0 rfl) ?_
          refine gf_X4_27 X hw gx rfl dX4_mend_31 ?_
          refine lv_iload_n X.1 X.2.1 dX4_mend_34 rfl (lv_at hl 3 rfl) ?_
          refine h_iald X hw eK2 (vp_in_nI (by omega) (by decide)) dX4_mend_35 ?_
          refine h_tv (b := .int (s_pk τ j)) (by rw [nI_clamp (by omega), vK2 j hjb]) ?_
          refine lv_iload_n X.1 X.2.1 dX4_mend_36 rfl (lv_at hl 1 rfl) ?_
          refine lv_icmp_ne (tgt := 48) X.1 X.2.1 dX4_mend_37 (by decide) (fun c37 => ?_) (fun c37 => ?_)
          · exact absurd hpk c37
          · refine lv_aload_n X.1 X.2.1 dX4_mend_40 rfl (lv_at hl 0 rfl) ?_
            refine lv_iload_n X.1 X.2.1 dX4_mend_41 rfl (lv_at hl 3 rfl) ?_
            refine h_callRV (t := (20, 0, 0)) (As := [.int (nI j)]) (rest := []) X hw cs_X4_103 (c_X4_leader l G hMk hjb) gx rfl rfl hl.1 rfl (Nat.le_of_ble_eq_true rfl) ⟨by decide, by decide⟩ ⟨Nat.zero_le _, Nat.zero_le _⟩ dX4_mend_42 ?_
            refine h_tv (b := .int (-1)) (by rw [hq]; rfl) ?_
            refine lv_goto (tgt := 49) X.1 X.2.1 dX4_mend_45 (by decide) ?_
            refine lv_istore (lv' := [(4, .int (-1)), (0, .ref (ad (20, 0, 0))), (1, .int x), (2, .int ((sp_mendN σ x j).1)), (3, .int (nI j))]) X.1 X.2.1 dX4_mend_49 hl (by decide) rfl (fun ls hl => ?_)
            refine lv_iconst (v := 0) X.1 X.2.1 dX4_mend_51 (by decide) ?_
            refine lv_istore (lv' := [(5, .int 0), (4, .int (-1)), (0, .ref (ad (20, 0, 0))), (1, .int x), (2, .int ((sp_mendN σ x j).1)), (3, .int (nI j))]) X.1 X.2.1 dX4_mend_52 hl (by decide) rfl (fun ls hl => ?_)
            refine lv_iload X.1 X.2.1 dX4_mend_54 (lv_at hl 0 rfl) ?_
            refine lv_aload_n X.1 X.2.1 dX4_mend_56 rfl (lv_at hl 2 rfl) ?_
            refine gf_X4_58 X hw gx rfl dX4_mend_57 ?_
            refine lv_icmp_ge (tgt := 126) X.1 X.2.1 dX4_mend_60 (by decide) (fun c60 => ?_) (fun c60 => ?_)
            · refine lv_iinc (v := nI (j + 1)) (lv' := [(3, .int (nI (j + 1))), (5, .int 0), (4, .int (-1)), (0, .ref (ad (20, 0, 0))), (1, .int x), (2, .int ((sp_mendN σ x j).1))]) X.1 X.2.1 dX4_mend_126 hl (k := 5) rfl (nI_1 _) (by decide) rfl (fun ls hl => ?_)
              refine lv_goto (tgt := 22) X.1 X.2.1 dX4_mend_129 (by decide) ?_
              have es := mendS_t (σ := σ) (n := j) (x := x) (by rw [← e3]; exact hpk)
              rw [← hτ, mendF_n hq] at es
              have es : sp_mendN σ x (j + 1) = ((sp_mendN σ x j).1, τ) := by rw [es]; exact congrArg (fun z => (z, τ)) (Int32.add_zero _)
              exact ih (j + 1) (by omega) (by omega) kk _ _ (by rw [es]; exact hMk) h20 hw ls (by
                rw [es]
                exact lv_sub hl [3, 4, 5, 0] rfl)
            · refine lv_iload X.1 X.2.1 dX4_mend_63 (lv_at hl 1 rfl) ?_
              refine lv_if_lt (tgt := 126) X.1 X.2.1 dX4_mend_65 (by decide) (fun c65 => ?_) (fun c65 => ?_)
              · refine lv_iinc (v := nI (j + 1)) (lv' := [(3, .int (nI (j + 1))), (5, .int 0), (4, .int (-1)), (0, .ref (ad (20, 0, 0))), (1, .int x), (2, .int ((sp_mendN σ x j).1))]) X.1 X.2.1 dX4_mend_126 hl (k := 5) rfl (nI_1 _) (by decide) rfl (fun ls hl => ?_)
                refine lv_goto (tgt := 22) X.1 X.2.1 dX4_mend_129 (by decide) ?_
                have es := mendS_t (σ := σ) (n := j) (x := x) (by rw [← e3]; exact hpk)
                rw [← hτ, mendF_n hq] at es
                have es : sp_mendN σ x (j + 1) = ((sp_mendN σ x j).1, τ) := by rw [es]; exact congrArg (fun z => (z, τ)) (Int32.add_zero _)
                exact ih (j + 1) (by omega) (by omega) kk _ _ (by rw [es]; exact hMk) h20 hw ls (by
                  rw [es]
                  exact lv_sub hl [3, 4, 5, 0] rfl)
              · exact absurd (by decide) c65
        · refine lv_aload_n X.1 X.2.1 dX4_mend_30 rfl (lv_at hl 0 rfl) ?_
          refine gf_X4_27 X hw gx rfl dX4_mend_31 ?_
          refine lv_iload_n X.1 X.2.1 dX4_mend_34 rfl (lv_at hl 3 rfl) ?_
          refine h_iald X hw eK2 (vp_in_nI (by omega) (by decide)) dX4_mend_35 ?_
          refine h_tv (b := .int (s_pk τ j)) (by rw [nI_clamp (by omega), vK2 j hjb]) ?_
          refine lv_iload_n X.1 X.2.1 dX4_mend_36 rfl (lv_at hl 1 rfl) ?_
          refine lv_icmp_ne (tgt := 48) X.1 X.2.1 dX4_mend_37 (by decide) (fun c37 => ?_) (fun c37 => ?_)
          · exact absurd hpk c37
          · refine lv_aload_n X.1 X.2.1 dX4_mend_40 rfl (lv_at hl 0 rfl) ?_
            refine lv_iload_n X.1 X.2.1 dX4_mend_41 rfl (lv_at hl 3 rfl) ?_
            refine h_callRV (t := (20, 0, 0)) (As := [.int (nI j)]) (rest := []) X hw cs_X4_103 (c_X4_leader l G hMk hjb) gx rfl rfl hl.1 rfl (Nat.le_of_ble_eq_true rfl) ⟨by decide, by decide⟩ ⟨Nat.zero_le _, Nat.zero_le _⟩ dX4_mend_42 ?_
            refine h_tv (b := .int (nI q9)) (by rw [hq]; rfl) ?_
            refine lv_goto (tgt := 49) X.1 X.2.1 dX4_mend_45 (by decide) ?_
            refine lv_istore (lv' := [(4, .int (nI q9)), (0, .ref (ad (20, 0, 0))), (1, .int x), (2, .int ((sp_mendN σ x j).1)), (3, .int (nI j))]) X.1 X.2.1 dX4_mend_49 hl (by decide) rfl (fun ls hl => ?_)
            refine lv_iconst (v := 0) X.1 X.2.1 dX4_mend_51 (by decide) ?_
            refine lv_istore (lv' := [(5, .int 0), (4, .int (nI q9)), (0, .ref (ad (20, 0, 0))), (1, .int x), (2, .int ((sp_mendN σ x j).1)), (3, .int (nI j))]) X.1 X.2.1 dX4_mend_52 hl (by decide) rfl (fun ls hl => ?_)
            obtain ⟨hq9l, -⟩ := s_lead_spec hq
            have loop3 : ∀ (n i : Nat), i ≤ s_nS τ → s_nS τ + 1 ≤ i + n → ∀ (kk : h_C) (H : Heap) (locs : List Loc), RM G ad kk (s_mndR τ j bq i) 0 → (∀ t : h_T, t.1 ≠ 20 → kk t = k t) → h_W G.1 h_cl (h_A ad k s.heap.size) s.heap ad kk H locs → ∀ (ls : Array Slot), lv_has ls 6 [(0, .ref (ad (20, 0, 0))), (1, .int x), (2, .int ((sp_mendN σ x j).1 + nI (cN (s_oth τ j (dgL bq)) i))), (3, .int (nI j)), (4, .int (nI q9)), (5, .int (nI i))] → W p l e (h_rm 5 112 0 0) s m args below meth c H locs 0 0 (MQ below (h_Qw G ad k s.heap.size (MPost G ad k (some (.int (sp_mendN σ x (s_nF σ)).1)) (sp_mendN σ x (s_nF σ)).2 0)) args s 0 0 (h_A ad k s.heap.size)) (F0 m 54 ls []) := by
              intro n
              induction n with
              | zero =>
                intro i h1 h2
                exact absurd h2 (by omega)
              | succ n ih3 =>
                intro i hii hni kk H locs hMk3 h20 hw ls hl
                obtain ⟨ρ, hρ⟩ : ∃ zz, zz = s_mndR τ j bq i := ⟨_, rfl⟩
                rw [← hρ] at hMk3
                have eF3 : s_nF ρ = s_nF τ := by rw [hρ]; rfl
                have eS3 : s_nS ρ = s_nS τ := by rw [hρ]; rfl
                obtain ⟨gx3, -, -, -, -, -, -, -, -, -, -, -, -⟩ := id hMk3
                have gx3 : kk (20, 0, 0) = some (.inr (4, [.int 0, .int (nI (s_cop ρ)), .int (nI (s_nS ρ)), .ref (ad (20, 3, 0)), .ref (ad (20, 4, 0)), .ref (ad (20, 5, 0)), .ref (ad (20, 6, 0)), .int (nI (s_col ρ).length), .ref (ad (20, 8, 0)), .int (nI (s_nF ρ)), .ref (ad (20, 10, 0)), .ref (ad (20, 11, 0)), .ref (ad (20, 12, 0)), .ref (ad (20, 13, 0)), .int (nI (s_as ρ).length), .ref (ad (20, 15, 0)), .ref (ad (20, 16, 0)), .ref (ad (20, 17, 0)), .ref (ad (20, 18, 0)), .int (s_dg ρ)])) := gx3
                have hlq : s_cp ρ q9 j = some bq := by rw [hρ]; exact mndR_lead hbq i
                refine lv_iload X.1 X.2.1 dX4_mend_54 (lv_at hl 5 rfl) ?_
                refine lv_aload_n X.1 X.2.1 dX4_mend_56 rfl (lv_at hl 0 rfl) ?_
                refine gf_X4_58 X hw gx3 rfl dX4_mend_57 ?_
                refine lv_icmp_ge (tgt := 126) X.1 X.2.1 dX4_mend_60 (by decide) (fun c60 => ?_) (fun c60 => ?_)
                · refine lv_iinc (v := nI (j + 1)) (lv' := [(3, .int (nI (j + 1))), (0, .ref (ad (20, 0, 0))), (1, .int x), (2, .int ((sp_mendN σ x j).1 + nI (cN (s_oth τ j (dgL bq)) i))), (4, .int (nI q9)), (5, .int (nI i))]) X.1 X.2.1 dX4_mend_126 hl (k := 3) rfl (nI_1 _) (by decide) rfl (fun ls hl => ?_)
                  refine lv_goto (tgt := 22) X.1 X.2.1 dX4_mend_129 (by decide) ?_
                  obtain rfl : i = s_nS τ := Nat.le_antisymm hii (Nat.le_of_not_lt (fun q => absurd c60 (nI_ge (b := s_nS ρ) (by omega) (by omega))))
                  have es := mendS_t (σ := σ) (n := j) (x := x) (by rw [← e3]; exact hpk)
                  rw [← hτ, mendF_s hq hbq] at es
                  exact ih (j + 1) (by omega) (by omega) kk _ _ (by rw [es, ← hρ]; exact hMk3) h20 hw ls (by
                    rw [es]
                    exact lv_sub hl [1, 2, 3, 0] rfl)
                · refine lv_iload X.1 X.2.1 dX4_mend_63 (lv_at hl 4 rfl) ?_
                  refine lv_if_lt (tgt := 126) X.1 X.2.1 dX4_mend_65 (by decide) (fun c65 => ?_) (fun c65 => ?_)
                  · exact absurd c65 (nI_pos (by omega))
                  · have hib : i < s_nS ρ := Nat.lt_of_not_le (fun q => c60 (nI_le q (by omega)))
                    have hcr : s_cnt ρ i j = s_cnt τ i j := by rw [hρ]; exact mndR_cnt τ j bq i
                    have hjr : j < s_nF ρ := by omega
                    rcases isD_cases τ j i (dgL bq) with hc | ⟨b, hc, hd⟩ | ⟨b, hc, hd⟩
                    · refine lv_aload_n X.1 X.2.1 dX4_mend_68 rfl (lv_at hl 0 rfl) ?_
                      refine lv_iload X.1 X.2.1 dX4_mend_69 (lv_at hl 5 rfl) ?_
                      refine lv_iload_n X.1 X.2.1 dX4_mend_71 rfl (lv_at hl 3 rfl) ?_
                      refine h_callRV (t := (20, 0, 0)) (As := [.int (nI i), .int (nI j)]) (rest := []) X hw cs_X4_89 (c_X4_counts l G hMk3 hib hjr) gx3 rfl rfl hl.1 rfl (Nat.le_of_ble_eq_true rfl) ⟨by decide, by decide⟩ ⟨Nat.zero_le _, Nat.zero_le _⟩ dX4_mend_72 ?_
                      refine h_tv (b := .int 0) (by rw [isC_n (hcr.trans hc)]; rfl) ?_
                      refine lv_if_eq (tgt := 120) X.1 X.2.1 dX4_mend_75 (by decide) (fun c75 => ?_) (fun c75 => ?_)
                      · refine lv_iinc (v := nI (i + 1)) (lv' := [(5, .int (nI (i + 1))), (0, .ref (ad (20, 0, 0))), (1, .int x), (2, .int ((sp_mendN σ x j).1 + nI (cN (s_oth τ j (dgL bq)) i))), (3, .int (nI j)), (4, .int (nI q9))]) X.1 X.2.1 dX4_mend_120 hl (k := 5) rfl (nI_1 _) (by decide) rfl (fun ls hl => ?_)
                        refine lv_goto (tgt := 54) X.1 X.2.1 dX4_mend_123 (by decide) ?_
                        have ot := oth_n (d := dgL bq) hc
                        exact ih3 (i + 1) (by omega) (by omega) kk _ _ (by rw [mndR_f ot, ← hρ]; exact hMk3) h20 hw ls (by
                          rw [cN_f ot]
                          exact lv_sub hl [1, 2, 3, 4, 5, 0] rfl)
                      · exact absurd (by decide) c75
                    · refine lv_aload_n X.1 X.2.1 dX4_mend_68 rfl (lv_at hl 0 rfl) ?_
                      refine lv_iload X.1 X.2.1 dX4_mend_69 (lv_at hl 5 rfl) ?_
                      refine lv_iload_n X.1 X.2.1 dX4_mend_71 rfl (lv_at hl 3 rfl) ?_
                      refine h_callRV (t := (20, 0, 0)) (As := [.int (nI i), .int (nI j)]) (rest := []) X hw cs_X4_89 (c_X4_counts l G hMk3 hib hjr) gx3 rfl rfl hl.1 rfl (Nat.le_of_ble_eq_true rfl) ⟨by decide, by decide⟩ ⟨Nat.zero_le _, Nat.zero_le _⟩ dX4_mend_72 ?_
                      refine h_tv (b := .int 1) (by rw [isC_s (hcr.trans hc)]; rfl) ?_
                      refine lv_if_eq (tgt := 120) X.1 X.2.1 dX4_mend_75 (by decide) (fun c75 => ?_) (fun c75 => ?_)
                      · exact absurd c75 (by decide)
                      · refine lv_aload_n X.1 X.2.1 dX4_mend_78 rfl (lv_at hl 0 rfl) ?_
                        refine lv_iload X.1 X.2.1 dX4_mend_79 (lv_at hl 5 rfl) ?_
                        refine lv_iload_n X.1 X.2.1 dX4_mend_81 rfl (lv_at hl 3 rfl) ?_
                        refine h_callRV (t := (20, 0, 0)) (As := [.int (nI i), .int (nI j)]) (rest := []) X hw cs_X4_92 (c_X4_digestOf l G hMk3 (s_cnt_cp (hcr.trans hc)).1) gx3 rfl rfl hl.1 rfl (Nat.le_of_ble_eq_true rfl) ⟨by decide, by decide⟩ ⟨Nat.zero_le _, Nat.zero_le _⟩ dX4_mend_82 ?_
                        refine lv_aload_n X.1 X.2.1 dX4_mend_85 rfl (lv_at hl 0 rfl) ?_
                        refine lv_iload X.1 X.2.1 dX4_mend_86 (lv_at hl 4 rfl) ?_
                        refine lv_iload_n X.1 X.2.1 dX4_mend_88 rfl (lv_at hl 3 rfl) ?_
                        refine h_callRV (t := (20, 0, 0)) (As := [.int (nI q9), .int (nI j)]) (rest := [.int (dgL b)]) X hw cs_X4_92 (c_X4_digestOf l G hMk3 hlq) gx3 rfl rfl hl.1 rfl (Nat.le_of_ble_eq_true rfl) ⟨by decide, by decide⟩ ⟨Nat.zero_le _, Nat.zero_le _⟩ dX4_mend_89 ?_
                        refine lv_icmp_ne (tgt := 98) X.1 X.2.1 dX4_mend_92 (by decide) (fun c92 => ?_) (fun c92 => ?_)
                        · refine lv_aload_n X.1 X.2.1 dX4_mend_98 rfl (lv_at hl 0 rfl) ?_
                          refine lv_iload_n X.1 X.2.1 dX4_mend_99 rfl (lv_at hl 3 rfl) ?_
                          refine lv_iload X.1 X.2.1 dX4_mend_100 (lv_at hl 4 rfl) ?_
                          refine lv_iload X.1 X.2.1 dX4_mend_102 (lv_at hl 5 rfl) ?_
                          have hne : q9 ≠ i := fun z => by
                            rw [z] at hbq
                            rw [hbq] at hc
                            cases hc
                            exact hd rfl
                          refine h_callWV (t := (20, 0, 0)) (As := [.int (nI j), .int (nI q9), .int (nI i)]) (rest := []) X hw cs_X4_109 (c_X4_copy l G hMk3 hlq hib hne) gx3 rfl rfl hl.1 rfl (Nat.le_of_ble_eq_true rfl) ⟨by decide, by decide⟩ ⟨(Nat.le_of_ble_eq_true rfl), (Nat.le_of_ble_eq_true rfl)⟩ dX4_mend_104 (fun r9 ad2 k2 H locs hp9 hw => ?_)
                          obtain ⟨rfl, ea2, hM2, ho2⟩ := hp9
                          refine W.eq (g2 := F0 m 107 ls []) rfl ?_
                          replace hw := hw.renA ea2.symm
                          obtain ⟨hx2, -, -, -, -, -, -, ⟨gN3, eN3, vN3⟩, -, -, -, -, -⟩ := id hM2
                          have hx2 : k2 (20, 0, 0) = some (.inr (4, [.int 0, .int (nI (s_cop ρ)), .int (nI (s_nS ρ)), .ref (ad (20, 3, 0)), .ref (ad (20, 4, 0)), .ref (ad (20, 5, 0)), .ref (ad (20, 6, 0)), .int (nI (s_col ρ).length), .ref (ad (20, 8, 0)), .int (nI (s_nF ρ)), .ref (ad (20, 10, 0)), .ref (ad (20, 11, 0)), .ref (ad (20, 12, 0)), .ref (ad (20, 13, 0)), .int (nI (s_as ρ).length), .ref (ad (20, 15, 0)), .ref (ad (20, 16, 0)), .ref (ad (20, 17, 0)), .ref (ad (20, 18, 0)), .int (s_dg ρ)])) := hx2
                          refine lv_aload_n X.1 X.2.1 dX4_mend_107 rfl (lv_at hl 0 rfl) ?_
                          refine gf_X4_30 X hw hx2 rfl dX4_mend_108 ?_
                          refine lv_iload_n X.1 X.2.1 dX4_mend_111 rfl (lv_at hl 3 rfl) ?_
                          refine lv_dup2_11 X.1 X.2.1 dX4_mend_112 rfl rfl ?_
                          refine h_iald X hw eN3 (vp_in_nI (by omega) (by decide)) dX4_mend_113 ?_
                          refine h_tv (b := .int (s_rn ρ j)) (by rw [nI_clamp (by omega), vN3 j (by omega)]; rfl) ?_
                          refine lv_iconst (v := 1) X.1 X.2.1 dX4_mend_114 (by decide) ?_
                          refine lv_iadd X.1 X.2.1 dX4_mend_115 ?_
                          refine h_ti (b := s_rn ρ j + 1) rfl ?_
                          refine h_iast X hw eN3 (vp_in_nI (by omega) (by decide)) dX4_mend_116 (fun H locs hw => ?_)
                          obtain ⟨k3, hk3⟩ : ∃ zz, zz = h_cu k2 (20, 11, 0) (some (.inl (G.2 0, 40, .inl (upd gN3 (nI j).toNatClampNeg (s_rn ρ j + 1))))) := ⟨_, rfl⟩
                          replace hw := h_W.ren hw hk3
                          have f3_20_0_0 : k3 (20, 0, 0) = some (.inr (4, [.int 0, .int (nI (s_cop ρ)), .int (nI (s_nS ρ)), .ref (ad (20, 3, 0)), .ref (ad (20, 4, 0)), .ref (ad (20, 5, 0)), .ref (ad (20, 6, 0)), .int (nI (s_col ρ).length), .ref (ad (20, 8, 0)), .int (nI (s_nF ρ)), .ref (ad (20, 10, 0)), .ref (ad (20, 11, 0)), .ref (ad (20, 12, 0)), .ref (ad (20, 13, 0)), .int (nI (s_as ρ).length), .ref (ad (20, 15, 0)), .ref (ad (20, 16, 0)), .ref (ad (20, 17, 0)), .ref (ad (20, 18, 0)), .int (s_dg ρ)])) := by rw [hk3, h_cn _ _ (by simp)]; exact hx2
                          have f3_20_11_0 : k3 (20, 11, 0) = some (.inl (G.2 0, 40, .inl (upd gN3 (nI j).toNatClampNeg (s_rn ρ j + 1)))) := by rw [hk3]; exact h_cs _ _ _
                          refine lv_iinc (v := (sp_mendN σ x j).1 + nI (cN (s_oth τ j (dgL bq)) i) + 1) (lv' := [(2, .int ((sp_mendN σ x j).1 + nI (cN (s_oth τ j (dgL bq)) i) + 1)), (0, .ref (ad (20, 0, 0))), (1, .int x), (3, .int (nI j)), (4, .int (nI q9)), (5, .int (nI i))]) X.1 X.2.1 dX4_mend_117 hl (k := 2) rfl rfl (by decide) rfl (fun ls hl => ?_)
                          refine lv_iinc (v := nI (i + 1)) (lv' := [(5, .int (nI (i + 1))), (2, .int ((sp_mendN σ x j).1 + nI (cN (s_oth τ j (dgL bq)) i) + 1)), (0, .ref (ad (20, 0, 0))), (1, .int x), (3, .int (nI j)), (4, .int (nI q9))]) X.1 X.2.1 dX4_mend_120 hl (k := 5) rfl (nI_1 _) (by decide) rfl (fun ls hl => ?_)
                          refine lv_goto (tgt := 54) X.1 X.2.1 dX4_mend_123 (by decide) ?_
                          have ot := oth_d hc hd
                          exact ih3 (i + 1) (by omega) (by omega) k3 _ _ (by
                            rw [← mndR_t ot, ← hρ]
                            exact RM.rn hM2 hjr (fun a ha => by
                              rw [nI_clamp (by omega)]
                              by_cases z : a = j
                              · rw [z, pk_us, pk_us]
                              · rw [pk_un z, pk_un z]; exact vN3 a ha) f3_20_11_0 (fun t ht => by rw [hk3, h_cn _ _ ht])) (fun t ht => by rw [hk3, h_cn _ _ (t_ne20 ht), ho2 t (t_ne20 ht) (t_ne20 ht), h20 t ht]) hw ls (by
                            rw [cN_t ot, ← nI_1, ← Int32.add_assoc]
                            exact lv_sub hl [2, 3, 1, 4, 5, 0] rfl)
                        · exact absurd c92 hd
                    · refine lv_aload_n X.1 X.2.1 dX4_mend_68 rfl (lv_at hl 0 rfl) ?_
                      refine lv_iload X.1 X.2.1 dX4_mend_69 (lv_at hl 5 rfl) ?_
                      refine lv_iload_n X.1 X.2.1 dX4_mend_71 rfl (lv_at hl 3 rfl) ?_
                      refine h_callRV (t := (20, 0, 0)) (As := [.int (nI i), .int (nI j)]) (rest := []) X hw cs_X4_89 (c_X4_counts l G hMk3 hib hjr) gx3 rfl rfl hl.1 rfl (Nat.le_of_ble_eq_true rfl) ⟨by decide, by decide⟩ ⟨Nat.zero_le _, Nat.zero_le _⟩ dX4_mend_72 ?_
                      refine h_tv (b := .int 1) (by rw [isC_s (hcr.trans hc)]; rfl) ?_
                      refine lv_if_eq (tgt := 120) X.1 X.2.1 dX4_mend_75 (by decide) (fun c75 => ?_) (fun c75 => ?_)
                      · exact absurd c75 (by decide)
                      · refine lv_aload_n X.1 X.2.1 dX4_mend_78 rfl (lv_at hl 0 rfl) ?_
                        refine lv_iload X.1 X.2.1 dX4_mend_79 (lv_at hl 5 rfl) ?_
                        refine lv_iload_n X.1 X.2.1 dX4_mend_81 rfl (lv_at hl 3 rfl) ?_
                        refine h_callRV (t := (20, 0, 0)) (As := [.int (nI i), .int (nI j)]) (rest := []) X hw cs_X4_92 (c_X4_digestOf l G hMk3 (s_cnt_cp (hcr.trans hc)).1) gx3 rfl rfl hl.1 rfl (Nat.le_of_ble_eq_true rfl) ⟨by decide, by decide⟩ ⟨Nat.zero_le _, Nat.zero_le _⟩ dX4_mend_82 ?_
                        refine lv_aload_n X.1 X.2.1 dX4_mend_85 rfl (lv_at hl 0 rfl) ?_
                        refine lv_iload X.1 X.2.1 dX4_mend_86 (lv_at hl 4 rfl) ?_
                        refine lv_iload_n X.1 X.2.1 dX4_mend_88 rfl (lv_at hl 3 rfl) ?_
                        refine h_callRV (t := (20, 0, 0)) (As := [.int (nI q9), .int (nI j)]) (rest := [.int (dgL b)]) X hw cs_X4_92 (c_X4_digestOf l G hMk3 hlq) gx3 rfl rfl hl.1 rfl (Nat.le_of_ble_eq_true rfl) ⟨by decide, by decide⟩ ⟨Nat.zero_le _, Nat.zero_le _⟩ dX4_mend_89 ?_
                        refine lv_icmp_ne (tgt := 98) X.1 X.2.1 dX4_mend_92 (by decide) (fun c92 => ?_) (fun c92 => ?_)
                        · exact absurd hd c92
                        · refine lv_goto (tgt := 120) X.1 X.2.1 dX4_mend_95 (by decide) ?_
                          refine lv_iinc (v := nI (i + 1)) (lv' := [(5, .int (nI (i + 1))), (0, .ref (ad (20, 0, 0))), (1, .int x), (2, .int ((sp_mendN σ x j).1 + nI (cN (s_oth τ j (dgL bq)) i))), (3, .int (nI j)), (4, .int (nI q9))]) X.1 X.2.1 dX4_mend_120 hl (k := 5) rfl (nI_1 _) (by decide) rfl (fun ls hl => ?_)
                          refine lv_goto (tgt := 54) X.1 X.2.1 dX4_mend_123 (by decide) ?_
                          have ot := oth_e hc hd
                          exact ih3 (i + 1) (by omega) (by omega) kk _ _ (by rw [mndR_f ot, ← hρ]; exact hMk3) h20 hw ls (by
                            rw [cN_f ot]
                            exact lv_sub hl [1, 2, 3, 4, 5, 0] rfl)
            exact loop3 (s_nS τ + 1) 0 (by omega) (by omega) kk _ _ (by rw [mndR_0]; exact hMk) h20 hw ls (by
              show lv_has ls 6 [(0, .ref (ad (20, 0, 0))), (1, .int x), (2, .int ((sp_mendN σ x j).1 + nI 0)), (3, .int (nI j)), (4, .int (nI q9)), (5, .int (nI 0))]
              rw [show (sp_mendN σ x j).1 + nI 0 = (sp_mendN σ x j).1 from Int32.add_zero _]
              exact lv_sub hl [2, 3, 4, 5, 1, 0] rfl)
  refine lv_iload_n X.1 X.2.1 dX4_mend_5 rfl (lv_at hl 1 rfl) ?_
  refine lv_iconst (v := 0) X.1 X.2.1 dX4_mend_6 (by decide) ?_
  refine lv_bipush (v := 9) X.1 X.2.1 dX4_mend_7 (by decide) ?_
  refine h_callRS (As := [.int x, .int 0, .int 9]) (rest := []) X hw cs_X4_61 (c_X4_in l G x 0 9) rfl hl.1 rfl (Nat.le_of_ble_eq_true rfl) ⟨by decide, by decide⟩ ⟨Nat.zero_le _, Nat.zero_le _⟩ dX4_mend_9 ?_
  refine h_tv (b := .int 1) (by rw [show (9 : Int32) = nI 10 - 1 from by decide, in_ix (by decide), hp]; rfl) ?_
  refine lv_if_ne (tgt := 18) X.1 X.2.1 dX4_mend_12 (by decide) (fun c12 => ?_) (fun c12 => ?_)
  · refine lv_iconst (v := 0) X.1 X.2.1 dX4_mend_18 (by decide) ?_
    refine lv_istore_n (lv' := [(2, .int 0), (0, .ref (ad (20, 0, 0))), (1, .int x)]) X.1 X.2.1 dX4_mend_19 rfl hl (by decide) rfl (fun ls hl => ?_)
    refine lv_iconst (v := 0) X.1 X.2.1 dX4_mend_20 (by decide) ?_
    refine lv_istore_n (lv' := [(3, .int 0), (2, .int 0), (0, .ref (ad (20, 0, 0))), (1, .int x)]) X.1 X.2.1 dX4_mend_21 rfl hl (by decide) rfl (fun ls hl => ?_)
    exact loop (s_nF σ + 1) 0 (by omega) (by omega) k1 _ _ hM1 (fun t ht => by rw [hk1, h_cn _ _ (t_ne20 ht)]) hw ls (lv_sub hl [2, 3, 1, 0] rfl)
  · exact absurd c12 (by decide)
