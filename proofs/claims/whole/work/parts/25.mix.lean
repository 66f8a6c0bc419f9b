set_option maxHeartbeats 4000000 in
set_option maxRecDepth 100000 in
/-- listCounting -/
theorem c_X3_listCounting (l : Launch) (G : h_G) {ad : h_T → Nat} {k : h_C} {σ : S_t} (hR : RX G ad k σ) {f : Nat} (hf : f < s_nF σ) : h_Wr l yX3_listCounting cX3_listCounting 4 (some .int) 3 65 0 0 G ad k [.ref (ad (0, 0, 0)), .ref (ad (7, f, 0))] (fun r ad' k' => r = some (.int (nI (cN (s_isC σ f) (s_nS σ)))) ∧ ad' = ad ∧ (∃ g : Nat → Int32, k' (4, 0, 0) = some (.inl (G.2 0, 10, .inl g)) ∧ ∀ c, c < cN (s_isC σ f) (s_nS σ) → g c = nI ((s_clN σ f (s_nS σ)).getD c 0)) ∧ ∀ t : h_T, t ≠ (4, 0, 0) → k' t = k t) := by
  refine h_wr (by decide +kernel) (Nat.le_of_ble_eq_true rfl) ?_
  intro p e s m args below meth c X Y hw ls hl
  have hl : lv_has ls 4 [(0, .ref (ad (0, 0, 0))), (1, .ref (ad (7, f, 0)))] := hl
  have hok := hR.ok
  obtain ⟨hx, hs, hst, hi, hit, hcp, hcol, hmx, hask, -⟩ := id hR
  have hx : k (0, 0, 0) = some (.inr (3, [.int (nI (s_cop σ)), .ref (ad (1, 0, 0)), .int (nI (s_nS σ)), .ref (ad (2, 0, 0)), .int (nI (s_nF σ)), .ref (ad (3, 0, 0)), .ref (ad (4, 0, 0)), .ref (ad (5, 0, 0)), .ref (ad (5, 1, 0)), .ref (ad (5, 2, 0)), .int (nI (s_as σ).length), .int (s_dg σ)])) := hx
  have hnS : s_nS σ ≤ 10 := hok.2.1
  have hnF : s_nF σ ≤ 40 := hok.2.2.1
  have loop : ∀ (n i : Nat), i ≤ s_nS σ → s_nS σ + 1 ≤ i + n → ∀ (kk : h_C) (g : Nat → Int32) (H : Heap) (locs : List Loc), kk (4, 0, 0) = some (.inl (G.2 0, 10, .inl g)) → (∀ c, c < cN (s_isC σ f) i → g c = nI ((s_clN σ f i).getD c 0)) → (∀ t : h_T, t ≠ (4, 0, 0) → kk t = k t) → h_W G.1 h_cl (h_A ad k s.heap.size) s.heap ad kk H locs → ∀ (ls : Array Slot), lv_has ls 4 [(0, .ref (ad (0, 0, 0))), (1, .ref (ad (7, f, 0))), (2, .int (nI (cN (s_isC σ f) i))), (3, .int (nI i))] → W p l e (h_rm 3 65 0 0) s m args below meth c H locs 0 0 (MQ below (h_Qw G ad k s.heap.size (fun r ad' k' => r = some (.int (nI (cN (s_isC σ f) (s_nS σ)))) ∧ ad' = ad ∧ (∃ g : Nat → Int32, k' (4, 0, 0) = some (.inl (G.2 0, 10, .inl g)) ∧ ∀ c, c < cN (s_isC σ f) (s_nS σ) → g c = nI ((s_clN σ f (s_nS σ)).getD c 0)) ∧ ∀ t : h_T, t ≠ (4, 0, 0) → k' t = k t)) args s 0 0 (h_A ad k s.heap.size)) (F0 m 4 ls []) := by
    intro n
    induction n with
    | zero =>
      intro i h1 h2
      exact absurd h2 (by omega)
    | succ n ih =>
      intro i hii hni kk g H locs gm gc ho hw ls hl
      have hRk : RX G ad kk σ := hR.setMix gm ho
      have gx : kk (0, 0, 0) = some (.inr (3, [.int (nI (s_cop σ)), .ref (ad (1, 0, 0)), .int (nI (s_nS σ)), .ref (ad (2, 0, 0)), .int (nI (s_nF σ)), .ref (ad (3, 0, 0)), .ref (ad (4, 0, 0)), .ref (ad (5, 0, 0)), .ref (ad (5, 1, 0)), .ref (ad (5, 2, 0)), .int (nI (s_as σ).length), .int (s_dg σ)])) := hRk.1
      have hcl := cN_le (s_isC σ f) i
      refine lv_iload_n X.1 X.2.1 dX3_listCounting_4 rfl (lv_at hl 3 rfl) ?_
      refine lv_aload_n X.1 X.2.1 dX3_listCounting_5 rfl (lv_at hl 0 rfl) ?_
      refine gf_X3_15 X hw gx rfl dX3_listCounting_6 ?_
      refine lv_icmp_ge (tgt := 46) X.1 X.2.1 dX3_listCounting_9 (by decide) (fun c9 => ?_) (fun c9 => ?_)
      · obtain rfl : i = s_nS σ := Nat.le_antisymm hii (Nat.le_of_not_lt (fun q => absurd c9 (nI_ge (b := s_nS σ) q (by omega))))
        refine lv_iload_n X.1 X.2.1 dX3_listCounting_46 rfl (lv_at hl 2 rfl) ?_
        exact h_iretW X Y hw ⟨rfl, rfl, ⟨g, gm, gc⟩, ho⟩ (Nat.zero_le _) (Nat.zero_le _) dX3_listCounting_47
      · have hib : i < s_nS σ := Nat.lt_of_not_le (fun q => c9 (nI_le q (by omega)))
        rcases hc : s_cnt σ i f with _ | c
        · refine lv_iload_n X.1 X.2.1 dX3_listCounting_12 rfl (lv_at hl 2 rfl) ?_
          refine lv_aload_n X.1 X.2.1 dX3_listCounting_13 rfl (lv_at hl 0 rfl) ?_
          refine gf_X3_35 X hw gx rfl dX3_listCounting_14 ?_
          refine h_alen X hw 0 rfl gm (v := 10) rfl dX3_listCounting_17 ?_
          refine lv_icmp_ge (tgt := 40) X.1 X.2.1 dX3_listCounting_18 (by decide) (fun c18 => ?_) (fun c18 => ?_)
          · exact absurd c18 (nI_ge (b := 10) (by omega) (by omega))
          · refine lv_aload_n X.1 X.2.1 dX3_listCounting_21 rfl (lv_at hl 0 rfl) ?_
            refine lv_aload_n X.1 X.2.1 dX3_listCounting_22 rfl (lv_at hl 1 rfl) ?_
            refine lv_iload_n X.1 X.2.1 dX3_listCounting_23 rfl (lv_at hl 3 rfl) ?_
            refine h_callRV (t := (0, 0, 0)) (As := [.ref (ad (7, f, 0)), .int (nI i)]) (rest := []) X hw cs_X3_202 (c_X3_countingRow l G hRk hf hib) gx rfl rfl hl.1 rfl (Nat.le_of_ble_eq_true rfl) ⟨by decide, by decide⟩ ⟨Nat.zero_le _, Nat.zero_le _⟩ dX3_listCounting_24 ?_
            refine h_tv (b := .null) (by rw [hc]; rfl) ?_
            refine lv_ifnullN (tgt := 40) X.1 X.2.1 dX3_listCounting_27 (by decide) ?_
            refine lv_iinc (v := nI (i + 1)) (lv' := [(3, .int (nI (i + 1))), (0, .ref (ad (0, 0, 0))), (1, .ref (ad (7, f, 0))), (2, .int (nI (cN (s_isC σ f) i)))]) X.1 X.2.1 dX3_listCounting_40 hl (k := 3) rfl (nI_1 _) (by decide) rfl (fun ls hl => ?_)
            refine lv_goto (tgt := 4) X.1 X.2.1 dX3_listCounting_43 (by decide) ?_
            have hb0 : s_isC σ f i = false := by unfold s_isC; rw [hc]; rfl
            exact ih (i + 1) (by omega) (by omega) kk g _ _ gm (by rw [cN_f hb0, clN_f hb0]; exact gc) ho hw ls (by
              rw [cN_f hb0]
              exact lv_sub hl [1, 2, 3, 0] rfl)
        · refine lv_iload_n X.1 X.2.1 dX3_listCounting_12 rfl (lv_at hl 2 rfl) ?_
          refine lv_aload_n X.1 X.2.1 dX3_listCounting_13 rfl (lv_at hl 0 rfl) ?_
          refine gf_X3_35 X hw gx rfl dX3_listCounting_14 ?_
          refine h_alen X hw 0 rfl gm (v := 10) rfl dX3_listCounting_17 ?_
          refine lv_icmp_ge (tgt := 40) X.1 X.2.1 dX3_listCounting_18 (by decide) (fun c18 => ?_) (fun c18 => ?_)
          · exact absurd c18 (nI_ge (b := 10) (by omega) (by omega))
          · refine lv_aload_n X.1 X.2.1 dX3_listCounting_21 rfl (lv_at hl 0 rfl) ?_
            refine lv_aload_n X.1 X.2.1 dX3_listCounting_22 rfl (lv_at hl 1 rfl) ?_
            refine lv_iload_n X.1 X.2.1 dX3_listCounting_23 rfl (lv_at hl 3 rfl) ?_
            refine h_callRV (t := (0, 0, 0)) (As := [.ref (ad (7, f, 0)), .int (nI i)]) (rest := []) X hw cs_X3_202 (c_X3_countingRow l G hRk hf hib) gx rfl rfl hl.1 rfl (Nat.le_of_ble_eq_true rfl) ⟨by decide, by decide⟩ ⟨Nat.zero_le _, Nat.zero_le _⟩ dX3_listCounting_24 ?_
            refine h_tv (b := .ref (ad (9, i, f))) (by rw [hc]; rfl) ?_
            refine lv_ifnull X.1 X.2.1 dX3_listCounting_27 ?_
            refine lv_aload_n X.1 X.2.1 dX3_listCounting_30 rfl (lv_at hl 0 rfl) ?_
            refine gf_X3_35 X hw gx rfl dX3_listCounting_31 ?_
            refine lv_iload_n X.1 X.2.1 dX3_listCounting_34 rfl (lv_at hl 2 rfl) ?_
            refine lv_iload_n X.1 X.2.1 dX3_listCounting_35 rfl (lv_at hl 3 rfl) ?_
            refine h_iast X hw gm (vp_in_nI (by omega) (by decide)) dX3_listCounting_36 (fun H locs hw => ?_)
            obtain ⟨k1, hk1⟩ : ∃ zz, zz = h_cu kk (4, 0, 0) (some (.inl (G.2 0, 10, .inl (upd g (nI (cN (s_isC σ f) i)).toNatClampNeg (nI i))))) := ⟨_, rfl⟩
            replace hw := h_W.ren hw hk1
            have f1_0_0_0 : k1 (0, 0, 0) = some (.inr (3, [.int (nI (s_cop σ)), .ref (ad (1, 0, 0)), .int (nI (s_nS σ)), .ref (ad (2, 0, 0)), .int (nI (s_nF σ)), .ref (ad (3, 0, 0)), .ref (ad (4, 0, 0)), .ref (ad (5, 0, 0)), .ref (ad (5, 1, 0)), .ref (ad (5, 2, 0)), .int (nI (s_as σ).length), .int (s_dg σ)])) := by rw [hk1, h_cn _ _ (by simp)]; exact gx
            have f1_4_0_0 : k1 (4, 0, 0) = some (.inl (G.2 0, 10, .inl (upd g (nI (cN (s_isC σ f) i)).toNatClampNeg (nI i)))) := by rw [hk1]; exact h_cs _ _ _
            refine lv_iinc (v := nI ((cN (s_isC σ f) i) + 1)) (lv' := [(2, .int (nI ((cN (s_isC σ f) i) + 1))), (0, .ref (ad (0, 0, 0))), (1, .ref (ad (7, f, 0))), (3, .int (nI i))]) X.1 X.2.1 dX3_listCounting_37 hl (k := 2) rfl (nI_1 _) (by decide) rfl (fun ls hl => ?_)
            refine lv_iinc (v := nI (i + 1)) (lv' := [(3, .int (nI (i + 1))), (2, .int (nI ((cN (s_isC σ f) i) + 1))), (0, .ref (ad (0, 0, 0))), (1, .ref (ad (7, f, 0)))]) X.1 X.2.1 dX3_listCounting_40 hl (k := 3) rfl (nI_1 _) (by decide) rfl (fun ls hl => ?_)
            refine lv_goto (tgt := 4) X.1 X.2.1 dX3_listCounting_43 (by decide) ?_
            have hb1 : s_isC σ f i = true := by unfold s_isC; rw [hc]; rfl
            exact ih (i + 1) (by omega) (by omega) k1 _ _ _ f1_4_0_0 (fun c hc2 => by
              rw [cN_t hb1] at hc2
              rw [clN_t hb1, nI_clamp (by omega), List.getD_eq_getElem?_getD]
              by_cases hcn : c = cN (s_isC σ f) i
              · rw [hcn, pk_us, List.getElem?_append_right (by rw [clN_len]; exact Nat.le_refl _), clN_len]
                simp
              · rw [pk_un hcn, List.getElem?_append_left (by rw [clN_len]; omega), ← List.getD_eq_getElem?_getD]
                exact gc c (by omega)) (fun t ht => by rw [hk1, h_cn _ _ ht, ho t ht]) hw ls (by
              rw [cN_t hb1]
              exact lv_sub hl [2, 3, 1, 0] rfl)
  obtain ⟨gm0, hgm0⟩ := hmx
  refine lv_iconst (v := 0) X.1 X.2.1 dX3_listCounting_0 (by decide) ?_
  refine lv_istore_n (lv' := [(2, .int 0), (0, .ref (ad (0, 0, 0))), (1, .ref (ad (7, f, 0)))]) X.1 X.2.1 dX3_listCounting_1 rfl hl (by decide) rfl (fun ls hl => ?_)
  refine lv_iconst (v := 0) X.1 X.2.1 dX3_listCounting_2 (by decide) ?_
  refine lv_istore_n (lv' := [(3, .int 0), (2, .int 0), (0, .ref (ad (0, 0, 0))), (1, .ref (ad (7, f, 0)))]) X.1 X.2.1 dX3_listCounting_3 rfl hl (by decide) rfl (fun ls hl => ?_)
  exact loop (s_nS σ + 1) 0 (by omega) (by omega) k gm0 _ _ hgm0 (fun c hc => absurd hc (Nat.not_lt_zero c)) (fun _ _ => rfl) hw ls (lv_sub hl [2, 3, 1, 0] rfl)
set_option maxHeartbeats 4000000 in
set_option maxRecDepth 100000 in
/-- mix -/
theorem c_X3_mix (l : Launch) (G : h_G) {ad : h_T → Nat} {k : h_C} {σ : S_t} (hR : RX G ad k σ) {n0 : Nat} (hn0 : n0 ≤ 10) {m0 : Nat → Nat} {gg : Nat → Int32} (hgg : k (4, 0, 0) = some (.inl (G.2 0, 10, .inl gg))) (hgc : ∀ c, c < n0 → gg c = nI (m0 c)) (x : Int64) : h_Wr l yX3_mix cX3_mix 9 (some .long) 0 0 0 0 G ad k [.ref (ad (0, 0, 0)), .int (nI n0), .long x] (fun r ad' k' => r = some (.long (p_mix (n0 - 1) m0 x).2) ∧ ad' = ad ∧ (∃ g : Nat → Int32, k' (4, 0, 0) = some (.inl (G.2 0, 10, .inl g)) ∧ ∀ c, c < n0 → g c = nI ((p_mix (n0 - 1) m0 x).1 c)) ∧ ∀ t : h_T, t ≠ (4, 0, 0) → k' t = k t) := by
  refine h_wr (by decide +kernel) (Nat.le_of_ble_eq_true rfl) ?_
  intro p e s m args below meth c X Y hw ls hl
  have hl : lv_has ls 9 [(0, .ref (ad (0, 0, 0))), (1, .int (nI n0)), (2, .long x)] := hl
  have hok := hR.ok
  obtain ⟨hx, hs, hst, hi, hit, hcp, hcol, hmx, hask, -⟩ := id hR
  have hx : k (0, 0, 0) = some (.inr (3, [.int (nI (s_cop σ)), .ref (ad (1, 0, 0)), .int (nI (s_nS σ)), .ref (ad (2, 0, 0)), .int (nI (s_nF σ)), .ref (ad (3, 0, 0)), .ref (ad (4, 0, 0)), .ref (ad (5, 0, 0)), .ref (ad (5, 1, 0)), .ref (ad (5, 2, 0)), .int (nI (s_as σ).length), .int (s_dg σ)])) := hx
  have hnS : s_nS σ ≤ 10 := hok.2.1
  have hnF : s_nF σ ≤ 40 := hok.2.2.1
  have loop : ∀ (q : Nat) (m1 : Nat → Nat) (y : Int64) (kk : h_C) (g : Nat → Int32) (H : Heap) (locs : List Loc), q < n0 → p_mix q m1 y = p_mix (n0 - 1) m0 x → kk (4, 0, 0) = some (.inl (G.2 0, 10, .inl g)) → (∀ c, c < n0 → g c = nI (m1 c)) → (∀ t : h_T, t ≠ (4, 0, 0) → kk t = k t) → h_W G.1 h_cl (h_A ad k s.heap.size) s.heap ad kk H locs → ∀ (ls : Array Slot), lv_has ls 9 [(0, .ref (ad (0, 0, 0))), (4, .long y), (6, .int (nI q))] → W p l e (h_rm 0 0 0 0) s m args below meth c H locs 0 0 (MQ below (h_Qw G ad k s.heap.size (fun r ad' k' => r = some (.long (p_mix (n0 - 1) m0 x).2) ∧ ad' = ad ∧ (∃ g : Nat → Int32, k' (4, 0, 0) = some (.inl (G.2 0, 10, .inl g)) ∧ ∀ c, c < n0 → g c = nI ((p_mix (n0 - 1) m0 x).1 c)) ∧ ∀ t : h_T, t ≠ (4, 0, 0) → k' t = k t)) args s 0 0 (h_A ad k s.heap.size)) (F0 m 8 ls []) := by
    intro q
    induction q with
    | zero =>
      intro m1 y kk g H locs hq hmx1 gm gc ho hw ls hl
      refine lv_iload X.1 X.2.1 dX3_mix_8 (lv_at hl 2 rfl) ?_
      refine lv_iconst (v := 1) X.1 X.2.1 dX3_mix_10 (by decide) ?_
      refine lv_icmp_lt (tgt := 77) X.1 X.2.1 dX3_mix_11 (by decide) (fun c11 => ?_) (fun c11 => ?_)
      · refine lv_lload X.1 X.2.1 dX3_mix_77 (lv_at hl 1 rfl) ?_
        rw [← hmx1]
        exact h_lretW X Y hw ⟨rfl, rfl, ⟨g, gm, gc⟩, ho⟩ (Nat.zero_le _) (Nat.zero_le _) dX3_mix_79
      · exact absurd (nI_lt (a := 0) (b := 1) (by omega) (by omega)) c11
    | succ q ih =>
      intro m1 y kk g H locs hq hmx1 gm gc ho hw ls hl
      have gx : kk (0, 0, 0) = some (.inr (3, [.int (nI (s_cop σ)), .ref (ad (1, 0, 0)), .int (nI (s_nS σ)), .ref (ad (2, 0, 0)), .int (nI (s_nF σ)), .ref (ad (3, 0, 0)), .ref (ad (4, 0, 0)), .ref (ad (5, 0, 0)), .ref (ad (5, 1, 0)), .ref (ad (5, 2, 0)), .int (nI (s_as σ).length), .int (s_dg σ)])) := (ho _ (by simp)).trans hx
      have hmod : p_ix (p_st y) (q + 2) < q + 2 := p_ix_lt _ (by omega)
      have hsh := p_sh_lt (p_st y)
      rw [mix_s] at hmx1
      refine lv_iload X.1 X.2.1 dX3_mix_8 (lv_at hl 2 rfl) ?_
      refine lv_iconst (v := 1) X.1 X.2.1 dX3_mix_10 (by decide) ?_
      refine lv_icmp_lt (tgt := 77) X.1 X.2.1 dX3_mix_11 (by decide) (fun c11 => ?_) (fun c11 => ?_)
      · exact absurd c11 (nI_nlt (b := 1) (by omega) (by omega))
      · refine lv_lload X.1 X.2.1 dX3_mix_14 (lv_at hl 1 rfl) ?_
        refine lv_ldc2 (v := 6364136223846793005) X.1 X.2.1 X.2.2.2.1 (X.2.2.2.2.1 _ wj_X3_206) dX3_mix_16 ?_
        refine lv_lmul X.1 X.2.1 dX3_mix_19 ?_
        refine lv_ldc2 (v := 1442695040888963407) X.1 X.2.1 X.2.2.2.1 (X.2.2.2.2.1 _ wj_X3_208) dX3_mix_20 ?_
        refine lv_ladd X.1 X.2.1 dX3_mix_23 ?_
        refine h_tl (b := p_st y) rfl ?_
        refine lv_lstore (lv' := [(4, .long (p_st y)), (0, .ref (ad (0, 0, 0))), (6, .int (nI (q + 1)))]) X.1 X.2.1 dX3_mix_24 hl (by decide) rfl (fun ls hl => ?_)
        refine lv_lload X.1 X.2.1 dX3_mix_26 (lv_at hl 0 rfl) ?_
        refine lv_bipush (v := 33) X.1 X.2.1 dX3_mix_28 (by decide) ?_
        refine lv_lushr X.1 X.2.1 dX3_mix_30 rfl ?_
        refine h_tl (b := lN (p_sh (p_st y))) (p_sh_eq _) ?_
        refine lv_l2i X.1 X.2.1 dX3_mix_31 rfl ?_
        refine h_ti (b := nI (p_sh (p_st y))) (lN_i _) ?_
        refine lv_iload X.1 X.2.1 dX3_mix_32 (lv_at hl 2 rfl) ?_
        refine lv_iconst (v := 1) X.1 X.2.1 dX3_mix_34 (by decide) ?_
        refine lv_iadd X.1 X.2.1 dX3_mix_35 ?_
        refine h_ti (b := nI (q + 2)) (nI_1 (q + 1)) ?_
        refine lv_irem X.1 X.2.1 dX3_mix_36 (nI_ne0 (by omega) (by omega)) ?_
        refine h_ti (b := nI (p_ix (p_st y) (q + 2))) (pk_rem hsh (by omega) (by omega)) ?_
        refine lv_istore (lv' := [(7, .int (nI (p_ix (p_st y) (q + 2)))), (4, .long (p_st y)), (0, .ref (ad (0, 0, 0))), (6, .int (nI (q + 1)))]) X.1 X.2.1 dX3_mix_37 hl (by decide) rfl (fun ls hl => ?_)
        refine lv_aload_n X.1 X.2.1 dX3_mix_39 rfl (lv_at hl 2 rfl) ?_
        refine gf_X3_35 X hw gx rfl dX3_mix_40 ?_
        refine lv_iload X.1 X.2.1 dX3_mix_43 (lv_at hl 3 rfl) ?_
        refine h_iald X hw gm (vp_in_nI (by omega) (by decide)) dX3_mix_45 ?_
        refine h_tv (b := .int (nI (m1 (q + 1)))) (by rw [nI_clamp (by omega), gc _ hq]) ?_
        refine lv_istore (lv' := [(8, .int (nI (m1 (q + 1)))), (7, .int (nI (p_ix (p_st y) (q + 2)))), (4, .long (p_st y)), (0, .ref (ad (0, 0, 0))), (6, .int (nI (q + 1)))]) X.1 X.2.1 dX3_mix_46 hl (by decide) rfl (fun ls hl => ?_)
        refine lv_aload_n X.1 X.2.1 dX3_mix_48 rfl (lv_at hl 3 rfl) ?_
        refine gf_X3_35 X hw gx rfl dX3_mix_49 ?_
        refine lv_iload X.1 X.2.1 dX3_mix_52 (lv_at hl 4 rfl) ?_
        refine lv_aload_n X.1 X.2.1 dX3_mix_54 rfl (lv_at hl 3 rfl) ?_
        refine gf_X3_35 X hw gx rfl dX3_mix_55 ?_
        refine lv_iload X.1 X.2.1 dX3_mix_58 (lv_at hl 1 rfl) ?_
        refine h_iald X hw gm (vp_in_nI (by omega) (by decide)) dX3_mix_60 ?_
        refine h_tv (b := .int (nI (m1 (p_ix (p_st y) (q + 2))))) (by rw [nI_clamp (by omega), gc _ (by omega)]) ?_
        refine h_iast X hw gm (vp_in_nI (by omega) (by decide)) dX3_mix_61 (fun H locs hw => ?_)
        obtain ⟨k1, hk1⟩ : ∃ zz, zz = h_cu kk (4, 0, 0) (some (.inl (G.2 0, 10, .inl (upd g (nI (q + 1)).toNatClampNeg (nI (m1 (p_ix (p_st y) (q + 2)))))))) := ⟨_, rfl⟩
        replace hw := h_W.ren hw hk1
        have f1_0_0_0 : k1 (0, 0, 0) = some (.inr (3, [.int (nI (s_cop σ)), .ref (ad (1, 0, 0)), .int (nI (s_nS σ)), .ref (ad (2, 0, 0)), .int (nI (s_nF σ)), .ref (ad (3, 0, 0)), .ref (ad (4, 0, 0)), .ref (ad (5, 0, 0)), .ref (ad (5, 1, 0)), .ref (ad (5, 2, 0)), .int (nI (s_as σ).length), .int (s_dg σ)])) := by rw [hk1, h_cn _ _ (by simp)]; exact gx
        have f1_4_0_0 : k1 (4, 0, 0) = some (.inl (G.2 0, 10, .inl (upd g (nI (q + 1)).toNatClampNeg (nI (m1 (p_ix (p_st y) (q + 2))))))) := by rw [hk1]; exact h_cs _ _ _
        refine lv_aload_n X.1 X.2.1 dX3_mix_62 rfl (lv_at hl 3 rfl) ?_
        refine gf_X3_35 X hw f1_0_0_0 rfl dX3_mix_63 ?_
        refine lv_iload X.1 X.2.1 dX3_mix_66 (lv_at hl 1 rfl) ?_
        refine lv_iload X.1 X.2.1 dX3_mix_68 (lv_at hl 0 rfl) ?_
        refine h_iast X hw f1_4_0_0 (vp_in_nI (by omega) (by decide)) dX3_mix_70 (fun H locs hw => ?_)
        obtain ⟨k2, hk2⟩ : ∃ zz, zz = h_cu k1 (4, 0, 0) (some (.inl (G.2 0, 10, .inl (upd (upd g (nI (q + 1)).toNatClampNeg (nI (m1 (p_ix (p_st y) (q + 2))))) (nI (p_ix (p_st y) (q + 2))).toNatClampNeg (nI (m1 (q + 1))))))) := ⟨_, rfl⟩
        replace hw := h_W.ren hw hk2
        have f2_0_0_0 : k2 (0, 0, 0) = some (.inr (3, [.int (nI (s_cop σ)), .ref (ad (1, 0, 0)), .int (nI (s_nS σ)), .ref (ad (2, 0, 0)), .int (nI (s_nF σ)), .ref (ad (3, 0, 0)), .ref (ad (4, 0, 0)), .ref (ad (5, 0, 0)), .ref (ad (5, 1, 0)), .ref (ad (5, 2, 0)), .int (nI (s_as σ).length), .int (s_dg σ)])) := by rw [hk2, h_cn _ _ (by simp)]; exact f1_0_0_0
        have f2_4_0_0 : k2 (4, 0, 0) = some (.inl (G.2 0, 10, .inl (upd (upd g (nI (q + 1)).toNatClampNeg (nI (m1 (p_ix (p_st y) (q + 2))))) (nI (p_ix (p_st y) (q + 2))).toNatClampNeg (nI (m1 (q + 1)))))) := by rw [hk2]; exact h_cs _ _ _
        refine lv_iinc (v := nI q) (lv' := [(6, .int (nI q)), (8, .int (nI (m1 (q + 1)))), (7, .int (nI (p_ix (p_st y) (q + 2)))), (4, .long (p_st y)), (0, .ref (ad (0, 0, 0)))]) X.1 X.2.1 dX3_mix_71 hl (k := 4) rfl (pk_m1 q) (by decide) rfl (fun ls hl => ?_)
        refine lv_goto (tgt := 8) X.1 X.2.1 dX3_mix_74 (by decide) ?_
        exact ih (swp m1 (q + 1) (p_ix (p_st y) (q + 2))) (p_st y) k2 _ _ _ (by omega) hmx1 f2_4_0_0 (fun c hc => by
          rw [nI_clamp (by omega), nI_clamp (by omega)]
          unfold swp
          by_cases hcj : c = p_ix (p_st y) (q + 2)
          · rw [hcj, pk_us, if_pos rfl]
          · rw [pk_un hcj, if_neg hcj]
            by_cases hck : c = q + 1
            · rw [hck, pk_us, if_pos rfl]
            · rw [pk_un hck, if_neg hck]; exact gc c hc) (fun t ht => by rw [hk2, h_cn _ _ ht, hk1, h_cn _ _ ht, ho t ht]) hw ls (lv_sub hl [4, 3, 0] rfl)
  rcases Nat.eq_zero_or_pos n0 with h0 | h0
  · subst h0
    refine lv_lload_n X.1 X.2.1 dX3_mix_0 rfl (lv_at hl 2 rfl) ?_
    refine lv_lstore (lv' := [(4, .long x), (0, .ref (ad (0, 0, 0))), (1, .int (nI 0)), (2, .long x)]) X.1 X.2.1 dX3_mix_1 hl (by decide) rfl (fun ls hl => ?_)
    refine lv_iload_n X.1 X.2.1 dX3_mix_3 rfl (lv_at hl 2 rfl) ?_
    refine lv_iconst (v := 1) X.1 X.2.1 dX3_mix_4 (by decide) ?_
    refine lv_isub X.1 X.2.1 dX3_mix_5 ?_
    refine h_ti (b := -1) (by decide) ?_
    refine lv_istore (lv' := [(6, .int (-1)), (4, .long x), (0, .ref (ad (0, 0, 0))), (1, .int (nI 0)), (2, .long x)]) X.1 X.2.1 dX3_mix_6 hl (by decide) rfl (fun ls hl => ?_)
    refine lv_iload X.1 X.2.1 dX3_mix_8 (lv_at hl 0 rfl) ?_
    refine lv_iconst (v := 1) X.1 X.2.1 dX3_mix_10 (by decide) ?_
    refine lv_icmp_lt (tgt := 77) X.1 X.2.1 dX3_mix_11 (by decide) (fun c11 => ?_) (fun c11 => ?_)
    · refine lv_lload X.1 X.2.1 dX3_mix_77 (lv_at hl 1 rfl) ?_
      exact h_lretW X Y hw ⟨rfl, rfl, ⟨gg, hgg, hgc⟩, fun _ _ => rfl⟩ (Nat.zero_le _) (Nat.zero_le _) dX3_mix_79
    · exact absurd (by decide) c11
  · obtain ⟨n1, rfl⟩ : ∃ z, n0 = z + 1 := ⟨n0 - 1, by omega⟩
    refine lv_lload_n X.1 X.2.1 dX3_mix_0 rfl (lv_at hl 2 rfl) ?_
    refine lv_lstore (lv' := [(4, .long x), (0, .ref (ad (0, 0, 0))), (1, .int (nI (n1 + 1))), (2, .long x)]) X.1 X.2.1 dX3_mix_1 hl (by decide) rfl (fun ls hl => ?_)
    refine lv_iload_n X.1 X.2.1 dX3_mix_3 rfl (lv_at hl 2 rfl) ?_
    refine lv_iconst (v := 1) X.1 X.2.1 dX3_mix_4 (by decide) ?_
    refine lv_isub X.1 X.2.1 dX3_mix_5 ?_
    refine h_ti (b := nI n1) (nI_pred n1) ?_
    refine lv_istore (lv' := [(6, .int (nI n1)), (4, .long x), (0, .ref (ad (0, 0, 0))), (1, .int (nI (n1 + 1))), (2, .long x)]) X.1 X.2.1 dX3_mix_6 hl (by decide) rfl (fun ls hl => ?_)
    exact loop n1 m0 x k gg _ _ (by omega) rfl hgg hgc (fun _ _ => rfl) hw ls (lv_sub hl [2, 1, 0] rfl)
