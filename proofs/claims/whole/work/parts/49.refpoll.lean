set_option maxHeartbeats 4000000 in
set_option maxRecDepth 100000 in
/-- poll -/
theorem c_X4_poll (l : Launch) (G : h_G) {ad : h_T → Nat} {k : h_C} {σ : S_t} {th : Int32} (hM : RM G ad k σ th) (w : Int32) (x : Int64) : h_Wr l yX4_poll cX4_poll 11 (some .int) 4 87 0 0 G ad k [.ref (ad (20, 0, 0)), .int w, .long x] (MPost G ad k (some (.int (sp_poll σ w x).1)) (sp_poll σ w x).2 0) := by
  refine h_wr (by decide +kernel) (Nat.le_of_ble_eq_true rfl) ?_
  intro p e s m args below meth c X Y hw ls hl
  have hl : lv_has ls 11 [(0, .ref (ad (20, 0, 0))), (1, .int w), (2, .long x)] := hl
  unfold sp_poll
  have hok := hM.ok
  have hnS : s_nS σ ≤ 10 := hok.2.1
  have hnF : s_nF σ ≤ 40 := hok.2.2.1
  have hx : k (20, 0, 0) = some (.inr (4, [.int th, .int (nI (s_cop σ)), .int (nI (s_nS σ)), .ref (ad (20, 3, 0)), .ref (ad (20, 4, 0)), .ref (ad (20, 5, 0)), .ref (ad (20, 6, 0)), .int (nI (s_col σ).length), .ref (ad (20, 8, 0)), .int (nI (s_nF σ)), .ref (ad (20, 10, 0)), .ref (ad (20, 11, 0)), .ref (ad (20, 12, 0)), .ref (ad (20, 13, 0)), .int (nI (s_as σ).length), .ref (ad (20, 15, 0)), .ref (ad (20, 16, 0)), .ref (ad (20, 17, 0)), .ref (ad (20, 18, 0)), .int (s_dg σ)])) := hM.1
  refine lv_aload_n X.1 X.2.1 dX4_poll_0 rfl (lv_at hl 0 rfl) ?_
  refine lv_iconst (v := 0) X.1 X.2.1 dX4_poll_1 (by decide) ?_
  refine pf_X4_55 X hw hx rfl rfl (Nat.le_of_ble_eq_true rfl) dX4_poll_2 (fun H locs hw => ?_)
  obtain ⟨k1, hk1⟩ : ∃ zz, zz = h_cu k (20, 0, 0) (some (.inr (4, [.int 0, .int (nI (s_cop σ)), .int (nI (s_nS σ)), .ref (ad (20, 3, 0)), .ref (ad (20, 4, 0)), .ref (ad (20, 5, 0)), .ref (ad (20, 6, 0)), .int (nI (s_col σ).length), .ref (ad (20, 8, 0)), .int (nI (s_nF σ)), .ref (ad (20, 10, 0)), .ref (ad (20, 11, 0)), .ref (ad (20, 12, 0)), .ref (ad (20, 13, 0)), .int (nI (s_as σ).length), .ref (ad (20, 15, 0)), .ref (ad (20, 16, 0)), .ref (ad (20, 17, 0)), .ref (ad (20, 18, 0)), .int (s_dg σ)]))) := ⟨_, rfl⟩
  replace hw := h_W.ren hw hk1
  have f1_20_0_0 : k1 (20, 0, 0) = some (.inr (4, [.int 0, .int (nI (s_cop σ)), .int (nI (s_nS σ)), .ref (ad (20, 3, 0)), .ref (ad (20, 4, 0)), .ref (ad (20, 5, 0)), .ref (ad (20, 6, 0)), .int (nI (s_col σ).length), .ref (ad (20, 8, 0)), .int (nI (s_nF σ)), .ref (ad (20, 10, 0)), .ref (ad (20, 11, 0)), .ref (ad (20, 12, 0)), .ref (ad (20, 13, 0)), .int (nI (s_as σ).length), .ref (ad (20, 15, 0)), .ref (ad (20, 16, 0)), .ref (ad (20, 17, 0)), .ref (ad (20, 18, 0)), .int (s_dg σ)])) := by rw [hk1]; exact h_cs _ _ _
  have hM1 : RM G ad k1 σ 0 := hM.obj f1_20_0_0 (fun t ht => by rw [hk1, h_cn _ _ ht])
  obtain ⟨hx, ⟨gP, eP, vP⟩, ⟨gS, eS, vS⟩, ⟨gU, eU, vU⟩, ⟨gD, eD, vD⟩, ⟨gA, eA, vA⟩, ⟨gK, eK, vK⟩, ⟨gN, eN, vN⟩, ⟨gZ, eZ, vZ⟩, ⟨gB, eB, vB⟩, ⟨g0, g1, g2, e15, e16, e17, v3⟩, ⟨gM, eM⟩, -⟩ := id hM1
  have hx : k1 (20, 0, 0) = some (.inr (4, [.int 0, .int (nI (s_cop σ)), .int (nI (s_nS σ)), .ref (ad (20, 3, 0)), .ref (ad (20, 4, 0)), .ref (ad (20, 5, 0)), .ref (ad (20, 6, 0)), .int (nI (s_col σ).length), .ref (ad (20, 8, 0)), .int (nI (s_nF σ)), .ref (ad (20, 10, 0)), .ref (ad (20, 11, 0)), .ref (ad (20, 12, 0)), .ref (ad (20, 13, 0)), .int (nI (s_as σ).length), .ref (ad (20, 15, 0)), .ref (ad (20, 16, 0)), .ref (ad (20, 17, 0)), .ref (ad (20, 18, 0)), .int (s_dg σ)])) := hx
  rcases hp : ix w 10 with _ | p9
  · rw [if_pos (show (none : Option Nat).isNone = true from rfl)]
    refine lv_iload_n X.1 X.2.1 dX4_poll_5 rfl (lv_at hl 1 rfl) ?_
    refine lv_iconst (v := 0) X.1 X.2.1 dX4_poll_6 (by decide) ?_
    refine lv_bipush (v := 9) X.1 X.2.1 dX4_poll_7 (by decide) ?_
    refine h_callRS (As := [.int w, .int 0, .int 9]) (rest := []) X hw cs_X4_61 (c_X4_in l G w 0 9) rfl hl.1 rfl (Nat.le_of_ble_eq_true rfl) ⟨by decide, by decide⟩ ⟨Nat.zero_le _, Nat.zero_le _⟩ dX4_poll_9 ?_
    refine h_tv (b := .int 0) (by rw [show (9 : Int32) = nI 10 - 1 from by decide, in_ix (by decide), hp]; rfl) ?_
    refine lv_if_ne (tgt := 18) X.1 X.2.1 dX4_poll_12 (by decide) (fun c12 => ?_) (fun c12 => ?_)
    · exact absurd (by decide) c12
    · refine lv_bipush (v := (-2)) X.1 X.2.1 dX4_poll_15 (by decide) ?_
      exact h_iretW X Y hw ⟨rfl, rfl, hM1, fun t ht => by rw [hk1, h_cn _ _ (t_ne20 ht)]⟩ (Nat.zero_le _) (Nat.zero_le _) dX4_poll_17
  rw [if_neg (show ¬ (some p9 : Option Nat).isNone = true from fun q => by cases q)]
  have loop : ∀ (n j : Nat), j ≤ s_nF σ → s_nF σ + 1 ≤ j + n → ∀ (ko : h_C) (H : Heap) (locs : List Loc), RM G ad ko (s_setAs σ (sp_pollN σ w x j).1) 0 → (∀ t : h_T, t.1 ≠ 20 → ko t = k t) → h_W G.1 h_cl (h_A ad k s.heap.size) s.heap ad ko H locs → ∀ (ls : Array Slot), lv_has ls 11 [(0, .ref (ad (20, 0, 0))), (1, .int w), (4, .long ((sp_pollN σ w x j).2)), (6, .int (nI j))] → W p l e (h_rm 4 87 0 0) s m args below meth c H locs 0 0 (MQ below (h_Qw G ad k s.heap.size (MPost G ad k (some (.int (nI (sp_pollN σ w x (s_nF σ)).1.length))) (s_setAs σ (sp_pollN σ w x (s_nF σ)).1) 0)) args s 0 0 (h_A ad k s.heap.size)) (F0 m 29 ls []) := by
    intro n
    induction n with
    | zero =>
      intro j h1 h2
      exact absurd h2 (by omega)
    | succ n ih =>
      intro j hij hnj ko H locs hMo h20 hw ls hl
      have hlen := pollN_len σ w x j
      have eT := @pollN_t σ w x j
      have eN9 := @pollN_f σ w x j
      obtain ⟨A9, hA⟩ : ∃ zz, zz = (sp_pollN σ w x j).1 := ⟨_, rfl⟩
      obtain ⟨y9, hy⟩ : ∃ zz, zz = (sp_pollN σ w x j).2 := ⟨_, rfl⟩
      rw [← hA] at hMo hlen eT
      rw [← hy] at hl eT
      obtain ⟨gx, -, -, -, -, -, ⟨gK2, eK2, vK2⟩, -, -, -, -, ⟨gM2, eM2⟩, -⟩ := id hMo
      have gx : ko (20, 0, 0) = some (.inr (4, [.int 0, .int (nI (s_cop σ)), .int (nI (s_nS σ)), .ref (ad (20, 3, 0)), .ref (ad (20, 4, 0)), .ref (ad (20, 5, 0)), .ref (ad (20, 6, 0)), .int (nI (s_col σ).length), .ref (ad (20, 8, 0)), .int (nI (s_nF σ)), .ref (ad (20, 10, 0)), .ref (ad (20, 11, 0)), .ref (ad (20, 12, 0)), .ref (ad (20, 13, 0)), .int (nI A9.length), .ref (ad (20, 15, 0)), .ref (ad (20, 16, 0)), .ref (ad (20, 17, 0)), .ref (ad (20, 18, 0)), .int (s_dg σ)])) := gx
      have hcl := cN_le (s_isC σ j) (s_nS σ)
      refine lv_iload X.1 X.2.1 dX4_poll_29 (lv_at hl 3 rfl) ?_
      refine lv_aload_n X.1 X.2.1 dX4_poll_31 rfl (lv_at hl 0 rfl) ?_
      refine gf_X4_65 X hw gx rfl dX4_poll_32 ?_
      refine lv_icmp_ge (tgt := 261) X.1 X.2.1 dX4_poll_35 (by decide) (fun c35 => ?_) (fun c35 => ?_)
      · refine lv_aload_n X.1 X.2.1 dX4_poll_261 rfl (lv_at hl 0 rfl) ?_
        refine gf_X4_96 X hw gx rfl dX4_poll_262 ?_
        obtain rfl : j = s_nF σ := Nat.le_antisymm hij (Nat.le_of_not_lt (fun q => absurd c35 (nI_ge (b := s_nF σ) q (by omega))))
        rw [← hA]
        exact h_iretW X Y hw ⟨rfl, rfl, hMo, h20⟩ (Nat.zero_le _) (Nat.zero_le _) dX4_poll_265
      · have hjb : j < s_nF σ := Nat.lt_of_not_le (fun q => c35 (nI_le q (by omega)))
        rcases Decidable.em (s_pk σ j = w) with hpk | hpk
        · refine lv_aload_n X.1 X.2.1 dX4_poll_38 rfl (lv_at hl 0 rfl) ?_
          refine gf_X4_27 X hw gx rfl dX4_poll_39 ?_
          refine lv_iload X.1 X.2.1 dX4_poll_42 (lv_at hl 3 rfl) ?_
          refine h_iald X hw eK2 (vp_in_nI (by omega) (by decide)) dX4_poll_44 ?_
          refine h_tv (b := .int (s_pk σ j)) (by rw [nI_clamp (by omega), vK2 j hjb]; rfl) ?_
          refine lv_iload_n X.1 X.2.1 dX4_poll_45 rfl (lv_at hl 1 rfl) ?_
          refine lv_icmp_eq (tgt := 52) X.1 X.2.1 dX4_poll_46 (by decide) (fun c46 => ?_) (fun c46 => ?_)
          · refine lv_iconst (v := 0) X.1 X.2.1 dX4_poll_52 (by decide) ?_
            refine lv_istore (lv' := [(7, .int 0), (0, .ref (ad (20, 0, 0))), (1, .int w), (4, .long y9), (6, .int (nI j))]) X.1 X.2.1 dX4_poll_53 hl (by decide) rfl (fun ls hl => ?_)
            refine lv_iconst (v := 0) X.1 X.2.1 dX4_poll_55 (by decide) ?_
            refine lv_istore (lv' := [(8, .int 0), (7, .int 0), (0, .ref (ad (20, 0, 0))), (1, .int w), (4, .long y9), (6, .int (nI j))]) X.1 X.2.1 dX4_poll_56 hl (by decide) rfl (fun ls hl => ?_)
            have loopC : ∀ (n i : Nat), i ≤ p_n3 σ j → p_n3 σ j + 1 ≤ i + n → ∀ (kk : h_C) (gm : Nat → Int32) (H : Heap) (locs : List Loc), RM G ad kk (s_setAs σ (A9 ++ p_ask σ j (p_mf σ j y9).1 i)) 0 → kk (20, 18, 0) = some (.inl (G.2 0, 10, .inl gm)) → (∀ c, c < (cN (s_isC σ j) (s_nS σ)) → gm c = nI ((p_mf σ j y9).1 c)) → (∀ t : h_T, t.1 ≠ 20 → kk t = k t) → h_W G.1 h_cl (h_A ad k s.heap.size) s.heap ad kk H locs → ∀ (ls : Array Slot), lv_has ls 11 [(0, .ref (ad (20, 0, 0))), (1, .int w), (4, .long ((p_mf σ j y9).2)), (6, .int (nI j)), (7, .int (nI (cN (s_isC σ j) (s_nS σ)))), (8, .int (nI i))] → W p l e (h_rm 4 87 0 0) s m args below meth c H locs 0 0 (MQ below (h_Qw G ad k s.heap.size (MPost G ad k (some (.int (nI (sp_pollN σ w x (s_nF σ)).1.length))) (s_setAs σ (sp_pollN σ w x (s_nF σ)).1) 0)) args s 0 0 (h_A ad k s.heap.size)) (F0 m 177 ls []) := by
              intro n
              induction n with
              | zero =>
                intro i h1 h2
                exact absurd h2 (by omega)
              | succ n ihC =>
                intro i hii hni kk gm H locs hMk gkm hgm h20 hw ls hl
                have hln : (A9 ++ p_ask σ j (p_mf σ j y9).1 i).length = A9.length + i := by rw [List.length_append, ask_len]
                obtain ⟨gx2, -, -, -, -, -, -, -, -, -, ⟨a0, a1, a2, b0, b1, b2, b3⟩, -, gok⟩ := id hMk
                have gx2 : kk (20, 0, 0) = some (.inr (4, [.int 0, .int (nI (s_cop σ)), .int (nI (s_nS σ)), .ref (ad (20, 3, 0)), .ref (ad (20, 4, 0)), .ref (ad (20, 5, 0)), .ref (ad (20, 6, 0)), .int (nI (s_col σ).length), .ref (ad (20, 8, 0)), .int (nI (s_nF σ)), .ref (ad (20, 10, 0)), .ref (ad (20, 11, 0)), .ref (ad (20, 12, 0)), .ref (ad (20, 13, 0)), .int (nI (A9.length + i)), .ref (ad (20, 15, 0)), .ref (ad (20, 16, 0)), .ref (ad (20, 17, 0)), .ref (ad (20, 18, 0)), .int (s_dg σ)])) := by rw [← hln]; exact gx2
                have hn3 : p_n3 σ j ≤ 3 := Nat.min_le_right _ _
                have hn4 : p_n3 σ j ≤ (cN (s_isC σ j) (s_nS σ)) := Nat.min_le_left _ _
                refine lv_iload X.1 X.2.1 dX4_poll_177 (lv_at hl 5 rfl) ?_
                refine lv_iload X.1 X.2.1 dX4_poll_179 (lv_at hl 4 rfl) ?_
                refine lv_icmp_ge (tgt := 255) X.1 X.2.1 dX4_poll_181 (by decide) (fun c181 => ?_) (fun c181 => ?_)
                · refine lv_iinc (v := nI (j + 1)) (lv' := [(6, .int (nI (j + 1))), (0, .ref (ad (20, 0, 0))), (1, .int w), (4, .long ((p_mf σ j y9).2)), (7, .int (nI (cN (s_isC σ j) (s_nS σ)))), (8, .int (nI i))]) X.1 X.2.1 dX4_poll_255 hl (k := 3) rfl (nI_1 _) (by decide) rfl (fun ls hl => ?_)
                  refine lv_goto (tgt := 29) X.1 X.2.1 dX4_poll_258 (by decide) ?_
                  have hz := Nat.le_of_not_lt (fun q => absurd c181 (nI_ge (b := (cN (s_isC σ j) (s_nS σ))) q (by omega)))
                  obtain rfl : i = p_n3 σ j := by unfold p_n3 at hii ⊢; omega
                  have es := eT hpk
                  exact ih (j + 1) (by omega) (by omega) kk _ _ (by rw [es]; exact hMk) h20 hw ls (by
                    rw [es]
                    exact lv_sub hl [1, 2, 3, 0] rfl)
                · refine lv_iload X.1 X.2.1 dX4_poll_184 (lv_at hl 5 rfl) ?_
                  refine lv_iconst (v := 3) X.1 X.2.1 dX4_poll_186 (by decide) ?_
                  refine lv_icmp_ge (tgt := 255) X.1 X.2.1 dX4_poll_187 (by decide) (fun c187 => ?_) (fun c187 => ?_)
                  · refine lv_iinc (v := nI (j + 1)) (lv' := [(6, .int (nI (j + 1))), (0, .ref (ad (20, 0, 0))), (1, .int w), (4, .long ((p_mf σ j y9).2)), (7, .int (nI (cN (s_isC σ j) (s_nS σ)))), (8, .int (nI i))]) X.1 X.2.1 dX4_poll_255 hl (k := 3) rfl (nI_1 _) (by decide) rfl (fun ls hl => ?_)
                    refine lv_goto (tgt := 29) X.1 X.2.1 dX4_poll_258 (by decide) ?_
                    have hz := Nat.le_of_not_lt (fun q => absurd c187 (nI_ge (b := 3) q (by omega)))
                    obtain rfl : i = p_n3 σ j := by unfold p_n3 at hii ⊢; omega
                    have es := eT hpk
                    exact ih (j + 1) (by omega) (by omega) kk _ _ (by rw [es]; exact hMk) h20 hw ls (by
                      rw [es]
                      exact lv_sub hl [1, 2, 3, 0] rfl)
                  · have hi1 : i < (cN (s_isC σ j) (s_nS σ)) := Nat.lt_of_not_le (fun q => c181 (nI_le q (by omega)))
                    have hi2 : i < 3 := Nat.lt_of_not_le (fun q => c187 (nI_le (a := 3) q (by omega)))
                    have hi3 : i < p_n3 σ j := by unfold p_n3; omega
                    obtain ⟨hm1, hm2⟩ := mf_in (σ := σ) (f := j) (x := y9) hi1
                    obtain ⟨b, hc⟩ : ∃ b, s_cnt σ ((p_mf σ j y9).1 i) j = some b := Option.isSome_iff_exists.mp hm2
                    have hcb := (s_cnt_cp hc).1
                    refine lv_aload_n X.1 X.2.1 dX4_poll_190 rfl (lv_at hl 0 rfl) ?_
                    refine gf_X4_39 X hw gx2 rfl dX4_poll_191 ?_
                    refine lv_aload_n X.1 X.2.1 dX4_poll_194 rfl (lv_at hl 0 rfl) ?_
                    refine gf_X4_96 X hw gx2 rfl dX4_poll_195 ?_
                    refine lv_iload X.1 X.2.1 dX4_poll_198 (lv_at hl 3 rfl) ?_
                    refine h_iast X hw b0 (vp_in_nI (by omega) (by decide)) dX4_poll_200 (fun H locs hw => ?_)
                    obtain ⟨k2, hk2⟩ : ∃ zz, zz = h_cu kk (20, 15, 0) (some (.inl (G.2 0, 120, .inl (upd a0 (nI (A9.length + i)).toNatClampNeg (nI j))))) := ⟨_, rfl⟩
                    replace hw := h_W.ren hw hk2
                    have f2_20_0_0 : k2 (20, 0, 0) = some (.inr (4, [.int 0, .int (nI (s_cop σ)), .int (nI (s_nS σ)), .ref (ad (20, 3, 0)), .ref (ad (20, 4, 0)), .ref (ad (20, 5, 0)), .ref (ad (20, 6, 0)), .int (nI (s_col σ).length), .ref (ad (20, 8, 0)), .int (nI (s_nF σ)), .ref (ad (20, 10, 0)), .ref (ad (20, 11, 0)), .ref (ad (20, 12, 0)), .ref (ad (20, 13, 0)), .int (nI (A9.length + i)), .ref (ad (20, 15, 0)), .ref (ad (20, 16, 0)), .ref (ad (20, 17, 0)), .ref (ad (20, 18, 0)), .int (s_dg σ)])) := by rw [hk2, h_cn _ _ (by simp)]; exact gx2
                    have f2_20_15_0 : k2 (20, 15, 0) = some (.inl (G.2 0, 120, .inl (upd a0 (nI (A9.length + i)).toNatClampNeg (nI j)))) := by rw [hk2]; exact h_cs _ _ _
                    have f2_20_16_0 : k2 (20, 16, 0) = some (.inl (G.2 0, 120, .inl a1)) := by rw [hk2, h_cn _ _ (by simp)]; exact b1
                    have f2_20_17_0 : k2 (20, 17, 0) = some (.inl (G.2 0, 120, .inl a2)) := by rw [hk2, h_cn _ _ (by simp)]; exact b2
                    have f2_20_18_0 : k2 (20, 18, 0) = some (.inl (G.2 0, 10, .inl gm)) := by rw [hk2, h_cn _ _ (by simp)]; exact gkm
                    refine lv_aload_n X.1 X.2.1 dX4_poll_201 rfl (lv_at hl 0 rfl) ?_
                    refine gf_X4_42 X hw f2_20_0_0 rfl dX4_poll_202 ?_
                    refine lv_aload_n X.1 X.2.1 dX4_poll_205 rfl (lv_at hl 0 rfl) ?_
                    refine gf_X4_96 X hw f2_20_0_0 rfl dX4_poll_206 ?_
                    refine lv_aload_n X.1 X.2.1 dX4_poll_209 rfl (lv_at hl 0 rfl) ?_
                    refine gf_X4_48 X hw f2_20_0_0 rfl dX4_poll_210 ?_
                    refine lv_iload X.1 X.2.1 dX4_poll_213 (lv_at hl 5 rfl) ?_
                    refine h_iald X hw f2_20_18_0 (vp_in_nI (by omega) (by decide)) dX4_poll_215 ?_
                    refine h_tv (b := .int (nI ((p_mf σ j y9).1 i))) (by rw [nI_clamp (by omega), hgm _ hi1]) ?_
                    refine h_iast X hw f2_20_16_0 (vp_in_nI (by omega) (by decide)) dX4_poll_216 (fun H locs hw => ?_)
                    obtain ⟨k3, hk3⟩ : ∃ zz, zz = h_cu k2 (20, 16, 0) (some (.inl (G.2 0, 120, .inl (upd a1 (nI (A9.length + i)).toNatClampNeg (nI ((p_mf σ j y9).1 i)))))) := ⟨_, rfl⟩
                    replace hw := h_W.ren hw hk3
                    have f3_20_0_0 : k3 (20, 0, 0) = some (.inr (4, [.int 0, .int (nI (s_cop σ)), .int (nI (s_nS σ)), .ref (ad (20, 3, 0)), .ref (ad (20, 4, 0)), .ref (ad (20, 5, 0)), .ref (ad (20, 6, 0)), .int (nI (s_col σ).length), .ref (ad (20, 8, 0)), .int (nI (s_nF σ)), .ref (ad (20, 10, 0)), .ref (ad (20, 11, 0)), .ref (ad (20, 12, 0)), .ref (ad (20, 13, 0)), .int (nI (A9.length + i)), .ref (ad (20, 15, 0)), .ref (ad (20, 16, 0)), .ref (ad (20, 17, 0)), .ref (ad (20, 18, 0)), .int (s_dg σ)])) := by rw [hk3, h_cn _ _ (by simp)]; exact f2_20_0_0
                    have f3_20_15_0 : k3 (20, 15, 0) = some (.inl (G.2 0, 120, .inl (upd a0 (nI (A9.length + i)).toNatClampNeg (nI j)))) := by rw [hk3, h_cn _ _ (by simp)]; exact f2_20_15_0
                    have f3_20_16_0 : k3 (20, 16, 0) = some (.inl (G.2 0, 120, .inl (upd a1 (nI (A9.length + i)).toNatClampNeg (nI ((p_mf σ j y9).1 i))))) := by rw [hk3]; exact h_cs _ _ _
                    have f3_20_17_0 : k3 (20, 17, 0) = some (.inl (G.2 0, 120, .inl a2)) := by rw [hk3, h_cn _ _ (by simp)]; exact f2_20_17_0
                    have f3_20_18_0 : k3 (20, 18, 0) = some (.inl (G.2 0, 10, .inl gm)) := by rw [hk3, h_cn _ _ (by simp)]; exact f2_20_18_0
                    refine lv_aload_n X.1 X.2.1 dX4_poll_217 rfl (lv_at hl 0 rfl) ?_
                    refine gf_X4_45 X hw f3_20_0_0 rfl dX4_poll_218 ?_
                    refine lv_aload_n X.1 X.2.1 dX4_poll_221 rfl (lv_at hl 0 rfl) ?_
                    refine gf_X4_96 X hw f3_20_0_0 rfl dX4_poll_222 ?_
                    refine lv_aload_n X.1 X.2.1 dX4_poll_225 rfl (lv_at hl 0 rfl) ?_
                    refine lv_aload_n X.1 X.2.1 dX4_poll_226 rfl (lv_at hl 0 rfl) ?_
                    refine gf_X4_48 X hw f3_20_0_0 rfl dX4_poll_227 ?_
                    refine lv_iload X.1 X.2.1 dX4_poll_230 (lv_at hl 5 rfl) ?_
                    refine h_iald X hw f3_20_18_0 (vp_in_nI (by omega) (by decide)) dX4_poll_232 ?_
                    refine h_tv (b := .int (nI ((p_mf σ j y9).1 i))) (by rw [nI_clamp (by omega), hgm _ hi1]) ?_
                    refine lv_iload X.1 X.2.1 dX4_poll_233 (lv_at hl 3 rfl) ?_
                    have f3_20_0_0' : k3 (20, 0, 0) = some (.inr (4, m_ob ad (s_setAs σ (A9 ++ p_ask σ j (p_mf σ j y9).1 i)) 0)) := by
                      rw [f3_20_0_0]
                      show some (Sum.inr (4, [.int 0, .int (nI (s_cop σ)), .int (nI (s_nS σ)), .ref (ad (20, 3, 0)), .ref (ad (20, 4, 0)), .ref (ad (20, 5, 0)), .ref (ad (20, 6, 0)), .int (nI (s_col σ).length), .ref (ad (20, 8, 0)), .int (nI (s_nF σ)), .ref (ad (20, 10, 0)), .ref (ad (20, 11, 0)), .ref (ad (20, 12, 0)), .ref (ad (20, 13, 0)), .int (nI (A9.length + i)), .ref (ad (20, 15, 0)), .ref (ad (20, 16, 0)), .ref (ad (20, 17, 0)), .ref (ad (20, 18, 0)), .int (s_dg σ)])) = some (Sum.inr (4, m_ob ad (s_setAs σ (A9 ++ p_ask σ j (p_mf σ j y9).1 i)) 0))
                      unfold m_ob
                      rw [show (s_as (s_setAs σ (A9 ++ p_ask σ j (p_mf σ j y9).1 i))).length = A9.length + i from hln]
                      rfl
                    have hMk3 := (hMk.setAs (k' := k3) (as := A9 ++ p_ask σ j (p_mf σ j y9).1 i) (by rw [hln]; omega) f3_20_0_0' f3_20_15_0 f3_20_16_0 f3_20_17_0 (fun a ha => by
                      rw [hln] at ha
                      rw [nI_clamp (by omega), pk_un (by omega), pk_un (by omega)]
                      exact b3 a (by show a < (A9 ++ p_ask σ j (p_mf σ j y9).1 i).length; rw [hln]; exact ha)) (fun t n0 n1 n2 n3 => by rw [hk3, h_cn _ _ n2, hk2, h_cn _ _ n1]))
                    refine h_callRV (t := (20, 0, 0)) (As := [.int (nI ((p_mf σ j y9).1 i)), .int (nI j)]) (rest := [.int (nI (A9.length + i)), .ref (ad (20, 17, 0))]) X hw cs_X4_92 (c_X4_digestOf l G hMk3 (s9 := (p_mf σ j y9).1 i) (f := j) hcb) f3_20_0_0 rfl rfl hl.1 rfl (Nat.le_of_ble_eq_true rfl) ⟨by decide, by decide⟩ ⟨Nat.zero_le _, Nat.zero_le _⟩ dX4_poll_235 ?_
                    refine h_iast X hw f3_20_17_0 (vp_in_nI (by omega) (by decide)) dX4_poll_238 (fun H locs hw => ?_)
                    obtain ⟨k4, hk4⟩ : ∃ zz, zz = h_cu k3 (20, 17, 0) (some (.inl (G.2 0, 120, .inl (upd a2 (nI (A9.length + i)).toNatClampNeg (dgL b))))) := ⟨_, rfl⟩
                    replace hw := h_W.ren hw hk4
                    have f4_20_0_0 : k4 (20, 0, 0) = some (.inr (4, [.int 0, .int (nI (s_cop σ)), .int (nI (s_nS σ)), .ref (ad (20, 3, 0)), .ref (ad (20, 4, 0)), .ref (ad (20, 5, 0)), .ref (ad (20, 6, 0)), .int (nI (s_col σ).length), .ref (ad (20, 8, 0)), .int (nI (s_nF σ)), .ref (ad (20, 10, 0)), .ref (ad (20, 11, 0)), .ref (ad (20, 12, 0)), .ref (ad (20, 13, 0)), .int (nI (A9.length + i)), .ref (ad (20, 15, 0)), .ref (ad (20, 16, 0)), .ref (ad (20, 17, 0)), .ref (ad (20, 18, 0)), .int (s_dg σ)])) := by rw [hk4, h_cn _ _ (by simp)]; exact f3_20_0_0
                    have f4_20_15_0 : k4 (20, 15, 0) = some (.inl (G.2 0, 120, .inl (upd a0 (nI (A9.length + i)).toNatClampNeg (nI j)))) := by rw [hk4, h_cn _ _ (by simp)]; exact f3_20_15_0
                    have f4_20_16_0 : k4 (20, 16, 0) = some (.inl (G.2 0, 120, .inl (upd a1 (nI (A9.length + i)).toNatClampNeg (nI ((p_mf σ j y9).1 i))))) := by rw [hk4, h_cn _ _ (by simp)]; exact f3_20_16_0
                    have f4_20_17_0 : k4 (20, 17, 0) = some (.inl (G.2 0, 120, .inl (upd a2 (nI (A9.length + i)).toNatClampNeg (dgL b)))) := by rw [hk4]; exact h_cs _ _ _
                    have f4_20_18_0 : k4 (20, 18, 0) = some (.inl (G.2 0, 10, .inl gm)) := by rw [hk4, h_cn _ _ (by simp)]; exact f3_20_18_0
                    refine lv_aload_n X.1 X.2.1 dX4_poll_239 rfl (lv_at hl 0 rfl) ?_
                    refine lv_dup X.1 X.2.1 dX4_poll_240 rfl ?_
                    refine gf_X4_96 X hw f4_20_0_0 rfl dX4_poll_241 ?_
                    refine lv_iconst (v := 1) X.1 X.2.1 dX4_poll_244 (by decide) ?_
                    refine lv_iadd X.1 X.2.1 dX4_poll_245 ?_
                    refine h_ti (b := nI ((A9.length + i) + 1)) (nI_add (A9.length + i) 1) ?_
                    refine pf_X4_96 X hw f4_20_0_0 rfl rfl (Nat.le_of_ble_eq_true rfl) dX4_poll_246 (fun H locs hw => ?_)
                    obtain ⟨k5, hk5⟩ : ∃ zz, zz = h_cu k4 (20, 0, 0) (some (.inr (4, [.int 0, .int (nI (s_cop σ)), .int (nI (s_nS σ)), .ref (ad (20, 3, 0)), .ref (ad (20, 4, 0)), .ref (ad (20, 5, 0)), .ref (ad (20, 6, 0)), .int (nI (s_col σ).length), .ref (ad (20, 8, 0)), .int (nI (s_nF σ)), .ref (ad (20, 10, 0)), .ref (ad (20, 11, 0)), .ref (ad (20, 12, 0)), .ref (ad (20, 13, 0)), .int (nI ((A9.length + i) + 1)), .ref (ad (20, 15, 0)), .ref (ad (20, 16, 0)), .ref (ad (20, 17, 0)), .ref (ad (20, 18, 0)), .int (s_dg σ)]))) := ⟨_, rfl⟩
                    replace hw := h_W.ren hw hk5
                    have f5_20_0_0 : k5 (20, 0, 0) = some (.inr (4, [.int 0, .int (nI (s_cop σ)), .int (nI (s_nS σ)), .ref (ad (20, 3, 0)), .ref (ad (20, 4, 0)), .ref (ad (20, 5, 0)), .ref (ad (20, 6, 0)), .int (nI (s_col σ).length), .ref (ad (20, 8, 0)), .int (nI (s_nF σ)), .ref (ad (20, 10, 0)), .ref (ad (20, 11, 0)), .ref (ad (20, 12, 0)), .ref (ad (20, 13, 0)), .int (nI ((A9.length + i) + 1)), .ref (ad (20, 15, 0)), .ref (ad (20, 16, 0)), .ref (ad (20, 17, 0)), .ref (ad (20, 18, 0)), .int (s_dg σ)])) := by rw [hk5]; exact h_cs _ _ _
                    have f5_20_15_0 : k5 (20, 15, 0) = some (.inl (G.2 0, 120, .inl (upd a0 (nI (A9.length + i)).toNatClampNeg (nI j)))) := by rw [hk5, h_cn _ _ (by simp)]; exact f4_20_15_0
                    have f5_20_16_0 : k5 (20, 16, 0) = some (.inl (G.2 0, 120, .inl (upd a1 (nI (A9.length + i)).toNatClampNeg (nI ((p_mf σ j y9).1 i))))) := by rw [hk5, h_cn _ _ (by simp)]; exact f4_20_16_0
                    have f5_20_17_0 : k5 (20, 17, 0) = some (.inl (G.2 0, 120, .inl (upd a2 (nI (A9.length + i)).toNatClampNeg (dgL b)))) := by rw [hk5, h_cn _ _ (by simp)]; exact f4_20_17_0
                    have f5_20_18_0 : k5 (20, 18, 0) = some (.inl (G.2 0, 10, .inl gm)) := by rw [hk5, h_cn _ _ (by simp)]; exact f4_20_18_0
                    refine lv_iinc (v := nI (i + 1)) (lv' := [(8, .int (nI (i + 1))), (0, .ref (ad (20, 0, 0))), (1, .int w), (4, .long ((p_mf σ j y9).2)), (6, .int (nI j)), (7, .int (nI (cN (s_isC σ j) (s_nS σ))))]) X.1 X.2.1 dX4_poll_249 hl (k := 5) rfl (nI_1 _) (by decide) rfl (fun ls hl => ?_)
                    refine lv_goto (tgt := 177) X.1 X.2.1 dX4_poll_252 (by decide) ?_
                    have hO : ∀ t : h_T, t ≠ (20, 0, 0) → t ≠ (20, 15, 0) → t ≠ (20, 16, 0) → t ≠ (20, 17, 0) → k5 t = kk t := fun t n0 n1 n2 n3 => by rw [hk5, h_cn _ _ n0, hk4, h_cn _ _ n3, hk3, h_cn _ _ n2, hk2, h_cn _ _ n1]
                    have hcl9 : (nI (A9.length + i)).toNatClampNeg = A9.length + i := nI_clamp (by omega)
                    exact ihC (i + 1) (by omega) (by omega) k5 gm _ _ (RM.setAs (as := A9 ++ p_ask σ j (p_mf σ j y9).1 (i + 1)) hMk (by rw [List.length_append, ask_len]; omega) (by
                      rw [f5_20_0_0]
                      show _ = some (Sum.inr (4, m_ob ad (s_setAs σ (A9 ++ p_ask σ j (p_mf σ j y9).1 (i + 1))) 0))
                      unfold m_ob
                      rw [show (s_as (s_setAs σ (A9 ++ p_ask σ j (p_mf σ j y9).1 (i + 1)))).length = A9.length + i + 1 by show (A9 ++ p_ask σ j (p_mf σ j y9).1 (i + 1)).length = _; rw [List.length_append, ask_len]; omega]
                      rfl) f5_20_15_0 f5_20_16_0 f5_20_17_0 (fun a ha => by
                      rw [List.length_append, ask_len] at ha
                      rw [hcl9, ask_s, ← List.append_assoc, List.getD_eq_getElem?_getD]
                      by_cases z : a = A9.length + i
                      · rw [z, pk_us, pk_us, pk_us, List.getElem?_append_right (by omega), hln, Nat.sub_self]
                        show (nI j, nI ((p_mf σ j y9).1 i), dgL b) = p_row σ j (p_mf σ j y9).1 i
                        unfold p_row
                        rw [hc]
                        rfl
                      · rw [pk_un z, pk_un z, pk_un z, List.getElem?_append_left (by omega), ← List.getD_eq_getElem?_getD]
                        exact b3 a (by show a < (A9 ++ p_ask σ j (p_mf σ j y9).1 i).length; rw [hln]; omega)) hO) (by rw [hO _ (by simp) (by simp) (by simp) (by simp)]; exact gkm) hgm (fun t ht => by rw [hO t (t_ne20 ht) (t_ne20 ht) (t_ne20 ht) (t_ne20 ht), h20 t ht]) hw ls (lv_sub hl [1, 2, 3, 4, 5, 0] rfl)
            have loopB : ∀ (q : Nat), ∀ (m1 : Nat → Nat) (y : Int64) (kk : h_C) (gm : Nat → Int32) (H : Heap) (locs : List Loc), q < (cN (s_isC σ j) (s_nS σ)) → p_mix q m1 y = p_mf σ j y9 → RM G ad kk (s_setAs σ A9) 0 → kk (20, 18, 0) = some (.inl (G.2 0, 10, .inl gm)) → (∀ c, c < (cN (s_isC σ j) (s_nS σ)) → gm c = nI (m1 c)) → (∀ t : h_T, t.1 ≠ 20 → kk t = k t) → h_W G.1 h_cl (h_A ad k s.heap.size) s.heap ad kk H locs → ∀ (ls : Array Slot), lv_has ls 11 [(0, .ref (ad (20, 0, 0))), (1, .int w), (4, .long y), (6, .int (nI j)), (7, .int (nI (cN (s_isC σ j) (s_nS σ)))), (8, .int (nI q))] → W p l e (h_rm 4 87 0 0) s m args below meth c H locs 0 0 (MQ below (h_Qw G ad k s.heap.size (MPost G ad k (some (.int (nI (sp_pollN σ w x (s_nF σ)).1.length))) (s_setAs σ (sp_pollN σ w x (s_nF σ)).1) 0)) args s 0 0 (h_A ad k s.heap.size)) (F0 m 105 ls []) := by
              intro q
              induction q with
              | zero =>
                intro m1 y kk gm H locs hq hmx1 hMk gkm hgm h20 hw ls hl
                rw [mix_0] at hmx1
                refine lv_iload X.1 X.2.1 dX4_poll_105 (lv_at hl 5 rfl) ?_
                refine lv_if_le (tgt := 174) X.1 X.2.1 dX4_poll_107 (by decide) (fun c107 => ?_) (fun c107 => ?_)
                · refine lv_iconst (v := 0) X.1 X.2.1 dX4_poll_174 (by decide) ?_
                  refine lv_istore (lv' := [(8, .int 0), (0, .ref (ad (20, 0, 0))), (1, .int w), (4, .long y), (6, .int (nI j)), (7, .int (nI (cN (s_isC σ j) (s_nS σ))))]) X.1 X.2.1 dX4_poll_175 hl (by decide) rfl (fun ls hl => ?_)
                  have hm1 : m1 = (p_mf σ j y9).1 := by rw [← hmx1]
                  have hy1 : y = (p_mf σ j y9).2 := by rw [← hmx1]
                  exact loopC (p_n3 σ j + 1) 0 (by omega) (by omega) kk gm _ _ (by show RM G ad kk (s_setAs σ (A9 ++ [])) 0; rw [List.append_nil]; exact hMk) gkm (by rw [← hm1]; exact hgm) h20 hw ls (by
                    rw [← hy1]
                    exact lv_sub hl [1, 2, 3, 4, 5, 0] rfl)
                · exact absurd (by decide) c107
              | succ q ihB =>
                intro m1 y kk gm H locs hq hmx1 hMk gkm hgm h20 hw ls hl
                have gx2 : kk (20, 0, 0) = some (.inr (4, [.int 0, .int (nI (s_cop σ)), .int (nI (s_nS σ)), .ref (ad (20, 3, 0)), .ref (ad (20, 4, 0)), .ref (ad (20, 5, 0)), .ref (ad (20, 6, 0)), .int (nI (s_col σ).length), .ref (ad (20, 8, 0)), .int (nI (s_nF σ)), .ref (ad (20, 10, 0)), .ref (ad (20, 11, 0)), .ref (ad (20, 12, 0)), .ref (ad (20, 13, 0)), .int (nI A9.length), .ref (ad (20, 15, 0)), .ref (ad (20, 16, 0)), .ref (ad (20, 17, 0)), .ref (ad (20, 18, 0)), .int (s_dg σ)])) := hMk.1
                have hmod : p_ix (p_st y) (q + 2) < q + 2 := p_ix_lt _ (by omega)
                have hsh := p_sh_lt (p_st y)
                rw [mix_s] at hmx1
                refine lv_iload X.1 X.2.1 dX4_poll_105 (lv_at hl 5 rfl) ?_
                refine lv_if_le (tgt := 174) X.1 X.2.1 dX4_poll_107 (by decide) (fun c107 => ?_) (fun c107 => ?_)
                · exact absurd c107 (nI_nle (by omega) (by omega))
                · refine lv_lload X.1 X.2.1 dX4_poll_110 (lv_at hl 2 rfl) ?_
                  refine lv_ldc2 (v := 6364136223846793005) X.1 X.2.1 X.2.2.2.1 (X.2.2.2.2.1 _ wj_X4_99) dX4_poll_112 ?_
                  refine lv_lmul X.1 X.2.1 dX4_poll_115 ?_
                  refine lv_ldc2 (v := 1442695040888963407) X.1 X.2.1 X.2.2.2.1 (X.2.2.2.2.1 _ wj_X4_101) dX4_poll_116 ?_
                  refine lv_ladd X.1 X.2.1 dX4_poll_119 ?_
                  refine h_tl (b := p_st y) rfl ?_
                  refine lv_lstore (lv' := [(4, .long (p_st y)), (0, .ref (ad (20, 0, 0))), (1, .int w), (6, .int (nI j)), (7, .int (nI (cN (s_isC σ j) (s_nS σ)))), (8, .int (nI (q + 1)))]) X.1 X.2.1 dX4_poll_120 hl (by decide) rfl (fun ls hl => ?_)
                  refine lv_lload X.1 X.2.1 dX4_poll_122 (lv_at hl 0 rfl) ?_
                  refine lv_bipush (v := 33) X.1 X.2.1 dX4_poll_124 (by decide) ?_
                  refine lv_lushr X.1 X.2.1 dX4_poll_126 rfl ?_
                  refine h_tl (b := lN (p_sh (p_st y))) (p_sh_eq _) ?_
                  refine lv_iload X.1 X.2.1 dX4_poll_127 (lv_at hl 5 rfl) ?_
                  refine lv_iconst (v := 1) X.1 X.2.1 dX4_poll_129 (by decide) ?_
                  refine lv_iadd X.1 X.2.1 dX4_poll_130 ?_
                  refine h_ti (b := nI ((q + 1) + 1)) (nI_add (q + 1) 1) ?_
                  refine lv_i2l X.1 X.2.1 dX4_poll_131 rfl ?_
                  refine h_tl (b := lN (q + 2)) (nI_l (n := q + 2) (by omega)) ?_
                  refine lv_lrem X.1 X.2.1 dX4_poll_132 (fun z => absurd ((pk_lEQ (b := 0) (by omega) (by omega)).mp z) (by omega)) ?_
                  refine h_tl (b := lN (p_ix (p_st y) (q + 2))) (pk_lRem (by omega) (by omega) (by omega)) ?_
                  refine lv_l2i X.1 X.2.1 dX4_poll_133 rfl ?_
                  refine h_ti (b := nI (p_ix (p_st y) (q + 2))) (lN_i _) ?_
                  refine lv_istore (lv' := [(9, .int (nI (p_ix (p_st y) (q + 2)))), (4, .long (p_st y)), (0, .ref (ad (20, 0, 0))), (1, .int w), (6, .int (nI j)), (7, .int (nI (cN (s_isC σ j) (s_nS σ)))), (8, .int (nI (q + 1)))]) X.1 X.2.1 dX4_poll_134 hl (by decide) rfl (fun ls hl => ?_)
                  refine lv_aload_n X.1 X.2.1 dX4_poll_136 rfl (lv_at hl 2 rfl) ?_
                  refine gf_X4_48 X hw gx2 rfl dX4_poll_137 ?_
                  refine lv_iload X.1 X.2.1 dX4_poll_140 (lv_at hl 6 rfl) ?_
                  refine h_iald X hw gkm (vp_in_nI (by omega) (by decide)) dX4_poll_142 ?_
                  refine h_tv (b := .int (nI (m1 (q + 1)))) (by rw [nI_clamp (by omega), hgm _ hq]) ?_
                  refine lv_istore (lv' := [(10, .int (nI (m1 (q + 1)))), (9, .int (nI (p_ix (p_st y) (q + 2)))), (4, .long (p_st y)), (0, .ref (ad (20, 0, 0))), (1, .int w), (6, .int (nI j)), (7, .int (nI (cN (s_isC σ j) (s_nS σ)))), (8, .int (nI (q + 1)))]) X.1 X.2.1 dX4_poll_143 hl (by decide) rfl (fun ls hl => ?_)
                  refine lv_aload_n X.1 X.2.1 dX4_poll_145 rfl (lv_at hl 3 rfl) ?_
                  refine gf_X4_48 X hw gx2 rfl dX4_poll_146 ?_
                  refine lv_iload X.1 X.2.1 dX4_poll_149 (lv_at hl 7 rfl) ?_
                  refine lv_aload_n X.1 X.2.1 dX4_poll_151 rfl (lv_at hl 3 rfl) ?_
                  refine gf_X4_48 X hw gx2 rfl dX4_poll_152 ?_
                  refine lv_iload X.1 X.2.1 dX4_poll_155 (lv_at hl 1 rfl) ?_
                  refine h_iald X hw gkm (vp_in_nI (by omega) (by decide)) dX4_poll_157 ?_
                  refine h_tv (b := .int (nI (m1 (p_ix (p_st y) (q + 2))))) (by rw [nI_clamp (by omega), hgm _ (by omega)]) ?_
                  refine h_iast X hw gkm (vp_in_nI (by omega) (by decide)) dX4_poll_158 (fun H locs hw => ?_)
                  obtain ⟨k2, hk2⟩ : ∃ zz, zz = h_cu kk (20, 18, 0) (some (.inl (G.2 0, 10, .inl (upd gm (nI (q + 1)).toNatClampNeg (nI (m1 (p_ix (p_st y) (q + 2)))))))) := ⟨_, rfl⟩
                  replace hw := h_W.ren hw hk2
                  have f2_20_0_0 : k2 (20, 0, 0) = some (.inr (4, [.int 0, .int (nI (s_cop σ)), .int (nI (s_nS σ)), .ref (ad (20, 3, 0)), .ref (ad (20, 4, 0)), .ref (ad (20, 5, 0)), .ref (ad (20, 6, 0)), .int (nI (s_col σ).length), .ref (ad (20, 8, 0)), .int (nI (s_nF σ)), .ref (ad (20, 10, 0)), .ref (ad (20, 11, 0)), .ref (ad (20, 12, 0)), .ref (ad (20, 13, 0)), .int (nI A9.length), .ref (ad (20, 15, 0)), .ref (ad (20, 16, 0)), .ref (ad (20, 17, 0)), .ref (ad (20, 18, 0)), .int (s_dg σ)])) := by rw [hk2, h_cn _ _ (by simp)]; exact gx2
                  have f2_20_18_0 : k2 (20, 18, 0) = some (.inl (G.2 0, 10, .inl (upd gm (nI (q + 1)).toNatClampNeg (nI (m1 (p_ix (p_st y) (q + 2))))))) := by rw [hk2]; exact h_cs _ _ _
                  refine lv_aload_n X.1 X.2.1 dX4_poll_159 rfl (lv_at hl 3 rfl) ?_
                  refine gf_X4_48 X hw f2_20_0_0 rfl dX4_poll_160 ?_
                  refine lv_iload X.1 X.2.1 dX4_poll_163 (lv_at hl 1 rfl) ?_
                  refine lv_iload X.1 X.2.1 dX4_poll_165 (lv_at hl 0 rfl) ?_
                  refine h_iast X hw f2_20_18_0 (vp_in_nI (by omega) (by decide)) dX4_poll_167 (fun H locs hw => ?_)
                  obtain ⟨k3, hk3⟩ : ∃ zz, zz = h_cu k2 (20, 18, 0) (some (.inl (G.2 0, 10, .inl (upd (upd gm (nI (q + 1)).toNatClampNeg (nI (m1 (p_ix (p_st y) (q + 2))))) (nI (p_ix (p_st y) (q + 2))).toNatClampNeg (nI (m1 (q + 1))))))) := ⟨_, rfl⟩
                  replace hw := h_W.ren hw hk3
                  have f3_20_0_0 : k3 (20, 0, 0) = some (.inr (4, [.int 0, .int (nI (s_cop σ)), .int (nI (s_nS σ)), .ref (ad (20, 3, 0)), .ref (ad (20, 4, 0)), .ref (ad (20, 5, 0)), .ref (ad (20, 6, 0)), .int (nI (s_col σ).length), .ref (ad (20, 8, 0)), .int (nI (s_nF σ)), .ref (ad (20, 10, 0)), .ref (ad (20, 11, 0)), .ref (ad (20, 12, 0)), .ref (ad (20, 13, 0)), .int (nI A9.length), .ref (ad (20, 15, 0)), .ref (ad (20, 16, 0)), .ref (ad (20, 17, 0)), .ref (ad (20, 18, 0)), .int (s_dg σ)])) := by rw [hk3, h_cn _ _ (by simp)]; exact f2_20_0_0
                  have f3_20_18_0 : k3 (20, 18, 0) = some (.inl (G.2 0, 10, .inl (upd (upd gm (nI (q + 1)).toNatClampNeg (nI (m1 (p_ix (p_st y) (q + 2))))) (nI (p_ix (p_st y) (q + 2))).toNatClampNeg (nI (m1 (q + 1)))))) := by rw [hk3]; exact h_cs _ _ _
                  refine lv_iinc (v := nI q) (lv' := [(8, .int (nI q)), (10, .int (nI (m1 (q + 1)))), (9, .int (nI (p_ix (p_st y) (q + 2)))), (4, .long (p_st y)), (0, .ref (ad (20, 0, 0))), (1, .int w), (6, .int (nI j)), (7, .int (nI (cN (s_isC σ j) (s_nS σ))))]) X.1 X.2.1 dX4_poll_168 hl (k := 7) rfl (pk_m1 q) (by decide) rfl (fun ls hl => ?_)
                  refine lv_goto (tgt := 105) X.1 X.2.1 dX4_poll_171 (by decide) ?_
                  exact ihB (swp m1 (q + 1) (p_ix (p_st y) (q + 2))) (p_st y) k3 _ _ _ (by omega) hmx1 (hMk.mx f3_20_18_0 (fun t ht => by rw [hk3, h_cn _ _ ht, hk2, h_cn _ _ ht])) f3_20_18_0 (fun c hc => by
                    rw [nI_clamp (by omega), nI_clamp (by omega)]
                    unfold swp
                    by_cases hcj : c = p_ix (p_st y) (q + 2)
                    · rw [hcj, pk_us, if_pos rfl]
                    · rw [pk_un hcj, if_neg hcj]
                      by_cases hck : c = q + 1
                      · rw [hck, pk_us, if_pos rfl]
                      · rw [pk_un hck, if_neg hck]; exact hgm c hc) (fun t ht => by rw [hk3, h_cn _ _ (t_ne20 ht), hk2, h_cn _ _ (t_ne20 ht), h20 t ht]) hw ls (lv_sub hl [4, 5, 3, 6, 7, 0] rfl)
            have loopA : ∀ (n i : Nat), i ≤ s_nS σ → s_nS σ + 1 ≤ i + n → ∀ (kk : h_C) (gm : Nat → Int32) (H : Heap) (locs : List Loc), kk (20, 18, 0) = some (.inl (G.2 0, 10, .inl gm)) → (∀ c, c < cN (s_isC σ j) i → gm c = nI ((s_clN σ j i).getD c 0)) → (∀ t : h_T, t ≠ (20, 18, 0) → kk t = ko t) → h_W G.1 h_cl (h_A ad k s.heap.size) s.heap ad kk H locs → ∀ (ls : Array Slot), lv_has ls 11 [(0, .ref (ad (20, 0, 0))), (1, .int w), (4, .long y9), (6, .int (nI j)), (7, .int (nI (cN (s_isC σ j) i))), (8, .int (nI i))] → W p l e (h_rm 4 87 0 0) s m args below meth c H locs 0 0 (MQ below (h_Qw G ad k s.heap.size (MPost G ad k (some (.int (nI (sp_pollN σ w x (s_nF σ)).1.length))) (s_setAs σ (sp_pollN σ w x (s_nF σ)).1) 0)) args s 0 0 (h_A ad k s.heap.size)) (F0 m 58 ls []) := by
              intro n
              induction n with
              | zero =>
                intro i h1 h2
                exact absurd h2 (by omega)
              | succ n ihA =>
                intro i hii hni kk gm H locs gkm hgc ho hw ls hl
                have hMk : RM G ad kk (s_setAs σ A9) 0 := hMo.mx gkm ho
                have gx2 : kk (20, 0, 0) = some (.inr (4, [.int 0, .int (nI (s_cop σ)), .int (nI (s_nS σ)), .ref (ad (20, 3, 0)), .ref (ad (20, 4, 0)), .ref (ad (20, 5, 0)), .ref (ad (20, 6, 0)), .int (nI (s_col σ).length), .ref (ad (20, 8, 0)), .int (nI (s_nF σ)), .ref (ad (20, 10, 0)), .ref (ad (20, 11, 0)), .ref (ad (20, 12, 0)), .ref (ad (20, 13, 0)), .int (nI A9.length), .ref (ad (20, 15, 0)), .ref (ad (20, 16, 0)), .ref (ad (20, 17, 0)), .ref (ad (20, 18, 0)), .int (s_dg σ)])) := hMk.1
                have hci := cN_le (s_isC σ j) i
                refine lv_iload X.1 X.2.1 dX4_poll_58 (lv_at hl 5 rfl) ?_
                refine lv_aload_n X.1 X.2.1 dX4_poll_60 rfl (lv_at hl 0 rfl) ?_
                refine gf_X4_58 X hw gx2 rfl dX4_poll_61 ?_
                refine lv_icmp_ge (tgt := 99) X.1 X.2.1 dX4_poll_64 (by decide) (fun c64 => ?_) (fun c64 => ?_)
                · obtain rfl : i = s_nS σ := Nat.le_antisymm hii (Nat.le_of_not_lt (fun q => absurd c64 (nI_ge (b := s_nS σ) q (by omega))))
                  refine lv_iload X.1 X.2.1 dX4_poll_99 (lv_at hl 4 rfl) ?_
                  rcases (show (cN (s_isC σ j) (s_nS σ)) = 0 ∨ ∃ n1, (cN (s_isC σ j) (s_nS σ)) = n1 + 1 from by rcases Nat.eq_zero_or_pos (cN (s_isC σ j) (s_nS σ)) with z | z; exact Or.inl z; exact Or.inr ⟨(cN (s_isC σ j) (s_nS σ)) - 1, by omega⟩) with hn0 | ⟨n1, hn1⟩
                  · refine lv_iconst (v := 1) X.1 X.2.1 dX4_poll_101 (by decide) ?_
                    refine lv_isub X.1 X.2.1 dX4_poll_102 ?_
                    refine h_ti (b := (-1)) (by rw [hn0]; decide) ?_
                    refine lv_istore (lv' := [(8, .int (-1)), (0, .ref (ad (20, 0, 0))), (1, .int w), (4, .long y9), (6, .int (nI j)), (7, .int (nI (cN (s_isC σ j) (s_nS σ))))]) X.1 X.2.1 dX4_poll_103 hl (by decide) rfl (fun ls hl => ?_)
                    refine lv_iload X.1 X.2.1 dX4_poll_105 (lv_at hl 0 rfl) ?_
                    refine lv_if_le (tgt := 174) X.1 X.2.1 dX4_poll_107 (by decide) (fun c107 => ?_) (fun c107 => ?_)
                    · refine lv_iconst (v := 0) X.1 X.2.1 dX4_poll_174 (by decide) ?_
                      refine lv_istore (lv' := [(8, .int 0), (0, .ref (ad (20, 0, 0))), (1, .int w), (4, .long y9), (6, .int (nI j)), (7, .int (nI (cN (s_isC σ j) (s_nS σ))))]) X.1 X.2.1 dX4_poll_175 hl (by decide) rfl (fun ls hl => ?_)
                      have e0 : p_mf σ j y9 = ((fun c => (s_clN σ j (s_nS σ)).getD c 0), y9) := by unfold p_mf; rw [hn0]; rfl
                      exact loopC (p_n3 σ j + 1) 0 (by omega) (by omega) kk gm _ _ (by show RM G ad kk (s_setAs σ (A9 ++ [])) 0; rw [List.append_nil]; exact hMk) gkm (fun c hc => absurd hc (by omega)) (fun t ht => by rw [ho t (t_ne20 ht), h20 t ht]) hw ls (by
                        rw [e0]
                        exact lv_sub hl [1, 2, 3, 4, 5, 0] rfl)
                    · exact absurd (by decide) c107
                  · refine lv_iconst (v := 1) X.1 X.2.1 dX4_poll_101 (by decide) ?_
                    refine lv_isub X.1 X.2.1 dX4_poll_102 ?_
                    refine h_ti (b := nI n1) (by rw [hn1]; exact nI_pred n1) ?_
                    refine lv_istore (lv' := [(8, .int (nI n1)), (0, .ref (ad (20, 0, 0))), (1, .int w), (4, .long y9), (6, .int (nI j)), (7, .int (nI (cN (s_isC σ j) (s_nS σ))))]) X.1 X.2.1 dX4_poll_103 hl (by decide) rfl (fun ls hl => ?_)
                    exact loopB n1 (fun c => (s_clN σ j (s_nS σ)).getD c 0) y9 kk gm _ _ (by omega) (by show p_mix n1 _ y9 = p_mix ((cN (s_isC σ j) (s_nS σ)) - 1) _ y9; rw [hn1, Nat.add_sub_cancel]) hMk gkm hgc (fun t ht => by rw [ho t (t_ne20 ht), h20 t ht]) hw ls (lv_sub hl [1, 2, 3, 4, 5, 0] rfl)
                · have hib : i < s_nS σ := Nat.lt_of_not_le (fun q => c64 (nI_le q (by omega)))
                  rcases hc : s_cnt σ i j with _ | b
                  · refine lv_aload_n X.1 X.2.1 dX4_poll_67 rfl (lv_at hl 0 rfl) ?_
                    refine lv_iload X.1 X.2.1 dX4_poll_68 (lv_at hl 5 rfl) ?_
                    refine lv_iload X.1 X.2.1 dX4_poll_70 (lv_at hl 3 rfl) ?_
                    refine h_callRV (t := (20, 0, 0)) (As := [.int (nI i), .int (nI j)]) (rest := []) X hw cs_X4_89 (c_X4_counts l G hMk hib hjb) gx2 rfl rfl hl.1 rfl (Nat.le_of_ble_eq_true rfl) ⟨by decide, by decide⟩ ⟨Nat.zero_le _, Nat.zero_le _⟩ dX4_poll_72 ?_
                    refine h_tv (b := .int 0) (by show Value.int (bI (s_isC σ j i)) = _; rw [isC_n hc]; rfl) ?_
                    refine lv_if_ne (tgt := 81) X.1 X.2.1 dX4_poll_75 (by decide) (fun c75 => ?_) (fun c75 => ?_)
                    · exact absurd (by decide) c75
                    · refine lv_goto (tgt := 93) X.1 X.2.1 dX4_poll_78 (by decide) ?_
                      refine lv_iinc (v := nI (i + 1)) (lv' := [(8, .int (nI (i + 1))), (0, .ref (ad (20, 0, 0))), (1, .int w), (4, .long y9), (6, .int (nI j)), (7, .int (nI (cN (s_isC σ j) i)))]) X.1 X.2.1 dX4_poll_93 hl (k := 5) rfl (nI_1 _) (by decide) rfl (fun ls hl => ?_)
                      refine lv_goto (tgt := 58) X.1 X.2.1 dX4_poll_96 (by decide) ?_
                      have hb0 := isC_n hc
                      exact ihA (i + 1) (by omega) (by omega) kk gm _ _ gkm (by rw [cN_f hb0, clN_f hb0]; exact hgc) ho hw ls (by
                        rw [cN_f hb0]
                        exact lv_sub hl [1, 2, 3, 4, 5, 0] rfl)
                  · refine lv_aload_n X.1 X.2.1 dX4_poll_67 rfl (lv_at hl 0 rfl) ?_
                    refine lv_iload X.1 X.2.1 dX4_poll_68 (lv_at hl 5 rfl) ?_
                    refine lv_iload X.1 X.2.1 dX4_poll_70 (lv_at hl 3 rfl) ?_
                    refine h_callRV (t := (20, 0, 0)) (As := [.int (nI i), .int (nI j)]) (rest := []) X hw cs_X4_89 (c_X4_counts l G hMk hib hjb) gx2 rfl rfl hl.1 rfl (Nat.le_of_ble_eq_true rfl) ⟨by decide, by decide⟩ ⟨Nat.zero_le _, Nat.zero_le _⟩ dX4_poll_72 ?_
                    refine h_tv (b := .int 1) (by show Value.int (bI (s_isC σ j i)) = _; rw [isC_s hc]; rfl) ?_
                    refine lv_if_ne (tgt := 81) X.1 X.2.1 dX4_poll_75 (by decide) (fun c75 => ?_) (fun c75 => ?_)
                    · refine lv_aload_n X.1 X.2.1 dX4_poll_81 rfl (lv_at hl 0 rfl) ?_
                      refine gf_X4_48 X hw gx2 rfl dX4_poll_82 ?_
                      refine lv_iload X.1 X.2.1 dX4_poll_85 (lv_at hl 4 rfl) ?_
                      refine lv_iload X.1 X.2.1 dX4_poll_87 (lv_at hl 5 rfl) ?_
                      refine h_iast X hw gkm (vp_in_nI (by omega) (by decide)) dX4_poll_89 (fun H locs hw => ?_)
                      obtain ⟨k2, hk2⟩ : ∃ zz, zz = h_cu kk (20, 18, 0) (some (.inl (G.2 0, 10, .inl (upd gm (nI (cN (s_isC σ j) i)).toNatClampNeg (nI i))))) := ⟨_, rfl⟩
                      replace hw := h_W.ren hw hk2
                      have f2_20_0_0 : k2 (20, 0, 0) = some (.inr (4, [.int 0, .int (nI (s_cop σ)), .int (nI (s_nS σ)), .ref (ad (20, 3, 0)), .ref (ad (20, 4, 0)), .ref (ad (20, 5, 0)), .ref (ad (20, 6, 0)), .int (nI (s_col σ).length), .ref (ad (20, 8, 0)), .int (nI (s_nF σ)), .ref (ad (20, 10, 0)), .ref (ad (20, 11, 0)), .ref (ad (20, 12, 0)), .ref (ad (20, 13, 0)), .int (nI A9.length), .ref (ad (20, 15, 0)), .ref (ad (20, 16, 0)), .ref (ad (20, 17, 0)), .ref (ad (20, 18, 0)), .int (s_dg σ)])) := by rw [hk2, h_cn _ _ (by simp)]; exact gx2
                      have f2_20_18_0 : k2 (20, 18, 0) = some (.inl (G.2 0, 10, .inl (upd gm (nI (cN (s_isC σ j) i)).toNatClampNeg (nI i)))) := by rw [hk2]; exact h_cs _ _ _
                      refine lv_iinc (v := nI ((cN (s_isC σ j) i) + 1)) (lv' := [(7, .int (nI ((cN (s_isC σ j) i) + 1))), (0, .ref (ad (20, 0, 0))), (1, .int w), (4, .long y9), (6, .int (nI j)), (8, .int (nI i))]) X.1 X.2.1 dX4_poll_90 hl (k := 4) rfl (nI_1 _) (by decide) rfl (fun ls hl => ?_)
                      refine lv_iinc (v := nI (i + 1)) (lv' := [(8, .int (nI (i + 1))), (7, .int (nI ((cN (s_isC σ j) i) + 1))), (0, .ref (ad (20, 0, 0))), (1, .int w), (4, .long y9), (6, .int (nI j))]) X.1 X.2.1 dX4_poll_93 hl (k := 5) rfl (nI_1 _) (by decide) rfl (fun ls hl => ?_)
                      refine lv_goto (tgt := 58) X.1 X.2.1 dX4_poll_96 (by decide) ?_
                      have hb1 := isC_s hc
                      exact ihA (i + 1) (by omega) (by omega) k2 _ _ _ f2_20_18_0 (fun c hc2 => by
                        rw [cN_t hb1] at hc2
                        rw [clN_t hb1, nI_clamp (by omega), List.getD_eq_getElem?_getD]
                        by_cases hcn : c = cN (s_isC σ j) i
                        · rw [hcn, pk_us, List.getElem?_append_right (by rw [clN_len]; exact Nat.le_refl _), clN_len]
                          simp
                        · rw [pk_un hcn, List.getElem?_append_left (by rw [clN_len]; omega), ← List.getD_eq_getElem?_getD]
                          exact hgc c (by omega)) (fun t ht => by rw [hk2, h_cn _ _ ht, ho t ht]) hw ls (by
                        rw [cN_t hb1]
                        exact lv_sub hl [2, 3, 4, 5, 1, 0] rfl)
                    · exact absurd c75 (by decide)
            exact loopA (s_nS σ + 1) 0 (by omega) (by omega) ko gM2 _ _ eM2 (fun c hc => absurd hc (Nat.not_lt_zero c)) (fun _ _ => rfl) hw ls (lv_sub hl [2, 3, 4, 5, 1, 0] rfl)
          · exact absurd hpk c46
        · refine lv_aload_n X.1 X.2.1 dX4_poll_38 rfl (lv_at hl 0 rfl) ?_
          refine gf_X4_27 X hw gx rfl dX4_poll_39 ?_
          refine lv_iload X.1 X.2.1 dX4_poll_42 (lv_at hl 3 rfl) ?_
          refine h_iald X hw eK2 (vp_in_nI (by omega) (by decide)) dX4_poll_44 ?_
          refine h_tv (b := .int (s_pk σ j)) (by rw [nI_clamp (by omega), vK2 j hjb]; rfl) ?_
          refine lv_iload_n X.1 X.2.1 dX4_poll_45 rfl (lv_at hl 1 rfl) ?_
          refine lv_icmp_eq (tgt := 52) X.1 X.2.1 dX4_poll_46 (by decide) (fun c46 => ?_) (fun c46 => ?_)
          · exact absurd c46 hpk
          · refine lv_goto (tgt := 255) X.1 X.2.1 dX4_poll_49 (by decide) ?_
            refine lv_iinc (v := nI (j + 1)) (lv' := [(6, .int (nI (j + 1))), (0, .ref (ad (20, 0, 0))), (1, .int w), (4, .long y9)]) X.1 X.2.1 dX4_poll_255 hl (k := 3) rfl (nI_1 _) (by decide) rfl (fun ls hl => ?_)
            refine lv_goto (tgt := 29) X.1 X.2.1 dX4_poll_258 (by decide) ?_
            have es := eN9 hpk
            exact ih (j + 1) (by omega) (by omega) ko _ _ (by rw [es, ← hA]; exact hMo) h20 hw ls (by
              rw [es, ← hy]
              exact lv_sub hl [1, 2, 3, 0] rfl)
  refine lv_iload_n X.1 X.2.1 dX4_poll_5 rfl (lv_at hl 1 rfl) ?_
  refine lv_iconst (v := 0) X.1 X.2.1 dX4_poll_6 (by decide) ?_
  refine lv_bipush (v := 9) X.1 X.2.1 dX4_poll_7 (by decide) ?_
  refine h_callRS (As := [.int w, .int 0, .int 9]) (rest := []) X hw cs_X4_61 (c_X4_in l G w 0 9) rfl hl.1 rfl (Nat.le_of_ble_eq_true rfl) ⟨by decide, by decide⟩ ⟨Nat.zero_le _, Nat.zero_le _⟩ dX4_poll_9 ?_
  refine h_tv (b := .int 1) (by rw [show (9 : Int32) = nI 10 - 1 from by decide, in_ix (by decide), hp]; rfl) ?_
  refine lv_if_ne (tgt := 18) X.1 X.2.1 dX4_poll_12 (by decide) (fun c12 => ?_) (fun c12 => ?_)
  · refine lv_aload_n X.1 X.2.1 dX4_poll_18 rfl (lv_at hl 0 rfl) ?_
    refine lv_iconst (v := 0) X.1 X.2.1 dX4_poll_19 (by decide) ?_
    refine pf_X4_96 X hw hx rfl rfl (Nat.le_of_ble_eq_true rfl) dX4_poll_20 (fun H locs hw => ?_)
    obtain ⟨k2, hk2⟩ : ∃ zz, zz = h_cu k1 (20, 0, 0) (some (.inr (4, [.int 0, .int (nI (s_cop σ)), .int (nI (s_nS σ)), .ref (ad (20, 3, 0)), .ref (ad (20, 4, 0)), .ref (ad (20, 5, 0)), .ref (ad (20, 6, 0)), .int (nI (s_col σ).length), .ref (ad (20, 8, 0)), .int (nI (s_nF σ)), .ref (ad (20, 10, 0)), .ref (ad (20, 11, 0)), .ref (ad (20, 12, 0)), .ref (ad (20, 13, 0)), .int 0, .ref (ad (20, 15, 0)), .ref (ad (20, 16, 0)), .ref (ad (20, 17, 0)), .ref (ad (20, 18, 0)), .int (s_dg σ)]))) := ⟨_, rfl⟩
    replace hw := h_W.ren hw hk2
    have f2_20_0_0 : k2 (20, 0, 0) = some (.inr (4, [.int 0, .int (nI (s_cop σ)), .int (nI (s_nS σ)), .ref (ad (20, 3, 0)), .ref (ad (20, 4, 0)), .ref (ad (20, 5, 0)), .ref (ad (20, 6, 0)), .int (nI (s_col σ).length), .ref (ad (20, 8, 0)), .int (nI (s_nF σ)), .ref (ad (20, 10, 0)), .ref (ad (20, 11, 0)), .ref (ad (20, 12, 0)), .ref (ad (20, 13, 0)), .int 0, .ref (ad (20, 15, 0)), .ref (ad (20, 16, 0)), .ref (ad (20, 17, 0)), .ref (ad (20, 18, 0)), .int (s_dg σ)])) := by rw [hk2]; exact h_cs _ _ _
    refine lv_lload_n X.1 X.2.1 dX4_poll_23 rfl (lv_at hl 2 rfl) ?_
    refine lv_lstore (lv' := [(4, .long x), (0, .ref (ad (20, 0, 0))), (1, .int w), (2, .long x)]) X.1 X.2.1 dX4_poll_24 hl (by decide) rfl (fun ls hl => ?_)
    refine lv_iconst (v := 0) X.1 X.2.1 dX4_poll_26 (by decide) ?_
    refine lv_istore (lv' := [(6, .int 0), (4, .long x), (0, .ref (ad (20, 0, 0))), (1, .int w), (2, .long x)]) X.1 X.2.1 dX4_poll_27 hl (by decide) rfl (fun ls hl => ?_)
    have hO : ∀ t : h_T, t ≠ (20, 0, 0) → k2 t = k1 t := fun t h1 => by rw [hk2, h_cn _ _ h1]
    exact loop (s_nF σ + 1) 0 (by omega) (by omega) k2 _ _ (RM.setAs (as := []) hM1 (by decide) f2_20_0_0 ((hO _ (by simp)).trans e15) ((hO _ (by simp)).trans e16) ((hO _ (by simp)).trans e17) (fun a ha => absurd ha (Nat.not_lt_zero a)) (fun t n0 _ _ _ => hO t n0)) (fun t ht => by rw [hO t (t_ne20 ht), hk1, h_cn _ _ (t_ne20 ht)]) hw ls (lv_sub hl [2, 3, 1, 0] rfl)
  · exact absurd c12 (by decide)
