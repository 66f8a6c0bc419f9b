set_option maxHeartbeats 4000000 in
set_option maxRecDepth 100000 in
/-- mendItem -/
theorem c_X3_mendItem (l : Launch) (G : h_G) {ad : h_T → Nat} {k : h_C} {σ : S_t} (hR : RX G ad k σ) {f : Nat} (hf : f < s_nF σ) : h_Wr l yX3_mendItem cX3_mendItem 7 (some .int) 5 114 0 0 G ad k [.ref (ad (0, 0, 0)), .ref (ad (7, f, 0))] (XPost G ad k (some (.int (s_mendF σ f).1)) (s_mendF σ f).2) := by
  refine h_wr (by decide +kernel) (Nat.le_of_ble_eq_true rfl) ?_
  intro p e s m args below meth c X Y hw ls hl
  have hl : lv_has ls 7 [(0, .ref (ad (0, 0, 0))), (1, .ref (ad (7, f, 0)))] := hl
  have hok := hR.ok
  obtain ⟨hx, hs, hst, hi, hit, hcp, hcol, hmx, hask, -⟩ := id hR
  have hx : k (0, 0, 0) = some (.inr (3, [.int (nI (s_cop σ)), .ref (ad (1, 0, 0)), .int (nI (s_nS σ)), .ref (ad (2, 0, 0)), .int (nI (s_nF σ)), .ref (ad (3, 0, 0)), .ref (ad (4, 0, 0)), .ref (ad (5, 0, 0)), .ref (ad (5, 1, 0)), .ref (ad (5, 2, 0)), .int (nI (s_as σ).length), .int (s_dg σ)])) := hx
  have hnS : s_nS σ ≤ 10 := hok.2.1
  have hnF : s_nF σ ≤ 40 := hok.2.2.1
  rcases hq : s_lead σ f with _ | q
  · have hz : s_mendF σ f = (0, σ) := by unfold s_mendF s_lrow; rw [hq]; rfl
    rw [hz]
    refine lv_aload_n X.1 X.2.1 dX3_mendItem_0 rfl (lv_at hl 0 rfl) ?_
    refine lv_aload_n X.1 X.2.1 dX3_mendItem_1 rfl (lv_at hl 1 rfl) ?_
    refine h_callRV (t := (0, 0, 0)) (As := [.ref (ad (7, f, 0))]) (rest := []) X hw cs_X3_139 (c_X3_majorityRow l G hR hf) hx rfl rfl hl.1 rfl (Nat.le_of_ble_eq_true rfl) ⟨by decide, by decide⟩ ⟨Nat.zero_le _, Nat.zero_le _⟩ dX3_mendItem_2 ?_
    refine h_tv (b := .null) (by rw [hq]; rfl) ?_
    refine lv_astore_nN (lv' := [(2, .null), (0, .ref (ad (0, 0, 0))), (1, .ref (ad (7, f, 0)))]) X.1 X.2.1 dX3_mendItem_5 rfl hl (by decide) rfl (fun ls hl => ?_)
    refine lv_aload_nN X.1 X.2.1 dX3_mendItem_6 rfl (lv_at hl 0 rfl) ?_
    refine lv_ifnonnullN X.1 X.2.1 dX3_mendItem_7 ?_
    refine lv_iconst (v := 0) X.1 X.2.1 dX3_mendItem_10 (by decide) ?_
    exact h_iretW (v := 0) X Y hw ⟨rfl, hR, fun _ _ => ⟨rfl, rfl⟩, rfl⟩ (Nat.zero_le _) (Nat.zero_le _) dX3_mendItem_11
  · obtain ⟨hq1, b, hb⟩ := s_lead_spec hq
    have hbc := (s_cnt_cp hb).1
    have hbl := hok.2.2.2.2.2.2.1 q f b hbc
    have hz : s_mendF σ f = (nI (cN (s_oth σ f (dgL b)) (s_nS σ)), s_setRn (s_mendN σ f b (s_nS σ)) f (s_rn σ f + nI (cN (s_oth σ f (dgL b)) (s_nS σ)))) := by
      unfold s_mendF s_lrow
      rw [hq, Option.bind_some, hb]
    rw [hz]
    have loop : ∀ (n i : Nat), i ≤ s_nS σ → s_nS σ + 1 ≤ i + n → ∀ (kk : h_C) (H : Heap) (locs : List Loc), RX G ad kk (s_mendN σ f b i) → (∀ t : h_T, 20 ≤ t.1 → kk t = k t) → h_W G.1 h_cl (h_A ad k s.heap.size) s.heap ad kk H locs → ∀ (ls : Array Slot), lv_has ls 7 [(0, .ref (ad (0, 0, 0))), (1, .ref (ad (7, f, 0))), (2, .ref (ad (9, q, f))), (3, .int (dgL b)), (4, .int (nI (cN (s_oth σ f (dgL b)) i))), (5, .int (nI i))] → W p l e (h_rm 5 114 0 0) s m args below meth c H locs 0 0 (MQ below (h_Qw G ad k s.heap.size (XPost G ad k (some (.int (nI (cN (s_oth σ f (dgL b)) (s_nS σ)), s_setRn (s_mendN σ f b (s_nS σ)) f (s_rn σ f + nI (cN (s_oth σ f (dgL b)) (s_nS σ)))).1)) (nI (cN (s_oth σ f (dgL b)) (s_nS σ)), s_setRn (s_mendN σ f b (s_nS σ)) f (s_rn σ f + nI (cN (s_oth σ f (dgL b)) (s_nS σ)))).2)) args s 0 0 (h_A ad k s.heap.size)) (F0 m 23 ls []) := by
      intro n
      induction n with
      | zero =>
        intro i h1 h2
        exact absurd h2 (by omega)
      | succ n ih =>
        intro i hii hni kk H locs hRk hok20 hw ls hl
        have gx : kk (0, 0, 0) = some (.inr (3, [.int (nI (s_cop σ)), .ref (ad (1, 0, 0)), .int (nI (s_nS σ)), .ref (ad (2, 0, 0)), .int (nI (s_nF σ)), .ref (ad (3, 0, 0)), .ref (ad (4, 0, 0)), .ref (ad (5, 0, 0)), .ref (ad (5, 1, 0)), .ref (ad (5, 2, 0)), .int (nI (s_as σ).length), .int (s_dg σ)])) := hRk.1
        obtain ⟨-, -, -, -, git, gcp, -, -, -, gok⟩ := id hRk
        have gi : kk (7, f, 0) = some (.inr (0, [.int (s_pk σ f), .ref (ad (8, f, 0)), .int (s_rn σ f)])) := (git f hf).1
        have hqr := gcp q f b (mendN_lead hb i)
        refine lv_iload X.1 X.2.1 dX3_mendItem_23 (lv_at hl 5 rfl) ?_
        refine lv_aload_n X.1 X.2.1 dX3_mendItem_25 rfl (lv_at hl 0 rfl) ?_
        refine gf_X3_15 X hw gx rfl dX3_mendItem_26 ?_
        refine lv_icmp_ge (tgt := 70) X.1 X.2.1 dX3_mendItem_29 (by decide) (fun c29 => ?_) (fun c29 => ?_)
        · obtain rfl : i = s_nS σ := Nat.le_antisymm hii (Nat.le_of_not_lt (fun q => absurd c29 (nI_ge (b := s_nS σ) q (by omega))))
          refine lv_aload_n X.1 X.2.1 dX3_mendItem_70 rfl (lv_at hl 1 rfl) ?_
          refine lv_dup X.1 X.2.1 dX3_mendItem_71 rfl ?_
          refine gf_X3_188 X hw gi rfl dX3_mendItem_72 ?_
          refine lv_iload X.1 X.2.1 dX3_mendItem_75 (lv_at hl 4 rfl) ?_
          refine lv_iadd X.1 X.2.1 dX3_mendItem_77 ?_
          refine pf_X3_188 X hw gi rfl rfl (Nat.le_of_ble_eq_true rfl) dX3_mendItem_78 (fun H locs hw => ?_)
          obtain ⟨k1, hk1⟩ : ∃ zz, zz = h_cu kk (7, f, 0) (some (.inr (0, [.int (s_pk σ f), .ref (ad (8, f, 0)), .int (s_rn σ f + nI (cN (s_oth σ f (dgL b)) (s_nS σ)))]))) := ⟨_, rfl⟩
          replace hw := h_W.ren hw hk1
          have f1_0_0_0 : k1 (0, 0, 0) = some (.inr (3, [.int (nI (s_cop σ)), .ref (ad (1, 0, 0)), .int (nI (s_nS σ)), .ref (ad (2, 0, 0)), .int (nI (s_nF σ)), .ref (ad (3, 0, 0)), .ref (ad (4, 0, 0)), .ref (ad (5, 0, 0)), .ref (ad (5, 1, 0)), .ref (ad (5, 2, 0)), .int (nI (s_as σ).length), .int (s_dg σ)])) := by rw [hk1, h_cn _ _ (by simp)]; exact gx
          have f1_7_f_0 : k1 (7, f, 0) = some (.inr (0, [.int (s_pk σ f), .ref (ad (8, f, 0)), .int (s_rn σ f + nI (cN (s_oth σ f (dgL b)) (s_nS σ)))])) := by rw [hk1]; exact h_cs _ _ _
          refine lv_iload X.1 X.2.1 dX3_mendItem_81 (lv_at hl 4 rfl) ?_
          exact h_iretW (v := nI (cN (s_oth σ f (dgL b)) (s_nS σ))) X Y hw ⟨rfl, hRk.setRn (k' := k1) hf (v := s_rn σ f + nI (cN (s_oth σ f (dgL b)) (s_nS σ))) f1_7_f_0 (fun t ht => by rw [hk1, h_cn _ _ ht]), fun t ht => ⟨by rw [hk1, h_cn _ _ (t20 ht (Nat.le_of_ble_eq_true rfl)), hok20 t ht], rfl⟩, rfl⟩ (Nat.zero_le _) (Nat.zero_le _) dX3_mendItem_83
        · have hib : i < s_nS σ := Nat.lt_of_not_le (fun q => c29 (nI_le q (by omega)))
          rcases hc : s_cnt σ i f with _ | c
          · refine lv_aload_n X.1 X.2.1 dX3_mendItem_32 rfl (lv_at hl 0 rfl) ?_
            refine lv_aload_n X.1 X.2.1 dX3_mendItem_33 rfl (lv_at hl 1 rfl) ?_
            refine lv_iload X.1 X.2.1 dX3_mendItem_34 (lv_at hl 5 rfl) ?_
            refine h_callRV (t := (0, 0, 0)) (As := [.ref (ad (7, f, 0)), .int (nI i)]) (rest := []) X hw cs_X3_202 (c_X3_countingRow l G hRk hf hib) gx rfl rfl hl.1 rfl (Nat.le_of_ble_eq_true rfl) ⟨by decide, by decide⟩ ⟨Nat.zero_le _, Nat.zero_le _⟩ dX3_mendItem_36 ?_
            refine h_tv (b := .null) (by rw [mendN_cnt, hc]; rfl) ?_
            refine lv_astoreN (lv' := [(6, .null), (0, .ref (ad (0, 0, 0))), (1, .ref (ad (7, f, 0))), (2, .ref (ad (9, q, f))), (3, .int (dgL b)), (4, .int (nI (cN (s_oth σ f (dgL b)) i))), (5, .int (nI i))]) X.1 X.2.1 dX3_mendItem_39 hl (by decide) rfl (fun ls hl => ?_)
            refine lv_aloadN X.1 X.2.1 dX3_mendItem_41 (lv_at hl 0 rfl) ?_
            refine lv_ifnullN (tgt := 64) X.1 X.2.1 dX3_mendItem_43 (by decide) ?_
            refine lv_iinc (v := nI (i + 1)) (lv' := [(5, .int (nI (i + 1))), (6, .null), (0, .ref (ad (0, 0, 0))), (1, .ref (ad (7, f, 0))), (2, .ref (ad (9, q, f))), (3, .int (dgL b)), (4, .int (nI (cN (s_oth σ f (dgL b)) i)))]) X.1 X.2.1 dX3_mendItem_64 hl (k := 6) rfl (nI_1 _) (by decide) rfl (fun ls hl => ?_)
            refine lv_goto (tgt := 23) X.1 X.2.1 dX3_mendItem_67 (by decide) ?_
            have hoth : s_oth σ f (dgL b) i = false := by unfold s_oth; rw [hc]
            exact ih (i + 1) (by omega) (by omega) kk _ _ (by rw [mendN_f hoth]; exact hRk) hok20 hw ls (by
              rw [cN_f hoth]
              exact lv_sub hl [2, 3, 4, 5, 6, 0] rfl)
          · refine lv_aload_n X.1 X.2.1 dX3_mendItem_32 rfl (lv_at hl 0 rfl) ?_
            refine lv_aload_n X.1 X.2.1 dX3_mendItem_33 rfl (lv_at hl 1 rfl) ?_
            refine lv_iload X.1 X.2.1 dX3_mendItem_34 (lv_at hl 5 rfl) ?_
            refine h_callRV (t := (0, 0, 0)) (As := [.ref (ad (7, f, 0)), .int (nI i)]) (rest := []) X hw cs_X3_202 (c_X3_countingRow l G hRk hf hib) gx rfl rfl hl.1 rfl (Nat.le_of_ble_eq_true rfl) ⟨by decide, by decide⟩ ⟨Nat.zero_le _, Nat.zero_le _⟩ dX3_mendItem_36 ?_
            refine h_tv (b := .ref (ad (9, i, f))) (by rw [mendN_cnt, hc]; rfl) ?_
            refine lv_astore (lv' := [(6, .ref (ad (9, i, f))), (0, .ref (ad (0, 0, 0))), (1, .ref (ad (7, f, 0))), (2, .ref (ad (9, q, f))), (3, .int (dgL b)), (4, .int (nI (cN (s_oth σ f (dgL b)) i))), (5, .int (nI i))]) X.1 X.2.1 dX3_mendItem_39 hl (by decide) rfl (fun ls hl => ?_)
            refine lv_aload X.1 X.2.1 dX3_mendItem_41 (lv_at hl 0 rfl) ?_
            refine lv_ifnull X.1 X.2.1 dX3_mendItem_43 ?_
            refine lv_aload X.1 X.2.1 dX3_mendItem_46 (lv_at hl 0 rfl) ?_
            refine h_callRV (t := (9, i, f)) (As := []) (rest := []) X hw cs_X3_143 (c_X1_sum l G (gcp i f c ((mendN_self σ f b i).trans (s_cnt_cp hc).1)) (gok.2.2.2.2.2.2.1 i f c ((mendN_self σ f b i).trans (s_cnt_cp hc).1))) (gcp i f c ((mendN_self σ f b i).trans (s_cnt_cp hc).1)).1 rfl rfl hl.1 rfl (Nat.le_of_ble_eq_true rfl) ⟨by decide, by decide⟩ ⟨Nat.zero_le _, Nat.zero_le _⟩ dX3_mendItem_48 ?_
            refine lv_iload_n X.1 X.2.1 dX3_mendItem_51 rfl (lv_at hl 4 rfl) ?_
            refine lv_icmp_eq (tgt := 64) X.1 X.2.1 dX3_mendItem_52 (by decide) (fun c52 => ?_) (fun c52 => ?_)
            · refine lv_iinc (v := nI (i + 1)) (lv' := [(5, .int (nI (i + 1))), (6, .ref (ad (9, i, f))), (0, .ref (ad (0, 0, 0))), (1, .ref (ad (7, f, 0))), (2, .ref (ad (9, q, f))), (3, .int (dgL b)), (4, .int (nI (cN (s_oth σ f (dgL b)) i)))]) X.1 X.2.1 dX3_mendItem_64 hl (k := 6) rfl (nI_1 _) (by decide) rfl (fun ls hl => ?_)
              refine lv_goto (tgt := 23) X.1 X.2.1 dX3_mendItem_67 (by decide) ?_
              have hoth : s_oth σ f (dgL b) i = false := by unfold s_oth; rw [hc]; simpa using c52
              exact ih (i + 1) (by omega) (by omega) kk _ _ (by rw [mendN_f hoth]; exact hRk) hok20 hw ls (by
                rw [cN_f hoth]
                exact lv_sub hl [2, 3, 4, 5, 6, 0] rfl)
            · have hci : s_cp (s_mendN σ f b i) i f = some c := by rw [mendN_self]; exact (s_cnt_cp hc).1
              have hoth : s_oth σ f (dgL b) i = true := by unfold s_oth; rw [hc]; simpa using c52
              have hqi : q ≠ i := fun e => by subst e; rw [hb] at hc; cases hc; exact c52 rfl
              refine lv_aload X.1 X.2.1 dX3_mendItem_55 (lv_at hl 0 rfl) ?_
              refine lv_aload_n X.1 X.2.1 dX3_mendItem_57 rfl (lv_at hl 3 rfl) ?_
              refine h_callWV (t := (9, i, f)) (As := [.ref (ad (9, q, f))]) (rest := []) X hw cs_X3_214 (c_X1_become l G (gcp i f c hci) hqr hbl (by simp) (by simp [hqi]) (by simp [hqi]) (by simp)) (gcp i f c hci).1 rfl rfl hl.1 rfl (Nat.le_of_ble_eq_true rfl) ⟨by decide, by decide⟩ ⟨(Nat.le_of_ble_eq_true rfl), (Nat.le_of_ble_eq_true rfl)⟩ dX3_mendItem_58 (fun r9 ad1 k1 H locs hp9 hw => ?_)
              obtain ⟨rfl, ea1, hr1, ho1⟩ := hp9
              refine W.eq (g2 := F0 m 61 ls []) rfl ?_
              replace hw := hw.renA ea1.symm
              have f1_0_0_0 : k1 (0, 0, 0) = some (.inr (3, [.int (nI (s_cop σ)), .ref (ad (1, 0, 0)), .int (nI (s_nS σ)), .ref (ad (2, 0, 0)), .int (nI (s_nF σ)), .ref (ad (3, 0, 0)), .ref (ad (4, 0, 0)), .ref (ad (5, 0, 0)), .ref (ad (5, 1, 0)), .ref (ad (5, 2, 0)), .int (nI (s_as σ).length), .int (s_dg σ)])) := by rw [ho1 (0, 0, 0) (by simp) (by simp), gx]
              have f1_7_f_0 : k1 (7, f, 0) = some (.inr (0, [.int (s_pk σ f), .ref (ad (8, f, 0)), .int (s_rn σ f)])) := by rw [ho1 (7, f, 0) (by simp) (by simp), gi]
              refine lv_iinc (v := nI ((cN (s_oth σ f (dgL b)) i) + 1)) (lv' := [(4, .int (nI ((cN (s_oth σ f (dgL b)) i) + 1))), (6, .ref (ad (9, i, f))), (0, .ref (ad (0, 0, 0))), (1, .ref (ad (7, f, 0))), (2, .ref (ad (9, q, f))), (3, .int (dgL b)), (5, .int (nI i))]) X.1 X.2.1 dX3_mendItem_61 hl (k := 5) rfl (nI_1 _) (by decide) rfl (fun ls hl => ?_)
              refine lv_iinc (v := nI (i + 1)) (lv' := [(5, .int (nI (i + 1))), (4, .int (nI ((cN (s_oth σ f (dgL b)) i) + 1))), (6, .ref (ad (9, i, f))), (0, .ref (ad (0, 0, 0))), (1, .ref (ad (7, f, 0))), (2, .ref (ad (9, q, f))), (3, .int (dgL b))]) X.1 X.2.1 dX3_mendItem_64 hl (k := 6) rfl (nI_1 _) (by decide) rfl (fun ls hl => ?_)
              refine lv_goto (tgt := 23) X.1 X.2.1 dX3_mendItem_67 (by decide) ?_
              exact ih (i + 1) (by omega) (by omega) k1 _ _ (by rw [mendN_t hoth]; exact hRk.setRow hci hbl hr1 (fun t h1 h2 => ho1 t h1 h2)) (fun t ht => by rw [ho1 t (t20 ht (Nat.le_of_ble_eq_true rfl)) (t20 ht (Nat.le_of_ble_eq_true rfl)), hok20 t ht]) hw ls (by
                rw [cN_t hoth]
                exact lv_sub hl [3, 4, 5, 6, 1, 0] rfl)
    refine lv_aload_n X.1 X.2.1 dX3_mendItem_0 rfl (lv_at hl 0 rfl) ?_
    refine lv_aload_n X.1 X.2.1 dX3_mendItem_1 rfl (lv_at hl 1 rfl) ?_
    refine h_callRV (t := (0, 0, 0)) (As := [.ref (ad (7, f, 0))]) (rest := []) X hw cs_X3_139 (c_X3_majorityRow l G hR hf) hx rfl rfl hl.1 rfl (Nat.le_of_ble_eq_true rfl) ⟨by decide, by decide⟩ ⟨Nat.zero_le _, Nat.zero_le _⟩ dX3_mendItem_2 ?_
    refine h_tv (b := .ref (ad (9, q, f))) (by rw [hq]; rfl) ?_
    refine lv_astore_n (lv' := [(2, .ref (ad (9, q, f))), (0, .ref (ad (0, 0, 0))), (1, .ref (ad (7, f, 0)))]) X.1 X.2.1 dX3_mendItem_5 rfl hl (by decide) rfl (fun ls hl => ?_)
    refine lv_aload_n X.1 X.2.1 dX3_mendItem_6 rfl (lv_at hl 0 rfl) ?_
    refine lv_ifnonnull (tgt := 12) X.1 X.2.1 dX3_mendItem_7 (by decide) ?_
    refine lv_aload_n X.1 X.2.1 dX3_mendItem_12 rfl (lv_at hl 0 rfl) ?_
    refine h_callRV (t := (9, q, f)) (As := []) (rest := []) X hw cs_X3_143 (c_X1_sum l G (hcp q f b hbc) (hok.2.2.2.2.2.2.1 q f b hbc)) (hcp q f b hbc).1 rfl rfl hl.1 rfl (Nat.le_of_ble_eq_true rfl) ⟨by decide, by decide⟩ ⟨Nat.zero_le _, Nat.zero_le _⟩ dX3_mendItem_13 ?_
    refine lv_istore_n (lv' := [(3, .int (dgL b)), (2, .ref (ad (9, q, f))), (0, .ref (ad (0, 0, 0))), (1, .ref (ad (7, f, 0)))]) X.1 X.2.1 dX3_mendItem_16 rfl hl (by decide) rfl (fun ls hl => ?_)
    refine lv_iconst (v := 0) X.1 X.2.1 dX3_mendItem_17 (by decide) ?_
    refine lv_istore (lv' := [(4, .int 0), (3, .int (dgL b)), (2, .ref (ad (9, q, f))), (0, .ref (ad (0, 0, 0))), (1, .ref (ad (7, f, 0)))]) X.1 X.2.1 dX3_mendItem_18 hl (by decide) rfl (fun ls hl => ?_)
    refine lv_iconst (v := 0) X.1 X.2.1 dX3_mendItem_20 (by decide) ?_
    refine lv_istore (lv' := [(5, .int 0), (4, .int 0), (3, .int (dgL b)), (2, .ref (ad (9, q, f))), (0, .ref (ad (0, 0, 0))), (1, .ref (ad (7, f, 0)))]) X.1 X.2.1 dX3_mendItem_21 hl (by decide) rfl (fun ls hl => ?_)
    exact loop (s_nS σ + 1) 0 (by omega) (by omega) k _ _ (by rw [mendN_0]; exact hR) (fun _ _ => rfl) hw ls (lv_sub hl [4, 5, 3, 2, 1, 0] rfl)
set_option maxHeartbeats 4000000 in
set_option maxRecDepth 100000 in
/-- mend -/
theorem c_X3_mend (l : Launch) (G : h_G) {ad : h_T → Nat} {k : h_C} {σ : S_t} (hR : RX G ad k σ) (x : Int32) : h_Wr l yX3_mend cX3_mend 5 (some .int) 6 140 0 0 G ad k [.ref (ad (0, 0, 0)), .int x] (XPost G ad k (some (.int (sp_mend σ x).1)) (sp_mend σ x).2) := by
  refine h_wr (by decide +kernel) (Nat.le_of_ble_eq_true rfl) ?_
  intro p e s m args below meth c X Y hw ls hl
  have hl : lv_has ls 5 [(0, .ref (ad (0, 0, 0))), (1, .int x)] := hl
  have hok := hR.ok
  obtain ⟨hx, hs, hst, hi, hit, hcp, hcol, hmx, hask, -⟩ := id hR
  have hx : k (0, 0, 0) = some (.inr (3, [.int (nI (s_cop σ)), .ref (ad (1, 0, 0)), .int (nI (s_nS σ)), .ref (ad (2, 0, 0)), .int (nI (s_nF σ)), .ref (ad (3, 0, 0)), .ref (ad (4, 0, 0)), .ref (ad (5, 0, 0)), .ref (ad (5, 1, 0)), .ref (ad (5, 2, 0)), .int (nI (s_as σ).length), .int (s_dg σ)])) := hx
  have hnS : s_nS σ ≤ 10 := hok.2.1
  have hnF : s_nF σ ≤ 40 := hok.2.2.1
  unfold sp_mend
  rcases hpk : ix x 10 with _ | j
  · rw [if_pos (show (none : Option Nat).isNone = true from rfl)]
    refine lv_iload_n X.1 X.2.1 dX3_mend_0 rfl (lv_at hl 1 rfl) ?_
    refine h_callRS (As := [.int x]) (rest := []) X hw cs_X3_76 (c_X3_isPackage l G x) rfl hl.1 rfl (Nat.le_of_ble_eq_true rfl) ⟨by decide, by decide⟩ ⟨Nat.zero_le _, Nat.zero_le _⟩ dX3_mend_1 ?_
    refine h_tv (b := .int 0) (by rw [hpk]; rfl) ?_
    refine lv_if_ne (tgt := 10) X.1 X.2.1 dX3_mend_4 (by decide) (fun c4 => ?_) (fun c4 => ?_)
    · exact absurd (by decide) c4
    · refine lv_bipush (v := (-2)) X.1 X.2.1 dX3_mend_7 (by decide) ?_
      exact h_iretW (v := -2) X Y hw ⟨rfl, hR, fun _ _ => ⟨rfl, rfl⟩, rfl⟩ (Nat.zero_le _) (Nat.zero_le _) dX3_mend_9
  · rw [if_neg (show ¬ (some j : Option Nat).isNone = true from fun q => by cases q)]
    have loop : ∀ (n i : Nat), i ≤ s_nF σ → s_nF σ + 1 ≤ i + n → ∀ (aa : h_T → Nat) (kk : h_C) (H : Heap) (locs : List Loc), RX G aa kk (sp_mendN σ x i).2 → (∀ t : h_T, 20 ≤ t.1 → kk t = k t ∧ aa t = ad t) → aa (0, 0, 0) = ad (0, 0, 0) → h_W G.1 h_cl (h_A ad k s.heap.size) s.heap aa kk H locs → ∀ (ls : Array Slot), lv_has ls 5 [(0, .ref (aa (0, 0, 0))), (1, .int x), (2, .int ((sp_mendN σ x i).1)), (3, .int (nI i))] → W p l e (h_rm 6 140 0 0) s m args below meth c H locs 0 0 (MQ below (h_Qw G ad k s.heap.size (XPost G ad k (some (.int (sp_mendN σ x (s_nF σ)).1)) (sp_mendN σ x (s_nF σ)).2)) args s 0 0 (h_A ad k s.heap.size)) (F0 m 14 ls []) := by
      intro n
      induction n with
      | zero =>
        intro i h1 h2
        exact absurd h2 (by omega)
      | succ n ih =>
        intro i hii hni aa kk H locs hRk h20 h00 hw ls hl
        obtain ⟨τ, hτ⟩ : ∃ zz, zz = (sp_mendN σ x i).2 := ⟨_, rfl⟩
        rw [← hτ] at hRk
        obtain ⟨e1, e2, e3⟩ := mendNN σ x i
        rw [← hτ] at e1 e2 e3
        have eF : s_nF τ = s_nF σ := by unfold s_nF; rw [e1]
        have gx : kk (0, 0, 0) = some (.inr (3, [.int (nI (s_cop τ)), .ref (aa (1, 0, 0)), .int (nI (s_nS τ)), .ref (aa (2, 0, 0)), .int (nI (s_nF τ)), .ref (aa (3, 0, 0)), .ref (aa (4, 0, 0)), .ref (aa (5, 0, 0)), .ref (aa (5, 1, 0)), .ref (aa (5, 2, 0)), .int (nI (s_as τ).length), .int (s_dg τ)])) := hRk.1
        obtain ⟨-, -, -, gi0, git, -, -, -, -, gok⟩ := id hRk
        refine lv_iload_n X.1 X.2.1 dX3_mend_14 rfl (lv_at hl 3 rfl) ?_
        refine lv_aload_n X.1 X.2.1 dX3_mend_15 rfl (lv_at hl 0 rfl) ?_
        refine gf_X3_25 X hw gx rfl dX3_mend_16 ?_
        refine lv_icmp_ge (tgt := 59) X.1 X.2.1 dX3_mend_19 (by decide) (fun c19 => ?_) (fun c19 => ?_)
        · refine lv_iload_n X.1 X.2.1 dX3_mend_59 rfl (lv_at hl 2 rfl) ?_
          have hiE : s_nF σ = i := Nat.le_antisymm (by rw [← eF]; exact Nat.le_of_not_lt (fun q => absurd c19 (nI_ge q (by omega)))) hii
          rw [hiE]
          exact h_iretW X Y hw ⟨rfl, by rw [← hτ]; exact hRk, h20, h00⟩ (Nat.zero_le _) (Nat.zero_le _) dX3_mend_60
        · have hib : i < s_nF τ := Nat.lt_of_not_le (fun q => c19 (nI_le q (by omega)))
          have gi := (git i hib).1
          refine lv_aload_n X.1 X.2.1 dX3_mend_22 rfl (lv_at hl 0 rfl) ?_
          refine gf_X3_21 X hw gx rfl dX3_mend_23 ?_
          refine lv_iload_n X.1 X.2.1 dX3_mend_26 rfl (lv_at hl 3 rfl) ?_
          refine h_aald X hw 4 rfl gi0 (vp_in_nI (by omega) (by decide)) dX3_mend_27 ?_
          refine h_tv (b := .ref (aa (7, i, 0))) (by rw [nI_clamp (by omega)]; simp only [x_ite, if_pos hib, va_rf]) ?_
          refine lv_astore (lv' := [(4, .ref (aa (7, i, 0))), (0, .ref (aa (0, 0, 0))), (1, .int x), (2, .int ((sp_mendN σ x i).1)), (3, .int (nI i))]) X.1 X.2.1 dX3_mend_28 hl (by decide) rfl (fun ls hl => ?_)
          refine lv_aload X.1 X.2.1 dX3_mend_30 (lv_at hl 0 rfl) ?_
          refine lv_ifnull X.1 X.2.1 dX3_mend_32 ?_
          refine lv_aload X.1 X.2.1 dX3_mend_35 (lv_at hl 0 rfl) ?_
          refine gf_X3_117 X hw gi rfl dX3_mend_37 ?_
          refine lv_iload_n X.1 X.2.1 dX3_mend_40 rfl (lv_at hl 2 rfl) ?_
          refine lv_icmp_ne (tgt := 53) X.1 X.2.1 dX3_mend_41 (by decide) (fun c41 => ?_) (fun c41 => ?_)
          · refine lv_iinc (v := nI (i + 1)) (lv' := [(3, .int (nI (i + 1))), (4, .ref (aa (7, i, 0))), (0, .ref (aa (0, 0, 0))), (1, .int x), (2, .int ((sp_mendN σ x i).1))]) X.1 X.2.1 dX3_mend_53 hl (k := 4) rfl (nI_1 _) (by decide) rfl (fun ls hl => ?_)
            refine lv_goto (tgt := 14) X.1 X.2.1 dX3_mend_56 (by decide) ?_
            have es := mendS_f (σ := σ) (n := i) (x := x) (by rw [← e3]; exact c41)
            exact ih (i + 1) (by omega) (by omega) aa kk _ _ (by rw [es, ← hτ]; exact hRk) h20 h00 hw ls (by
              rw [es]
              exact lv_sub hl [2, 3, 4, 0] rfl)
          · refine lv_iload_n X.1 X.2.1 dX3_mend_44 rfl (lv_at hl 3 rfl) ?_
            refine lv_aload_n X.1 X.2.1 dX3_mend_45 rfl (lv_at hl 1 rfl) ?_
            refine lv_aload X.1 X.2.1 dX3_mend_46 (lv_at hl 0 rfl) ?_
            refine h_callWV (t := (0, 0, 0)) (As := [.ref (aa (7, i, 0))]) (rest := [.int ((sp_mendN σ x i).1)]) X hw cs_X3_146 (c_X3_mendItem l G hRk hib) gx rfl rfl hl.1 rfl (Nat.le_of_ble_eq_true rfl) ⟨by decide, by decide⟩ ⟨(Nat.le_of_ble_eq_true rfl), (Nat.le_of_ble_eq_true rfl)⟩ dX3_mend_48 (fun r9 ad1 k1 H locs hp9 hw => ?_)
            obtain ⟨rfl, hRn, hfr, ha0⟩ := hp9
            refine W.eq (g2 := F0 m 51 ls [.int ((s_mendF τ i).1), .int ((sp_mendN σ x i).1)]) rfl ?_
            have eb1_0 : aa (0, 0, 0) = ad1 (0, 0, 0) := (ha0).symm
            simp only [eb1_0] at hl
            refine lv_iadd X.1 X.2.1 dX3_mend_51 ?_
            refine lv_istore_n (lv' := [(2, .int ((sp_mendN σ x i).1 + (s_mendF τ i).1)), (4, .ref (aa (7, i, 0))), (0, .ref (ad1 (0, 0, 0))), (1, .int x), (3, .int (nI i))]) X.1 X.2.1 dX3_mend_52 rfl hl (by decide) rfl (fun ls hl => ?_)
            refine lv_iinc (v := nI (i + 1)) (lv' := [(3, .int (nI (i + 1))), (2, .int ((sp_mendN σ x i).1 + (s_mendF τ i).1)), (4, .ref (aa (7, i, 0))), (0, .ref (ad1 (0, 0, 0))), (1, .int x)]) X.1 X.2.1 dX3_mend_53 hl (k := 4) rfl (nI_1 _) (by decide) rfl (fun ls hl => ?_)
            refine lv_goto (tgt := 14) X.1 X.2.1 dX3_mend_56 (by decide) ?_
            have es := mendS_t (σ := σ) (n := i) (x := x) (by rw [← e3]; exact c41)
            rw [← hτ] at es
            exact ih (i + 1) (by omega) (by omega) ad1 k1 _ _ (by rw [es]; exact hRn) (fun t ht => ⟨by rw [(hfr t ht).1, (h20 t ht).1], by rw [(hfr t ht).2, (h20 t ht).2]⟩) (ha0.trans h00) hw ls (by
              rw [es]
              exact lv_sub hl [3, 4, 1, 0] rfl)
    refine lv_iload_n X.1 X.2.1 dX3_mend_0 rfl (lv_at hl 1 rfl) ?_
    refine h_callRS (As := [.int x]) (rest := []) X hw cs_X3_76 (c_X3_isPackage l G x) rfl hl.1 rfl (Nat.le_of_ble_eq_true rfl) ⟨by decide, by decide⟩ ⟨Nat.zero_le _, Nat.zero_le _⟩ dX3_mend_1 ?_
    refine h_tv (b := .int 1) (by rw [hpk]; rfl) ?_
    refine lv_if_ne (tgt := 10) X.1 X.2.1 dX3_mend_4 (by decide) (fun c4 => ?_) (fun c4 => ?_)
    · refine lv_iconst (v := 0) X.1 X.2.1 dX3_mend_10 (by decide) ?_
      refine lv_istore_n (lv' := [(2, .int 0), (0, .ref (ad (0, 0, 0))), (1, .int x)]) X.1 X.2.1 dX3_mend_11 rfl hl (by decide) rfl (fun ls hl => ?_)
      refine lv_iconst (v := 0) X.1 X.2.1 dX3_mend_12 (by decide) ?_
      refine lv_istore_n (lv' := [(3, .int 0), (2, .int 0), (0, .ref (ad (0, 0, 0))), (1, .int x)]) X.1 X.2.1 dX3_mend_13 rfl hl (by decide) rfl (fun ls hl => ?_)
      exact loop (s_nF σ + 1) 0 (by omega) (by omega) ad k _ _ hR (fun _ _ => ⟨rfl, rfl⟩) rfl hw ls (lv_sub hl [2, 3, 1, 0] rfl)
    · exact absurd c4 (by decide)
