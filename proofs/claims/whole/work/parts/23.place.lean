theorem oI_ne {j : Nat} (h : j < 2 ^ 31) : ¬ nI j = -1 := fun e => by
  have h1 := congrArg Int32.toInt e
  rw [nI_toInt h, show ((-1 : Int32)).toInt = -1 from rfl] at h1
  omega
set_option maxHeartbeats 4000000 in
set_option maxRecDepth 100000 in
/-- placeCollected: a copy more of the new file -/
theorem c_X3_placeCollected (l : Launch) (G : h_G) {ad : h_T → Nat} {k : h_C} {σ : S_t} {x : Int32} {c0 : Nat → Bool} (hN : x_new G ad k σ x c0)  : h_Wr l yX3_placeCollected cX3_placeCollected 6 none 3 67 2 18 G ad k [.ref (ad (0, 0, 0)), .ref (ad (7, s_nF σ, 0))] (fun r ad' k' => r = none ∧ x_new G ad' k' σ x (s_nxt σ c0) ∧ (∀ t : h_T, 20 ≤ t.1 → k' t = k t ∧ ad' t = ad t) ∧ ad' (0, 0, 0) = ad (0, 0, 0) ∧ ad' (7, s_nF σ, 0) = ad (7, s_nF σ, 0)) := by
  refine h_wr (by decide +kernel) (Nat.le_of_ble_eq_true rfl) ?_
  intro p e s m args below meth c X Y hw ls hl
  have hl : lv_has ls 6 [(0, .ref (ad (0, 0, 0))), (1, .ref (ad (7, s_nF σ, 0)))] := hl
  obtain ⟨hR, h7, h8, hrs, hcs⟩ := id hN
  have hok := hR.ok
  obtain ⟨hx, hs, hst, hi, hit, hcp, hcol, hmx, hask, -⟩ := id hR
  have hx : k (0, 0, 0) = some (.inr (3, [.int (nI (s_cop σ)), .ref (ad (1, 0, 0)), .int (nI (s_nS σ)), .ref (ad (2, 0, 0)), .int (nI (s_nF σ)), .ref (ad (3, 0, 0)), .ref (ad (4, 0, 0)), .ref (ad (5, 0, 0)), .ref (ad (5, 1, 0)), .ref (ad (5, 2, 0)), .int (nI (s_as σ).length), .int (s_dg σ)])) := hx
  have hnS : s_nS σ ≤ 10 := hok.2.1
  have hnF : s_nF σ ≤ 40 := hok.2.2.1
  have fin : ∀ (ls : Array Slot), lv_has ls 6 [(0, .ref (ad (0, 0, 0))), (1, .ref (ad (7, s_nF σ, 0))), (2, .int (oI (s_bst σ c0 (s_nS σ))))] → W p l e (h_rm 3 67 2 18) s m args below meth c s.heap [] 0 0 (MQ below (h_Qw G ad k s.heap.size (fun r ad' k' => r = none ∧ x_new G ad' k' σ x (s_nxt σ c0) ∧ (∀ t : h_T, 20 ≤ t.1 → k' t = k t ∧ ad' t = ad t) ∧ ad' (0, 0, 0) = ad (0, 0, 0) ∧ ad' (7, s_nF σ, 0) = ad (7, s_nF σ, 0))) args s 2 18 (h_A ad k s.heap.size)) (F0 m 66 ls []) := by
    intro ls hl
    rcases hb : s_bst σ c0 (s_nS σ) with _ | j
    · rw [hb] at hl
      have hl : lv_has ls 6 [(0, .ref (ad (0, 0, 0))), (1, .ref (ad (7, s_nF σ, 0))), (2, .int (-1))] := hl
      have hnx : s_nxt σ c0 = c0 := by
        funext a
        unfold s_nxt
        rw [hb]
        simp
      refine lv_iload_n X.1 X.2.1 dX3_placeCollected_66 rfl (lv_at hl 2 rfl) ?_
      refine lv_iconst (v := (-1)) X.1 X.2.1 dX3_placeCollected_67 (by decide) ?_
      refine lv_icmp_eq (tgt := 84) X.1 X.2.1 dX3_placeCollected_68 (by decide) (fun c68 => ?_) (fun c68 => ?_)
      · exact h_vretW X Y hw ⟨rfl, by rw [hnx]; exact hN, fun _ _ => ⟨rfl, rfl⟩, rfl, rfl⟩ (Nat.zero_le _) (Nat.zero_le _) dX3_placeCollected_84
      · exact absurd (by decide) c68
    · obtain ⟨hj, hsj, hcj⟩ := bst_lt hb
      rw [hb] at hl
      have hl : lv_has ls 6 [(0, .ref (ad (0, 0, 0))), (1, .ref (ad (7, s_nF σ, 0))), (2, .int (nI j))] := hl
      obtain ⟨hr1, g, hg, hgi⟩ := id hcol
      refine lv_iload_n X.1 X.2.1 dX3_placeCollected_66 rfl (lv_at hl 2 rfl) ?_
      refine lv_iconst (v := (-1)) X.1 X.2.1 dX3_placeCollected_67 (by decide) ?_
      refine lv_icmp_eq (tgt := 84) X.1 X.2.1 dX3_placeCollected_68 (by decide) (fun c68 => ?_) (fun c68 => ?_)
      · exact absurd c68 (oI_ne (by omega))
      · obtain ⟨k0, hk0⟩ : ∃ zz, zz = h_cu (h_cu k (9, j, s_nF σ) none) (10, j, s_nF σ) none := ⟨_, rfl⟩
        replace hw := ((hw.drop (9, j, s_nF σ)).drop (10, j, s_nF σ)).ren hk0
        have f0_0_0_0 : k0 (0, 0, 0) = some (.inr (3, [.int (nI (s_cop σ)), .ref (ad (1, 0, 0)), .int (nI (s_nS σ)), .ref (ad (2, 0, 0)), .int (nI (s_nF σ)), .ref (ad (3, 0, 0)), .ref (ad (4, 0, 0)), .ref (ad (5, 0, 0)), .ref (ad (5, 1, 0)), .ref (ad (5, 2, 0)), .int (nI (s_as σ).length), .int (s_dg σ)])) := by rw [hk0, h_cn _ _ (by simp), h_cn _ _ (by simp)]; exact hx
        have f0_7_s_nF_σ_0 : k0 (7, s_nF σ, 0) = some (.inr (0, [.int x, .ref (ad (8, s_nF σ, 0)), .int 0])) := by rw [hk0, h_cn _ _ (by simp), h_cn _ _ (by simp)]; exact h7
        have f0_8_s_nF_σ_0 : k0 (8, s_nF σ, 0) = some (.inl (G.2 5, 10, x_refs (fun s => if c0 s then some (ad (9, s, s_nF σ)) else none))) := by rw [hk0, h_cn _ _ (by simp), h_cn _ _ (by simp)]; exact h8
        have f0_3_0_0 : k0 (3, 0, 0) = some (.inr (1, [.ref (ad (3, 1, 0)), .int (nI (s_col σ).length)])) := by rw [hk0, h_cn _ _ (by simp), h_cn _ _ (by simp)]; exact hr1
        have f0_3_1_0 : k0 (3, 1, 0) = some (.inl (G.2 0, 16, .inl g)) := by rw [hk0, h_cn _ _ (by simp), h_cn _ _ (by simp)]; exact hg
        refine lv_aload_n X.1 X.2.1 dX3_placeCollected_71 rfl (lv_at hl 1 rfl) ?_
        refine gf_X3_113 X hw f0_7_s_nF_σ_0 rfl dX3_placeCollected_72 ?_
        refine lv_iload_n X.1 X.2.1 dX3_placeCollected_75 rfl (lv_at hl 2 rfl) ?_
        refine lv_aload_n X.1 X.2.1 dX3_placeCollected_76 rfl (lv_at hl 0 rfl) ?_
        refine gf_X3_31 X hw f0_0_0_0 rfl dX3_placeCollected_77 ?_
        refine h_callWV (t := (3, 0, 0)) (As := []) (rest := [.int (nI j), .ref (ad (8, s_nF σ, 0))]) X hw cs_X3_198 (c_X1_twin l G (t := (3, 0, 0)) (u := (3, 1, 0)) (t2 := (9, j, s_nF σ)) (u2 := (10, j, s_nF σ)) ⟨f0_3_0_0, g, f0_3_1_0, hgi⟩ hok.2.2.2.1 (by simp) (by rw [hk0, h_cn _ _ (by simp), h_cs]) (by rw [hk0, h_cs]) (by simp)) f0_3_0_0 rfl rfl hl.1 rfl (Nat.le_of_ble_eq_true rfl) ⟨by decide, by decide⟩ ⟨(Nat.le_of_ble_eq_true rfl), (Nat.le_of_ble_eq_true rfl)⟩ dX3_placeCollected_80 (fun r9 ad1 k1 H locs hp9 hw => ?_)
        obtain ⟨rfl, hr1, ho1⟩ := hp9
        refine W.eq (g2 := F0 m 83 ls [.ref (ad1 (9, j, s_nF σ)), .int (nI j), .ref (ad (8, s_nF σ, 0))]) rfl ?_
        have eb1_0 : ad (0, 0, 0) = ad1 (0, 0, 0) := ((ho1 (0, 0, 0) (by simp) (by simp)).2).symm
        have eb1_1 : ad (7, s_nF σ, 0) = ad1 (7, s_nF σ, 0) := ((ho1 (7, s_nF σ, 0) (by simp) (by simp)).2).symm
        have eb1_2 : ad (8, s_nF σ, 0) = ad1 (8, s_nF σ, 0) := ((ho1 (8, s_nF σ, 0) (by simp) (by simp)).2).symm
        have eb1_3 : ad (1, 0, 0) = ad1 (1, 0, 0) := ((ho1 (1, 0, 0) (by simp) (by simp)).2).symm
        have eb1_4 : ad (2, 0, 0) = ad1 (2, 0, 0) := ((ho1 (2, 0, 0) (by simp) (by simp)).2).symm
        have eb1_5 : ad (3, 0, 0) = ad1 (3, 0, 0) := ((ho1 (3, 0, 0) (by simp) (by simp)).2).symm
        have eb1_6 : ad (4, 0, 0) = ad1 (4, 0, 0) := ((ho1 (4, 0, 0) (by simp) (by simp)).2).symm
        have eb1_7 : ad (5, 0, 0) = ad1 (5, 0, 0) := ((ho1 (5, 0, 0) (by simp) (by simp)).2).symm
        have eb1_8 : ad (5, 1, 0) = ad1 (5, 1, 0) := ((ho1 (5, 1, 0) (by simp) (by simp)).2).symm
        have eb1_9 : ad (5, 2, 0) = ad1 (5, 2, 0) := ((ho1 (5, 2, 0) (by simp) (by simp)).2).symm
        have eb1_10 : ad (3, 1, 0) = ad1 (3, 1, 0) := ((ho1 (3, 1, 0) (by simp) (by simp)).2).symm
        simp only [eb1_0, eb1_1, eb1_2, eb1_3, eb1_4, eb1_5, eb1_6, eb1_7, eb1_8, eb1_9, eb1_10] at hl
        simp only [eb1_0, eb1_1, eb1_2, eb1_3, eb1_4, eb1_5, eb1_6, eb1_7, eb1_8, eb1_9, eb1_10]
        have f1_0_0_0 : k1 (0, 0, 0) = some (.inr (3, [.int (nI (s_cop σ)), .ref (ad1 (1, 0, 0)), .int (nI (s_nS σ)), .ref (ad1 (2, 0, 0)), .int (nI (s_nF σ)), .ref (ad1 (3, 0, 0)), .ref (ad1 (4, 0, 0)), .ref (ad1 (5, 0, 0)), .ref (ad1 (5, 1, 0)), .ref (ad1 (5, 2, 0)), .int (nI (s_as σ).length), .int (s_dg σ)])) := by rw [(ho1 (0, 0, 0) (by simp) (by simp)).1, f0_0_0_0]; simp only [eb1_0, eb1_1, eb1_2, eb1_3, eb1_4, eb1_5, eb1_6, eb1_7, eb1_8, eb1_9, eb1_10]
        have f1_7_s_nF_σ_0 : k1 (7, s_nF σ, 0) = some (.inr (0, [.int x, .ref (ad1 (8, s_nF σ, 0)), .int 0])) := by rw [(ho1 (7, s_nF σ, 0) (by simp) (by simp)).1, f0_7_s_nF_σ_0]; simp only [eb1_0, eb1_1, eb1_2, eb1_3, eb1_4, eb1_5, eb1_6, eb1_7, eb1_8, eb1_9, eb1_10]
        have f1_8_s_nF_σ_0 : k1 (8, s_nF σ, 0) = some (.inl (G.2 5, 10, x_refs (fun s => if c0 s then some (ad (9, s, s_nF σ)) else none))) := by rw [(ho1 (8, s_nF σ, 0) (by simp) (by simp)).1, f0_8_s_nF_σ_0]
        have f1_3_0_0 : k1 (3, 0, 0) = some (.inr (1, [.ref (ad1 (3, 1, 0)), .int (nI (s_col σ).length)])) := by rw [(ho1 (3, 0, 0) (by simp) (by simp)).1, f0_3_0_0]; simp only [eb1_0, eb1_1, eb1_2, eb1_3, eb1_4, eb1_5, eb1_6, eb1_7, eb1_8, eb1_9, eb1_10]
        have f1_3_1_0 : k1 (3, 1, 0) = some (.inl (G.2 0, 16, .inl g)) := by rw [(ho1 (3, 1, 0) (by simp) (by simp)).1, f0_3_1_0]
        refine h_aast (u := (9, j, s_nF σ)) X hw 5 1 rfl f1_8_s_nF_σ_0 hr1.1 rfl (vp_in_nI (by omega) (by decide)) dX3_placeCollected_83 (fun H locs hw => ?_)
        obtain ⟨k2, hk2⟩ : ∃ zz, zz = h_cu k1 (8, s_nF σ, 0) (some (.inl (G.2 5, 10, x_refs (va_up (fun s => if c0 s then some (ad (9, s, s_nF σ)) else none) (nI j).toNatClampNeg (some (ad1 (9, j, s_nF σ))))))) := ⟨_, rfl⟩
        replace hw := h_W.ren hw hk2
        have f2_0_0_0 : k2 (0, 0, 0) = some (.inr (3, [.int (nI (s_cop σ)), .ref (ad1 (1, 0, 0)), .int (nI (s_nS σ)), .ref (ad1 (2, 0, 0)), .int (nI (s_nF σ)), .ref (ad1 (3, 0, 0)), .ref (ad1 (4, 0, 0)), .ref (ad1 (5, 0, 0)), .ref (ad1 (5, 1, 0)), .ref (ad1 (5, 2, 0)), .int (nI (s_as σ).length), .int (s_dg σ)])) := by rw [hk2, h_cn _ _ (by simp)]; exact f1_0_0_0
        have f2_7_s_nF_σ_0 : k2 (7, s_nF σ, 0) = some (.inr (0, [.int x, .ref (ad1 (8, s_nF σ, 0)), .int 0])) := by rw [hk2, h_cn _ _ (by simp)]; exact f1_7_s_nF_σ_0
        have f2_8_s_nF_σ_0 : k2 (8, s_nF σ, 0) = some (.inl (G.2 5, 10, x_refs (va_up (fun s => if c0 s then some (ad (9, s, s_nF σ)) else none) (nI j).toNatClampNeg (some (ad1 (9, j, s_nF σ)))))) := by rw [hk2]; exact h_cs _ _ _
        have f2_3_0_0 : k2 (3, 0, 0) = some (.inr (1, [.ref (ad1 (3, 1, 0)), .int (nI (s_col σ).length)])) := by rw [hk2, h_cn _ _ (by simp)]; exact f1_3_0_0
        have f2_3_1_0 : k2 (3, 1, 0) = some (.inl (G.2 0, 16, .inl g)) := by rw [hk2, h_cn _ _ (by simp)]; exact f1_3_1_0
        have f2_9_j_s_nF_σ : k2 (9, j, s_nF σ) = some (.inr (1, [.ref (ad1 (10, j, s_nF σ)), .int (nI (s_col σ).length)])) := by rw [hk2, h_cn _ _ (by simp)]; exact hr1.1
        have hO : ∀ t : h_T, t ≠ (8, s_nF σ, 0) → t ≠ (9, j, s_nF σ) → t ≠ (10, j, s_nF σ) → k2 t = k t ∧ ad1 t = ad t := fun t h8 h9 h10 => ⟨by rw [hk2, h_cn _ _ h8, (ho1 t h9 h10).1, hk0, h_cn _ _ h10, h_cn _ _ h9], (ho1 t h9 h10).2⟩
        have ha : ∀ t : h_T, t ≠ (9, j, s_nF σ) → t ≠ (10, j, s_nF σ) → ad1 t = ad t := fun t h9 h10 => (ho1 t h9 h10).2
        have hnj : s_nxt σ c0 j = true := by unfold s_nxt; rw [hb]; simp
        have hna : ∀ a, a ≠ j → s_nxt σ c0 a = c0 a := fun a h => by unfold s_nxt; rw [hb]; simp [Ne.symm h]
        exact h_vretW X Y hw ⟨rfl, ⟨hR.congr2 (fun t hu => by
          obtain ⟨u7, u8, u9⟩ := hu.old hok
          exact hO t u8 (u9 j).1 (u9 j).2), f2_7_s_nF_σ_0, by
          rw [f2_8_s_nF_σ_0, nI_clamp (by omega)]
          have : (fun s => if s_nxt σ c0 s then some (ad1 (9, s, s_nF σ)) else none) = va_up (fun s => if c0 s then some (ad (9, s, s_nF σ)) else none) j (some (ad1 (9, j, s_nF σ))) := by
            funext a
            by_cases haj : a = j
            · rw [haj, va_up_self, hnj]; rfl
            · rw [va_up_ne _ _ haj, hna a haj, ha _ (by simp [haj]) (by simp)]
          rw [this], fun a hA => by
          by_cases haj : a = j
          · rw [haj]
            exact hr1.congr (by rw [hk2, h_cn _ _ (by simp)]) (by rw [hk2, h_cn _ _ (by simp)]) rfl
          · rw [hna a haj] at hA
            have p9 := hO (9, a, s_nF σ) (by simp) (by simp [haj]) (by simp)
            have p10 := hO (10, a, s_nF σ) (by simp) (by simp) (by simp [haj])
            exact (hrs a hA).congr p9.1 p10.1 p10.2, fun a hA => by
          by_cases haj : a = j
          · rw [haj]; exact hj
          · rw [hna a haj] at hA; exact hcs a hA⟩, fun t ht => hO t (t20 ht (Nat.le_of_ble_eq_true rfl)) (t20 ht (Nat.le_of_ble_eq_true rfl)) (t20 ht (Nat.le_of_ble_eq_true rfl)), (by first | rfl | exact ha (0, 0, 0) (by simp) (by simp)), (by first | rfl | exact ha (7, s_nF σ, 0) (by simp) (by simp))⟩ (Nat.le_of_ble_eq_true rfl) (Nat.le_of_ble_eq_true rfl) dX3_placeCollected_84
  have loop : ∀ (n i : Nat), i ≤ s_nS σ → s_nS σ + 1 ≤ i + n → ∀ (ls : Array Slot), lv_has ls 6 [(0, .ref (ad (0, 0, 0))), (1, .ref (ad (7, s_nF σ, 0))), (2, .int (oI (s_bst σ c0 i))), (3, .int (oL σ (s_bst σ c0 i))), (4, .int (nI i))] → W p l e (h_rm 3 67 2 18) s m args below meth c s.heap [] 0 0 (MQ below (h_Qw G ad k s.heap.size (fun r ad' k' => r = none ∧ x_new G ad' k' σ x (s_nxt σ c0) ∧ (∀ t : h_T, 20 ≤ t.1 → k' t = k t ∧ ad' t = ad t) ∧ ad' (0, 0, 0) = ad (0, 0, 0) ∧ ad' (7, s_nF σ, 0) = ad (7, s_nF σ, 0))) args s 2 18 (h_A ad k s.heap.size)) (F0 m 7 ls []) := by
    intro n
    induction n with
    | zero =>
      intro i h1 h2
      exact absurd h2 (by omega)
    | succ n ih =>
      intro i hii hni  ls hl
      refine lv_iload X.1 X.2.1 dX3_placeCollected_7 (lv_at hl 4 rfl) ?_
      refine lv_aload_n X.1 X.2.1 dX3_placeCollected_9 rfl (lv_at hl 0 rfl) ?_
      refine gf_X3_15 X hw hx rfl dX3_placeCollected_10 ?_
      refine lv_icmp_ge (tgt := 66) X.1 X.2.1 dX3_placeCollected_13 (by decide) (fun c13 => ?_) (fun c13 => ?_)
      · obtain rfl : i = s_nS σ := Nat.le_antisymm hii (Nat.le_of_not_lt (fun q => absurd c13 (nI_ge q (by omega))))
        exact fin ls (lv_sub hl [0, 1, 2] rfl)
      · have hib : i < s_nS σ := Nat.lt_of_not_le (fun q => c13 (nI_le q (by omega)))
        have hld : s_ld σ i ≤ 40 := Nat.le_trans (cN_le _ _) hnF
        rcases hsi : s_si σ i with _ | _
        · refine lv_aload_n X.1 X.2.1 dX3_placeCollected_16 rfl (lv_at hl 0 rfl) ?_
          refine lv_iload X.1 X.2.1 dX3_placeCollected_17 (lv_at hl 4 rfl) ?_
          refine h_callRV (t := (0, 0, 0)) (As := [.int (nI i)]) (rest := []) X hw cs_X3_153 (c_X3_isAnswering l G hR (nI i)) hx rfl rfl hl.1 rfl (Nat.le_of_ble_eq_true rfl) ⟨by decide, by decide⟩ ⟨Nat.zero_le _, Nat.zero_le _⟩ dX3_placeCollected_19 ?_
          refine h_tv (b := .int 1) (by rw [ix_nI hib (by omega)]; simp only [hsi]; rfl) ?_
          refine lv_if_eq (tgt := 60) X.1 X.2.1 dX3_placeCollected_22 (by decide) (fun c22 => ?_) (fun c22 => ?_)
          · exact absurd c22 (by decide)
          · rcases hci : c0 i with _ | _
            · refine lv_aload_n X.1 X.2.1 dX3_placeCollected_25 rfl (lv_at hl 1 rfl) ?_
              refine gf_X3_113 X hw h7 rfl dX3_placeCollected_26 ?_
              refine lv_iload X.1 X.2.1 dX3_placeCollected_29 (lv_at hl 4 rfl) ?_
              refine h_aald X hw 5 rfl h8 (vp_in_nI (by omega) (by decide)) dX3_placeCollected_31 ?_
              refine h_tv (b := .null) (by rw [nI_clamp (by omega)]; simp only [hci]; rfl) ?_
              refine lv_ifnonnullN X.1 X.2.1 dX3_placeCollected_32 ?_
              refine lv_aload_n X.1 X.2.1 dX3_placeCollected_35 rfl (lv_at hl 0 rfl) ?_
              refine lv_iload X.1 X.2.1 dX3_placeCollected_36 (lv_at hl 4 rfl) ?_
              refine h_callRV (t := (0, 0, 0)) (As := [.int (nI i)]) (rest := []) X hw cs_X3_191 (c_X3_copiesOn l G hR hib) hx rfl rfl hl.1 rfl (Nat.le_of_ble_eq_true rfl) ⟨by decide, by decide⟩ ⟨Nat.zero_le _, Nat.zero_le _⟩ dX3_placeCollected_38 ?_
              refine lv_istore (lv' := [(5, .int (nI (s_ld σ i))), (0, .ref (ad (0, 0, 0))), (1, .ref (ad (7, s_nF σ, 0))), (2, .int (oI (s_bst σ c0 i))), (3, .int (oL σ (s_bst σ c0 i))), (4, .int (nI i))]) X.1 X.2.1 dX3_placeCollected_41 hl (by decide) rfl (fun ls hl => ?_)
              rcases hb : s_bst σ c0 i with _ | j
              · rw [hb] at hl
                have hl : lv_has ls 6 [(5, .int (nI (s_ld σ i))), (0, .ref (ad (0, 0, 0))), (1, .ref (ad (7, s_nF σ, 0))), (2, .int (-1)), (3, .int 0), (4, .int (nI i))] := hl
                refine lv_iload_n X.1 X.2.1 dX3_placeCollected_43 rfl (lv_at hl 3 rfl) ?_
                refine lv_iconst (v := (-1)) X.1 X.2.1 dX3_placeCollected_44 (by decide) ?_
                refine lv_icmp_eq (tgt := 54) X.1 X.2.1 dX3_placeCollected_45 (by decide) (fun c45 => ?_) (fun c45 => ?_)
                · refine lv_iload X.1 X.2.1 dX3_placeCollected_54 (lv_at hl 5 rfl) ?_
                  refine lv_istore_n (lv' := [(2, .int (nI i)), (5, .int (nI (s_ld σ i))), (0, .ref (ad (0, 0, 0))), (1, .ref (ad (7, s_nF σ, 0))), (3, .int 0), (4, .int (nI i))]) X.1 X.2.1 dX3_placeCollected_56 rfl hl (by decide) rfl (fun ls hl => ?_)
                  refine lv_iload X.1 X.2.1 dX3_placeCollected_57 (lv_at hl 1 rfl) ?_
                  refine lv_istore_n (lv' := [(3, .int (nI (s_ld σ i))), (2, .int (nI i)), (5, .int (nI (s_ld σ i))), (0, .ref (ad (0, 0, 0))), (1, .ref (ad (7, s_nF σ, 0))), (4, .int (nI i))]) X.1 X.2.1 dX3_placeCollected_59 rfl hl (by decide) rfl (fun ls hl => ?_)
                  refine lv_iinc (v := nI (i + 1)) (lv' := [(4, .int (nI (i + 1))), (3, .int (nI (s_ld σ i))), (2, .int (nI i)), (5, .int (nI (s_ld σ i))), (0, .ref (ad (0, 0, 0))), (1, .ref (ad (7, s_nF σ, 0)))]) X.1 X.2.1 dX3_placeCollected_60 hl (k := 5) rfl (nI_1 _) (by decide) rfl (fun ls hl => ?_)
                  refine lv_goto (tgt := 7) X.1 X.2.1 dX3_placeCollected_63 (by decide) ?_
                  exact ih (i + 1) (by omega) (by omega) ls (by
                    rw [bst_new (by rw [hsi, hci]; rfl) hb]
                    exact lv_sub hl [4, 5, 2, 1, 0] rfl)
                · exact absurd (by decide) c45
              · rw [hb] at hl
                have hl : lv_has ls 6 [(5, .int (nI (s_ld σ i))), (0, .ref (ad (0, 0, 0))), (1, .ref (ad (7, s_nF σ, 0))), (2, .int (nI j)), (3, .int (nI (s_ld σ j))), (4, .int (nI i))] := hl
                have hj := bst_lt hb
                have hlj : s_ld σ j ≤ 40 := Nat.le_trans (cN_le _ _) hnF
                refine lv_iload_n X.1 X.2.1 dX3_placeCollected_43 rfl (lv_at hl 3 rfl) ?_
                refine lv_iconst (v := (-1)) X.1 X.2.1 dX3_placeCollected_44 (by decide) ?_
                refine lv_icmp_eq (tgt := 54) X.1 X.2.1 dX3_placeCollected_45 (by decide) (fun c45 => ?_) (fun c45 => ?_)
                · exact absurd c45 (oI_ne (by omega))
                · refine lv_iload X.1 X.2.1 dX3_placeCollected_48 (lv_at hl 0 rfl) ?_
                  refine lv_iload_n X.1 X.2.1 dX3_placeCollected_50 rfl (lv_at hl 4 rfl) ?_
                  refine lv_icmp_ge (tgt := 60) X.1 X.2.1 dX3_placeCollected_51 (by decide) (fun c51 => ?_) (fun c51 => ?_)
                  · refine lv_iinc (v := nI (i + 1)) (lv' := [(4, .int (nI (i + 1))), (5, .int (nI (s_ld σ i))), (0, .ref (ad (0, 0, 0))), (1, .ref (ad (7, s_nF σ, 0))), (2, .int (nI j)), (3, .int (nI (s_ld σ j)))]) X.1 X.2.1 dX3_placeCollected_60 hl (k := 5) rfl (nI_1 _) (by decide) rfl (fun ls hl => ?_)
                    refine lv_goto (tgt := 7) X.1 X.2.1 dX3_placeCollected_63 (by decide) ?_
                    exact ih (i + 1) (by omega) (by omega) ls (by
                      rw [bst_keep hb (fun q => absurd c51 (nI_ge q (by omega)))]
                      exact lv_sub hl [2, 3, 4, 5, 0] rfl)
                  · refine lv_iload X.1 X.2.1 dX3_placeCollected_54 (lv_at hl 5 rfl) ?_
                    refine lv_istore_n (lv' := [(2, .int (nI i)), (5, .int (nI (s_ld σ i))), (0, .ref (ad (0, 0, 0))), (1, .ref (ad (7, s_nF σ, 0))), (3, .int (nI (s_ld σ j))), (4, .int (nI i))]) X.1 X.2.1 dX3_placeCollected_56 rfl hl (by decide) rfl (fun ls hl => ?_)
                    refine lv_iload X.1 X.2.1 dX3_placeCollected_57 (lv_at hl 1 rfl) ?_
                    refine lv_istore_n (lv' := [(3, .int (nI (s_ld σ i))), (2, .int (nI i)), (5, .int (nI (s_ld σ i))), (0, .ref (ad (0, 0, 0))), (1, .ref (ad (7, s_nF σ, 0))), (4, .int (nI i))]) X.1 X.2.1 dX3_placeCollected_59 rfl hl (by decide) rfl (fun ls hl => ?_)
                    refine lv_iinc (v := nI (i + 1)) (lv' := [(4, .int (nI (i + 1))), (3, .int (nI (s_ld σ i))), (2, .int (nI i)), (5, .int (nI (s_ld σ i))), (0, .ref (ad (0, 0, 0))), (1, .ref (ad (7, s_nF σ, 0)))]) X.1 X.2.1 dX3_placeCollected_60 hl (k := 5) rfl (nI_1 _) (by decide) rfl (fun ls hl => ?_)
                    refine lv_goto (tgt := 7) X.1 X.2.1 dX3_placeCollected_63 (by decide) ?_
                    exact ih (i + 1) (by omega) (by omega) ls (by
                      rw [bst_less (by rw [hsi, hci]; rfl) hb (Nat.lt_of_not_le (fun q => c51 (nI_le q (by omega))))]
                      exact lv_sub hl [4, 5, 2, 1, 0] rfl)
            · refine lv_aload_n X.1 X.2.1 dX3_placeCollected_25 rfl (lv_at hl 1 rfl) ?_
              refine gf_X3_113 X hw h7 rfl dX3_placeCollected_26 ?_
              refine lv_iload X.1 X.2.1 dX3_placeCollected_29 (lv_at hl 4 rfl) ?_
              refine h_aald X hw 5 rfl h8 (vp_in_nI (by omega) (by decide)) dX3_placeCollected_31 ?_
              refine h_tv (b := .ref (ad (9, i, s_nF σ))) (by rw [nI_clamp (by omega)]; simp only [hci]; rfl) ?_
              refine lv_ifnonnull (tgt := 60) X.1 X.2.1 dX3_placeCollected_32 (by decide) ?_
              refine lv_iinc (v := nI (i + 1)) (lv' := [(4, .int (nI (i + 1))), (0, .ref (ad (0, 0, 0))), (1, .ref (ad (7, s_nF σ, 0))), (2, .int (oI (s_bst σ c0 i))), (3, .int (oL σ (s_bst σ c0 i)))]) X.1 X.2.1 dX3_placeCollected_60 hl (k := 4) rfl (nI_1 _) (by decide) rfl (fun ls hl => ?_)
              refine lv_goto (tgt := 7) X.1 X.2.1 dX3_placeCollected_63 (by decide) ?_
              exact ih (i + 1) (by omega) (by omega) ls (by
                rw [bst_skip (by rw [hsi, hci]; rfl)]
                exact lv_sub hl [1, 2, 3, 4, 0] rfl)
        · refine lv_aload_n X.1 X.2.1 dX3_placeCollected_16 rfl (lv_at hl 0 rfl) ?_
          refine lv_iload X.1 X.2.1 dX3_placeCollected_17 (lv_at hl 4 rfl) ?_
          refine h_callRV (t := (0, 0, 0)) (As := [.int (nI i)]) (rest := []) X hw cs_X3_153 (c_X3_isAnswering l G hR (nI i)) hx rfl rfl hl.1 rfl (Nat.le_of_ble_eq_true rfl) ⟨by decide, by decide⟩ ⟨Nat.zero_le _, Nat.zero_le _⟩ dX3_placeCollected_19 ?_
          refine h_tv (b := .int 0) (by rw [ix_nI hib (by omega)]; simp only [hsi]; rfl) ?_
          refine lv_if_eq (tgt := 60) X.1 X.2.1 dX3_placeCollected_22 (by decide) (fun c22 => ?_) (fun c22 => ?_)
          · refine lv_iinc (v := nI (i + 1)) (lv' := [(4, .int (nI (i + 1))), (0, .ref (ad (0, 0, 0))), (1, .ref (ad (7, s_nF σ, 0))), (2, .int (oI (s_bst σ c0 i))), (3, .int (oL σ (s_bst σ c0 i)))]) X.1 X.2.1 dX3_placeCollected_60 hl (k := 4) rfl (nI_1 _) (by decide) rfl (fun ls hl => ?_)
            refine lv_goto (tgt := 7) X.1 X.2.1 dX3_placeCollected_63 (by decide) ?_
            exact ih (i + 1) (by omega) (by omega) ls (by
              rw [bst_skip (by rw [hsi]; rfl)]
              exact lv_sub hl [1, 2, 3, 4, 0] rfl)
          · exact absurd (by decide) c22
  refine lv_iconst (v := (-1)) X.1 X.2.1 dX3_placeCollected_0 (by decide) ?_
  refine lv_istore_n (lv' := [(2, .int (-1)), (0, .ref (ad (0, 0, 0))), (1, .ref (ad (7, s_nF σ, 0)))]) X.1 X.2.1 dX3_placeCollected_1 rfl hl (by decide) rfl (fun ls hl => ?_)
  refine lv_iconst (v := 0) X.1 X.2.1 dX3_placeCollected_2 (by decide) ?_
  refine lv_istore_n (lv' := [(3, .int 0), (2, .int (-1)), (0, .ref (ad (0, 0, 0))), (1, .ref (ad (7, s_nF σ, 0)))]) X.1 X.2.1 dX3_placeCollected_3 rfl hl (by decide) rfl (fun ls hl => ?_)
  refine lv_iconst (v := 0) X.1 X.2.1 dX3_placeCollected_4 (by decide) ?_
  refine lv_istore (lv' := [(4, .int 0), (3, .int 0), (2, .int (-1)), (0, .ref (ad (0, 0, 0))), (1, .ref (ad (7, s_nF σ, 0)))]) X.1 X.2.1 dX3_placeCollected_5 hl (by decide) rfl (fun ls hl => ?_)
  exact loop (s_nS σ + 1) 0 (by omega) (by omega) ls (lv_sub hl [3, 4, 2, 1, 0] rfl)
