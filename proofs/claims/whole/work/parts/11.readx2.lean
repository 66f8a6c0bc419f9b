theorem ix_lt {x : Int32} {n i : Nat} (h : ix x n = some i) : i < n := by
  unfold ix at h
  split at h
  · cases h; omega
  · cases h
set_option maxHeartbeats 4000000 in
set_option maxRecDepth 100000 in
/-- Row.sum: the digest -/
theorem c_X1_sum (l : Launch) (G : h_G) {ad : h_T → Nat} {k : h_C} {t u : h_T} {b : List Int32} (hb : x_row G ad k t u b) (hlen : b.length ≤ 16)  : h_Rd l yX1_sum cX1_sum 3 (some .int) 0 0 G ad k [.ref (ad t)] (some (.int (dgL b))) := by
  refine h_rd (by decide +kernel) (Nat.le_of_ble_eq_true rfl) ?_
  intro p e s m args below meth c X Y hw ls hl
  have hl : lv_has ls 3 [(0, .ref (ad t))] := hl
  obtain ⟨g, hg, hgi⟩ := hb.2
  have loop : ∀ (n i : Nat), i ≤ b.length → b.length + 1 ≤ i + n → ∀ (ls : Array Slot), lv_has ls 3 [(0, .ref (ad t)), (1, .int (dgP b i)), (2, .int (nI i))] → W p l e (h_rm 0 0 0 0) s m args below meth c s.heap [] 0 0 (MQ below (h_Qr (some (.int (dgL b)))) args s 0 0 (fun _ => False)) (F0 m 5 ls []) := by
    intro n
    induction n with
    | zero =>
      intro i h1 h2
      exact absurd h2 (by omega)
    | succ n ih =>
      intro i hii hni ls hl
      refine lv_iload_n X.1 X.2.1 dX1_sum_5 rfl (lv_at hl 2 rfl) ?_
      refine lv_aload_n X.1 X.2.1 dX1_sum_6 rfl (lv_at hl 0 rfl) ?_
      refine gf_X1_15 X hw hb.1 rfl dX1_sum_7 ?_
      refine lv_icmp_ge (tgt := 31) X.1 X.2.1 dX1_sum_10 (by decide) (fun c10 => ?_) (fun c10 => ?_)
      · obtain rfl : i = b.length := Nat.le_antisymm hii (Nat.le_of_not_lt (fun q => absurd c10 (nI_ge q (by omega))))
        refine lv_iload_n X.1 X.2.1 dX1_sum_31 rfl (lv_at hl 1 rfl) ?_
        refine lv_aload_n X.1 X.2.1 dX1_sum_32 rfl (lv_at hl 0 rfl) ?_
        refine gf_X1_15 X hw hb.1 rfl dX1_sum_33 ?_
        refine lv_ixor X.1 X.2.1 dX1_sum_36 ?_
        exact h_iret X Y dX1_sum_37
      · have hib : i < b.length := Nat.lt_of_not_le (fun q => c10 (nI_le q (by omega)))
        refine lv_bipush (v := 31) X.1 X.2.1 dX1_sum_13 (by decide) ?_
        refine lv_iload_n X.1 X.2.1 dX1_sum_15 rfl (lv_at hl 1 rfl) ?_
        refine lv_imul X.1 X.2.1 dX1_sum_16 ?_
        refine lv_aload_n X.1 X.2.1 dX1_sum_17 rfl (lv_at hl 0 rfl) ?_
        refine gf_X1_9 X hw hb.1 rfl dX1_sum_18 ?_
        refine lv_iload_n X.1 X.2.1 dX1_sum_21 rfl (lv_at hl 2 rfl) ?_
        refine h_iald X hw hg (vp_in_nI (by omega) (by decide)) dX1_sum_22 ?_
        refine h_tv (b := .int (b.getD i 0)) (by rw [nI_clamp (by omega), hgi i hib]) ?_
        refine lv_iadd X.1 X.2.1 dX1_sum_23 ?_
        refine lv_istore_n (lv' := [(1, .int ((31 * dgP b i) + b.getD i 0)), (0, .ref (ad t)), (2, .int (nI i))]) X.1 X.2.1 dX1_sum_24 rfl hl (by decide) rfl (fun ls hl => ?_)
        refine lv_iinc (v := nI (i + 1)) (lv' := [(2, .int (nI (i + 1))), (1, .int ((31 * dgP b i) + b.getD i 0)), (0, .ref (ad t))]) X.1 X.2.1 dX1_sum_25 hl (k := 2) rfl (nI_1 _) (by decide) rfl (fun ls hl => ?_)
        refine lv_goto (tgt := 5) X.1 X.2.1 dX1_sum_28 (by decide) ?_
        exact ih (i + 1) (by omega) (by omega) ls (lv_sub hl [2, 1, 0] rfl)
  refine lv_bipush (v := 7) X.1 X.2.1 dX1_sum_0 (by decide) ?_
  refine lv_istore_n (lv' := [(1, .int 7), (0, .ref (ad t))]) X.1 X.2.1 dX1_sum_2 rfl hl (by decide) rfl (fun ls hl => ?_)
  refine lv_iconst (v := 0) X.1 X.2.1 dX1_sum_3 (by decide) ?_
  refine lv_istore_n (lv' := [(2, .int 0), (1, .int 7), (0, .ref (ad t))]) X.1 X.2.1 dX1_sum_4 rfl hl (by decide) rfl (fun ls hl => ?_)
  exact loop (b.length + 1) 0 (by omega) (by omega) ls (lv_sub hl [2, 1, 0] rfl)
set_option maxHeartbeats 4000000 in
set_option maxRecDepth 100000 in
/-- Row.has -/
theorem c_X1_has (l : Launch) (G : h_G) {ad : h_T → Nat} {k : h_C} {t u : h_T} {b : List Int32} (hb : x_row G ad k t u b) (hlen : b.length ≤ 16) (x : Int32) : h_Rd l yX1_has cX1_has 2 (some .boolean) 0 0 G ad k [.ref (ad t), .int x] (some (.int (bI (ix x b.length).isSome))) := by
  refine h_rd (by decide +kernel) (Nat.le_of_ble_eq_true rfl) ?_
  intro p e s m args below meth c X Y hw ls hl
  have hl : lv_has ls 2 [(0, .ref (ad t)), (1, .int x)] := hl
  rcases ix_cases x (n := b.length) (by omega) with ⟨e0, h0⟩ | ⟨e0, h0, h1⟩ | ⟨j, hj, rfl, e0⟩
  · rw [e0]
    refine lv_iload_n X.1 X.2.1 dX1_has_0 rfl (lv_at hl 1 rfl) ?_
    refine lv_if_lt (tgt := 16) X.1 X.2.1 dX1_has_1 (by decide) (fun c1 => ?_) (fun c1 => ?_)
    · refine lv_iconst (v := 0) X.1 X.2.1 dX1_has_16 (by decide) ?_
      exact h_zret (v := 0) X Y (by decide) dX1_has_17
    · exact absurd h0 c1
  · rw [e0]
    refine lv_iload_n X.1 X.2.1 dX1_has_0 rfl (lv_at hl 1 rfl) ?_
    refine lv_if_lt (tgt := 16) X.1 X.2.1 dX1_has_1 (by decide) (fun c1 => ?_) (fun c1 => ?_)
    · exact absurd c1 h0
    · refine lv_iload_n X.1 X.2.1 dX1_has_4 rfl (lv_at hl 1 rfl) ?_
      refine lv_aload_n X.1 X.2.1 dX1_has_5 rfl (lv_at hl 0 rfl) ?_
      refine gf_X1_15 X hw hb.1 rfl dX1_has_6 ?_
      refine lv_icmp_ge (tgt := 16) X.1 X.2.1 dX1_has_9 (by decide) (fun c9 => ?_) (fun c9 => ?_)
      · refine lv_iconst (v := 0) X.1 X.2.1 dX1_has_16 (by decide) ?_
        exact h_zret (v := 0) X Y (by decide) dX1_has_17
      · exact absurd h1 c9
  · rw [e0]
    refine lv_iload_n X.1 X.2.1 dX1_has_0 rfl (lv_at hl 1 rfl) ?_
    refine lv_if_lt (tgt := 16) X.1 X.2.1 dX1_has_1 (by decide) (fun c1 => ?_) (fun c1 => ?_)
    · exact absurd c1 (nI_pos (by omega))
    · refine lv_iload_n X.1 X.2.1 dX1_has_4 rfl (lv_at hl 1 rfl) ?_
      refine lv_aload_n X.1 X.2.1 dX1_has_5 rfl (lv_at hl 0 rfl) ?_
      refine gf_X1_15 X hw hb.1 rfl dX1_has_6 ?_
      refine lv_icmp_ge (tgt := 16) X.1 X.2.1 dX1_has_9 (by decide) (fun c9 => ?_) (fun c9 => ?_)
      · exact absurd c9 (nI_ge hj (by omega))
      · refine lv_iconst (v := 1) X.1 X.2.1 dX1_has_12 (by decide) ?_
        refine lv_goto (tgt := 17) X.1 X.2.1 dX1_has_13 (by decide) ?_
        exact h_zret (v := 1) X Y (by decide) dX1_has_17
set_option maxHeartbeats 4000000 in
set_option maxRecDepth 100000 in
/-- isPackage -/
theorem c_X3_isPackage (l : Launch) (G : h_G) {ad : h_T → Nat} {k : h_C} (x : Int32) : h_Rd l yX3_isPackage cX3_isPackage 1 (some .boolean) 0 0 G ad k [.int x] (some (.int (bI (ix x 10).isSome))) := by
  refine h_rd (by decide +kernel) (Nat.le_of_ble_eq_true rfl) ?_
  intro p e s m args below meth c X Y hw ls hl
  have hl : lv_has ls 1 [(0, .int x)] := hl
  rcases ix_cases x (n := 10) (by omega) with ⟨e0, h0⟩ | ⟨e0, h0, h1⟩ | ⟨j, hj, rfl, e0⟩
  · rw [e0]
    refine lv_iload_n X.1 X.2.1 dX3_isPackage_0 rfl (lv_at hl 0 rfl) ?_
    refine lv_if_lt (tgt := 14) X.1 X.2.1 dX3_isPackage_1 (by decide) (fun c1 => ?_) (fun c1 => ?_)
    · refine lv_iconst (v := 0) X.1 X.2.1 dX3_isPackage_14 (by decide) ?_
      exact h_zret (v := 0) X Y (by decide) dX3_isPackage_15
    · exact absurd h0 c1
  · rw [e0]
    refine lv_iload_n X.1 X.2.1 dX3_isPackage_0 rfl (lv_at hl 0 rfl) ?_
    refine lv_if_lt (tgt := 14) X.1 X.2.1 dX3_isPackage_1 (by decide) (fun c1 => ?_) (fun c1 => ?_)
    · exact absurd c1 h0
    · refine lv_iload_n X.1 X.2.1 dX3_isPackage_4 rfl (lv_at hl 0 rfl) ?_
      refine lv_bipush (v := 10) X.1 X.2.1 dX3_isPackage_5 (by decide) ?_
      refine lv_icmp_ge (tgt := 14) X.1 X.2.1 dX3_isPackage_7 (by decide) (fun c7 => ?_) (fun c7 => ?_)
      · refine lv_iconst (v := 0) X.1 X.2.1 dX3_isPackage_14 (by decide) ?_
        exact h_zret (v := 0) X Y (by decide) dX3_isPackage_15
      · exact absurd h1 c7
  · rw [e0]
    refine lv_iload_n X.1 X.2.1 dX3_isPackage_0 rfl (lv_at hl 0 rfl) ?_
    refine lv_if_lt (tgt := 14) X.1 X.2.1 dX3_isPackage_1 (by decide) (fun c1 => ?_) (fun c1 => ?_)
    · exact absurd c1 (nI_pos (by omega))
    · refine lv_iload_n X.1 X.2.1 dX3_isPackage_4 rfl (lv_at hl 0 rfl) ?_
      refine lv_bipush (v := 10) X.1 X.2.1 dX3_isPackage_5 (by decide) ?_
      refine lv_icmp_ge (tgt := 14) X.1 X.2.1 dX3_isPackage_7 (by decide) (fun c7 => ?_) (fun c7 => ?_)
      · exact absurd c7 (nI_ge (b := 10) hj (by omega))
      · refine lv_iconst (v := 1) X.1 X.2.1 dX3_isPackage_10 (by decide) ?_
        refine lv_goto (tgt := 15) X.1 X.2.1 dX3_isPackage_11 (by decide) ?_
        exact h_zret (v := 1) X Y (by decide) dX3_isPackage_15
set_option maxHeartbeats 4000000 in
set_option maxRecDepth 100000 in
/-- isTaken: whether a store has that place -/
theorem c_X3_isTaken (l : Launch) (G : h_G) {ad : h_T → Nat} {k : h_C} {σ : S_t} (hR : RX G ad k σ) (x : Int32) : h_Rd l yX3_isTaken cX3_isTaken 4 (some .boolean) 0 0 G ad k [.ref (ad (0, 0, 0)), .int x] (some (.int (bI (ff (fun s => decide (s_pl σ s = x)) (s_nS σ)).isSome))) := by
  refine h_rd (by decide +kernel) (Nat.le_of_ble_eq_true rfl) ?_
  intro p e s m args below meth c X Y hw ls hl
  have hl : lv_has ls 4 [(0, .ref (ad (0, 0, 0))), (1, .int x)] := hl
  have hok := hR.ok
  obtain ⟨hx, hs, hst, hi, hit, hcp, hcol, hmx, hask, -⟩ := id hR
  have hx : k (0, 0, 0) = some (.inr (3, [.int (nI (s_cop σ)), .ref (ad (1, 0, 0)), .int (nI (s_nS σ)), .ref (ad (2, 0, 0)), .int (nI (s_nF σ)), .ref (ad (3, 0, 0)), .ref (ad (4, 0, 0)), .ref (ad (5, 0, 0)), .ref (ad (5, 1, 0)), .ref (ad (5, 2, 0)), .int (nI (s_as σ).length), .int (s_dg σ)])) := hx
  have hnS : s_nS σ ≤ 10 := hok.2.1
  have hnF : s_nF σ ≤ 40 := hok.2.2.1
  have loop : ∀ (n i : Nat), i ≤ s_nS σ → s_nS σ + 1 ≤ i + n → (∀ j, j < i → decide (s_pl σ j = x) = false) → ∀ (ls : Array Slot), lv_has ls 4 [(0, .ref (ad (0, 0, 0))), (1, .int x), (2, .int (nI i))] → W p l e (h_rm 0 0 0 0) s m args below meth c s.heap [] 0 0 (MQ below (h_Qr (some (.int (bI (ff (fun s => decide (s_pl σ s = x)) (s_nS σ)).isSome)))) args s 0 0 (fun _ => False)) (F0 m 2 ls []) := by
    intro n
    induction n with
    | zero =>
      intro i h1 h2
      exact absurd h2 (by omega)
    | succ n ih =>
      intro i hii hni hinv ls hl
      refine lv_iload_n X.1 X.2.1 dX3_isTaken_2 rfl (lv_at hl 2 rfl) ?_
      refine lv_aload_n X.1 X.2.1 dX3_isTaken_3 rfl (lv_at hl 0 rfl) ?_
      refine gf_X3_15 X hw hx rfl dX3_isTaken_4 ?_
      refine lv_icmp_ge (tgt := 37) X.1 X.2.1 dX3_isTaken_7 (by decide) (fun c7 => ?_) (fun c7 => ?_)
      · have hii2 : s_nS σ ≤ i := Nat.le_of_not_lt (fun q => absurd c7 (nI_ge q (by omega)))
        refine lv_iconst (v := 0) X.1 X.2.1 dX3_isTaken_37 (by decide) ?_
        rw [ff_miss (n := s_nS σ) (fun j hj => hinv j (by omega))]
        exact h_zret (v := 0) X Y (by decide) dX3_isTaken_38
      · have hib : i < s_nS σ := Nat.lt_of_not_le (fun q => c7 (nI_le q (by omega)))
        refine lv_aload_n X.1 X.2.1 dX3_isTaken_10 rfl (lv_at hl 0 rfl) ?_
        refine gf_X3_11 X hw hx rfl dX3_isTaken_11 ?_
        refine lv_iload_n X.1 X.2.1 dX3_isTaken_14 rfl (lv_at hl 2 rfl) ?_
        refine h_aald X hw 6 rfl hs (vp_in_nI (by omega) (by decide)) dX3_isTaken_15 ?_
        refine h_tv (b := .ref (ad (6, i, 0))) (by rw [nI_clamp (by omega)]; simp only [x_sto, if_pos hib, va_rf]) ?_
        refine lv_astore_n (lv' := [(3, .ref (ad (6, i, 0))), (0, .ref (ad (0, 0, 0))), (1, .int x), (2, .int (nI i))]) X.1 X.2.1 dX3_isTaken_16 rfl hl (by decide) rfl (fun ls hl => ?_)
        refine lv_aload_n X.1 X.2.1 dX3_isTaken_17 rfl (lv_at hl 0 rfl) ?_
        refine lv_ifnull X.1 X.2.1 dX3_isTaken_18 ?_
        refine lv_aload_n X.1 X.2.1 dX3_isTaken_21 rfl (lv_at hl 0 rfl) ?_
        refine gf_X3_195 X hw (hst i hib) rfl dX3_isTaken_22 ?_
        refine lv_iload_n X.1 X.2.1 dX3_isTaken_25 rfl (lv_at hl 2 rfl) ?_
        refine lv_icmp_ne (tgt := 31) X.1 X.2.1 dX3_isTaken_26 (by decide) (fun c26 => ?_) (fun c26 => ?_)
        · refine lv_iinc (v := nI (i + 1)) (lv' := [(2, .int (nI (i + 1))), (3, .ref (ad (6, i, 0))), (0, .ref (ad (0, 0, 0))), (1, .int x)]) X.1 X.2.1 dX3_isTaken_31 hl (k := 3) rfl (nI_1 _) (by decide) rfl (fun ls hl => ?_)
          refine lv_goto (tgt := 2) X.1 X.2.1 dX3_isTaken_34 (by decide) ?_
          exact ih (i + 1) (by omega) (by omega) (fun j hj => by
              rcases Nat.lt_succ_iff_lt_or_eq.mp hj with q | q
              · exact hinv j q
              · subst q; simpa using c26) ls (lv_sub hl [2, 3, 0] rfl)
        · refine lv_iconst (v := 1) X.1 X.2.1 dX3_isTaken_29 (by decide) ?_
          rw [ff_hit hinv (by simpa using c26) hib]
          exact h_zret (v := 1) X Y (by decide) dX3_isTaken_30
  refine lv_iconst (v := 0) X.1 X.2.1 dX3_isTaken_0 (by decide) ?_
  refine lv_istore_n (lv' := [(2, .int 0), (0, .ref (ad (0, 0, 0))), (1, .int x)]) X.1 X.2.1 dX3_isTaken_1 rfl hl (by decide) rfl (fun ls hl => ?_)
  exact loop (s_nS σ + 1) 0 (by omega) (by omega) (fun j hj => absurd hj (Nat.not_lt_zero j)) ls (lv_sub hl [1, 2, 0] rfl)
set_option maxHeartbeats 4000000 in
set_option maxRecDepth 100000 in
/-- isAnswering -/
theorem c_X3_isAnswering (l : Launch) (G : h_G) {ad : h_T → Nat} {k : h_C} {σ : S_t} (hR : RX G ad k σ) (x : Int32) : h_Rd l yX3_isAnswering cX3_isAnswering 3 (some .boolean) 1 21 G ad k [.ref (ad (0, 0, 0)), .int x] (some (.int (bI (match ix x (s_nS σ) with | some i => !s_si σ i | none => false)))) := by
  refine h_rd (by decide +kernel) (Nat.le_of_ble_eq_true rfl) ?_
  intro p e s m args below meth c X Y hw ls hl
  have hl : lv_has ls 3 [(0, .ref (ad (0, 0, 0))), (1, .int x)] := hl
  have hok := hR.ok
  obtain ⟨hx, hs, hst, hi, hit, hcp, hcol, hmx, hask, -⟩ := id hR
  have hx : k (0, 0, 0) = some (.inr (3, [.int (nI (s_cop σ)), .ref (ad (1, 0, 0)), .int (nI (s_nS σ)), .ref (ad (2, 0, 0)), .int (nI (s_nF σ)), .ref (ad (3, 0, 0)), .ref (ad (4, 0, 0)), .ref (ad (5, 0, 0)), .ref (ad (5, 1, 0)), .ref (ad (5, 2, 0)), .int (nI (s_as σ).length), .int (s_dg σ)])) := hx
  have hnS : s_nS σ ≤ 10 := hok.2.1
  have hnF : s_nF σ ≤ 40 := hok.2.2.1
  rcases hc : ix x (s_nS σ) with _ | i
  · refine lv_aload_n X.1 X.2.1 dX3_isAnswering_0 rfl (lv_at hl 0 rfl) ?_
    refine lv_iload_n X.1 X.2.1 dX3_isAnswering_1 rfl (lv_at hl 1 rfl) ?_
    refine h_callRV (t := (0, 0, 0)) (As := [.int x]) (rest := []) X hw cs_X3_91 (c_X3_storeOf l G hR x) hx rfl rfl hl.1 rfl (Nat.le_of_ble_eq_true rfl) ⟨by decide, by decide⟩ ⟨Nat.zero_le _, Nat.zero_le _⟩ dX3_isAnswering_2 ?_
    refine h_tv (b := .null) (by rw [hc]; rfl) ?_
    refine lv_astore_nN (lv' := [(2, .null), (0, .ref (ad (0, 0, 0))), (1, .int x)]) X.1 X.2.1 dX3_isAnswering_5 rfl hl (by decide) rfl (fun ls hl => ?_)
    refine lv_aload_nN X.1 X.2.1 dX3_isAnswering_6 rfl (lv_at hl 0 rfl) ?_
    refine lv_ifnullN (tgt := 21) X.1 X.2.1 dX3_isAnswering_7 (by decide) ?_
    refine lv_iconst (v := 0) X.1 X.2.1 dX3_isAnswering_21 (by decide) ?_
    exact h_zret (v := 0) X Y (by decide) dX3_isAnswering_22
  · have hib : i < s_nS σ := ix_lt hc
    rcases hsi : s_si σ i with _ | _
    · show W p l e _ s m args below meth c _ _ _ _ (MQ below (h_Qr (some (.int (bI (!s_si σ i))))) args s 0 0 (fun _ => False)) _
      rw [hsi]
      refine lv_aload_n X.1 X.2.1 dX3_isAnswering_0 rfl (lv_at hl 0 rfl) ?_
      refine lv_iload_n X.1 X.2.1 dX3_isAnswering_1 rfl (lv_at hl 1 rfl) ?_
      refine h_callRV (t := (0, 0, 0)) (As := [.int x]) (rest := []) X hw cs_X3_91 (c_X3_storeOf l G hR x) hx rfl rfl hl.1 rfl (Nat.le_of_ble_eq_true rfl) ⟨by decide, by decide⟩ ⟨Nat.zero_le _, Nat.zero_le _⟩ dX3_isAnswering_2 ?_
      refine h_tv (b := .ref (ad (6, i, 0))) (by rw [hc]; rfl) ?_
      refine lv_astore_n (lv' := [(2, .ref (ad (6, i, 0))), (0, .ref (ad (0, 0, 0))), (1, .int x)]) X.1 X.2.1 dX3_isAnswering_5 rfl hl (by decide) rfl (fun ls hl => ?_)
      refine lv_aload_n X.1 X.2.1 dX3_isAnswering_6 rfl (lv_at hl 0 rfl) ?_
      refine lv_ifnull X.1 X.2.1 dX3_isAnswering_7 ?_
      refine lv_aload_n X.1 X.2.1 dX3_isAnswering_10 rfl (lv_at hl 0 rfl) ?_
      refine gf_X3_95 X hw (hst i hib) rfl dX3_isAnswering_11 ?_
      refine lv_if_eq (tgt := 21) X.1 X.2.1 dX3_isAnswering_14 (by decide) (fun c14 => ?_) (fun c14 => ?_)
      · exact absurd c14 (by rw [hsi]; decide)
      · refine lv_iconst (v := 1) X.1 X.2.1 dX3_isAnswering_17 (by decide) ?_
        refine lv_goto (tgt := 22) X.1 X.2.1 dX3_isAnswering_18 (by decide) ?_
        exact h_zret (v := 1) X Y (by decide) dX3_isAnswering_22
    · show W p l e _ s m args below meth c _ _ _ _ (MQ below (h_Qr (some (.int (bI (!s_si σ i))))) args s 0 0 (fun _ => False)) _
      rw [hsi]
      refine lv_aload_n X.1 X.2.1 dX3_isAnswering_0 rfl (lv_at hl 0 rfl) ?_
      refine lv_iload_n X.1 X.2.1 dX3_isAnswering_1 rfl (lv_at hl 1 rfl) ?_
      refine h_callRV (t := (0, 0, 0)) (As := [.int x]) (rest := []) X hw cs_X3_91 (c_X3_storeOf l G hR x) hx rfl rfl hl.1 rfl (Nat.le_of_ble_eq_true rfl) ⟨by decide, by decide⟩ ⟨Nat.zero_le _, Nat.zero_le _⟩ dX3_isAnswering_2 ?_
      refine h_tv (b := .ref (ad (6, i, 0))) (by rw [hc]; rfl) ?_
      refine lv_astore_n (lv' := [(2, .ref (ad (6, i, 0))), (0, .ref (ad (0, 0, 0))), (1, .int x)]) X.1 X.2.1 dX3_isAnswering_5 rfl hl (by decide) rfl (fun ls hl => ?_)
      refine lv_aload_n X.1 X.2.1 dX3_isAnswering_6 rfl (lv_at hl 0 rfl) ?_
      refine lv_ifnull X.1 X.2.1 dX3_isAnswering_7 ?_
      refine lv_aload_n X.1 X.2.1 dX3_isAnswering_10 rfl (lv_at hl 0 rfl) ?_
      refine gf_X3_95 X hw (hst i hib) rfl dX3_isAnswering_11 ?_
      refine lv_if_eq (tgt := 21) X.1 X.2.1 dX3_isAnswering_14 (by decide) (fun c14 => ?_) (fun c14 => ?_)
      · refine lv_iconst (v := 0) X.1 X.2.1 dX3_isAnswering_21 (by decide) ?_
        exact h_zret (v := 0) X Y (by decide) dX3_isAnswering_22
      · exact absurd (by rw [hsi]; rfl) c14
