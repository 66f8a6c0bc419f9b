theorem ix_eq {x : Int32} {n i : Nat} (h : ix x n = some i) : x = nI i := by
  unfold ix at h
  split at h
  · rename_i hx
    cases h
    have h1 := Int32.toInt_lt x
    apply Int32.toInt_inj.mp
    rw [nI_toInt (by omega)]
    omega
  · cases h
set_option maxHeartbeats 4000000 in
set_option maxRecDepth 100000 in
/-- answeringStores: how many stores answer -/
theorem c_X3_answeringStores (l : Launch) (G : h_G) {ad : h_T → Nat} {k : h_C} {σ : S_t} (hR : RX G ad k σ)  : h_Rd l yX3_answeringStores cX3_answeringStores 3 (some .int) 2 43 G ad k [.ref (ad (0, 0, 0))] (some (.int (nI (cN (fun s => !s_si σ s) (s_nS σ))))) := by
  refine h_rd (by decide +kernel) (Nat.le_of_ble_eq_true rfl) ?_
  intro p e s m args below meth c X Y hw ls hl
  have hl : lv_has ls 3 [(0, .ref (ad (0, 0, 0)))] := hl
  have hok := hR.ok
  obtain ⟨hx, hs, hst, hi, hit, hcp, hcol, hmx, hask, -⟩ := id hR
  have hx : k (0, 0, 0) = some (.inr (3, [.int (nI (s_cop σ)), .ref (ad (1, 0, 0)), .int (nI (s_nS σ)), .ref (ad (2, 0, 0)), .int (nI (s_nF σ)), .ref (ad (3, 0, 0)), .ref (ad (4, 0, 0)), .ref (ad (5, 0, 0)), .ref (ad (5, 1, 0)), .ref (ad (5, 2, 0)), .int (nI (s_as σ).length), .int (s_dg σ)])) := hx
  have hnS : s_nS σ ≤ 10 := hok.2.1
  have hnF : s_nF σ ≤ 40 := hok.2.2.1
  have loop : ∀ (n i : Nat), i ≤ s_nS σ → s_nS σ + 1 ≤ i + n → ∀ (ls : Array Slot), lv_has ls 3 [(0, .ref (ad (0, 0, 0))), (1, .int (nI (cN (fun s => !s_si σ s) i))), (2, .int (nI i))] → W p l e (h_rm 2 43 0 0) s m args below meth c s.heap [] 0 0 (MQ below (h_Qr (some (.int (nI (cN (fun s => !s_si σ s) (s_nS σ)))))) args s 0 0 (fun _ => False)) (F0 m 4 ls []) := by
    intro n
    induction n with
    | zero =>
      intro i h1 h2
      exact absurd h2 (by omega)
    | succ n ih =>
      intro i hii hni ls hl
      refine lv_iload_n X.1 X.2.1 dX3_answeringStores_4 rfl (lv_at hl 2 rfl) ?_
      refine lv_aload_n X.1 X.2.1 dX3_answeringStores_5 rfl (lv_at hl 0 rfl) ?_
      refine gf_X3_15 X hw hx rfl dX3_answeringStores_6 ?_
      refine lv_icmp_ge (tgt := 29) X.1 X.2.1 dX3_answeringStores_9 (by decide) (fun c9 => ?_) (fun c9 => ?_)
      · obtain rfl : i = s_nS σ := Nat.le_antisymm hii (Nat.le_of_not_lt (fun q => absurd c9 (nI_ge (b := s_nS σ) q (by omega))))
        refine lv_iload_n X.1 X.2.1 dX3_answeringStores_29 rfl (lv_at hl 1 rfl) ?_
        exact h_iret X Y dX3_answeringStores_30
      · have hib : i < s_nS σ := Nat.lt_of_not_le (fun q => c9 (nI_le (a := s_nS σ) q (by omega)))
        rcases hsi : s_si σ i with _ | _
        · refine lv_aload_n X.1 X.2.1 dX3_answeringStores_12 rfl (lv_at hl 0 rfl) ?_
          refine lv_iload_n X.1 X.2.1 dX3_answeringStores_13 rfl (lv_at hl 2 rfl) ?_
          refine h_callRV (t := (0, 0, 0)) (As := [.int (nI i)]) (rest := []) X hw cs_X3_153 (c_X3_isAnswering l G hR (nI i)) hx rfl rfl hl.1 rfl (Nat.le_of_ble_eq_true rfl) ⟨by decide, by decide⟩ ⟨Nat.zero_le _, Nat.zero_le _⟩ dX3_answeringStores_14 ?_
          refine h_tv (b := .int 1) (by rw [ix_nI hib (by omega)]; simp only [hsi]; rfl) ?_
          refine lv_if_eq (tgt := 23) X.1 X.2.1 dX3_answeringStores_17 (by decide) (fun c17 => ?_) (fun c17 => ?_)
          · exact absurd c17 (by decide)
          · refine lv_iinc (v := nI ((cN (fun s => !s_si σ s) i) + 1)) (lv' := [(1, .int (nI ((cN (fun s => !s_si σ s) i) + 1))), (0, .ref (ad (0, 0, 0))), (2, .int (nI i))]) X.1 X.2.1 dX3_answeringStores_20 hl (k := 1) rfl (nI_1 _) (by decide) rfl (fun ls hl => ?_)
            refine lv_iinc (v := nI (i + 1)) (lv' := [(2, .int (nI (i + 1))), (1, .int (nI ((cN (fun s => !s_si σ s) i) + 1))), (0, .ref (ad (0, 0, 0)))]) X.1 X.2.1 dX3_answeringStores_23 hl (k := 2) rfl (nI_1 _) (by decide) rfl (fun ls hl => ?_)
            refine lv_goto (tgt := 4) X.1 X.2.1 dX3_answeringStores_26 (by decide) ?_
            exact ih (i + 1) (by omega) (by omega) ls (by
              rw [cN_t (by rw [hsi]; rfl)]
              exact lv_sub hl [2, 1, 0] rfl)
        · refine lv_aload_n X.1 X.2.1 dX3_answeringStores_12 rfl (lv_at hl 0 rfl) ?_
          refine lv_iload_n X.1 X.2.1 dX3_answeringStores_13 rfl (lv_at hl 2 rfl) ?_
          refine h_callRV (t := (0, 0, 0)) (As := [.int (nI i)]) (rest := []) X hw cs_X3_153 (c_X3_isAnswering l G hR (nI i)) hx rfl rfl hl.1 rfl (Nat.le_of_ble_eq_true rfl) ⟨by decide, by decide⟩ ⟨Nat.zero_le _, Nat.zero_le _⟩ dX3_answeringStores_14 ?_
          refine h_tv (b := .int 0) (by rw [ix_nI hib (by omega)]; simp only [hsi]; rfl) ?_
          refine lv_if_eq (tgt := 23) X.1 X.2.1 dX3_answeringStores_17 (by decide) (fun c17 => ?_) (fun c17 => ?_)
          · refine lv_iinc (v := nI (i + 1)) (lv' := [(2, .int (nI (i + 1))), (0, .ref (ad (0, 0, 0))), (1, .int (nI (cN (fun s => !s_si σ s) i)))]) X.1 X.2.1 dX3_answeringStores_23 hl (k := 2) rfl (nI_1 _) (by decide) rfl (fun ls hl => ?_)
            refine lv_goto (tgt := 4) X.1 X.2.1 dX3_answeringStores_26 (by decide) ?_
            exact ih (i + 1) (by omega) (by omega) ls (by
              rw [cN_f (by rw [hsi]; rfl)]
              exact lv_sub hl [1, 2, 0] rfl)
          · exact absurd (by decide) c17
  refine lv_iconst (v := 0) X.1 X.2.1 dX3_answeringStores_0 (by decide) ?_
  refine lv_istore_n (lv' := [(1, .int 0), (0, .ref (ad (0, 0, 0)))]) X.1 X.2.1 dX3_answeringStores_1 rfl hl (by decide) rfl (fun ls hl => ?_)
  refine lv_iconst (v := 0) X.1 X.2.1 dX3_answeringStores_2 (by decide) ?_
  refine lv_istore_n (lv' := [(2, .int 0), (1, .int 0), (0, .ref (ad (0, 0, 0)))]) X.1 X.2.1 dX3_answeringStores_3 rfl hl (by decide) rfl (fun ls hl => ?_)
  exact loop (s_nS σ + 1) 0 (by omega) (by omega) ls (lv_sub hl [2, 1, 0] rfl)
/-- the copy of a file on a store, by numbers, as the class answers it -/
def x_copy (ad : h_T → Nat) (σ : S_t) (x y : Int32) : Option Nat := (ix y (s_nF σ)).bind fun f => (ix x (s_nS σ)).bind fun s => (s_cp σ s f).map fun _ => ad (9, s, f)
set_option maxHeartbeats 4000000 in
set_option maxRecDepth 100000 in
/-- copyOf: a copy, or null -/
theorem c_X3_copyOf (l : Launch) (G : h_G) {ad : h_T → Nat} {k : h_C} {σ : S_t} (hR : RX G ad k σ) (x y : Int32) : h_Rd l yX3_copyOf cX3_copyOf 4 (some (.object "CopyPolls$Row")) 1 21 G ad k [.ref (ad (0, 0, 0)), .int x, .int y] (some (va_rf (x_copy ad σ x y))) := by
  refine h_rd (by decide +kernel) (Nat.le_of_ble_eq_true rfl) ?_
  intro p e s m args below meth c X Y hw ls hl
  have hl : lv_has ls 4 [(0, .ref (ad (0, 0, 0))), (1, .int x), (2, .int y)] := hl
  have hok := hR.ok
  obtain ⟨hx, hs, hst, hi, hit, hcp, hcol, hmx, hask, -⟩ := id hR
  have hx : k (0, 0, 0) = some (.inr (3, [.int (nI (s_cop σ)), .ref (ad (1, 0, 0)), .int (nI (s_nS σ)), .ref (ad (2, 0, 0)), .int (nI (s_nF σ)), .ref (ad (3, 0, 0)), .ref (ad (4, 0, 0)), .ref (ad (5, 0, 0)), .ref (ad (5, 1, 0)), .ref (ad (5, 2, 0)), .int (nI (s_as σ).length), .int (s_dg σ)])) := hx
  have hnS : s_nS σ ≤ 10 := hok.2.1
  have hnF : s_nF σ ≤ 40 := hok.2.2.1
  unfold x_copy
  rcases hy : ix y (s_nF σ) with _ | f
  · refine lv_aload_n X.1 X.2.1 dX3_copyOf_0 rfl (lv_at hl 0 rfl) ?_
    refine lv_iload_n X.1 X.2.1 dX3_copyOf_1 rfl (lv_at hl 2 rfl) ?_
    refine h_callRV (t := (0, 0, 0)) (As := [.int y]) (rest := []) X hw cs_X3_109 (c_X3_itemOf l G hR y) hx rfl rfl hl.1 rfl (Nat.le_of_ble_eq_true rfl) ⟨by decide, by decide⟩ ⟨Nat.zero_le _, Nat.zero_le _⟩ dX3_copyOf_2 ?_
    refine h_tv (b := .null) (by rw [hy]; rfl) ?_
    refine lv_astore_nN (lv' := [(3, .null), (0, .ref (ad (0, 0, 0))), (1, .int x), (2, .int y)]) X.1 X.2.1 dX3_copyOf_5 rfl hl (by decide) rfl (fun ls hl => ?_)
    refine lv_aload_nN X.1 X.2.1 dX3_copyOf_6 rfl (lv_at hl 0 rfl) ?_
    refine lv_ifnullN (tgt := 18) X.1 X.2.1 dX3_copyOf_7 (by decide) ?_
    refine lv_null X.1 X.2.1 dX3_copyOf_18 ?_
    refine lv_goto (tgt := 28) X.1 X.2.1 dX3_copyOf_19 (by decide) ?_
    exact h_aret (o := none) X Y dX3_copyOf_28
  · have hf : f < s_nF σ := ix_lt hy
    rcases hx1 : ix x (s_nS σ) with _ | i
    · refine lv_aload_n X.1 X.2.1 dX3_copyOf_0 rfl (lv_at hl 0 rfl) ?_
      refine lv_iload_n X.1 X.2.1 dX3_copyOf_1 rfl (lv_at hl 2 rfl) ?_
      refine h_callRV (t := (0, 0, 0)) (As := [.int y]) (rest := []) X hw cs_X3_109 (c_X3_itemOf l G hR y) hx rfl rfl hl.1 rfl (Nat.le_of_ble_eq_true rfl) ⟨by decide, by decide⟩ ⟨Nat.zero_le _, Nat.zero_le _⟩ dX3_copyOf_2 ?_
      refine h_tv (b := .ref (ad (7, f, 0))) (by rw [hy]; rfl) ?_
      refine lv_astore_n (lv' := [(3, .ref (ad (7, f, 0))), (0, .ref (ad (0, 0, 0))), (1, .int x), (2, .int y)]) X.1 X.2.1 dX3_copyOf_5 rfl hl (by decide) rfl (fun ls hl => ?_)
      refine lv_aload_n X.1 X.2.1 dX3_copyOf_6 rfl (lv_at hl 0 rfl) ?_
      refine lv_ifnull X.1 X.2.1 dX3_copyOf_7 ?_
      refine lv_aload_n X.1 X.2.1 dX3_copyOf_10 rfl (lv_at hl 1 rfl) ?_
      refine lv_iload_n X.1 X.2.1 dX3_copyOf_11 rfl (lv_at hl 2 rfl) ?_
      refine h_callRV (t := (0, 0, 0)) (As := [.int x]) (rest := []) X hw cs_X3_91 (c_X3_storeOf l G hR x) hx rfl rfl hl.1 rfl (Nat.le_of_ble_eq_true rfl) ⟨by decide, by decide⟩ ⟨Nat.zero_le _, Nat.zero_le _⟩ dX3_copyOf_12 ?_
      refine h_tv (b := .null) (by rw [hx1]; rfl) ?_
      refine lv_ifnonnullN X.1 X.2.1 dX3_copyOf_15 ?_
      refine lv_null X.1 X.2.1 dX3_copyOf_18 ?_
      refine lv_goto (tgt := 28) X.1 X.2.1 dX3_copyOf_19 (by decide) ?_
      exact h_aret (o := none) X Y dX3_copyOf_28
    · have hib : i < s_nS σ := ix_lt hx1
      obtain rfl : x = nI i := ix_eq hx1
      refine lv_aload_n X.1 X.2.1 dX3_copyOf_0 rfl (lv_at hl 0 rfl) ?_
      refine lv_iload_n X.1 X.2.1 dX3_copyOf_1 rfl (lv_at hl 2 rfl) ?_
      refine h_callRV (t := (0, 0, 0)) (As := [.int y]) (rest := []) X hw cs_X3_109 (c_X3_itemOf l G hR y) hx rfl rfl hl.1 rfl (Nat.le_of_ble_eq_true rfl) ⟨by decide, by decide⟩ ⟨Nat.zero_le _, Nat.zero_le _⟩ dX3_copyOf_2 ?_
      refine h_tv (b := .ref (ad (7, f, 0))) (by rw [hy]; rfl) ?_
      refine lv_astore_n (lv' := [(3, .ref (ad (7, f, 0))), (0, .ref (ad (0, 0, 0))), (1, .int (nI i)), (2, .int y)]) X.1 X.2.1 dX3_copyOf_5 rfl hl (by decide) rfl (fun ls hl => ?_)
      refine lv_aload_n X.1 X.2.1 dX3_copyOf_6 rfl (lv_at hl 0 rfl) ?_
      refine lv_ifnull X.1 X.2.1 dX3_copyOf_7 ?_
      refine lv_aload_n X.1 X.2.1 dX3_copyOf_10 rfl (lv_at hl 1 rfl) ?_
      refine lv_iload_n X.1 X.2.1 dX3_copyOf_11 rfl (lv_at hl 2 rfl) ?_
      refine h_callRV (t := (0, 0, 0)) (As := [.int (nI i)]) (rest := []) X hw cs_X3_91 (c_X3_storeOf l G hR (nI i)) hx rfl rfl hl.1 rfl (Nat.le_of_ble_eq_true rfl) ⟨by decide, by decide⟩ ⟨Nat.zero_le _, Nat.zero_le _⟩ dX3_copyOf_12 ?_
      refine h_tv (b := .ref (ad (6, i, 0))) (by rw [hx1]; rfl) ?_
      refine lv_ifnonnull (tgt := 22) X.1 X.2.1 dX3_copyOf_15 (by decide) ?_
      refine lv_aload_n X.1 X.2.1 dX3_copyOf_22 rfl (lv_at hl 0 rfl) ?_
      refine gf_X3_113 X hw (hit f hf).1 rfl dX3_copyOf_23 ?_
      refine lv_iload_n X.1 X.2.1 dX3_copyOf_26 rfl (lv_at hl 2 rfl) ?_
      refine h_aald X hw 5 rfl (hit f hf).2 (vp_in_nI (by omega) (by decide)) dX3_copyOf_27 ?_
      refine h_tv (b := va_rf ((s_cp σ i f).map (fun _ => ad (9, i, f)))) (by rw [nI_clamp (by omega)]; rfl) ?_
      exact h_aret (o := (s_cp σ i f).map (fun _ => ad (9, i, f))) X Y dX3_copyOf_28
set_option maxHeartbeats 4000000 in
set_option maxRecDepth 100000 in
/-- copiesOn: how many copies a store has -/
theorem c_X3_copiesOn (l : Launch) (G : h_G) {ad : h_T → Nat} {k : h_C} {σ : S_t} (hR : RX G ad k σ) {j : Nat} (hj : j < s_nS σ) : h_Rd l yX3_copiesOn cX3_copiesOn 4 (some .int) 2 44 G ad k [.ref (ad (0, 0, 0)), .int (nI j)] (some (.int (nI (cN (fun f => s_has σ j f) (s_nF σ))))) := by
  refine h_rd (by decide +kernel) (Nat.le_of_ble_eq_true rfl) ?_
  intro p e s m args below meth c X Y hw ls hl
  have hl : lv_has ls 4 [(0, .ref (ad (0, 0, 0))), (1, .int (nI j))] := hl
  have hok := hR.ok
  obtain ⟨hx, hs, hst, hi, hit, hcp, hcol, hmx, hask, -⟩ := id hR
  have hx : k (0, 0, 0) = some (.inr (3, [.int (nI (s_cop σ)), .ref (ad (1, 0, 0)), .int (nI (s_nS σ)), .ref (ad (2, 0, 0)), .int (nI (s_nF σ)), .ref (ad (3, 0, 0)), .ref (ad (4, 0, 0)), .ref (ad (5, 0, 0)), .ref (ad (5, 1, 0)), .ref (ad (5, 2, 0)), .int (nI (s_as σ).length), .int (s_dg σ)])) := hx
  have hnS : s_nS σ ≤ 10 := hok.2.1
  have hnF : s_nF σ ≤ 40 := hok.2.2.1
  have loop : ∀ (n i : Nat), i ≤ s_nF σ → s_nF σ + 1 ≤ i + n → ∀ (ls : Array Slot), lv_has ls 4 [(0, .ref (ad (0, 0, 0))), (1, .int (nI j)), (2, .int (nI (cN (fun f => s_has σ j f) i))), (3, .int (nI i))] → W p l e (h_rm 2 44 0 0) s m args below meth c s.heap [] 0 0 (MQ below (h_Qr (some (.int (nI (cN (fun f => s_has σ j f) (s_nF σ)))))) args s 0 0 (fun _ => False)) (F0 m 4 ls []) := by
    intro n
    induction n with
    | zero =>
      intro i h1 h2
      exact absurd h2 (by omega)
    | succ n ih =>
      intro i hii hni ls hl
      refine lv_iload_n X.1 X.2.1 dX3_copiesOn_4 rfl (lv_at hl 3 rfl) ?_
      refine lv_aload_n X.1 X.2.1 dX3_copiesOn_5 rfl (lv_at hl 0 rfl) ?_
      refine gf_X3_25 X hw hx rfl dX3_copiesOn_6 ?_
      refine lv_icmp_ge (tgt := 30) X.1 X.2.1 dX3_copiesOn_9 (by decide) (fun c9 => ?_) (fun c9 => ?_)
      · obtain rfl : i = s_nF σ := Nat.le_antisymm hii (Nat.le_of_not_lt (fun q => absurd c9 (nI_ge (b := s_nF σ) q (by omega))))
        refine lv_iload_n X.1 X.2.1 dX3_copiesOn_30 rfl (lv_at hl 2 rfl) ?_
        exact h_iret X Y dX3_copiesOn_31
      · have hib : i < s_nF σ := Nat.lt_of_not_le (fun q => c9 (nI_le (a := s_nF σ) q (by omega)))
        rcases hc : s_cp σ j i with _ | b
        · refine lv_aload_n X.1 X.2.1 dX3_copiesOn_12 rfl (lv_at hl 0 rfl) ?_
          refine lv_iload_n X.1 X.2.1 dX3_copiesOn_13 rfl (lv_at hl 1 rfl) ?_
          refine lv_iload_n X.1 X.2.1 dX3_copiesOn_14 rfl (lv_at hl 3 rfl) ?_
          refine h_callRV (t := (0, 0, 0)) (As := [.int (nI j), .int (nI i)]) (rest := []) X hw cs_X3_99 (c_X3_copyOf l G hR (nI j) (nI i)) hx rfl rfl hl.1 rfl (Nat.le_of_ble_eq_true rfl) ⟨by decide, by decide⟩ ⟨Nat.zero_le _, Nat.zero_le _⟩ dX3_copiesOn_15 ?_
          refine h_tv (b := .null) (by unfold x_copy; rw [ix_nI hib (by omega), ix_nI hj (by omega)]; simp only [Option.bind_some, hc]; rfl) ?_
          refine lv_ifnullN (tgt := 24) X.1 X.2.1 dX3_copiesOn_18 (by decide) ?_
          refine lv_iinc (v := nI (i + 1)) (lv' := [(3, .int (nI (i + 1))), (0, .ref (ad (0, 0, 0))), (1, .int (nI j)), (2, .int (nI (cN (fun f => s_has σ j f) i)))]) X.1 X.2.1 dX3_copiesOn_24 hl (k := 3) rfl (nI_1 _) (by decide) rfl (fun ls hl => ?_)
          refine lv_goto (tgt := 4) X.1 X.2.1 dX3_copiesOn_27 (by decide) ?_
          exact ih (i + 1) (by omega) (by omega) ls (by
            rw [cN_f (by unfold s_has; rw [hc]; rfl)]
            exact lv_sub hl [1, 2, 3, 0] rfl)
        · refine lv_aload_n X.1 X.2.1 dX3_copiesOn_12 rfl (lv_at hl 0 rfl) ?_
          refine lv_iload_n X.1 X.2.1 dX3_copiesOn_13 rfl (lv_at hl 1 rfl) ?_
          refine lv_iload_n X.1 X.2.1 dX3_copiesOn_14 rfl (lv_at hl 3 rfl) ?_
          refine h_callRV (t := (0, 0, 0)) (As := [.int (nI j), .int (nI i)]) (rest := []) X hw cs_X3_99 (c_X3_copyOf l G hR (nI j) (nI i)) hx rfl rfl hl.1 rfl (Nat.le_of_ble_eq_true rfl) ⟨by decide, by decide⟩ ⟨Nat.zero_le _, Nat.zero_le _⟩ dX3_copiesOn_15 ?_
          refine h_tv (b := .ref (ad (9, j, i))) (by unfold x_copy; rw [ix_nI hib (by omega), ix_nI hj (by omega)]; simp only [Option.bind_some, hc]; rfl) ?_
          refine lv_ifnull X.1 X.2.1 dX3_copiesOn_18 ?_
          refine lv_iinc (v := nI ((cN (fun f => s_has σ j f) i) + 1)) (lv' := [(2, .int (nI ((cN (fun f => s_has σ j f) i) + 1))), (0, .ref (ad (0, 0, 0))), (1, .int (nI j)), (3, .int (nI i))]) X.1 X.2.1 dX3_copiesOn_21 hl (k := 2) rfl (nI_1 _) (by decide) rfl (fun ls hl => ?_)
          refine lv_iinc (v := nI (i + 1)) (lv' := [(3, .int (nI (i + 1))), (2, .int (nI ((cN (fun f => s_has σ j f) i) + 1))), (0, .ref (ad (0, 0, 0))), (1, .int (nI j))]) X.1 X.2.1 dX3_copiesOn_24 hl (k := 3) rfl (nI_1 _) (by decide) rfl (fun ls hl => ?_)
          refine lv_goto (tgt := 4) X.1 X.2.1 dX3_copiesOn_27 (by decide) ?_
          exact ih (i + 1) (by omega) (by omega) ls (by
            rw [cN_t (by unfold s_has; rw [hc]; rfl)]
            exact lv_sub hl [2, 3, 1, 0] rfl)
  refine lv_iconst (v := 0) X.1 X.2.1 dX3_copiesOn_0 (by decide) ?_
  refine lv_istore_n (lv' := [(2, .int 0), (0, .ref (ad (0, 0, 0))), (1, .int (nI j))]) X.1 X.2.1 dX3_copiesOn_1 rfl hl (by decide) rfl (fun ls hl => ?_)
  refine lv_iconst (v := 0) X.1 X.2.1 dX3_copiesOn_2 (by decide) ?_
  refine lv_istore_n (lv' := [(3, .int 0), (2, .int 0), (0, .ref (ad (0, 0, 0))), (1, .int (nI j))]) X.1 X.2.1 dX3_copiesOn_3 rfl hl (by decide) rfl (fun ls hl => ?_)
  exact loop (s_nF σ + 1) 0 (by omega) (by omega) ls (lv_sub hl [2, 3, 1, 0] rfl)
set_option maxHeartbeats 4000000 in
set_option maxRecDepth 100000 in
/-- countingRow: the copy if it counts -/
theorem c_X3_countingRow (l : Launch) (G : h_G) {ad : h_T → Nat} {k : h_C} {σ : S_t} (hR : RX G ad k σ) {f j : Nat} (hf : f < s_nF σ) (hj : j < s_nS σ) : h_Rd l yX3_countingRow cX3_countingRow 3 (some (.object "CopyPolls$Row")) 2 43 G ad k [.ref (ad (0, 0, 0)), .ref (ad (7, f, 0)), .int (nI j)] (some (va_rf ((s_cnt σ j f).map (fun _ => ad (9, j, f))))) := by
  refine h_rd (by decide +kernel) (Nat.le_of_ble_eq_true rfl) ?_
  intro p e s m args below meth c X Y hw ls hl
  have hl : lv_has ls 3 [(0, .ref (ad (0, 0, 0))), (1, .ref (ad (7, f, 0))), (2, .int (nI j))] := hl
  have hok := hR.ok
  obtain ⟨hx, hs, hst, hi, hit, hcp, hcol, hmx, hask, -⟩ := id hR
  have hx : k (0, 0, 0) = some (.inr (3, [.int (nI (s_cop σ)), .ref (ad (1, 0, 0)), .int (nI (s_nS σ)), .ref (ad (2, 0, 0)), .int (nI (s_nF σ)), .ref (ad (3, 0, 0)), .ref (ad (4, 0, 0)), .ref (ad (5, 0, 0)), .ref (ad (5, 1, 0)), .ref (ad (5, 2, 0)), .int (nI (s_as σ).length), .int (s_dg σ)])) := hx
  have hnS : s_nS σ ≤ 10 := hok.2.1
  have hnF : s_nF σ ≤ 40 := hok.2.2.1
  unfold s_cnt
  rcases hsi : s_si σ j with _ | _
  · refine lv_aload_n X.1 X.2.1 dX3_countingRow_0 rfl (lv_at hl 0 rfl) ?_
    refine lv_iload_n X.1 X.2.1 dX3_countingRow_1 rfl (lv_at hl 2 rfl) ?_
    refine h_callRV (t := (0, 0, 0)) (As := [.int (nI j)]) (rest := []) X hw cs_X3_153 (c_X3_isAnswering l G hR (nI j)) hx rfl rfl hl.1 rfl (Nat.le_of_ble_eq_true rfl) ⟨by decide, by decide⟩ ⟨Nat.zero_le _, Nat.zero_le _⟩ dX3_countingRow_2 ?_
    refine h_tv (b := .int 1) (by rw [ix_nI hj (by omega)]; simp only [hsi]; rfl) ?_
    refine lv_if_eq (tgt := 17) X.1 X.2.1 dX3_countingRow_5 (by decide) (fun c5 => ?_) (fun c5 => ?_)
    · exact absurd c5 (by decide)
    · refine lv_aload_n X.1 X.2.1 dX3_countingRow_8 rfl (lv_at hl 1 rfl) ?_
      refine gf_X3_113 X hw (hit f hf).1 rfl dX3_countingRow_9 ?_
      refine lv_iload_n X.1 X.2.1 dX3_countingRow_12 rfl (lv_at hl 2 rfl) ?_
      refine h_aald X hw 5 rfl (hit f hf).2 (vp_in_nI (by omega) (by decide)) dX3_countingRow_13 ?_
      refine h_tv (b := va_rf ((s_cp σ j f).map (fun _ => ad (9, j, f)))) (by rw [nI_clamp (by omega)]; rfl) ?_
      refine lv_goto (tgt := 18) X.1 X.2.1 dX3_countingRow_14 (by decide) ?_
      exact h_aret (o := (s_cp σ j f).map (fun _ => ad (9, j, f))) X Y dX3_countingRow_18
  · refine lv_aload_n X.1 X.2.1 dX3_countingRow_0 rfl (lv_at hl 0 rfl) ?_
    refine lv_iload_n X.1 X.2.1 dX3_countingRow_1 rfl (lv_at hl 2 rfl) ?_
    refine h_callRV (t := (0, 0, 0)) (As := [.int (nI j)]) (rest := []) X hw cs_X3_153 (c_X3_isAnswering l G hR (nI j)) hx rfl rfl hl.1 rfl (Nat.le_of_ble_eq_true rfl) ⟨by decide, by decide⟩ ⟨Nat.zero_le _, Nat.zero_le _⟩ dX3_countingRow_2 ?_
    refine h_tv (b := .int 0) (by rw [ix_nI hj (by omega)]; simp only [hsi]; rfl) ?_
    refine lv_if_eq (tgt := 17) X.1 X.2.1 dX3_countingRow_5 (by decide) (fun c5 => ?_) (fun c5 => ?_)
    · refine lv_null X.1 X.2.1 dX3_countingRow_17 ?_
      exact h_aret (o := none) X Y dX3_countingRow_18
    · exact absurd (by decide) c5
set_option maxHeartbeats 4000000 in
set_option maxRecDepth 100000 in
/-- countingCopies: how many copies count -/
theorem c_X3_countingCopies (l : Launch) (G : h_G) {ad : h_T → Nat} {k : h_C} {σ : S_t} (hR : RX G ad k σ) {f : Nat} (hf : f < s_nF σ) : h_Rd l yX3_countingCopies cX3_countingCopies 4 (some .int) 3 65 G ad k [.ref (ad (0, 0, 0)), .ref (ad (7, f, 0))] (some (.int (nI (cN (s_isC σ f) (s_nS σ))))) := by
  refine h_rd (by decide +kernel) (Nat.le_of_ble_eq_true rfl) ?_
  intro p e s m args below meth c X Y hw ls hl
  have hl : lv_has ls 4 [(0, .ref (ad (0, 0, 0))), (1, .ref (ad (7, f, 0)))] := hl
  have hok := hR.ok
  obtain ⟨hx, hs, hst, hi, hit, hcp, hcol, hmx, hask, -⟩ := id hR
  have hx : k (0, 0, 0) = some (.inr (3, [.int (nI (s_cop σ)), .ref (ad (1, 0, 0)), .int (nI (s_nS σ)), .ref (ad (2, 0, 0)), .int (nI (s_nF σ)), .ref (ad (3, 0, 0)), .ref (ad (4, 0, 0)), .ref (ad (5, 0, 0)), .ref (ad (5, 1, 0)), .ref (ad (5, 2, 0)), .int (nI (s_as σ).length), .int (s_dg σ)])) := hx
  have hnS : s_nS σ ≤ 10 := hok.2.1
  have hnF : s_nF σ ≤ 40 := hok.2.2.1
  have loop : ∀ (n i : Nat), i ≤ s_nS σ → s_nS σ + 1 ≤ i + n → ∀ (ls : Array Slot), lv_has ls 4 [(0, .ref (ad (0, 0, 0))), (1, .ref (ad (7, f, 0))), (2, .int (nI (cN (s_isC σ f) i))), (3, .int (nI i))] → W p l e (h_rm 3 65 0 0) s m args below meth c s.heap [] 0 0 (MQ below (h_Qr (some (.int (nI (cN (s_isC σ f) (s_nS σ)))))) args s 0 0 (fun _ => False)) (F0 m 4 ls []) := by
    intro n
    induction n with
    | zero =>
      intro i h1 h2
      exact absurd h2 (by omega)
    | succ n ih =>
      intro i hii hni ls hl
      refine lv_iload_n X.1 X.2.1 dX3_countingCopies_4 rfl (lv_at hl 3 rfl) ?_
      refine lv_aload_n X.1 X.2.1 dX3_countingCopies_5 rfl (lv_at hl 0 rfl) ?_
      refine gf_X3_15 X hw hx rfl dX3_countingCopies_6 ?_
      refine lv_icmp_ge (tgt := 30) X.1 X.2.1 dX3_countingCopies_9 (by decide) (fun c9 => ?_) (fun c9 => ?_)
      · obtain rfl : i = s_nS σ := Nat.le_antisymm hii (Nat.le_of_not_lt (fun q => absurd c9 (nI_ge (b := s_nS σ) q (by omega))))
        refine lv_iload_n X.1 X.2.1 dX3_countingCopies_30 rfl (lv_at hl 2 rfl) ?_
        exact h_iret X Y dX3_countingCopies_31
      · have hib : i < s_nS σ := Nat.lt_of_not_le (fun q => c9 (nI_le (a := s_nS σ) q (by omega)))
        rcases hc : s_cnt σ i f with _ | b
        · refine lv_aload_n X.1 X.2.1 dX3_countingCopies_12 rfl (lv_at hl 0 rfl) ?_
          refine lv_aload_n X.1 X.2.1 dX3_countingCopies_13 rfl (lv_at hl 1 rfl) ?_
          refine lv_iload_n X.1 X.2.1 dX3_countingCopies_14 rfl (lv_at hl 3 rfl) ?_
          refine h_callRV (t := (0, 0, 0)) (As := [.ref (ad (7, f, 0)), .int (nI i)]) (rest := []) X hw cs_X3_202 (c_X3_countingRow l G hR hf hib) hx rfl rfl hl.1 rfl (Nat.le_of_ble_eq_true rfl) ⟨by decide, by decide⟩ ⟨Nat.zero_le _, Nat.zero_le _⟩ dX3_countingCopies_15 ?_
          refine h_tv (b := .null) (by rw [hc]; rfl) ?_
          refine lv_ifnullN (tgt := 24) X.1 X.2.1 dX3_countingCopies_18 (by decide) ?_
          refine lv_iinc (v := nI (i + 1)) (lv' := [(3, .int (nI (i + 1))), (0, .ref (ad (0, 0, 0))), (1, .ref (ad (7, f, 0))), (2, .int (nI (cN (s_isC σ f) i)))]) X.1 X.2.1 dX3_countingCopies_24 hl (k := 3) rfl (nI_1 _) (by decide) rfl (fun ls hl => ?_)
          refine lv_goto (tgt := 4) X.1 X.2.1 dX3_countingCopies_27 (by decide) ?_
          exact ih (i + 1) (by omega) (by omega) ls (by
            rw [cN_f (by unfold s_isC; rw [hc]; rfl)]
            exact lv_sub hl [1, 2, 3, 0] rfl)
        · refine lv_aload_n X.1 X.2.1 dX3_countingCopies_12 rfl (lv_at hl 0 rfl) ?_
          refine lv_aload_n X.1 X.2.1 dX3_countingCopies_13 rfl (lv_at hl 1 rfl) ?_
          refine lv_iload_n X.1 X.2.1 dX3_countingCopies_14 rfl (lv_at hl 3 rfl) ?_
          refine h_callRV (t := (0, 0, 0)) (As := [.ref (ad (7, f, 0)), .int (nI i)]) (rest := []) X hw cs_X3_202 (c_X3_countingRow l G hR hf hib) hx rfl rfl hl.1 rfl (Nat.le_of_ble_eq_true rfl) ⟨by decide, by decide⟩ ⟨Nat.zero_le _, Nat.zero_le _⟩ dX3_countingCopies_15 ?_
          refine h_tv (b := .ref (ad (9, i, f))) (by rw [hc]; rfl) ?_
          refine lv_ifnull X.1 X.2.1 dX3_countingCopies_18 ?_
          refine lv_iinc (v := nI ((cN (s_isC σ f) i) + 1)) (lv' := [(2, .int (nI ((cN (s_isC σ f) i) + 1))), (0, .ref (ad (0, 0, 0))), (1, .ref (ad (7, f, 0))), (3, .int (nI i))]) X.1 X.2.1 dX3_countingCopies_21 hl (k := 2) rfl (nI_1 _) (by decide) rfl (fun ls hl => ?_)
          refine lv_iinc (v := nI (i + 1)) (lv' := [(3, .int (nI (i + 1))), (2, .int (nI ((cN (s_isC σ f) i) + 1))), (0, .ref (ad (0, 0, 0))), (1, .ref (ad (7, f, 0)))]) X.1 X.2.1 dX3_countingCopies_24 hl (k := 3) rfl (nI_1 _) (by decide) rfl (fun ls hl => ?_)
          refine lv_goto (tgt := 4) X.1 X.2.1 dX3_countingCopies_27 (by decide) ?_
          exact ih (i + 1) (by omega) (by omega) ls (by
            rw [cN_t (by unfold s_isC; rw [hc]; rfl)]
            exact lv_sub hl [2, 3, 1, 0] rfl)
  refine lv_iconst (v := 0) X.1 X.2.1 dX3_countingCopies_0 (by decide) ?_
  refine lv_istore_n (lv' := [(2, .int 0), (0, .ref (ad (0, 0, 0))), (1, .ref (ad (7, f, 0)))]) X.1 X.2.1 dX3_countingCopies_1 rfl hl (by decide) rfl (fun ls hl => ?_)
  refine lv_iconst (v := 0) X.1 X.2.1 dX3_countingCopies_2 (by decide) ?_
  refine lv_istore_n (lv' := [(3, .int 0), (2, .int 0), (0, .ref (ad (0, 0, 0))), (1, .ref (ad (7, f, 0)))]) X.1 X.2.1 dX3_countingCopies_3 rfl hl (by decide) rfl (fun ls hl => ?_)
  exact loop (s_nS σ + 1) 0 (by omega) (by omega) ls (lv_sub hl [2, 3, 1, 0] rfl)
set_option maxHeartbeats 4000000 in
set_option maxRecDepth 100000 in
/-- countingWith: how many that count have that digest -/
theorem c_X3_countingWith (l : Launch) (G : h_G) {ad : h_T → Nat} {k : h_C} {σ : S_t} (hR : RX G ad k σ) {f : Nat} (hf : f < s_nF σ) (d : Int32) : h_Rd l yX3_countingWith cX3_countingWith 6 (some .int) 3 65 G ad k [.ref (ad (0, 0, 0)), .ref (ad (7, f, 0)), .int d] (some (.int (nI (cN (s_isD σ f d) (s_nS σ))))) := by
  refine h_rd (by decide +kernel) (Nat.le_of_ble_eq_true rfl) ?_
  intro p e s m args below meth c X Y hw ls hl
  have hl : lv_has ls 6 [(0, .ref (ad (0, 0, 0))), (1, .ref (ad (7, f, 0))), (2, .int d)] := hl
  have hok := hR.ok
  obtain ⟨hx, hs, hst, hi, hit, hcp, hcol, hmx, hask, -⟩ := id hR
  have hx : k (0, 0, 0) = some (.inr (3, [.int (nI (s_cop σ)), .ref (ad (1, 0, 0)), .int (nI (s_nS σ)), .ref (ad (2, 0, 0)), .int (nI (s_nF σ)), .ref (ad (3, 0, 0)), .ref (ad (4, 0, 0)), .ref (ad (5, 0, 0)), .ref (ad (5, 1, 0)), .ref (ad (5, 2, 0)), .int (nI (s_as σ).length), .int (s_dg σ)])) := hx
  have hnS : s_nS σ ≤ 10 := hok.2.1
  have hnF : s_nF σ ≤ 40 := hok.2.2.1
  have loop : ∀ (n i : Nat), i ≤ s_nS σ → s_nS σ + 1 ≤ i + n → ∀ (ls : Array Slot), lv_has ls 6 [(0, .ref (ad (0, 0, 0))), (1, .ref (ad (7, f, 0))), (2, .int d), (3, .int (nI (cN (s_isD σ f d) i))), (4, .int (nI i))] → W p l e (h_rm 3 65 0 0) s m args below meth c s.heap [] 0 0 (MQ below (h_Qr (some (.int (nI (cN (s_isD σ f d) (s_nS σ)))))) args s 0 0 (fun _ => False)) (F0 m 5 ls []) := by
    intro n
    induction n with
    | zero =>
      intro i h1 h2
      exact absurd h2 (by omega)
    | succ n ih =>
      intro i hii hni ls hl
      refine lv_iload X.1 X.2.1 dX3_countingWith_5 (lv_at hl 4 rfl) ?_
      refine lv_aload_n X.1 X.2.1 dX3_countingWith_7 rfl (lv_at hl 0 rfl) ?_
      refine gf_X3_15 X hw hx rfl dX3_countingWith_8 ?_
      refine lv_icmp_ge (tgt := 46) X.1 X.2.1 dX3_countingWith_11 (by decide) (fun c11 => ?_) (fun c11 => ?_)
      · obtain rfl : i = s_nS σ := Nat.le_antisymm hii (Nat.le_of_not_lt (fun q => absurd c11 (nI_ge (b := s_nS σ) q (by omega))))
        refine lv_iload_n X.1 X.2.1 dX3_countingWith_46 rfl (lv_at hl 3 rfl) ?_
        exact h_iret X Y dX3_countingWith_47
      · have hib : i < s_nS σ := Nat.lt_of_not_le (fun q => c11 (nI_le (a := s_nS σ) q (by omega)))
        rcases hc : s_cnt σ i f with _ | b
        · refine lv_aload_n X.1 X.2.1 dX3_countingWith_14 rfl (lv_at hl 0 rfl) ?_
          refine lv_aload_n X.1 X.2.1 dX3_countingWith_15 rfl (lv_at hl 1 rfl) ?_
          refine lv_iload X.1 X.2.1 dX3_countingWith_16 (lv_at hl 4 rfl) ?_
          refine h_callRV (t := (0, 0, 0)) (As := [.ref (ad (7, f, 0)), .int (nI i)]) (rest := []) X hw cs_X3_202 (c_X3_countingRow l G hR hf hib) hx rfl rfl hl.1 rfl (Nat.le_of_ble_eq_true rfl) ⟨by decide, by decide⟩ ⟨Nat.zero_le _, Nat.zero_le _⟩ dX3_countingWith_18 ?_
          refine h_tv (b := .null) (by rw [hc]; rfl) ?_
          refine lv_astoreN (lv' := [(5, .null), (0, .ref (ad (0, 0, 0))), (1, .ref (ad (7, f, 0))), (2, .int d), (3, .int (nI (cN (s_isD σ f d) i))), (4, .int (nI i))]) X.1 X.2.1 dX3_countingWith_21 hl (by decide) rfl (fun ls hl => ?_)
          refine lv_aloadN X.1 X.2.1 dX3_countingWith_23 (lv_at hl 0 rfl) ?_
          refine lv_ifnullN (tgt := 40) X.1 X.2.1 dX3_countingWith_25 (by decide) ?_
          refine lv_iinc (v := nI (i + 1)) (lv' := [(4, .int (nI (i + 1))), (5, .null), (0, .ref (ad (0, 0, 0))), (1, .ref (ad (7, f, 0))), (2, .int d), (3, .int (nI (cN (s_isD σ f d) i)))]) X.1 X.2.1 dX3_countingWith_40 hl (k := 5) rfl (nI_1 _) (by decide) rfl (fun ls hl => ?_)
          refine lv_goto (tgt := 5) X.1 X.2.1 dX3_countingWith_43 (by decide) ?_
          exact ih (i + 1) (by omega) (by omega) ls (by
            rw [cN_f (by unfold s_isD; rw [hc])]
            exact lv_sub hl [2, 3, 4, 5, 0] rfl)
        · refine lv_aload_n X.1 X.2.1 dX3_countingWith_14 rfl (lv_at hl 0 rfl) ?_
          refine lv_aload_n X.1 X.2.1 dX3_countingWith_15 rfl (lv_at hl 1 rfl) ?_
          refine lv_iload X.1 X.2.1 dX3_countingWith_16 (lv_at hl 4 rfl) ?_
          refine h_callRV (t := (0, 0, 0)) (As := [.ref (ad (7, f, 0)), .int (nI i)]) (rest := []) X hw cs_X3_202 (c_X3_countingRow l G hR hf hib) hx rfl rfl hl.1 rfl (Nat.le_of_ble_eq_true rfl) ⟨by decide, by decide⟩ ⟨Nat.zero_le _, Nat.zero_le _⟩ dX3_countingWith_18 ?_
          refine h_tv (b := .ref (ad (9, i, f))) (by rw [hc]; rfl) ?_
          refine lv_astore (lv' := [(5, .ref (ad (9, i, f))), (0, .ref (ad (0, 0, 0))), (1, .ref (ad (7, f, 0))), (2, .int d), (3, .int (nI (cN (s_isD σ f d) i))), (4, .int (nI i))]) X.1 X.2.1 dX3_countingWith_21 hl (by decide) rfl (fun ls hl => ?_)
          refine lv_aload X.1 X.2.1 dX3_countingWith_23 (lv_at hl 0 rfl) ?_
          refine lv_ifnull X.1 X.2.1 dX3_countingWith_25 ?_
          refine lv_aload X.1 X.2.1 dX3_countingWith_28 (lv_at hl 0 rfl) ?_
          refine h_callRV (t := (9, i, f)) (As := []) (rest := []) X hw cs_X3_143 (c_X1_sum l G (hcp i f b (s_cnt_cp hc).1) (hok.2.2.2.2.2.2.1 i f b (s_cnt_cp hc).1)) (hcp i f b (s_cnt_cp hc).1).1 rfl rfl hl.1 rfl (Nat.le_of_ble_eq_true rfl) ⟨by decide, by decide⟩ ⟨Nat.zero_le _, Nat.zero_le _⟩ dX3_countingWith_30 ?_
          refine lv_iload_n X.1 X.2.1 dX3_countingWith_33 rfl (lv_at hl 3 rfl) ?_
          refine lv_icmp_ne (tgt := 40) X.1 X.2.1 dX3_countingWith_34 (by decide) (fun c34 => ?_) (fun c34 => ?_)
          · refine lv_iinc (v := nI (i + 1)) (lv' := [(4, .int (nI (i + 1))), (5, .ref (ad (9, i, f))), (0, .ref (ad (0, 0, 0))), (1, .ref (ad (7, f, 0))), (2, .int d), (3, .int (nI (cN (s_isD σ f d) i)))]) X.1 X.2.1 dX3_countingWith_40 hl (k := 5) rfl (nI_1 _) (by decide) rfl (fun ls hl => ?_)
            refine lv_goto (tgt := 5) X.1 X.2.1 dX3_countingWith_43 (by decide) ?_
            exact ih (i + 1) (by omega) (by omega) ls (by
              rw [cN_f (by unfold s_isD; rw [hc]; simpa using c34)]
              exact lv_sub hl [2, 3, 4, 5, 0] rfl)
          · refine lv_iinc (v := nI ((cN (s_isD σ f d) i) + 1)) (lv' := [(3, .int (nI ((cN (s_isD σ f d) i) + 1))), (5, .ref (ad (9, i, f))), (0, .ref (ad (0, 0, 0))), (1, .ref (ad (7, f, 0))), (2, .int d), (4, .int (nI i))]) X.1 X.2.1 dX3_countingWith_37 hl (k := 4) rfl (nI_1 _) (by decide) rfl (fun ls hl => ?_)
            refine lv_iinc (v := nI (i + 1)) (lv' := [(4, .int (nI (i + 1))), (3, .int (nI ((cN (s_isD σ f d) i) + 1))), (5, .ref (ad (9, i, f))), (0, .ref (ad (0, 0, 0))), (1, .ref (ad (7, f, 0))), (2, .int d)]) X.1 X.2.1 dX3_countingWith_40 hl (k := 5) rfl (nI_1 _) (by decide) rfl (fun ls hl => ?_)
            refine lv_goto (tgt := 5) X.1 X.2.1 dX3_countingWith_43 (by decide) ?_
            exact ih (i + 1) (by omega) (by omega) ls (by
              rw [cN_t (by unfold s_isD; rw [hc]; simpa using c34)]
              exact lv_sub hl [3, 4, 5, 1, 0] rfl)
  refine lv_iconst (v := 0) X.1 X.2.1 dX3_countingWith_0 (by decide) ?_
  refine lv_istore_n (lv' := [(3, .int 0), (0, .ref (ad (0, 0, 0))), (1, .ref (ad (7, f, 0))), (2, .int d)]) X.1 X.2.1 dX3_countingWith_1 rfl hl (by decide) rfl (fun ls hl => ?_)
  refine lv_iconst (v := 0) X.1 X.2.1 dX3_countingWith_2 (by decide) ?_
  refine lv_istore (lv' := [(4, .int 0), (3, .int 0), (0, .ref (ad (0, 0, 0))), (1, .ref (ad (7, f, 0))), (2, .int d)]) X.1 X.2.1 dX3_countingWith_3 hl (by decide) rfl (fun ls hl => ?_)
  exact loop (s_nS σ + 1) 0 (by omega) (by omega) ls (lv_sub hl [2, 3, 4, 1, 0] rfl)
