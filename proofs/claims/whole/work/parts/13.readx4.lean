set_option maxHeartbeats 4000000 in
set_option maxRecDepth 100000 in
/-- majorityRow: the leading copy, or null -/
theorem c_X3_majorityRow (l : Launch) (G : h_G) {ad : h_T → Nat} {k : h_C} {σ : S_t} (hR : RX G ad k σ) {f : Nat} (hf : f < s_nF σ) : h_Rd l yX3_majorityRow cX3_majorityRow 5 (some (.object "CopyPolls$Row")) 4 90 G ad k [.ref (ad (0, 0, 0)), .ref (ad (7, f, 0))] (some (va_rf ((s_lead σ f).map (fun s => ad (9, s, f))))) := by
  refine h_rd (by decide +kernel) (Nat.le_of_ble_eq_true rfl) ?_
  intro p e s m args below meth c X Y hw ls hl
  have hl : lv_has ls 5 [(0, .ref (ad (0, 0, 0))), (1, .ref (ad (7, f, 0)))] := hl
  have hok := hR.ok
  obtain ⟨hx, hs, hst, hi, hit, hcp, hcol, hmx, hask, -⟩ := id hR
  have hx : k (0, 0, 0) = some (.inr (3, [.int (nI (s_cop σ)), .ref (ad (1, 0, 0)), .int (nI (s_nS σ)), .ref (ad (2, 0, 0)), .int (nI (s_nF σ)), .ref (ad (3, 0, 0)), .ref (ad (4, 0, 0)), .ref (ad (5, 0, 0)), .ref (ad (5, 1, 0)), .ref (ad (5, 2, 0)), .int (nI (s_as σ).length), .int (s_dg σ)])) := hx
  have hnS : s_nS σ ≤ 10 := hok.2.1
  have hnF : s_nF σ ≤ 40 := hok.2.2.1
  have loop : ∀ (n i : Nat), i ≤ s_nS σ → s_nS σ + 1 ≤ i + n → (∀ j, j < i → s_maj σ f j = false) → ∀ (ls : Array Slot), lv_has ls 5 [(0, .ref (ad (0, 0, 0))), (1, .ref (ad (7, f, 0))), (2, .int (nI (cN (s_isC σ f) (s_nS σ)))), (3, .int (nI i))] → W p l e (h_rm 4 90 0 0) s m args below meth c s.heap [] 0 0 (MQ below (h_Qr (some (va_rf ((s_lead σ f).map (fun s => ad (9, s, f)))))) args s 0 0 (fun _ => False)) (F0 m 8 ls []) := by
    intro n
    induction n with
    | zero =>
      intro i h1 h2
      exact absurd h2 (by omega)
    | succ n ih =>
      intro i hii hni hinv ls hl
      refine lv_iload_n X.1 X.2.1 dX3_majorityRow_8 rfl (lv_at hl 3 rfl) ?_
      refine lv_aload_n X.1 X.2.1 dX3_majorityRow_9 rfl (lv_at hl 0 rfl) ?_
      refine gf_X3_15 X hw hx rfl dX3_majorityRow_10 ?_
      refine lv_icmp_ge (tgt := 54) X.1 X.2.1 dX3_majorityRow_13 (by decide) (fun c13 => ?_) (fun c13 => ?_)
      · have hii2 : s_nS σ ≤ i := Nat.le_of_not_lt (fun q => absurd c13 (nI_ge q (by omega)))
        refine lv_null X.1 X.2.1 dX3_majorityRow_54 ?_
        rw [show s_lead σ f = none from ff_miss (n := s_nS σ) (fun j hj => hinv j (by omega))]
        exact h_aret (o := none) X Y dX3_majorityRow_55
      · have hib : i < s_nS σ := Nat.lt_of_not_le (fun q => c13 (nI_le q (by omega)))
        rcases hc : s_cnt σ i f with _ | b
        · refine lv_aload_n X.1 X.2.1 dX3_majorityRow_16 rfl (lv_at hl 0 rfl) ?_
          refine lv_aload_n X.1 X.2.1 dX3_majorityRow_17 rfl (lv_at hl 1 rfl) ?_
          refine lv_iload_n X.1 X.2.1 dX3_majorityRow_18 rfl (lv_at hl 3 rfl) ?_
          refine h_callRV (t := (0, 0, 0)) (As := [.ref (ad (7, f, 0)), .int (nI i)]) (rest := []) X hw cs_X3_202 (c_X3_countingRow l G hR hf hib) hx rfl rfl hl.1 rfl (Nat.le_of_ble_eq_true rfl) ⟨by decide, by decide⟩ ⟨Nat.zero_le _, Nat.zero_le _⟩ dX3_majorityRow_19 ?_
          refine h_tv (b := .null) (by rw [hc]; rfl) ?_
          refine lv_astoreN (lv' := [(4, .null), (0, .ref (ad (0, 0, 0))), (1, .ref (ad (7, f, 0))), (2, .int (nI (cN (s_isC σ f) (s_nS σ)))), (3, .int (nI i))]) X.1 X.2.1 dX3_majorityRow_22 hl (by decide) rfl (fun ls hl => ?_)
          refine lv_aloadN X.1 X.2.1 dX3_majorityRow_24 (lv_at hl 0 rfl) ?_
          refine lv_ifnullN (tgt := 48) X.1 X.2.1 dX3_majorityRow_26 (by decide) ?_
          refine lv_iinc (v := nI (i + 1)) (lv' := [(3, .int (nI (i + 1))), (4, .null), (0, .ref (ad (0, 0, 0))), (1, .ref (ad (7, f, 0))), (2, .int (nI (cN (s_isC σ f) (s_nS σ))))]) X.1 X.2.1 dX3_majorityRow_48 hl (k := 4) rfl (nI_1 _) (by decide) rfl (fun ls hl => ?_)
          refine lv_goto (tgt := 8) X.1 X.2.1 dX3_majorityRow_51 (by decide) ?_
          exact ih (i + 1) (by omega) (by omega) (fun j hj => by
              rcases Nat.lt_succ_iff_lt_or_eq.mp hj with q | q
              · exact hinv j q
              · subst q
                unfold s_maj; rw [hc]) ls (lv_sub hl [2, 3, 4, 0] rfl)
        · refine lv_aload_n X.1 X.2.1 dX3_majorityRow_16 rfl (lv_at hl 0 rfl) ?_
          refine lv_aload_n X.1 X.2.1 dX3_majorityRow_17 rfl (lv_at hl 1 rfl) ?_
          refine lv_iload_n X.1 X.2.1 dX3_majorityRow_18 rfl (lv_at hl 3 rfl) ?_
          refine h_callRV (t := (0, 0, 0)) (As := [.ref (ad (7, f, 0)), .int (nI i)]) (rest := []) X hw cs_X3_202 (c_X3_countingRow l G hR hf hib) hx rfl rfl hl.1 rfl (Nat.le_of_ble_eq_true rfl) ⟨by decide, by decide⟩ ⟨Nat.zero_le _, Nat.zero_le _⟩ dX3_majorityRow_19 ?_
          refine h_tv (b := .ref (ad (9, i, f))) (by rw [hc]; rfl) ?_
          refine lv_astore (lv' := [(4, .ref (ad (9, i, f))), (0, .ref (ad (0, 0, 0))), (1, .ref (ad (7, f, 0))), (2, .int (nI (cN (s_isC σ f) (s_nS σ)))), (3, .int (nI i))]) X.1 X.2.1 dX3_majorityRow_22 hl (by decide) rfl (fun ls hl => ?_)
          refine lv_aload X.1 X.2.1 dX3_majorityRow_24 (lv_at hl 0 rfl) ?_
          refine lv_ifnull X.1 X.2.1 dX3_majorityRow_26 ?_
          refine lv_iconst (v := 2) X.1 X.2.1 dX3_majorityRow_29 (by decide) ?_
          refine lv_aload_n X.1 X.2.1 dX3_majorityRow_30 rfl (lv_at hl 1 rfl) ?_
          refine lv_aload_n X.1 X.2.1 dX3_majorityRow_31 rfl (lv_at hl 2 rfl) ?_
          refine lv_aload X.1 X.2.1 dX3_majorityRow_32 (lv_at hl 0 rfl) ?_
          refine h_callRV (t := (9, i, f)) (As := []) (rest := [.ref (ad (7, f, 0)), .ref (ad (0, 0, 0)), .int 2]) X hw cs_X3_143 (c_X1_sum l G (hcp i f b (s_cnt_cp hc).1) (hok.2.2.2.2.2.2.1 i f b (s_cnt_cp hc).1)) (hcp i f b (s_cnt_cp hc).1).1 rfl rfl hl.1 rfl (Nat.le_of_ble_eq_true rfl) ⟨by decide, by decide⟩ ⟨Nat.zero_le _, Nat.zero_le _⟩ dX3_majorityRow_34 ?_
          refine h_callRV (t := (0, 0, 0)) (As := [.ref (ad (7, f, 0)), .int (dgL b)]) (rest := [.int 2]) X hw cs_X3_210 (c_X3_countingWith l G hR hf (dgL b)) hx rfl rfl hl.1 rfl (Nat.le_of_ble_eq_true rfl) ⟨by decide, by decide⟩ ⟨Nat.zero_le _, Nat.zero_le _⟩ dX3_majorityRow_37 ?_
          refine lv_imul X.1 X.2.1 dX3_majorityRow_40 ?_
          refine h_ti (b := nI (2 * cN (s_isD σ f (dgL b)) (s_nS σ))) (pk_mul 2 _) ?_
          refine lv_iload_n X.1 X.2.1 dX3_majorityRow_41 rfl (lv_at hl 3 rfl) ?_
          refine lv_icmp_le (tgt := 48) X.1 X.2.1 dX3_majorityRow_42 (by decide) (fun c42 => ?_) (fun c42 => ?_)
          · have hb1 := cN_le (s_isC σ f) (s_nS σ)
            have hb2 := cN_le (s_isD σ f (dgL b)) (s_nS σ)
            refine lv_iinc (v := nI (i + 1)) (lv' := [(3, .int (nI (i + 1))), (4, .ref (ad (9, i, f))), (0, .ref (ad (0, 0, 0))), (1, .ref (ad (7, f, 0))), (2, .int (nI (cN (s_isC σ f) (s_nS σ))))]) X.1 X.2.1 dX3_majorityRow_48 hl (k := 4) rfl (nI_1 _) (by decide) rfl (fun ls hl => ?_)
            refine lv_goto (tgt := 8) X.1 X.2.1 dX3_majorityRow_51 (by decide) ?_
            exact ih (i + 1) (by omega) (by omega) (fun j hj => by
                rcases Nat.lt_succ_iff_lt_or_eq.mp hj with q | q
                · exact hinv j q
                · subst q
                  unfold s_maj; rw [hc]; simp only [decide_eq_false_iff_not, Nat.not_lt]
                  exact (nI_leI (by omega) (by omega)).mp c42) ls (lv_sub hl [2, 3, 4, 0] rfl)
          · have hb1 := cN_le (s_isC σ f) (s_nS σ)
            have hb2 := cN_le (s_isD σ f (dgL b)) (s_nS σ)
            refine lv_aload X.1 X.2.1 dX3_majorityRow_45 (lv_at hl 0 rfl) ?_
            rw [show s_lead σ f = some i from ff_hit hinv (by unfold s_maj; rw [hc]; simp only [decide_eq_true_eq]; exact Nat.lt_of_not_le (fun q => c42 ((nI_leI (by omega) (by omega)).mpr q))) hib]
            exact h_aret (o := some (ad (9, i, f))) X Y dX3_majorityRow_47
  refine lv_aload_n X.1 X.2.1 dX3_majorityRow_0 rfl (lv_at hl 0 rfl) ?_
  refine lv_aload_n X.1 X.2.1 dX3_majorityRow_1 rfl (lv_at hl 1 rfl) ?_
  refine h_callRV (t := (0, 0, 0)) (As := [.ref (ad (7, f, 0))]) (rest := []) X hw cs_X3_185 (c_X3_countingCopies l G hR hf) hx rfl rfl hl.1 rfl (Nat.le_of_ble_eq_true rfl) ⟨by decide, by decide⟩ ⟨Nat.zero_le _, Nat.zero_le _⟩ dX3_majorityRow_2 ?_
  refine lv_istore_n (lv' := [(2, .int (nI (cN (s_isC σ f) (s_nS σ)))), (0, .ref (ad (0, 0, 0))), (1, .ref (ad (7, f, 0)))]) X.1 X.2.1 dX3_majorityRow_5 rfl hl (by decide) rfl (fun ls hl => ?_)
  refine lv_iconst (v := 0) X.1 X.2.1 dX3_majorityRow_6 (by decide) ?_
  refine lv_istore_n (lv' := [(3, .int 0), (2, .int (nI (cN (s_isC σ f) (s_nS σ)))), (0, .ref (ad (0, 0, 0))), (1, .ref (ad (7, f, 0)))]) X.1 X.2.1 dX3_majorityRow_7 rfl hl (by decide) rfl (fun ls hl => ?_)
  exact loop (s_nS σ + 1) 0 (by omega) (by omega) (fun j hj => absurd hj (Nat.not_lt_zero j)) ls (lv_sub hl [2, 3, 1, 0] rfl)
/-- the digest of the majority -/
def s_ldg (σ : S_t) (f : Nat) : Option Int32 := (s_lead σ f).bind fun q => (s_cnt σ q f).map dgL
/-- whether the loss of the copy on store s is reckoned -/
def s_bears (σ : S_t) (f s : Nat) : Bool := match s_cnt σ s f with
  | some b => (match s_ldg σ f with
    | some d => decide (d = dgL b)
    | none => true)
  | none => false
theorem s_ldg_some {σ : S_t} {f q : Nat} {b : List Int32} (h : s_lead σ f = some q) (hb : s_cnt σ q f = some b) : s_ldg σ f = some (dgL b) := by
  unfold s_ldg
  rw [h, Option.bind_some, hb]
  rfl
theorem s_ldg_none {σ : S_t} {f : Nat} (h : s_lead σ f = none) : s_ldg σ f = none := by
  unfold s_ldg
  rw [h]
  rfl
set_option maxHeartbeats 4000000 in
set_option maxRecDepth 100000 in
/-- bearsOdds: whether its loss is reckoned -/
theorem c_X3_bearsOdds (l : Launch) (G : h_G) {ad : h_T → Nat} {k : h_C} {σ : S_t} (hR : RX G ad k σ) {f j : Nat} (hf : f < s_nF σ) (hj : j < s_nS σ) : h_Rd l yX3_bearsOdds cX3_bearsOdds 5 (some .boolean) 3 65 G ad k [.ref (ad (0, 0, 0)), .ref (ad (7, f, 0)), .int (nI j), va_rf ((s_lead σ f).map (fun s => ad (9, s, f)))] (some (.int (bI (s_bears σ f j)))) := by
  unfold s_bears
  rcases hq : s_lead σ f with _ | q
  · rw [s_ldg_none hq]
    refine h_rd (by decide +kernel) (Nat.le_of_ble_eq_true rfl) ?_
    intro p e s m args below meth c X Y hw ls hl
    have hl : lv_has ls 5 [(0, .ref (ad (0, 0, 0))), (1, .ref (ad (7, f, 0))), (2, .int (nI j)), (3, .null)] := hl
    have hok := hR.ok
    obtain ⟨hx, hs, hst, hi, hit, hcp, hcol, hmx, hask, -⟩ := id hR
    have hx : k (0, 0, 0) = some (.inr (3, [.int (nI (s_cop σ)), .ref (ad (1, 0, 0)), .int (nI (s_nS σ)), .ref (ad (2, 0, 0)), .int (nI (s_nF σ)), .ref (ad (3, 0, 0)), .ref (ad (4, 0, 0)), .ref (ad (5, 0, 0)), .ref (ad (5, 1, 0)), .ref (ad (5, 2, 0)), .int (nI (s_as σ).length), .int (s_dg σ)])) := hx
    have hnS : s_nS σ ≤ 10 := hok.2.1
    have hnF : s_nF σ ≤ 40 := hok.2.2.1
    rcases hc : s_cnt σ j f with _ | b
    · refine lv_aload_n X.1 X.2.1 dX3_bearsOdds_0 rfl (lv_at hl 0 rfl) ?_
      refine lv_aload_n X.1 X.2.1 dX3_bearsOdds_1 rfl (lv_at hl 1 rfl) ?_
      refine lv_iload_n X.1 X.2.1 dX3_bearsOdds_2 rfl (lv_at hl 2 rfl) ?_
      refine h_callRV (t := (0, 0, 0)) (As := [.ref (ad (7, f, 0)), .int (nI j)]) (rest := []) X hw cs_X3_202 (c_X3_countingRow l G hR hf hj) hx rfl rfl hl.1 rfl (Nat.le_of_ble_eq_true rfl) ⟨by decide, by decide⟩ ⟨Nat.zero_le _, Nat.zero_le _⟩ dX3_bearsOdds_3 ?_
      refine h_tv (b := .null) (by rw [hc]; rfl) ?_
      refine lv_astoreN (lv' := [(4, .null), (0, .ref (ad (0, 0, 0))), (1, .ref (ad (7, f, 0))), (2, .int (nI j)), (3, .null)]) X.1 X.2.1 dX3_bearsOdds_6 hl (by decide) rfl (fun ls hl => ?_)
      refine lv_aloadN X.1 X.2.1 dX3_bearsOdds_8 (lv_at hl 0 rfl) ?_
      refine lv_ifnullN (tgt := 33) X.1 X.2.1 dX3_bearsOdds_10 (by decide) ?_
      refine lv_iconst (v := 0) X.1 X.2.1 dX3_bearsOdds_33 (by decide) ?_
      exact h_zret (v := 0) X Y (by decide) dX3_bearsOdds_34
    · refine lv_aload_n X.1 X.2.1 dX3_bearsOdds_0 rfl (lv_at hl 0 rfl) ?_
      refine lv_aload_n X.1 X.2.1 dX3_bearsOdds_1 rfl (lv_at hl 1 rfl) ?_
      refine lv_iload_n X.1 X.2.1 dX3_bearsOdds_2 rfl (lv_at hl 2 rfl) ?_
      refine h_callRV (t := (0, 0, 0)) (As := [.ref (ad (7, f, 0)), .int (nI j)]) (rest := []) X hw cs_X3_202 (c_X3_countingRow l G hR hf hj) hx rfl rfl hl.1 rfl (Nat.le_of_ble_eq_true rfl) ⟨by decide, by decide⟩ ⟨Nat.zero_le _, Nat.zero_le _⟩ dX3_bearsOdds_3 ?_
      refine h_tv (b := .ref (ad (9, j, f))) (by rw [hc]; rfl) ?_
      refine lv_astore (lv' := [(4, .ref (ad (9, j, f))), (0, .ref (ad (0, 0, 0))), (1, .ref (ad (7, f, 0))), (2, .int (nI j)), (3, .null)]) X.1 X.2.1 dX3_bearsOdds_6 hl (by decide) rfl (fun ls hl => ?_)
      refine lv_aload X.1 X.2.1 dX3_bearsOdds_8 (lv_at hl 0 rfl) ?_
      refine lv_ifnull X.1 X.2.1 dX3_bearsOdds_10 ?_
      refine lv_aload_nN X.1 X.2.1 dX3_bearsOdds_13 rfl (lv_at hl 4 rfl) ?_
      refine lv_ifnullN (tgt := 29) X.1 X.2.1 dX3_bearsOdds_14 (by decide) ?_
      refine lv_iconst (v := 1) X.1 X.2.1 dX3_bearsOdds_29 (by decide) ?_
      refine lv_goto (tgt := 34) X.1 X.2.1 dX3_bearsOdds_30 (by decide) ?_
      exact h_zret (v := 1) X Y (by decide) dX3_bearsOdds_34
  · obtain ⟨hq1, b2, hb2⟩ := s_lead_spec hq
    rw [s_ldg_some hq hb2]
    refine h_rd (by decide +kernel) (Nat.le_of_ble_eq_true rfl) ?_
    intro p e s m args below meth c X Y hw ls hl
    have hl : lv_has ls 5 [(0, .ref (ad (0, 0, 0))), (1, .ref (ad (7, f, 0))), (2, .int (nI j)), (3, .ref (ad (9, q, f)))] := hl
    have hok := hR.ok
    obtain ⟨hx, hs, hst, hi, hit, hcp, hcol, hmx, hask, -⟩ := id hR
    have hx : k (0, 0, 0) = some (.inr (3, [.int (nI (s_cop σ)), .ref (ad (1, 0, 0)), .int (nI (s_nS σ)), .ref (ad (2, 0, 0)), .int (nI (s_nF σ)), .ref (ad (3, 0, 0)), .ref (ad (4, 0, 0)), .ref (ad (5, 0, 0)), .ref (ad (5, 1, 0)), .ref (ad (5, 2, 0)), .int (nI (s_as σ).length), .int (s_dg σ)])) := hx
    have hnS : s_nS σ ≤ 10 := hok.2.1
    have hnF : s_nF σ ≤ 40 := hok.2.2.1
    rcases hc : s_cnt σ j f with _ | b
    · refine lv_aload_n X.1 X.2.1 dX3_bearsOdds_0 rfl (lv_at hl 0 rfl) ?_
      refine lv_aload_n X.1 X.2.1 dX3_bearsOdds_1 rfl (lv_at hl 1 rfl) ?_
      refine lv_iload_n X.1 X.2.1 dX3_bearsOdds_2 rfl (lv_at hl 2 rfl) ?_
      refine h_callRV (t := (0, 0, 0)) (As := [.ref (ad (7, f, 0)), .int (nI j)]) (rest := []) X hw cs_X3_202 (c_X3_countingRow l G hR hf hj) hx rfl rfl hl.1 rfl (Nat.le_of_ble_eq_true rfl) ⟨by decide, by decide⟩ ⟨Nat.zero_le _, Nat.zero_le _⟩ dX3_bearsOdds_3 ?_
      refine h_tv (b := .null) (by rw [hc]; rfl) ?_
      refine lv_astoreN (lv' := [(4, .null), (0, .ref (ad (0, 0, 0))), (1, .ref (ad (7, f, 0))), (2, .int (nI j)), (3, .ref (ad (9, q, f)))]) X.1 X.2.1 dX3_bearsOdds_6 hl (by decide) rfl (fun ls hl => ?_)
      refine lv_aloadN X.1 X.2.1 dX3_bearsOdds_8 (lv_at hl 0 rfl) ?_
      refine lv_ifnullN (tgt := 33) X.1 X.2.1 dX3_bearsOdds_10 (by decide) ?_
      refine lv_iconst (v := 0) X.1 X.2.1 dX3_bearsOdds_33 (by decide) ?_
      exact h_zret (v := 0) X Y (by decide) dX3_bearsOdds_34
    · refine lv_aload_n X.1 X.2.1 dX3_bearsOdds_0 rfl (lv_at hl 0 rfl) ?_
      refine lv_aload_n X.1 X.2.1 dX3_bearsOdds_1 rfl (lv_at hl 1 rfl) ?_
      refine lv_iload_n X.1 X.2.1 dX3_bearsOdds_2 rfl (lv_at hl 2 rfl) ?_
      refine h_callRV (t := (0, 0, 0)) (As := [.ref (ad (7, f, 0)), .int (nI j)]) (rest := []) X hw cs_X3_202 (c_X3_countingRow l G hR hf hj) hx rfl rfl hl.1 rfl (Nat.le_of_ble_eq_true rfl) ⟨by decide, by decide⟩ ⟨Nat.zero_le _, Nat.zero_le _⟩ dX3_bearsOdds_3 ?_
      refine h_tv (b := .ref (ad (9, j, f))) (by rw [hc]; rfl) ?_
      refine lv_astore (lv' := [(4, .ref (ad (9, j, f))), (0, .ref (ad (0, 0, 0))), (1, .ref (ad (7, f, 0))), (2, .int (nI j)), (3, .ref (ad (9, q, f)))]) X.1 X.2.1 dX3_bearsOdds_6 hl (by decide) rfl (fun ls hl => ?_)
      refine lv_aload X.1 X.2.1 dX3_bearsOdds_8 (lv_at hl 0 rfl) ?_
      refine lv_ifnull X.1 X.2.1 dX3_bearsOdds_10 ?_
      refine lv_aload_n X.1 X.2.1 dX3_bearsOdds_13 rfl (lv_at hl 4 rfl) ?_
      refine lv_ifnull X.1 X.2.1 dX3_bearsOdds_14 ?_
      refine lv_aload_n X.1 X.2.1 dX3_bearsOdds_17 rfl (lv_at hl 4 rfl) ?_
      refine h_callRV (t := (9, q, f)) (As := []) (rest := []) X hw cs_X3_143 (c_X1_sum l G (hcp q f b2 (s_cnt_cp hb2).1) (hok.2.2.2.2.2.2.1 q f b2 (s_cnt_cp hb2).1)) (hcp q f b2 (s_cnt_cp hb2).1).1 rfl rfl hl.1 rfl (Nat.le_of_ble_eq_true rfl) ⟨by decide, by decide⟩ ⟨Nat.zero_le _, Nat.zero_le _⟩ dX3_bearsOdds_18 ?_
      refine lv_aload X.1 X.2.1 dX3_bearsOdds_21 (lv_at hl 0 rfl) ?_
      refine h_callRV (t := (9, j, f)) (As := []) (rest := [.int (dgL b2)]) X hw cs_X3_143 (c_X1_sum l G (hcp j f b (s_cnt_cp hc).1) (hok.2.2.2.2.2.2.1 j f b (s_cnt_cp hc).1)) (hcp j f b (s_cnt_cp hc).1).1 rfl rfl hl.1 rfl (Nat.le_of_ble_eq_true rfl) ⟨by decide, by decide⟩ ⟨Nat.zero_le _, Nat.zero_le _⟩ dX3_bearsOdds_23 ?_
      refine lv_icmp_ne (tgt := 33) X.1 X.2.1 dX3_bearsOdds_26 (by decide) (fun c26 => ?_) (fun c26 => ?_)
      · refine lv_iconst (v := 0) X.1 X.2.1 dX3_bearsOdds_33 (by decide) ?_
        show W p l e _ s m args below meth c _ _ _ _ (MQ below (h_Qr (some (.int (bI (decide (dgL b2 = dgL b)))))) args s 0 0 (fun _ => False)) _
        rw [show decide (dgL b2 = dgL b) = false by simpa using c26]
        exact h_zret (v := 0) X Y (by decide) dX3_bearsOdds_34
      · refine lv_iconst (v := 1) X.1 X.2.1 dX3_bearsOdds_29 (by decide) ?_
        refine lv_goto (tgt := 34) X.1 X.2.1 dX3_bearsOdds_30 (by decide) ?_
        show W p l e _ s m args below meth c _ _ _ _ (MQ below (h_Qr (some (.int (bI (decide (dgL b2 = dgL b)))))) args s 0 0 (fun _ => False)) _
        rw [show decide (dgL b2 = dgL b) = true by simpa using c26]
        exact h_zret (v := 1) X Y (by decide) dX3_bearsOdds_34
set_option maxHeartbeats 4000000 in
set_option maxRecDepth 100000 in
/-- Item.copyCount -/
theorem c_X0_copyCount (l : Launch) (G : h_G) {ad : h_T → Nat} {k : h_C} {σ : S_t} (hR : RX G ad k σ) {f : Nat} (hf : f < s_nF σ) : h_Rd l yX0_copyCount cX0_copyCount 6 (some .int) 0 0 G ad k [.ref (ad (7, f, 0))] (some (.int (nI (cN (fun s => s_has σ s f) 10)))) := by
  refine h_rd (by decide +kernel) (Nat.le_of_ble_eq_true rfl) ?_
  intro p e s m args below meth c X Y hw ls hl
  have hl : lv_has ls 6 [(0, .ref (ad (7, f, 0)))] := hl
  have hok := hR.ok
  obtain ⟨hx, hs, hst, hi, hit, hcp, hcol, hmx, hask, -⟩ := id hR
  have hx : k (0, 0, 0) = some (.inr (3, [.int (nI (s_cop σ)), .ref (ad (1, 0, 0)), .int (nI (s_nS σ)), .ref (ad (2, 0, 0)), .int (nI (s_nF σ)), .ref (ad (3, 0, 0)), .ref (ad (4, 0, 0)), .ref (ad (5, 0, 0)), .ref (ad (5, 1, 0)), .ref (ad (5, 2, 0)), .int (nI (s_as σ).length), .int (s_dg σ)])) := hx
  have hnS : s_nS σ ≤ 10 := hok.2.1
  have hnF : s_nF σ ≤ 40 := hok.2.2.1
  have loop : ∀ (n i : Nat), i ≤ 10 → 10 + 1 ≤ i + n → ∀ (ls : Array Slot), lv_has ls 6 [(0, .ref (ad (7, f, 0))), (1, .int (nI (cN (fun s => s_has σ s f) i))), (2, .ref (ad (8, f, 0))), (3, .int 10), (4, .int (nI i))] → W p l e (h_rm 0 0 0 0) s m args below meth c s.heap [] 0 0 (MQ below (h_Qr (some (.int (nI (cN (fun s => s_has σ s f) 10))))) args s 0 0 (fun _ => False)) (F0 m 13 ls []) := by
    intro n
    induction n with
    | zero =>
      intro i h1 h2
      exact absurd h2 (by omega)
    | succ n ih =>
      intro i hii hni ls hl
      refine lv_iload X.1 X.2.1 dX0_copyCount_13 (lv_at hl 4 rfl) ?_
      refine lv_iload_n X.1 X.2.1 dX0_copyCount_15 rfl (lv_at hl 3 rfl) ?_
      refine lv_icmp_ge (tgt := 39) X.1 X.2.1 dX0_copyCount_16 (by decide) (fun c16 => ?_) (fun c16 => ?_)
      · obtain rfl : i = 10 := Nat.le_antisymm hii (Nat.le_of_not_lt (fun q => absurd c16 (nI_ge (b := 10) q (by omega))))
        refine lv_iload_n X.1 X.2.1 dX0_copyCount_39 rfl (lv_at hl 1 rfl) ?_
        exact h_iret X Y dX0_copyCount_40
      · have hib : i < 10 := Nat.lt_of_not_le (fun q => c16 (nI_le (a := 10) q (by omega)))
        rcases hc : s_cp σ i f with _ | b
        · refine lv_aload_n X.1 X.2.1 dX0_copyCount_19 rfl (lv_at hl 2 rfl) ?_
          refine lv_iload X.1 X.2.1 dX0_copyCount_20 (lv_at hl 4 rfl) ?_
          refine h_aald X hw 5 rfl (hit f hf).2 (vp_in_nI hib (by decide)) dX0_copyCount_22 ?_
          refine h_tv (b := .null) (by rw [nI_clamp (by omega)]; simp only [x_rws, hc]; rfl) ?_
          refine lv_astoreN (lv' := [(5, .null), (0, .ref (ad (7, f, 0))), (1, .int (nI (cN (fun s => s_has σ s f) i))), (2, .ref (ad (8, f, 0))), (3, .int 10), (4, .int (nI i))]) X.1 X.2.1 dX0_copyCount_23 hl (by decide) rfl (fun ls hl => ?_)
          refine lv_aloadN X.1 X.2.1 dX0_copyCount_25 (lv_at hl 0 rfl) ?_
          refine lv_ifnullN (tgt := 33) X.1 X.2.1 dX0_copyCount_27 (by decide) ?_
          refine lv_iinc (v := nI (i + 1)) (lv' := [(4, .int (nI (i + 1))), (5, .null), (0, .ref (ad (7, f, 0))), (1, .int (nI (cN (fun s => s_has σ s f) i))), (2, .ref (ad (8, f, 0))), (3, .int 10)]) X.1 X.2.1 dX0_copyCount_33 hl (k := 5) rfl (nI_1 _) (by decide) rfl (fun ls hl => ?_)
          refine lv_goto (tgt := 13) X.1 X.2.1 dX0_copyCount_36 (by decide) ?_
          exact ih (i + 1) (by omega) (by omega) ls (by
            rw [cN_f (by unfold s_has; rw [hc]; rfl)]
            exact lv_sub hl [2, 3, 4, 5, 0] rfl)
        · refine lv_aload_n X.1 X.2.1 dX0_copyCount_19 rfl (lv_at hl 2 rfl) ?_
          refine lv_iload X.1 X.2.1 dX0_copyCount_20 (lv_at hl 4 rfl) ?_
          refine h_aald X hw 5 rfl (hit f hf).2 (vp_in_nI hib (by decide)) dX0_copyCount_22 ?_
          refine h_tv (b := .ref (ad (9, i, f))) (by rw [nI_clamp (by omega)]; simp only [x_rws, hc]; rfl) ?_
          refine lv_astore (lv' := [(5, .ref (ad (9, i, f))), (0, .ref (ad (7, f, 0))), (1, .int (nI (cN (fun s => s_has σ s f) i))), (2, .ref (ad (8, f, 0))), (3, .int 10), (4, .int (nI i))]) X.1 X.2.1 dX0_copyCount_23 hl (by decide) rfl (fun ls hl => ?_)
          refine lv_aload X.1 X.2.1 dX0_copyCount_25 (lv_at hl 0 rfl) ?_
          refine lv_ifnull X.1 X.2.1 dX0_copyCount_27 ?_
          refine lv_iinc (v := nI ((cN (fun s => s_has σ s f) i) + 1)) (lv' := [(1, .int (nI ((cN (fun s => s_has σ s f) i) + 1))), (5, .ref (ad (9, i, f))), (0, .ref (ad (7, f, 0))), (2, .ref (ad (8, f, 0))), (3, .int 10), (4, .int (nI i))]) X.1 X.2.1 dX0_copyCount_30 hl (k := 2) rfl (nI_1 _) (by decide) rfl (fun ls hl => ?_)
          refine lv_iinc (v := nI (i + 1)) (lv' := [(4, .int (nI (i + 1))), (1, .int (nI ((cN (fun s => s_has σ s f) i) + 1))), (5, .ref (ad (9, i, f))), (0, .ref (ad (7, f, 0))), (2, .ref (ad (8, f, 0))), (3, .int 10)]) X.1 X.2.1 dX0_copyCount_33 hl (k := 5) rfl (nI_1 _) (by decide) rfl (fun ls hl => ?_)
          refine lv_goto (tgt := 13) X.1 X.2.1 dX0_copyCount_36 (by decide) ?_
          exact ih (i + 1) (by omega) (by omega) ls (by
            rw [cN_t (by unfold s_has; rw [hc]; rfl)]
            exact lv_sub hl [3, 1, 4, 5, 0] rfl)
  refine lv_iconst (v := 0) X.1 X.2.1 dX0_copyCount_0 (by decide) ?_
  refine lv_istore_n (lv' := [(1, .int 0), (0, .ref (ad (7, f, 0)))]) X.1 X.2.1 dX0_copyCount_1 rfl hl (by decide) rfl (fun ls hl => ?_)
  refine lv_aload_n X.1 X.2.1 dX0_copyCount_2 rfl (lv_at hl 1 rfl) ?_
  refine gf_X0_11 X hw (hit f hf).1 rfl dX0_copyCount_3 ?_
  refine lv_astore_n (lv' := [(2, .ref (ad (8, f, 0))), (1, .int 0), (0, .ref (ad (7, f, 0)))]) X.1 X.2.1 dX0_copyCount_6 rfl hl (by decide) rfl (fun ls hl => ?_)
  refine lv_aload_n X.1 X.2.1 dX0_copyCount_7 rfl (lv_at hl 0 rfl) ?_
  refine h_alen X hw 5 rfl (hit f hf).2 (v := 10) rfl dX0_copyCount_8 ?_
  refine lv_istore_n (lv' := [(3, .int 10), (2, .ref (ad (8, f, 0))), (1, .int 0), (0, .ref (ad (7, f, 0)))]) X.1 X.2.1 dX0_copyCount_9 rfl hl (by decide) rfl (fun ls hl => ?_)
  refine lv_iconst (v := 0) X.1 X.2.1 dX0_copyCount_10 (by decide) ?_
  refine lv_istore (lv' := [(4, .int 0), (3, .int 10), (2, .ref (ad (8, f, 0))), (1, .int 0), (0, .ref (ad (7, f, 0)))]) X.1 X.2.1 dX0_copyCount_11 hl (by decide) rfl (fun ls hl => ?_)
  exact loop 11 0 (by omega) (by omega) ls (lv_sub hl [4, 3, 2, 1, 0] rfl)
