theorem ahead_cases (σ : S_t) (k s : Nat) : s_si σ k = true ∨ (s_si σ k = false ∧ s_ld σ k < s_ld σ s) ∨ (s_si σ k = false ∧ s_ld σ k = s_ld σ s ∧ k < s) ∨ (s_si σ k = false ∧ ¬ s_ld σ k < s_ld σ s ∧ ¬ (s_ld σ k = s_ld σ s ∧ k < s)) := by
  cases h : s_si σ k with
  | true => exact Or.inl rfl
  | false =>
    by_cases h1 : s_ld σ k < s_ld σ s
    · exact Or.inr (Or.inl ⟨rfl, h1⟩)
    · by_cases h2 : s_ld σ k = s_ld σ s ∧ k < s
      · exact Or.inr (Or.inr (Or.inl ⟨rfl, h2⟩))
      · exact Or.inr (Or.inr (Or.inr ⟨rfl, h1, h2⟩))
theorem ok_lt {σ : S_t} (hok : s_ok σ) {s f : Nat} {b : List Int32} (h : s_cp σ s f = some b) : s < s_nS σ ∧ f < s_nF σ := by
  have h6 := hok.2.2.2.2.2.1
  refine ⟨Nat.lt_of_not_le (fun q => ?_), Nat.lt_of_not_le (fun q => ?_)⟩
  · rw [h6 s f (Or.inl q)] at h; cases h
  · rw [h6 s f (Or.inr q)] at h; cases h
theorem isD_cases (σ : S_t) (f : Nat) (a : Nat) (d : Int32) : s_cnt σ a f = none ∨ (∃ b, s_cnt σ a f = some b ∧ ¬ dgL b = d) ∨ (∃ b, s_cnt σ a f = some b ∧ dgL b = d) := by
  cases h : s_cnt σ a f with
  | none => exact Or.inl rfl
  | some b =>
    by_cases h1 : dgL b = d
    · exact Or.inr (Or.inr ⟨b, rfl, h1⟩)
    · exact Or.inr (Or.inl ⟨b, rfl, h1⟩)
theorem isC_n {σ : S_t} {f s : Nat} (h : s_cnt σ s f = none) : s_isC σ f s = false := by unfold s_isC; rw [h]; rfl
theorem isC_s {σ : S_t} {f s : Nat} {b : List Int32} (h : s_cnt σ s f = some b) : s_isC σ f s = true := by unfold s_isC; rw [h]; rfl
theorem isD_n {σ : S_t} {f s : Nat} {d : Int32} (h : s_cnt σ s f = none) : s_isD σ f d s = false := by unfold s_isD; rw [h]
theorem isD_d {σ : S_t} {f s : Nat} {d : Int32} {b : List Int32} (h : s_cnt σ s f = some b) (hd : ¬ dgL b = d) : s_isD σ f d s = false := by unfold s_isD; rw [h]; exact decide_eq_false hd
theorem isD_e {σ : S_t} {f s : Nat} {d : Int32} {b : List Int32} (h : s_cnt σ s f = some b) (hd : dgL b = d) : s_isD σ f d s = true := by unfold s_isD; rw [h]; exact decide_eq_true hd
theorem maj_n {σ : S_t} {f s : Nat} (h : s_cnt σ s f = none) : s_maj σ f s = false := by unfold s_maj; rw [h]
theorem maj_s {σ : S_t} {f s : Nat} {b : List Int32} (h : s_cnt σ s f = some b) : s_maj σ f s = decide (cN (s_isC σ f) (s_nS σ) < 2 * cN (s_isD σ f (dgL b)) (s_nS σ)) := by unfold s_maj; rw [h]
theorem nlt_s {P : Nat → Prop} {i : Nat} (h : ∀ a, a < i → P a) (hi : P i) : ∀ a, a < i + 1 → P a := fun a ha => by
  rcases Nat.lt_succ_iff_lt_or_eq.mp ha with q | q
  · exact h a q
  · rw [q]; exact hi
set_option maxHeartbeats 4000000 in
set_option maxRecDepth 100000 in
/-- ahead -/
theorem c_X4_ahead (l : Launch) (G : h_G) {ad : h_T → Nat} {k : h_C} {σ : S_t} {th : Int32} (hM : RM G ad k σ th) {s9 : Nat} (hs : s9 < s_nS σ) : h_Rd l yX4_ahead cX4_ahead 4 (some .int) 1 23 G ad k [.ref (ad (20, 0, 0)), .int (nI s9)] (some (.int (nI (s_rk σ s9)))) := by
  refine h_rd (by decide +kernel) (Nat.le_of_ble_eq_true rfl) ?_
  intro p e s m args below meth c X Y hw ls hl
  have hl : lv_has ls 4 [(0, .ref (ad (20, 0, 0))), (1, .int (nI s9))] := hl
  have hok := hM.ok
  obtain ⟨hx, ⟨gP, eP, vP⟩, ⟨gS, eS, vS⟩, ⟨gU, eU, vU⟩, ⟨gD, eD, vD⟩, ⟨gA, eA, vA⟩, ⟨gK, eK, vK⟩, ⟨gN, eN, vN⟩, ⟨gZ, eZ, vZ⟩, ⟨gB, eB, vB⟩, ⟨g0, g1, g2, e15, e16, e17, v3⟩, ⟨gM, eM⟩, -⟩ := id hM
  have hx : k (20, 0, 0) = some (.inr (4, [.int th, .int (nI (s_cop σ)), .int (nI (s_nS σ)), .ref (ad (20, 3, 0)), .ref (ad (20, 4, 0)), .ref (ad (20, 5, 0)), .ref (ad (20, 6, 0)), .int (nI (s_col σ).length), .ref (ad (20, 8, 0)), .int (nI (s_nF σ)), .ref (ad (20, 10, 0)), .ref (ad (20, 11, 0)), .ref (ad (20, 12, 0)), .ref (ad (20, 13, 0)), .int (nI (s_as σ).length), .ref (ad (20, 15, 0)), .ref (ad (20, 16, 0)), .ref (ad (20, 17, 0)), .ref (ad (20, 18, 0)), .int (s_dg σ)])) := hx
  have hnS : s_nS σ ≤ 10 := hok.2.1
  have hnF : s_nF σ ≤ 40 := hok.2.2.1
  unfold s_rk
  have loop : ∀ (n i : Nat), i ≤ s_nS σ → s_nS σ + 1 ≤ i + n → ∀ (ls : Array Slot), lv_has ls 4 [(0, .ref (ad (20, 0, 0))), (1, .int (nI s9)), (2, .int (nI (cN (fun k => !s_si σ k && s_bf σ k s9) i))), (3, .int (nI i))] → W p l e (h_rm 1 23 0 0) s m args below meth c s.heap [] 0 0 (MQ below (h_Qr (some (.int (nI (cN (fun k => !s_si σ k && s_bf σ k s9) (s_nS σ)))))) args s 0 0 (fun _ => False)) (F0 m 4 ls []) := by
    intro n
    induction n with
    | zero =>
      intro i h1 h2
      exact absurd h2 (by omega)
    | succ n ih =>
      intro i hii hni ls hl
      refine lv_iload_n X.1 X.2.1 dX4_ahead_4 rfl (lv_at hl 3 rfl) ?_
      refine lv_aload_n X.1 X.2.1 dX4_ahead_5 rfl (lv_at hl 0 rfl) ?_
      refine gf_X4_58 X hw hx rfl dX4_ahead_6 ?_
      refine lv_icmp_ge (tgt := 66) X.1 X.2.1 dX4_ahead_9 (by decide) (fun c9 => ?_) (fun c9 => ?_)
      · obtain rfl : i = s_nS σ := Nat.le_antisymm hii (Nat.le_of_not_lt (fun q => absurd c9 (nI_ge (b := s_nS σ) q (by omega))))
        refine lv_iload_n X.1 X.2.1 dX4_ahead_66 rfl (lv_at hl 2 rfl) ?_
        exact h_iret X Y dX4_ahead_67
      · have hiib : i < s_nS σ := Nat.lt_of_not_le (fun q => c9 (nI_le (a := s_nS σ) q (by omega)))
        have hla : s_ld σ i ≤ 40 := Nat.le_trans (cN_le _ _) hnF
        have hlb : s_ld σ s9 ≤ 40 := Nat.le_trans (cN_le _ _) hnF
        rcases ahead_cases σ i s9 with hb | ⟨hb, hq⟩ | ⟨hb, hq, hq2⟩ | ⟨hb, hq, hq2⟩
        · refine lv_iload_n X.1 X.2.1 dX4_ahead_12 rfl (lv_at hl 2 rfl) ?_
          refine lv_aload_n X.1 X.2.1 dX4_ahead_13 rfl (lv_at hl 0 rfl) ?_
          refine gf_X4_13 X hw hx rfl dX4_ahead_14 ?_
          refine lv_iload_n X.1 X.2.1 dX4_ahead_17 rfl (lv_at hl 3 rfl) ?_
          refine h_zald X hw eS (vp_in_nI (by omega) (by decide)) dX4_ahead_18 ?_
          refine h_tv (b := .int 1) (by rw [nI_clamp (by omega), vS i (by omega), hb, bI_t]) ?_
          refine lv_if_ne (tgt := 57) X.1 X.2.1 dX4_ahead_19 (by decide) (fun c19 => ?_) (fun c19 => ?_)
          · refine lv_iconst (v := 0) X.1 X.2.1 dX4_ahead_57 (by decide) ?_
            refine lv_iadd X.1 X.2.1 dX4_ahead_58 ?_
            refine h_ti (b := nI ((cN (fun k => !s_si σ k && s_bf σ k s9) i) + 0)) (nI_add (cN (fun k => !s_si σ k && s_bf σ k s9) i) 0) ?_
            refine lv_istore_n (lv' := [(2, .int (nI ((cN (fun k => !s_si σ k && s_bf σ k s9) i) + 0))), (0, .ref (ad (20, 0, 0))), (1, .int (nI s9)), (3, .int (nI i))]) X.1 X.2.1 dX4_ahead_59 rfl hl (by decide) rfl (fun ls hl => ?_)
            refine lv_iinc (v := nI (i + 1)) (lv' := [(3, .int (nI (i + 1))), (2, .int (nI ((cN (fun k => !s_si σ k && s_bf σ k s9) i) + 0))), (0, .ref (ad (20, 0, 0))), (1, .int (nI s9))]) X.1 X.2.1 dX4_ahead_60 hl (k := 3) rfl (nI_1 _) (by decide) rfl (fun ls hl => ?_)
            refine lv_goto (tgt := 4) X.1 X.2.1 dX4_ahead_63 (by decide) ?_
            exact ih (i + 1) (by omega) (by omega) ls (by
              rw [cN_f (show (!s_si σ i && s_bf σ i s9) = false by rw [hb]; rfl)]
              exact lv_sub hl [2, 3, 1, 0] rfl)
          · exact absurd c19 (by decide)
        · refine lv_iload_n X.1 X.2.1 dX4_ahead_12 rfl (lv_at hl 2 rfl) ?_
          refine lv_aload_n X.1 X.2.1 dX4_ahead_13 rfl (lv_at hl 0 rfl) ?_
          refine gf_X4_13 X hw hx rfl dX4_ahead_14 ?_
          refine lv_iload_n X.1 X.2.1 dX4_ahead_17 rfl (lv_at hl 3 rfl) ?_
          refine h_zald X hw eS (vp_in_nI (by omega) (by decide)) dX4_ahead_18 ?_
          refine h_tv (b := .int 0) (by rw [nI_clamp (by omega), vS i (by omega), hb, bI_f]) ?_
          refine lv_if_ne (tgt := 57) X.1 X.2.1 dX4_ahead_19 (by decide) (fun c19 => ?_) (fun c19 => ?_)
          · exact absurd (by decide) c19
          · refine lv_aload_n X.1 X.2.1 dX4_ahead_22 rfl (lv_at hl 0 rfl) ?_
            refine lv_iload_n X.1 X.2.1 dX4_ahead_23 rfl (lv_at hl 3 rfl) ?_
            refine h_callRV (t := (20, 0, 0)) (As := [.int (nI i)]) (rest := [.int (nI (cN (fun k => !s_si σ k && s_bf σ k s9) i))]) X hw cs_X4_82 (c_X4_loadOf l G hM hiib) hx rfl rfl hl.1 rfl (Nat.le_of_ble_eq_true rfl) ⟨by decide, by decide⟩ ⟨Nat.zero_le _, Nat.zero_le _⟩ dX4_ahead_24 ?_
            refine lv_aload_n X.1 X.2.1 dX4_ahead_27 rfl (lv_at hl 0 rfl) ?_
            refine lv_iload_n X.1 X.2.1 dX4_ahead_28 rfl (lv_at hl 1 rfl) ?_
            refine h_callRV (t := (20, 0, 0)) (As := [.int (nI s9)]) (rest := [.int (nI (s_ld σ i)), .int (nI (cN (fun k => !s_si σ k && s_bf σ k s9) i))]) X hw cs_X4_82 (c_X4_loadOf l G hM hs) hx rfl rfl hl.1 rfl (Nat.le_of_ble_eq_true rfl) ⟨by decide, by decide⟩ ⟨Nat.zero_le _, Nat.zero_le _⟩ dX4_ahead_29 ?_
            refine lv_icmp_lt (tgt := 53) X.1 X.2.1 dX4_ahead_32 (by decide) (fun c32 => ?_) (fun c32 => ?_)
            · refine lv_iconst (v := 1) X.1 X.2.1 dX4_ahead_53 (by decide) ?_
              refine lv_goto (tgt := 58) X.1 X.2.1 dX4_ahead_54 (by decide) ?_
              refine lv_iadd X.1 X.2.1 dX4_ahead_58 ?_
              refine h_ti (b := nI ((cN (fun k => !s_si σ k && s_bf σ k s9) i) + 1)) (nI_add (cN (fun k => !s_si σ k && s_bf σ k s9) i) 1) ?_
              refine lv_istore_n (lv' := [(2, .int (nI ((cN (fun k => !s_si σ k && s_bf σ k s9) i) + 1))), (0, .ref (ad (20, 0, 0))), (1, .int (nI s9)), (3, .int (nI i))]) X.1 X.2.1 dX4_ahead_59 rfl hl (by decide) rfl (fun ls hl => ?_)
              refine lv_iinc (v := nI (i + 1)) (lv' := [(3, .int (nI (i + 1))), (2, .int (nI ((cN (fun k => !s_si σ k && s_bf σ k s9) i) + 1))), (0, .ref (ad (20, 0, 0))), (1, .int (nI s9))]) X.1 X.2.1 dX4_ahead_60 hl (k := 3) rfl (nI_1 _) (by decide) rfl (fun ls hl => ?_)
              refine lv_goto (tgt := 4) X.1 X.2.1 dX4_ahead_63 (by decide) ?_
              exact ih (i + 1) (by omega) (by omega) ls (by
                rw [cN_t (show (!s_si σ i && s_bf σ i s9) = true by rw [hb, bf_iff.mpr (Or.inl hq)]; rfl)]
                exact lv_sub hl [2, 3, 1, 0] rfl)
            · exact absurd (nI_lt hq (by omega)) c32
        · refine lv_iload_n X.1 X.2.1 dX4_ahead_12 rfl (lv_at hl 2 rfl) ?_
          refine lv_aload_n X.1 X.2.1 dX4_ahead_13 rfl (lv_at hl 0 rfl) ?_
          refine gf_X4_13 X hw hx rfl dX4_ahead_14 ?_
          refine lv_iload_n X.1 X.2.1 dX4_ahead_17 rfl (lv_at hl 3 rfl) ?_
          refine h_zald X hw eS (vp_in_nI (by omega) (by decide)) dX4_ahead_18 ?_
          refine h_tv (b := .int 0) (by rw [nI_clamp (by omega), vS i (by omega), hb, bI_f]) ?_
          refine lv_if_ne (tgt := 57) X.1 X.2.1 dX4_ahead_19 (by decide) (fun c19 => ?_) (fun c19 => ?_)
          · exact absurd (by decide) c19
          · refine lv_aload_n X.1 X.2.1 dX4_ahead_22 rfl (lv_at hl 0 rfl) ?_
            refine lv_iload_n X.1 X.2.1 dX4_ahead_23 rfl (lv_at hl 3 rfl) ?_
            refine h_callRV (t := (20, 0, 0)) (As := [.int (nI i)]) (rest := [.int (nI (cN (fun k => !s_si σ k && s_bf σ k s9) i))]) X hw cs_X4_82 (c_X4_loadOf l G hM hiib) hx rfl rfl hl.1 rfl (Nat.le_of_ble_eq_true rfl) ⟨by decide, by decide⟩ ⟨Nat.zero_le _, Nat.zero_le _⟩ dX4_ahead_24 ?_
            refine lv_aload_n X.1 X.2.1 dX4_ahead_27 rfl (lv_at hl 0 rfl) ?_
            refine lv_iload_n X.1 X.2.1 dX4_ahead_28 rfl (lv_at hl 1 rfl) ?_
            refine h_callRV (t := (20, 0, 0)) (As := [.int (nI s9)]) (rest := [.int (nI (s_ld σ i)), .int (nI (cN (fun k => !s_si σ k && s_bf σ k s9) i))]) X hw cs_X4_82 (c_X4_loadOf l G hM hs) hx rfl rfl hl.1 rfl (Nat.le_of_ble_eq_true rfl) ⟨by decide, by decide⟩ ⟨Nat.zero_le _, Nat.zero_le _⟩ dX4_ahead_29 ?_
            refine lv_icmp_lt (tgt := 53) X.1 X.2.1 dX4_ahead_32 (by decide) (fun c32 => ?_) (fun c32 => ?_)
            · exact absurd c32 (nI_nlt (by omega) (by omega))
            · refine lv_aload_n X.1 X.2.1 dX4_ahead_35 rfl (lv_at hl 0 rfl) ?_
              refine lv_iload_n X.1 X.2.1 dX4_ahead_36 rfl (lv_at hl 3 rfl) ?_
              refine h_callRV (t := (20, 0, 0)) (As := [.int (nI i)]) (rest := [.int (nI (cN (fun k => !s_si σ k && s_bf σ k s9) i))]) X hw cs_X4_82 (c_X4_loadOf l G hM hiib) hx rfl rfl hl.1 rfl (Nat.le_of_ble_eq_true rfl) ⟨by decide, by decide⟩ ⟨Nat.zero_le _, Nat.zero_le _⟩ dX4_ahead_37 ?_
              refine lv_aload_n X.1 X.2.1 dX4_ahead_40 rfl (lv_at hl 0 rfl) ?_
              refine lv_iload_n X.1 X.2.1 dX4_ahead_41 rfl (lv_at hl 1 rfl) ?_
              refine h_callRV (t := (20, 0, 0)) (As := [.int (nI s9)]) (rest := [.int (nI (s_ld σ i)), .int (nI (cN (fun k => !s_si σ k && s_bf σ k s9) i))]) X hw cs_X4_82 (c_X4_loadOf l G hM hs) hx rfl rfl hl.1 rfl (Nat.le_of_ble_eq_true rfl) ⟨by decide, by decide⟩ ⟨Nat.zero_le _, Nat.zero_le _⟩ dX4_ahead_42 ?_
              refine lv_icmp_ne (tgt := 57) X.1 X.2.1 dX4_ahead_45 (by decide) (fun c45 => ?_) (fun c45 => ?_)
              · exact absurd (by rw [hq]) c45
              · refine lv_iload_n X.1 X.2.1 dX4_ahead_48 rfl (lv_at hl 3 rfl) ?_
                refine lv_iload_n X.1 X.2.1 dX4_ahead_49 rfl (lv_at hl 1 rfl) ?_
                refine lv_icmp_ge (tgt := 57) X.1 X.2.1 dX4_ahead_50 (by decide) (fun c50 => ?_) (fun c50 => ?_)
                · exact absurd c50 (nI_ge hq2 (by omega))
                · refine lv_iconst (v := 1) X.1 X.2.1 dX4_ahead_53 (by decide) ?_
                  refine lv_goto (tgt := 58) X.1 X.2.1 dX4_ahead_54 (by decide) ?_
                  refine lv_iadd X.1 X.2.1 dX4_ahead_58 ?_
                  refine h_ti (b := nI ((cN (fun k => !s_si σ k && s_bf σ k s9) i) + 1)) (nI_add (cN (fun k => !s_si σ k && s_bf σ k s9) i) 1) ?_
                  refine lv_istore_n (lv' := [(2, .int (nI ((cN (fun k => !s_si σ k && s_bf σ k s9) i) + 1))), (0, .ref (ad (20, 0, 0))), (1, .int (nI s9)), (3, .int (nI i))]) X.1 X.2.1 dX4_ahead_59 rfl hl (by decide) rfl (fun ls hl => ?_)
                  refine lv_iinc (v := nI (i + 1)) (lv' := [(3, .int (nI (i + 1))), (2, .int (nI ((cN (fun k => !s_si σ k && s_bf σ k s9) i) + 1))), (0, .ref (ad (20, 0, 0))), (1, .int (nI s9))]) X.1 X.2.1 dX4_ahead_60 hl (k := 3) rfl (nI_1 _) (by decide) rfl (fun ls hl => ?_)
                  refine lv_goto (tgt := 4) X.1 X.2.1 dX4_ahead_63 (by decide) ?_
                  exact ih (i + 1) (by omega) (by omega) ls (by
                    rw [cN_t (show (!s_si σ i && s_bf σ i s9) = true by rw [hb, bf_iff.mpr (Or.inr ⟨hq, hq2⟩)]; rfl)]
                    exact lv_sub hl [2, 3, 1, 0] rfl)
        · refine lv_iload_n X.1 X.2.1 dX4_ahead_12 rfl (lv_at hl 2 rfl) ?_
          refine lv_aload_n X.1 X.2.1 dX4_ahead_13 rfl (lv_at hl 0 rfl) ?_
          refine gf_X4_13 X hw hx rfl dX4_ahead_14 ?_
          refine lv_iload_n X.1 X.2.1 dX4_ahead_17 rfl (lv_at hl 3 rfl) ?_
          refine h_zald X hw eS (vp_in_nI (by omega) (by decide)) dX4_ahead_18 ?_
          refine h_tv (b := .int 0) (by rw [nI_clamp (by omega), vS i (by omega), hb, bI_f]) ?_
          refine lv_if_ne (tgt := 57) X.1 X.2.1 dX4_ahead_19 (by decide) (fun c19 => ?_) (fun c19 => ?_)
          · exact absurd (by decide) c19
          · refine lv_aload_n X.1 X.2.1 dX4_ahead_22 rfl (lv_at hl 0 rfl) ?_
            refine lv_iload_n X.1 X.2.1 dX4_ahead_23 rfl (lv_at hl 3 rfl) ?_
            refine h_callRV (t := (20, 0, 0)) (As := [.int (nI i)]) (rest := [.int (nI (cN (fun k => !s_si σ k && s_bf σ k s9) i))]) X hw cs_X4_82 (c_X4_loadOf l G hM hiib) hx rfl rfl hl.1 rfl (Nat.le_of_ble_eq_true rfl) ⟨by decide, by decide⟩ ⟨Nat.zero_le _, Nat.zero_le _⟩ dX4_ahead_24 ?_
            refine lv_aload_n X.1 X.2.1 dX4_ahead_27 rfl (lv_at hl 0 rfl) ?_
            refine lv_iload_n X.1 X.2.1 dX4_ahead_28 rfl (lv_at hl 1 rfl) ?_
            refine h_callRV (t := (20, 0, 0)) (As := [.int (nI s9)]) (rest := [.int (nI (s_ld σ i)), .int (nI (cN (fun k => !s_si σ k && s_bf σ k s9) i))]) X hw cs_X4_82 (c_X4_loadOf l G hM hs) hx rfl rfl hl.1 rfl (Nat.le_of_ble_eq_true rfl) ⟨by decide, by decide⟩ ⟨Nat.zero_le _, Nat.zero_le _⟩ dX4_ahead_29 ?_
            refine lv_icmp_lt (tgt := 53) X.1 X.2.1 dX4_ahead_32 (by decide) (fun c32 => ?_) (fun c32 => ?_)
            · exact absurd c32 (nI_nlt (by omega) (by omega))
            · refine lv_aload_n X.1 X.2.1 dX4_ahead_35 rfl (lv_at hl 0 rfl) ?_
              refine lv_iload_n X.1 X.2.1 dX4_ahead_36 rfl (lv_at hl 3 rfl) ?_
              refine h_callRV (t := (20, 0, 0)) (As := [.int (nI i)]) (rest := [.int (nI (cN (fun k => !s_si σ k && s_bf σ k s9) i))]) X hw cs_X4_82 (c_X4_loadOf l G hM hiib) hx rfl rfl hl.1 rfl (Nat.le_of_ble_eq_true rfl) ⟨by decide, by decide⟩ ⟨Nat.zero_le _, Nat.zero_le _⟩ dX4_ahead_37 ?_
              refine lv_aload_n X.1 X.2.1 dX4_ahead_40 rfl (lv_at hl 0 rfl) ?_
              refine lv_iload_n X.1 X.2.1 dX4_ahead_41 rfl (lv_at hl 1 rfl) ?_
              refine h_callRV (t := (20, 0, 0)) (As := [.int (nI s9)]) (rest := [.int (nI (s_ld σ i)), .int (nI (cN (fun k => !s_si σ k && s_bf σ k s9) i))]) X hw cs_X4_82 (c_X4_loadOf l G hM hs) hx rfl rfl hl.1 rfl (Nat.le_of_ble_eq_true rfl) ⟨by decide, by decide⟩ ⟨Nat.zero_le _, Nat.zero_le _⟩ dX4_ahead_42 ?_
              refine lv_icmp_ne (tgt := 57) X.1 X.2.1 dX4_ahead_45 (by decide) (fun c45 => ?_) (fun c45 => ?_)
              · refine lv_iconst (v := 0) X.1 X.2.1 dX4_ahead_57 (by decide) ?_
                refine lv_iadd X.1 X.2.1 dX4_ahead_58 ?_
                refine h_ti (b := nI ((cN (fun k => !s_si σ k && s_bf σ k s9) i) + 0)) (nI_add (cN (fun k => !s_si σ k && s_bf σ k s9) i) 0) ?_
                refine lv_istore_n (lv' := [(2, .int (nI ((cN (fun k => !s_si σ k && s_bf σ k s9) i) + 0))), (0, .ref (ad (20, 0, 0))), (1, .int (nI s9)), (3, .int (nI i))]) X.1 X.2.1 dX4_ahead_59 rfl hl (by decide) rfl (fun ls hl => ?_)
                refine lv_iinc (v := nI (i + 1)) (lv' := [(3, .int (nI (i + 1))), (2, .int (nI ((cN (fun k => !s_si σ k && s_bf σ k s9) i) + 0))), (0, .ref (ad (20, 0, 0))), (1, .int (nI s9))]) X.1 X.2.1 dX4_ahead_60 hl (k := 3) rfl (nI_1 _) (by decide) rfl (fun ls hl => ?_)
                refine lv_goto (tgt := 4) X.1 X.2.1 dX4_ahead_63 (by decide) ?_
                exact ih (i + 1) (by omega) (by omega) ls (by
                  rw [cN_f (show (!s_si σ i && s_bf σ i s9) = false by
                    rw [hb]
                    cases z : s_bf σ i s9 with
                    | false => rfl
                    | true => exact absurd (bf_iff.mp z) (fun y => y.elim hq hq2))]
                  exact lv_sub hl [2, 3, 1, 0] rfl)
              · refine lv_iload_n X.1 X.2.1 dX4_ahead_48 rfl (lv_at hl 3 rfl) ?_
                refine lv_iload_n X.1 X.2.1 dX4_ahead_49 rfl (lv_at hl 1 rfl) ?_
                refine lv_icmp_ge (tgt := 57) X.1 X.2.1 dX4_ahead_50 (by decide) (fun c50 => ?_) (fun c50 => ?_)
                · refine lv_iconst (v := 0) X.1 X.2.1 dX4_ahead_57 (by decide) ?_
                  refine lv_iadd X.1 X.2.1 dX4_ahead_58 ?_
                  refine h_ti (b := nI ((cN (fun k => !s_si σ k && s_bf σ k s9) i) + 0)) (nI_add (cN (fun k => !s_si σ k && s_bf σ k s9) i) 0) ?_
                  refine lv_istore_n (lv' := [(2, .int (nI ((cN (fun k => !s_si σ k && s_bf σ k s9) i) + 0))), (0, .ref (ad (20, 0, 0))), (1, .int (nI s9)), (3, .int (nI i))]) X.1 X.2.1 dX4_ahead_59 rfl hl (by decide) rfl (fun ls hl => ?_)
                  refine lv_iinc (v := nI (i + 1)) (lv' := [(3, .int (nI (i + 1))), (2, .int (nI ((cN (fun k => !s_si σ k && s_bf σ k s9) i) + 0))), (0, .ref (ad (20, 0, 0))), (1, .int (nI s9))]) X.1 X.2.1 dX4_ahead_60 hl (k := 3) rfl (nI_1 _) (by decide) rfl (fun ls hl => ?_)
                  refine lv_goto (tgt := 4) X.1 X.2.1 dX4_ahead_63 (by decide) ?_
                  exact ih (i + 1) (by omega) (by omega) ls (by
                    rw [cN_f (show (!s_si σ i && s_bf σ i s9) = false by
                      rw [hb]
                      cases z : s_bf σ i s9 with
                      | false => rfl
                      | true => exact absurd (bf_iff.mp z) (fun y => y.elim hq hq2))]
                    exact lv_sub hl [2, 3, 1, 0] rfl)
                · exact absurd ⟨(nI_eq (by omega) (by omega)).mp c45, Nat.lt_of_not_le (fun z => c50 (nI_le z (by omega)))⟩ hq2
  refine lv_iconst (v := 0) X.1 X.2.1 dX4_ahead_0 (by decide) ?_
  refine lv_istore_n (lv' := [(2, .int 0), (0, .ref (ad (20, 0, 0))), (1, .int (nI s9))]) X.1 X.2.1 dX4_ahead_1 rfl hl (by decide) rfl (fun ls hl => ?_)
  refine lv_iconst (v := 0) X.1 X.2.1 dX4_ahead_2 (by decide) ?_
  refine lv_istore_n (lv' := [(3, .int 0), (2, .int 0), (0, .ref (ad (20, 0, 0))), (1, .int (nI s9))]) X.1 X.2.1 dX4_ahead_3 rfl hl (by decide) rfl (fun ls hl => ?_)
  exact loop (s_nS σ + 1) 0 (by omega) (by omega) ls (lv_sub hl [2, 3, 1, 0] rfl)
set_option maxHeartbeats 4000000 in
set_option maxRecDepth 100000 in
/-- digestOf -/
theorem c_X4_digestOf (l : Launch) (G : h_G) {ad : h_T → Nat} {k : h_C} {σ : S_t} {th : Int32} (hM : RM G ad k σ th) {s9 f : Nat} {b : List Int32} (hc : s_cp σ s9 f = some b) : h_Rd l yX4_digestOf cX4_digestOf 6 (some .int) 0 0 G ad k [.ref (ad (20, 0, 0)), .int (nI s9), .int (nI f)] (some (.int (dgL b))) := by
  refine h_rd (by decide +kernel) (Nat.le_of_ble_eq_true rfl) ?_
  intro p e s m args below meth c X Y hw ls hl
  have hl : lv_has ls 6 [(0, .ref (ad (20, 0, 0))), (1, .int (nI s9)), (2, .int (nI f))] := hl
  have hok := hM.ok
  obtain ⟨hx, ⟨gP, eP, vP⟩, ⟨gS, eS, vS⟩, ⟨gU, eU, vU⟩, ⟨gD, eD, vD⟩, ⟨gA, eA, vA⟩, ⟨gK, eK, vK⟩, ⟨gN, eN, vN⟩, ⟨gZ, eZ, vZ⟩, ⟨gB, eB, vB⟩, ⟨g0, g1, g2, e15, e16, e17, v3⟩, ⟨gM, eM⟩, -⟩ := id hM
  have hx : k (20, 0, 0) = some (.inr (4, [.int th, .int (nI (s_cop σ)), .int (nI (s_nS σ)), .ref (ad (20, 3, 0)), .ref (ad (20, 4, 0)), .ref (ad (20, 5, 0)), .ref (ad (20, 6, 0)), .int (nI (s_col σ).length), .ref (ad (20, 8, 0)), .int (nI (s_nF σ)), .ref (ad (20, 10, 0)), .ref (ad (20, 11, 0)), .ref (ad (20, 12, 0)), .ref (ad (20, 13, 0)), .int (nI (s_as σ).length), .ref (ad (20, 15, 0)), .ref (ad (20, 16, 0)), .ref (ad (20, 17, 0)), .ref (ad (20, 18, 0)), .int (s_dg σ)])) := hx
  have hnS : s_nS σ ≤ 10 := hok.2.1
  have hnF : s_nF σ ≤ 40 := hok.2.2.1
  obtain ⟨hs9, hf9⟩ := ok_lt hok hc
  have hbl := hok.2.2.2.2.2.2.1 _ _ _ hc
  have loop : ∀ (n i : Nat), i ≤ b.length → b.length + 1 ≤ i + n → ∀ (ls : Array Slot), lv_has ls 6 [(0, .ref (ad (20, 0, 0))), (1, .int (nI s9)), (2, .int (nI f)), (3, .int (nI b.length)), (4, .int (dgP b i)), (5, .int (nI i))] → W p l e (h_rm 0 0 0 0) s m args below meth c s.heap [] 0 0 (MQ below (h_Qr (some (.int (dgL b)))) args s 0 0 (fun _ => False)) (F0 m 19 ls []) := by
    intro n
    induction n with
    | zero =>
      intro i h1 h2
      exact absurd h2 (by omega)
    | succ n ih =>
      intro i hii hni ls hl
      refine lv_iload X.1 X.2.1 dX4_digestOf_19 (lv_at hl 5 rfl) ?_
      refine lv_iload_n X.1 X.2.1 dX4_digestOf_21 rfl (lv_at hl 3 rfl) ?_
      refine lv_icmp_ge (tgt := 60) X.1 X.2.1 dX4_digestOf_22 (by decide) (fun c22 => ?_) (fun c22 => ?_)
      · obtain rfl : i = b.length := Nat.le_antisymm hii (Nat.le_of_not_lt (fun q => absurd c22 (nI_ge q (by omega))))
        refine lv_iload X.1 X.2.1 dX4_digestOf_60 (lv_at hl 4 rfl) ?_
        refine lv_iload_n X.1 X.2.1 dX4_digestOf_62 rfl (lv_at hl 3 rfl) ?_
        refine lv_ixor X.1 X.2.1 dX4_digestOf_63 ?_
        exact h_iret X Y dX4_digestOf_64
      · have hib : i < b.length := Nat.lt_of_not_le (fun q => c22 (nI_le q (by omega)))
        refine lv_bipush (v := 31) X.1 X.2.1 dX4_digestOf_25 (by decide) ?_
        refine lv_iload X.1 X.2.1 dX4_digestOf_27 (lv_at hl 4 rfl) ?_
        refine lv_imul X.1 X.2.1 dX4_digestOf_29 ?_
        refine lv_aload_n X.1 X.2.1 dX4_digestOf_30 rfl (lv_at hl 0 rfl) ?_
        refine gf_X4_36 X hw hx rfl dX4_digestOf_31 ?_
        refine lv_bipush (v := 16) X.1 X.2.1 dX4_digestOf_34 (by decide) ?_
        refine lv_bipush (v := 40) X.1 X.2.1 dX4_digestOf_36 (by decide) ?_
        refine lv_iload_n X.1 X.2.1 dX4_digestOf_38 rfl (lv_at hl 1 rfl) ?_
        refine lv_imul X.1 X.2.1 dX4_digestOf_39 ?_
        refine h_ti (b := nI (40 * s9)) (pk_mul 40 s9) ?_
        refine lv_iload_n X.1 X.2.1 dX4_digestOf_40 rfl (lv_at hl 2 rfl) ?_
        refine lv_iadd X.1 X.2.1 dX4_digestOf_41 ?_
        refine h_ti (b := nI ((40 * s9) + f)) (nI_add (40 * s9) f) ?_
        refine lv_imul X.1 X.2.1 dX4_digestOf_42 ?_
        refine h_ti (b := nI (16 * ((40 * s9) + f))) (pk_mul 16 ((40 * s9) + f)) ?_
        refine lv_iload X.1 X.2.1 dX4_digestOf_43 (lv_at hl 5 rfl) ?_
        refine lv_iadd X.1 X.2.1 dX4_digestOf_45 ?_
        refine h_ti (b := nI ((16 * ((40 * s9) + f)) + i)) (nI_add (16 * ((40 * s9) + f)) i) ?_
        refine h_bald X hw eB (vp_in_nI (by omega) (by decide)) dX4_digestOf_46 ?_
        refine h_tv (b := .int (gB (16 * (40 * s9 + f) + i))) (by rw [nI_clamp (by omega)]) ?_
        refine lv_sipush (v := 255) X.1 X.2.1 dX4_digestOf_47 (by decide) ?_
        refine lv_iand X.1 X.2.1 dX4_digestOf_50 ?_
        refine h_ti (b := b.getD i 0) (vB s9 f b hc i hib) ?_
        refine lv_iadd X.1 X.2.1 dX4_digestOf_51 ?_
        refine h_ti (b := dgP b (i + 1)) rfl ?_
        refine lv_istore (lv' := [(4, .int (dgP b (i + 1))), (0, .ref (ad (20, 0, 0))), (1, .int (nI s9)), (2, .int (nI f)), (3, .int (nI b.length)), (5, .int (nI i))]) X.1 X.2.1 dX4_digestOf_52 hl (by decide) rfl (fun ls hl => ?_)
        refine lv_iinc (v := nI (i + 1)) (lv' := [(5, .int (nI (i + 1))), (4, .int (dgP b (i + 1))), (0, .ref (ad (20, 0, 0))), (1, .int (nI s9)), (2, .int (nI f)), (3, .int (nI b.length))]) X.1 X.2.1 dX4_digestOf_54 hl (k := 5) rfl (nI_1 _) (by decide) rfl (fun ls hl => ?_)
        refine lv_goto (tgt := 19) X.1 X.2.1 dX4_digestOf_57 (by decide) ?_
        exact ih (i + 1) (by omega) (by omega) ls (lv_sub hl [2, 3, 4, 5, 1, 0] rfl)
  refine lv_aload_n X.1 X.2.1 dX4_digestOf_0 rfl (lv_at hl 0 rfl) ?_
  refine gf_X4_33 X hw hx rfl dX4_digestOf_1 ?_
  refine lv_bipush (v := 40) X.1 X.2.1 dX4_digestOf_4 (by decide) ?_
  refine lv_iload_n X.1 X.2.1 dX4_digestOf_6 rfl (lv_at hl 1 rfl) ?_
  refine lv_imul X.1 X.2.1 dX4_digestOf_7 ?_
  refine h_ti (b := nI (40 * s9)) (pk_mul 40 s9) ?_
  refine lv_iload_n X.1 X.2.1 dX4_digestOf_8 rfl (lv_at hl 2 rfl) ?_
  refine lv_iadd X.1 X.2.1 dX4_digestOf_9 ?_
  refine h_ti (b := nI ((40 * s9) + f)) (nI_add (40 * s9) f) ?_
  refine h_iald X hw eZ (vp_in_nI (by omega) (by decide)) dX4_digestOf_10 ?_
  refine h_tv (b := .int (nI b.length)) (by rw [nI_clamp (by omega), vZ s9 f (by omega) (by omega), msz_s hc]) ?_
  refine lv_istore_n (lv' := [(3, .int (nI b.length)), (0, .ref (ad (20, 0, 0))), (1, .int (nI s9)), (2, .int (nI f))]) X.1 X.2.1 dX4_digestOf_11 rfl hl (by decide) rfl (fun ls hl => ?_)
  refine lv_bipush (v := 7) X.1 X.2.1 dX4_digestOf_12 (by decide) ?_
  refine lv_istore (lv' := [(4, .int 7), (3, .int (nI b.length)), (0, .ref (ad (20, 0, 0))), (1, .int (nI s9)), (2, .int (nI f))]) X.1 X.2.1 dX4_digestOf_14 hl (by decide) rfl (fun ls hl => ?_)
  refine lv_iconst (v := 0) X.1 X.2.1 dX4_digestOf_16 (by decide) ?_
  refine lv_istore (lv' := [(5, .int 0), (4, .int 7), (3, .int (nI b.length)), (0, .ref (ad (20, 0, 0))), (1, .int (nI s9)), (2, .int (nI f))]) X.1 X.2.1 dX4_digestOf_17 hl (by decide) rfl (fun ls hl => ?_)
  exact loop (b.length + 1) 0 (by omega) (by omega) ls (lv_sub hl [3, 4, 5, 2, 1, 0] rfl)
set_option maxHeartbeats 4000000 in
set_option maxRecDepth 100000 in
/-- leader -/
theorem c_X4_leader (l : Launch) (G : h_G) {ad : h_T → Nat} {k : h_C} {σ : S_t} {th : Int32} (hM : RM G ad k σ th) {f : Nat} (hf : f < s_nF σ) : h_Rd l yX4_leader cX4_leader 6 (some .int) 4 87 G ad k [.ref (ad (20, 0, 0)), .int (nI f)] (some (.int (oI (s_lead σ f)))) := by
  refine h_rd (by decide +kernel) (Nat.le_of_ble_eq_true rfl) ?_
  intro p e s m args below meth c X Y hw ls hl
  have hl : lv_has ls 6 [(0, .ref (ad (20, 0, 0))), (1, .int (nI f))] := hl
  have hok := hM.ok
  obtain ⟨hx, ⟨gP, eP, vP⟩, ⟨gS, eS, vS⟩, ⟨gU, eU, vU⟩, ⟨gD, eD, vD⟩, ⟨gA, eA, vA⟩, ⟨gK, eK, vK⟩, ⟨gN, eN, vN⟩, ⟨gZ, eZ, vZ⟩, ⟨gB, eB, vB⟩, ⟨g0, g1, g2, e15, e16, e17, v3⟩, ⟨gM, eM⟩, -⟩ := id hM
  have hx : k (20, 0, 0) = some (.inr (4, [.int th, .int (nI (s_cop σ)), .int (nI (s_nS σ)), .ref (ad (20, 3, 0)), .ref (ad (20, 4, 0)), .ref (ad (20, 5, 0)), .ref (ad (20, 6, 0)), .int (nI (s_col σ).length), .ref (ad (20, 8, 0)), .int (nI (s_nF σ)), .ref (ad (20, 10, 0)), .ref (ad (20, 11, 0)), .ref (ad (20, 12, 0)), .ref (ad (20, 13, 0)), .int (nI (s_as σ).length), .ref (ad (20, 15, 0)), .ref (ad (20, 16, 0)), .ref (ad (20, 17, 0)), .ref (ad (20, 18, 0)), .int (s_dg σ)])) := hx
  have hnS : s_nS σ ≤ 10 := hok.2.1
  have hnF : s_nF σ ≤ 40 := hok.2.2.1
  have hcc := cN_le (s_isC σ f) (s_nS σ)
  have loop2 : ∀ (n j : Nat), j ≤ s_nS σ → s_nS σ + 1 ≤ j + n → (∀ a, a < j → s_maj σ f a = false) → ∀ (ls : Array Slot), lv_has ls 6 [(0, .ref (ad (20, 0, 0))), (1, .int (nI f)), (2, .int (nI (cN (s_isC σ f) (s_nS σ)))), (3, .int (nI j))] → W p l e (h_rm 4 87 0 0) s m args below meth c s.heap [] 0 0 (MQ below (h_Qr (some (.int (oI (s_lead σ f))))) args s 0 0 (fun _ => False)) (F0 m 37 ls []) := by
    intro n
    induction n with
    | zero =>
      intro j h1 h2
      exact absurd h2 (by omega)
    | succ n ih =>
      intro j hij hnj hmj ls hl
      refine lv_iload_n X.1 X.2.1 dX4_leader_37 rfl (lv_at hl 3 rfl) ?_
      refine lv_aload_n X.1 X.2.1 dX4_leader_38 rfl (lv_at hl 0 rfl) ?_
      refine gf_X4_58 X hw hx rfl dX4_leader_39 ?_
      refine lv_icmp_ge (tgt := 130) X.1 X.2.1 dX4_leader_42 (by decide) (fun c42 => ?_) (fun c42 => ?_)
      · refine lv_iconst (v := (-1)) X.1 X.2.1 dX4_leader_130 (by decide) ?_
        obtain rfl : j = s_nS σ := Nat.le_antisymm hij (Nat.le_of_not_lt (fun q => absurd c42 (nI_ge (b := s_nS σ) q (by omega))))
        rw [show s_lead σ f = none from ff_miss hmj]
        exact h_iret X Y dX4_leader_131
      · have hjb : j < s_nS σ := Nat.lt_of_not_le (fun q => c42 (nI_le q (by omega)))
        rcases hc : s_cnt σ j f with _ | b
        · refine lv_aload_n X.1 X.2.1 dX4_leader_45 rfl (lv_at hl 0 rfl) ?_
          refine lv_iload_n X.1 X.2.1 dX4_leader_46 rfl (lv_at hl 3 rfl) ?_
          refine lv_iload_n X.1 X.2.1 dX4_leader_47 rfl (lv_at hl 1 rfl) ?_
          refine h_callRV (t := (20, 0, 0)) (As := [.int (nI j), .int (nI f)]) (rest := []) X hw cs_X4_89 (c_X4_counts l G hM hjb hf) hx rfl rfl hl.1 rfl (Nat.le_of_ble_eq_true rfl) ⟨by decide, by decide⟩ ⟨Nat.zero_le _, Nat.zero_le _⟩ dX4_leader_48 ?_
          refine h_tv (b := .int 0) (by rw [isC_n hc]; rfl) ?_
          refine lv_if_ne (tgt := 57) X.1 X.2.1 dX4_leader_51 (by decide) (fun c51 => ?_) (fun c51 => ?_)
          · exact absurd (by decide) c51
          · refine lv_goto (tgt := 124) X.1 X.2.1 dX4_leader_54 (by decide) ?_
            refine lv_iinc (v := nI (j + 1)) (lv' := [(3, .int (nI (j + 1))), (0, .ref (ad (20, 0, 0))), (1, .int (nI f)), (2, .int (nI (cN (s_isC σ f) (s_nS σ))))]) X.1 X.2.1 dX4_leader_124 hl (k := 3) rfl (nI_1 _) (by decide) rfl (fun ls hl => ?_)
            refine lv_goto (tgt := 37) X.1 X.2.1 dX4_leader_127 (by decide) ?_
            exact ih (j + 1) (by omega) (by omega) (nlt_s hmj (maj_n hc)) ls (lv_sub hl [1, 2, 3, 0] rfl)
        · refine lv_aload_n X.1 X.2.1 dX4_leader_45 rfl (lv_at hl 0 rfl) ?_
          refine lv_iload_n X.1 X.2.1 dX4_leader_46 rfl (lv_at hl 3 rfl) ?_
          refine lv_iload_n X.1 X.2.1 dX4_leader_47 rfl (lv_at hl 1 rfl) ?_
          refine h_callRV (t := (20, 0, 0)) (As := [.int (nI j), .int (nI f)]) (rest := []) X hw cs_X4_89 (c_X4_counts l G hM hjb hf) hx rfl rfl hl.1 rfl (Nat.le_of_ble_eq_true rfl) ⟨by decide, by decide⟩ ⟨Nat.zero_le _, Nat.zero_le _⟩ dX4_leader_48 ?_
          refine h_tv (b := .int 1) (by rw [isC_s hc]; rfl) ?_
          refine lv_if_ne (tgt := 57) X.1 X.2.1 dX4_leader_51 (by decide) (fun c51 => ?_) (fun c51 => ?_)
          · refine lv_iconst (v := 0) X.1 X.2.1 dX4_leader_57 (by decide) ?_
            refine lv_istore (lv' := [(4, .int 0), (0, .ref (ad (20, 0, 0))), (1, .int (nI f)), (2, .int (nI (cN (s_isC σ f) (s_nS σ)))), (3, .int (nI j))]) X.1 X.2.1 dX4_leader_58 hl (by decide) rfl (fun ls hl => ?_)
            refine lv_iconst (v := 0) X.1 X.2.1 dX4_leader_60 (by decide) ?_
            refine lv_istore (lv' := [(5, .int 0), (4, .int 0), (0, .ref (ad (20, 0, 0))), (1, .int (nI f)), (2, .int (nI (cN (s_isC σ f) (s_nS σ)))), (3, .int (nI j))]) X.1 X.2.1 dX4_leader_61 hl (by decide) rfl (fun ls hl => ?_)
            have ih2 := ih
            have hcd := cN_le (s_isD σ f (dgL b)) (s_nS σ)
            have loop3 : ∀ (n i : Nat), i ≤ s_nS σ → s_nS σ + 1 ≤ i + n → ∀ (ls : Array Slot), lv_has ls 6 [(0, .ref (ad (20, 0, 0))), (1, .int (nI f)), (2, .int (nI (cN (s_isC σ f) (s_nS σ)))), (3, .int (nI j)), (4, .int (nI (cN (s_isD σ f (dgL b)) i))), (5, .int (nI i))] → W p l e (h_rm 4 87 0 0) s m args below meth c s.heap [] 0 0 (MQ below (h_Qr (some (.int (oI (s_lead σ f))))) args s 0 0 (fun _ => False)) (F0 m 63 ls []) := by
              intro n
              induction n with
              | zero =>
                intro i h1 h2
                exact absurd h2 (by omega)
              | succ n ih =>
                intro i hii hni ls hl
                refine lv_iload X.1 X.2.1 dX4_leader_63 (lv_at hl 5 rfl) ?_
                refine lv_aload_n X.1 X.2.1 dX4_leader_65 rfl (lv_at hl 0 rfl) ?_
                refine gf_X4_58 X hw hx rfl dX4_leader_66 ?_
                refine lv_icmp_ge (tgt := 114) X.1 X.2.1 dX4_leader_69 (by decide) (fun c69 => ?_) (fun c69 => ?_)
                · obtain rfl : i = s_nS σ := Nat.le_antisymm hii (Nat.le_of_not_lt (fun q => absurd c69 (nI_ge (b := s_nS σ) q (by omega))))
                  refine lv_iconst (v := 2) X.1 X.2.1 dX4_leader_114 (by decide) ?_
                  refine lv_iload X.1 X.2.1 dX4_leader_115 (lv_at hl 4 rfl) ?_
                  refine lv_imul X.1 X.2.1 dX4_leader_117 ?_
                  refine h_ti (b := nI (2 * (cN (s_isD σ f (dgL b)) (s_nS σ)))) (pk_mul 2 (cN (s_isD σ f (dgL b)) (s_nS σ))) ?_
                  refine lv_iload_n X.1 X.2.1 dX4_leader_118 rfl (lv_at hl 2 rfl) ?_
                  refine lv_icmp_le (tgt := 124) X.1 X.2.1 dX4_leader_119 (by decide) (fun c119 => ?_) (fun c119 => ?_)
                  · refine lv_iinc (v := nI (j + 1)) (lv' := [(3, .int (nI (j + 1))), (0, .ref (ad (20, 0, 0))), (1, .int (nI f)), (2, .int (nI (cN (s_isC σ f) (s_nS σ)))), (4, .int (nI (cN (s_isD σ f (dgL b)) (s_nS σ)))), (5, .int (nI (s_nS σ)))]) X.1 X.2.1 dX4_leader_124 hl (k := 3) rfl (nI_1 _) (by decide) rfl (fun ls hl => ?_)
                    refine lv_goto (tgt := 37) X.1 X.2.1 dX4_leader_127 (by decide) ?_
                    exact ih2 (j + 1) (by omega) (by omega) (nlt_s hmj (by rw [maj_s hc]; exact decide_eq_false (fun z => absurd c119 (nI_ge z (by omega))))) ls (lv_sub hl [1, 2, 3, 0] rfl)
                  · refine lv_iload_n X.1 X.2.1 dX4_leader_122 rfl (lv_at hl 3 rfl) ?_
                    rw [show s_lead σ f = some j from ff_hit hmj (by rw [maj_s hc]; exact decide_eq_true (Nat.lt_of_not_le (fun z => c119 (nI_le z (by omega))))) hjb]
                    exact h_iret X Y dX4_leader_123
                · have hiib : i < s_nS σ := Nat.lt_of_not_le (fun q => c69 (nI_le (a := s_nS σ) q (by omega)))
                  rcases isD_cases σ f i (dgL b) with hc2 | ⟨b2, hc2, hq⟩ | ⟨b2, hc2, hq⟩
                  · refine lv_iload X.1 X.2.1 dX4_leader_72 (lv_at hl 4 rfl) ?_
                    refine lv_aload_n X.1 X.2.1 dX4_leader_74 rfl (lv_at hl 0 rfl) ?_
                    refine lv_iload X.1 X.2.1 dX4_leader_75 (lv_at hl 5 rfl) ?_
                    refine lv_iload_n X.1 X.2.1 dX4_leader_77 rfl (lv_at hl 1 rfl) ?_
                    refine h_callRV (t := (20, 0, 0)) (As := [.int (nI i), .int (nI f)]) (rest := [.int (nI (cN (s_isD σ f (dgL b)) i))]) X hw cs_X4_89 (c_X4_counts l G hM hiib hf) hx rfl rfl hl.1 rfl (Nat.le_of_ble_eq_true rfl) ⟨by decide, by decide⟩ ⟨Nat.zero_le _, Nat.zero_le _⟩ dX4_leader_78 ?_
                    refine h_tv (b := .int 0) (by rw [isC_n hc2]; rfl) ?_
                    refine lv_if_eq (tgt := 104) X.1 X.2.1 dX4_leader_81 (by decide) (fun c81 => ?_) (fun c81 => ?_)
                    · refine lv_iconst (v := 0) X.1 X.2.1 dX4_leader_104 (by decide) ?_
                      refine lv_iadd X.1 X.2.1 dX4_leader_105 ?_
                      refine h_ti (b := nI ((cN (s_isD σ f (dgL b)) i) + 0)) (nI_add (cN (s_isD σ f (dgL b)) i) 0) ?_
                      refine lv_istore (lv' := [(4, .int (nI ((cN (s_isD σ f (dgL b)) i) + 0))), (0, .ref (ad (20, 0, 0))), (1, .int (nI f)), (2, .int (nI (cN (s_isC σ f) (s_nS σ)))), (3, .int (nI j)), (5, .int (nI i))]) X.1 X.2.1 dX4_leader_106 hl (by decide) rfl (fun ls hl => ?_)
                      refine lv_iinc (v := nI (i + 1)) (lv' := [(5, .int (nI (i + 1))), (4, .int (nI ((cN (s_isD σ f (dgL b)) i) + 0))), (0, .ref (ad (20, 0, 0))), (1, .int (nI f)), (2, .int (nI (cN (s_isC σ f) (s_nS σ)))), (3, .int (nI j))]) X.1 X.2.1 dX4_leader_108 hl (k := 5) rfl (nI_1 _) (by decide) rfl (fun ls hl => ?_)
                      refine lv_goto (tgt := 63) X.1 X.2.1 dX4_leader_111 (by decide) ?_
                      exact ih (i + 1) (by omega) (by omega) ls (by
                        rw [cN_f (isD_n hc2)]
                        exact lv_sub hl [2, 3, 4, 5, 1, 0] rfl)
                    · exact absurd (by decide) c81
                  · refine lv_iload X.1 X.2.1 dX4_leader_72 (lv_at hl 4 rfl) ?_
                    refine lv_aload_n X.1 X.2.1 dX4_leader_74 rfl (lv_at hl 0 rfl) ?_
                    refine lv_iload X.1 X.2.1 dX4_leader_75 (lv_at hl 5 rfl) ?_
                    refine lv_iload_n X.1 X.2.1 dX4_leader_77 rfl (lv_at hl 1 rfl) ?_
                    refine h_callRV (t := (20, 0, 0)) (As := [.int (nI i), .int (nI f)]) (rest := [.int (nI (cN (s_isD σ f (dgL b)) i))]) X hw cs_X4_89 (c_X4_counts l G hM hiib hf) hx rfl rfl hl.1 rfl (Nat.le_of_ble_eq_true rfl) ⟨by decide, by decide⟩ ⟨Nat.zero_le _, Nat.zero_le _⟩ dX4_leader_78 ?_
                    refine h_tv (b := .int 1) (by rw [isC_s hc2]; rfl) ?_
                    refine lv_if_eq (tgt := 104) X.1 X.2.1 dX4_leader_81 (by decide) (fun c81 => ?_) (fun c81 => ?_)
                    · exact absurd c81 (by decide)
                    · refine lv_aload_n X.1 X.2.1 dX4_leader_84 rfl (lv_at hl 0 rfl) ?_
                      refine lv_iload X.1 X.2.1 dX4_leader_85 (lv_at hl 5 rfl) ?_
                      refine lv_iload_n X.1 X.2.1 dX4_leader_87 rfl (lv_at hl 1 rfl) ?_
                      refine h_callRV (t := (20, 0, 0)) (As := [.int (nI i), .int (nI f)]) (rest := [.int (nI (cN (s_isD σ f (dgL b)) i))]) X hw cs_X4_92 (c_X4_digestOf l G hM (s_cnt_cp hc2).1) hx rfl rfl hl.1 rfl (Nat.le_of_ble_eq_true rfl) ⟨by decide, by decide⟩ ⟨Nat.zero_le _, Nat.zero_le _⟩ dX4_leader_88 ?_
                      refine lv_aload_n X.1 X.2.1 dX4_leader_91 rfl (lv_at hl 0 rfl) ?_
                      refine lv_iload_n X.1 X.2.1 dX4_leader_92 rfl (lv_at hl 3 rfl) ?_
                      refine lv_iload_n X.1 X.2.1 dX4_leader_93 rfl (lv_at hl 1 rfl) ?_
                      refine h_callRV (t := (20, 0, 0)) (As := [.int (nI j), .int (nI f)]) (rest := [.int (dgL b2), .int (nI (cN (s_isD σ f (dgL b)) i))]) X hw cs_X4_92 (c_X4_digestOf l G hM (s_cnt_cp hc).1) hx rfl rfl hl.1 rfl (Nat.le_of_ble_eq_true rfl) ⟨by decide, by decide⟩ ⟨Nat.zero_le _, Nat.zero_le _⟩ dX4_leader_94 ?_
                      refine lv_icmp_ne (tgt := 104) X.1 X.2.1 dX4_leader_97 (by decide) (fun c97 => ?_) (fun c97 => ?_)
                      · refine lv_iconst (v := 0) X.1 X.2.1 dX4_leader_104 (by decide) ?_
                        refine lv_iadd X.1 X.2.1 dX4_leader_105 ?_
                        refine h_ti (b := nI ((cN (s_isD σ f (dgL b)) i) + 0)) (nI_add (cN (s_isD σ f (dgL b)) i) 0) ?_
                        refine lv_istore (lv' := [(4, .int (nI ((cN (s_isD σ f (dgL b)) i) + 0))), (0, .ref (ad (20, 0, 0))), (1, .int (nI f)), (2, .int (nI (cN (s_isC σ f) (s_nS σ)))), (3, .int (nI j)), (5, .int (nI i))]) X.1 X.2.1 dX4_leader_106 hl (by decide) rfl (fun ls hl => ?_)
                        refine lv_iinc (v := nI (i + 1)) (lv' := [(5, .int (nI (i + 1))), (4, .int (nI ((cN (s_isD σ f (dgL b)) i) + 0))), (0, .ref (ad (20, 0, 0))), (1, .int (nI f)), (2, .int (nI (cN (s_isC σ f) (s_nS σ)))), (3, .int (nI j))]) X.1 X.2.1 dX4_leader_108 hl (k := 5) rfl (nI_1 _) (by decide) rfl (fun ls hl => ?_)
                        refine lv_goto (tgt := 63) X.1 X.2.1 dX4_leader_111 (by decide) ?_
                        exact ih (i + 1) (by omega) (by omega) ls (by
                          rw [cN_f (isD_d hc2 hq)]
                          exact lv_sub hl [2, 3, 4, 5, 1, 0] rfl)
                      · exact absurd c97 hq
                  · refine lv_iload X.1 X.2.1 dX4_leader_72 (lv_at hl 4 rfl) ?_
                    refine lv_aload_n X.1 X.2.1 dX4_leader_74 rfl (lv_at hl 0 rfl) ?_
                    refine lv_iload X.1 X.2.1 dX4_leader_75 (lv_at hl 5 rfl) ?_
                    refine lv_iload_n X.1 X.2.1 dX4_leader_77 rfl (lv_at hl 1 rfl) ?_
                    refine h_callRV (t := (20, 0, 0)) (As := [.int (nI i), .int (nI f)]) (rest := [.int (nI (cN (s_isD σ f (dgL b)) i))]) X hw cs_X4_89 (c_X4_counts l G hM hiib hf) hx rfl rfl hl.1 rfl (Nat.le_of_ble_eq_true rfl) ⟨by decide, by decide⟩ ⟨Nat.zero_le _, Nat.zero_le _⟩ dX4_leader_78 ?_
                    refine h_tv (b := .int 1) (by rw [isC_s hc2]; rfl) ?_
                    refine lv_if_eq (tgt := 104) X.1 X.2.1 dX4_leader_81 (by decide) (fun c81 => ?_) (fun c81 => ?_)
                    · exact absurd c81 (by decide)
                    · refine lv_aload_n X.1 X.2.1 dX4_leader_84 rfl (lv_at hl 0 rfl) ?_
                      refine lv_iload X.1 X.2.1 dX4_leader_85 (lv_at hl 5 rfl) ?_
                      refine lv_iload_n X.1 X.2.1 dX4_leader_87 rfl (lv_at hl 1 rfl) ?_
                      refine h_callRV (t := (20, 0, 0)) (As := [.int (nI i), .int (nI f)]) (rest := [.int (nI (cN (s_isD σ f (dgL b)) i))]) X hw cs_X4_92 (c_X4_digestOf l G hM (s_cnt_cp hc2).1) hx rfl rfl hl.1 rfl (Nat.le_of_ble_eq_true rfl) ⟨by decide, by decide⟩ ⟨Nat.zero_le _, Nat.zero_le _⟩ dX4_leader_88 ?_
                      refine lv_aload_n X.1 X.2.1 dX4_leader_91 rfl (lv_at hl 0 rfl) ?_
                      refine lv_iload_n X.1 X.2.1 dX4_leader_92 rfl (lv_at hl 3 rfl) ?_
                      refine lv_iload_n X.1 X.2.1 dX4_leader_93 rfl (lv_at hl 1 rfl) ?_
                      refine h_callRV (t := (20, 0, 0)) (As := [.int (nI j), .int (nI f)]) (rest := [.int (dgL b2), .int (nI (cN (s_isD σ f (dgL b)) i))]) X hw cs_X4_92 (c_X4_digestOf l G hM (s_cnt_cp hc).1) hx rfl rfl hl.1 rfl (Nat.le_of_ble_eq_true rfl) ⟨by decide, by decide⟩ ⟨Nat.zero_le _, Nat.zero_le _⟩ dX4_leader_94 ?_
                      refine lv_icmp_ne (tgt := 104) X.1 X.2.1 dX4_leader_97 (by decide) (fun c97 => ?_) (fun c97 => ?_)
                      · exact absurd hq c97
                      · refine lv_iconst (v := 1) X.1 X.2.1 dX4_leader_100 (by decide) ?_
                        refine lv_goto (tgt := 105) X.1 X.2.1 dX4_leader_101 (by decide) ?_
                        refine lv_iadd X.1 X.2.1 dX4_leader_105 ?_
                        refine h_ti (b := nI ((cN (s_isD σ f (dgL b)) i) + 1)) (nI_add (cN (s_isD σ f (dgL b)) i) 1) ?_
                        refine lv_istore (lv' := [(4, .int (nI ((cN (s_isD σ f (dgL b)) i) + 1))), (0, .ref (ad (20, 0, 0))), (1, .int (nI f)), (2, .int (nI (cN (s_isC σ f) (s_nS σ)))), (3, .int (nI j)), (5, .int (nI i))]) X.1 X.2.1 dX4_leader_106 hl (by decide) rfl (fun ls hl => ?_)
                        refine lv_iinc (v := nI (i + 1)) (lv' := [(5, .int (nI (i + 1))), (4, .int (nI ((cN (s_isD σ f (dgL b)) i) + 1))), (0, .ref (ad (20, 0, 0))), (1, .int (nI f)), (2, .int (nI (cN (s_isC σ f) (s_nS σ)))), (3, .int (nI j))]) X.1 X.2.1 dX4_leader_108 hl (k := 5) rfl (nI_1 _) (by decide) rfl (fun ls hl => ?_)
                        refine lv_goto (tgt := 63) X.1 X.2.1 dX4_leader_111 (by decide) ?_
                        exact ih (i + 1) (by omega) (by omega) ls (by
                          rw [cN_t (isD_e hc2 hq)]
                          exact lv_sub hl [2, 3, 4, 5, 1, 0] rfl)
            exact loop3 (s_nS σ + 1) 0 (by omega) (by omega) ls (lv_sub hl [2, 3, 4, 5, 1, 0] rfl)
          · exact absurd c51 (by decide)
  have loop : ∀ (n i : Nat), i ≤ s_nS σ → s_nS σ + 1 ≤ i + n → ∀ (ls : Array Slot), lv_has ls 6 [(0, .ref (ad (20, 0, 0))), (1, .int (nI f)), (2, .int (nI (cN (s_isC σ f) i))), (3, .int (nI i))] → W p l e (h_rm 4 87 0 0) s m args below meth c s.heap [] 0 0 (MQ below (h_Qr (some (.int (oI (s_lead σ f))))) args s 0 0 (fun _ => False)) (F0 m 4 ls []) := by
    intro n
    induction n with
    | zero =>
      intro i h1 h2
      exact absurd h2 (by omega)
    | succ n ih =>
      intro i hii hni ls hl
      refine lv_iload_n X.1 X.2.1 dX4_leader_4 rfl (lv_at hl 3 rfl) ?_
      refine lv_aload_n X.1 X.2.1 dX4_leader_5 rfl (lv_at hl 0 rfl) ?_
      refine gf_X4_58 X hw hx rfl dX4_leader_6 ?_
      refine lv_icmp_ge (tgt := 35) X.1 X.2.1 dX4_leader_9 (by decide) (fun c9 => ?_) (fun c9 => ?_)
      · obtain rfl : i = s_nS σ := Nat.le_antisymm hii (Nat.le_of_not_lt (fun q => absurd c9 (nI_ge (b := s_nS σ) q (by omega))))
        refine lv_iconst (v := 0) X.1 X.2.1 dX4_leader_35 (by decide) ?_
        refine lv_istore_n (lv' := [(3, .int 0), (0, .ref (ad (20, 0, 0))), (1, .int (nI f)), (2, .int (nI (cN (s_isC σ f) (s_nS σ))))]) X.1 X.2.1 dX4_leader_36 rfl hl (by decide) rfl (fun ls hl => ?_)
        exact loop2 (s_nS σ + 1) 0 (by omega) (by omega) (fun a ha => absurd ha (Nat.not_lt_zero a)) ls (lv_sub hl [1, 2, 3, 0] rfl)
      · have hiib : i < s_nS σ := Nat.lt_of_not_le (fun q => c9 (nI_le (a := s_nS σ) q (by omega)))
        rcases hc : s_cnt σ i f with _ | b
        · refine lv_iload_n X.1 X.2.1 dX4_leader_12 rfl (lv_at hl 2 rfl) ?_
          refine lv_aload_n X.1 X.2.1 dX4_leader_13 rfl (lv_at hl 0 rfl) ?_
          refine lv_iload_n X.1 X.2.1 dX4_leader_14 rfl (lv_at hl 3 rfl) ?_
          refine lv_iload_n X.1 X.2.1 dX4_leader_15 rfl (lv_at hl 1 rfl) ?_
          refine h_callRV (t := (20, 0, 0)) (As := [.int (nI i), .int (nI f)]) (rest := [.int (nI (cN (s_isC σ f) i))]) X hw cs_X4_89 (c_X4_counts l G hM hiib hf) hx rfl rfl hl.1 rfl (Nat.le_of_ble_eq_true rfl) ⟨by decide, by decide⟩ ⟨Nat.zero_le _, Nat.zero_le _⟩ dX4_leader_16 ?_
          refine h_tv (b := .int 0) (by rw [isC_n hc]; rfl) ?_
          refine lv_if_eq (tgt := 26) X.1 X.2.1 dX4_leader_19 (by decide) (fun c19 => ?_) (fun c19 => ?_)
          · refine lv_iconst (v := 0) X.1 X.2.1 dX4_leader_26 (by decide) ?_
            refine lv_iadd X.1 X.2.1 dX4_leader_27 ?_
            refine h_ti (b := nI ((cN (s_isC σ f) i) + 0)) (nI_add (cN (s_isC σ f) i) 0) ?_
            refine lv_istore_n (lv' := [(2, .int (nI ((cN (s_isC σ f) i) + 0))), (0, .ref (ad (20, 0, 0))), (1, .int (nI f)), (3, .int (nI i))]) X.1 X.2.1 dX4_leader_28 rfl hl (by decide) rfl (fun ls hl => ?_)
            refine lv_iinc (v := nI (i + 1)) (lv' := [(3, .int (nI (i + 1))), (2, .int (nI ((cN (s_isC σ f) i) + 0))), (0, .ref (ad (20, 0, 0))), (1, .int (nI f))]) X.1 X.2.1 dX4_leader_29 hl (k := 3) rfl (nI_1 _) (by decide) rfl (fun ls hl => ?_)
            refine lv_goto (tgt := 4) X.1 X.2.1 dX4_leader_32 (by decide) ?_
            exact ih (i + 1) (by omega) (by omega) ls (by
              rw [cN_f (isC_n hc)]
              exact lv_sub hl [2, 3, 1, 0] rfl)
          · exact absurd (by decide) c19
        · refine lv_iload_n X.1 X.2.1 dX4_leader_12 rfl (lv_at hl 2 rfl) ?_
          refine lv_aload_n X.1 X.2.1 dX4_leader_13 rfl (lv_at hl 0 rfl) ?_
          refine lv_iload_n X.1 X.2.1 dX4_leader_14 rfl (lv_at hl 3 rfl) ?_
          refine lv_iload_n X.1 X.2.1 dX4_leader_15 rfl (lv_at hl 1 rfl) ?_
          refine h_callRV (t := (20, 0, 0)) (As := [.int (nI i), .int (nI f)]) (rest := [.int (nI (cN (s_isC σ f) i))]) X hw cs_X4_89 (c_X4_counts l G hM hiib hf) hx rfl rfl hl.1 rfl (Nat.le_of_ble_eq_true rfl) ⟨by decide, by decide⟩ ⟨Nat.zero_le _, Nat.zero_le _⟩ dX4_leader_16 ?_
          refine h_tv (b := .int 1) (by rw [isC_s hc]; rfl) ?_
          refine lv_if_eq (tgt := 26) X.1 X.2.1 dX4_leader_19 (by decide) (fun c19 => ?_) (fun c19 => ?_)
          · exact absurd c19 (by decide)
          · refine lv_iconst (v := 1) X.1 X.2.1 dX4_leader_22 (by decide) ?_
            refine lv_goto (tgt := 27) X.1 X.2.1 dX4_leader_23 (by decide) ?_
            refine lv_iadd X.1 X.2.1 dX4_leader_27 ?_
            refine h_ti (b := nI ((cN (s_isC σ f) i) + 1)) (nI_add (cN (s_isC σ f) i) 1) ?_
            refine lv_istore_n (lv' := [(2, .int (nI ((cN (s_isC σ f) i) + 1))), (0, .ref (ad (20, 0, 0))), (1, .int (nI f)), (3, .int (nI i))]) X.1 X.2.1 dX4_leader_28 rfl hl (by decide) rfl (fun ls hl => ?_)
            refine lv_iinc (v := nI (i + 1)) (lv' := [(3, .int (nI (i + 1))), (2, .int (nI ((cN (s_isC σ f) i) + 1))), (0, .ref (ad (20, 0, 0))), (1, .int (nI f))]) X.1 X.2.1 dX4_leader_29 hl (k := 3) rfl (nI_1 _) (by decide) rfl (fun ls hl => ?_)
            refine lv_goto (tgt := 4) X.1 X.2.1 dX4_leader_32 (by decide) ?_
            exact ih (i + 1) (by omega) (by omega) ls (by
              rw [cN_t (isC_s hc)]
              exact lv_sub hl [2, 3, 1, 0] rfl)
  refine lv_iconst (v := 0) X.1 X.2.1 dX4_leader_0 (by decide) ?_
  refine lv_istore_n (lv' := [(2, .int 0), (0, .ref (ad (20, 0, 0))), (1, .int (nI f))]) X.1 X.2.1 dX4_leader_1 rfl hl (by decide) rfl (fun ls hl => ?_)
  refine lv_iconst (v := 0) X.1 X.2.1 dX4_leader_2 (by decide) ?_
  refine lv_istore_n (lv' := [(3, .int 0), (2, .int 0), (0, .ref (ad (20, 0, 0))), (1, .int (nI f))]) X.1 X.2.1 dX4_leader_3 rfl hl (by decide) rfl (fun ls hl => ?_)
  exact loop (s_nS σ + 1) 0 (by omega) (by omega) ls (lv_sub hl [2, 3, 1, 0] rfl)
set_option maxHeartbeats 4000000 in
set_option maxRecDepth 100000 in
/-- copiesOf -/
theorem c_X4_copiesOf1 (l : Launch) (G : h_G) {ad : h_T → Nat} {k : h_C} {σ : S_t} {th : Int32} (hM : RM G ad k σ th) {f : Nat} (hf : f < s_nF σ) : h_Rd l yX4_copiesOf cX4_copiesOf 5 (some .int) 3 65 G ad k [.ref (ad (20, 0, 0)), .int (nI f), .int 1] (some (.int (nI (cN (fun s => s_has σ s f) (s_nS σ))))) := by
  refine h_rd (by decide +kernel) (Nat.le_of_ble_eq_true rfl) ?_
  intro p e s m args below meth c X Y hw ls hl
  have hl : lv_has ls 5 [(0, .ref (ad (20, 0, 0))), (1, .int (nI f)), (2, .int 1)] := hl
  have hok := hM.ok
  obtain ⟨hx, ⟨gP, eP, vP⟩, ⟨gS, eS, vS⟩, ⟨gU, eU, vU⟩, ⟨gD, eD, vD⟩, ⟨gA, eA, vA⟩, ⟨gK, eK, vK⟩, ⟨gN, eN, vN⟩, ⟨gZ, eZ, vZ⟩, ⟨gB, eB, vB⟩, ⟨g0, g1, g2, e15, e16, e17, v3⟩, ⟨gM, eM⟩, -⟩ := id hM
  have hx : k (20, 0, 0) = some (.inr (4, [.int th, .int (nI (s_cop σ)), .int (nI (s_nS σ)), .ref (ad (20, 3, 0)), .ref (ad (20, 4, 0)), .ref (ad (20, 5, 0)), .ref (ad (20, 6, 0)), .int (nI (s_col σ).length), .ref (ad (20, 8, 0)), .int (nI (s_nF σ)), .ref (ad (20, 10, 0)), .ref (ad (20, 11, 0)), .ref (ad (20, 12, 0)), .ref (ad (20, 13, 0)), .int (nI (s_as σ).length), .ref (ad (20, 15, 0)), .ref (ad (20, 16, 0)), .ref (ad (20, 17, 0)), .ref (ad (20, 18, 0)), .int (s_dg σ)])) := hx
  have hnS : s_nS σ ≤ 10 := hok.2.1
  have hnF : s_nF σ ≤ 40 := hok.2.2.1
  have loop : ∀ (n i : Nat), i ≤ s_nS σ → s_nS σ + 1 ≤ i + n → ∀ (ls : Array Slot), lv_has ls 5 [(0, .ref (ad (20, 0, 0))), (1, .int (nI f)), (2, .int 1), (3, .int (nI (cN (fun s => s_has σ s f) i))), (4, .int (nI i))] → W p l e (h_rm 3 65 0 0) s m args below meth c s.heap [] 0 0 (MQ below (h_Qr (some (.int (nI (cN (fun s => s_has σ s f) (s_nS σ)))))) args s 0 0 (fun _ => False)) (F0 m 5 ls []) := by
    intro n
    induction n with
    | zero =>
      intro i h1 h2
      exact absurd h2 (by omega)
    | succ n ih =>
      intro i hii hni ls hl
      refine lv_iload X.1 X.2.1 dX4_copiesOf_5 (lv_at hl 4 rfl) ?_
      refine lv_aload_n X.1 X.2.1 dX4_copiesOf_7 rfl (lv_at hl 0 rfl) ?_
      refine gf_X4_58 X hw hx rfl dX4_copiesOf_8 ?_
      refine lv_icmp_ge (tgt := 52) X.1 X.2.1 dX4_copiesOf_11 (by decide) (fun c11 => ?_) (fun c11 => ?_)
      · obtain rfl : i = s_nS σ := Nat.le_antisymm hii (Nat.le_of_not_lt (fun q => absurd c11 (nI_ge (b := s_nS σ) q (by omega))))
        refine lv_iload_n X.1 X.2.1 dX4_copiesOf_52 rfl (lv_at hl 3 rfl) ?_
        exact h_iret X Y dX4_copiesOf_53
      · have hiib : i < s_nS σ := Nat.lt_of_not_le (fun q => c11 (nI_le (a := s_nS σ) q (by omega)))
        rcases hh : s_has σ i f with _ | _
        · refine lv_iload_n X.1 X.2.1 dX4_copiesOf_14 rfl (lv_at hl 3 rfl) ?_
          refine lv_aload_n X.1 X.2.1 dX4_copiesOf_15 rfl (lv_at hl 0 rfl) ?_
          refine lv_iload X.1 X.2.1 dX4_copiesOf_16 (lv_at hl 4 rfl) ?_
          refine lv_iload_n X.1 X.2.1 dX4_copiesOf_18 rfl (lv_at hl 1 rfl) ?_
          refine h_callRV (t := (20, 0, 0)) (As := [.int (nI i), .int (nI f)]) (rest := [.int (nI (cN (fun s => s_has σ s f) i))]) X hw cs_X4_75 (c_X4_hasN l G hM hiib hf) hx rfl rfl hl.1 rfl (Nat.le_of_ble_eq_true rfl) ⟨by decide, by decide⟩ ⟨Nat.zero_le _, Nat.zero_le _⟩ dX4_copiesOf_19 ?_
          refine h_tv (b := .int 0) (by rw [hh]; rfl) ?_
          refine lv_if_eq (tgt := 43) X.1 X.2.1 dX4_copiesOf_22 (by decide) (fun c22 => ?_) (fun c22 => ?_)
          · refine lv_iconst (v := 0) X.1 X.2.1 dX4_copiesOf_43 (by decide) ?_
            refine lv_iadd X.1 X.2.1 dX4_copiesOf_44 ?_
            refine h_ti (b := nI ((cN (fun s => s_has σ s f) i) + 0)) (nI_add (cN (fun s => s_has σ s f) i) 0) ?_
            refine lv_istore_n (lv' := [(3, .int (nI ((cN (fun s => s_has σ s f) i) + 0))), (0, .ref (ad (20, 0, 0))), (1, .int (nI f)), (2, .int 1), (4, .int (nI i))]) X.1 X.2.1 dX4_copiesOf_45 rfl hl (by decide) rfl (fun ls hl => ?_)
            refine lv_iinc (v := nI (i + 1)) (lv' := [(4, .int (nI (i + 1))), (3, .int (nI ((cN (fun s => s_has σ s f) i) + 0))), (0, .ref (ad (20, 0, 0))), (1, .int (nI f)), (2, .int 1)]) X.1 X.2.1 dX4_copiesOf_46 hl (k := 4) rfl (nI_1 _) (by decide) rfl (fun ls hl => ?_)
            refine lv_goto (tgt := 5) X.1 X.2.1 dX4_copiesOf_49 (by decide) ?_
            exact ih (i + 1) (by omega) (by omega) ls (by
              rw [cN_f (P := fun s => s_has σ s f) hh]
              exact lv_sub hl [2, 3, 4, 1, 0] rfl)
          · exact absurd (by decide) c22
        · refine lv_iload_n X.1 X.2.1 dX4_copiesOf_14 rfl (lv_at hl 3 rfl) ?_
          refine lv_aload_n X.1 X.2.1 dX4_copiesOf_15 rfl (lv_at hl 0 rfl) ?_
          refine lv_iload X.1 X.2.1 dX4_copiesOf_16 (lv_at hl 4 rfl) ?_
          refine lv_iload_n X.1 X.2.1 dX4_copiesOf_18 rfl (lv_at hl 1 rfl) ?_
          refine h_callRV (t := (20, 0, 0)) (As := [.int (nI i), .int (nI f)]) (rest := [.int (nI (cN (fun s => s_has σ s f) i))]) X hw cs_X4_75 (c_X4_hasN l G hM hiib hf) hx rfl rfl hl.1 rfl (Nat.le_of_ble_eq_true rfl) ⟨by decide, by decide⟩ ⟨Nat.zero_le _, Nat.zero_le _⟩ dX4_copiesOf_19 ?_
          refine h_tv (b := .int 1) (by rw [hh]; rfl) ?_
          refine lv_if_eq (tgt := 43) X.1 X.2.1 dX4_copiesOf_22 (by decide) (fun c22 => ?_) (fun c22 => ?_)
          · exact absurd c22 (by decide)
          · refine lv_iload_n X.1 X.2.1 dX4_copiesOf_25 rfl (lv_at hl 2 rfl) ?_
            refine lv_if_ne (tgt := 39) X.1 X.2.1 dX4_copiesOf_26 (by decide) (fun c26 => ?_) (fun c26 => ?_)
            · refine lv_iconst (v := 1) X.1 X.2.1 dX4_copiesOf_39 (by decide) ?_
              refine lv_goto (tgt := 44) X.1 X.2.1 dX4_copiesOf_40 (by decide) ?_
              refine lv_iadd X.1 X.2.1 dX4_copiesOf_44 ?_
              refine h_ti (b := nI ((cN (fun s => s_has σ s f) i) + 1)) (nI_add (cN (fun s => s_has σ s f) i) 1) ?_
              refine lv_istore_n (lv' := [(3, .int (nI ((cN (fun s => s_has σ s f) i) + 1))), (0, .ref (ad (20, 0, 0))), (1, .int (nI f)), (2, .int 1), (4, .int (nI i))]) X.1 X.2.1 dX4_copiesOf_45 rfl hl (by decide) rfl (fun ls hl => ?_)
              refine lv_iinc (v := nI (i + 1)) (lv' := [(4, .int (nI (i + 1))), (3, .int (nI ((cN (fun s => s_has σ s f) i) + 1))), (0, .ref (ad (20, 0, 0))), (1, .int (nI f)), (2, .int 1)]) X.1 X.2.1 dX4_copiesOf_46 hl (k := 4) rfl (nI_1 _) (by decide) rfl (fun ls hl => ?_)
              refine lv_goto (tgt := 5) X.1 X.2.1 dX4_copiesOf_49 (by decide) ?_
              exact ih (i + 1) (by omega) (by omega) ls (by
                rw [cN_t (P := fun s => s_has σ s f) hh]
                exact lv_sub hl [2, 3, 4, 1, 0] rfl)
            · exact absurd c26 (by decide)
  refine lv_iconst (v := 0) X.1 X.2.1 dX4_copiesOf_0 (by decide) ?_
  refine lv_istore_n (lv' := [(3, .int 0), (0, .ref (ad (20, 0, 0))), (1, .int (nI f)), (2, .int 1)]) X.1 X.2.1 dX4_copiesOf_1 rfl hl (by decide) rfl (fun ls hl => ?_)
  refine lv_iconst (v := 0) X.1 X.2.1 dX4_copiesOf_2 (by decide) ?_
  refine lv_istore (lv' := [(4, .int 0), (3, .int 0), (0, .ref (ad (20, 0, 0))), (1, .int (nI f)), (2, .int 1)]) X.1 X.2.1 dX4_copiesOf_3 hl (by decide) rfl (fun ls hl => ?_)
  exact loop (s_nS σ + 1) 0 (by omega) (by omega) ls (lv_sub hl [2, 3, 4, 1, 0] rfl)
theorem has_cases (σ : S_t) (s f : Nat) : s_has σ s f = false ∨ (s_has σ s f = true ∧ s_si σ s = true) ∨ (s_has σ s f = true ∧ s_si σ s = false) := by
  cases s_has σ s f <;> cases s_si σ s <;> simp
set_option maxHeartbeats 4000000 in
set_option maxRecDepth 100000 in
/-- copiesOf -/
theorem c_X4_copiesOf0 (l : Launch) (G : h_G) {ad : h_T → Nat} {k : h_C} {σ : S_t} {th : Int32} (hM : RM G ad k σ th) {f : Nat} (hf : f < s_nF σ) : h_Rd l yX4_copiesOf cX4_copiesOf 5 (some .int) 3 65 G ad k [.ref (ad (20, 0, 0)), .int (nI f), .int 0] (some (.int (nI (cN (s_isC σ f) (s_nS σ))))) := by
  refine h_rd (by decide +kernel) (Nat.le_of_ble_eq_true rfl) ?_
  intro p e s m args below meth c X Y hw ls hl
  have hl : lv_has ls 5 [(0, .ref (ad (20, 0, 0))), (1, .int (nI f)), (2, .int 0)] := hl
  have hok := hM.ok
  obtain ⟨hx, ⟨gP, eP, vP⟩, ⟨gS, eS, vS⟩, ⟨gU, eU, vU⟩, ⟨gD, eD, vD⟩, ⟨gA, eA, vA⟩, ⟨gK, eK, vK⟩, ⟨gN, eN, vN⟩, ⟨gZ, eZ, vZ⟩, ⟨gB, eB, vB⟩, ⟨g0, g1, g2, e15, e16, e17, v3⟩, ⟨gM, eM⟩, -⟩ := id hM
  have hx : k (20, 0, 0) = some (.inr (4, [.int th, .int (nI (s_cop σ)), .int (nI (s_nS σ)), .ref (ad (20, 3, 0)), .ref (ad (20, 4, 0)), .ref (ad (20, 5, 0)), .ref (ad (20, 6, 0)), .int (nI (s_col σ).length), .ref (ad (20, 8, 0)), .int (nI (s_nF σ)), .ref (ad (20, 10, 0)), .ref (ad (20, 11, 0)), .ref (ad (20, 12, 0)), .ref (ad (20, 13, 0)), .int (nI (s_as σ).length), .ref (ad (20, 15, 0)), .ref (ad (20, 16, 0)), .ref (ad (20, 17, 0)), .ref (ad (20, 18, 0)), .int (s_dg σ)])) := hx
  have hnS : s_nS σ ≤ 10 := hok.2.1
  have hnF : s_nF σ ≤ 40 := hok.2.2.1
  have loop : ∀ (n i : Nat), i ≤ s_nS σ → s_nS σ + 1 ≤ i + n → ∀ (ls : Array Slot), lv_has ls 5 [(0, .ref (ad (20, 0, 0))), (1, .int (nI f)), (2, .int 0), (3, .int (nI (cN (s_isC σ f) i))), (4, .int (nI i))] → W p l e (h_rm 3 65 0 0) s m args below meth c s.heap [] 0 0 (MQ below (h_Qr (some (.int (nI (cN (s_isC σ f) (s_nS σ)))))) args s 0 0 (fun _ => False)) (F0 m 5 ls []) := by
    intro n
    induction n with
    | zero =>
      intro i h1 h2
      exact absurd h2 (by omega)
    | succ n ih =>
      intro i hii hni ls hl
      refine lv_iload X.1 X.2.1 dX4_copiesOf_5 (lv_at hl 4 rfl) ?_
      refine lv_aload_n X.1 X.2.1 dX4_copiesOf_7 rfl (lv_at hl 0 rfl) ?_
      refine gf_X4_58 X hw hx rfl dX4_copiesOf_8 ?_
      refine lv_icmp_ge (tgt := 52) X.1 X.2.1 dX4_copiesOf_11 (by decide) (fun c11 => ?_) (fun c11 => ?_)
      · obtain rfl : i = s_nS σ := Nat.le_antisymm hii (Nat.le_of_not_lt (fun q => absurd c11 (nI_ge (b := s_nS σ) q (by omega))))
        refine lv_iload_n X.1 X.2.1 dX4_copiesOf_52 rfl (lv_at hl 3 rfl) ?_
        exact h_iret X Y dX4_copiesOf_53
      · have hiib : i < s_nS σ := Nat.lt_of_not_le (fun q => c11 (nI_le (a := s_nS σ) q (by omega)))
        rcases has_cases σ i f with hh | ⟨hh, hb⟩ | ⟨hh, hb⟩
        · refine lv_iload_n X.1 X.2.1 dX4_copiesOf_14 rfl (lv_at hl 3 rfl) ?_
          refine lv_aload_n X.1 X.2.1 dX4_copiesOf_15 rfl (lv_at hl 0 rfl) ?_
          refine lv_iload X.1 X.2.1 dX4_copiesOf_16 (lv_at hl 4 rfl) ?_
          refine lv_iload_n X.1 X.2.1 dX4_copiesOf_18 rfl (lv_at hl 1 rfl) ?_
          refine h_callRV (t := (20, 0, 0)) (As := [.int (nI i), .int (nI f)]) (rest := [.int (nI (cN (s_isC σ f) i))]) X hw cs_X4_75 (c_X4_hasN l G hM hiib hf) hx rfl rfl hl.1 rfl (Nat.le_of_ble_eq_true rfl) ⟨by decide, by decide⟩ ⟨Nat.zero_le _, Nat.zero_le _⟩ dX4_copiesOf_19 ?_
          refine h_tv (b := .int 0) (by rw [hh]; rfl) ?_
          refine lv_if_eq (tgt := 43) X.1 X.2.1 dX4_copiesOf_22 (by decide) (fun c22 => ?_) (fun c22 => ?_)
          · refine lv_iconst (v := 0) X.1 X.2.1 dX4_copiesOf_43 (by decide) ?_
            refine lv_iadd X.1 X.2.1 dX4_copiesOf_44 ?_
            refine h_ti (b := nI ((cN (s_isC σ f) i) + 0)) (nI_add (cN (s_isC σ f) i) 0) ?_
            refine lv_istore_n (lv' := [(3, .int (nI ((cN (s_isC σ f) i) + 0))), (0, .ref (ad (20, 0, 0))), (1, .int (nI f)), (2, .int 0), (4, .int (nI i))]) X.1 X.2.1 dX4_copiesOf_45 rfl hl (by decide) rfl (fun ls hl => ?_)
            refine lv_iinc (v := nI (i + 1)) (lv' := [(4, .int (nI (i + 1))), (3, .int (nI ((cN (s_isC σ f) i) + 0))), (0, .ref (ad (20, 0, 0))), (1, .int (nI f)), (2, .int 0)]) X.1 X.2.1 dX4_copiesOf_46 hl (k := 4) rfl (nI_1 _) (by decide) rfl (fun ls hl => ?_)
            refine lv_goto (tgt := 5) X.1 X.2.1 dX4_copiesOf_49 (by decide) ?_
            exact ih (i + 1) (by omega) (by omega) ls (by
              rw [cN_f (show s_isC σ f i = false by rw [isC_eq, hh]; rfl)]
              exact lv_sub hl [2, 3, 4, 1, 0] rfl)
          · exact absurd (by decide) c22
        · refine lv_iload_n X.1 X.2.1 dX4_copiesOf_14 rfl (lv_at hl 3 rfl) ?_
          refine lv_aload_n X.1 X.2.1 dX4_copiesOf_15 rfl (lv_at hl 0 rfl) ?_
          refine lv_iload X.1 X.2.1 dX4_copiesOf_16 (lv_at hl 4 rfl) ?_
          refine lv_iload_n X.1 X.2.1 dX4_copiesOf_18 rfl (lv_at hl 1 rfl) ?_
          refine h_callRV (t := (20, 0, 0)) (As := [.int (nI i), .int (nI f)]) (rest := [.int (nI (cN (s_isC σ f) i))]) X hw cs_X4_75 (c_X4_hasN l G hM hiib hf) hx rfl rfl hl.1 rfl (Nat.le_of_ble_eq_true rfl) ⟨by decide, by decide⟩ ⟨Nat.zero_le _, Nat.zero_le _⟩ dX4_copiesOf_19 ?_
          refine h_tv (b := .int 1) (by rw [hh]; rfl) ?_
          refine lv_if_eq (tgt := 43) X.1 X.2.1 dX4_copiesOf_22 (by decide) (fun c22 => ?_) (fun c22 => ?_)
          · exact absurd c22 (by decide)
          · refine lv_iload_n X.1 X.2.1 dX4_copiesOf_25 rfl (lv_at hl 2 rfl) ?_
            refine lv_if_ne (tgt := 39) X.1 X.2.1 dX4_copiesOf_26 (by decide) (fun c26 => ?_) (fun c26 => ?_)
            · exact absurd (by decide) c26
            · refine lv_aload_n X.1 X.2.1 dX4_copiesOf_29 rfl (lv_at hl 0 rfl) ?_
              refine gf_X4_13 X hw hx rfl dX4_copiesOf_30 ?_
              refine lv_iload X.1 X.2.1 dX4_copiesOf_33 (lv_at hl 4 rfl) ?_
              refine h_zald X hw eS (vp_in_nI (by omega) (by decide)) dX4_copiesOf_35 ?_
              refine h_tv (b := .int 1) (by rw [nI_clamp (by omega), vS i (by omega), hb, bI_t]) ?_
              refine lv_if_ne (tgt := 43) X.1 X.2.1 dX4_copiesOf_36 (by decide) (fun c36 => ?_) (fun c36 => ?_)
              · refine lv_iconst (v := 0) X.1 X.2.1 dX4_copiesOf_43 (by decide) ?_
                refine lv_iadd X.1 X.2.1 dX4_copiesOf_44 ?_
                refine h_ti (b := nI ((cN (s_isC σ f) i) + 0)) (nI_add (cN (s_isC σ f) i) 0) ?_
                refine lv_istore_n (lv' := [(3, .int (nI ((cN (s_isC σ f) i) + 0))), (0, .ref (ad (20, 0, 0))), (1, .int (nI f)), (2, .int 0), (4, .int (nI i))]) X.1 X.2.1 dX4_copiesOf_45 rfl hl (by decide) rfl (fun ls hl => ?_)
                refine lv_iinc (v := nI (i + 1)) (lv' := [(4, .int (nI (i + 1))), (3, .int (nI ((cN (s_isC σ f) i) + 0))), (0, .ref (ad (20, 0, 0))), (1, .int (nI f)), (2, .int 0)]) X.1 X.2.1 dX4_copiesOf_46 hl (k := 4) rfl (nI_1 _) (by decide) rfl (fun ls hl => ?_)
                refine lv_goto (tgt := 5) X.1 X.2.1 dX4_copiesOf_49 (by decide) ?_
                exact ih (i + 1) (by omega) (by omega) ls (by
                  rw [cN_f (show s_isC σ f i = false by rw [isC_eq, hh, hb]; rfl)]
                  exact lv_sub hl [2, 3, 4, 1, 0] rfl)
              · exact absurd c36 (by decide)
        · refine lv_iload_n X.1 X.2.1 dX4_copiesOf_14 rfl (lv_at hl 3 rfl) ?_
          refine lv_aload_n X.1 X.2.1 dX4_copiesOf_15 rfl (lv_at hl 0 rfl) ?_
          refine lv_iload X.1 X.2.1 dX4_copiesOf_16 (lv_at hl 4 rfl) ?_
          refine lv_iload_n X.1 X.2.1 dX4_copiesOf_18 rfl (lv_at hl 1 rfl) ?_
          refine h_callRV (t := (20, 0, 0)) (As := [.int (nI i), .int (nI f)]) (rest := [.int (nI (cN (s_isC σ f) i))]) X hw cs_X4_75 (c_X4_hasN l G hM hiib hf) hx rfl rfl hl.1 rfl (Nat.le_of_ble_eq_true rfl) ⟨by decide, by decide⟩ ⟨Nat.zero_le _, Nat.zero_le _⟩ dX4_copiesOf_19 ?_
          refine h_tv (b := .int 1) (by rw [hh]; rfl) ?_
          refine lv_if_eq (tgt := 43) X.1 X.2.1 dX4_copiesOf_22 (by decide) (fun c22 => ?_) (fun c22 => ?_)
          · exact absurd c22 (by decide)
          · refine lv_iload_n X.1 X.2.1 dX4_copiesOf_25 rfl (lv_at hl 2 rfl) ?_
            refine lv_if_ne (tgt := 39) X.1 X.2.1 dX4_copiesOf_26 (by decide) (fun c26 => ?_) (fun c26 => ?_)
            · exact absurd (by decide) c26
            · refine lv_aload_n X.1 X.2.1 dX4_copiesOf_29 rfl (lv_at hl 0 rfl) ?_
              refine gf_X4_13 X hw hx rfl dX4_copiesOf_30 ?_
              refine lv_iload X.1 X.2.1 dX4_copiesOf_33 (lv_at hl 4 rfl) ?_
              refine h_zald X hw eS (vp_in_nI (by omega) (by decide)) dX4_copiesOf_35 ?_
              refine h_tv (b := .int 0) (by rw [nI_clamp (by omega), vS i (by omega), hb, bI_f]) ?_
              refine lv_if_ne (tgt := 43) X.1 X.2.1 dX4_copiesOf_36 (by decide) (fun c36 => ?_) (fun c36 => ?_)
              · exact absurd (by decide) c36
              · refine lv_iconst (v := 1) X.1 X.2.1 dX4_copiesOf_39 (by decide) ?_
                refine lv_goto (tgt := 44) X.1 X.2.1 dX4_copiesOf_40 (by decide) ?_
                refine lv_iadd X.1 X.2.1 dX4_copiesOf_44 ?_
                refine h_ti (b := nI ((cN (s_isC σ f) i) + 1)) (nI_add (cN (s_isC σ f) i) 1) ?_
                refine lv_istore_n (lv' := [(3, .int (nI ((cN (s_isC σ f) i) + 1))), (0, .ref (ad (20, 0, 0))), (1, .int (nI f)), (2, .int 0), (4, .int (nI i))]) X.1 X.2.1 dX4_copiesOf_45 rfl hl (by decide) rfl (fun ls hl => ?_)
                refine lv_iinc (v := nI (i + 1)) (lv' := [(4, .int (nI (i + 1))), (3, .int (nI ((cN (s_isC σ f) i) + 1))), (0, .ref (ad (20, 0, 0))), (1, .int (nI f)), (2, .int 0)]) X.1 X.2.1 dX4_copiesOf_46 hl (k := 4) rfl (nI_1 _) (by decide) rfl (fun ls hl => ?_)
                refine lv_goto (tgt := 5) X.1 X.2.1 dX4_copiesOf_49 (by decide) ?_
                exact ih (i + 1) (by omega) (by omega) ls (by
                  rw [cN_t (show s_isC σ f i = true by rw [isC_eq, hh, hb]; rfl)]
                  exact lv_sub hl [2, 3, 4, 1, 0] rfl)
  refine lv_iconst (v := 0) X.1 X.2.1 dX4_copiesOf_0 (by decide) ?_
  refine lv_istore_n (lv' := [(3, .int 0), (0, .ref (ad (20, 0, 0))), (1, .int (nI f)), (2, .int 0)]) X.1 X.2.1 dX4_copiesOf_1 rfl hl (by decide) rfl (fun ls hl => ?_)
  refine lv_iconst (v := 0) X.1 X.2.1 dX4_copiesOf_2 (by decide) ?_
  refine lv_istore (lv' := [(4, .int 0), (3, .int 0), (0, .ref (ad (20, 0, 0))), (1, .int (nI f)), (2, .int 0)]) X.1 X.2.1 dX4_copiesOf_3 hl (by decide) rfl (fun ls hl => ?_)
  exact loop (s_nS σ + 1) 0 (by omega) (by omega) ls (lv_sub hl [2, 3, 4, 1, 0] rfl)
set_option maxHeartbeats 4000000 in
set_option maxRecDepth 100000 in
/-- thrown -/
theorem c_X4_thrown (l : Launch) (G : h_G) {ad : h_T → Nat} {k : h_C} {σ : S_t} {th : Int32} (hM : RM G ad k σ th)  : h_Rd l yX4_thrown cX4_thrown 1 (some .int) 0 0 G ad k [.ref (ad (20, 0, 0))] (some (.int th)) := by
  refine h_rd (by decide +kernel) (Nat.le_of_ble_eq_true rfl) ?_
  intro p e s m args below meth c X Y hw ls hl
  have hl : lv_has ls 1 [(0, .ref (ad (20, 0, 0)))] := hl
  have hok := hM.ok
  obtain ⟨hx, ⟨gP, eP, vP⟩, ⟨gS, eS, vS⟩, ⟨gU, eU, vU⟩, ⟨gD, eD, vD⟩, ⟨gA, eA, vA⟩, ⟨gK, eK, vK⟩, ⟨gN, eN, vN⟩, ⟨gZ, eZ, vZ⟩, ⟨gB, eB, vB⟩, ⟨g0, g1, g2, e15, e16, e17, v3⟩, ⟨gM, eM⟩, -⟩ := id hM
  have hx : k (20, 0, 0) = some (.inr (4, [.int th, .int (nI (s_cop σ)), .int (nI (s_nS σ)), .ref (ad (20, 3, 0)), .ref (ad (20, 4, 0)), .ref (ad (20, 5, 0)), .ref (ad (20, 6, 0)), .int (nI (s_col σ).length), .ref (ad (20, 8, 0)), .int (nI (s_nF σ)), .ref (ad (20, 10, 0)), .ref (ad (20, 11, 0)), .ref (ad (20, 12, 0)), .ref (ad (20, 13, 0)), .int (nI (s_as σ).length), .ref (ad (20, 15, 0)), .ref (ad (20, 16, 0)), .ref (ad (20, 17, 0)), .ref (ad (20, 18, 0)), .int (s_dg σ)])) := hx
  have hnS : s_nS σ ≤ 10 := hok.2.1
  have hnF : s_nF σ ≤ 40 := hok.2.2.1
  refine lv_aload_n X.1 X.2.1 dX4_thrown_0 rfl (lv_at hl 0 rfl) ?_
  refine gf_X4_55 X hw hx rfl dX4_thrown_1 ?_
  exact h_iret X Y dX4_thrown_4
