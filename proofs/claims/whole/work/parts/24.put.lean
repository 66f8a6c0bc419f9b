/-- a file more -/
theorem RX.addFile {G : h_G} {ad : h_T → Nat} {k k' : h_C} {σ : S_t} {x : Int32} (h : x_new G ad k σ x (s_chN σ (s_cop σ))) (h40 : s_nF σ < 40) (hk0 : k' (0, 0, 0) = some (.inr (3, x_obj ad (s_put σ x)))) (hk2 : k' (2, 0, 0) = some (.inl (G.2 4, 40, x_refs (va_up (x_ite ad σ) (s_nF σ) (some (ad (7, s_nF σ, 0))))))) (hk3 : k' (3, 0, 0) = some (.inr (1, [.ref (ad (3, 1, 0)), .int 0]))) (ho : ∀ t : h_T, t ≠ (0, 0, 0) → t ≠ (2, 0, 0) → t ≠ (3, 0, 0) → k' t = k t) : RX G ad k' (s_put σ x) := by
  obtain ⟨⟨g0, g1, g2, g3, g4, g5, g6, ⟨g, g7⟩, ⟨a0, a1, a2, b0, b1, b2, b3⟩, ok1, ok2, ok3, ok4, ok5, ok6, ok7, ok8, ok9⟩, n7, n8, nr, nc⟩ := h
  have cpt : ∀ s f, s_cp (s_put σ x) s f = if f = s_nF σ then (if s_chN σ (s_cop σ) s then some (s_col σ) else none) else s_cp σ s f := fun _ _ => rfl
  refine ⟨hk0, (ho _ (by simp) (by simp) (by simp)).trans g1, fun i hi => (ho _ (by simp) (by simp) (by simp)).trans (g2 i hi), ?_, fun f hf => ?_, fun s f b hb => ?_, ⟨hk3, ?_⟩, ⟨g, (ho _ (by simp) (by simp) (by simp)).trans g7⟩, ⟨a0, a1, a2, (ho _ (by simp) (by simp) (by simp)).trans b0, (ho _ (by simp) (by simp) (by simp)).trans b1, (ho _ (by simp) (by simp) (by simp)).trans b2, b3⟩, ok1, ok2, ?_, Nat.zero_le _, ok5, fun s f hf => ?_, fun s f b hb => ?_, ok8, fun f hf => ?_⟩
  · rw [hk2]
    have : x_ite ad (s_put σ x) = va_up (x_ite ad σ) (s_nF σ) (some (ad (7, s_nF σ, 0))) := by
      funext i
      show (if i < s_nF σ + 1 then some (ad (7, i, 0)) else none) = _
      by_cases hi : i = s_nF σ
      · subst hi
        rw [va_up_self, if_pos (Nat.lt_succ_self _)]
      · rw [va_up_ne _ _ hi]
        unfold x_ite
        by_cases h2 : i < s_nF σ
        · rw [if_pos (by omega), if_pos h2]
        · rw [if_neg (by omega), if_neg h2]
    rw [this]
  · have hf : f < s_nF σ + 1 := hf
    by_cases hff : f = s_nF σ
    · subst hff
      refine ⟨?_, ?_⟩
      · rw [ho _ (by simp) (by simp) (by simp), n7]
        show _ = some (Sum.inr (0, [Value.int (upd (s_pk σ) (s_nF σ) x (s_nF σ)), Value.ref (ad (8, s_nF σ, 0)), Value.int (s_rn σ (s_nF σ))]))
        rw [pk_us, ok9 _ (Nat.le_refl _)]
      · rw [ho _ (by simp) (by simp) (by simp), n8]
        have : x_rws ad (s_put σ x) (s_nF σ) = fun s => if s_chN σ (s_cop σ) s then some (ad (9, s, s_nF σ)) else none := by
          funext s
          unfold x_rws
          rw [cpt, if_pos rfl]
          cases s_chN σ (s_cop σ) s <;> rfl
        rw [this]
    · have h4 := g4 f (by omega)
      refine ⟨?_, ?_⟩
      · rw [ho _ (by simp) (by simp) (by simp), h4.1]
        show _ = some (Sum.inr (0, [Value.int (upd (s_pk σ) (s_nF σ) x f), Value.ref (ad (8, f, 0)), Value.int (s_rn σ f)]))
        rw [pk_un hff]
      · rw [ho _ (by simp) (by simp) (by simp), h4.2]
        have : x_rws ad (s_put σ x) f = x_rws ad σ f := by
          funext s
          unfold x_rws
          rw [cpt, if_neg hff]
        rw [this]
  · rw [cpt] at hb
    by_cases hff : f = s_nF σ
    · rw [if_pos hff] at hb
      cases hc : s_chN σ (s_cop σ) s with
      | false => rw [hc] at hb; cases hb
      | true =>
        rw [hc] at hb
        cases hb
        rw [hff]
        exact (nr s hc).congr (ho _ (by simp) (by simp) (by simp)) (ho _ (by simp) (by simp) (by simp)) rfl
    · rw [if_neg hff] at hb
      exact (g5 s f b hb).congr (ho _ (by simp) (by simp) (by simp)) (ho _ (by simp) (by simp) (by simp)) rfl
  · obtain ⟨gg, q1, q2⟩ := g6.2
    exact ⟨gg, (ho _ (by simp) (by simp) (by simp)).trans q1, fun i hi => absurd hi (Nat.not_lt_zero i)⟩
  · show s_nF σ + 1 ≤ 40
    omega
  · rw [cpt]
    rcases hf with hf | hf
    · have hf : s_nS σ ≤ s := hf
      by_cases hff : f = s_nF σ
      · rw [if_pos hff]
        cases hc : s_chN σ (s_cop σ) s with
        | false => rfl
        | true => exact absurd (nc s hc) (by omega)
      · rw [if_neg hff]
        exact ok6 s f (Or.inl hf)
    · have hf : s_nF σ + 1 ≤ f := hf
      rw [if_neg (by omega)]
      exact ok6 s f (Or.inr (by omega))
  · rw [cpt] at hb
    by_cases hff : f = s_nF σ
    · rw [if_pos hff] at hb
      cases hc : s_chN σ (s_cop σ) s with
      | false => rw [hc] at hb; cases hb
      | true =>
        rw [hc] at hb
        cases hb
        exact ok4
    · rw [if_neg hff] at hb
      exact ok7 s f b hb
  · have hf : s_nF σ + 1 ≤ f := hf
    exact ok9 f (by omega)
set_option maxHeartbeats 4000000 in
set_option maxRecDepth 100000 in
/-- put -/
theorem c_X3_put (l : Launch) (G : h_G) {ad : h_T → Nat} {k : h_C} {σ : S_t} (hR : RX G ad k σ) (x : Int32) : h_Wr l yX3_put cX3_put 4 (some .int) 4 92 12 103 G ad k [.ref (ad (0, 0, 0)), .int x] (XPost G ad k (some (.int (sp_put σ x).1)) (sp_put σ x).2) := by
  refine h_wr (by decide +kernel) (Nat.le_of_ble_eq_true rfl) ?_
  intro p e s m args below meth c X Y hw ls hl
  have hl : lv_has ls 4 [(0, .ref (ad (0, 0, 0))), (1, .int x)] := hl
  have hok := hR.ok
  obtain ⟨hx, hs, hst, hi, hit, hcp, hcol, hmx, hask, -⟩ := id hR
  have hx : k (0, 0, 0) = some (.inr (3, [.int (nI (s_cop σ)), .ref (ad (1, 0, 0)), .int (nI (s_nS σ)), .ref (ad (2, 0, 0)), .int (nI (s_nF σ)), .ref (ad (3, 0, 0)), .ref (ad (4, 0, 0)), .ref (ad (5, 0, 0)), .ref (ad (5, 1, 0)), .ref (ad (5, 2, 0)), .int (nI (s_as σ).length), .int (s_dg σ)])) := hx
  have hnS : s_nS σ ≤ 10 := hok.2.1
  have hnF : s_nF σ ≤ 40 := hok.2.2.1
  unfold sp_put
  obtain ⟨hr1, g, hg, hgi⟩ := id hcol
  have hcl := hok.2.2.2.1
  have hcop := hok.1
  have han := cN_le (fun s => !s_si σ s) (s_nS σ)
  rcases hpk : ix x 10 with _ | j0
  · rw [if_pos (Or.inl (show (none : Option Nat).isNone = true from rfl))]
    refine lv_iload_n X.1 X.2.1 dX3_put_0 rfl (lv_at hl 1 rfl) ?_
    refine h_callRS (As := [.int x]) (rest := []) X hw cs_X3_76 (c_X3_isPackage l G x) rfl hl.1 rfl (Nat.le_of_ble_eq_true rfl) ⟨by decide, by decide⟩ ⟨Nat.zero_le _, Nat.zero_le _⟩ dX3_put_1 ?_
    refine h_tv (b := .int 0) (by rw [hpk]; rfl) ?_
    refine lv_if_eq (tgt := 17) X.1 X.2.1 dX3_put_4 (by decide) (fun c4 => ?_) (fun c4 => ?_)
    · refine lv_bipush (v := (-2)) X.1 X.2.1 dX3_put_17 (by decide) ?_
      exact h_iretW (v := -2) X Y hw ⟨rfl, hR, fun _ _ => ⟨rfl, rfl⟩, rfl⟩ (Nat.zero_le _) (Nat.zero_le _) dX3_put_19
    · exact absurd (by decide) c4
  by_cases hz : (s_col σ).length = 0
  · rw [if_pos (Or.inr hz)]
    refine lv_iload_n X.1 X.2.1 dX3_put_0 rfl (lv_at hl 1 rfl) ?_
    refine h_callRS (As := [.int x]) (rest := []) X hw cs_X3_76 (c_X3_isPackage l G x) rfl hl.1 rfl (Nat.le_of_ble_eq_true rfl) ⟨by decide, by decide⟩ ⟨Nat.zero_le _, Nat.zero_le _⟩ dX3_put_1 ?_
    refine h_tv (b := .int 1) (by rw [hpk]; rfl) ?_
    refine lv_if_eq (tgt := 17) X.1 X.2.1 dX3_put_4 (by decide) (fun c4 => ?_) (fun c4 => ?_)
    · exact absurd c4 (by decide)
    · refine lv_aload_n X.1 X.2.1 dX3_put_7 rfl (lv_at hl 0 rfl) ?_
      refine gf_X3_31 X hw hx rfl dX3_put_8 ?_
      refine gf_X3_79 X hw hr1 rfl dX3_put_11 ?_
      refine lv_if_ne (tgt := 20) X.1 X.2.1 dX3_put_14 (by decide) (fun c14 => ?_) (fun c14 => ?_)
      · exact absurd (by rw [hz]; rfl) c14
      · refine lv_bipush (v := (-2)) X.1 X.2.1 dX3_put_17 (by decide) ?_
        exact h_iretW (v := -2) X Y hw ⟨rfl, hR, fun _ _ => ⟨rfl, rfl⟩, rfl⟩ (Nat.zero_le _) (Nat.zero_le _) dX3_put_19
  rw [if_neg (fun q => by
    rcases q with q | q
    · cases q
    · exact hz q)]
  by_cases hm : cN (fun s => !s_si σ s) (s_nS σ) < s_cop σ
  · rw [if_pos hm]
    refine lv_iload_n X.1 X.2.1 dX3_put_0 rfl (lv_at hl 1 rfl) ?_
    refine h_callRS (As := [.int x]) (rest := []) X hw cs_X3_76 (c_X3_isPackage l G x) rfl hl.1 rfl (Nat.le_of_ble_eq_true rfl) ⟨by decide, by decide⟩ ⟨Nat.zero_le _, Nat.zero_le _⟩ dX3_put_1 ?_
    refine h_tv (b := .int 1) (by rw [hpk]; rfl) ?_
    refine lv_if_eq (tgt := 17) X.1 X.2.1 dX3_put_4 (by decide) (fun c4 => ?_) (fun c4 => ?_)
    · exact absurd c4 (by decide)
    · refine lv_aload_n X.1 X.2.1 dX3_put_7 rfl (lv_at hl 0 rfl) ?_
      refine gf_X3_31 X hw hx rfl dX3_put_8 ?_
      refine gf_X3_79 X hw hr1 rfl dX3_put_11 ?_
      refine lv_if_ne (tgt := 20) X.1 X.2.1 dX3_put_14 (by decide) (fun c14 => ?_) (fun c14 => ?_)
      · refine lv_aload_n X.1 X.2.1 dX3_put_20 rfl (lv_at hl 0 rfl) ?_
        refine h_callRV (t := (0, 0, 0)) (As := []) (rest := []) X hw cs_X3_82 (c_X3_answeringStores l G hR) hx rfl rfl hl.1 rfl (Nat.le_of_ble_eq_true rfl) ⟨by decide, by decide⟩ ⟨Nat.zero_le _, Nat.zero_le _⟩ dX3_put_21 ?_
        refine lv_aload_n X.1 X.2.1 dX3_put_24 rfl (lv_at hl 0 rfl) ?_
        refine gf_X3_63 X hw hx rfl dX3_put_25 ?_
        refine lv_icmp_ge (tgt := 34) X.1 X.2.1 dX3_put_28 (by decide) (fun c28 => ?_) (fun c28 => ?_)
        · exact absurd c28 (nI_ge hm (by omega))
        · refine lv_bipush (v := (-3)) X.1 X.2.1 dX3_put_31 (by decide) ?_
          exact h_iretW (v := -3) X Y hw ⟨rfl, hR, fun _ _ => ⟨rfl, rfl⟩, rfl⟩ (Nat.zero_le _) (Nat.zero_le _) dX3_put_33
      · exact absurd c14 (nI_ne0 (by omega) (by omega))
  rw [if_neg hm]
  by_cases h40 : 40 ≤ s_nF σ
  · rw [if_pos h40]
    refine lv_iload_n X.1 X.2.1 dX3_put_0 rfl (lv_at hl 1 rfl) ?_
    refine h_callRS (As := [.int x]) (rest := []) X hw cs_X3_76 (c_X3_isPackage l G x) rfl hl.1 rfl (Nat.le_of_ble_eq_true rfl) ⟨by decide, by decide⟩ ⟨Nat.zero_le _, Nat.zero_le _⟩ dX3_put_1 ?_
    refine h_tv (b := .int 1) (by rw [hpk]; rfl) ?_
    refine lv_if_eq (tgt := 17) X.1 X.2.1 dX3_put_4 (by decide) (fun c4 => ?_) (fun c4 => ?_)
    · exact absurd c4 (by decide)
    · refine lv_aload_n X.1 X.2.1 dX3_put_7 rfl (lv_at hl 0 rfl) ?_
      refine gf_X3_31 X hw hx rfl dX3_put_8 ?_
      refine gf_X3_79 X hw hr1 rfl dX3_put_11 ?_
      refine lv_if_ne (tgt := 20) X.1 X.2.1 dX3_put_14 (by decide) (fun c14 => ?_) (fun c14 => ?_)
      · refine lv_aload_n X.1 X.2.1 dX3_put_20 rfl (lv_at hl 0 rfl) ?_
        refine h_callRV (t := (0, 0, 0)) (As := []) (rest := []) X hw cs_X3_82 (c_X3_answeringStores l G hR) hx rfl rfl hl.1 rfl (Nat.le_of_ble_eq_true rfl) ⟨by decide, by decide⟩ ⟨Nat.zero_le _, Nat.zero_le _⟩ dX3_put_21 ?_
        refine lv_aload_n X.1 X.2.1 dX3_put_24 rfl (lv_at hl 0 rfl) ?_
        refine gf_X3_63 X hw hx rfl dX3_put_25 ?_
        refine lv_icmp_ge (tgt := 34) X.1 X.2.1 dX3_put_28 (by decide) (fun c28 => ?_) (fun c28 => ?_)
        · refine lv_aload_n X.1 X.2.1 dX3_put_34 rfl (lv_at hl 0 rfl) ?_
          refine gf_X3_25 X hw hx rfl dX3_put_35 ?_
          refine lv_bipush (v := 40) X.1 X.2.1 dX3_put_38 (by decide) ?_
          refine lv_icmp_lt (tgt := 46) X.1 X.2.1 dX3_put_40 (by decide) (fun c40 => ?_) (fun c40 => ?_)
          · exact absurd c40 (nI_nlt (b := 40) h40 (by omega))
          · refine lv_bipush (v := (-4)) X.1 X.2.1 dX3_put_43 (by decide) ?_
            exact h_iretW (v := -4) X Y hw ⟨rfl, hR, fun _ _ => ⟨rfl, rfl⟩, rfl⟩ (Nat.zero_le _) (Nat.zero_le _) dX3_put_45
        · exact absurd (nI_le (Nat.le_of_not_lt hm) (by omega)) c28
      · exact absurd c14 (nI_ne0 (by omega) (by omega))
  rw [if_neg h40]
  have loop : ∀ (n i : Nat), i ≤ s_cop σ → s_cop σ + 1 ≤ i + n → ∀ (aa : h_T → Nat) (kk : h_C) (H : Heap) (locs : List Loc), x_new G aa kk σ x (s_chN σ i) → (∀ t : h_T, 20 ≤ t.1 → kk t = k t ∧ aa t = ad t) → aa (0, 0, 0) = ad (0, 0, 0) → h_W G.1 h_cl (h_A ad k s.heap.size) s.heap aa kk H locs → ∀ (ls : Array Slot), lv_has ls 4 [(0, .ref (aa (0, 0, 0))), (1, .int x), (2, .ref (aa (7, s_nF σ, 0))), (3, .int (nI i))] → W p l e (h_rm 4 92 12 103) s m args below meth c H locs (2 + 2 * i) (13 + 18 * i) (MQ below (h_Qw G ad k s.heap.size (XPost G ad k (some (.int (nI (s_nF σ), s_put σ x).1)) (nI (s_nF σ), s_put σ x).2)) args s 12 103 (h_A ad k s.heap.size)) (F0 m 57 ls []) := by
    intro n
    induction n with
    | zero =>
      intro i h1 h2
      exact absurd h2 (by omega)
    | succ n ih =>
      intro i hii hni aa kk H locs hN h20 h00 hw ls hl
      obtain ⟨hRk, g7, g8, grs, gcs⟩ := id hN
      have gx : kk (0, 0, 0) = some (.inr (3, [.int (nI (s_cop σ)), .ref (aa (1, 0, 0)), .int (nI (s_nS σ)), .ref (aa (2, 0, 0)), .int (nI (s_nF σ)), .ref (aa (3, 0, 0)), .ref (aa (4, 0, 0)), .ref (aa (5, 0, 0)), .ref (aa (5, 1, 0)), .ref (aa (5, 2, 0)), .int (nI (s_as σ).length), .int (s_dg σ)])) := hRk.1
      obtain ⟨-, -, -, gi0, -, -, gcol, -, -, -⟩ := id hRk
      refine lv_iload_n X.1 X.2.1 dX3_put_57 rfl (lv_at hl 3 rfl) ?_
      refine lv_aload_n X.1 X.2.1 dX3_put_58 rfl (lv_at hl 0 rfl) ?_
      refine gf_X3_63 X hw gx rfl dX3_put_59 ?_
      refine lv_icmp_ge (tgt := 76) X.1 X.2.1 dX3_put_62 (by decide) (fun c62 => ?_) (fun c62 => ?_)
      · obtain rfl : i = s_cop σ := Nat.le_antisymm hii (Nat.le_of_not_lt (fun q => absurd c62 (nI_ge (b := s_cop σ) q (by omega))))
        refine lv_aload_n X.1 X.2.1 dX3_put_76 rfl (lv_at hl 0 rfl) ?_
        refine gf_X3_21 X hw gx rfl dX3_put_77 ?_
        refine lv_aload_n X.1 X.2.1 dX3_put_80 rfl (lv_at hl 0 rfl) ?_
        refine gf_X3_25 X hw gx rfl dX3_put_81 ?_
        refine lv_aload_n X.1 X.2.1 dX3_put_84 rfl (lv_at hl 2 rfl) ?_
        refine h_aast (u := (7, s_nF σ, 0)) X hw 4 0 rfl gi0 g7 rfl (vp_in_nI (by omega) (by decide)) dX3_put_85 (fun H locs hw => ?_)
        obtain ⟨k1, hk1⟩ : ∃ zz, zz = h_cu kk (2, 0, 0) (some (.inl (G.2 4, 40, x_refs (va_up (x_ite aa σ) (nI (s_nF σ)).toNatClampNeg (some (aa (7, s_nF σ, 0))))))) := ⟨_, rfl⟩
        replace hw := h_W.ren hw hk1
        have f1_0_0_0 : k1 (0, 0, 0) = some (.inr (3, [.int (nI (s_cop σ)), .ref (aa (1, 0, 0)), .int (nI (s_nS σ)), .ref (aa (2, 0, 0)), .int (nI (s_nF σ)), .ref (aa (3, 0, 0)), .ref (aa (4, 0, 0)), .ref (aa (5, 0, 0)), .ref (aa (5, 1, 0)), .ref (aa (5, 2, 0)), .int (nI (s_as σ).length), .int (s_dg σ)])) := by rw [hk1, h_cn _ _ (by simp)]; exact gx
        have f1_2_0_0 : k1 (2, 0, 0) = some (.inl (G.2 4, 40, x_refs (va_up (x_ite aa σ) (nI (s_nF σ)).toNatClampNeg (some (aa (7, s_nF σ, 0)))))) := by rw [hk1]; exact h_cs _ _ _
        have f1_3_0_0 : k1 (3, 0, 0) = some (.inr (1, [.ref (aa (3, 1, 0)), .int (nI (s_col σ).length)])) := by rw [hk1, h_cn _ _ (by simp)]; exact gcol.1
        have f1_7_s_nF_σ_0 : k1 (7, s_nF σ, 0) = some (.inr (0, [.int x, .ref (aa (8, s_nF σ, 0)), .int 0])) := by rw [hk1, h_cn _ _ (by simp)]; exact g7
        refine lv_aload_n X.1 X.2.1 dX3_put_86 rfl (lv_at hl 0 rfl) ?_
        refine lv_dup X.1 X.2.1 dX3_put_87 rfl ?_
        refine gf_X3_25 X hw f1_0_0_0 rfl dX3_put_88 ?_
        refine lv_iconst (v := 1) X.1 X.2.1 dX3_put_91 (by decide) ?_
        refine lv_iadd X.1 X.2.1 dX3_put_92 ?_
        refine h_ti (b := nI (s_nF σ + 1)) (nI_1 _) ?_
        refine pf_X3_25 X hw f1_0_0_0 rfl rfl (Nat.le_of_ble_eq_true rfl) dX3_put_93 (fun H locs hw => ?_)
        obtain ⟨k2, hk2⟩ : ∃ zz, zz = h_cu k1 (0, 0, 0) (some (.inr (3, [.int (nI (s_cop σ)), .ref (aa (1, 0, 0)), .int (nI (s_nS σ)), .ref (aa (2, 0, 0)), .int (nI (s_nF σ + 1)), .ref (aa (3, 0, 0)), .ref (aa (4, 0, 0)), .ref (aa (5, 0, 0)), .ref (aa (5, 1, 0)), .ref (aa (5, 2, 0)), .int (nI (s_as σ).length), .int (s_dg σ)]))) := ⟨_, rfl⟩
        replace hw := h_W.ren hw hk2
        have f2_0_0_0 : k2 (0, 0, 0) = some (.inr (3, [.int (nI (s_cop σ)), .ref (aa (1, 0, 0)), .int (nI (s_nS σ)), .ref (aa (2, 0, 0)), .int (nI (s_nF σ + 1)), .ref (aa (3, 0, 0)), .ref (aa (4, 0, 0)), .ref (aa (5, 0, 0)), .ref (aa (5, 1, 0)), .ref (aa (5, 2, 0)), .int (nI (s_as σ).length), .int (s_dg σ)])) := by rw [hk2]; exact h_cs _ _ _
        have f2_2_0_0 : k2 (2, 0, 0) = some (.inl (G.2 4, 40, x_refs (va_up (x_ite aa σ) (nI (s_nF σ)).toNatClampNeg (some (aa (7, s_nF σ, 0)))))) := by rw [hk2, h_cn _ _ (by simp)]; exact f1_2_0_0
        have f2_3_0_0 : k2 (3, 0, 0) = some (.inr (1, [.ref (aa (3, 1, 0)), .int (nI (s_col σ).length)])) := by rw [hk2, h_cn _ _ (by simp)]; exact f1_3_0_0
        have f2_7_s_nF_σ_0 : k2 (7, s_nF σ, 0) = some (.inr (0, [.int x, .ref (aa (8, s_nF σ, 0)), .int 0])) := by rw [hk2, h_cn _ _ (by simp)]; exact f1_7_s_nF_σ_0
        refine lv_aload_n X.1 X.2.1 dX3_put_96 rfl (lv_at hl 0 rfl) ?_
        refine gf_X3_31 X hw f2_0_0_0 rfl dX3_put_97 ?_
        refine lv_iconst (v := 0) X.1 X.2.1 dX3_put_100 (by decide) ?_
        refine pf_X3_79 X hw f2_3_0_0 rfl rfl (Nat.le_of_ble_eq_true rfl) dX3_put_101 (fun H locs hw => ?_)
        obtain ⟨k3, hk3⟩ : ∃ zz, zz = h_cu k2 (3, 0, 0) (some (.inr (1, [.ref (aa (3, 1, 0)), .int 0]))) := ⟨_, rfl⟩
        replace hw := h_W.ren hw hk3
        have f3_0_0_0 : k3 (0, 0, 0) = some (.inr (3, [.int (nI (s_cop σ)), .ref (aa (1, 0, 0)), .int (nI (s_nS σ)), .ref (aa (2, 0, 0)), .int (nI (s_nF σ + 1)), .ref (aa (3, 0, 0)), .ref (aa (4, 0, 0)), .ref (aa (5, 0, 0)), .ref (aa (5, 1, 0)), .ref (aa (5, 2, 0)), .int (nI (s_as σ).length), .int (s_dg σ)])) := by rw [hk3, h_cn _ _ (by simp)]; exact f2_0_0_0
        have f3_2_0_0 : k3 (2, 0, 0) = some (.inl (G.2 4, 40, x_refs (va_up (x_ite aa σ) (nI (s_nF σ)).toNatClampNeg (some (aa (7, s_nF σ, 0)))))) := by rw [hk3, h_cn _ _ (by simp)]; exact f2_2_0_0
        have f3_3_0_0 : k3 (3, 0, 0) = some (.inr (1, [.ref (aa (3, 1, 0)), .int 0])) := by rw [hk3]; exact h_cs _ _ _
        have f3_7_s_nF_σ_0 : k3 (7, s_nF σ, 0) = some (.inr (0, [.int x, .ref (aa (8, s_nF σ, 0)), .int 0])) := by rw [hk3, h_cn _ _ (by simp)]; exact f2_7_s_nF_σ_0
        refine lv_aload_n X.1 X.2.1 dX3_put_104 rfl (lv_at hl 0 rfl) ?_
        refine gf_X3_25 X hw f3_0_0_0 rfl dX3_put_105 ?_
        refine lv_iconst (v := 1) X.1 X.2.1 dX3_put_108 (by decide) ?_
        refine lv_isub X.1 X.2.1 dX3_put_109 ?_
        refine h_ti (b := nI (s_nF σ)) (nI_pred _) ?_
        have hO : ∀ t : h_T, t ≠ (0, 0, 0) → t ≠ (2, 0, 0) → t ≠ (3, 0, 0) → k3 t = kk t := fun t h1 h2 h3 => by rw [hk3, h_cn _ _ h3, hk2, h_cn _ _ h1, hk1, h_cn _ _ h2]
        exact h_iretW (v := nI (s_nF σ)) X Y hw ⟨rfl, RX.addFile hN (by omega) f3_0_0_0 (by rw [f3_2_0_0, nI_clamp (by omega)]) f3_3_0_0 hO, fun t ht => ⟨by rw [hO t (t20 ht (Nat.le_of_ble_eq_true rfl)) (t20 ht (Nat.le_of_ble_eq_true rfl)) (t20 ht (Nat.le_of_ble_eq_true rfl)), (h20 t ht).1], (h20 t ht).2⟩, h00⟩ (by omega) (by omega) dX3_put_110
      · have hib : i < s_cop σ := Nat.lt_of_not_le (fun q => c62 (nI_le q (by omega)))
        refine lv_aload_n X.1 X.2.1 dX3_put_65 rfl (lv_at hl 0 rfl) ?_
        refine lv_aload_n X.1 X.2.1 dX3_put_66 rfl (lv_at hl 2 rfl) ?_
        refine h_callWV (t := (0, 0, 0)) (As := [.ref (aa (7, s_nF σ, 0))]) (rest := []) X hw cs_X3_87 (c_X3_placeCollected l G hN) gx rfl rfl hl.1 rfl (Nat.le_of_ble_eq_true rfl) ⟨by decide, by decide⟩ ⟨by show 2 + 2 * i + 2 ≤ 12; omega, by show 13 + 18 * i + 18 ≤ 103; omega⟩ dX3_put_67 (fun r9 ad1 k1 H locs hp9 hw => ?_)
        obtain ⟨rfl, hNn, hfr, ha0, ha7⟩ := hp9
        refine W.eq (g2 := F0 m 70 ls []) rfl ?_
        have eb1_0 : aa (0, 0, 0) = ad1 (0, 0, 0) := (ha0).symm
        have eb1_1 : aa (7, s_nF σ, 0) = ad1 (7, s_nF σ, 0) := (ha7).symm
        simp only [eb1_0, eb1_1] at hl
        refine lv_iinc (v := nI (i + 1)) (lv' := [(3, .int (nI (i + 1))), (0, .ref (ad1 (0, 0, 0))), (1, .int x), (2, .ref (ad1 (7, s_nF σ, 0)))]) X.1 X.2.1 dX3_put_70 hl (k := 3) rfl (nI_1 _) (by decide) rfl (fun ls hl => ?_)
        refine lv_goto (tgt := 57) X.1 X.2.1 dX3_put_73 (by decide) ?_
        refine W.widen (k := 2 + 2 * (i + 1)) (n := 13 + 18 * (i + 1)) (by omega) (by omega) ?_
        exact ih (i + 1) (by omega) (by omega) ad1 k1 _ _ hNn (fun t ht => ⟨by rw [(hfr t ht).1, (h20 t ht).1], by rw [(hfr t ht).2, (h20 t ht).2]⟩) (ha0.trans h00) hw ls (lv_sub hl [1, 2, 3, 0] rfl)
  refine lv_iload_n X.1 X.2.1 dX3_put_0 rfl (lv_at hl 1 rfl) ?_
  refine h_callRS (As := [.int x]) (rest := []) X hw cs_X3_76 (c_X3_isPackage l G x) rfl hl.1 rfl (Nat.le_of_ble_eq_true rfl) ⟨by decide, by decide⟩ ⟨Nat.zero_le _, Nat.zero_le _⟩ dX3_put_1 ?_
  refine h_tv (b := .int 1) (by rw [hpk]; rfl) ?_
  refine lv_if_eq (tgt := 17) X.1 X.2.1 dX3_put_4 (by decide) (fun c4 => ?_) (fun c4 => ?_)
  · exact absurd c4 (by decide)
  · refine lv_aload_n X.1 X.2.1 dX3_put_7 rfl (lv_at hl 0 rfl) ?_
    refine gf_X3_31 X hw hx rfl dX3_put_8 ?_
    refine gf_X3_79 X hw hr1 rfl dX3_put_11 ?_
    refine lv_if_ne (tgt := 20) X.1 X.2.1 dX3_put_14 (by decide) (fun c14 => ?_) (fun c14 => ?_)
    · refine lv_aload_n X.1 X.2.1 dX3_put_20 rfl (lv_at hl 0 rfl) ?_
      refine h_callRV (t := (0, 0, 0)) (As := []) (rest := []) X hw cs_X3_82 (c_X3_answeringStores l G hR) hx rfl rfl hl.1 rfl (Nat.le_of_ble_eq_true rfl) ⟨by decide, by decide⟩ ⟨Nat.zero_le _, Nat.zero_le _⟩ dX3_put_21 ?_
      refine lv_aload_n X.1 X.2.1 dX3_put_24 rfl (lv_at hl 0 rfl) ?_
      refine gf_X3_63 X hw hx rfl dX3_put_25 ?_
      refine lv_icmp_ge (tgt := 34) X.1 X.2.1 dX3_put_28 (by decide) (fun c28 => ?_) (fun c28 => ?_)
      · refine lv_aload_n X.1 X.2.1 dX3_put_34 rfl (lv_at hl 0 rfl) ?_
        refine gf_X3_25 X hw hx rfl dX3_put_35 ?_
        refine lv_bipush (v := 40) X.1 X.2.1 dX3_put_38 (by decide) ?_
        refine lv_icmp_lt (tgt := 46) X.1 X.2.1 dX3_put_40 (by decide) (fun c40 => ?_) (fun c40 => ?_)
        · obtain ⟨k0, hk0⟩ : ∃ zz, zz = h_cu (h_cu k (7, s_nF σ, 0) none) (8, s_nF σ, 0) none := ⟨_, rfl⟩
          replace hw := ((hw.drop (7, s_nF σ, 0)).drop (8, s_nF σ, 0)).ren hk0
          have f0_0_0_0 : k0 (0, 0, 0) = some (.inr (3, [.int (nI (s_cop σ)), .ref (ad (1, 0, 0)), .int (nI (s_nS σ)), .ref (ad (2, 0, 0)), .int (nI (s_nF σ)), .ref (ad (3, 0, 0)), .ref (ad (4, 0, 0)), .ref (ad (5, 0, 0)), .ref (ad (5, 1, 0)), .ref (ad (5, 2, 0)), .int (nI (s_as σ).length), .int (s_dg σ)])) := by rw [hk0, h_cn _ _ (by simp), h_cn _ _ (by simp)]; exact hx
          have f0_2_0_0 : k0 (2, 0, 0) = some (.inl (G.2 4, 40, x_refs (x_ite ad σ))) := by rw [hk0, h_cn _ _ (by simp), h_cn _ _ (by simp)]; exact hi
          have f0_3_0_0 : k0 (3, 0, 0) = some (.inr (1, [.ref (ad (3, 1, 0)), .int (nI (s_col σ).length)])) := by rw [hk0, h_cn _ _ (by simp), h_cn _ _ (by simp)]; exact hr1
          refine h_new X hw (7, s_nF σ, 0) (by rw [hk0, h_cn _ _ (by simp)]; exact h_cs _ _ _) (ci := 0) rfl in_X0 tyX0 tyX0_ok wk_X3_19 wa_X0 wn_X0 (fs := [.int 0, .null, .int 0]) (fun j hj => by rcases (show j = 0 ∨ j = 1 ∨ j = 2 by omega) with rfl | rfl | rfl <;> rfl) (Nat.le_of_ble_eq_true rfl) (Nat.le_of_ble_eq_true rfl) dX3_put_46 (fun q H hw => ?_)
          obtain ⟨k1, hk1⟩ : ∃ zz, zz = h_cu k0 (7, s_nF σ, 0) (some (.inr (0, [.int 0, .null, .int 0]))) := ⟨_, rfl⟩
          obtain ⟨ad1, had1⟩ : ∃ zz, zz = h_au ad (7, s_nF σ, 0) q := ⟨_, rfl⟩
          replace hw := (hw.ren hk1).renA had1
          obtain rfl : q = ad1 (7, s_nF σ, 0) := by rw [had1, h_as]
          have ea1_0 : ad (0, 0, 0) = ad1 (0, 0, 0) := by rw [had1, h_an _ _ (by simp)]
          have ea1_1 : ad (1, 0, 0) = ad1 (1, 0, 0) := by rw [had1, h_an _ _ (by simp)]
          have ea1_2 : ad (2, 0, 0) = ad1 (2, 0, 0) := by rw [had1, h_an _ _ (by simp)]
          have ea1_3 : ad (3, 0, 0) = ad1 (3, 0, 0) := by rw [had1, h_an _ _ (by simp)]
          have ea1_4 : ad (4, 0, 0) = ad1 (4, 0, 0) := by rw [had1, h_an _ _ (by simp)]
          have ea1_5 : ad (5, 0, 0) = ad1 (5, 0, 0) := by rw [had1, h_an _ _ (by simp)]
          have ea1_6 : ad (5, 1, 0) = ad1 (5, 1, 0) := by rw [had1, h_an _ _ (by simp)]
          have ea1_7 : ad (5, 2, 0) = ad1 (5, 2, 0) := by rw [had1, h_an _ _ (by simp)]
          have ea1_8 : ad (3, 1, 0) = ad1 (3, 1, 0) := by rw [had1, h_an _ _ (by simp)]
          simp only [ea1_0, ea1_1, ea1_2, ea1_3, ea1_4, ea1_5, ea1_6, ea1_7, ea1_8] at hl
          have f1_0_0_0 : k1 (0, 0, 0) = some (.inr (3, [.int (nI (s_cop σ)), .ref (ad1 (1, 0, 0)), .int (nI (s_nS σ)), .ref (ad1 (2, 0, 0)), .int (nI (s_nF σ)), .ref (ad1 (3, 0, 0)), .ref (ad1 (4, 0, 0)), .ref (ad1 (5, 0, 0)), .ref (ad1 (5, 1, 0)), .ref (ad1 (5, 2, 0)), .int (nI (s_as σ).length), .int (s_dg σ)])) := by rw [hk1, h_cn _ _ (by simp), f0_0_0_0]; simp only [ea1_0, ea1_1, ea1_2, ea1_3, ea1_4, ea1_5, ea1_6, ea1_7, ea1_8]
          have f1_2_0_0 : k1 (2, 0, 0) = some (.inl (G.2 4, 40, x_refs (x_ite ad σ))) := by rw [hk1, h_cn _ _ (by simp), f0_2_0_0]
          have f1_3_0_0 : k1 (3, 0, 0) = some (.inr (1, [.ref (ad1 (3, 1, 0)), .int (nI (s_col σ).length)])) := by rw [hk1, h_cn _ _ (by simp), f0_3_0_0]; simp only [ea1_0, ea1_1, ea1_2, ea1_3, ea1_4, ea1_5, ea1_6, ea1_7, ea1_8]
          have f1_7_s_nF_σ_0 : k1 (7, s_nF σ, 0) = some (.inr (0, [.int 0, .null, .int 0])) := by rw [hk1]; exact h_cs _ _ _
          refine lv_dup X.1 X.2.1 dX3_put_49 rfl ?_
          refine lv_iload_n X.1 X.2.1 dX3_put_50 rfl (lv_at hl 1 rfl) ?_
          refine h_callWI (t := (7, s_nF σ, 0)) (As := [.int x]) (rest := [.ref (ad1 (7, s_nF σ, 0))]) X hw cs_X3_86 (c_X0_init l G (t := (7, s_nF σ, 0)) (u := (8, s_nF σ, 0)) f1_7_s_nF_σ_0 (by rw [hk1, h_cn _ _ (by simp), hk0, h_cs]) (by simp) x) rfl hl.1 rfl (Nat.le_of_ble_eq_true rfl) ⟨by decide, by decide⟩ ⟨(Nat.le_of_ble_eq_true rfl), (Nat.le_of_ble_eq_true rfl)⟩ dX3_put_51 (fun r9 ad2 k2 H locs hp9 hw => ?_)
          obtain ⟨rfl, c7, c8, a7, hoo⟩ := hp9
          refine W.eq (g2 := F0 m 54 ls [.ref (ad1 (7, s_nF σ, 0))]) rfl ?_
          have eb2_0 : ad1 (0, 0, 0) = ad2 (0, 0, 0) := ((hoo (0, 0, 0) (by simp) (by simp)).2).symm
          have eb2_1 : ad1 (7, s_nF σ, 0) = ad2 (7, s_nF σ, 0) := (a7).symm
          simp only [eb2_0, eb2_1] at hl
          simp only [eb2_0, eb2_1]
          refine lv_astore_n (lv' := [(2, .ref (ad2 (7, s_nF σ, 0))), (0, .ref (ad2 (0, 0, 0))), (1, .int x)]) X.1 X.2.1 dX3_put_54 rfl hl (by decide) rfl (fun ls hl => ?_)
          refine lv_iconst (v := 0) X.1 X.2.1 dX3_put_55 (by decide) ?_
          refine lv_istore_n (lv' := [(3, .int 0), (2, .ref (ad2 (7, s_nF σ, 0))), (0, .ref (ad2 (0, 0, 0))), (1, .int x)]) X.1 X.2.1 dX3_put_56 rfl hl (by decide) rfl (fun ls hl => ?_)
          have hO : ∀ t : h_T, t ≠ (7, s_nF σ, 0) → t ≠ (8, s_nF σ, 0) → k2 t = k t ∧ ad2 t = ad t := fun t h7 h8 => ⟨by rw [(hoo t h7 h8).1, hk1, h_cn _ _ h7, hk0, h_cn _ _ h8, h_cn _ _ h7], by rw [(hoo t h7 h8).2, had1, h_an _ _ h7]⟩
          exact loop (s_cop σ + 1) 0 (by omega) (by omega) ad2 k2 _ _ ⟨hR.congr2 (fun t hu => by
            obtain ⟨u7, u8, u9⟩ := hu.old hok
            exact hO t u7 u8), c7, c8, (fun s hs => absurd hs (by show ¬ (false = true); decide)), (fun s hs => absurd hs (by show ¬ (false = true); decide))⟩ (fun t ht => hO t (t20 ht (Nat.le_of_ble_eq_true rfl)) (t20 ht (Nat.le_of_ble_eq_true rfl))) (hO (0, 0, 0) (by simp) (by simp)).2 hw ls (lv_sub hl [2, 3, 1, 0] rfl)
        · exact absurd (nI_lt (b := 40) (by omega) (by omega)) c40
      · exact absurd (nI_le (Nat.le_of_not_lt hm) (by omega)) c28
    · exact absurd c14 (nI_ne0 (by omega) (by omega))
