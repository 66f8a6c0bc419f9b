set_option maxHeartbeats 4000000 in
set_option maxRecDepth 100000 in
/-- copy -/
theorem c_X4_copy (l : Launch) (G : h_G) {ad : h_T → Nat} {k : h_C} {σ : S_t} {th : Int32} (hM : RM G ad k σ th) {f q u : Nat} {b : List Int32} (hc : s_cp σ q f = some b) (hu : u < s_nS σ) (hqu : q ≠ u) : h_Wr l yX4_copy cX4_copy 5 none 0 0 0 0 G ad k [.ref (ad (20, 0, 0)), .int (nI f), .int (nI q), .int (nI u)] (fun r ad' k' => r = none ∧ ad' = ad ∧ RM G ad k' (s_setCp σ u f (some b)) th ∧ ∀ t : h_T, t ≠ (20, 12, 0) → t ≠ (20, 13, 0) → k' t = k t) := by
  refine h_wr (by decide +kernel) (Nat.le_of_ble_eq_true rfl) ?_
  intro p e s m args below meth c X Y hw ls hl
  have hl : lv_has ls 5 [(0, .ref (ad (20, 0, 0))), (1, .int (nI f)), (2, .int (nI q)), (3, .int (nI u))] := hl
  have hok := hM.ok
  obtain ⟨hx, ⟨gP, eP, vP⟩, ⟨gS, eS, vS⟩, ⟨gU, eU, vU⟩, ⟨gD, eD, vD⟩, ⟨gA, eA, vA⟩, ⟨gK, eK, vK⟩, ⟨gN, eN, vN⟩, ⟨gZ, eZ, vZ⟩, ⟨gB, eB, vB⟩, ⟨g0, g1, g2, e15, e16, e17, v3⟩, ⟨gM, eM⟩, -⟩ := id hM
  have hx : k (20, 0, 0) = some (.inr (4, [.int th, .int (nI (s_cop σ)), .int (nI (s_nS σ)), .ref (ad (20, 3, 0)), .ref (ad (20, 4, 0)), .ref (ad (20, 5, 0)), .ref (ad (20, 6, 0)), .int (nI (s_col σ).length), .ref (ad (20, 8, 0)), .int (nI (s_nF σ)), .ref (ad (20, 10, 0)), .ref (ad (20, 11, 0)), .ref (ad (20, 12, 0)), .ref (ad (20, 13, 0)), .int (nI (s_as σ).length), .ref (ad (20, 15, 0)), .ref (ad (20, 16, 0)), .ref (ad (20, 17, 0)), .ref (ad (20, 18, 0)), .int (s_dg σ)])) := hx
  have hnS : s_nS σ ≤ 10 := hok.2.1
  have hnF : s_nF σ ≤ 40 := hok.2.2.1
  obtain ⟨hq9, hf9⟩ := ok_lt hok hc
  have hbl := hok.2.2.2.2.2.2.1 _ _ _ hc
  refine lv_aload_n X.1 X.2.1 dX4_copy_0 rfl (lv_at hl 0 rfl) ?_
  refine gf_X4_33 X hw hx rfl dX4_copy_1 ?_
  refine lv_bipush (v := 40) X.1 X.2.1 dX4_copy_4 (by decide) ?_
  refine lv_iload_n X.1 X.2.1 dX4_copy_6 rfl (lv_at hl 3 rfl) ?_
  refine lv_imul X.1 X.2.1 dX4_copy_7 ?_
  refine h_ti (b := nI (40 * u)) (pk_mul 40 u) ?_
  refine lv_iload_n X.1 X.2.1 dX4_copy_8 rfl (lv_at hl 1 rfl) ?_
  refine lv_iadd X.1 X.2.1 dX4_copy_9 ?_
  refine h_ti (b := nI ((40 * u) + f)) (nI_add (40 * u) f) ?_
  refine lv_aload_n X.1 X.2.1 dX4_copy_10 rfl (lv_at hl 0 rfl) ?_
  refine gf_X4_33 X hw hx rfl dX4_copy_11 ?_
  refine lv_bipush (v := 40) X.1 X.2.1 dX4_copy_14 (by decide) ?_
  refine lv_iload_n X.1 X.2.1 dX4_copy_16 rfl (lv_at hl 2 rfl) ?_
  refine lv_imul X.1 X.2.1 dX4_copy_17 ?_
  refine h_ti (b := nI (40 * q)) (pk_mul 40 q) ?_
  refine lv_iload_n X.1 X.2.1 dX4_copy_18 rfl (lv_at hl 1 rfl) ?_
  refine lv_iadd X.1 X.2.1 dX4_copy_19 ?_
  refine h_ti (b := nI ((40 * q) + f)) (nI_add (40 * q) f) ?_
  refine h_iald X hw eZ (vp_in_nI (by omega) (by decide)) dX4_copy_20 ?_
  refine h_tv (b := .int (nI b.length)) (by rw [nI_clamp (by omega), vZ q f (by omega) (by omega), msz_s hc]) ?_
  refine h_iast X hw eZ (vp_in_nI (by omega) (by decide)) dX4_copy_21 (fun H locs hw => ?_)
  obtain ⟨k1, hk1⟩ : ∃ zz, zz = h_cu k (20, 12, 0) (some (.inl (G.2 0, 400, .inl (upd gZ (nI (40 * u + f)).toNatClampNeg (nI b.length))))) := ⟨_, rfl⟩
  replace hw := h_W.ren hw hk1
  have f1_20_0_0 : k1 (20, 0, 0) = some (.inr (4, [.int th, .int (nI (s_cop σ)), .int (nI (s_nS σ)), .ref (ad (20, 3, 0)), .ref (ad (20, 4, 0)), .ref (ad (20, 5, 0)), .ref (ad (20, 6, 0)), .int (nI (s_col σ).length), .ref (ad (20, 8, 0)), .int (nI (s_nF σ)), .ref (ad (20, 10, 0)), .ref (ad (20, 11, 0)), .ref (ad (20, 12, 0)), .ref (ad (20, 13, 0)), .int (nI (s_as σ).length), .ref (ad (20, 15, 0)), .ref (ad (20, 16, 0)), .ref (ad (20, 17, 0)), .ref (ad (20, 18, 0)), .int (s_dg σ)])) := by rw [hk1, h_cn _ _ (by simp)]; exact hx
  have f1_20_12_0 : k1 (20, 12, 0) = some (.inl (G.2 0, 400, .inl (upd gZ (nI (40 * u + f)).toNatClampNeg (nI b.length)))) := by rw [hk1]; exact h_cs _ _ _
  have f1_20_13_0 : k1 (20, 13, 0) = some (.inl (G.2 3, 6400, .inl gB)) := by rw [hk1, h_cn _ _ (by simp)]; exact eB
  refine lv_iconst (v := 0) X.1 X.2.1 dX4_copy_22 (by decide) ?_
  refine lv_istore (lv' := [(4, .int 0), (0, .ref (ad (20, 0, 0))), (1, .int (nI f)), (2, .int (nI q)), (3, .int (nI u))]) X.1 X.2.1 dX4_copy_23 hl (by decide) rfl (fun ls hl => ?_)
  have loop : ∀ (n i : Nat), i ≤ 16 → 16 + 1 ≤ i + n → ∀ (kk : h_C) (gb : Nat → Int32) (H : Heap) (locs : List Loc), kk (20, 13, 0) = some (.inl (G.2 3, 6400, .inl gb)) → (∀ t : h_T, t ≠ (20, 13, 0) → kk t = k1 t) → (∀ n, ¬ (16 * (40 * u + f) ≤ n ∧ n < 16 * (40 * u + f) + 16) → gb n = gB n) → (∀ a, a < i → gb (16 * (40 * u + f) + a) &&& 255 = gB (16 * (40 * q + f) + a) &&& 255) → h_W G.1 h_cl (h_A ad k s.heap.size) s.heap ad kk H locs → ∀ (ls : Array Slot), lv_has ls 5 [(0, .ref (ad (20, 0, 0))), (1, .int (nI f)), (2, .int (nI q)), (3, .int (nI u)), (4, .int (nI i))] → W p l e (h_rm 0 0 0 0) s m args below meth c H locs 0 0 (MQ below (h_Qw G ad k s.heap.size (fun r ad' k' => r = none ∧ ad' = ad ∧ RM G ad k' (s_setCp σ u f (some b)) th ∧ ∀ t : h_T, t ≠ (20, 12, 0) → t ≠ (20, 13, 0) → k' t = k t)) args s 0 0 (h_A ad k s.heap.size)) (F0 m 25 ls []) := by
    intro n
    induction n with
    | zero =>
      intro i h1 h2
      exact absurd h2 (by omega)
    | succ n ih =>
      intro i hii hni kk gb H locs gk ho hb1 hb2 hw ls hl
      have gx : kk (20, 0, 0) = some (.inr (4, [.int th, .int (nI (s_cop σ)), .int (nI (s_nS σ)), .ref (ad (20, 3, 0)), .ref (ad (20, 4, 0)), .ref (ad (20, 5, 0)), .ref (ad (20, 6, 0)), .int (nI (s_col σ).length), .ref (ad (20, 8, 0)), .int (nI (s_nF σ)), .ref (ad (20, 10, 0)), .ref (ad (20, 11, 0)), .ref (ad (20, 12, 0)), .ref (ad (20, 13, 0)), .int (nI (s_as σ).length), .ref (ad (20, 15, 0)), .ref (ad (20, 16, 0)), .ref (ad (20, 17, 0)), .ref (ad (20, 18, 0)), .int (s_dg σ)])) := (ho _ (by simp)).trans f1_20_0_0
      refine lv_iload X.1 X.2.1 dX4_copy_25 (lv_at hl 4 rfl) ?_
      refine lv_bipush (v := 16) X.1 X.2.1 dX4_copy_27 (by decide) ?_
      refine lv_icmp_ge (tgt := 72) X.1 X.2.1 dX4_copy_29 (by decide) (fun c29 => ?_) (fun c29 => ?_)
      · obtain rfl : i = 16 := Nat.le_antisymm hii (Nat.le_of_not_lt (fun q => absurd c29 (nI_ge (b := 16) q (by omega))))
        exact h_vretW X Y hw ⟨rfl, rfl, RM.cp hM hu hf9 (v := some b) (fun l hl => by cases hl; exact hbl) eZ eB rfl ((ho _ (by simp)).trans (by rw [f1_20_12_0, nI_clamp (by omega)]; rfl)) gk hb1 (fun l hl i hi => by
          cases hl
          rw [hb2 i (by omega)]
          exact vB q f b hc i hi) (fun t h12 h13 => by rw [ho t h13, hk1, h_cn _ _ h12]), fun t h12 h13 => by rw [ho t h13, hk1, h_cn _ _ h12]⟩ (Nat.zero_le _) (Nat.zero_le _) dX4_copy_72
      · have hib : i < 16 := Nat.lt_of_not_le (fun q => c29 (nI_le (a := 16) q (by omega)))
        refine lv_aload_n X.1 X.2.1 dX4_copy_32 rfl (lv_at hl 0 rfl) ?_
        refine gf_X4_36 X hw gx rfl dX4_copy_33 ?_
        refine lv_bipush (v := 16) X.1 X.2.1 dX4_copy_36 (by decide) ?_
        refine lv_bipush (v := 40) X.1 X.2.1 dX4_copy_38 (by decide) ?_
        refine lv_iload_n X.1 X.2.1 dX4_copy_40 rfl (lv_at hl 3 rfl) ?_
        refine lv_imul X.1 X.2.1 dX4_copy_41 ?_
        refine h_ti (b := nI (40 * u)) (pk_mul 40 u) ?_
        refine lv_iload_n X.1 X.2.1 dX4_copy_42 rfl (lv_at hl 1 rfl) ?_
        refine lv_iadd X.1 X.2.1 dX4_copy_43 ?_
        refine h_ti (b := nI ((40 * u) + f)) (nI_add (40 * u) f) ?_
        refine lv_imul X.1 X.2.1 dX4_copy_44 ?_
        refine h_ti (b := nI (16 * ((40 * u) + f))) (pk_mul 16 ((40 * u) + f)) ?_
        refine lv_iload X.1 X.2.1 dX4_copy_45 (lv_at hl 4 rfl) ?_
        refine lv_iadd X.1 X.2.1 dX4_copy_47 ?_
        refine h_ti (b := nI ((16 * ((40 * u) + f)) + i)) (nI_add (16 * ((40 * u) + f)) i) ?_
        refine lv_aload_n X.1 X.2.1 dX4_copy_48 rfl (lv_at hl 0 rfl) ?_
        refine gf_X4_36 X hw gx rfl dX4_copy_49 ?_
        refine lv_bipush (v := 16) X.1 X.2.1 dX4_copy_52 (by decide) ?_
        refine lv_bipush (v := 40) X.1 X.2.1 dX4_copy_54 (by decide) ?_
        refine lv_iload_n X.1 X.2.1 dX4_copy_56 rfl (lv_at hl 2 rfl) ?_
        refine lv_imul X.1 X.2.1 dX4_copy_57 ?_
        refine h_ti (b := nI (40 * q)) (pk_mul 40 q) ?_
        refine lv_iload_n X.1 X.2.1 dX4_copy_58 rfl (lv_at hl 1 rfl) ?_
        refine lv_iadd X.1 X.2.1 dX4_copy_59 ?_
        refine h_ti (b := nI ((40 * q) + f)) (nI_add (40 * q) f) ?_
        refine lv_imul X.1 X.2.1 dX4_copy_60 ?_
        refine h_ti (b := nI (16 * ((40 * q) + f))) (pk_mul 16 ((40 * q) + f)) ?_
        refine lv_iload X.1 X.2.1 dX4_copy_61 (lv_at hl 4 rfl) ?_
        refine lv_iadd X.1 X.2.1 dX4_copy_63 ?_
        refine h_ti (b := nI ((16 * ((40 * q) + f)) + i)) (nI_add (16 * ((40 * q) + f)) i) ?_
        refine h_bald X hw gk (vp_in_nI (by omega) (by decide)) dX4_copy_64 ?_
        refine h_tv (b := .int (gB (16 * (40 * q + f) + i))) (by rw [nI_clamp (by omega), hb1 _ (by omega)]) ?_
        refine h_bast X hw gk (vp_in_nI (by omega) (by decide)) dX4_copy_65 (fun H locs hw => ?_)
        obtain ⟨k2, hk2⟩ : ∃ zz, zz = h_cu kk (20, 13, 0) (some (.inl (G.2 3, 6400, .inl (upd gb (nI (16 * (40 * u + f) + i)).toNatClampNeg (vp_nar .byte (gB (16 * (40 * q + f) + i))))))) := ⟨_, rfl⟩
        replace hw := h_W.ren hw hk2
        have f2_20_0_0 : k2 (20, 0, 0) = some (.inr (4, [.int th, .int (nI (s_cop σ)), .int (nI (s_nS σ)), .ref (ad (20, 3, 0)), .ref (ad (20, 4, 0)), .ref (ad (20, 5, 0)), .ref (ad (20, 6, 0)), .int (nI (s_col σ).length), .ref (ad (20, 8, 0)), .int (nI (s_nF σ)), .ref (ad (20, 10, 0)), .ref (ad (20, 11, 0)), .ref (ad (20, 12, 0)), .ref (ad (20, 13, 0)), .int (nI (s_as σ).length), .ref (ad (20, 15, 0)), .ref (ad (20, 16, 0)), .ref (ad (20, 17, 0)), .ref (ad (20, 18, 0)), .int (s_dg σ)])) := by rw [hk2, h_cn _ _ (by simp)]; exact gx
        have f2_20_13_0 : k2 (20, 13, 0) = some (.inl (G.2 3, 6400, .inl (upd gb (nI (16 * (40 * u + f) + i)).toNatClampNeg (vp_nar .byte (gB (16 * (40 * q + f) + i)))))) := by rw [hk2]; exact h_cs _ _ _
        refine lv_iinc (v := nI (i + 1)) (lv' := [(4, .int (nI (i + 1))), (0, .ref (ad (20, 0, 0))), (1, .int (nI f)), (2, .int (nI q)), (3, .int (nI u))]) X.1 X.2.1 dX4_copy_66 hl (k := 4) rfl (nI_1 _) (by decide) rfl (fun ls hl => ?_)
        refine lv_goto (tgt := 25) X.1 X.2.1 dX4_copy_69 (by decide) ?_
        exact ih (i + 1) (by omega) (by omega) k2 _ _ _ f2_20_13_0 (fun t ht => by rw [hk2, h_cn _ _ ht, ho t ht]) (fun n hn => by
          rw [nI_clamp (by omega), pk_un (by omega)]; exact hb1 n hn) (nlt_s (fun a ha => by
          rw [nI_clamp (by omega), pk_un (by omega)]; exact hb2 a ha) (by
          rw [nI_clamp (by omega), pk_us, byte_nar])) hw ls (lv_sub hl [1, 2, 3, 4, 0] rfl)
  exact loop 17 0 (by omega) (by omega) k1 gB _ _ f1_20_13_0 (fun _ _ => rfl) (fun _ _ => rfl) (fun a ha => absurd ha (Nat.not_lt_zero a)) hw ls (lv_sub hl [1, 2, 3, 4, 0] rfl)
set_option maxHeartbeats 4000000 in
set_option maxRecDepth 100000 in
/-- move -/
theorem c_X4_move (l : Launch) (G : h_G) {ad : h_T → Nat} {k : h_C} {σ : S_t} {th : Int32} (hM : RM G ad k σ th) (y x z : Int32) : h_Wr l yX4_move cX4_move 4 (some .int) 3 65 0 0 G ad k [.ref (ad (20, 0, 0)), .int y, .int x, .int z] (MPost G ad k (some (.int (sp_move σ y x z).1)) (sp_move σ y x z).2 0) := by
  refine h_wr (by decide +kernel) (Nat.le_of_ble_eq_true rfl) ?_
  intro p e s m args below meth c X Y hw ls hl
  have hl : lv_has ls 4 [(0, .ref (ad (20, 0, 0))), (1, .int y), (2, .int x), (3, .int z)] := hl
  unfold sp_move
  have hok := hM.ok
  have hnS : s_nS σ ≤ 10 := hok.2.1
  have hnF : s_nF σ ≤ 40 := hok.2.2.1
  have hx : k (20, 0, 0) = some (.inr (4, [.int th, .int (nI (s_cop σ)), .int (nI (s_nS σ)), .ref (ad (20, 3, 0)), .ref (ad (20, 4, 0)), .ref (ad (20, 5, 0)), .ref (ad (20, 6, 0)), .int (nI (s_col σ).length), .ref (ad (20, 8, 0)), .int (nI (s_nF σ)), .ref (ad (20, 10, 0)), .ref (ad (20, 11, 0)), .ref (ad (20, 12, 0)), .ref (ad (20, 13, 0)), .int (nI (s_as σ).length), .ref (ad (20, 15, 0)), .ref (ad (20, 16, 0)), .ref (ad (20, 17, 0)), .ref (ad (20, 18, 0)), .int (s_dg σ)])) := hM.1
  refine lv_aload_n X.1 X.2.1 dX4_move_0 rfl (lv_at hl 0 rfl) ?_
  refine lv_iconst (v := 0) X.1 X.2.1 dX4_move_1 (by decide) ?_
  refine pf_X4_55 X hw hx rfl rfl (Nat.le_of_ble_eq_true rfl) dX4_move_2 (fun H locs hw => ?_)
  obtain ⟨k1, hk1⟩ : ∃ zz, zz = h_cu k (20, 0, 0) (some (.inr (4, [.int 0, .int (nI (s_cop σ)), .int (nI (s_nS σ)), .ref (ad (20, 3, 0)), .ref (ad (20, 4, 0)), .ref (ad (20, 5, 0)), .ref (ad (20, 6, 0)), .int (nI (s_col σ).length), .ref (ad (20, 8, 0)), .int (nI (s_nF σ)), .ref (ad (20, 10, 0)), .ref (ad (20, 11, 0)), .ref (ad (20, 12, 0)), .ref (ad (20, 13, 0)), .int (nI (s_as σ).length), .ref (ad (20, 15, 0)), .ref (ad (20, 16, 0)), .ref (ad (20, 17, 0)), .ref (ad (20, 18, 0)), .int (s_dg σ)]))) := ⟨_, rfl⟩
  replace hw := h_W.ren hw hk1
  have f1_20_0_0 : k1 (20, 0, 0) = some (.inr (4, [.int 0, .int (nI (s_cop σ)), .int (nI (s_nS σ)), .ref (ad (20, 3, 0)), .ref (ad (20, 4, 0)), .ref (ad (20, 5, 0)), .ref (ad (20, 6, 0)), .int (nI (s_col σ).length), .ref (ad (20, 8, 0)), .int (nI (s_nF σ)), .ref (ad (20, 10, 0)), .ref (ad (20, 11, 0)), .ref (ad (20, 12, 0)), .ref (ad (20, 13, 0)), .int (nI (s_as σ).length), .ref (ad (20, 15, 0)), .ref (ad (20, 16, 0)), .ref (ad (20, 17, 0)), .ref (ad (20, 18, 0)), .int (s_dg σ)])) := by rw [hk1]; exact h_cs _ _ _
  have hM1 : RM G ad k1 σ 0 := hM.obj f1_20_0_0 (fun t ht => by rw [hk1, h_cn _ _ ht])
  obtain ⟨hx, ⟨gP, eP, vP⟩, ⟨gS, eS, vS⟩, ⟨gU, eU, vU⟩, ⟨gD, eD, vD⟩, ⟨gA, eA, vA⟩, ⟨gK, eK, vK⟩, ⟨gN, eN, vN⟩, ⟨gZ, eZ, vZ⟩, ⟨gB, eB, vB⟩, ⟨g0, g1, g2, e15, e16, e17, v3⟩, ⟨gM, eM⟩, -⟩ := id hM1
  have hx : k1 (20, 0, 0) = some (.inr (4, [.int 0, .int (nI (s_cop σ)), .int (nI (s_nS σ)), .ref (ad (20, 3, 0)), .ref (ad (20, 4, 0)), .ref (ad (20, 5, 0)), .ref (ad (20, 6, 0)), .int (nI (s_col σ).length), .ref (ad (20, 8, 0)), .int (nI (s_nF σ)), .ref (ad (20, 10, 0)), .ref (ad (20, 11, 0)), .ref (ad (20, 12, 0)), .ref (ad (20, 13, 0)), .int (nI (s_as σ).length), .ref (ad (20, 15, 0)), .ref (ad (20, 16, 0)), .ref (ad (20, 17, 0)), .ref (ad (20, 18, 0)), .int (s_dg σ)])) := hx
  rcases ha : s_at σ x y with _ | ⟨s9, f, b⟩
  · refine lv_aload_n X.1 X.2.1 dX4_move_5 rfl (lv_at hl 0 rfl) ?_
    refine lv_iload_n X.1 X.2.1 dX4_move_6 rfl (lv_at hl 2 rfl) ?_
    refine lv_iload_n X.1 X.2.1 dX4_move_7 rfl (lv_at hl 1 rfl) ?_
    refine h_callRV (t := (20, 0, 0)) (As := [.int x, .int y]) (rest := []) X hw cs_X4_75 (c_X4_has l G hM1 x y) hx rfl rfl hl.1 rfl (Nat.le_of_ble_eq_true rfl) ⟨by decide, by decide⟩ ⟨Nat.zero_le _, Nat.zero_le _⟩ dX4_move_8 ?_
    refine h_tv (b := .int 0) (by rw [ha]; rfl) ?_
    refine lv_if_eq (tgt := 22) X.1 X.2.1 dX4_move_11 (by decide) (fun c11 => ?_) (fun c11 => ?_)
    · refine lv_iconst (v := (-1)) X.1 X.2.1 dX4_move_22 (by decide) ?_
      exact h_iretW X Y hw ⟨rfl, rfl, hM1, fun t ht => by rw [hk1, h_cn _ _ (t_ne20 ht)]⟩ (Nat.zero_le _) (Nat.zero_le _) dX4_move_23
    · exact absurd (by decide) c11
  obtain ⟨rfl, rfl, hs9, hf9, hc, -, -⟩ := s_at_some ha
  have hbl := hok.2.2.2.2.2.2.1 _ _ _ hc
  dsimp only
  rcases hz : ix z (s_nS σ) with _ | u9
  · refine lv_aload_n X.1 X.2.1 dX4_move_5 rfl (lv_at hl 0 rfl) ?_
    refine lv_iload_n X.1 X.2.1 dX4_move_6 rfl (lv_at hl 2 rfl) ?_
    refine lv_iload_n X.1 X.2.1 dX4_move_7 rfl (lv_at hl 1 rfl) ?_
    refine h_callRV (t := (20, 0, 0)) (As := [.int (nI s9), .int (nI f)]) (rest := []) X hw cs_X4_75 (c_X4_has l G hM1 (nI s9) (nI f)) hx rfl rfl hl.1 rfl (Nat.le_of_ble_eq_true rfl) ⟨by decide, by decide⟩ ⟨Nat.zero_le _, Nat.zero_le _⟩ dX4_move_8 ?_
    refine h_tv (b := .int 1) (by rw [ha]; rfl) ?_
    refine lv_if_eq (tgt := 22) X.1 X.2.1 dX4_move_11 (by decide) (fun c11 => ?_) (fun c11 => ?_)
    · exact absurd c11 (by decide)
    · refine lv_aload_n X.1 X.2.1 dX4_move_14 rfl (lv_at hl 0 rfl) ?_
      refine lv_iload_n X.1 X.2.1 dX4_move_15 rfl (lv_at hl 3 rfl) ?_
      refine h_callRV (t := (20, 0, 0)) (As := [.int z]) (rest := []) X hw cs_X4_68 (c_X4_isStore l G hM1 z) hx rfl rfl hl.1 rfl (Nat.le_of_ble_eq_true rfl) ⟨by decide, by decide⟩ ⟨Nat.zero_le _, Nat.zero_le _⟩ dX4_move_16 ?_
      refine h_tv (b := .int 0) (by rw [hz]; rfl) ?_
      refine lv_if_ne (tgt := 24) X.1 X.2.1 dX4_move_19 (by decide) (fun c19 => ?_) (fun c19 => ?_)
      · exact absurd (by decide) c19
      · refine lv_iconst (v := (-1)) X.1 X.2.1 dX4_move_22 (by decide) ?_
        exact h_iretW X Y hw ⟨rfl, rfl, hM1, fun t ht => by rw [hk1, h_cn _ _ (t_ne20 ht)]⟩ (Nat.zero_le _) (Nat.zero_le _) dX4_move_23
  obtain rfl := ix_eq hz
  have hu9 := ix_lt hz
  dsimp only
  by_cases hsu : s9 = u9
  · rw [if_pos (Or.inl hsu)]
    refine lv_aload_n X.1 X.2.1 dX4_move_5 rfl (lv_at hl 0 rfl) ?_
    refine lv_iload_n X.1 X.2.1 dX4_move_6 rfl (lv_at hl 2 rfl) ?_
    refine lv_iload_n X.1 X.2.1 dX4_move_7 rfl (lv_at hl 1 rfl) ?_
    refine h_callRV (t := (20, 0, 0)) (As := [.int (nI s9), .int (nI f)]) (rest := []) X hw cs_X4_75 (c_X4_has l G hM1 (nI s9) (nI f)) hx rfl rfl hl.1 rfl (Nat.le_of_ble_eq_true rfl) ⟨by decide, by decide⟩ ⟨Nat.zero_le _, Nat.zero_le _⟩ dX4_move_8 ?_
    refine h_tv (b := .int 1) (by rw [ha]; rfl) ?_
    refine lv_if_eq (tgt := 22) X.1 X.2.1 dX4_move_11 (by decide) (fun c11 => ?_) (fun c11 => ?_)
    · exact absurd c11 (by decide)
    · refine lv_aload_n X.1 X.2.1 dX4_move_14 rfl (lv_at hl 0 rfl) ?_
      refine lv_iload_n X.1 X.2.1 dX4_move_15 rfl (lv_at hl 3 rfl) ?_
      refine h_callRV (t := (20, 0, 0)) (As := [.int (nI u9)]) (rest := []) X hw cs_X4_68 (c_X4_isStore l G hM1 (nI u9)) hx rfl rfl hl.1 rfl (Nat.le_of_ble_eq_true rfl) ⟨by decide, by decide⟩ ⟨Nat.zero_le _, Nat.zero_le _⟩ dX4_move_16 ?_
      refine h_tv (b := .int 1) (by rw [hz]; rfl) ?_
      refine lv_if_ne (tgt := 24) X.1 X.2.1 dX4_move_19 (by decide) (fun c19 => ?_) (fun c19 => ?_)
      · refine lv_iload_n X.1 X.2.1 dX4_move_24 rfl (lv_at hl 2 rfl) ?_
        refine lv_iload_n X.1 X.2.1 dX4_move_25 rfl (lv_at hl 3 rfl) ?_
        refine lv_icmp_eq (tgt := 56) X.1 X.2.1 dX4_move_26 (by decide) (fun c26 => ?_) (fun c26 => ?_)
        · refine lv_bipush (v := (-3)) X.1 X.2.1 dX4_move_56 (by decide) ?_
          exact h_iretW X Y hw ⟨rfl, rfl, hM1, fun t ht => by rw [hk1, h_cn _ _ (t_ne20 ht)]⟩ (Nat.zero_le _) (Nat.zero_le _) dX4_move_58
        · exact absurd (by rw [hsu]) c26
      · exact absurd c19 (by decide)
  cases h1 : s_si σ s9 with
  | true =>
    rw [if_pos (Or.inr (Or.inl rfl))]
    refine lv_aload_n X.1 X.2.1 dX4_move_5 rfl (lv_at hl 0 rfl) ?_
    refine lv_iload_n X.1 X.2.1 dX4_move_6 rfl (lv_at hl 2 rfl) ?_
    refine lv_iload_n X.1 X.2.1 dX4_move_7 rfl (lv_at hl 1 rfl) ?_
    refine h_callRV (t := (20, 0, 0)) (As := [.int (nI s9), .int (nI f)]) (rest := []) X hw cs_X4_75 (c_X4_has l G hM1 (nI s9) (nI f)) hx rfl rfl hl.1 rfl (Nat.le_of_ble_eq_true rfl) ⟨by decide, by decide⟩ ⟨Nat.zero_le _, Nat.zero_le _⟩ dX4_move_8 ?_
    refine h_tv (b := .int 1) (by rw [ha]; rfl) ?_
    refine lv_if_eq (tgt := 22) X.1 X.2.1 dX4_move_11 (by decide) (fun c11 => ?_) (fun c11 => ?_)
    · exact absurd c11 (by decide)
    · refine lv_aload_n X.1 X.2.1 dX4_move_14 rfl (lv_at hl 0 rfl) ?_
      refine lv_iload_n X.1 X.2.1 dX4_move_15 rfl (lv_at hl 3 rfl) ?_
      refine h_callRV (t := (20, 0, 0)) (As := [.int (nI u9)]) (rest := []) X hw cs_X4_68 (c_X4_isStore l G hM1 (nI u9)) hx rfl rfl hl.1 rfl (Nat.le_of_ble_eq_true rfl) ⟨by decide, by decide⟩ ⟨Nat.zero_le _, Nat.zero_le _⟩ dX4_move_16 ?_
      refine h_tv (b := .int 1) (by rw [hz]; rfl) ?_
      refine lv_if_ne (tgt := 24) X.1 X.2.1 dX4_move_19 (by decide) (fun c19 => ?_) (fun c19 => ?_)
      · refine lv_iload_n X.1 X.2.1 dX4_move_24 rfl (lv_at hl 2 rfl) ?_
        refine lv_iload_n X.1 X.2.1 dX4_move_25 rfl (lv_at hl 3 rfl) ?_
        refine lv_icmp_eq (tgt := 56) X.1 X.2.1 dX4_move_26 (by decide) (fun c26 => ?_) (fun c26 => ?_)
        · exact absurd ((nI_eq (by omega) (by omega)).mp c26) hsu
        · refine lv_aload_n X.1 X.2.1 dX4_move_29 rfl (lv_at hl 0 rfl) ?_
          refine gf_X4_13 X hw hx rfl dX4_move_30 ?_
          refine lv_iload_n X.1 X.2.1 dX4_move_33 rfl (lv_at hl 2 rfl) ?_
          refine h_zald X hw eS (vp_in_nI (by omega) (by decide)) dX4_move_34 ?_
          refine h_tv (b := .int 1) (by rw [nI_clamp (by omega), vS s9 (by omega), h1, bI_t]) ?_
          refine lv_if_ne (tgt := 56) X.1 X.2.1 dX4_move_35 (by decide) (fun c35 => ?_) (fun c35 => ?_)
          · refine lv_bipush (v := (-3)) X.1 X.2.1 dX4_move_56 (by decide) ?_
            exact h_iretW X Y hw ⟨rfl, rfl, hM1, fun t ht => by rw [hk1, h_cn _ _ (t_ne20 ht)]⟩ (Nat.zero_le _) (Nat.zero_le _) dX4_move_58
          · exact absurd c35 (by decide)
      · exact absurd c19 (by decide)
  | false =>
  cases h2 : s_si σ u9 with
  | true =>
    rw [if_pos (Or.inr (Or.inr (Or.inl rfl)))]
    refine lv_aload_n X.1 X.2.1 dX4_move_5 rfl (lv_at hl 0 rfl) ?_
    refine lv_iload_n X.1 X.2.1 dX4_move_6 rfl (lv_at hl 2 rfl) ?_
    refine lv_iload_n X.1 X.2.1 dX4_move_7 rfl (lv_at hl 1 rfl) ?_
    refine h_callRV (t := (20, 0, 0)) (As := [.int (nI s9), .int (nI f)]) (rest := []) X hw cs_X4_75 (c_X4_has l G hM1 (nI s9) (nI f)) hx rfl rfl hl.1 rfl (Nat.le_of_ble_eq_true rfl) ⟨by decide, by decide⟩ ⟨Nat.zero_le _, Nat.zero_le _⟩ dX4_move_8 ?_
    refine h_tv (b := .int 1) (by rw [ha]; rfl) ?_
    refine lv_if_eq (tgt := 22) X.1 X.2.1 dX4_move_11 (by decide) (fun c11 => ?_) (fun c11 => ?_)
    · exact absurd c11 (by decide)
    · refine lv_aload_n X.1 X.2.1 dX4_move_14 rfl (lv_at hl 0 rfl) ?_
      refine lv_iload_n X.1 X.2.1 dX4_move_15 rfl (lv_at hl 3 rfl) ?_
      refine h_callRV (t := (20, 0, 0)) (As := [.int (nI u9)]) (rest := []) X hw cs_X4_68 (c_X4_isStore l G hM1 (nI u9)) hx rfl rfl hl.1 rfl (Nat.le_of_ble_eq_true rfl) ⟨by decide, by decide⟩ ⟨Nat.zero_le _, Nat.zero_le _⟩ dX4_move_16 ?_
      refine h_tv (b := .int 1) (by rw [hz]; rfl) ?_
      refine lv_if_ne (tgt := 24) X.1 X.2.1 dX4_move_19 (by decide) (fun c19 => ?_) (fun c19 => ?_)
      · refine lv_iload_n X.1 X.2.1 dX4_move_24 rfl (lv_at hl 2 rfl) ?_
        refine lv_iload_n X.1 X.2.1 dX4_move_25 rfl (lv_at hl 3 rfl) ?_
        refine lv_icmp_eq (tgt := 56) X.1 X.2.1 dX4_move_26 (by decide) (fun c26 => ?_) (fun c26 => ?_)
        · exact absurd ((nI_eq (by omega) (by omega)).mp c26) hsu
        · refine lv_aload_n X.1 X.2.1 dX4_move_29 rfl (lv_at hl 0 rfl) ?_
          refine gf_X4_13 X hw hx rfl dX4_move_30 ?_
          refine lv_iload_n X.1 X.2.1 dX4_move_33 rfl (lv_at hl 2 rfl) ?_
          refine h_zald X hw eS (vp_in_nI (by omega) (by decide)) dX4_move_34 ?_
          refine h_tv (b := .int 0) (by rw [nI_clamp (by omega), vS s9 (by omega), h1, bI_f]) ?_
          refine lv_if_ne (tgt := 56) X.1 X.2.1 dX4_move_35 (by decide) (fun c35 => ?_) (fun c35 => ?_)
          · exact absurd (by decide) c35
          · refine lv_aload_n X.1 X.2.1 dX4_move_38 rfl (lv_at hl 0 rfl) ?_
            refine gf_X4_13 X hw hx rfl dX4_move_39 ?_
            refine lv_iload_n X.1 X.2.1 dX4_move_42 rfl (lv_at hl 3 rfl) ?_
            refine h_zald X hw eS (vp_in_nI (by omega) (by decide)) dX4_move_43 ?_
            refine h_tv (b := .int 1) (by rw [nI_clamp (by omega), vS u9 (by omega), h2, bI_t]) ?_
            refine lv_if_ne (tgt := 56) X.1 X.2.1 dX4_move_44 (by decide) (fun c44 => ?_) (fun c44 => ?_)
            · refine lv_bipush (v := (-3)) X.1 X.2.1 dX4_move_56 (by decide) ?_
              exact h_iretW X Y hw ⟨rfl, rfl, hM1, fun t ht => by rw [hk1, h_cn _ _ (t_ne20 ht)]⟩ (Nat.zero_le _) (Nat.zero_le _) dX4_move_58
            · exact absurd c44 (by decide)
      · exact absurd c19 (by decide)
  | false =>
  cases h3 : s_has σ u9 f with
  | true =>
    rw [if_pos (Or.inr (Or.inr (Or.inr rfl)))]
    refine lv_aload_n X.1 X.2.1 dX4_move_5 rfl (lv_at hl 0 rfl) ?_
    refine lv_iload_n X.1 X.2.1 dX4_move_6 rfl (lv_at hl 2 rfl) ?_
    refine lv_iload_n X.1 X.2.1 dX4_move_7 rfl (lv_at hl 1 rfl) ?_
    refine h_callRV (t := (20, 0, 0)) (As := [.int (nI s9), .int (nI f)]) (rest := []) X hw cs_X4_75 (c_X4_has l G hM1 (nI s9) (nI f)) hx rfl rfl hl.1 rfl (Nat.le_of_ble_eq_true rfl) ⟨by decide, by decide⟩ ⟨Nat.zero_le _, Nat.zero_le _⟩ dX4_move_8 ?_
    refine h_tv (b := .int 1) (by rw [ha]; rfl) ?_
    refine lv_if_eq (tgt := 22) X.1 X.2.1 dX4_move_11 (by decide) (fun c11 => ?_) (fun c11 => ?_)
    · exact absurd c11 (by decide)
    · refine lv_aload_n X.1 X.2.1 dX4_move_14 rfl (lv_at hl 0 rfl) ?_
      refine lv_iload_n X.1 X.2.1 dX4_move_15 rfl (lv_at hl 3 rfl) ?_
      refine h_callRV (t := (20, 0, 0)) (As := [.int (nI u9)]) (rest := []) X hw cs_X4_68 (c_X4_isStore l G hM1 (nI u9)) hx rfl rfl hl.1 rfl (Nat.le_of_ble_eq_true rfl) ⟨by decide, by decide⟩ ⟨Nat.zero_le _, Nat.zero_le _⟩ dX4_move_16 ?_
      refine h_tv (b := .int 1) (by rw [hz]; rfl) ?_
      refine lv_if_ne (tgt := 24) X.1 X.2.1 dX4_move_19 (by decide) (fun c19 => ?_) (fun c19 => ?_)
      · refine lv_iload_n X.1 X.2.1 dX4_move_24 rfl (lv_at hl 2 rfl) ?_
        refine lv_iload_n X.1 X.2.1 dX4_move_25 rfl (lv_at hl 3 rfl) ?_
        refine lv_icmp_eq (tgt := 56) X.1 X.2.1 dX4_move_26 (by decide) (fun c26 => ?_) (fun c26 => ?_)
        · exact absurd ((nI_eq (by omega) (by omega)).mp c26) hsu
        · refine lv_aload_n X.1 X.2.1 dX4_move_29 rfl (lv_at hl 0 rfl) ?_
          refine gf_X4_13 X hw hx rfl dX4_move_30 ?_
          refine lv_iload_n X.1 X.2.1 dX4_move_33 rfl (lv_at hl 2 rfl) ?_
          refine h_zald X hw eS (vp_in_nI (by omega) (by decide)) dX4_move_34 ?_
          refine h_tv (b := .int 0) (by rw [nI_clamp (by omega), vS s9 (by omega), h1, bI_f]) ?_
          refine lv_if_ne (tgt := 56) X.1 X.2.1 dX4_move_35 (by decide) (fun c35 => ?_) (fun c35 => ?_)
          · exact absurd (by decide) c35
          · refine lv_aload_n X.1 X.2.1 dX4_move_38 rfl (lv_at hl 0 rfl) ?_
            refine gf_X4_13 X hw hx rfl dX4_move_39 ?_
            refine lv_iload_n X.1 X.2.1 dX4_move_42 rfl (lv_at hl 3 rfl) ?_
            refine h_zald X hw eS (vp_in_nI (by omega) (by decide)) dX4_move_43 ?_
            refine h_tv (b := .int 0) (by rw [nI_clamp (by omega), vS u9 (by omega), h2, bI_f]) ?_
            refine lv_if_ne (tgt := 56) X.1 X.2.1 dX4_move_44 (by decide) (fun c44 => ?_) (fun c44 => ?_)
            · exact absurd (by decide) c44
            · refine lv_aload_n X.1 X.2.1 dX4_move_47 rfl (lv_at hl 0 rfl) ?_
              refine lv_iload_n X.1 X.2.1 dX4_move_48 rfl (lv_at hl 3 rfl) ?_
              refine lv_iload_n X.1 X.2.1 dX4_move_49 rfl (lv_at hl 1 rfl) ?_
              refine h_callRV (t := (20, 0, 0)) (As := [.int (nI u9), .int (nI f)]) (rest := []) X hw cs_X4_75 (c_X4_hasN l G hM1 hu9 hf9) hx rfl rfl hl.1 rfl (Nat.le_of_ble_eq_true rfl) ⟨by decide, by decide⟩ ⟨Nat.zero_le _, Nat.zero_le _⟩ dX4_move_50 ?_
              refine h_tv (b := .int 1) (by rw [h3]; rfl) ?_
              refine lv_if_eq (tgt := 59) X.1 X.2.1 dX4_move_53 (by decide) (fun c53 => ?_) (fun c53 => ?_)
              · exact absurd c53 (by decide)
              · refine lv_bipush (v := (-3)) X.1 X.2.1 dX4_move_56 (by decide) ?_
                exact h_iretW X Y hw ⟨rfl, rfl, hM1, fun t ht => by rw [hk1, h_cn _ _ (t_ne20 ht)]⟩ (Nat.zero_le _) (Nat.zero_le _) dX4_move_58
      · exact absurd c19 (by decide)
  | false =>
    rw [if_neg (show ¬ (s9 = u9 ∨ (false : Bool) = true ∨ (false : Bool) = true ∨ (false : Bool) = true) from fun q => by
      rcases q with q | q | q | q
      · exact hsu q
      · cases q
      · cases q
      · cases q)]
    refine lv_aload_n X.1 X.2.1 dX4_move_5 rfl (lv_at hl 0 rfl) ?_
    refine lv_iload_n X.1 X.2.1 dX4_move_6 rfl (lv_at hl 2 rfl) ?_
    refine lv_iload_n X.1 X.2.1 dX4_move_7 rfl (lv_at hl 1 rfl) ?_
    refine h_callRV (t := (20, 0, 0)) (As := [.int (nI s9), .int (nI f)]) (rest := []) X hw cs_X4_75 (c_X4_has l G hM1 (nI s9) (nI f)) hx rfl rfl hl.1 rfl (Nat.le_of_ble_eq_true rfl) ⟨by decide, by decide⟩ ⟨Nat.zero_le _, Nat.zero_le _⟩ dX4_move_8 ?_
    refine h_tv (b := .int 1) (by rw [ha]; rfl) ?_
    refine lv_if_eq (tgt := 22) X.1 X.2.1 dX4_move_11 (by decide) (fun c11 => ?_) (fun c11 => ?_)
    · exact absurd c11 (by decide)
    · refine lv_aload_n X.1 X.2.1 dX4_move_14 rfl (lv_at hl 0 rfl) ?_
      refine lv_iload_n X.1 X.2.1 dX4_move_15 rfl (lv_at hl 3 rfl) ?_
      refine h_callRV (t := (20, 0, 0)) (As := [.int (nI u9)]) (rest := []) X hw cs_X4_68 (c_X4_isStore l G hM1 (nI u9)) hx rfl rfl hl.1 rfl (Nat.le_of_ble_eq_true rfl) ⟨by decide, by decide⟩ ⟨Nat.zero_le _, Nat.zero_le _⟩ dX4_move_16 ?_
      refine h_tv (b := .int 1) (by rw [hz]; rfl) ?_
      refine lv_if_ne (tgt := 24) X.1 X.2.1 dX4_move_19 (by decide) (fun c19 => ?_) (fun c19 => ?_)
      · refine lv_iload_n X.1 X.2.1 dX4_move_24 rfl (lv_at hl 2 rfl) ?_
        refine lv_iload_n X.1 X.2.1 dX4_move_25 rfl (lv_at hl 3 rfl) ?_
        refine lv_icmp_eq (tgt := 56) X.1 X.2.1 dX4_move_26 (by decide) (fun c26 => ?_) (fun c26 => ?_)
        · exact absurd ((nI_eq (by omega) (by omega)).mp c26) hsu
        · refine lv_aload_n X.1 X.2.1 dX4_move_29 rfl (lv_at hl 0 rfl) ?_
          refine gf_X4_13 X hw hx rfl dX4_move_30 ?_
          refine lv_iload_n X.1 X.2.1 dX4_move_33 rfl (lv_at hl 2 rfl) ?_
          refine h_zald X hw eS (vp_in_nI (by omega) (by decide)) dX4_move_34 ?_
          refine h_tv (b := .int 0) (by rw [nI_clamp (by omega), vS s9 (by omega), h1, bI_f]) ?_
          refine lv_if_ne (tgt := 56) X.1 X.2.1 dX4_move_35 (by decide) (fun c35 => ?_) (fun c35 => ?_)
          · exact absurd (by decide) c35
          · refine lv_aload_n X.1 X.2.1 dX4_move_38 rfl (lv_at hl 0 rfl) ?_
            refine gf_X4_13 X hw hx rfl dX4_move_39 ?_
            refine lv_iload_n X.1 X.2.1 dX4_move_42 rfl (lv_at hl 3 rfl) ?_
            refine h_zald X hw eS (vp_in_nI (by omega) (by decide)) dX4_move_43 ?_
            refine h_tv (b := .int 0) (by rw [nI_clamp (by omega), vS u9 (by omega), h2, bI_f]) ?_
            refine lv_if_ne (tgt := 56) X.1 X.2.1 dX4_move_44 (by decide) (fun c44 => ?_) (fun c44 => ?_)
            · exact absurd (by decide) c44
            · refine lv_aload_n X.1 X.2.1 dX4_move_47 rfl (lv_at hl 0 rfl) ?_
              refine lv_iload_n X.1 X.2.1 dX4_move_48 rfl (lv_at hl 3 rfl) ?_
              refine lv_iload_n X.1 X.2.1 dX4_move_49 rfl (lv_at hl 1 rfl) ?_
              refine h_callRV (t := (20, 0, 0)) (As := [.int (nI u9), .int (nI f)]) (rest := []) X hw cs_X4_75 (c_X4_hasN l G hM1 hu9 hf9) hx rfl rfl hl.1 rfl (Nat.le_of_ble_eq_true rfl) ⟨by decide, by decide⟩ ⟨Nat.zero_le _, Nat.zero_le _⟩ dX4_move_50 ?_
              refine h_tv (b := .int 0) (by rw [h3]; rfl) ?_
              refine lv_if_eq (tgt := 59) X.1 X.2.1 dX4_move_53 (by decide) (fun c53 => ?_) (fun c53 => ?_)
              · refine lv_aload_n X.1 X.2.1 dX4_move_59 rfl (lv_at hl 0 rfl) ?_
                refine lv_iload_n X.1 X.2.1 dX4_move_60 rfl (lv_at hl 1 rfl) ?_
                refine lv_iload_n X.1 X.2.1 dX4_move_61 rfl (lv_at hl 2 rfl) ?_
                refine lv_iload_n X.1 X.2.1 dX4_move_62 rfl (lv_at hl 3 rfl) ?_
                refine h_callWV (t := (20, 0, 0)) (As := [.int (nI f), .int (nI s9), .int (nI u9)]) (rest := []) X hw cs_X4_109 (c_X4_copy l G hM1 hc hu9 hsu) hx rfl rfl hl.1 rfl (Nat.le_of_ble_eq_true rfl) ⟨by decide, by decide⟩ ⟨(Nat.le_of_ble_eq_true rfl), (Nat.le_of_ble_eq_true rfl)⟩ dX4_move_63 (fun r9 ad2 k2 H locs hp9 hw => ?_)
                obtain ⟨rfl, ea2, hM2, ho2⟩ := hp9
                refine W.eq (g2 := F0 m 66 ls []) rfl ?_
                replace hw := hw.renA ea2.symm
                obtain ⟨hx2, -, -, -, -, -, -, -, ⟨gZ2, eZ2, vZ2⟩, ⟨gB2, eB2, vB2⟩, -, -, -⟩ := id hM2
                have hx2 : k2 (20, 0, 0) = some (.inr (4, [.int 0, .int (nI (s_cop σ)), .int (nI (s_nS σ)), .ref (ad (20, 3, 0)), .ref (ad (20, 4, 0)), .ref (ad (20, 5, 0)), .ref (ad (20, 6, 0)), .int (nI (s_col σ).length), .ref (ad (20, 8, 0)), .int (nI (s_nF σ)), .ref (ad (20, 10, 0)), .ref (ad (20, 11, 0)), .ref (ad (20, 12, 0)), .ref (ad (20, 13, 0)), .int (nI (s_as σ).length), .ref (ad (20, 15, 0)), .ref (ad (20, 16, 0)), .ref (ad (20, 17, 0)), .ref (ad (20, 18, 0)), .int (s_dg σ)])) := hx2
                refine lv_aload_n X.1 X.2.1 dX4_move_66 rfl (lv_at hl 0 rfl) ?_
                refine gf_X4_33 X hw hx2 rfl dX4_move_67 ?_
                refine lv_bipush (v := 40) X.1 X.2.1 dX4_move_70 (by decide) ?_
                refine lv_iload_n X.1 X.2.1 dX4_move_72 rfl (lv_at hl 2 rfl) ?_
                refine lv_imul X.1 X.2.1 dX4_move_73 ?_
                refine h_ti (b := nI (40 * s9)) (pk_mul 40 s9) ?_
                refine lv_iload_n X.1 X.2.1 dX4_move_74 rfl (lv_at hl 1 rfl) ?_
                refine lv_iadd X.1 X.2.1 dX4_move_75 ?_
                refine h_ti (b := nI ((40 * s9) + f)) (nI_add (40 * s9) f) ?_
                refine lv_iconst (v := (-1)) X.1 X.2.1 dX4_move_76 (by decide) ?_
                refine h_iast X hw eZ2 (vp_in_nI (by omega) (by decide)) dX4_move_77 (fun H locs hw => ?_)
                obtain ⟨k3, hk3⟩ : ∃ zz, zz = h_cu k2 (20, 12, 0) (some (.inl (G.2 0, 400, .inl (upd gZ2 (nI (40 * s9 + f)).toNatClampNeg (-1))))) := ⟨_, rfl⟩
                replace hw := h_W.ren hw hk3
                have f3_20_0_0 : k3 (20, 0, 0) = some (.inr (4, [.int 0, .int (nI (s_cop σ)), .int (nI (s_nS σ)), .ref (ad (20, 3, 0)), .ref (ad (20, 4, 0)), .ref (ad (20, 5, 0)), .ref (ad (20, 6, 0)), .int (nI (s_col σ).length), .ref (ad (20, 8, 0)), .int (nI (s_nF σ)), .ref (ad (20, 10, 0)), .ref (ad (20, 11, 0)), .ref (ad (20, 12, 0)), .ref (ad (20, 13, 0)), .int (nI (s_as σ).length), .ref (ad (20, 15, 0)), .ref (ad (20, 16, 0)), .ref (ad (20, 17, 0)), .ref (ad (20, 18, 0)), .int (s_dg σ)])) := by rw [hk3, h_cn _ _ (by simp)]; exact hx2
                have f3_20_12_0 : k3 (20, 12, 0) = some (.inl (G.2 0, 400, .inl (upd gZ2 (nI (40 * s9 + f)).toNatClampNeg (-1)))) := by rw [hk3]; exact h_cs _ _ _
                have f3_20_13_0 : k3 (20, 13, 0) = some (.inl (G.2 3, 6400, .inl gB2)) := by rw [hk3, h_cn _ _ (by simp)]; exact eB2
                refine lv_iconst (v := 1) X.1 X.2.1 dX4_move_78 (by decide) ?_
                exact h_iretW X Y hw ⟨rfl, rfl, RM.cp hM2 (s := s9) (f := f) hs9 hf9 (v := none) (fun l hl => by cases hl) eZ2 eB2 rfl (by rw [f3_20_12_0, nI_clamp (by omega)]; rfl) f3_20_13_0 (fun _ _ => rfl) (fun l hl => by cases hl) (fun t h1 _ => by rw [hk3, h_cn _ _ h1]), fun t ht => by rw [hk3, h_cn _ _ (t_ne20 ht), ho2 t (t_ne20 ht) (t_ne20 ht), hk1, h_cn _ _ (t_ne20 ht)]⟩ (Nat.zero_le _) (Nat.zero_le _) dX4_move_79
              · exact absurd (by decide) c53
      · exact absurd c19 (by decide)
