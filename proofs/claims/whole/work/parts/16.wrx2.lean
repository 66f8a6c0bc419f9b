set_option maxHeartbeats 4000000 in
set_option maxRecDepth 100000 in
/-- alter -/
theorem c_X3_alter (l : Launch) (G : h_G) {ad : h_T → Nat} {k : h_C} {σ : S_t} (hR : RX G ad k σ) (x y i v : Int32) : h_Wr l yX3_alter cX3_alter 7 (some .int) 2 44 0 0 G ad k [.ref (ad (0, 0, 0)), .int x, .int y, .int i, .int v] (XPost G ad k (some (.int (sp_alter σ x y i v).1)) (sp_alter σ x y i v).2) := by
  refine h_wr (by decide +kernel) (Nat.le_of_ble_eq_true rfl) ?_
  intro p e s m args below meth c X Y hw ls hl
  have hl : lv_has ls 7 [(0, .ref (ad (0, 0, 0))), (1, .int x), (2, .int y), (3, .int i), (4, .int v)] := hl
  have hok := hR.ok
  obtain ⟨hx, hs, hst, hi, hit, hcp, hcol, hmx, hask, -⟩ := id hR
  have hx : k (0, 0, 0) = some (.inr (3, [.int (nI (s_cop σ)), .ref (ad (1, 0, 0)), .int (nI (s_nS σ)), .ref (ad (2, 0, 0)), .int (nI (s_nF σ)), .ref (ad (3, 0, 0)), .ref (ad (4, 0, 0)), .ref (ad (5, 0, 0)), .ref (ad (5, 1, 0)), .ref (ad (5, 2, 0)), .int (nI (s_as σ).length), .int (s_dg σ)])) := hx
  have hnS : s_nS σ ≤ 10 := hok.2.1
  have hnF : s_nF σ ≤ 40 := hok.2.2.1
  unfold sp_alter
  rcases ha : s_at σ x y with _ | ⟨j, f, b⟩
  · refine lv_aload_n X.1 X.2.1 dX3_alter_0 rfl (lv_at hl 0 rfl) ?_
    refine lv_iload_n X.1 X.2.1 dX3_alter_1 rfl (lv_at hl 1 rfl) ?_
    refine lv_iload_n X.1 X.2.1 dX3_alter_2 rfl (lv_at hl 2 rfl) ?_
    refine h_callRV (t := (0, 0, 0)) (As := [.int x, .int y]) (rest := []) X hw cs_X3_99 (c_X3_copyOf l G hR x y) hx rfl rfl hl.1 rfl (Nat.le_of_ble_eq_true rfl) ⟨by decide, by decide⟩ ⟨Nat.zero_le _, Nat.zero_le _⟩ dX3_alter_3 ?_
    refine h_tv (b := .null) (by rw [x_copy_at, ha]; rfl) ?_
    refine lv_astoreN (lv' := [(5, .null), (0, .ref (ad (0, 0, 0))), (1, .int x), (2, .int y), (3, .int i), (4, .int v)]) X.1 X.2.1 dX3_alter_6 hl (by decide) rfl (fun ls hl => ?_)
    refine lv_aloadN X.1 X.2.1 dX3_alter_8 (lv_at hl 0 rfl) ?_
    refine lv_ifnullN (tgt := 22) X.1 X.2.1 dX3_alter_10 (by decide) ?_
    refine lv_iconst (v := (-1)) X.1 X.2.1 dX3_alter_22 (by decide) ?_
    exact h_iretW (v := -1) X Y hw ⟨rfl, hR, fun _ _ => ⟨rfl, rfl⟩, rfl⟩ (Nat.zero_le _) (Nat.zero_le _) dX3_alter_23
  · obtain ⟨ex, ey, hj, hf, hb, hxj, hyf⟩ := s_at_some ha
    have hlb := hok.2.2.2.2.2.2.1 j f b hb
    have hrow := hcp j f b hb
    obtain ⟨hr1, g, hg, hgi⟩ := id hrow
    show W p l e _ s m args below meth c _ _ _ _ (MQ below (h_Qw G ad k s.heap.size (XPost G ad k (some (.int ((match ix i b.length with | none => (-1, σ) | some q => (b.getD q 0, s_setCp σ j f (some (b.set q (v &&& 255))))) : Int32 × S_t).1)) ((match ix i b.length with | none => (-1, σ) | some q => (b.getD q 0, s_setCp σ j f (some (b.set q (v &&& 255))))) : Int32 × S_t).2)) args s 0 0 (h_A ad k s.heap.size)) _
    rcases hi1 : ix i b.length with _ | q
    · refine lv_aload_n X.1 X.2.1 dX3_alter_0 rfl (lv_at hl 0 rfl) ?_
      refine lv_iload_n X.1 X.2.1 dX3_alter_1 rfl (lv_at hl 1 rfl) ?_
      refine lv_iload_n X.1 X.2.1 dX3_alter_2 rfl (lv_at hl 2 rfl) ?_
      refine h_callRV (t := (0, 0, 0)) (As := [.int x, .int y]) (rest := []) X hw cs_X3_99 (c_X3_copyOf l G hR x y) hx rfl rfl hl.1 rfl (Nat.le_of_ble_eq_true rfl) ⟨by decide, by decide⟩ ⟨Nat.zero_le _, Nat.zero_le _⟩ dX3_alter_3 ?_
      refine h_tv (b := .ref (ad (9, j, f))) (by rw [x_copy_at, ha]; rfl) ?_
      refine lv_astore (lv' := [(5, .ref (ad (9, j, f))), (0, .ref (ad (0, 0, 0))), (1, .int x), (2, .int y), (3, .int i), (4, .int v)]) X.1 X.2.1 dX3_alter_6 hl (by decide) rfl (fun ls hl => ?_)
      refine lv_aload X.1 X.2.1 dX3_alter_8 (lv_at hl 0 rfl) ?_
      refine lv_ifnull X.1 X.2.1 dX3_alter_10 ?_
      refine lv_aload X.1 X.2.1 dX3_alter_13 (lv_at hl 0 rfl) ?_
      refine lv_iload_n X.1 X.2.1 dX3_alter_15 rfl (lv_at hl 4 rfl) ?_
      refine h_callRV (t := (9, j, f)) (As := [.int i]) (rest := []) X hw cs_X3_103 (c_X1_has l G hrow hlb i) hr1 rfl rfl hl.1 rfl (Nat.le_of_ble_eq_true rfl) ⟨by decide, by decide⟩ ⟨Nat.zero_le _, Nat.zero_le _⟩ dX3_alter_16 ?_
      refine h_tv (b := .int 0) (by rw [hi1]; rfl) ?_
      refine lv_if_ne (tgt := 24) X.1 X.2.1 dX3_alter_19 (by decide) (fun c19 => ?_) (fun c19 => ?_)
      · exact absurd (by decide) c19
      · refine lv_iconst (v := (-1)) X.1 X.2.1 dX3_alter_22 (by decide) ?_
        exact h_iretW (v := -1) X Y hw ⟨rfl, hR, fun _ _ => ⟨rfl, rfl⟩, rfl⟩ (Nat.zero_le _) (Nat.zero_le _) dX3_alter_23
    · have hq : q < b.length := ix_lt hi1
      obtain rfl : i = nI q := ix_eq hi1
      refine lv_aload_n X.1 X.2.1 dX3_alter_0 rfl (lv_at hl 0 rfl) ?_
      refine lv_iload_n X.1 X.2.1 dX3_alter_1 rfl (lv_at hl 1 rfl) ?_
      refine lv_iload_n X.1 X.2.1 dX3_alter_2 rfl (lv_at hl 2 rfl) ?_
      refine h_callRV (t := (0, 0, 0)) (As := [.int x, .int y]) (rest := []) X hw cs_X3_99 (c_X3_copyOf l G hR x y) hx rfl rfl hl.1 rfl (Nat.le_of_ble_eq_true rfl) ⟨by decide, by decide⟩ ⟨Nat.zero_le _, Nat.zero_le _⟩ dX3_alter_3 ?_
      refine h_tv (b := .ref (ad (9, j, f))) (by rw [x_copy_at, ha]; rfl) ?_
      refine lv_astore (lv' := [(5, .ref (ad (9, j, f))), (0, .ref (ad (0, 0, 0))), (1, .int x), (2, .int y), (3, .int (nI q)), (4, .int v)]) X.1 X.2.1 dX3_alter_6 hl (by decide) rfl (fun ls hl => ?_)
      refine lv_aload X.1 X.2.1 dX3_alter_8 (lv_at hl 0 rfl) ?_
      refine lv_ifnull X.1 X.2.1 dX3_alter_10 ?_
      refine lv_aload X.1 X.2.1 dX3_alter_13 (lv_at hl 0 rfl) ?_
      refine lv_iload_n X.1 X.2.1 dX3_alter_15 rfl (lv_at hl 4 rfl) ?_
      refine h_callRV (t := (9, j, f)) (As := [.int (nI q)]) (rest := []) X hw cs_X3_103 (c_X1_has l G hrow hlb (nI q)) hr1 rfl rfl hl.1 rfl (Nat.le_of_ble_eq_true rfl) ⟨by decide, by decide⟩ ⟨Nat.zero_le _, Nat.zero_le _⟩ dX3_alter_16 ?_
      refine h_tv (b := .int 1) (by rw [hi1]; rfl) ?_
      refine lv_if_ne (tgt := 24) X.1 X.2.1 dX3_alter_19 (by decide) (fun c19 => ?_) (fun c19 => ?_)
      · refine lv_aload X.1 X.2.1 dX3_alter_24 (lv_at hl 0 rfl) ?_
        refine gf_X3_106 X hw hr1 rfl dX3_alter_26 ?_
        refine lv_iload_n X.1 X.2.1 dX3_alter_29 rfl (lv_at hl 4 rfl) ?_
        refine h_iald X hw hg (vp_in_nI (by omega) (by decide)) dX3_alter_30 ?_
        refine h_tv (b := .int (b.getD q 0)) (by rw [nI_clamp (by omega), hgi q hq]) ?_
        refine lv_istore (lv' := [(6, .int (b.getD q 0)), (5, .ref (ad (9, j, f))), (0, .ref (ad (0, 0, 0))), (1, .int x), (2, .int y), (3, .int (nI q)), (4, .int v)]) X.1 X.2.1 dX3_alter_31 hl (by decide) rfl (fun ls hl => ?_)
        refine lv_aload X.1 X.2.1 dX3_alter_33 (lv_at hl 1 rfl) ?_
        refine gf_X3_106 X hw hr1 rfl dX3_alter_35 ?_
        refine lv_iload_n X.1 X.2.1 dX3_alter_38 rfl (lv_at hl 5 rfl) ?_
        refine lv_iload X.1 X.2.1 dX3_alter_39 (lv_at hl 6 rfl) ?_
        refine lv_sipush (v := 255) X.1 X.2.1 dX3_alter_41 (by decide) ?_
        refine lv_iand X.1 X.2.1 dX3_alter_44 ?_
        refine h_iast X hw hg (vp_in_nI (by omega) (by decide)) dX3_alter_45 (fun H locs hw => ?_)
        obtain ⟨k1, hk1⟩ : ∃ zz, zz = h_cu k (10, j, f) (some (.inl (G.2 0, 16, .inl (upd g (nI q).toNatClampNeg (v &&& 255))))) := ⟨_, rfl⟩
        have hw := h_W.ren hw hk1
        have f1_0_0_0 : k1 (0, 0, 0) = some (.inr (3, [.int (nI (s_cop σ)), .ref (ad (1, 0, 0)), .int (nI (s_nS σ)), .ref (ad (2, 0, 0)), .int (nI (s_nF σ)), .ref (ad (3, 0, 0)), .ref (ad (4, 0, 0)), .ref (ad (5, 0, 0)), .ref (ad (5, 1, 0)), .ref (ad (5, 2, 0)), .int (nI (s_as σ).length), .int (s_dg σ)])) := by rw [hk1, h_cn _ _ (by simp)]; exact hx
        have f1_9_j_f : k1 (9, j, f) = some (.inr (1, [.ref (ad (10, j, f)), .int (nI b.length)])) := by rw [hk1, h_cn _ _ (by simp)]; exact hr1
        have f1_10_j_f : k1 (10, j, f) = some (.inl (G.2 0, 16, .inl (upd g (nI q).toNatClampNeg (v &&& 255)))) := by rw [hk1]; exact h_cs _ _ _
        refine lv_iload X.1 X.2.1 dX3_alter_46 (lv_at hl 0 rfl) ?_
        exact h_iretW (v := b.getD q 0) X Y hw ⟨rfl, hR.setRow hb (by rw [List.length_set]; exact hlb) ⟨by rw [hk1, h_cn _ _ (by simp), hr1, List.length_set], _, by rw [hk1, h_cs], fun a hal => by
          rw [List.length_set] at hal
          rw [nI_clamp (by omega)]
          by_cases haq : a = q
          · subst haq
            rw [pk_us, List.getD_eq_getElem?_getD, List.getElem?_set_self hq]
            rfl
          · rw [pk_un haq, hgi a hal, List.getD_eq_getElem?_getD, List.getD_eq_getElem?_getD, List.getElem?_set_ne (Ne.symm haq)]⟩ (fun t ht hu => by rw [hk1, h_cn _ _ hu]), fun t ht => ⟨by rw [hk1, h_cn _ _ (t20 ht (Nat.le_of_ble_eq_true rfl))], rfl⟩, rfl⟩ (Nat.zero_le _) (Nat.zero_le _) dX3_alter_48
      · exact absurd c19 (by decide)
set_option maxHeartbeats 4000000 in
set_option maxRecDepth 100000 in
/-- cut -/
theorem c_X3_cut (l : Launch) (G : h_G) {ad : h_T → Nat} {k : h_C} {σ : S_t} (hR : RX G ad k σ) (x y z : Int32) : h_Wr l yX3_cut cX3_cut 6 (some .int) 2 44 0 0 G ad k [.ref (ad (0, 0, 0)), .int x, .int y, .int z] (XPost G ad k (some (.int (sp_cut σ x y z).1)) (sp_cut σ x y z).2) := by
  refine h_wr (by decide +kernel) (Nat.le_of_ble_eq_true rfl) ?_
  intro p e s m args below meth c X Y hw ls hl
  have hl : lv_has ls 6 [(0, .ref (ad (0, 0, 0))), (1, .int x), (2, .int y), (3, .int z)] := hl
  have hok := hR.ok
  obtain ⟨hx, hs, hst, hi, hit, hcp, hcol, hmx, hask, -⟩ := id hR
  have hx : k (0, 0, 0) = some (.inr (3, [.int (nI (s_cop σ)), .ref (ad (1, 0, 0)), .int (nI (s_nS σ)), .ref (ad (2, 0, 0)), .int (nI (s_nF σ)), .ref (ad (3, 0, 0)), .ref (ad (4, 0, 0)), .ref (ad (5, 0, 0)), .ref (ad (5, 1, 0)), .ref (ad (5, 2, 0)), .int (nI (s_as σ).length), .int (s_dg σ)])) := hx
  have hnS : s_nS σ ≤ 10 := hok.2.1
  have hnF : s_nF σ ≤ 40 := hok.2.2.1
  unfold sp_cut
  rcases ha : s_at σ x y with _ | ⟨j, f, b⟩
  · refine lv_aload_n X.1 X.2.1 dX3_cut_0 rfl (lv_at hl 0 rfl) ?_
    refine lv_iload_n X.1 X.2.1 dX3_cut_1 rfl (lv_at hl 1 rfl) ?_
    refine lv_iload_n X.1 X.2.1 dX3_cut_2 rfl (lv_at hl 2 rfl) ?_
    refine h_callRV (t := (0, 0, 0)) (As := [.int x, .int y]) (rest := []) X hw cs_X3_99 (c_X3_copyOf l G hR x y) hx rfl rfl hl.1 rfl (Nat.le_of_ble_eq_true rfl) ⟨by decide, by decide⟩ ⟨Nat.zero_le _, Nat.zero_le _⟩ dX3_cut_3 ?_
    refine h_tv (b := .null) (by rw [x_copy_at, ha]; rfl) ?_
    refine lv_astoreN (lv' := [(4, .null), (0, .ref (ad (0, 0, 0))), (1, .int x), (2, .int y), (3, .int z)]) X.1 X.2.1 dX3_cut_6 hl (by decide) rfl (fun ls hl => ?_)
    refine lv_aloadN X.1 X.2.1 dX3_cut_8 (lv_at hl 0 rfl) ?_
    refine lv_ifnonnullN X.1 X.2.1 dX3_cut_10 ?_
    refine lv_iconst (v := (-1)) X.1 X.2.1 dX3_cut_13 (by decide) ?_
    exact h_iretW (v := -1) X Y hw ⟨rfl, hR, fun _ _ => ⟨rfl, rfl⟩, rfl⟩ (Nat.zero_le _) (Nat.zero_le _) dX3_cut_14
  · obtain ⟨ex, ey, hj, hf, hb, hxj, hyf⟩ := s_at_some ha
    have hlb := hok.2.2.2.2.2.2.1 j f b hb
    have hrow := hcp j f b hb
    obtain ⟨hr1, g, hg, hgi⟩ := id hrow
    show W p l e _ s m args below meth c _ _ _ _ (MQ below (h_Qw G ad k s.heap.size (XPost G ad k (some (.int ((match ix z (b.length + 1) with | none => (-2, σ) | some q => (nI (b.length - q), s_setCp σ j f (some (b.take q)))) : Int32 × S_t).1)) ((match ix z (b.length + 1) with | none => (-2, σ) | some q => (nI (b.length - q), s_setCp σ j f (some (b.take q)))) : Int32 × S_t).2)) args s 0 0 (h_A ad k s.heap.size)) _
    rcases ix_cases z (n := b.length + 1) (by omega) with ⟨e0, h0⟩ | ⟨e0, h0, h1⟩ | ⟨q, hq, rfl, e0⟩
    · rw [e0]
      refine lv_aload_n X.1 X.2.1 dX3_cut_0 rfl (lv_at hl 0 rfl) ?_
      refine lv_iload_n X.1 X.2.1 dX3_cut_1 rfl (lv_at hl 1 rfl) ?_
      refine lv_iload_n X.1 X.2.1 dX3_cut_2 rfl (lv_at hl 2 rfl) ?_
      refine h_callRV (t := (0, 0, 0)) (As := [.int x, .int y]) (rest := []) X hw cs_X3_99 (c_X3_copyOf l G hR x y) hx rfl rfl hl.1 rfl (Nat.le_of_ble_eq_true rfl) ⟨by decide, by decide⟩ ⟨Nat.zero_le _, Nat.zero_le _⟩ dX3_cut_3 ?_
      refine h_tv (b := .ref (ad (9, j, f))) (by rw [x_copy_at, ha]; rfl) ?_
      refine lv_astore (lv' := [(4, .ref (ad (9, j, f))), (0, .ref (ad (0, 0, 0))), (1, .int x), (2, .int y), (3, .int z)]) X.1 X.2.1 dX3_cut_6 hl (by decide) rfl (fun ls hl => ?_)
      refine lv_aload X.1 X.2.1 dX3_cut_8 (lv_at hl 0 rfl) ?_
      refine lv_ifnonnull (tgt := 15) X.1 X.2.1 dX3_cut_10 (by decide) ?_
      refine lv_iload_n X.1 X.2.1 dX3_cut_15 rfl (lv_at hl 4 rfl) ?_
      refine lv_if_lt (tgt := 28) X.1 X.2.1 dX3_cut_16 (by decide) (fun c16 => ?_) (fun c16 => ?_)
      · refine lv_bipush (v := (-2)) X.1 X.2.1 dX3_cut_28 (by decide) ?_
        exact h_iretW (v := -2) X Y hw ⟨rfl, hR, fun _ _ => ⟨rfl, rfl⟩, rfl⟩ (Nat.zero_le _) (Nat.zero_le _) dX3_cut_30
      · exact absurd h0 c16
    · rw [e0]
      refine lv_aload_n X.1 X.2.1 dX3_cut_0 rfl (lv_at hl 0 rfl) ?_
      refine lv_iload_n X.1 X.2.1 dX3_cut_1 rfl (lv_at hl 1 rfl) ?_
      refine lv_iload_n X.1 X.2.1 dX3_cut_2 rfl (lv_at hl 2 rfl) ?_
      refine h_callRV (t := (0, 0, 0)) (As := [.int x, .int y]) (rest := []) X hw cs_X3_99 (c_X3_copyOf l G hR x y) hx rfl rfl hl.1 rfl (Nat.le_of_ble_eq_true rfl) ⟨by decide, by decide⟩ ⟨Nat.zero_le _, Nat.zero_le _⟩ dX3_cut_3 ?_
      refine h_tv (b := .ref (ad (9, j, f))) (by rw [x_copy_at, ha]; rfl) ?_
      refine lv_astore (lv' := [(4, .ref (ad (9, j, f))), (0, .ref (ad (0, 0, 0))), (1, .int x), (2, .int y), (3, .int z)]) X.1 X.2.1 dX3_cut_6 hl (by decide) rfl (fun ls hl => ?_)
      refine lv_aload X.1 X.2.1 dX3_cut_8 (lv_at hl 0 rfl) ?_
      refine lv_ifnonnull (tgt := 15) X.1 X.2.1 dX3_cut_10 (by decide) ?_
      refine lv_iload_n X.1 X.2.1 dX3_cut_15 rfl (lv_at hl 4 rfl) ?_
      refine lv_if_lt (tgt := 28) X.1 X.2.1 dX3_cut_16 (by decide) (fun c16 => ?_) (fun c16 => ?_)
      · exact absurd c16 h0
      · refine lv_iload_n X.1 X.2.1 dX3_cut_19 rfl (lv_at hl 4 rfl) ?_
        refine lv_aload X.1 X.2.1 dX3_cut_20 (lv_at hl 0 rfl) ?_
        refine gf_X3_79 X hw hr1 rfl dX3_cut_22 ?_
        refine lv_icmp_le (tgt := 31) X.1 X.2.1 dX3_cut_25 (by decide) (fun c25 => ?_) (fun c25 => ?_)
        · exact absurd (Int32.le_trans h1 c25) (nI_ge (by omega) (by omega))
        · refine lv_bipush (v := (-2)) X.1 X.2.1 dX3_cut_28 (by decide) ?_
          exact h_iretW (v := -2) X Y hw ⟨rfl, hR, fun _ _ => ⟨rfl, rfl⟩, rfl⟩ (Nat.zero_le _) (Nat.zero_le _) dX3_cut_30
    · rw [e0]
      refine lv_aload_n X.1 X.2.1 dX3_cut_0 rfl (lv_at hl 0 rfl) ?_
      refine lv_iload_n X.1 X.2.1 dX3_cut_1 rfl (lv_at hl 1 rfl) ?_
      refine lv_iload_n X.1 X.2.1 dX3_cut_2 rfl (lv_at hl 2 rfl) ?_
      refine h_callRV (t := (0, 0, 0)) (As := [.int x, .int y]) (rest := []) X hw cs_X3_99 (c_X3_copyOf l G hR x y) hx rfl rfl hl.1 rfl (Nat.le_of_ble_eq_true rfl) ⟨by decide, by decide⟩ ⟨Nat.zero_le _, Nat.zero_le _⟩ dX3_cut_3 ?_
      refine h_tv (b := .ref (ad (9, j, f))) (by rw [x_copy_at, ha]; rfl) ?_
      refine lv_astore (lv' := [(4, .ref (ad (9, j, f))), (0, .ref (ad (0, 0, 0))), (1, .int x), (2, .int y), (3, .int (nI q))]) X.1 X.2.1 dX3_cut_6 hl (by decide) rfl (fun ls hl => ?_)
      refine lv_aload X.1 X.2.1 dX3_cut_8 (lv_at hl 0 rfl) ?_
      refine lv_ifnonnull (tgt := 15) X.1 X.2.1 dX3_cut_10 (by decide) ?_
      refine lv_iload_n X.1 X.2.1 dX3_cut_15 rfl (lv_at hl 4 rfl) ?_
      refine lv_if_lt (tgt := 28) X.1 X.2.1 dX3_cut_16 (by decide) (fun c16 => ?_) (fun c16 => ?_)
      · exact absurd c16 (nI_pos (by omega))
      · refine lv_iload_n X.1 X.2.1 dX3_cut_19 rfl (lv_at hl 4 rfl) ?_
        refine lv_aload X.1 X.2.1 dX3_cut_20 (lv_at hl 0 rfl) ?_
        refine gf_X3_79 X hw hr1 rfl dX3_cut_22 ?_
        refine lv_icmp_le (tgt := 31) X.1 X.2.1 dX3_cut_25 (by decide) (fun c25 => ?_) (fun c25 => ?_)
        · refine lv_aload X.1 X.2.1 dX3_cut_31 (lv_at hl 0 rfl) ?_
          refine gf_X3_79 X hw hr1 rfl dX3_cut_33 ?_
          refine lv_iload_n X.1 X.2.1 dX3_cut_36 rfl (lv_at hl 4 rfl) ?_
          refine lv_isub X.1 X.2.1 dX3_cut_37 ?_
          refine h_ti (b := nI (b.length - q)) (pk_sub (by omega)) ?_
          refine lv_istore (lv' := [(5, .int (nI (b.length - q))), (4, .ref (ad (9, j, f))), (0, .ref (ad (0, 0, 0))), (1, .int x), (2, .int y), (3, .int (nI q))]) X.1 X.2.1 dX3_cut_38 hl (by decide) rfl (fun ls hl => ?_)
          refine lv_aload X.1 X.2.1 dX3_cut_40 (lv_at hl 1 rfl) ?_
          refine lv_iload_n X.1 X.2.1 dX3_cut_42 rfl (lv_at hl 5 rfl) ?_
          refine pf_X3_79 X hw hr1 rfl rfl (Nat.le_of_ble_eq_true rfl) dX3_cut_43 (fun H locs hw => ?_)
          obtain ⟨k1, hk1⟩ : ∃ zz, zz = h_cu k (9, j, f) (some (.inr (1, [.ref (ad (10, j, f)), .int (nI q)]))) := ⟨_, rfl⟩
          have hw := h_W.ren hw hk1
          have f1_0_0_0 : k1 (0, 0, 0) = some (.inr (3, [.int (nI (s_cop σ)), .ref (ad (1, 0, 0)), .int (nI (s_nS σ)), .ref (ad (2, 0, 0)), .int (nI (s_nF σ)), .ref (ad (3, 0, 0)), .ref (ad (4, 0, 0)), .ref (ad (5, 0, 0)), .ref (ad (5, 1, 0)), .ref (ad (5, 2, 0)), .int (nI (s_as σ).length), .int (s_dg σ)])) := by rw [hk1, h_cn _ _ (by simp)]; exact hx
          have f1_9_j_f : k1 (9, j, f) = some (.inr (1, [.ref (ad (10, j, f)), .int (nI q)])) := by rw [hk1]; exact h_cs _ _ _
          have f1_10_j_f : k1 (10, j, f) = some (.inl (G.2 0, 16, .inl g)) := by rw [hk1, h_cn _ _ (by simp)]; exact hg
          refine lv_iload X.1 X.2.1 dX3_cut_46 (lv_at hl 0 rfl) ?_
          exact h_iretW (v := nI (b.length - q)) X Y hw ⟨rfl, hR.setRow hb (by rw [List.length_take]; omega) ⟨by rw [hk1, h_cs, List.length_take, Nat.min_eq_left (by omega)], g, by rw [hk1, h_cn _ _ (by simp), hg], fun a hal => by
            rw [List.length_take] at hal
            rw [hgi a (by omega), List.getD_eq_getElem?_getD, List.getD_eq_getElem?_getD, List.getElem?_take_of_lt (by omega)]⟩ (fun t ht hu => by rw [hk1, h_cn _ _ ht]), fun t ht => ⟨by rw [hk1, h_cn _ _ (t20 ht (Nat.le_of_ble_eq_true rfl))], rfl⟩, rfl⟩ (Nat.zero_le _) (Nat.zero_le _) dX3_cut_48
        · exact absurd (nI_le (by omega) (by omega)) c25
