def MNew (G : h_G) (ad : h_T → Nat) (k : h_C) (x : Int32) : h_Ps := fun r ad' k' => r = none ∧ RM G ad' k' (s_new x) 0 ∧ (∀ t : h_T, t.1 ≠ 20 → k' t = k t ∧ ad' t = ad t) ∧ ad' (20, 0, 0) = ad (20, 0, 0)
set_option maxHeartbeats 4000000 in
set_option maxRecDepth 100000 in
/-- CopyPollsModel(copies) -/
theorem c_X4_init (l : Launch) (G : h_G) {ad : h_T → Nat} {k : h_C} (h0 : k (20, 0, 0) = some (.inr (4, [.int 0, .int 0, .int 0, .null, .null, .null, .null, .int 0, .null, .int 0, .null, .null, .null, .null, .int 0, .null, .null, .null, .null, .int 0]))) (hno : ∀ t : h_T, t.1 = 20 → t ≠ (20, 0, 0) → k t = none) (x : Int32) : h_Wr l yX4_init cX4_init 3 none 1 20 13 7306 G ad k [.ref (ad (20, 0, 0)), .int x] (MNew G ad k x) := by
  refine h_wr (by decide +kernel) (Nat.le_of_ble_eq_true rfl) ?_
  intro p e s m args below meth c X Y hw ls hl
  have hl : lv_has ls 3 [(0, .ref (ad (20, 0, 0))), (1, .int x)] := hl
  have loop : ∀ (n i : Nat), i ≤ 400 → 400 + 1 ≤ i + n → ∀ (aa : h_T → Nat) (kk0 kk : h_C) (gz : Nat → Int32) (H : Heap) (locs : List Loc), kk0 (20, 0, 0) = some (.inr (4, [.int 0, .int (nI (s_copN x)), .int 0, .ref (aa (20, 3, 0)), .ref (aa (20, 4, 0)), .ref (aa (20, 5, 0)), .ref (aa (20, 6, 0)), .int 0, .ref (aa (20, 8, 0)), .int 0, .ref (aa (20, 10, 0)), .ref (aa (20, 11, 0)), .ref (aa (20, 12, 0)), .ref (aa (20, 13, 0)), .int 0, .ref (aa (20, 15, 0)), .ref (aa (20, 16, 0)), .ref (aa (20, 17, 0)), .ref (aa (20, 18, 0)), .int 0])) → (∀ (kE : h_C) (gE : Nat → Int32), kE (20, 12, 0) = some (.inl (G.2 0, 400, .inl gE)) → (∀ c, c < 400 → gE c = -1) → (∀ t : h_T, t ≠ (20, 12, 0) → kE t = kk0 t) → (MNew G ad k x) none aa kE) → kk (20, 12, 0) = some (.inl (G.2 0, 400, .inl gz)) → (∀ c, c < i → gz c = -1) → (∀ t : h_T, t ≠ (20, 12, 0) → kk t = kk0 t) → h_W G.1 h_cl (h_A ad k s.heap.size) s.heap aa kk H locs → ∀ (ls : Array Slot), lv_has ls 3 [(0, .ref (aa (20, 0, 0))), (2, .int (nI i))] → W p l e (h_rm 1 20 13 7306) s m args below meth c H locs 13 7306 (MQ below (h_Qw G ad k s.heap.size (MNew G ad k x)) args s 13 7306 (h_A ad k s.heap.size)) (F0 m 135 ls []) := by
    intro n
    induction n with
    | zero =>
      intro i h1 h2
      exact absurd h2 (by omega)
    | succ n ih =>
      intro i hii hni aa kk0 kk gz H locs hx0 hfin gkz hgz ho hw ls hl
      have gx : kk (20, 0, 0) = some (.inr (4, [.int 0, .int (nI (s_copN x)), .int 0, .ref (aa (20, 3, 0)), .ref (aa (20, 4, 0)), .ref (aa (20, 5, 0)), .ref (aa (20, 6, 0)), .int 0, .ref (aa (20, 8, 0)), .int 0, .ref (aa (20, 10, 0)), .ref (aa (20, 11, 0)), .ref (aa (20, 12, 0)), .ref (aa (20, 13, 0)), .int 0, .ref (aa (20, 15, 0)), .ref (aa (20, 16, 0)), .ref (aa (20, 17, 0)), .ref (aa (20, 18, 0)), .int 0])) := (ho _ (by simp)).trans hx0
      refine lv_iload_n X.1 X.2.1 dX4_init_135 rfl (lv_at hl 1 rfl) ?_
      refine lv_sipush (v := 400) X.1 X.2.1 dX4_init_136 (by decide) ?_
      refine lv_icmp_ge (tgt := 155) X.1 X.2.1 dX4_init_139 (by decide) (fun c139 => ?_) (fun c139 => ?_)
      · obtain rfl : i = 400 := Nat.le_antisymm hii (Nat.le_of_not_lt (fun q => absurd c139 (nI_ge (b := 400) q (by omega))))
        exact h_vretW X Y hw (hfin kk gz gkz hgz ho) (Nat.le_of_ble_eq_true rfl) (Nat.le_of_ble_eq_true rfl) dX4_init_155
      · have hib : i < 400 := Nat.lt_of_not_le (fun q => c139 (nI_le (a := 400) q (by omega)))
        refine lv_aload_n X.1 X.2.1 dX4_init_142 rfl (lv_at hl 0 rfl) ?_
        refine gf_X4_33 X hw gx rfl dX4_init_143 ?_
        refine lv_iload_n X.1 X.2.1 dX4_init_146 rfl (lv_at hl 1 rfl) ?_
        refine lv_iconst (v := (-1)) X.1 X.2.1 dX4_init_147 (by decide) ?_
        refine h_iast X hw gkz (vp_in_nI (by omega) (by decide)) dX4_init_148 (fun H locs hw => ?_)
        obtain ⟨k1, hk1⟩ : ∃ zz, zz = h_cu kk (20, 12, 0) (some (.inl (G.2 0, 400, .inl (upd gz (nI i).toNatClampNeg (-1))))) := ⟨_, rfl⟩
        replace hw := h_W.ren hw hk1
        have f1_20_0_0 : k1 (20, 0, 0) = some (.inr (4, [.int 0, .int (nI (s_copN x)), .int 0, .ref (aa (20, 3, 0)), .ref (aa (20, 4, 0)), .ref (aa (20, 5, 0)), .ref (aa (20, 6, 0)), .int 0, .ref (aa (20, 8, 0)), .int 0, .ref (aa (20, 10, 0)), .ref (aa (20, 11, 0)), .ref (aa (20, 12, 0)), .ref (aa (20, 13, 0)), .int 0, .ref (aa (20, 15, 0)), .ref (aa (20, 16, 0)), .ref (aa (20, 17, 0)), .ref (aa (20, 18, 0)), .int 0])) := by rw [hk1, h_cn _ _ (by simp)]; exact gx
        have f1_20_12_0 : k1 (20, 12, 0) = some (.inl (G.2 0, 400, .inl (upd gz (nI i).toNatClampNeg (-1)))) := by rw [hk1]; exact h_cs _ _ _
        refine lv_iinc (v := nI (i + 1)) (lv' := [(2, .int (nI (i + 1))), (0, .ref (aa (20, 0, 0)))]) X.1 X.2.1 dX4_init_149 hl (k := 1) rfl (nI_1 _) (by decide) rfl (fun ls hl => ?_)
        refine lv_goto (tgt := 135) X.1 X.2.1 dX4_init_152 (by decide) ?_
        exact ih (i + 1) (by omega) (by omega) aa kk0 k1 _ _ _ hx0 hfin f1_20_12_0 (nlt_s (fun c hc => by rw [nI_clamp (by omega), pk_un (by omega)]; exact hgz c hc) (by rw [nI_clamp (by omega), pk_us])) (fun t ht => by rw [hk1, h_cn _ _ ht, ho t ht]) hw ls (lv_sub hl [1, 0] rfl)
  refine lv_aload_n X.1 X.2.1 dX4_init_0 rfl (lv_at hl 0 rfl) ?_
  refine W.objInit X.1 X.2.1 X.2.2.2.1 (X.2.2.2.2.1 _ oi_X4) (X.2.2.2.2.1 _ oi_i) (X.2.2.2.2.1 _ oi_c) rfl (by rw [X.2.2.1]; exact hl.1) rfl dX4_init_1 (Nat.le_of_ble_eq_true rfl) (Nat.le_of_ble_eq_true rfl) ?_
  refine W.eq (g2 := F0 m 4 ls []) rfl ?_
  refine lv_aload_n X.1 X.2.1 dX4_init_4 rfl (lv_at hl 0 rfl) ?_
  refine lv_bipush (v := 10) X.1 X.2.1 dX4_init_5 (by decide) ?_
  refine h_newa X hw (20, 3, 0) (hno _ rfl (by simp)) (ty := .int) rfl wr_int 0 rfl (N' := 10) (a0 := (10, .inl (fun _ => 0))) (fun _ => rfl) (by decide) (by decide) (by decide) (Nat.le_of_ble_eq_true rfl) (Nat.le_of_ble_eq_true rfl) dX4_init_7 (fun q H hw => ?_)
  obtain ⟨k1, hk1⟩ : ∃ zz, zz = h_cu k (20, 3, 0) (some (.inl (G.2 0, 10, .inl (fun _ => 0)))) := ⟨_, rfl⟩
  obtain ⟨ad1, had1⟩ : ∃ zz, zz = h_au ad (20, 3, 0) q := ⟨_, rfl⟩
  replace hw := (hw.ren hk1).renA had1
  obtain rfl : q = ad1 (20, 3, 0) := by rw [had1, h_as]
  have ea1_0 : ad (20, 0, 0) = ad1 (20, 0, 0) := by rw [had1, h_an _ _ (by simp)]
  simp only [ea1_0] at hl
  simp only [ea1_0]
  have f1_20_0_0 : k1 (20, 0, 0) = some (.inr (4, [.int 0, .int 0, .int 0, .null, .null, .null, .null, .int 0, .null, .int 0, .null, .null, .null, .null, .int 0, .null, .null, .null, .null, .int 0])) := by rw [hk1, h_cn _ _ (by simp), h0]
  have f1_20_3_0 : k1 (20, 3, 0) = some (.inl (G.2 0, 10, .inl (fun _ => 0))) := by rw [hk1]; exact h_cs _ _ _
  refine pf_X4_7 X hw Y.2.2 f1_20_0_0 rfl rfl (Nat.le_of_ble_eq_true rfl) dX4_init_9 (fun H locs hw => ?_)
  obtain ⟨k2, hk2⟩ : ∃ zz, zz = h_cu k1 (20, 0, 0) (some (.inr (4, [.int 0, .int 0, .int 0, .ref (ad1 (20, 3, 0)), .null, .null, .null, .int 0, .null, .int 0, .null, .null, .null, .null, .int 0, .null, .null, .null, .null, .int 0]))) := ⟨_, rfl⟩
  replace hw := h_W.ren hw hk2
  have f2_20_0_0 : k2 (20, 0, 0) = some (.inr (4, [.int 0, .int 0, .int 0, .ref (ad1 (20, 3, 0)), .null, .null, .null, .int 0, .null, .int 0, .null, .null, .null, .null, .int 0, .null, .null, .null, .null, .int 0])) := by rw [hk2]; exact h_cs _ _ _
  have f2_20_3_0 : k2 (20, 3, 0) = some (.inl (G.2 0, 10, .inl (fun _ => 0))) := by rw [hk2, h_cn _ _ (by simp)]; exact f1_20_3_0
  refine lv_aload_n X.1 X.2.1 dX4_init_12 rfl (lv_at hl 0 rfl) ?_
  refine lv_bipush (v := 10) X.1 X.2.1 dX4_init_13 (by decide) ?_
  refine h_newa X hw (20, 4, 0) (by rw [hk2, h_cn _ _ (by simp), hk1, h_cn _ _ (by simp)]; exact hno _ rfl (by simp)) (ty := .boolean) rfl wr_boolean 2 rfl (N' := 10) (a0 := (10, .inl (fun _ => 0))) (fun _ => rfl) (by decide) (by decide) (by decide) (Nat.le_of_ble_eq_true rfl) (Nat.le_of_ble_eq_true rfl) dX4_init_15 (fun q H hw => ?_)
  obtain ⟨k3, hk3⟩ : ∃ zz, zz = h_cu k2 (20, 4, 0) (some (.inl (G.2 2, 10, .inl (fun _ => 0)))) := ⟨_, rfl⟩
  obtain ⟨ad3, had3⟩ : ∃ zz, zz = h_au ad1 (20, 4, 0) q := ⟨_, rfl⟩
  replace hw := (hw.ren hk3).renA had3
  obtain rfl : q = ad3 (20, 4, 0) := by rw [had3, h_as]
  have ea3_0 : ad1 (20, 0, 0) = ad3 (20, 0, 0) := by rw [had3, h_an _ _ (by simp)]
  have ea3_1 : ad1 (20, 3, 0) = ad3 (20, 3, 0) := by rw [had3, h_an _ _ (by simp)]
  simp only [ea3_0, ea3_1] at hl
  simp only [ea3_0, ea3_1]
  have f3_20_0_0 : k3 (20, 0, 0) = some (.inr (4, [.int 0, .int 0, .int 0, .ref (ad3 (20, 3, 0)), .null, .null, .null, .int 0, .null, .int 0, .null, .null, .null, .null, .int 0, .null, .null, .null, .null, .int 0])) := by rw [hk3, h_cn _ _ (by simp), f2_20_0_0]; simp only [ea3_0, ea3_1]
  have f3_20_3_0 : k3 (20, 3, 0) = some (.inl (G.2 0, 10, .inl (fun _ => 0))) := by rw [hk3, h_cn _ _ (by simp), f2_20_3_0]
  have f3_20_4_0 : k3 (20, 4, 0) = some (.inl (G.2 2, 10, .inl (fun _ => 0))) := by rw [hk3]; exact h_cs _ _ _
  refine pf_X4_13 X hw Y.2.2 f3_20_0_0 rfl rfl (Nat.le_of_ble_eq_true rfl) dX4_init_17 (fun H locs hw => ?_)
  obtain ⟨k4, hk4⟩ : ∃ zz, zz = h_cu k3 (20, 0, 0) (some (.inr (4, [.int 0, .int 0, .int 0, .ref (ad3 (20, 3, 0)), .ref (ad3 (20, 4, 0)), .null, .null, .int 0, .null, .int 0, .null, .null, .null, .null, .int 0, .null, .null, .null, .null, .int 0]))) := ⟨_, rfl⟩
  replace hw := h_W.ren hw hk4
  have f4_20_0_0 : k4 (20, 0, 0) = some (.inr (4, [.int 0, .int 0, .int 0, .ref (ad3 (20, 3, 0)), .ref (ad3 (20, 4, 0)), .null, .null, .int 0, .null, .int 0, .null, .null, .null, .null, .int 0, .null, .null, .null, .null, .int 0])) := by rw [hk4]; exact h_cs _ _ _
  have f4_20_3_0 : k4 (20, 3, 0) = some (.inl (G.2 0, 10, .inl (fun _ => 0))) := by rw [hk4, h_cn _ _ (by simp)]; exact f3_20_3_0
  have f4_20_4_0 : k4 (20, 4, 0) = some (.inl (G.2 2, 10, .inl (fun _ => 0))) := by rw [hk4, h_cn _ _ (by simp)]; exact f3_20_4_0
  refine lv_aload_n X.1 X.2.1 dX4_init_20 rfl (lv_at hl 0 rfl) ?_
  refine lv_bipush (v := 10) X.1 X.2.1 dX4_init_21 (by decide) ?_
  refine h_newa X hw (20, 5, 0) (by rw [hk4, h_cn _ _ (by simp), hk3, h_cn _ _ (by simp), hk2, h_cn _ _ (by simp), hk1, h_cn _ _ (by simp)]; exact hno _ rfl (by simp)) (ty := .int) rfl wr_int 0 rfl (N' := 10) (a0 := (10, .inl (fun _ => 0))) (fun _ => rfl) (by decide) (by decide) (by decide) (Nat.le_of_ble_eq_true rfl) (Nat.le_of_ble_eq_true rfl) dX4_init_23 (fun q H hw => ?_)
  obtain ⟨k5, hk5⟩ : ∃ zz, zz = h_cu k4 (20, 5, 0) (some (.inl (G.2 0, 10, .inl (fun _ => 0)))) := ⟨_, rfl⟩
  obtain ⟨ad5, had5⟩ : ∃ zz, zz = h_au ad3 (20, 5, 0) q := ⟨_, rfl⟩
  replace hw := (hw.ren hk5).renA had5
  obtain rfl : q = ad5 (20, 5, 0) := by rw [had5, h_as]
  have ea5_0 : ad3 (20, 0, 0) = ad5 (20, 0, 0) := by rw [had5, h_an _ _ (by simp)]
  have ea5_1 : ad3 (20, 3, 0) = ad5 (20, 3, 0) := by rw [had5, h_an _ _ (by simp)]
  have ea5_2 : ad3 (20, 4, 0) = ad5 (20, 4, 0) := by rw [had5, h_an _ _ (by simp)]
  simp only [ea5_0, ea5_1, ea5_2] at hl
  simp only [ea5_0, ea5_1, ea5_2]
  have f5_20_0_0 : k5 (20, 0, 0) = some (.inr (4, [.int 0, .int 0, .int 0, .ref (ad5 (20, 3, 0)), .ref (ad5 (20, 4, 0)), .null, .null, .int 0, .null, .int 0, .null, .null, .null, .null, .int 0, .null, .null, .null, .null, .int 0])) := by rw [hk5, h_cn _ _ (by simp), f4_20_0_0]; simp only [ea5_0, ea5_1, ea5_2]
  have f5_20_3_0 : k5 (20, 3, 0) = some (.inl (G.2 0, 10, .inl (fun _ => 0))) := by rw [hk5, h_cn _ _ (by simp), f4_20_3_0]
  have f5_20_4_0 : k5 (20, 4, 0) = some (.inl (G.2 2, 10, .inl (fun _ => 0))) := by rw [hk5, h_cn _ _ (by simp), f4_20_4_0]
  have f5_20_5_0 : k5 (20, 5, 0) = some (.inl (G.2 0, 10, .inl (fun _ => 0))) := by rw [hk5]; exact h_cs _ _ _
  refine pf_X4_17 X hw Y.2.2 f5_20_0_0 rfl rfl (Nat.le_of_ble_eq_true rfl) dX4_init_25 (fun H locs hw => ?_)
  obtain ⟨k6, hk6⟩ : ∃ zz, zz = h_cu k5 (20, 0, 0) (some (.inr (4, [.int 0, .int 0, .int 0, .ref (ad5 (20, 3, 0)), .ref (ad5 (20, 4, 0)), .ref (ad5 (20, 5, 0)), .null, .int 0, .null, .int 0, .null, .null, .null, .null, .int 0, .null, .null, .null, .null, .int 0]))) := ⟨_, rfl⟩
  replace hw := h_W.ren hw hk6
  have f6_20_0_0 : k6 (20, 0, 0) = some (.inr (4, [.int 0, .int 0, .int 0, .ref (ad5 (20, 3, 0)), .ref (ad5 (20, 4, 0)), .ref (ad5 (20, 5, 0)), .null, .int 0, .null, .int 0, .null, .null, .null, .null, .int 0, .null, .null, .null, .null, .int 0])) := by rw [hk6]; exact h_cs _ _ _
  have f6_20_3_0 : k6 (20, 3, 0) = some (.inl (G.2 0, 10, .inl (fun _ => 0))) := by rw [hk6, h_cn _ _ (by simp)]; exact f5_20_3_0
  have f6_20_4_0 : k6 (20, 4, 0) = some (.inl (G.2 2, 10, .inl (fun _ => 0))) := by rw [hk6, h_cn _ _ (by simp)]; exact f5_20_4_0
  have f6_20_5_0 : k6 (20, 5, 0) = some (.inl (G.2 0, 10, .inl (fun _ => 0))) := by rw [hk6, h_cn _ _ (by simp)]; exact f5_20_5_0
  refine lv_aload_n X.1 X.2.1 dX4_init_28 rfl (lv_at hl 0 rfl) ?_
  refine lv_bipush (v := 10) X.1 X.2.1 dX4_init_29 (by decide) ?_
  refine h_newa X hw (20, 6, 0) (by rw [hk6, h_cn _ _ (by simp), hk5, h_cn _ _ (by simp), hk4, h_cn _ _ (by simp), hk3, h_cn _ _ (by simp), hk2, h_cn _ _ (by simp), hk1, h_cn _ _ (by simp)]; exact hno _ rfl (by simp)) (ty := .int) rfl wr_int 0 rfl (N' := 10) (a0 := (10, .inl (fun _ => 0))) (fun _ => rfl) (by decide) (by decide) (by decide) (Nat.le_of_ble_eq_true rfl) (Nat.le_of_ble_eq_true rfl) dX4_init_31 (fun q H hw => ?_)
  obtain ⟨k7, hk7⟩ : ∃ zz, zz = h_cu k6 (20, 6, 0) (some (.inl (G.2 0, 10, .inl (fun _ => 0)))) := ⟨_, rfl⟩
  obtain ⟨ad7, had7⟩ : ∃ zz, zz = h_au ad5 (20, 6, 0) q := ⟨_, rfl⟩
  replace hw := (hw.ren hk7).renA had7
  obtain rfl : q = ad7 (20, 6, 0) := by rw [had7, h_as]
  have ea7_0 : ad5 (20, 0, 0) = ad7 (20, 0, 0) := by rw [had7, h_an _ _ (by simp)]
  have ea7_1 : ad5 (20, 3, 0) = ad7 (20, 3, 0) := by rw [had7, h_an _ _ (by simp)]
  have ea7_2 : ad5 (20, 4, 0) = ad7 (20, 4, 0) := by rw [had7, h_an _ _ (by simp)]
  have ea7_3 : ad5 (20, 5, 0) = ad7 (20, 5, 0) := by rw [had7, h_an _ _ (by simp)]
  simp only [ea7_0, ea7_1, ea7_2, ea7_3] at hl
  simp only [ea7_0, ea7_1, ea7_2, ea7_3]
  have f7_20_0_0 : k7 (20, 0, 0) = some (.inr (4, [.int 0, .int 0, .int 0, .ref (ad7 (20, 3, 0)), .ref (ad7 (20, 4, 0)), .ref (ad7 (20, 5, 0)), .null, .int 0, .null, .int 0, .null, .null, .null, .null, .int 0, .null, .null, .null, .null, .int 0])) := by rw [hk7, h_cn _ _ (by simp), f6_20_0_0]; simp only [ea7_0, ea7_1, ea7_2, ea7_3]
  have f7_20_3_0 : k7 (20, 3, 0) = some (.inl (G.2 0, 10, .inl (fun _ => 0))) := by rw [hk7, h_cn _ _ (by simp), f6_20_3_0]
  have f7_20_4_0 : k7 (20, 4, 0) = some (.inl (G.2 2, 10, .inl (fun _ => 0))) := by rw [hk7, h_cn _ _ (by simp), f6_20_4_0]
  have f7_20_5_0 : k7 (20, 5, 0) = some (.inl (G.2 0, 10, .inl (fun _ => 0))) := by rw [hk7, h_cn _ _ (by simp), f6_20_5_0]
  have f7_20_6_0 : k7 (20, 6, 0) = some (.inl (G.2 0, 10, .inl (fun _ => 0))) := by rw [hk7]; exact h_cs _ _ _
  refine pf_X4_20 X hw Y.2.2 f7_20_0_0 rfl rfl (Nat.le_of_ble_eq_true rfl) dX4_init_33 (fun H locs hw => ?_)
  obtain ⟨k8, hk8⟩ : ∃ zz, zz = h_cu k7 (20, 0, 0) (some (.inr (4, [.int 0, .int 0, .int 0, .ref (ad7 (20, 3, 0)), .ref (ad7 (20, 4, 0)), .ref (ad7 (20, 5, 0)), .ref (ad7 (20, 6, 0)), .int 0, .null, .int 0, .null, .null, .null, .null, .int 0, .null, .null, .null, .null, .int 0]))) := ⟨_, rfl⟩
  replace hw := h_W.ren hw hk8
  have f8_20_0_0 : k8 (20, 0, 0) = some (.inr (4, [.int 0, .int 0, .int 0, .ref (ad7 (20, 3, 0)), .ref (ad7 (20, 4, 0)), .ref (ad7 (20, 5, 0)), .ref (ad7 (20, 6, 0)), .int 0, .null, .int 0, .null, .null, .null, .null, .int 0, .null, .null, .null, .null, .int 0])) := by rw [hk8]; exact h_cs _ _ _
  have f8_20_3_0 : k8 (20, 3, 0) = some (.inl (G.2 0, 10, .inl (fun _ => 0))) := by rw [hk8, h_cn _ _ (by simp)]; exact f7_20_3_0
  have f8_20_4_0 : k8 (20, 4, 0) = some (.inl (G.2 2, 10, .inl (fun _ => 0))) := by rw [hk8, h_cn _ _ (by simp)]; exact f7_20_4_0
  have f8_20_5_0 : k8 (20, 5, 0) = some (.inl (G.2 0, 10, .inl (fun _ => 0))) := by rw [hk8, h_cn _ _ (by simp)]; exact f7_20_5_0
  have f8_20_6_0 : k8 (20, 6, 0) = some (.inl (G.2 0, 10, .inl (fun _ => 0))) := by rw [hk8, h_cn _ _ (by simp)]; exact f7_20_6_0
  refine lv_aload_n X.1 X.2.1 dX4_init_36 rfl (lv_at hl 0 rfl) ?_
  refine lv_bipush (v := 16) X.1 X.2.1 dX4_init_37 (by decide) ?_
  refine h_newa X hw (20, 8, 0) (by rw [hk8, h_cn _ _ (by simp), hk7, h_cn _ _ (by simp), hk6, h_cn _ _ (by simp), hk5, h_cn _ _ (by simp), hk4, h_cn _ _ (by simp), hk3, h_cn _ _ (by simp), hk2, h_cn _ _ (by simp), hk1, h_cn _ _ (by simp)]; exact hno _ rfl (by simp)) (ty := .byte) rfl wr_byte 3 rfl (N' := 16) (a0 := (16, .inl (fun _ => 0))) (fun _ => rfl) (by decide) (by decide) (by decide) (Nat.le_of_ble_eq_true rfl) (Nat.le_of_ble_eq_true rfl) dX4_init_39 (fun q H hw => ?_)
  obtain ⟨k9, hk9⟩ : ∃ zz, zz = h_cu k8 (20, 8, 0) (some (.inl (G.2 3, 16, .inl (fun _ => 0)))) := ⟨_, rfl⟩
  obtain ⟨ad9, had9⟩ : ∃ zz, zz = h_au ad7 (20, 8, 0) q := ⟨_, rfl⟩
  replace hw := (hw.ren hk9).renA had9
  obtain rfl : q = ad9 (20, 8, 0) := by rw [had9, h_as]
  have ea9_0 : ad7 (20, 0, 0) = ad9 (20, 0, 0) := by rw [had9, h_an _ _ (by simp)]
  have ea9_1 : ad7 (20, 3, 0) = ad9 (20, 3, 0) := by rw [had9, h_an _ _ (by simp)]
  have ea9_2 : ad7 (20, 4, 0) = ad9 (20, 4, 0) := by rw [had9, h_an _ _ (by simp)]
  have ea9_3 : ad7 (20, 5, 0) = ad9 (20, 5, 0) := by rw [had9, h_an _ _ (by simp)]
  have ea9_4 : ad7 (20, 6, 0) = ad9 (20, 6, 0) := by rw [had9, h_an _ _ (by simp)]
  simp only [ea9_0, ea9_1, ea9_2, ea9_3, ea9_4] at hl
  simp only [ea9_0, ea9_1, ea9_2, ea9_3, ea9_4]
  have f9_20_0_0 : k9 (20, 0, 0) = some (.inr (4, [.int 0, .int 0, .int 0, .ref (ad9 (20, 3, 0)), .ref (ad9 (20, 4, 0)), .ref (ad9 (20, 5, 0)), .ref (ad9 (20, 6, 0)), .int 0, .null, .int 0, .null, .null, .null, .null, .int 0, .null, .null, .null, .null, .int 0])) := by rw [hk9, h_cn _ _ (by simp), f8_20_0_0]; simp only [ea9_0, ea9_1, ea9_2, ea9_3, ea9_4]
  have f9_20_3_0 : k9 (20, 3, 0) = some (.inl (G.2 0, 10, .inl (fun _ => 0))) := by rw [hk9, h_cn _ _ (by simp), f8_20_3_0]
  have f9_20_4_0 : k9 (20, 4, 0) = some (.inl (G.2 2, 10, .inl (fun _ => 0))) := by rw [hk9, h_cn _ _ (by simp), f8_20_4_0]
  have f9_20_5_0 : k9 (20, 5, 0) = some (.inl (G.2 0, 10, .inl (fun _ => 0))) := by rw [hk9, h_cn _ _ (by simp), f8_20_5_0]
  have f9_20_6_0 : k9 (20, 6, 0) = some (.inl (G.2 0, 10, .inl (fun _ => 0))) := by rw [hk9, h_cn _ _ (by simp), f8_20_6_0]
  have f9_20_8_0 : k9 (20, 8, 0) = some (.inl (G.2 3, 16, .inl (fun _ => 0))) := by rw [hk9]; exact h_cs _ _ _
  refine pf_X4_23 X hw Y.2.2 f9_20_0_0 rfl rfl (Nat.le_of_ble_eq_true rfl) dX4_init_41 (fun H locs hw => ?_)
  obtain ⟨k10, hk10⟩ : ∃ zz, zz = h_cu k9 (20, 0, 0) (some (.inr (4, [.int 0, .int 0, .int 0, .ref (ad9 (20, 3, 0)), .ref (ad9 (20, 4, 0)), .ref (ad9 (20, 5, 0)), .ref (ad9 (20, 6, 0)), .int 0, .ref (ad9 (20, 8, 0)), .int 0, .null, .null, .null, .null, .int 0, .null, .null, .null, .null, .int 0]))) := ⟨_, rfl⟩
  replace hw := h_W.ren hw hk10
  have f10_20_0_0 : k10 (20, 0, 0) = some (.inr (4, [.int 0, .int 0, .int 0, .ref (ad9 (20, 3, 0)), .ref (ad9 (20, 4, 0)), .ref (ad9 (20, 5, 0)), .ref (ad9 (20, 6, 0)), .int 0, .ref (ad9 (20, 8, 0)), .int 0, .null, .null, .null, .null, .int 0, .null, .null, .null, .null, .int 0])) := by rw [hk10]; exact h_cs _ _ _
  have f10_20_3_0 : k10 (20, 3, 0) = some (.inl (G.2 0, 10, .inl (fun _ => 0))) := by rw [hk10, h_cn _ _ (by simp)]; exact f9_20_3_0
  have f10_20_4_0 : k10 (20, 4, 0) = some (.inl (G.2 2, 10, .inl (fun _ => 0))) := by rw [hk10, h_cn _ _ (by simp)]; exact f9_20_4_0
  have f10_20_5_0 : k10 (20, 5, 0) = some (.inl (G.2 0, 10, .inl (fun _ => 0))) := by rw [hk10, h_cn _ _ (by simp)]; exact f9_20_5_0
  have f10_20_6_0 : k10 (20, 6, 0) = some (.inl (G.2 0, 10, .inl (fun _ => 0))) := by rw [hk10, h_cn _ _ (by simp)]; exact f9_20_6_0
  have f10_20_8_0 : k10 (20, 8, 0) = some (.inl (G.2 3, 16, .inl (fun _ => 0))) := by rw [hk10, h_cn _ _ (by simp)]; exact f9_20_8_0
  refine lv_aload_n X.1 X.2.1 dX4_init_44 rfl (lv_at hl 0 rfl) ?_
  refine lv_bipush (v := 40) X.1 X.2.1 dX4_init_45 (by decide) ?_
  refine h_newa X hw (20, 10, 0) (by rw [hk10, h_cn _ _ (by simp), hk9, h_cn _ _ (by simp), hk8, h_cn _ _ (by simp), hk7, h_cn _ _ (by simp), hk6, h_cn _ _ (by simp), hk5, h_cn _ _ (by simp), hk4, h_cn _ _ (by simp), hk3, h_cn _ _ (by simp), hk2, h_cn _ _ (by simp), hk1, h_cn _ _ (by simp)]; exact hno _ rfl (by simp)) (ty := .int) rfl wr_int 0 rfl (N' := 40) (a0 := (40, .inl (fun _ => 0))) (fun _ => rfl) (by decide) (by decide) (by decide) (Nat.le_of_ble_eq_true rfl) (Nat.le_of_ble_eq_true rfl) dX4_init_47 (fun q H hw => ?_)
  obtain ⟨k11, hk11⟩ : ∃ zz, zz = h_cu k10 (20, 10, 0) (some (.inl (G.2 0, 40, .inl (fun _ => 0)))) := ⟨_, rfl⟩
  obtain ⟨ad11, had11⟩ : ∃ zz, zz = h_au ad9 (20, 10, 0) q := ⟨_, rfl⟩
  replace hw := (hw.ren hk11).renA had11
  obtain rfl : q = ad11 (20, 10, 0) := by rw [had11, h_as]
  have ea11_0 : ad9 (20, 0, 0) = ad11 (20, 0, 0) := by rw [had11, h_an _ _ (by simp)]
  have ea11_1 : ad9 (20, 3, 0) = ad11 (20, 3, 0) := by rw [had11, h_an _ _ (by simp)]
  have ea11_2 : ad9 (20, 4, 0) = ad11 (20, 4, 0) := by rw [had11, h_an _ _ (by simp)]
  have ea11_3 : ad9 (20, 5, 0) = ad11 (20, 5, 0) := by rw [had11, h_an _ _ (by simp)]
  have ea11_4 : ad9 (20, 6, 0) = ad11 (20, 6, 0) := by rw [had11, h_an _ _ (by simp)]
  have ea11_5 : ad9 (20, 8, 0) = ad11 (20, 8, 0) := by rw [had11, h_an _ _ (by simp)]
  simp only [ea11_0, ea11_1, ea11_2, ea11_3, ea11_4, ea11_5] at hl
  simp only [ea11_0, ea11_1, ea11_2, ea11_3, ea11_4, ea11_5]
  have f11_20_0_0 : k11 (20, 0, 0) = some (.inr (4, [.int 0, .int 0, .int 0, .ref (ad11 (20, 3, 0)), .ref (ad11 (20, 4, 0)), .ref (ad11 (20, 5, 0)), .ref (ad11 (20, 6, 0)), .int 0, .ref (ad11 (20, 8, 0)), .int 0, .null, .null, .null, .null, .int 0, .null, .null, .null, .null, .int 0])) := by rw [hk11, h_cn _ _ (by simp), f10_20_0_0]; simp only [ea11_0, ea11_1, ea11_2, ea11_3, ea11_4, ea11_5]
  have f11_20_3_0 : k11 (20, 3, 0) = some (.inl (G.2 0, 10, .inl (fun _ => 0))) := by rw [hk11, h_cn _ _ (by simp), f10_20_3_0]
  have f11_20_4_0 : k11 (20, 4, 0) = some (.inl (G.2 2, 10, .inl (fun _ => 0))) := by rw [hk11, h_cn _ _ (by simp), f10_20_4_0]
  have f11_20_5_0 : k11 (20, 5, 0) = some (.inl (G.2 0, 10, .inl (fun _ => 0))) := by rw [hk11, h_cn _ _ (by simp), f10_20_5_0]
  have f11_20_6_0 : k11 (20, 6, 0) = some (.inl (G.2 0, 10, .inl (fun _ => 0))) := by rw [hk11, h_cn _ _ (by simp), f10_20_6_0]
  have f11_20_8_0 : k11 (20, 8, 0) = some (.inl (G.2 3, 16, .inl (fun _ => 0))) := by rw [hk11, h_cn _ _ (by simp), f10_20_8_0]
  have f11_20_10_0 : k11 (20, 10, 0) = some (.inl (G.2 0, 40, .inl (fun _ => 0))) := by rw [hk11]; exact h_cs _ _ _
  refine pf_X4_27 X hw Y.2.2 f11_20_0_0 rfl rfl (Nat.le_of_ble_eq_true rfl) dX4_init_49 (fun H locs hw => ?_)
  obtain ⟨k12, hk12⟩ : ∃ zz, zz = h_cu k11 (20, 0, 0) (some (.inr (4, [.int 0, .int 0, .int 0, .ref (ad11 (20, 3, 0)), .ref (ad11 (20, 4, 0)), .ref (ad11 (20, 5, 0)), .ref (ad11 (20, 6, 0)), .int 0, .ref (ad11 (20, 8, 0)), .int 0, .ref (ad11 (20, 10, 0)), .null, .null, .null, .int 0, .null, .null, .null, .null, .int 0]))) := ⟨_, rfl⟩
  replace hw := h_W.ren hw hk12
  have f12_20_0_0 : k12 (20, 0, 0) = some (.inr (4, [.int 0, .int 0, .int 0, .ref (ad11 (20, 3, 0)), .ref (ad11 (20, 4, 0)), .ref (ad11 (20, 5, 0)), .ref (ad11 (20, 6, 0)), .int 0, .ref (ad11 (20, 8, 0)), .int 0, .ref (ad11 (20, 10, 0)), .null, .null, .null, .int 0, .null, .null, .null, .null, .int 0])) := by rw [hk12]; exact h_cs _ _ _
  have f12_20_3_0 : k12 (20, 3, 0) = some (.inl (G.2 0, 10, .inl (fun _ => 0))) := by rw [hk12, h_cn _ _ (by simp)]; exact f11_20_3_0
  have f12_20_4_0 : k12 (20, 4, 0) = some (.inl (G.2 2, 10, .inl (fun _ => 0))) := by rw [hk12, h_cn _ _ (by simp)]; exact f11_20_4_0
  have f12_20_5_0 : k12 (20, 5, 0) = some (.inl (G.2 0, 10, .inl (fun _ => 0))) := by rw [hk12, h_cn _ _ (by simp)]; exact f11_20_5_0
  have f12_20_6_0 : k12 (20, 6, 0) = some (.inl (G.2 0, 10, .inl (fun _ => 0))) := by rw [hk12, h_cn _ _ (by simp)]; exact f11_20_6_0
  have f12_20_8_0 : k12 (20, 8, 0) = some (.inl (G.2 3, 16, .inl (fun _ => 0))) := by rw [hk12, h_cn _ _ (by simp)]; exact f11_20_8_0
  have f12_20_10_0 : k12 (20, 10, 0) = some (.inl (G.2 0, 40, .inl (fun _ => 0))) := by rw [hk12, h_cn _ _ (by simp)]; exact f11_20_10_0
  refine lv_aload_n X.1 X.2.1 dX4_init_52 rfl (lv_at hl 0 rfl) ?_
  refine lv_bipush (v := 40) X.1 X.2.1 dX4_init_53 (by decide) ?_
  refine h_newa X hw (20, 11, 0) (by rw [hk12, h_cn _ _ (by simp), hk11, h_cn _ _ (by simp), hk10, h_cn _ _ (by simp), hk9, h_cn _ _ (by simp), hk8, h_cn _ _ (by simp), hk7, h_cn _ _ (by simp), hk6, h_cn _ _ (by simp), hk5, h_cn _ _ (by simp), hk4, h_cn _ _ (by simp), hk3, h_cn _ _ (by simp), hk2, h_cn _ _ (by simp), hk1, h_cn _ _ (by simp)]; exact hno _ rfl (by simp)) (ty := .int) rfl wr_int 0 rfl (N' := 40) (a0 := (40, .inl (fun _ => 0))) (fun _ => rfl) (by decide) (by decide) (by decide) (Nat.le_of_ble_eq_true rfl) (Nat.le_of_ble_eq_true rfl) dX4_init_55 (fun q H hw => ?_)
  obtain ⟨k13, hk13⟩ : ∃ zz, zz = h_cu k12 (20, 11, 0) (some (.inl (G.2 0, 40, .inl (fun _ => 0)))) := ⟨_, rfl⟩
  obtain ⟨ad13, had13⟩ : ∃ zz, zz = h_au ad11 (20, 11, 0) q := ⟨_, rfl⟩
  replace hw := (hw.ren hk13).renA had13
  obtain rfl : q = ad13 (20, 11, 0) := by rw [had13, h_as]
  have ea13_0 : ad11 (20, 0, 0) = ad13 (20, 0, 0) := by rw [had13, h_an _ _ (by simp)]
  have ea13_1 : ad11 (20, 3, 0) = ad13 (20, 3, 0) := by rw [had13, h_an _ _ (by simp)]
  have ea13_2 : ad11 (20, 4, 0) = ad13 (20, 4, 0) := by rw [had13, h_an _ _ (by simp)]
  have ea13_3 : ad11 (20, 5, 0) = ad13 (20, 5, 0) := by rw [had13, h_an _ _ (by simp)]
  have ea13_4 : ad11 (20, 6, 0) = ad13 (20, 6, 0) := by rw [had13, h_an _ _ (by simp)]
  have ea13_5 : ad11 (20, 8, 0) = ad13 (20, 8, 0) := by rw [had13, h_an _ _ (by simp)]
  have ea13_6 : ad11 (20, 10, 0) = ad13 (20, 10, 0) := by rw [had13, h_an _ _ (by simp)]
  simp only [ea13_0, ea13_1, ea13_2, ea13_3, ea13_4, ea13_5, ea13_6] at hl
  simp only [ea13_0, ea13_1, ea13_2, ea13_3, ea13_4, ea13_5, ea13_6]
  have f13_20_0_0 : k13 (20, 0, 0) = some (.inr (4, [.int 0, .int 0, .int 0, .ref (ad13 (20, 3, 0)), .ref (ad13 (20, 4, 0)), .ref (ad13 (20, 5, 0)), .ref (ad13 (20, 6, 0)), .int 0, .ref (ad13 (20, 8, 0)), .int 0, .ref (ad13 (20, 10, 0)), .null, .null, .null, .int 0, .null, .null, .null, .null, .int 0])) := by rw [hk13, h_cn _ _ (by simp), f12_20_0_0]; simp only [ea13_0, ea13_1, ea13_2, ea13_3, ea13_4, ea13_5, ea13_6]
  have f13_20_3_0 : k13 (20, 3, 0) = some (.inl (G.2 0, 10, .inl (fun _ => 0))) := by rw [hk13, h_cn _ _ (by simp), f12_20_3_0]
  have f13_20_4_0 : k13 (20, 4, 0) = some (.inl (G.2 2, 10, .inl (fun _ => 0))) := by rw [hk13, h_cn _ _ (by simp), f12_20_4_0]
  have f13_20_5_0 : k13 (20, 5, 0) = some (.inl (G.2 0, 10, .inl (fun _ => 0))) := by rw [hk13, h_cn _ _ (by simp), f12_20_5_0]
  have f13_20_6_0 : k13 (20, 6, 0) = some (.inl (G.2 0, 10, .inl (fun _ => 0))) := by rw [hk13, h_cn _ _ (by simp), f12_20_6_0]
  have f13_20_8_0 : k13 (20, 8, 0) = some (.inl (G.2 3, 16, .inl (fun _ => 0))) := by rw [hk13, h_cn _ _ (by simp), f12_20_8_0]
  have f13_20_10_0 : k13 (20, 10, 0) = some (.inl (G.2 0, 40, .inl (fun _ => 0))) := by rw [hk13, h_cn _ _ (by simp), f12_20_10_0]
  have f13_20_11_0 : k13 (20, 11, 0) = some (.inl (G.2 0, 40, .inl (fun _ => 0))) := by rw [hk13]; exact h_cs _ _ _
  refine pf_X4_30 X hw Y.2.2 f13_20_0_0 rfl rfl (Nat.le_of_ble_eq_true rfl) dX4_init_57 (fun H locs hw => ?_)
  obtain ⟨k14, hk14⟩ : ∃ zz, zz = h_cu k13 (20, 0, 0) (some (.inr (4, [.int 0, .int 0, .int 0, .ref (ad13 (20, 3, 0)), .ref (ad13 (20, 4, 0)), .ref (ad13 (20, 5, 0)), .ref (ad13 (20, 6, 0)), .int 0, .ref (ad13 (20, 8, 0)), .int 0, .ref (ad13 (20, 10, 0)), .ref (ad13 (20, 11, 0)), .null, .null, .int 0, .null, .null, .null, .null, .int 0]))) := ⟨_, rfl⟩
  replace hw := h_W.ren hw hk14
  have f14_20_0_0 : k14 (20, 0, 0) = some (.inr (4, [.int 0, .int 0, .int 0, .ref (ad13 (20, 3, 0)), .ref (ad13 (20, 4, 0)), .ref (ad13 (20, 5, 0)), .ref (ad13 (20, 6, 0)), .int 0, .ref (ad13 (20, 8, 0)), .int 0, .ref (ad13 (20, 10, 0)), .ref (ad13 (20, 11, 0)), .null, .null, .int 0, .null, .null, .null, .null, .int 0])) := by rw [hk14]; exact h_cs _ _ _
  have f14_20_3_0 : k14 (20, 3, 0) = some (.inl (G.2 0, 10, .inl (fun _ => 0))) := by rw [hk14, h_cn _ _ (by simp)]; exact f13_20_3_0
  have f14_20_4_0 : k14 (20, 4, 0) = some (.inl (G.2 2, 10, .inl (fun _ => 0))) := by rw [hk14, h_cn _ _ (by simp)]; exact f13_20_4_0
  have f14_20_5_0 : k14 (20, 5, 0) = some (.inl (G.2 0, 10, .inl (fun _ => 0))) := by rw [hk14, h_cn _ _ (by simp)]; exact f13_20_5_0
  have f14_20_6_0 : k14 (20, 6, 0) = some (.inl (G.2 0, 10, .inl (fun _ => 0))) := by rw [hk14, h_cn _ _ (by simp)]; exact f13_20_6_0
  have f14_20_8_0 : k14 (20, 8, 0) = some (.inl (G.2 3, 16, .inl (fun _ => 0))) := by rw [hk14, h_cn _ _ (by simp)]; exact f13_20_8_0
  have f14_20_10_0 : k14 (20, 10, 0) = some (.inl (G.2 0, 40, .inl (fun _ => 0))) := by rw [hk14, h_cn _ _ (by simp)]; exact f13_20_10_0
  have f14_20_11_0 : k14 (20, 11, 0) = some (.inl (G.2 0, 40, .inl (fun _ => 0))) := by rw [hk14, h_cn _ _ (by simp)]; exact f13_20_11_0
  refine lv_aload_n X.1 X.2.1 dX4_init_60 rfl (lv_at hl 0 rfl) ?_
  refine lv_sipush (v := 400) X.1 X.2.1 dX4_init_61 (by decide) ?_
  refine h_newa X hw (20, 12, 0) (by rw [hk14, h_cn _ _ (by simp), hk13, h_cn _ _ (by simp), hk12, h_cn _ _ (by simp), hk11, h_cn _ _ (by simp), hk10, h_cn _ _ (by simp), hk9, h_cn _ _ (by simp), hk8, h_cn _ _ (by simp), hk7, h_cn _ _ (by simp), hk6, h_cn _ _ (by simp), hk5, h_cn _ _ (by simp), hk4, h_cn _ _ (by simp), hk3, h_cn _ _ (by simp), hk2, h_cn _ _ (by simp), hk1, h_cn _ _ (by simp)]; exact hno _ rfl (by simp)) (ty := .int) rfl wr_int 0 rfl (N' := 400) (a0 := (400, .inl (fun _ => 0))) (fun _ => rfl) (by decide) (by decide) (by decide) (Nat.le_of_ble_eq_true rfl) (Nat.le_of_ble_eq_true rfl) dX4_init_64 (fun q H hw => ?_)
  obtain ⟨k15, hk15⟩ : ∃ zz, zz = h_cu k14 (20, 12, 0) (some (.inl (G.2 0, 400, .inl (fun _ => 0)))) := ⟨_, rfl⟩
  obtain ⟨ad15, had15⟩ : ∃ zz, zz = h_au ad13 (20, 12, 0) q := ⟨_, rfl⟩
  replace hw := (hw.ren hk15).renA had15
  obtain rfl : q = ad15 (20, 12, 0) := by rw [had15, h_as]
  have ea15_0 : ad13 (20, 0, 0) = ad15 (20, 0, 0) := by rw [had15, h_an _ _ (by simp)]
  have ea15_1 : ad13 (20, 3, 0) = ad15 (20, 3, 0) := by rw [had15, h_an _ _ (by simp)]
  have ea15_2 : ad13 (20, 4, 0) = ad15 (20, 4, 0) := by rw [had15, h_an _ _ (by simp)]
  have ea15_3 : ad13 (20, 5, 0) = ad15 (20, 5, 0) := by rw [had15, h_an _ _ (by simp)]
  have ea15_4 : ad13 (20, 6, 0) = ad15 (20, 6, 0) := by rw [had15, h_an _ _ (by simp)]
  have ea15_5 : ad13 (20, 8, 0) = ad15 (20, 8, 0) := by rw [had15, h_an _ _ (by simp)]
  have ea15_6 : ad13 (20, 10, 0) = ad15 (20, 10, 0) := by rw [had15, h_an _ _ (by simp)]
  have ea15_7 : ad13 (20, 11, 0) = ad15 (20, 11, 0) := by rw [had15, h_an _ _ (by simp)]
  simp only [ea15_0, ea15_1, ea15_2, ea15_3, ea15_4, ea15_5, ea15_6, ea15_7] at hl
  simp only [ea15_0, ea15_1, ea15_2, ea15_3, ea15_4, ea15_5, ea15_6, ea15_7]
  have f15_20_0_0 : k15 (20, 0, 0) = some (.inr (4, [.int 0, .int 0, .int 0, .ref (ad15 (20, 3, 0)), .ref (ad15 (20, 4, 0)), .ref (ad15 (20, 5, 0)), .ref (ad15 (20, 6, 0)), .int 0, .ref (ad15 (20, 8, 0)), .int 0, .ref (ad15 (20, 10, 0)), .ref (ad15 (20, 11, 0)), .null, .null, .int 0, .null, .null, .null, .null, .int 0])) := by rw [hk15, h_cn _ _ (by simp), f14_20_0_0]; simp only [ea15_0, ea15_1, ea15_2, ea15_3, ea15_4, ea15_5, ea15_6, ea15_7]
  have f15_20_3_0 : k15 (20, 3, 0) = some (.inl (G.2 0, 10, .inl (fun _ => 0))) := by rw [hk15, h_cn _ _ (by simp), f14_20_3_0]
  have f15_20_4_0 : k15 (20, 4, 0) = some (.inl (G.2 2, 10, .inl (fun _ => 0))) := by rw [hk15, h_cn _ _ (by simp), f14_20_4_0]
  have f15_20_5_0 : k15 (20, 5, 0) = some (.inl (G.2 0, 10, .inl (fun _ => 0))) := by rw [hk15, h_cn _ _ (by simp), f14_20_5_0]
  have f15_20_6_0 : k15 (20, 6, 0) = some (.inl (G.2 0, 10, .inl (fun _ => 0))) := by rw [hk15, h_cn _ _ (by simp), f14_20_6_0]
  have f15_20_8_0 : k15 (20, 8, 0) = some (.inl (G.2 3, 16, .inl (fun _ => 0))) := by rw [hk15, h_cn _ _ (by simp), f14_20_8_0]
  have f15_20_10_0 : k15 (20, 10, 0) = some (.inl (G.2 0, 40, .inl (fun _ => 0))) := by rw [hk15, h_cn _ _ (by simp), f14_20_10_0]
  have f15_20_11_0 : k15 (20, 11, 0) = some (.inl (G.2 0, 40, .inl (fun _ => 0))) := by rw [hk15, h_cn _ _ (by simp), f14_20_11_0]
  have f15_20_12_0 : k15 (20, 12, 0) = some (.inl (G.2 0, 400, .inl (fun _ => 0))) := by rw [hk15]; exact h_cs _ _ _
  refine pf_X4_33 X hw Y.2.2 f15_20_0_0 rfl rfl (Nat.le_of_ble_eq_true rfl) dX4_init_66 (fun H locs hw => ?_)
  obtain ⟨k16, hk16⟩ : ∃ zz, zz = h_cu k15 (20, 0, 0) (some (.inr (4, [.int 0, .int 0, .int 0, .ref (ad15 (20, 3, 0)), .ref (ad15 (20, 4, 0)), .ref (ad15 (20, 5, 0)), .ref (ad15 (20, 6, 0)), .int 0, .ref (ad15 (20, 8, 0)), .int 0, .ref (ad15 (20, 10, 0)), .ref (ad15 (20, 11, 0)), .ref (ad15 (20, 12, 0)), .null, .int 0, .null, .null, .null, .null, .int 0]))) := ⟨_, rfl⟩
  replace hw := h_W.ren hw hk16
  have f16_20_0_0 : k16 (20, 0, 0) = some (.inr (4, [.int 0, .int 0, .int 0, .ref (ad15 (20, 3, 0)), .ref (ad15 (20, 4, 0)), .ref (ad15 (20, 5, 0)), .ref (ad15 (20, 6, 0)), .int 0, .ref (ad15 (20, 8, 0)), .int 0, .ref (ad15 (20, 10, 0)), .ref (ad15 (20, 11, 0)), .ref (ad15 (20, 12, 0)), .null, .int 0, .null, .null, .null, .null, .int 0])) := by rw [hk16]; exact h_cs _ _ _
  have f16_20_3_0 : k16 (20, 3, 0) = some (.inl (G.2 0, 10, .inl (fun _ => 0))) := by rw [hk16, h_cn _ _ (by simp)]; exact f15_20_3_0
  have f16_20_4_0 : k16 (20, 4, 0) = some (.inl (G.2 2, 10, .inl (fun _ => 0))) := by rw [hk16, h_cn _ _ (by simp)]; exact f15_20_4_0
  have f16_20_5_0 : k16 (20, 5, 0) = some (.inl (G.2 0, 10, .inl (fun _ => 0))) := by rw [hk16, h_cn _ _ (by simp)]; exact f15_20_5_0
  have f16_20_6_0 : k16 (20, 6, 0) = some (.inl (G.2 0, 10, .inl (fun _ => 0))) := by rw [hk16, h_cn _ _ (by simp)]; exact f15_20_6_0
  have f16_20_8_0 : k16 (20, 8, 0) = some (.inl (G.2 3, 16, .inl (fun _ => 0))) := by rw [hk16, h_cn _ _ (by simp)]; exact f15_20_8_0
  have f16_20_10_0 : k16 (20, 10, 0) = some (.inl (G.2 0, 40, .inl (fun _ => 0))) := by rw [hk16, h_cn _ _ (by simp)]; exact f15_20_10_0
  have f16_20_11_0 : k16 (20, 11, 0) = some (.inl (G.2 0, 40, .inl (fun _ => 0))) := by rw [hk16, h_cn _ _ (by simp)]; exact f15_20_11_0
  have f16_20_12_0 : k16 (20, 12, 0) = some (.inl (G.2 0, 400, .inl (fun _ => 0))) := by rw [hk16, h_cn _ _ (by simp)]; exact f15_20_12_0
  refine lv_aload_n X.1 X.2.1 dX4_init_69 rfl (lv_at hl 0 rfl) ?_
  refine lv_sipush (v := 6400) X.1 X.2.1 dX4_init_70 (by decide) ?_
  refine h_newa X hw (20, 13, 0) (by rw [hk16, h_cn _ _ (by simp), hk15, h_cn _ _ (by simp), hk14, h_cn _ _ (by simp), hk13, h_cn _ _ (by simp), hk12, h_cn _ _ (by simp), hk11, h_cn _ _ (by simp), hk10, h_cn _ _ (by simp), hk9, h_cn _ _ (by simp), hk8, h_cn _ _ (by simp), hk7, h_cn _ _ (by simp), hk6, h_cn _ _ (by simp), hk5, h_cn _ _ (by simp), hk4, h_cn _ _ (by simp), hk3, h_cn _ _ (by simp), hk2, h_cn _ _ (by simp), hk1, h_cn _ _ (by simp)]; exact hno _ rfl (by simp)) (ty := .byte) rfl wr_byte 3 rfl (N' := 6400) (a0 := (6400, .inl (fun _ => 0))) (fun _ => rfl) (by decide) (by decide) (by decide) (Nat.le_of_ble_eq_true rfl) (Nat.le_of_ble_eq_true rfl) dX4_init_73 (fun q H hw => ?_)
  obtain ⟨k17, hk17⟩ : ∃ zz, zz = h_cu k16 (20, 13, 0) (some (.inl (G.2 3, 6400, .inl (fun _ => 0)))) := ⟨_, rfl⟩
  obtain ⟨ad17, had17⟩ : ∃ zz, zz = h_au ad15 (20, 13, 0) q := ⟨_, rfl⟩
  replace hw := (hw.ren hk17).renA had17
  obtain rfl : q = ad17 (20, 13, 0) := by rw [had17, h_as]
  have ea17_0 : ad15 (20, 0, 0) = ad17 (20, 0, 0) := by rw [had17, h_an _ _ (by simp)]
  have ea17_1 : ad15 (20, 3, 0) = ad17 (20, 3, 0) := by rw [had17, h_an _ _ (by simp)]
  have ea17_2 : ad15 (20, 4, 0) = ad17 (20, 4, 0) := by rw [had17, h_an _ _ (by simp)]
  have ea17_3 : ad15 (20, 5, 0) = ad17 (20, 5, 0) := by rw [had17, h_an _ _ (by simp)]
  have ea17_4 : ad15 (20, 6, 0) = ad17 (20, 6, 0) := by rw [had17, h_an _ _ (by simp)]
  have ea17_5 : ad15 (20, 8, 0) = ad17 (20, 8, 0) := by rw [had17, h_an _ _ (by simp)]
  have ea17_6 : ad15 (20, 10, 0) = ad17 (20, 10, 0) := by rw [had17, h_an _ _ (by simp)]
  have ea17_7 : ad15 (20, 11, 0) = ad17 (20, 11, 0) := by rw [had17, h_an _ _ (by simp)]
  have ea17_8 : ad15 (20, 12, 0) = ad17 (20, 12, 0) := by rw [had17, h_an _ _ (by simp)]
  simp only [ea17_0, ea17_1, ea17_2, ea17_3, ea17_4, ea17_5, ea17_6, ea17_7, ea17_8] at hl
  simp only [ea17_0, ea17_1, ea17_2, ea17_3, ea17_4, ea17_5, ea17_6, ea17_7, ea17_8]
  have f17_20_0_0 : k17 (20, 0, 0) = some (.inr (4, [.int 0, .int 0, .int 0, .ref (ad17 (20, 3, 0)), .ref (ad17 (20, 4, 0)), .ref (ad17 (20, 5, 0)), .ref (ad17 (20, 6, 0)), .int 0, .ref (ad17 (20, 8, 0)), .int 0, .ref (ad17 (20, 10, 0)), .ref (ad17 (20, 11, 0)), .ref (ad17 (20, 12, 0)), .null, .int 0, .null, .null, .null, .null, .int 0])) := by rw [hk17, h_cn _ _ (by simp), f16_20_0_0]; simp only [ea17_0, ea17_1, ea17_2, ea17_3, ea17_4, ea17_5, ea17_6, ea17_7, ea17_8]
  have f17_20_3_0 : k17 (20, 3, 0) = some (.inl (G.2 0, 10, .inl (fun _ => 0))) := by rw [hk17, h_cn _ _ (by simp), f16_20_3_0]
  have f17_20_4_0 : k17 (20, 4, 0) = some (.inl (G.2 2, 10, .inl (fun _ => 0))) := by rw [hk17, h_cn _ _ (by simp), f16_20_4_0]
  have f17_20_5_0 : k17 (20, 5, 0) = some (.inl (G.2 0, 10, .inl (fun _ => 0))) := by rw [hk17, h_cn _ _ (by simp), f16_20_5_0]
  have f17_20_6_0 : k17 (20, 6, 0) = some (.inl (G.2 0, 10, .inl (fun _ => 0))) := by rw [hk17, h_cn _ _ (by simp), f16_20_6_0]
  have f17_20_8_0 : k17 (20, 8, 0) = some (.inl (G.2 3, 16, .inl (fun _ => 0))) := by rw [hk17, h_cn _ _ (by simp), f16_20_8_0]
  have f17_20_10_0 : k17 (20, 10, 0) = some (.inl (G.2 0, 40, .inl (fun _ => 0))) := by rw [hk17, h_cn _ _ (by simp), f16_20_10_0]
  have f17_20_11_0 : k17 (20, 11, 0) = some (.inl (G.2 0, 40, .inl (fun _ => 0))) := by rw [hk17, h_cn _ _ (by simp), f16_20_11_0]
  have f17_20_12_0 : k17 (20, 12, 0) = some (.inl (G.2 0, 400, .inl (fun _ => 0))) := by rw [hk17, h_cn _ _ (by simp), f16_20_12_0]
  have f17_20_13_0 : k17 (20, 13, 0) = some (.inl (G.2 3, 6400, .inl (fun _ => 0))) := by rw [hk17]; exact h_cs _ _ _
  refine pf_X4_36 X hw Y.2.2 f17_20_0_0 rfl rfl (Nat.le_of_ble_eq_true rfl) dX4_init_75 (fun H locs hw => ?_)
  obtain ⟨k18, hk18⟩ : ∃ zz, zz = h_cu k17 (20, 0, 0) (some (.inr (4, [.int 0, .int 0, .int 0, .ref (ad17 (20, 3, 0)), .ref (ad17 (20, 4, 0)), .ref (ad17 (20, 5, 0)), .ref (ad17 (20, 6, 0)), .int 0, .ref (ad17 (20, 8, 0)), .int 0, .ref (ad17 (20, 10, 0)), .ref (ad17 (20, 11, 0)), .ref (ad17 (20, 12, 0)), .ref (ad17 (20, 13, 0)), .int 0, .null, .null, .null, .null, .int 0]))) := ⟨_, rfl⟩
  replace hw := h_W.ren hw hk18
  have f18_20_0_0 : k18 (20, 0, 0) = some (.inr (4, [.int 0, .int 0, .int 0, .ref (ad17 (20, 3, 0)), .ref (ad17 (20, 4, 0)), .ref (ad17 (20, 5, 0)), .ref (ad17 (20, 6, 0)), .int 0, .ref (ad17 (20, 8, 0)), .int 0, .ref (ad17 (20, 10, 0)), .ref (ad17 (20, 11, 0)), .ref (ad17 (20, 12, 0)), .ref (ad17 (20, 13, 0)), .int 0, .null, .null, .null, .null, .int 0])) := by rw [hk18]; exact h_cs _ _ _
  have f18_20_3_0 : k18 (20, 3, 0) = some (.inl (G.2 0, 10, .inl (fun _ => 0))) := by rw [hk18, h_cn _ _ (by simp)]; exact f17_20_3_0
  have f18_20_4_0 : k18 (20, 4, 0) = some (.inl (G.2 2, 10, .inl (fun _ => 0))) := by rw [hk18, h_cn _ _ (by simp)]; exact f17_20_4_0
  have f18_20_5_0 : k18 (20, 5, 0) = some (.inl (G.2 0, 10, .inl (fun _ => 0))) := by rw [hk18, h_cn _ _ (by simp)]; exact f17_20_5_0
  have f18_20_6_0 : k18 (20, 6, 0) = some (.inl (G.2 0, 10, .inl (fun _ => 0))) := by rw [hk18, h_cn _ _ (by simp)]; exact f17_20_6_0
  have f18_20_8_0 : k18 (20, 8, 0) = some (.inl (G.2 3, 16, .inl (fun _ => 0))) := by rw [hk18, h_cn _ _ (by simp)]; exact f17_20_8_0
  have f18_20_10_0 : k18 (20, 10, 0) = some (.inl (G.2 0, 40, .inl (fun _ => 0))) := by rw [hk18, h_cn _ _ (by simp)]; exact f17_20_10_0
  have f18_20_11_0 : k18 (20, 11, 0) = some (.inl (G.2 0, 40, .inl (fun _ => 0))) := by rw [hk18, h_cn _ _ (by simp)]; exact f17_20_11_0
  have f18_20_12_0 : k18 (20, 12, 0) = some (.inl (G.2 0, 400, .inl (fun _ => 0))) := by rw [hk18, h_cn _ _ (by simp)]; exact f17_20_12_0
  have f18_20_13_0 : k18 (20, 13, 0) = some (.inl (G.2 3, 6400, .inl (fun _ => 0))) := by rw [hk18, h_cn _ _ (by simp)]; exact f17_20_13_0
  refine lv_aload_n X.1 X.2.1 dX4_init_78 rfl (lv_at hl 0 rfl) ?_
  refine lv_bipush (v := 120) X.1 X.2.1 dX4_init_79 (by decide) ?_
  refine h_newa X hw (20, 15, 0) (by rw [hk18, h_cn _ _ (by simp), hk17, h_cn _ _ (by simp), hk16, h_cn _ _ (by simp), hk15, h_cn _ _ (by simp), hk14, h_cn _ _ (by simp), hk13, h_cn _ _ (by simp), hk12, h_cn _ _ (by simp), hk11, h_cn _ _ (by simp), hk10, h_cn _ _ (by simp), hk9, h_cn _ _ (by simp), hk8, h_cn _ _ (by simp), hk7, h_cn _ _ (by simp), hk6, h_cn _ _ (by simp), hk5, h_cn _ _ (by simp), hk4, h_cn _ _ (by simp), hk3, h_cn _ _ (by simp), hk2, h_cn _ _ (by simp), hk1, h_cn _ _ (by simp)]; exact hno _ rfl (by simp)) (ty := .int) rfl wr_int 0 rfl (N' := 120) (a0 := (120, .inl (fun _ => 0))) (fun _ => rfl) (by decide) (by decide) (by decide) (Nat.le_of_ble_eq_true rfl) (Nat.le_of_ble_eq_true rfl) dX4_init_81 (fun q H hw => ?_)
  obtain ⟨k19, hk19⟩ : ∃ zz, zz = h_cu k18 (20, 15, 0) (some (.inl (G.2 0, 120, .inl (fun _ => 0)))) := ⟨_, rfl⟩
  obtain ⟨ad19, had19⟩ : ∃ zz, zz = h_au ad17 (20, 15, 0) q := ⟨_, rfl⟩
  replace hw := (hw.ren hk19).renA had19
  obtain rfl : q = ad19 (20, 15, 0) := by rw [had19, h_as]
  have ea19_0 : ad17 (20, 0, 0) = ad19 (20, 0, 0) := by rw [had19, h_an _ _ (by simp)]
  have ea19_1 : ad17 (20, 3, 0) = ad19 (20, 3, 0) := by rw [had19, h_an _ _ (by simp)]
  have ea19_2 : ad17 (20, 4, 0) = ad19 (20, 4, 0) := by rw [had19, h_an _ _ (by simp)]
  have ea19_3 : ad17 (20, 5, 0) = ad19 (20, 5, 0) := by rw [had19, h_an _ _ (by simp)]
  have ea19_4 : ad17 (20, 6, 0) = ad19 (20, 6, 0) := by rw [had19, h_an _ _ (by simp)]
  have ea19_5 : ad17 (20, 8, 0) = ad19 (20, 8, 0) := by rw [had19, h_an _ _ (by simp)]
  have ea19_6 : ad17 (20, 10, 0) = ad19 (20, 10, 0) := by rw [had19, h_an _ _ (by simp)]
  have ea19_7 : ad17 (20, 11, 0) = ad19 (20, 11, 0) := by rw [had19, h_an _ _ (by simp)]
  have ea19_8 : ad17 (20, 12, 0) = ad19 (20, 12, 0) := by rw [had19, h_an _ _ (by simp)]
  have ea19_9 : ad17 (20, 13, 0) = ad19 (20, 13, 0) := by rw [had19, h_an _ _ (by simp)]
  simp only [ea19_0, ea19_1, ea19_2, ea19_3, ea19_4, ea19_5, ea19_6, ea19_7, ea19_8, ea19_9] at hl
  simp only [ea19_0, ea19_1, ea19_2, ea19_3, ea19_4, ea19_5, ea19_6, ea19_7, ea19_8, ea19_9]
  have f19_20_0_0 : k19 (20, 0, 0) = some (.inr (4, [.int 0, .int 0, .int 0, .ref (ad19 (20, 3, 0)), .ref (ad19 (20, 4, 0)), .ref (ad19 (20, 5, 0)), .ref (ad19 (20, 6, 0)), .int 0, .ref (ad19 (20, 8, 0)), .int 0, .ref (ad19 (20, 10, 0)), .ref (ad19 (20, 11, 0)), .ref (ad19 (20, 12, 0)), .ref (ad19 (20, 13, 0)), .int 0, .null, .null, .null, .null, .int 0])) := by rw [hk19, h_cn _ _ (by simp), f18_20_0_0]; simp only [ea19_0, ea19_1, ea19_2, ea19_3, ea19_4, ea19_5, ea19_6, ea19_7, ea19_8, ea19_9]
  have f19_20_3_0 : k19 (20, 3, 0) = some (.inl (G.2 0, 10, .inl (fun _ => 0))) := by rw [hk19, h_cn _ _ (by simp), f18_20_3_0]
  have f19_20_4_0 : k19 (20, 4, 0) = some (.inl (G.2 2, 10, .inl (fun _ => 0))) := by rw [hk19, h_cn _ _ (by simp), f18_20_4_0]
  have f19_20_5_0 : k19 (20, 5, 0) = some (.inl (G.2 0, 10, .inl (fun _ => 0))) := by rw [hk19, h_cn _ _ (by simp), f18_20_5_0]
  have f19_20_6_0 : k19 (20, 6, 0) = some (.inl (G.2 0, 10, .inl (fun _ => 0))) := by rw [hk19, h_cn _ _ (by simp), f18_20_6_0]
  have f19_20_8_0 : k19 (20, 8, 0) = some (.inl (G.2 3, 16, .inl (fun _ => 0))) := by rw [hk19, h_cn _ _ (by simp), f18_20_8_0]
  have f19_20_10_0 : k19 (20, 10, 0) = some (.inl (G.2 0, 40, .inl (fun _ => 0))) := by rw [hk19, h_cn _ _ (by simp), f18_20_10_0]
  have f19_20_11_0 : k19 (20, 11, 0) = some (.inl (G.2 0, 40, .inl (fun _ => 0))) := by rw [hk19, h_cn _ _ (by simp), f18_20_11_0]
  have f19_20_12_0 : k19 (20, 12, 0) = some (.inl (G.2 0, 400, .inl (fun _ => 0))) := by rw [hk19, h_cn _ _ (by simp), f18_20_12_0]
  have f19_20_13_0 : k19 (20, 13, 0) = some (.inl (G.2 3, 6400, .inl (fun _ => 0))) := by rw [hk19, h_cn _ _ (by simp), f18_20_13_0]
  have f19_20_15_0 : k19 (20, 15, 0) = some (.inl (G.2 0, 120, .inl (fun _ => 0))) := by rw [hk19]; exact h_cs _ _ _
  refine pf_X4_39 X hw Y.2.2 f19_20_0_0 rfl rfl (Nat.le_of_ble_eq_true rfl) dX4_init_83 (fun H locs hw => ?_)
  obtain ⟨k20, hk20⟩ : ∃ zz, zz = h_cu k19 (20, 0, 0) (some (.inr (4, [.int 0, .int 0, .int 0, .ref (ad19 (20, 3, 0)), .ref (ad19 (20, 4, 0)), .ref (ad19 (20, 5, 0)), .ref (ad19 (20, 6, 0)), .int 0, .ref (ad19 (20, 8, 0)), .int 0, .ref (ad19 (20, 10, 0)), .ref (ad19 (20, 11, 0)), .ref (ad19 (20, 12, 0)), .ref (ad19 (20, 13, 0)), .int 0, .ref (ad19 (20, 15, 0)), .null, .null, .null, .int 0]))) := ⟨_, rfl⟩
  replace hw := h_W.ren hw hk20
  have f20_20_0_0 : k20 (20, 0, 0) = some (.inr (4, [.int 0, .int 0, .int 0, .ref (ad19 (20, 3, 0)), .ref (ad19 (20, 4, 0)), .ref (ad19 (20, 5, 0)), .ref (ad19 (20, 6, 0)), .int 0, .ref (ad19 (20, 8, 0)), .int 0, .ref (ad19 (20, 10, 0)), .ref (ad19 (20, 11, 0)), .ref (ad19 (20, 12, 0)), .ref (ad19 (20, 13, 0)), .int 0, .ref (ad19 (20, 15, 0)), .null, .null, .null, .int 0])) := by rw [hk20]; exact h_cs _ _ _
  have f20_20_3_0 : k20 (20, 3, 0) = some (.inl (G.2 0, 10, .inl (fun _ => 0))) := by rw [hk20, h_cn _ _ (by simp)]; exact f19_20_3_0
  have f20_20_4_0 : k20 (20, 4, 0) = some (.inl (G.2 2, 10, .inl (fun _ => 0))) := by rw [hk20, h_cn _ _ (by simp)]; exact f19_20_4_0
  have f20_20_5_0 : k20 (20, 5, 0) = some (.inl (G.2 0, 10, .inl (fun _ => 0))) := by rw [hk20, h_cn _ _ (by simp)]; exact f19_20_5_0
  have f20_20_6_0 : k20 (20, 6, 0) = some (.inl (G.2 0, 10, .inl (fun _ => 0))) := by rw [hk20, h_cn _ _ (by simp)]; exact f19_20_6_0
  have f20_20_8_0 : k20 (20, 8, 0) = some (.inl (G.2 3, 16, .inl (fun _ => 0))) := by rw [hk20, h_cn _ _ (by simp)]; exact f19_20_8_0
  have f20_20_10_0 : k20 (20, 10, 0) = some (.inl (G.2 0, 40, .inl (fun _ => 0))) := by rw [hk20, h_cn _ _ (by simp)]; exact f19_20_10_0
  have f20_20_11_0 : k20 (20, 11, 0) = some (.inl (G.2 0, 40, .inl (fun _ => 0))) := by rw [hk20, h_cn _ _ (by simp)]; exact f19_20_11_0
  have f20_20_12_0 : k20 (20, 12, 0) = some (.inl (G.2 0, 400, .inl (fun _ => 0))) := by rw [hk20, h_cn _ _ (by simp)]; exact f19_20_12_0
  have f20_20_13_0 : k20 (20, 13, 0) = some (.inl (G.2 3, 6400, .inl (fun _ => 0))) := by rw [hk20, h_cn _ _ (by simp)]; exact f19_20_13_0
  have f20_20_15_0 : k20 (20, 15, 0) = some (.inl (G.2 0, 120, .inl (fun _ => 0))) := by rw [hk20, h_cn _ _ (by simp)]; exact f19_20_15_0
  refine lv_aload_n X.1 X.2.1 dX4_init_86 rfl (lv_at hl 0 rfl) ?_
  refine lv_bipush (v := 120) X.1 X.2.1 dX4_init_87 (by decide) ?_
  refine h_newa X hw (20, 16, 0) (by rw [hk20, h_cn _ _ (by simp), hk19, h_cn _ _ (by simp), hk18, h_cn _ _ (by simp), hk17, h_cn _ _ (by simp), hk16, h_cn _ _ (by simp), hk15, h_cn _ _ (by simp), hk14, h_cn _ _ (by simp), hk13, h_cn _ _ (by simp), hk12, h_cn _ _ (by simp), hk11, h_cn _ _ (by simp), hk10, h_cn _ _ (by simp), hk9, h_cn _ _ (by simp), hk8, h_cn _ _ (by simp), hk7, h_cn _ _ (by simp), hk6, h_cn _ _ (by simp), hk5, h_cn _ _ (by simp), hk4, h_cn _ _ (by simp), hk3, h_cn _ _ (by simp), hk2, h_cn _ _ (by simp), hk1, h_cn _ _ (by simp)]; exact hno _ rfl (by simp)) (ty := .int) rfl wr_int 0 rfl (N' := 120) (a0 := (120, .inl (fun _ => 0))) (fun _ => rfl) (by decide) (by decide) (by decide) (Nat.le_of_ble_eq_true rfl) (Nat.le_of_ble_eq_true rfl) dX4_init_89 (fun q H hw => ?_)
  obtain ⟨k21, hk21⟩ : ∃ zz, zz = h_cu k20 (20, 16, 0) (some (.inl (G.2 0, 120, .inl (fun _ => 0)))) := ⟨_, rfl⟩
  obtain ⟨ad21, had21⟩ : ∃ zz, zz = h_au ad19 (20, 16, 0) q := ⟨_, rfl⟩
  replace hw := (hw.ren hk21).renA had21
  obtain rfl : q = ad21 (20, 16, 0) := by rw [had21, h_as]
  have ea21_0 : ad19 (20, 0, 0) = ad21 (20, 0, 0) := by rw [had21, h_an _ _ (by simp)]
  have ea21_1 : ad19 (20, 3, 0) = ad21 (20, 3, 0) := by rw [had21, h_an _ _ (by simp)]
  have ea21_2 : ad19 (20, 4, 0) = ad21 (20, 4, 0) := by rw [had21, h_an _ _ (by simp)]
  have ea21_3 : ad19 (20, 5, 0) = ad21 (20, 5, 0) := by rw [had21, h_an _ _ (by simp)]
  have ea21_4 : ad19 (20, 6, 0) = ad21 (20, 6, 0) := by rw [had21, h_an _ _ (by simp)]
  have ea21_5 : ad19 (20, 8, 0) = ad21 (20, 8, 0) := by rw [had21, h_an _ _ (by simp)]
  have ea21_6 : ad19 (20, 10, 0) = ad21 (20, 10, 0) := by rw [had21, h_an _ _ (by simp)]
  have ea21_7 : ad19 (20, 11, 0) = ad21 (20, 11, 0) := by rw [had21, h_an _ _ (by simp)]
  have ea21_8 : ad19 (20, 12, 0) = ad21 (20, 12, 0) := by rw [had21, h_an _ _ (by simp)]
  have ea21_9 : ad19 (20, 13, 0) = ad21 (20, 13, 0) := by rw [had21, h_an _ _ (by simp)]
  have ea21_10 : ad19 (20, 15, 0) = ad21 (20, 15, 0) := by rw [had21, h_an _ _ (by simp)]
  simp only [ea21_0, ea21_1, ea21_2, ea21_3, ea21_4, ea21_5, ea21_6, ea21_7, ea21_8, ea21_9, ea21_10] at hl
  simp only [ea21_0, ea21_1, ea21_2, ea21_3, ea21_4, ea21_5, ea21_6, ea21_7, ea21_8, ea21_9, ea21_10]
  have f21_20_0_0 : k21 (20, 0, 0) = some (.inr (4, [.int 0, .int 0, .int 0, .ref (ad21 (20, 3, 0)), .ref (ad21 (20, 4, 0)), .ref (ad21 (20, 5, 0)), .ref (ad21 (20, 6, 0)), .int 0, .ref (ad21 (20, 8, 0)), .int 0, .ref (ad21 (20, 10, 0)), .ref (ad21 (20, 11, 0)), .ref (ad21 (20, 12, 0)), .ref (ad21 (20, 13, 0)), .int 0, .ref (ad21 (20, 15, 0)), .null, .null, .null, .int 0])) := by rw [hk21, h_cn _ _ (by simp), f20_20_0_0]; simp only [ea21_0, ea21_1, ea21_2, ea21_3, ea21_4, ea21_5, ea21_6, ea21_7, ea21_8, ea21_9, ea21_10]
  have f21_20_3_0 : k21 (20, 3, 0) = some (.inl (G.2 0, 10, .inl (fun _ => 0))) := by rw [hk21, h_cn _ _ (by simp), f20_20_3_0]
  have f21_20_4_0 : k21 (20, 4, 0) = some (.inl (G.2 2, 10, .inl (fun _ => 0))) := by rw [hk21, h_cn _ _ (by simp), f20_20_4_0]
  have f21_20_5_0 : k21 (20, 5, 0) = some (.inl (G.2 0, 10, .inl (fun _ => 0))) := by rw [hk21, h_cn _ _ (by simp), f20_20_5_0]
  have f21_20_6_0 : k21 (20, 6, 0) = some (.inl (G.2 0, 10, .inl (fun _ => 0))) := by rw [hk21, h_cn _ _ (by simp), f20_20_6_0]
  have f21_20_8_0 : k21 (20, 8, 0) = some (.inl (G.2 3, 16, .inl (fun _ => 0))) := by rw [hk21, h_cn _ _ (by simp), f20_20_8_0]
  have f21_20_10_0 : k21 (20, 10, 0) = some (.inl (G.2 0, 40, .inl (fun _ => 0))) := by rw [hk21, h_cn _ _ (by simp), f20_20_10_0]
  have f21_20_11_0 : k21 (20, 11, 0) = some (.inl (G.2 0, 40, .inl (fun _ => 0))) := by rw [hk21, h_cn _ _ (by simp), f20_20_11_0]
  have f21_20_12_0 : k21 (20, 12, 0) = some (.inl (G.2 0, 400, .inl (fun _ => 0))) := by rw [hk21, h_cn _ _ (by simp), f20_20_12_0]
  have f21_20_13_0 : k21 (20, 13, 0) = some (.inl (G.2 3, 6400, .inl (fun _ => 0))) := by rw [hk21, h_cn _ _ (by simp), f20_20_13_0]
  have f21_20_15_0 : k21 (20, 15, 0) = some (.inl (G.2 0, 120, .inl (fun _ => 0))) := by rw [hk21, h_cn _ _ (by simp), f20_20_15_0]
  have f21_20_16_0 : k21 (20, 16, 0) = some (.inl (G.2 0, 120, .inl (fun _ => 0))) := by rw [hk21]; exact h_cs _ _ _
  refine pf_X4_42 X hw Y.2.2 f21_20_0_0 rfl rfl (Nat.le_of_ble_eq_true rfl) dX4_init_91 (fun H locs hw => ?_)
  obtain ⟨k22, hk22⟩ : ∃ zz, zz = h_cu k21 (20, 0, 0) (some (.inr (4, [.int 0, .int 0, .int 0, .ref (ad21 (20, 3, 0)), .ref (ad21 (20, 4, 0)), .ref (ad21 (20, 5, 0)), .ref (ad21 (20, 6, 0)), .int 0, .ref (ad21 (20, 8, 0)), .int 0, .ref (ad21 (20, 10, 0)), .ref (ad21 (20, 11, 0)), .ref (ad21 (20, 12, 0)), .ref (ad21 (20, 13, 0)), .int 0, .ref (ad21 (20, 15, 0)), .ref (ad21 (20, 16, 0)), .null, .null, .int 0]))) := ⟨_, rfl⟩
  replace hw := h_W.ren hw hk22
  have f22_20_0_0 : k22 (20, 0, 0) = some (.inr (4, [.int 0, .int 0, .int 0, .ref (ad21 (20, 3, 0)), .ref (ad21 (20, 4, 0)), .ref (ad21 (20, 5, 0)), .ref (ad21 (20, 6, 0)), .int 0, .ref (ad21 (20, 8, 0)), .int 0, .ref (ad21 (20, 10, 0)), .ref (ad21 (20, 11, 0)), .ref (ad21 (20, 12, 0)), .ref (ad21 (20, 13, 0)), .int 0, .ref (ad21 (20, 15, 0)), .ref (ad21 (20, 16, 0)), .null, .null, .int 0])) := by rw [hk22]; exact h_cs _ _ _
  have f22_20_3_0 : k22 (20, 3, 0) = some (.inl (G.2 0, 10, .inl (fun _ => 0))) := by rw [hk22, h_cn _ _ (by simp)]; exact f21_20_3_0
  have f22_20_4_0 : k22 (20, 4, 0) = some (.inl (G.2 2, 10, .inl (fun _ => 0))) := by rw [hk22, h_cn _ _ (by simp)]; exact f21_20_4_0
  have f22_20_5_0 : k22 (20, 5, 0) = some (.inl (G.2 0, 10, .inl (fun _ => 0))) := by rw [hk22, h_cn _ _ (by simp)]; exact f21_20_5_0
  have f22_20_6_0 : k22 (20, 6, 0) = some (.inl (G.2 0, 10, .inl (fun _ => 0))) := by rw [hk22, h_cn _ _ (by simp)]; exact f21_20_6_0
  have f22_20_8_0 : k22 (20, 8, 0) = some (.inl (G.2 3, 16, .inl (fun _ => 0))) := by rw [hk22, h_cn _ _ (by simp)]; exact f21_20_8_0
  have f22_20_10_0 : k22 (20, 10, 0) = some (.inl (G.2 0, 40, .inl (fun _ => 0))) := by rw [hk22, h_cn _ _ (by simp)]; exact f21_20_10_0
  have f22_20_11_0 : k22 (20, 11, 0) = some (.inl (G.2 0, 40, .inl (fun _ => 0))) := by rw [hk22, h_cn _ _ (by simp)]; exact f21_20_11_0
  have f22_20_12_0 : k22 (20, 12, 0) = some (.inl (G.2 0, 400, .inl (fun _ => 0))) := by rw [hk22, h_cn _ _ (by simp)]; exact f21_20_12_0
  have f22_20_13_0 : k22 (20, 13, 0) = some (.inl (G.2 3, 6400, .inl (fun _ => 0))) := by rw [hk22, h_cn _ _ (by simp)]; exact f21_20_13_0
  have f22_20_15_0 : k22 (20, 15, 0) = some (.inl (G.2 0, 120, .inl (fun _ => 0))) := by rw [hk22, h_cn _ _ (by simp)]; exact f21_20_15_0
  have f22_20_16_0 : k22 (20, 16, 0) = some (.inl (G.2 0, 120, .inl (fun _ => 0))) := by rw [hk22, h_cn _ _ (by simp)]; exact f21_20_16_0
  refine lv_aload_n X.1 X.2.1 dX4_init_94 rfl (lv_at hl 0 rfl) ?_
  refine lv_bipush (v := 120) X.1 X.2.1 dX4_init_95 (by decide) ?_
  refine h_newa X hw (20, 17, 0) (by rw [hk22, h_cn _ _ (by simp), hk21, h_cn _ _ (by simp), hk20, h_cn _ _ (by simp), hk19, h_cn _ _ (by simp), hk18, h_cn _ _ (by simp), hk17, h_cn _ _ (by simp), hk16, h_cn _ _ (by simp), hk15, h_cn _ _ (by simp), hk14, h_cn _ _ (by simp), hk13, h_cn _ _ (by simp), hk12, h_cn _ _ (by simp), hk11, h_cn _ _ (by simp), hk10, h_cn _ _ (by simp), hk9, h_cn _ _ (by simp), hk8, h_cn _ _ (by simp), hk7, h_cn _ _ (by simp), hk6, h_cn _ _ (by simp), hk5, h_cn _ _ (by simp), hk4, h_cn _ _ (by simp), hk3, h_cn _ _ (by simp), hk2, h_cn _ _ (by simp), hk1, h_cn _ _ (by simp)]; exact hno _ rfl (by simp)) (ty := .int) rfl wr_int 0 rfl (N' := 120) (a0 := (120, .inl (fun _ => 0))) (fun _ => rfl) (by decide) (by decide) (by decide) (Nat.le_of_ble_eq_true rfl) (Nat.le_of_ble_eq_true rfl) dX4_init_97 (fun q H hw => ?_)
  obtain ⟨k23, hk23⟩ : ∃ zz, zz = h_cu k22 (20, 17, 0) (some (.inl (G.2 0, 120, .inl (fun _ => 0)))) := ⟨_, rfl⟩
  obtain ⟨ad23, had23⟩ : ∃ zz, zz = h_au ad21 (20, 17, 0) q := ⟨_, rfl⟩
  replace hw := (hw.ren hk23).renA had23
  obtain rfl : q = ad23 (20, 17, 0) := by rw [had23, h_as]
  have ea23_0 : ad21 (20, 0, 0) = ad23 (20, 0, 0) := by rw [had23, h_an _ _ (by simp)]
  have ea23_1 : ad21 (20, 3, 0) = ad23 (20, 3, 0) := by rw [had23, h_an _ _ (by simp)]
  have ea23_2 : ad21 (20, 4, 0) = ad23 (20, 4, 0) := by rw [had23, h_an _ _ (by simp)]
  have ea23_3 : ad21 (20, 5, 0) = ad23 (20, 5, 0) := by rw [had23, h_an _ _ (by simp)]
  have ea23_4 : ad21 (20, 6, 0) = ad23 (20, 6, 0) := by rw [had23, h_an _ _ (by simp)]
  have ea23_5 : ad21 (20, 8, 0) = ad23 (20, 8, 0) := by rw [had23, h_an _ _ (by simp)]
  have ea23_6 : ad21 (20, 10, 0) = ad23 (20, 10, 0) := by rw [had23, h_an _ _ (by simp)]
  have ea23_7 : ad21 (20, 11, 0) = ad23 (20, 11, 0) := by rw [had23, h_an _ _ (by simp)]
  have ea23_8 : ad21 (20, 12, 0) = ad23 (20, 12, 0) := by rw [had23, h_an _ _ (by simp)]
  have ea23_9 : ad21 (20, 13, 0) = ad23 (20, 13, 0) := by rw [had23, h_an _ _ (by simp)]
  have ea23_10 : ad21 (20, 15, 0) = ad23 (20, 15, 0) := by rw [had23, h_an _ _ (by simp)]
  have ea23_11 : ad21 (20, 16, 0) = ad23 (20, 16, 0) := by rw [had23, h_an _ _ (by simp)]
  simp only [ea23_0, ea23_1, ea23_2, ea23_3, ea23_4, ea23_5, ea23_6, ea23_7, ea23_8, ea23_9, ea23_10, ea23_11] at hl
  simp only [ea23_0, ea23_1, ea23_2, ea23_3, ea23_4, ea23_5, ea23_6, ea23_7, ea23_8, ea23_9, ea23_10, ea23_11]
  have f23_20_0_0 : k23 (20, 0, 0) = some (.inr (4, [.int 0, .int 0, .int 0, .ref (ad23 (20, 3, 0)), .ref (ad23 (20, 4, 0)), .ref (ad23 (20, 5, 0)), .ref (ad23 (20, 6, 0)), .int 0, .ref (ad23 (20, 8, 0)), .int 0, .ref (ad23 (20, 10, 0)), .ref (ad23 (20, 11, 0)), .ref (ad23 (20, 12, 0)), .ref (ad23 (20, 13, 0)), .int 0, .ref (ad23 (20, 15, 0)), .ref (ad23 (20, 16, 0)), .null, .null, .int 0])) := by rw [hk23, h_cn _ _ (by simp), f22_20_0_0]; simp only [ea23_0, ea23_1, ea23_2, ea23_3, ea23_4, ea23_5, ea23_6, ea23_7, ea23_8, ea23_9, ea23_10, ea23_11]
  have f23_20_3_0 : k23 (20, 3, 0) = some (.inl (G.2 0, 10, .inl (fun _ => 0))) := by rw [hk23, h_cn _ _ (by simp), f22_20_3_0]
  have f23_20_4_0 : k23 (20, 4, 0) = some (.inl (G.2 2, 10, .inl (fun _ => 0))) := by rw [hk23, h_cn _ _ (by simp), f22_20_4_0]
  have f23_20_5_0 : k23 (20, 5, 0) = some (.inl (G.2 0, 10, .inl (fun _ => 0))) := by rw [hk23, h_cn _ _ (by simp), f22_20_5_0]
  have f23_20_6_0 : k23 (20, 6, 0) = some (.inl (G.2 0, 10, .inl (fun _ => 0))) := by rw [hk23, h_cn _ _ (by simp), f22_20_6_0]
  have f23_20_8_0 : k23 (20, 8, 0) = some (.inl (G.2 3, 16, .inl (fun _ => 0))) := by rw [hk23, h_cn _ _ (by simp), f22_20_8_0]
  have f23_20_10_0 : k23 (20, 10, 0) = some (.inl (G.2 0, 40, .inl (fun _ => 0))) := by rw [hk23, h_cn _ _ (by simp), f22_20_10_0]
  have f23_20_11_0 : k23 (20, 11, 0) = some (.inl (G.2 0, 40, .inl (fun _ => 0))) := by rw [hk23, h_cn _ _ (by simp), f22_20_11_0]
  have f23_20_12_0 : k23 (20, 12, 0) = some (.inl (G.2 0, 400, .inl (fun _ => 0))) := by rw [hk23, h_cn _ _ (by simp), f22_20_12_0]
  have f23_20_13_0 : k23 (20, 13, 0) = some (.inl (G.2 3, 6400, .inl (fun _ => 0))) := by rw [hk23, h_cn _ _ (by simp), f22_20_13_0]
  have f23_20_15_0 : k23 (20, 15, 0) = some (.inl (G.2 0, 120, .inl (fun _ => 0))) := by rw [hk23, h_cn _ _ (by simp), f22_20_15_0]
  have f23_20_16_0 : k23 (20, 16, 0) = some (.inl (G.2 0, 120, .inl (fun _ => 0))) := by rw [hk23, h_cn _ _ (by simp), f22_20_16_0]
  have f23_20_17_0 : k23 (20, 17, 0) = some (.inl (G.2 0, 120, .inl (fun _ => 0))) := by rw [hk23]; exact h_cs _ _ _
  refine pf_X4_45 X hw Y.2.2 f23_20_0_0 rfl rfl (Nat.le_of_ble_eq_true rfl) dX4_init_99 (fun H locs hw => ?_)
  obtain ⟨k24, hk24⟩ : ∃ zz, zz = h_cu k23 (20, 0, 0) (some (.inr (4, [.int 0, .int 0, .int 0, .ref (ad23 (20, 3, 0)), .ref (ad23 (20, 4, 0)), .ref (ad23 (20, 5, 0)), .ref (ad23 (20, 6, 0)), .int 0, .ref (ad23 (20, 8, 0)), .int 0, .ref (ad23 (20, 10, 0)), .ref (ad23 (20, 11, 0)), .ref (ad23 (20, 12, 0)), .ref (ad23 (20, 13, 0)), .int 0, .ref (ad23 (20, 15, 0)), .ref (ad23 (20, 16, 0)), .ref (ad23 (20, 17, 0)), .null, .int 0]))) := ⟨_, rfl⟩
  replace hw := h_W.ren hw hk24
  have f24_20_0_0 : k24 (20, 0, 0) = some (.inr (4, [.int 0, .int 0, .int 0, .ref (ad23 (20, 3, 0)), .ref (ad23 (20, 4, 0)), .ref (ad23 (20, 5, 0)), .ref (ad23 (20, 6, 0)), .int 0, .ref (ad23 (20, 8, 0)), .int 0, .ref (ad23 (20, 10, 0)), .ref (ad23 (20, 11, 0)), .ref (ad23 (20, 12, 0)), .ref (ad23 (20, 13, 0)), .int 0, .ref (ad23 (20, 15, 0)), .ref (ad23 (20, 16, 0)), .ref (ad23 (20, 17, 0)), .null, .int 0])) := by rw [hk24]; exact h_cs _ _ _
  have f24_20_3_0 : k24 (20, 3, 0) = some (.inl (G.2 0, 10, .inl (fun _ => 0))) := by rw [hk24, h_cn _ _ (by simp)]; exact f23_20_3_0
  have f24_20_4_0 : k24 (20, 4, 0) = some (.inl (G.2 2, 10, .inl (fun _ => 0))) := by rw [hk24, h_cn _ _ (by simp)]; exact f23_20_4_0
  have f24_20_5_0 : k24 (20, 5, 0) = some (.inl (G.2 0, 10, .inl (fun _ => 0))) := by rw [hk24, h_cn _ _ (by simp)]; exact f23_20_5_0
  have f24_20_6_0 : k24 (20, 6, 0) = some (.inl (G.2 0, 10, .inl (fun _ => 0))) := by rw [hk24, h_cn _ _ (by simp)]; exact f23_20_6_0
  have f24_20_8_0 : k24 (20, 8, 0) = some (.inl (G.2 3, 16, .inl (fun _ => 0))) := by rw [hk24, h_cn _ _ (by simp)]; exact f23_20_8_0
  have f24_20_10_0 : k24 (20, 10, 0) = some (.inl (G.2 0, 40, .inl (fun _ => 0))) := by rw [hk24, h_cn _ _ (by simp)]; exact f23_20_10_0
  have f24_20_11_0 : k24 (20, 11, 0) = some (.inl (G.2 0, 40, .inl (fun _ => 0))) := by rw [hk24, h_cn _ _ (by simp)]; exact f23_20_11_0
  have f24_20_12_0 : k24 (20, 12, 0) = some (.inl (G.2 0, 400, .inl (fun _ => 0))) := by rw [hk24, h_cn _ _ (by simp)]; exact f23_20_12_0
  have f24_20_13_0 : k24 (20, 13, 0) = some (.inl (G.2 3, 6400, .inl (fun _ => 0))) := by rw [hk24, h_cn _ _ (by simp)]; exact f23_20_13_0
  have f24_20_15_0 : k24 (20, 15, 0) = some (.inl (G.2 0, 120, .inl (fun _ => 0))) := by rw [hk24, h_cn _ _ (by simp)]; exact f23_20_15_0
  have f24_20_16_0 : k24 (20, 16, 0) = some (.inl (G.2 0, 120, .inl (fun _ => 0))) := by rw [hk24, h_cn _ _ (by simp)]; exact f23_20_16_0
  have f24_20_17_0 : k24 (20, 17, 0) = some (.inl (G.2 0, 120, .inl (fun _ => 0))) := by rw [hk24, h_cn _ _ (by simp)]; exact f23_20_17_0
  refine lv_aload_n X.1 X.2.1 dX4_init_102 rfl (lv_at hl 0 rfl) ?_
  refine lv_bipush (v := 10) X.1 X.2.1 dX4_init_103 (by decide) ?_
  refine h_newa X hw (20, 18, 0) (by rw [hk24, h_cn _ _ (by simp), hk23, h_cn _ _ (by simp), hk22, h_cn _ _ (by simp), hk21, h_cn _ _ (by simp), hk20, h_cn _ _ (by simp), hk19, h_cn _ _ (by simp), hk18, h_cn _ _ (by simp), hk17, h_cn _ _ (by simp), hk16, h_cn _ _ (by simp), hk15, h_cn _ _ (by simp), hk14, h_cn _ _ (by simp), hk13, h_cn _ _ (by simp), hk12, h_cn _ _ (by simp), hk11, h_cn _ _ (by simp), hk10, h_cn _ _ (by simp), hk9, h_cn _ _ (by simp), hk8, h_cn _ _ (by simp), hk7, h_cn _ _ (by simp), hk6, h_cn _ _ (by simp), hk5, h_cn _ _ (by simp), hk4, h_cn _ _ (by simp), hk3, h_cn _ _ (by simp), hk2, h_cn _ _ (by simp), hk1, h_cn _ _ (by simp)]; exact hno _ rfl (by simp)) (ty := .int) rfl wr_int 0 rfl (N' := 10) (a0 := (10, .inl (fun _ => 0))) (fun _ => rfl) (by decide) (by decide) (by decide) (Nat.le_of_ble_eq_true rfl) (Nat.le_of_ble_eq_true rfl) dX4_init_105 (fun q H hw => ?_)
  obtain ⟨k25, hk25⟩ : ∃ zz, zz = h_cu k24 (20, 18, 0) (some (.inl (G.2 0, 10, .inl (fun _ => 0)))) := ⟨_, rfl⟩
  obtain ⟨ad25, had25⟩ : ∃ zz, zz = h_au ad23 (20, 18, 0) q := ⟨_, rfl⟩
  replace hw := (hw.ren hk25).renA had25
  obtain rfl : q = ad25 (20, 18, 0) := by rw [had25, h_as]
  have ea25_0 : ad23 (20, 0, 0) = ad25 (20, 0, 0) := by rw [had25, h_an _ _ (by simp)]
  have ea25_1 : ad23 (20, 3, 0) = ad25 (20, 3, 0) := by rw [had25, h_an _ _ (by simp)]
  have ea25_2 : ad23 (20, 4, 0) = ad25 (20, 4, 0) := by rw [had25, h_an _ _ (by simp)]
  have ea25_3 : ad23 (20, 5, 0) = ad25 (20, 5, 0) := by rw [had25, h_an _ _ (by simp)]
  have ea25_4 : ad23 (20, 6, 0) = ad25 (20, 6, 0) := by rw [had25, h_an _ _ (by simp)]
  have ea25_5 : ad23 (20, 8, 0) = ad25 (20, 8, 0) := by rw [had25, h_an _ _ (by simp)]
  have ea25_6 : ad23 (20, 10, 0) = ad25 (20, 10, 0) := by rw [had25, h_an _ _ (by simp)]
  have ea25_7 : ad23 (20, 11, 0) = ad25 (20, 11, 0) := by rw [had25, h_an _ _ (by simp)]
  have ea25_8 : ad23 (20, 12, 0) = ad25 (20, 12, 0) := by rw [had25, h_an _ _ (by simp)]
  have ea25_9 : ad23 (20, 13, 0) = ad25 (20, 13, 0) := by rw [had25, h_an _ _ (by simp)]
  have ea25_10 : ad23 (20, 15, 0) = ad25 (20, 15, 0) := by rw [had25, h_an _ _ (by simp)]
  have ea25_11 : ad23 (20, 16, 0) = ad25 (20, 16, 0) := by rw [had25, h_an _ _ (by simp)]
  have ea25_12 : ad23 (20, 17, 0) = ad25 (20, 17, 0) := by rw [had25, h_an _ _ (by simp)]
  simp only [ea25_0, ea25_1, ea25_2, ea25_3, ea25_4, ea25_5, ea25_6, ea25_7, ea25_8, ea25_9, ea25_10, ea25_11, ea25_12] at hl
  simp only [ea25_0, ea25_1, ea25_2, ea25_3, ea25_4, ea25_5, ea25_6, ea25_7, ea25_8, ea25_9, ea25_10, ea25_11, ea25_12]
  have f25_20_0_0 : k25 (20, 0, 0) = some (.inr (4, [.int 0, .int 0, .int 0, .ref (ad25 (20, 3, 0)), .ref (ad25 (20, 4, 0)), .ref (ad25 (20, 5, 0)), .ref (ad25 (20, 6, 0)), .int 0, .ref (ad25 (20, 8, 0)), .int 0, .ref (ad25 (20, 10, 0)), .ref (ad25 (20, 11, 0)), .ref (ad25 (20, 12, 0)), .ref (ad25 (20, 13, 0)), .int 0, .ref (ad25 (20, 15, 0)), .ref (ad25 (20, 16, 0)), .ref (ad25 (20, 17, 0)), .null, .int 0])) := by rw [hk25, h_cn _ _ (by simp), f24_20_0_0]; simp only [ea25_0, ea25_1, ea25_2, ea25_3, ea25_4, ea25_5, ea25_6, ea25_7, ea25_8, ea25_9, ea25_10, ea25_11, ea25_12]
  have f25_20_3_0 : k25 (20, 3, 0) = some (.inl (G.2 0, 10, .inl (fun _ => 0))) := by rw [hk25, h_cn _ _ (by simp), f24_20_3_0]
  have f25_20_4_0 : k25 (20, 4, 0) = some (.inl (G.2 2, 10, .inl (fun _ => 0))) := by rw [hk25, h_cn _ _ (by simp), f24_20_4_0]
  have f25_20_5_0 : k25 (20, 5, 0) = some (.inl (G.2 0, 10, .inl (fun _ => 0))) := by rw [hk25, h_cn _ _ (by simp), f24_20_5_0]
  have f25_20_6_0 : k25 (20, 6, 0) = some (.inl (G.2 0, 10, .inl (fun _ => 0))) := by rw [hk25, h_cn _ _ (by simp), f24_20_6_0]
  have f25_20_8_0 : k25 (20, 8, 0) = some (.inl (G.2 3, 16, .inl (fun _ => 0))) := by rw [hk25, h_cn _ _ (by simp), f24_20_8_0]
  have f25_20_10_0 : k25 (20, 10, 0) = some (.inl (G.2 0, 40, .inl (fun _ => 0))) := by rw [hk25, h_cn _ _ (by simp), f24_20_10_0]
  have f25_20_11_0 : k25 (20, 11, 0) = some (.inl (G.2 0, 40, .inl (fun _ => 0))) := by rw [hk25, h_cn _ _ (by simp), f24_20_11_0]
  have f25_20_12_0 : k25 (20, 12, 0) = some (.inl (G.2 0, 400, .inl (fun _ => 0))) := by rw [hk25, h_cn _ _ (by simp), f24_20_12_0]
  have f25_20_13_0 : k25 (20, 13, 0) = some (.inl (G.2 3, 6400, .inl (fun _ => 0))) := by rw [hk25, h_cn _ _ (by simp), f24_20_13_0]
  have f25_20_15_0 : k25 (20, 15, 0) = some (.inl (G.2 0, 120, .inl (fun _ => 0))) := by rw [hk25, h_cn _ _ (by simp), f24_20_15_0]
  have f25_20_16_0 : k25 (20, 16, 0) = some (.inl (G.2 0, 120, .inl (fun _ => 0))) := by rw [hk25, h_cn _ _ (by simp), f24_20_16_0]
  have f25_20_17_0 : k25 (20, 17, 0) = some (.inl (G.2 0, 120, .inl (fun _ => 0))) := by rw [hk25, h_cn _ _ (by simp), f24_20_17_0]
  have f25_20_18_0 : k25 (20, 18, 0) = some (.inl (G.2 0, 10, .inl (fun _ => 0))) := by rw [hk25]; exact h_cs _ _ _
  refine pf_X4_48 X hw Y.2.2 f25_20_0_0 rfl rfl (Nat.le_of_ble_eq_true rfl) dX4_init_107 (fun H locs hw => ?_)
  obtain ⟨k26, hk26⟩ : ∃ zz, zz = h_cu k25 (20, 0, 0) (some (.inr (4, [.int 0, .int 0, .int 0, .ref (ad25 (20, 3, 0)), .ref (ad25 (20, 4, 0)), .ref (ad25 (20, 5, 0)), .ref (ad25 (20, 6, 0)), .int 0, .ref (ad25 (20, 8, 0)), .int 0, .ref (ad25 (20, 10, 0)), .ref (ad25 (20, 11, 0)), .ref (ad25 (20, 12, 0)), .ref (ad25 (20, 13, 0)), .int 0, .ref (ad25 (20, 15, 0)), .ref (ad25 (20, 16, 0)), .ref (ad25 (20, 17, 0)), .ref (ad25 (20, 18, 0)), .int 0]))) := ⟨_, rfl⟩
  replace hw := h_W.ren hw hk26
  have f26_20_0_0 : k26 (20, 0, 0) = some (.inr (4, [.int 0, .int 0, .int 0, .ref (ad25 (20, 3, 0)), .ref (ad25 (20, 4, 0)), .ref (ad25 (20, 5, 0)), .ref (ad25 (20, 6, 0)), .int 0, .ref (ad25 (20, 8, 0)), .int 0, .ref (ad25 (20, 10, 0)), .ref (ad25 (20, 11, 0)), .ref (ad25 (20, 12, 0)), .ref (ad25 (20, 13, 0)), .int 0, .ref (ad25 (20, 15, 0)), .ref (ad25 (20, 16, 0)), .ref (ad25 (20, 17, 0)), .ref (ad25 (20, 18, 0)), .int 0])) := by rw [hk26]; exact h_cs _ _ _
  have f26_20_3_0 : k26 (20, 3, 0) = some (.inl (G.2 0, 10, .inl (fun _ => 0))) := by rw [hk26, h_cn _ _ (by simp)]; exact f25_20_3_0
  have f26_20_4_0 : k26 (20, 4, 0) = some (.inl (G.2 2, 10, .inl (fun _ => 0))) := by rw [hk26, h_cn _ _ (by simp)]; exact f25_20_4_0
  have f26_20_5_0 : k26 (20, 5, 0) = some (.inl (G.2 0, 10, .inl (fun _ => 0))) := by rw [hk26, h_cn _ _ (by simp)]; exact f25_20_5_0
  have f26_20_6_0 : k26 (20, 6, 0) = some (.inl (G.2 0, 10, .inl (fun _ => 0))) := by rw [hk26, h_cn _ _ (by simp)]; exact f25_20_6_0
  have f26_20_8_0 : k26 (20, 8, 0) = some (.inl (G.2 3, 16, .inl (fun _ => 0))) := by rw [hk26, h_cn _ _ (by simp)]; exact f25_20_8_0
  have f26_20_10_0 : k26 (20, 10, 0) = some (.inl (G.2 0, 40, .inl (fun _ => 0))) := by rw [hk26, h_cn _ _ (by simp)]; exact f25_20_10_0
  have f26_20_11_0 : k26 (20, 11, 0) = some (.inl (G.2 0, 40, .inl (fun _ => 0))) := by rw [hk26, h_cn _ _ (by simp)]; exact f25_20_11_0
  have f26_20_12_0 : k26 (20, 12, 0) = some (.inl (G.2 0, 400, .inl (fun _ => 0))) := by rw [hk26, h_cn _ _ (by simp)]; exact f25_20_12_0
  have f26_20_13_0 : k26 (20, 13, 0) = some (.inl (G.2 3, 6400, .inl (fun _ => 0))) := by rw [hk26, h_cn _ _ (by simp)]; exact f25_20_13_0
  have f26_20_15_0 : k26 (20, 15, 0) = some (.inl (G.2 0, 120, .inl (fun _ => 0))) := by rw [hk26, h_cn _ _ (by simp)]; exact f25_20_15_0
  have f26_20_16_0 : k26 (20, 16, 0) = some (.inl (G.2 0, 120, .inl (fun _ => 0))) := by rw [hk26, h_cn _ _ (by simp)]; exact f25_20_16_0
  have f26_20_17_0 : k26 (20, 17, 0) = some (.inl (G.2 0, 120, .inl (fun _ => 0))) := by rw [hk26, h_cn _ _ (by simp)]; exact f25_20_17_0
  have f26_20_18_0 : k26 (20, 18, 0) = some (.inl (G.2 0, 10, .inl (fun _ => 0))) := by rw [hk26, h_cn _ _ (by simp)]; exact f25_20_18_0
  rcases copN_cases x with ⟨hc, hcN⟩ | ⟨hc, hc2, hcN⟩ | ⟨j, hj1, hj2, hxj, hcN⟩
  · refine lv_aload_n X.1 X.2.1 dX4_init_110 rfl (lv_at hl 0 rfl) ?_
    refine lv_iload_n X.1 X.2.1 dX4_init_111 rfl (lv_at hl 1 rfl) ?_
    refine lv_iconst (v := 1) X.1 X.2.1 dX4_init_112 (by decide) ?_
    refine lv_icmp_ge (tgt := 120) X.1 X.2.1 dX4_init_113 (by decide) (fun c113 => ?_) (fun c113 => ?_)
    · exact absurd hc (fun q => i_nle q c113)
    · refine lv_iconst (v := 1) X.1 X.2.1 dX4_init_116 (by decide) ?_
      refine lv_goto (tgt := 130) X.1 X.2.1 dX4_init_117 (by decide) ?_
      refine h_ti (b := nI (s_copN x)) (by rw [hcN]; rfl) ?_
      refine pf_X4_51 X hw Y.2.2 f26_20_0_0 rfl rfl (Nat.le_of_ble_eq_true rfl) dX4_init_130 (fun H locs hw => ?_)
      obtain ⟨k27, hk27⟩ : ∃ zz, zz = h_cu k26 (20, 0, 0) (some (.inr (4, [.int 0, .int (nI (s_copN x)), .int 0, .ref (ad25 (20, 3, 0)), .ref (ad25 (20, 4, 0)), .ref (ad25 (20, 5, 0)), .ref (ad25 (20, 6, 0)), .int 0, .ref (ad25 (20, 8, 0)), .int 0, .ref (ad25 (20, 10, 0)), .ref (ad25 (20, 11, 0)), .ref (ad25 (20, 12, 0)), .ref (ad25 (20, 13, 0)), .int 0, .ref (ad25 (20, 15, 0)), .ref (ad25 (20, 16, 0)), .ref (ad25 (20, 17, 0)), .ref (ad25 (20, 18, 0)), .int 0]))) := ⟨_, rfl⟩
      replace hw := h_W.ren hw hk27
      have f27_20_0_0 : k27 (20, 0, 0) = some (.inr (4, [.int 0, .int (nI (s_copN x)), .int 0, .ref (ad25 (20, 3, 0)), .ref (ad25 (20, 4, 0)), .ref (ad25 (20, 5, 0)), .ref (ad25 (20, 6, 0)), .int 0, .ref (ad25 (20, 8, 0)), .int 0, .ref (ad25 (20, 10, 0)), .ref (ad25 (20, 11, 0)), .ref (ad25 (20, 12, 0)), .ref (ad25 (20, 13, 0)), .int 0, .ref (ad25 (20, 15, 0)), .ref (ad25 (20, 16, 0)), .ref (ad25 (20, 17, 0)), .ref (ad25 (20, 18, 0)), .int 0])) := by rw [hk27]; exact h_cs _ _ _
      have f27_20_3_0 : k27 (20, 3, 0) = some (.inl (G.2 0, 10, .inl (fun _ => 0))) := by rw [hk27, h_cn _ _ (by simp)]; exact f26_20_3_0
      have f27_20_4_0 : k27 (20, 4, 0) = some (.inl (G.2 2, 10, .inl (fun _ => 0))) := by rw [hk27, h_cn _ _ (by simp)]; exact f26_20_4_0
      have f27_20_5_0 : k27 (20, 5, 0) = some (.inl (G.2 0, 10, .inl (fun _ => 0))) := by rw [hk27, h_cn _ _ (by simp)]; exact f26_20_5_0
      have f27_20_6_0 : k27 (20, 6, 0) = some (.inl (G.2 0, 10, .inl (fun _ => 0))) := by rw [hk27, h_cn _ _ (by simp)]; exact f26_20_6_0
      have f27_20_8_0 : k27 (20, 8, 0) = some (.inl (G.2 3, 16, .inl (fun _ => 0))) := by rw [hk27, h_cn _ _ (by simp)]; exact f26_20_8_0
      have f27_20_10_0 : k27 (20, 10, 0) = some (.inl (G.2 0, 40, .inl (fun _ => 0))) := by rw [hk27, h_cn _ _ (by simp)]; exact f26_20_10_0
      have f27_20_11_0 : k27 (20, 11, 0) = some (.inl (G.2 0, 40, .inl (fun _ => 0))) := by rw [hk27, h_cn _ _ (by simp)]; exact f26_20_11_0
      have f27_20_12_0 : k27 (20, 12, 0) = some (.inl (G.2 0, 400, .inl (fun _ => 0))) := by rw [hk27, h_cn _ _ (by simp)]; exact f26_20_12_0
      have f27_20_13_0 : k27 (20, 13, 0) = some (.inl (G.2 3, 6400, .inl (fun _ => 0))) := by rw [hk27, h_cn _ _ (by simp)]; exact f26_20_13_0
      have f27_20_15_0 : k27 (20, 15, 0) = some (.inl (G.2 0, 120, .inl (fun _ => 0))) := by rw [hk27, h_cn _ _ (by simp)]; exact f26_20_15_0
      have f27_20_16_0 : k27 (20, 16, 0) = some (.inl (G.2 0, 120, .inl (fun _ => 0))) := by rw [hk27, h_cn _ _ (by simp)]; exact f26_20_16_0
      have f27_20_17_0 : k27 (20, 17, 0) = some (.inl (G.2 0, 120, .inl (fun _ => 0))) := by rw [hk27, h_cn _ _ (by simp)]; exact f26_20_17_0
      have f27_20_18_0 : k27 (20, 18, 0) = some (.inl (G.2 0, 10, .inl (fun _ => 0))) := by rw [hk27, h_cn _ _ (by simp)]; exact f26_20_18_0
      refine lv_iconst (v := 0) X.1 X.2.1 dX4_init_133 (by decide) ?_
      refine lv_istore_n (lv' := [(2, .int 0), (0, .ref (ad25 (20, 0, 0))), (1, .int x)]) X.1 X.2.1 dX4_init_134 rfl hl (by decide) rfl (fun ls hl => ?_)
      refine W.widen (k := 13) (n := 7306) (Nat.le_of_ble_eq_true rfl) (Nat.le_of_ble_eq_true rfl) ?_
      exact loop 401 0 (by omega) (by omega) ad25 k27 k27 _ _ _ f27_20_0_0 (fun kE gE eE vE ho => ⟨rfl, ⟨(ho (20, 0, 0) (by simp)).trans f27_20_0_0, ⟨_, (ho (20, 3, 0) (by simp)).trans f27_20_3_0, fun a ha => absurd ha (Nat.not_lt_zero a)⟩, ⟨_, (ho (20, 4, 0) (by simp)).trans f27_20_4_0, fun _ _ => rfl⟩, ⟨_, (ho (20, 5, 0) (by simp)).trans f27_20_5_0, fun _ _ => rfl⟩, ⟨_, (ho (20, 6, 0) (by simp)).trans f27_20_6_0, fun _ _ => rfl⟩, ⟨_, (ho (20, 8, 0) (by simp)).trans f27_20_8_0, fun a ha => absurd ha (Nat.not_lt_zero a)⟩, ⟨_, (ho (20, 10, 0) (by simp)).trans f27_20_10_0, fun a ha => absurd ha (Nat.not_lt_zero a)⟩, ⟨_, (ho (20, 11, 0) (by simp)).trans f27_20_11_0, fun _ _ => rfl⟩, ⟨gE, eE, fun a f ha hf => vE _ (by omega)⟩, ⟨_, (ho (20, 13, 0) (by simp)).trans f27_20_13_0, (fun _ _ _ h => by cases h)⟩, ⟨_, _, _, (ho (20, 15, 0) (by simp)).trans f27_20_15_0, (ho (20, 16, 0) (by simp)).trans f27_20_16_0, (ho (20, 17, 0) (by simp)).trans f27_20_17_0, fun a ha => absurd ha (Nat.not_lt_zero a)⟩, ⟨_, (ho (20, 18, 0) (by simp)).trans f27_20_18_0⟩, new_ok x⟩, fun t ht => ⟨by rw [ho t (t_ne20 ht), hk27, h_cn _ _ (t_ne20 ht), hk26, h_cn _ _ (t_ne20 ht), hk25, h_cn _ _ (t_ne20 ht), hk24, h_cn _ _ (t_ne20 ht), hk23, h_cn _ _ (t_ne20 ht), hk22, h_cn _ _ (t_ne20 ht), hk21, h_cn _ _ (t_ne20 ht), hk20, h_cn _ _ (t_ne20 ht), hk19, h_cn _ _ (t_ne20 ht), hk18, h_cn _ _ (t_ne20 ht), hk17, h_cn _ _ (t_ne20 ht), hk16, h_cn _ _ (t_ne20 ht), hk15, h_cn _ _ (t_ne20 ht), hk14, h_cn _ _ (t_ne20 ht), hk13, h_cn _ _ (t_ne20 ht), hk12, h_cn _ _ (t_ne20 ht), hk11, h_cn _ _ (t_ne20 ht), hk10, h_cn _ _ (t_ne20 ht), hk9, h_cn _ _ (t_ne20 ht), hk8, h_cn _ _ (t_ne20 ht), hk7, h_cn _ _ (t_ne20 ht), hk6, h_cn _ _ (t_ne20 ht), hk5, h_cn _ _ (t_ne20 ht), hk4, h_cn _ _ (t_ne20 ht), hk3, h_cn _ _ (t_ne20 ht), hk2, h_cn _ _ (t_ne20 ht), hk1, h_cn _ _ (t_ne20 ht)], by rw [had25, h_an _ _ (t_ne20 ht), had23, h_an _ _ (t_ne20 ht), had21, h_an _ _ (t_ne20 ht), had19, h_an _ _ (t_ne20 ht), had17, h_an _ _ (t_ne20 ht), had15, h_an _ _ (t_ne20 ht), had13, h_an _ _ (t_ne20 ht), had11, h_an _ _ (t_ne20 ht), had9, h_an _ _ (t_ne20 ht), had7, h_an _ _ (t_ne20 ht), had5, h_an _ _ (t_ne20 ht), had3, h_an _ _ (t_ne20 ht), had1, h_an _ _ (t_ne20 ht)]⟩, by rw [had25, h_an _ _ (by simp), had23, h_an _ _ (by simp), had21, h_an _ _ (by simp), had19, h_an _ _ (by simp), had17, h_an _ _ (by simp), had15, h_an _ _ (by simp), had13, h_an _ _ (by simp), had11, h_an _ _ (by simp), had9, h_an _ _ (by simp), had7, h_an _ _ (by simp), had5, h_an _ _ (by simp), had3, h_an _ _ (by simp), had1, h_an _ _ (by simp)]⟩) f27_20_12_0 (fun c hc => absurd hc (Nat.not_lt_zero c)) (fun _ _ => rfl) hw ls (lv_sub hl [1, 0] rfl)
  · refine lv_aload_n X.1 X.2.1 dX4_init_110 rfl (lv_at hl 0 rfl) ?_
    refine lv_iload_n X.1 X.2.1 dX4_init_111 rfl (lv_at hl 1 rfl) ?_
    refine lv_iconst (v := 1) X.1 X.2.1 dX4_init_112 (by decide) ?_
    refine lv_icmp_ge (tgt := 120) X.1 X.2.1 dX4_init_113 (by decide) (fun c113 => ?_) (fun c113 => ?_)
    · refine lv_iload_n X.1 X.2.1 dX4_init_120 rfl (lv_at hl 1 rfl) ?_
      refine lv_iconst (v := 5) X.1 X.2.1 dX4_init_121 (by decide) ?_
      refine lv_icmp_le (tgt := 129) X.1 X.2.1 dX4_init_122 (by decide) (fun c122 => ?_) (fun c122 => ?_)
      · exact absurd c122 (i_nle hc2)
      · refine lv_iconst (v := 5) X.1 X.2.1 dX4_init_125 (by decide) ?_
        refine lv_goto (tgt := 130) X.1 X.2.1 dX4_init_126 (by decide) ?_
        refine h_ti (b := nI (s_copN x)) (by rw [hcN]; rfl) ?_
        refine pf_X4_51 X hw Y.2.2 f26_20_0_0 rfl rfl (Nat.le_of_ble_eq_true rfl) dX4_init_130 (fun H locs hw => ?_)
        obtain ⟨k27, hk27⟩ : ∃ zz, zz = h_cu k26 (20, 0, 0) (some (.inr (4, [.int 0, .int (nI (s_copN x)), .int 0, .ref (ad25 (20, 3, 0)), .ref (ad25 (20, 4, 0)), .ref (ad25 (20, 5, 0)), .ref (ad25 (20, 6, 0)), .int 0, .ref (ad25 (20, 8, 0)), .int 0, .ref (ad25 (20, 10, 0)), .ref (ad25 (20, 11, 0)), .ref (ad25 (20, 12, 0)), .ref (ad25 (20, 13, 0)), .int 0, .ref (ad25 (20, 15, 0)), .ref (ad25 (20, 16, 0)), .ref (ad25 (20, 17, 0)), .ref (ad25 (20, 18, 0)), .int 0]))) := ⟨_, rfl⟩
        replace hw := h_W.ren hw hk27
        have f27_20_0_0 : k27 (20, 0, 0) = some (.inr (4, [.int 0, .int (nI (s_copN x)), .int 0, .ref (ad25 (20, 3, 0)), .ref (ad25 (20, 4, 0)), .ref (ad25 (20, 5, 0)), .ref (ad25 (20, 6, 0)), .int 0, .ref (ad25 (20, 8, 0)), .int 0, .ref (ad25 (20, 10, 0)), .ref (ad25 (20, 11, 0)), .ref (ad25 (20, 12, 0)), .ref (ad25 (20, 13, 0)), .int 0, .ref (ad25 (20, 15, 0)), .ref (ad25 (20, 16, 0)), .ref (ad25 (20, 17, 0)), .ref (ad25 (20, 18, 0)), .int 0])) := by rw [hk27]; exact h_cs _ _ _
        have f27_20_3_0 : k27 (20, 3, 0) = some (.inl (G.2 0, 10, .inl (fun _ => 0))) := by rw [hk27, h_cn _ _ (by simp)]; exact f26_20_3_0
        have f27_20_4_0 : k27 (20, 4, 0) = some (.inl (G.2 2, 10, .inl (fun _ => 0))) := by rw [hk27, h_cn _ _ (by simp)]; exact f26_20_4_0
        have f27_20_5_0 : k27 (20, 5, 0) = some (.inl (G.2 0, 10, .inl (fun _ => 0))) := by rw [hk27, h_cn _ _ (by simp)]; exact f26_20_5_0
        have f27_20_6_0 : k27 (20, 6, 0) = some (.inl (G.2 0, 10, .inl (fun _ => 0))) := by rw [hk27, h_cn _ _ (by simp)]; exact f26_20_6_0
        have f27_20_8_0 : k27 (20, 8, 0) = some (.inl (G.2 3, 16, .inl (fun _ => 0))) := by rw [hk27, h_cn _ _ (by simp)]; exact f26_20_8_0
        have f27_20_10_0 : k27 (20, 10, 0) = some (.inl (G.2 0, 40, .inl (fun _ => 0))) := by rw [hk27, h_cn _ _ (by simp)]; exact f26_20_10_0
        have f27_20_11_0 : k27 (20, 11, 0) = some (.inl (G.2 0, 40, .inl (fun _ => 0))) := by rw [hk27, h_cn _ _ (by simp)]; exact f26_20_11_0
        have f27_20_12_0 : k27 (20, 12, 0) = some (.inl (G.2 0, 400, .inl (fun _ => 0))) := by rw [hk27, h_cn _ _ (by simp)]; exact f26_20_12_0
        have f27_20_13_0 : k27 (20, 13, 0) = some (.inl (G.2 3, 6400, .inl (fun _ => 0))) := by rw [hk27, h_cn _ _ (by simp)]; exact f26_20_13_0
        have f27_20_15_0 : k27 (20, 15, 0) = some (.inl (G.2 0, 120, .inl (fun _ => 0))) := by rw [hk27, h_cn _ _ (by simp)]; exact f26_20_15_0
        have f27_20_16_0 : k27 (20, 16, 0) = some (.inl (G.2 0, 120, .inl (fun _ => 0))) := by rw [hk27, h_cn _ _ (by simp)]; exact f26_20_16_0
        have f27_20_17_0 : k27 (20, 17, 0) = some (.inl (G.2 0, 120, .inl (fun _ => 0))) := by rw [hk27, h_cn _ _ (by simp)]; exact f26_20_17_0
        have f27_20_18_0 : k27 (20, 18, 0) = some (.inl (G.2 0, 10, .inl (fun _ => 0))) := by rw [hk27, h_cn _ _ (by simp)]; exact f26_20_18_0
        refine lv_iconst (v := 0) X.1 X.2.1 dX4_init_133 (by decide) ?_
        refine lv_istore_n (lv' := [(2, .int 0), (0, .ref (ad25 (20, 0, 0))), (1, .int x)]) X.1 X.2.1 dX4_init_134 rfl hl (by decide) rfl (fun ls hl => ?_)
        refine W.widen (k := 13) (n := 7306) (Nat.le_of_ble_eq_true rfl) (Nat.le_of_ble_eq_true rfl) ?_
        exact loop 401 0 (by omega) (by omega) ad25 k27 k27 _ _ _ f27_20_0_0 (fun kE gE eE vE ho => ⟨rfl, ⟨(ho (20, 0, 0) (by simp)).trans f27_20_0_0, ⟨_, (ho (20, 3, 0) (by simp)).trans f27_20_3_0, fun a ha => absurd ha (Nat.not_lt_zero a)⟩, ⟨_, (ho (20, 4, 0) (by simp)).trans f27_20_4_0, fun _ _ => rfl⟩, ⟨_, (ho (20, 5, 0) (by simp)).trans f27_20_5_0, fun _ _ => rfl⟩, ⟨_, (ho (20, 6, 0) (by simp)).trans f27_20_6_0, fun _ _ => rfl⟩, ⟨_, (ho (20, 8, 0) (by simp)).trans f27_20_8_0, fun a ha => absurd ha (Nat.not_lt_zero a)⟩, ⟨_, (ho (20, 10, 0) (by simp)).trans f27_20_10_0, fun a ha => absurd ha (Nat.not_lt_zero a)⟩, ⟨_, (ho (20, 11, 0) (by simp)).trans f27_20_11_0, fun _ _ => rfl⟩, ⟨gE, eE, fun a f ha hf => vE _ (by omega)⟩, ⟨_, (ho (20, 13, 0) (by simp)).trans f27_20_13_0, (fun _ _ _ h => by cases h)⟩, ⟨_, _, _, (ho (20, 15, 0) (by simp)).trans f27_20_15_0, (ho (20, 16, 0) (by simp)).trans f27_20_16_0, (ho (20, 17, 0) (by simp)).trans f27_20_17_0, fun a ha => absurd ha (Nat.not_lt_zero a)⟩, ⟨_, (ho (20, 18, 0) (by simp)).trans f27_20_18_0⟩, new_ok x⟩, fun t ht => ⟨by rw [ho t (t_ne20 ht), hk27, h_cn _ _ (t_ne20 ht), hk26, h_cn _ _ (t_ne20 ht), hk25, h_cn _ _ (t_ne20 ht), hk24, h_cn _ _ (t_ne20 ht), hk23, h_cn _ _ (t_ne20 ht), hk22, h_cn _ _ (t_ne20 ht), hk21, h_cn _ _ (t_ne20 ht), hk20, h_cn _ _ (t_ne20 ht), hk19, h_cn _ _ (t_ne20 ht), hk18, h_cn _ _ (t_ne20 ht), hk17, h_cn _ _ (t_ne20 ht), hk16, h_cn _ _ (t_ne20 ht), hk15, h_cn _ _ (t_ne20 ht), hk14, h_cn _ _ (t_ne20 ht), hk13, h_cn _ _ (t_ne20 ht), hk12, h_cn _ _ (t_ne20 ht), hk11, h_cn _ _ (t_ne20 ht), hk10, h_cn _ _ (t_ne20 ht), hk9, h_cn _ _ (t_ne20 ht), hk8, h_cn _ _ (t_ne20 ht), hk7, h_cn _ _ (t_ne20 ht), hk6, h_cn _ _ (t_ne20 ht), hk5, h_cn _ _ (t_ne20 ht), hk4, h_cn _ _ (t_ne20 ht), hk3, h_cn _ _ (t_ne20 ht), hk2, h_cn _ _ (t_ne20 ht), hk1, h_cn _ _ (t_ne20 ht)], by rw [had25, h_an _ _ (t_ne20 ht), had23, h_an _ _ (t_ne20 ht), had21, h_an _ _ (t_ne20 ht), had19, h_an _ _ (t_ne20 ht), had17, h_an _ _ (t_ne20 ht), had15, h_an _ _ (t_ne20 ht), had13, h_an _ _ (t_ne20 ht), had11, h_an _ _ (t_ne20 ht), had9, h_an _ _ (t_ne20 ht), had7, h_an _ _ (t_ne20 ht), had5, h_an _ _ (t_ne20 ht), had3, h_an _ _ (t_ne20 ht), had1, h_an _ _ (t_ne20 ht)]⟩, by rw [had25, h_an _ _ (by simp), had23, h_an _ _ (by simp), had21, h_an _ _ (by simp), had19, h_an _ _ (by simp), had17, h_an _ _ (by simp), had15, h_an _ _ (by simp), had13, h_an _ _ (by simp), had11, h_an _ _ (by simp), had9, h_an _ _ (by simp), had7, h_an _ _ (by simp), had5, h_an _ _ (by simp), had3, h_an _ _ (by simp), had1, h_an _ _ (by simp)]⟩) f27_20_12_0 (fun c hc => absurd hc (Nat.not_lt_zero c)) (fun _ _ => rfl) hw ls (lv_sub hl [1, 0] rfl)
    · exact absurd (i_le hc) c113
  · refine lv_aload_n X.1 X.2.1 dX4_init_110 rfl (lv_at hl 0 rfl) ?_
    refine lv_iload_n X.1 X.2.1 dX4_init_111 rfl (lv_at hl 1 rfl) ?_
    refine lv_iconst (v := 1) X.1 X.2.1 dX4_init_112 (by decide) ?_
    refine lv_icmp_ge (tgt := 120) X.1 X.2.1 dX4_init_113 (by decide) (fun c113 => ?_) (fun c113 => ?_)
    · refine lv_iload_n X.1 X.2.1 dX4_init_120 rfl (lv_at hl 1 rfl) ?_
      refine lv_iconst (v := 5) X.1 X.2.1 dX4_init_121 (by decide) ?_
      refine lv_icmp_le (tgt := 129) X.1 X.2.1 dX4_init_122 (by decide) (fun c122 => ?_) (fun c122 => ?_)
      · refine lv_iload_n X.1 X.2.1 dX4_init_129 rfl (lv_at hl 1 rfl) ?_
        refine h_ti (b := nI (s_copN x)) (by rw [hcN]; exact hxj) ?_
        refine pf_X4_51 X hw Y.2.2 f26_20_0_0 rfl rfl (Nat.le_of_ble_eq_true rfl) dX4_init_130 (fun H locs hw => ?_)
        obtain ⟨k27, hk27⟩ : ∃ zz, zz = h_cu k26 (20, 0, 0) (some (.inr (4, [.int 0, .int (nI (s_copN x)), .int 0, .ref (ad25 (20, 3, 0)), .ref (ad25 (20, 4, 0)), .ref (ad25 (20, 5, 0)), .ref (ad25 (20, 6, 0)), .int 0, .ref (ad25 (20, 8, 0)), .int 0, .ref (ad25 (20, 10, 0)), .ref (ad25 (20, 11, 0)), .ref (ad25 (20, 12, 0)), .ref (ad25 (20, 13, 0)), .int 0, .ref (ad25 (20, 15, 0)), .ref (ad25 (20, 16, 0)), .ref (ad25 (20, 17, 0)), .ref (ad25 (20, 18, 0)), .int 0]))) := ⟨_, rfl⟩
        replace hw := h_W.ren hw hk27
        have f27_20_0_0 : k27 (20, 0, 0) = some (.inr (4, [.int 0, .int (nI (s_copN x)), .int 0, .ref (ad25 (20, 3, 0)), .ref (ad25 (20, 4, 0)), .ref (ad25 (20, 5, 0)), .ref (ad25 (20, 6, 0)), .int 0, .ref (ad25 (20, 8, 0)), .int 0, .ref (ad25 (20, 10, 0)), .ref (ad25 (20, 11, 0)), .ref (ad25 (20, 12, 0)), .ref (ad25 (20, 13, 0)), .int 0, .ref (ad25 (20, 15, 0)), .ref (ad25 (20, 16, 0)), .ref (ad25 (20, 17, 0)), .ref (ad25 (20, 18, 0)), .int 0])) := by rw [hk27]; exact h_cs _ _ _
        have f27_20_3_0 : k27 (20, 3, 0) = some (.inl (G.2 0, 10, .inl (fun _ => 0))) := by rw [hk27, h_cn _ _ (by simp)]; exact f26_20_3_0
        have f27_20_4_0 : k27 (20, 4, 0) = some (.inl (G.2 2, 10, .inl (fun _ => 0))) := by rw [hk27, h_cn _ _ (by simp)]; exact f26_20_4_0
        have f27_20_5_0 : k27 (20, 5, 0) = some (.inl (G.2 0, 10, .inl (fun _ => 0))) := by rw [hk27, h_cn _ _ (by simp)]; exact f26_20_5_0
        have f27_20_6_0 : k27 (20, 6, 0) = some (.inl (G.2 0, 10, .inl (fun _ => 0))) := by rw [hk27, h_cn _ _ (by simp)]; exact f26_20_6_0
        have f27_20_8_0 : k27 (20, 8, 0) = some (.inl (G.2 3, 16, .inl (fun _ => 0))) := by rw [hk27, h_cn _ _ (by simp)]; exact f26_20_8_0
        have f27_20_10_0 : k27 (20, 10, 0) = some (.inl (G.2 0, 40, .inl (fun _ => 0))) := by rw [hk27, h_cn _ _ (by simp)]; exact f26_20_10_0
        have f27_20_11_0 : k27 (20, 11, 0) = some (.inl (G.2 0, 40, .inl (fun _ => 0))) := by rw [hk27, h_cn _ _ (by simp)]; exact f26_20_11_0
        have f27_20_12_0 : k27 (20, 12, 0) = some (.inl (G.2 0, 400, .inl (fun _ => 0))) := by rw [hk27, h_cn _ _ (by simp)]; exact f26_20_12_0
        have f27_20_13_0 : k27 (20, 13, 0) = some (.inl (G.2 3, 6400, .inl (fun _ => 0))) := by rw [hk27, h_cn _ _ (by simp)]; exact f26_20_13_0
        have f27_20_15_0 : k27 (20, 15, 0) = some (.inl (G.2 0, 120, .inl (fun _ => 0))) := by rw [hk27, h_cn _ _ (by simp)]; exact f26_20_15_0
        have f27_20_16_0 : k27 (20, 16, 0) = some (.inl (G.2 0, 120, .inl (fun _ => 0))) := by rw [hk27, h_cn _ _ (by simp)]; exact f26_20_16_0
        have f27_20_17_0 : k27 (20, 17, 0) = some (.inl (G.2 0, 120, .inl (fun _ => 0))) := by rw [hk27, h_cn _ _ (by simp)]; exact f26_20_17_0
        have f27_20_18_0 : k27 (20, 18, 0) = some (.inl (G.2 0, 10, .inl (fun _ => 0))) := by rw [hk27, h_cn _ _ (by simp)]; exact f26_20_18_0
        refine lv_iconst (v := 0) X.1 X.2.1 dX4_init_133 (by decide) ?_
        refine lv_istore_n (lv' := [(2, .int 0), (0, .ref (ad25 (20, 0, 0))), (1, .int x)]) X.1 X.2.1 dX4_init_134 rfl hl (by decide) rfl (fun ls hl => ?_)
        refine W.widen (k := 13) (n := 7306) (Nat.le_of_ble_eq_true rfl) (Nat.le_of_ble_eq_true rfl) ?_
        exact loop 401 0 (by omega) (by omega) ad25 k27 k27 _ _ _ f27_20_0_0 (fun kE gE eE vE ho => ⟨rfl, ⟨(ho (20, 0, 0) (by simp)).trans f27_20_0_0, ⟨_, (ho (20, 3, 0) (by simp)).trans f27_20_3_0, fun a ha => absurd ha (Nat.not_lt_zero a)⟩, ⟨_, (ho (20, 4, 0) (by simp)).trans f27_20_4_0, fun _ _ => rfl⟩, ⟨_, (ho (20, 5, 0) (by simp)).trans f27_20_5_0, fun _ _ => rfl⟩, ⟨_, (ho (20, 6, 0) (by simp)).trans f27_20_6_0, fun _ _ => rfl⟩, ⟨_, (ho (20, 8, 0) (by simp)).trans f27_20_8_0, fun a ha => absurd ha (Nat.not_lt_zero a)⟩, ⟨_, (ho (20, 10, 0) (by simp)).trans f27_20_10_0, fun a ha => absurd ha (Nat.not_lt_zero a)⟩, ⟨_, (ho (20, 11, 0) (by simp)).trans f27_20_11_0, fun _ _ => rfl⟩, ⟨gE, eE, fun a f ha hf => vE _ (by omega)⟩, ⟨_, (ho (20, 13, 0) (by simp)).trans f27_20_13_0, (fun _ _ _ h => by cases h)⟩, ⟨_, _, _, (ho (20, 15, 0) (by simp)).trans f27_20_15_0, (ho (20, 16, 0) (by simp)).trans f27_20_16_0, (ho (20, 17, 0) (by simp)).trans f27_20_17_0, fun a ha => absurd ha (Nat.not_lt_zero a)⟩, ⟨_, (ho (20, 18, 0) (by simp)).trans f27_20_18_0⟩, new_ok x⟩, fun t ht => ⟨by rw [ho t (t_ne20 ht), hk27, h_cn _ _ (t_ne20 ht), hk26, h_cn _ _ (t_ne20 ht), hk25, h_cn _ _ (t_ne20 ht), hk24, h_cn _ _ (t_ne20 ht), hk23, h_cn _ _ (t_ne20 ht), hk22, h_cn _ _ (t_ne20 ht), hk21, h_cn _ _ (t_ne20 ht), hk20, h_cn _ _ (t_ne20 ht), hk19, h_cn _ _ (t_ne20 ht), hk18, h_cn _ _ (t_ne20 ht), hk17, h_cn _ _ (t_ne20 ht), hk16, h_cn _ _ (t_ne20 ht), hk15, h_cn _ _ (t_ne20 ht), hk14, h_cn _ _ (t_ne20 ht), hk13, h_cn _ _ (t_ne20 ht), hk12, h_cn _ _ (t_ne20 ht), hk11, h_cn _ _ (t_ne20 ht), hk10, h_cn _ _ (t_ne20 ht), hk9, h_cn _ _ (t_ne20 ht), hk8, h_cn _ _ (t_ne20 ht), hk7, h_cn _ _ (t_ne20 ht), hk6, h_cn _ _ (t_ne20 ht), hk5, h_cn _ _ (t_ne20 ht), hk4, h_cn _ _ (t_ne20 ht), hk3, h_cn _ _ (t_ne20 ht), hk2, h_cn _ _ (t_ne20 ht), hk1, h_cn _ _ (t_ne20 ht)], by rw [had25, h_an _ _ (t_ne20 ht), had23, h_an _ _ (t_ne20 ht), had21, h_an _ _ (t_ne20 ht), had19, h_an _ _ (t_ne20 ht), had17, h_an _ _ (t_ne20 ht), had15, h_an _ _ (t_ne20 ht), had13, h_an _ _ (t_ne20 ht), had11, h_an _ _ (t_ne20 ht), had9, h_an _ _ (t_ne20 ht), had7, h_an _ _ (t_ne20 ht), had5, h_an _ _ (t_ne20 ht), had3, h_an _ _ (t_ne20 ht), had1, h_an _ _ (t_ne20 ht)]⟩, by rw [had25, h_an _ _ (by simp), had23, h_an _ _ (by simp), had21, h_an _ _ (by simp), had19, h_an _ _ (by simp), had17, h_an _ _ (by simp), had15, h_an _ _ (by simp), had13, h_an _ _ (by simp), had11, h_an _ _ (by simp), had9, h_an _ _ (by simp), had7, h_an _ _ (by simp), had5, h_an _ _ (by simp), had3, h_an _ _ (by simp), had1, h_an _ _ (by simp)]⟩) f27_20_12_0 (fun c hc => absurd hc (Nat.not_lt_zero c)) (fun _ _ => rfl) hw ls (lv_sub hl [1, 0] rfl)
      · exact absurd (by rw [hxj]; exact nI_le (b := 5) hj2 (by omega)) c122
    · exact absurd (by rw [hxj]; exact nI_le (a := 1) hj1 (by omega)) c113
