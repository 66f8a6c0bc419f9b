set_option maxHeartbeats 4000000 in
set_option maxRecDepth 100000 in
theorem lw_c0 {p : Program} {l : Launch} {e : Env} {s : State} {m : MethodId} {below : List Frame} {meth : Method} {c : Code} {G : h_G} {A : Nat → Prop} {b L n cells slots : Nat} {xs : Nat → Int32} {Q : State → Prop} {ad : h_T → Nat} {k : h_C} {σ : S_t} {th : Int32} {g : Nat → Int64} {H : Heap} {locs : List Loc} {ls : Array Slot} (GG : lw_G p l s m c G A b L n xs) (hc : cells + 81 ≤ 601024) (hs : slots + 806 ≤ 7293000) (K : lw_K p l e s m below meth c G A b n (cells + 81) (slots + 806) Q) (I : lw_I G ad k σ th g) (hw : h_W G.1 h_cl A s.heap ad k H locs) (hl : lv_has ls 8 (lw_L b ad n)) : W p l e room_1 s m #[Value.ref b] below meth c H locs cells slots Q (F0 m 144 ls []) := by
  obtain ⟨X, hlt, hZ, hXs, hbl, hbA, hL, hn⟩ := GG
  obtain ⟨hR, hM, hiv, hg⟩ := id I
  have hok := hR.ok
  have hl : lv_has ls 8 [(0, .ref b), (1, .ref (ad (0, 0, 0))), (2, .ref (ad (20, 0, 0))), (3, .ref (ad (21, 0, 0))), (4, .int (nI n))] := hl
  refine lv_aload_n X.1 X.2.1 dL_law_144 rfl (lv_at hl 1 rfl) ?_
  refine lv_aload_n X.1 X.2.1 dL_law_145 rfl (lv_at hl 0 rfl) ?_
  refine lv_iload X.1 X.2.1 dL_law_146 (lv_at hl 4 rfl) ?_
  refine lv_iconst (v := 1) X.1 X.2.1 dL_law_148 (by decide) ?_
  refine lv_iadd X.1 X.2.1 dL_law_149 ?_
  refine h_ti (b := nI (n + 1)) (nI_add n 1) ?_
  refine va_sld X.1 X.2.1 hXs hbl hbA hw.S (vp_in_nI (n := (n + 1)) (by omega) (by omega)) dL_law_150 ?_
  refine h_ti (b := xs (n + 1)) (by rw [nI_clamp (by omega)]) ?_
  refine h_callWV (t := (0, 0, 0)) (As := [.int (xs (n + 1))]) (rest := []) X hw cs_L_39 (c_X3_store l G hR (xs (n + 1))) hR.1 rfl rfl hl.1 rfl (Nat.le_of_ble_eq_true rfl) ⟨by decide, by decide⟩ ⟨by show _ ≤ 601024; omega, by show _ ≤ 7293000; omega⟩ dL_law_151 (fun r9 ad1 k1 H locs hp9 hw => ?_)
  obtain ⟨rfl, hR1, hf1, ha1⟩ := hp9
  refine W.eq (g2 := F0 m 154 ls [.int ((sp_store σ (xs (n + 1))).1)]) rfl ?_
  have eb1_0 : ad (0, 0, 0) = ad1 (0, 0, 0) := (ha1).symm
  have eb1_1 : ad (20, 0, 0) = ad1 (20, 0, 0) := ((hf1 (20, 0, 0) (Nat.le_of_ble_eq_true rfl)).2).symm
  have eb1_2 : ad (21, 0, 0) = ad1 (21, 0, 0) := ((hf1 (21, 0, 0) (Nat.le_of_ble_eq_true rfl)).2).symm
  simp only [eb1_0, eb1_1, eb1_2] at hl
  have hM1 : RM G ad1 k1 σ th := hM.congr (fun t ht => hf1 t (by omega))
  refine lv_aload_n X.1 X.2.1 dL_law_154 rfl (lv_at hl 2 rfl) ?_
  refine lv_aload_n X.1 X.2.1 dL_law_155 rfl (lv_at hl 0 rfl) ?_
  refine lv_iload X.1 X.2.1 dL_law_156 (lv_at hl 4 rfl) ?_
  refine lv_iconst (v := 1) X.1 X.2.1 dL_law_158 (by decide) ?_
  refine lv_iadd X.1 X.2.1 dL_law_159 ?_
  refine h_ti (b := nI (n + 1)) (nI_add n 1) ?_
  refine va_sld X.1 X.2.1 hXs hbl hbA hw.S (vp_in_nI (n := (n + 1)) (by omega) (by omega)) dL_law_160 ?_
  refine h_ti (b := xs (n + 1)) (by rw [nI_clamp (by omega)]) ?_
  refine h_callWV (t := (20, 0, 0)) (As := [.int (xs (n + 1))]) (rest := [.int ((sp_store σ (xs (n + 1))).1)]) X hw cs_L_43 (c_X4_store l G hM1 (xs (n + 1))) hM1.1 rfl rfl hl.1 rfl (Nat.le_of_ble_eq_true rfl) ⟨by decide, by decide⟩ ⟨by show _ ≤ 601024; omega, by show _ ≤ 7293000; omega⟩ dL_law_161 (fun r9 ad2 k2 H locs hp9 hw => ?_)
  obtain ⟨rfl, ea2, hM2, ho2⟩ := hp9
  refine W.eq (g2 := F0 m 164 ls [.int ((sp_store σ (xs (n + 1))).1), .int ((sp_store σ (xs (n + 1))).1)]) rfl ?_
  replace hw := hw.renA ea2.symm
  refine lv_icmp_eq (tgt := 986) X.1 X.2.1 dL_law_164 (by decide) (fun c164 => ?_) (fun c164 => ?_)
  · have hR2 := hR1.congr (k' := k2) (ad' := ad1) (fun t ht _ => ⟨ho2 t (by omega), rfl⟩)
    refine W.widen (k := cells + 81) (n := slots + 806) (by omega) (by omega) ?_
    exact K ad1 k2 _ 0 g _ _ ls ⟨hR2, hM2, iv_store hiv hok _, by rw [ho2 _ (by decide), (hf1 _ (Nat.le_of_ble_eq_true rfl)).1]; exact hg⟩ hw (lv_sub hl [0, 1, 2, 3, 4] rfl)
  · exact absurd rfl c164
set_option maxHeartbeats 4000000 in
set_option maxRecDepth 100000 in
theorem lw_c1 {p : Program} {l : Launch} {e : Env} {s : State} {m : MethodId} {below : List Frame} {meth : Method} {c : Code} {G : h_G} {A : Nat → Prop} {b L n cells slots : Nat} {xs : Nat → Int32} {Q : State → Prop} {ad : h_T → Nat} {k : h_C} {σ : S_t} {th : Int32} {g : Nat → Int64} {H : Heap} {locs : List Loc} {ls : Array Slot} (GG : lw_G p l s m c G A b L n xs) (hc : cells + 81 ≤ 601024) (hs : slots + 806 ≤ 7293000) (K : lw_K p l e s m below meth c G A b n (cells + 81) (slots + 806) Q) (I : lw_I G ad k σ th g) (hw : h_W G.1 h_cl A s.heap ad k H locs) (hl : lv_has ls 8 (lw_L b ad n)) : W p l e room_1 s m #[Value.ref b] below meth c H locs cells slots Q (F0 m 169 ls []) := by
  obtain ⟨X, hlt, hZ, hXs, hbl, hbA, hL, hn⟩ := GG
  obtain ⟨hR, hM, hiv, hg⟩ := id I
  have hok := hR.ok
  have hl : lv_has ls 8 [(0, .ref b), (1, .ref (ad (0, 0, 0))), (2, .ref (ad (20, 0, 0))), (3, .ref (ad (21, 0, 0))), (4, .int (nI n))] := hl
  refine lv_aload_n X.1 X.2.1 dL_law_169 rfl (lv_at hl 1 rfl) ?_
  refine lv_aload_n X.1 X.2.1 dL_law_170 rfl (lv_at hl 0 rfl) ?_
  refine lv_iload X.1 X.2.1 dL_law_171 (lv_at hl 4 rfl) ?_
  refine lv_iconst (v := 1) X.1 X.2.1 dL_law_173 (by decide) ?_
  refine lv_iadd X.1 X.2.1 dL_law_174 ?_
  refine h_ti (b := nI (n + 1)) (nI_add n 1) ?_
  refine va_sld X.1 X.2.1 hXs hbl hbA hw.S (vp_in_nI (n := (n + 1)) (by omega) (by omega)) dL_law_175 ?_
  refine h_ti (b := xs (n + 1)) (by rw [nI_clamp (by omega)]) ?_
  refine h_callWV (t := (0, 0, 0)) (As := [.int (xs (n + 1))]) (rest := []) X hw cs_L_44 (c_X3_octet l G hR (xs (n + 1))) hR.1 rfl rfl hl.1 rfl (Nat.le_of_ble_eq_true rfl) ⟨by decide, by decide⟩ ⟨by show _ ≤ 601024; omega, by show _ ≤ 7293000; omega⟩ dL_law_176 (fun r9 ad1 k1 H locs hp9 hw => ?_)
  obtain ⟨rfl, hR1, hf1, ha1⟩ := hp9
  refine W.eq (g2 := F0 m 179 ls []) rfl ?_
  have eb1_0 : ad (0, 0, 0) = ad1 (0, 0, 0) := (ha1).symm
  have eb1_1 : ad (20, 0, 0) = ad1 (20, 0, 0) := ((hf1 (20, 0, 0) (Nat.le_of_ble_eq_true rfl)).2).symm
  have eb1_2 : ad (21, 0, 0) = ad1 (21, 0, 0) := ((hf1 (21, 0, 0) (Nat.le_of_ble_eq_true rfl)).2).symm
  simp only [eb1_0, eb1_1, eb1_2] at hl
  have hM1 : RM G ad1 k1 σ th := hM.congr (fun t ht => hf1 t (by omega))
  refine lv_aload_n X.1 X.2.1 dL_law_179 rfl (lv_at hl 2 rfl) ?_
  refine lv_aload_n X.1 X.2.1 dL_law_180 rfl (lv_at hl 0 rfl) ?_
  refine lv_iload X.1 X.2.1 dL_law_181 (lv_at hl 4 rfl) ?_
  refine lv_iconst (v := 1) X.1 X.2.1 dL_law_183 (by decide) ?_
  refine lv_iadd X.1 X.2.1 dL_law_184 ?_
  refine h_ti (b := nI (n + 1)) (nI_add n 1) ?_
  refine va_sld X.1 X.2.1 hXs hbl hbA hw.S (vp_in_nI (n := (n + 1)) (by omega) (by omega)) dL_law_185 ?_
  refine h_ti (b := xs (n + 1)) (by rw [nI_clamp (by omega)]) ?_
  refine h_callWV (t := (20, 0, 0)) (As := [.int (xs (n + 1))]) (rest := []) X hw cs_L_47 (c_X4_octet l G hM1 (xs (n + 1))) hM1.1 rfl rfl hl.1 rfl (Nat.le_of_ble_eq_true rfl) ⟨by decide, by decide⟩ ⟨by show _ ≤ 601024; omega, by show _ ≤ 7293000; omega⟩ dL_law_186 (fun r9 ad2 k2 H locs hp9 hw => ?_)
  obtain ⟨rfl, ea2, hM2, ho2⟩ := hp9
  refine W.eq (g2 := F0 m 189 ls []) rfl ?_
  replace hw := hw.renA ea2.symm
  refine lv_goto (tgt := 986) X.1 X.2.1 dL_law_189 (by decide) ?_
  have hR2 := hR1.congr (k' := k2) (ad' := ad1) (fun t ht _ => ⟨ho2 t (by omega), rfl⟩)
  refine W.widen (k := cells + 81) (n := slots + 806) (by omega) (by omega) ?_
  exact K ad1 k2 _ 0 g _ _ ls ⟨hR2, hM2, iv_octet hiv _, by rw [ho2 _ (by decide), (hf1 _ (Nat.le_of_ble_eq_true rfl)).1]; exact hg⟩ hw (lv_sub hl [0, 1, 2, 3, 4] rfl)
set_option maxHeartbeats 4000000 in
set_option maxRecDepth 100000 in
theorem lw_c2 {p : Program} {l : Launch} {e : Env} {s : State} {m : MethodId} {below : List Frame} {meth : Method} {c : Code} {G : h_G} {A : Nat → Prop} {b L n cells slots : Nat} {xs : Nat → Int32} {Q : State → Prop} {ad : h_T → Nat} {k : h_C} {σ : S_t} {th : Int32} {g : Nat → Int64} {H : Heap} {locs : List Loc} {ls : Array Slot} (GG : lw_G p l s m c G A b L n xs) (hc : cells + 81 ≤ 601024) (hs : slots + 806 ≤ 7293000) (K : lw_K p l e s m below meth c G A b n (cells + 81) (slots + 806) Q) (I : lw_I G ad k σ th g) (hw : h_W G.1 h_cl A s.heap ad k H locs) (hl : lv_has ls 8 (lw_L b ad n)) : W p l e room_1 s m #[Value.ref b] below meth c H locs cells slots Q (F0 m 192 ls []) := by
  obtain ⟨X, hlt, hZ, hXs, hbl, hbA, hL, hn⟩ := GG
  obtain ⟨hR, hM, hiv, hg⟩ := id I
  have hok := hR.ok
  have hl : lv_has ls 8 [(0, .ref b), (1, .ref (ad (0, 0, 0))), (2, .ref (ad (20, 0, 0))), (3, .ref (ad (21, 0, 0))), (4, .int (nI n))] := hl
  refine lv_aload_n X.1 X.2.1 dL_law_192 rfl (lv_at hl 1 rfl) ?_
  refine lv_aload_n X.1 X.2.1 dL_law_193 rfl (lv_at hl 0 rfl) ?_
  refine lv_iload X.1 X.2.1 dL_law_194 (lv_at hl 4 rfl) ?_
  refine lv_iconst (v := 1) X.1 X.2.1 dL_law_196 (by decide) ?_
  refine lv_iadd X.1 X.2.1 dL_law_197 ?_
  refine h_ti (b := nI (n + 1)) (nI_add n 1) ?_
  refine va_sld X.1 X.2.1 hXs hbl hbA hw.S (vp_in_nI (n := (n + 1)) (by omega) (by omega)) dL_law_198 ?_
  refine h_ti (b := xs (n + 1)) (by rw [nI_clamp (by omega)]) ?_
  refine h_callWV (t := (0, 0, 0)) (As := [.int (xs (n + 1))]) (rest := []) X hw cs_L_48 (c_X3_put l G hR (xs (n + 1))) hR.1 rfl rfl hl.1 rfl (Nat.le_of_ble_eq_true rfl) ⟨by decide, by decide⟩ ⟨by show _ ≤ 601024; omega, by show _ ≤ 7293000; omega⟩ dL_law_199 (fun r9 ad1 k1 H locs hp9 hw => ?_)
  obtain ⟨rfl, hR1, hf1, ha1⟩ := hp9
  refine W.eq (g2 := F0 m 202 ls [.int ((sp_put σ (xs (n + 1))).1)]) rfl ?_
  have eb1_0 : ad (0, 0, 0) = ad1 (0, 0, 0) := (ha1).symm
  have eb1_1 : ad (20, 0, 0) = ad1 (20, 0, 0) := ((hf1 (20, 0, 0) (Nat.le_of_ble_eq_true rfl)).2).symm
  have eb1_2 : ad (21, 0, 0) = ad1 (21, 0, 0) := ((hf1 (21, 0, 0) (Nat.le_of_ble_eq_true rfl)).2).symm
  simp only [eb1_0, eb1_1, eb1_2] at hl
  have hM1 : RM G ad1 k1 σ th := hM.congr (fun t ht => hf1 t (by omega))
  refine lv_aload_n X.1 X.2.1 dL_law_202 rfl (lv_at hl 2 rfl) ?_
  refine lv_aload_n X.1 X.2.1 dL_law_203 rfl (lv_at hl 0 rfl) ?_
  refine lv_iload X.1 X.2.1 dL_law_204 (lv_at hl 4 rfl) ?_
  refine lv_iconst (v := 1) X.1 X.2.1 dL_law_206 (by decide) ?_
  refine lv_iadd X.1 X.2.1 dL_law_207 ?_
  refine h_ti (b := nI (n + 1)) (nI_add n 1) ?_
  refine va_sld X.1 X.2.1 hXs hbl hbA hw.S (vp_in_nI (n := (n + 1)) (by omega) (by omega)) dL_law_208 ?_
  refine h_ti (b := xs (n + 1)) (by rw [nI_clamp (by omega)]) ?_
  refine h_callWV (t := (20, 0, 0)) (As := [.int (xs (n + 1))]) (rest := [.int ((sp_put σ (xs (n + 1))).1)]) X hw cs_L_51 (c_X4_put l G hM1 (xs (n + 1))) hM1.1 rfl rfl hl.1 rfl (Nat.le_of_ble_eq_true rfl) ⟨by decide, by decide⟩ ⟨by show _ ≤ 601024; omega, by show _ ≤ 7293000; omega⟩ dL_law_209 (fun r9 ad2 k2 H locs hp9 hw => ?_)
  obtain ⟨rfl, ea2, hM2, ho2⟩ := hp9
  refine W.eq (g2 := F0 m 212 ls [.int ((sp_put σ (xs (n + 1))).1), .int ((sp_put σ (xs (n + 1))).1)]) rfl ?_
  replace hw := hw.renA ea2.symm
  refine lv_icmp_eq (tgt := 986) X.1 X.2.1 dL_law_212 (by decide) (fun c212 => ?_) (fun c212 => ?_)
  · have hR2 := hR1.congr (k' := k2) (ad' := ad1) (fun t ht _ => ⟨ho2 t (by omega), rfl⟩)
    refine W.widen (k := cells + 81) (n := slots + 806) (by omega) (by omega) ?_
    exact K ad1 k2 _ 0 g _ _ ls ⟨hR2, hM2, iv_sput hiv hok _, by rw [ho2 _ (by decide), (hf1 _ (Nat.le_of_ble_eq_true rfl)).1]; exact hg⟩ hw (lv_sub hl [0, 1, 2, 3, 4] rfl)
  · exact absurd rfl c212
set_option maxHeartbeats 4000000 in
set_option maxRecDepth 100000 in
theorem lw_c4 {p : Program} {l : Launch} {e : Env} {s : State} {m : MethodId} {below : List Frame} {meth : Method} {c : Code} {G : h_G} {A : Nat → Prop} {b L n cells slots : Nat} {xs : Nat → Int32} {Q : State → Prop} {ad : h_T → Nat} {k : h_C} {σ : S_t} {th : Int32} {g : Nat → Int64} {H : Heap} {locs : List Loc} {ls : Array Slot} (GG : lw_G p l s m c G A b L n xs) (hc : cells + 81 ≤ 601024) (hs : slots + 806 ≤ 7293000) (K : lw_K p l e s m below meth c G A b n (cells + 81) (slots + 806) Q) (I : lw_I G ad k σ th g) (hw : h_W G.1 h_cl A s.heap ad k H locs) (hl : lv_has ls 8 (lw_L b ad n)) : W p l e room_1 s m #[Value.ref b] below meth c H locs cells slots Q (F0 m 270 ls []) := by
  obtain ⟨X, hlt, hZ, hXs, hbl, hbA, hL, hn⟩ := GG
  obtain ⟨hR, hM, hiv, hg⟩ := id I
  have hok := hR.ok
  have hl : lv_has ls 8 [(0, .ref b), (1, .ref (ad (0, 0, 0))), (2, .ref (ad (20, 0, 0))), (3, .ref (ad (21, 0, 0))), (4, .int (nI n))] := hl
  refine lv_aload_n X.1 X.2.1 dL_law_270 rfl (lv_at hl 1 rfl) ?_
  refine lv_aload_n X.1 X.2.1 dL_law_271 rfl (lv_at hl 0 rfl) ?_
  refine lv_iload X.1 X.2.1 dL_law_272 (lv_at hl 4 rfl) ?_
  refine lv_iconst (v := 1) X.1 X.2.1 dL_law_274 (by decide) ?_
  refine lv_iadd X.1 X.2.1 dL_law_275 ?_
  refine h_ti (b := nI (n + 1)) (nI_add n 1) ?_
  refine va_sld X.1 X.2.1 hXs hbl hbA hw.S (vp_in_nI (n := (n + 1)) (by omega) (by omega)) dL_law_276 ?_
  refine h_ti (b := xs (n + 1)) (by rw [nI_clamp (by omega)]) ?_
  refine lv_aload_n X.1 X.2.1 dL_law_277 rfl (lv_at hl 0 rfl) ?_
  refine lv_iload X.1 X.2.1 dL_law_278 (lv_at hl 4 rfl) ?_
  refine lv_iconst (v := 2) X.1 X.2.1 dL_law_280 (by decide) ?_
  refine lv_iadd X.1 X.2.1 dL_law_281 ?_
  refine h_ti (b := nI (n + 2)) (nI_add n 2) ?_
  refine va_sld X.1 X.2.1 hXs hbl hbA hw.S (vp_in_nI (n := (n + 2)) (by omega) (by omega)) dL_law_282 ?_
  refine h_ti (b := xs (n + 2)) (by rw [nI_clamp (by omega)]) ?_
  refine lv_aload_n X.1 X.2.1 dL_law_283 rfl (lv_at hl 0 rfl) ?_
  refine lv_iload X.1 X.2.1 dL_law_284 (lv_at hl 4 rfl) ?_
  refine lv_iconst (v := 3) X.1 X.2.1 dL_law_286 (by decide) ?_
  refine lv_iadd X.1 X.2.1 dL_law_287 ?_
  refine h_ti (b := nI (n + 3)) (nI_add n 3) ?_
  refine va_sld X.1 X.2.1 hXs hbl hbA hw.S (vp_in_nI (n := (n + 3)) (by omega) (by omega)) dL_law_288 ?_
  refine h_ti (b := xs (n + 3)) (by rw [nI_clamp (by omega)]) ?_
  refine lv_aload_n X.1 X.2.1 dL_law_289 rfl (lv_at hl 0 rfl) ?_
  refine lv_iload X.1 X.2.1 dL_law_290 (lv_at hl 4 rfl) ?_
  refine lv_iconst (v := 4) X.1 X.2.1 dL_law_292 (by decide) ?_
  refine lv_iadd X.1 X.2.1 dL_law_293 ?_
  refine h_ti (b := nI (n + 4)) (nI_add n 4) ?_
  refine va_sld X.1 X.2.1 hXs hbl hbA hw.S (vp_in_nI (n := (n + 4)) (by omega) (by omega)) dL_law_294 ?_
  refine h_ti (b := xs (n + 4)) (by rw [nI_clamp (by omega)]) ?_
  refine h_callWV (t := (0, 0, 0)) (As := [.int (xs (n + 1)), .int (xs (n + 2)), .int (xs (n + 3)), .int (xs (n + 4))]) (rest := []) X hw cs_L_57 (c_X3_alter l G hR (xs (n + 1)) (xs (n + 2)) (xs (n + 3)) (xs (n + 4))) hR.1 rfl rfl hl.1 rfl (Nat.le_of_ble_eq_true rfl) ⟨by decide, by decide⟩ ⟨by show _ ≤ 601024; omega, by show _ ≤ 7293000; omega⟩ dL_law_295 (fun r9 ad1 k1 H locs hp9 hw => ?_)
  obtain ⟨rfl, hR1, hf1, ha1⟩ := hp9
  refine W.eq (g2 := F0 m 298 ls [.int ((sp_alter σ (xs (n + 1)) (xs (n + 2)) (xs (n + 3)) (xs (n + 4))).1)]) rfl ?_
  have eb1_0 : ad (0, 0, 0) = ad1 (0, 0, 0) := (ha1).symm
  have eb1_1 : ad (20, 0, 0) = ad1 (20, 0, 0) := ((hf1 (20, 0, 0) (Nat.le_of_ble_eq_true rfl)).2).symm
  have eb1_2 : ad (21, 0, 0) = ad1 (21, 0, 0) := ((hf1 (21, 0, 0) (Nat.le_of_ble_eq_true rfl)).2).symm
  simp only [eb1_0, eb1_1, eb1_2] at hl
  have hM1 : RM G ad1 k1 σ th := hM.congr (fun t ht => hf1 t (by omega))
  refine lv_aload_n X.1 X.2.1 dL_law_298 rfl (lv_at hl 2 rfl) ?_
  refine lv_aload_n X.1 X.2.1 dL_law_299 rfl (lv_at hl 0 rfl) ?_
  refine lv_iload X.1 X.2.1 dL_law_300 (lv_at hl 4 rfl) ?_
  refine lv_iconst (v := 1) X.1 X.2.1 dL_law_302 (by decide) ?_
  refine lv_iadd X.1 X.2.1 dL_law_303 ?_
  refine h_ti (b := nI (n + 1)) (nI_add n 1) ?_
  refine va_sld X.1 X.2.1 hXs hbl hbA hw.S (vp_in_nI (n := (n + 1)) (by omega) (by omega)) dL_law_304 ?_
  refine h_ti (b := xs (n + 1)) (by rw [nI_clamp (by omega)]) ?_
  refine lv_aload_n X.1 X.2.1 dL_law_305 rfl (lv_at hl 0 rfl) ?_
  refine lv_iload X.1 X.2.1 dL_law_306 (lv_at hl 4 rfl) ?_
  refine lv_iconst (v := 2) X.1 X.2.1 dL_law_308 (by decide) ?_
  refine lv_iadd X.1 X.2.1 dL_law_309 ?_
  refine h_ti (b := nI (n + 2)) (nI_add n 2) ?_
  refine va_sld X.1 X.2.1 hXs hbl hbA hw.S (vp_in_nI (n := (n + 2)) (by omega) (by omega)) dL_law_310 ?_
  refine h_ti (b := xs (n + 2)) (by rw [nI_clamp (by omega)]) ?_
  refine lv_aload_n X.1 X.2.1 dL_law_311 rfl (lv_at hl 0 rfl) ?_
  refine lv_iload X.1 X.2.1 dL_law_312 (lv_at hl 4 rfl) ?_
  refine lv_iconst (v := 3) X.1 X.2.1 dL_law_314 (by decide) ?_
  refine lv_iadd X.1 X.2.1 dL_law_315 ?_
  refine h_ti (b := nI (n + 3)) (nI_add n 3) ?_
  refine va_sld X.1 X.2.1 hXs hbl hbA hw.S (vp_in_nI (n := (n + 3)) (by omega) (by omega)) dL_law_316 ?_
  refine h_ti (b := xs (n + 3)) (by rw [nI_clamp (by omega)]) ?_
  refine lv_aload_n X.1 X.2.1 dL_law_317 rfl (lv_at hl 0 rfl) ?_
  refine lv_iload X.1 X.2.1 dL_law_318 (lv_at hl 4 rfl) ?_
  refine lv_iconst (v := 4) X.1 X.2.1 dL_law_320 (by decide) ?_
  refine lv_iadd X.1 X.2.1 dL_law_321 ?_
  refine h_ti (b := nI (n + 4)) (nI_add n 4) ?_
  refine va_sld X.1 X.2.1 hXs hbl hbA hw.S (vp_in_nI (n := (n + 4)) (by omega) (by omega)) dL_law_322 ?_
  refine h_ti (b := xs (n + 4)) (by rw [nI_clamp (by omega)]) ?_
  refine h_callWV (t := (20, 0, 0)) (As := [.int (xs (n + 1)), .int (xs (n + 2)), .int (xs (n + 3)), .int (xs (n + 4))]) (rest := [.int ((sp_alter σ (xs (n + 1)) (xs (n + 2)) (xs (n + 3)) (xs (n + 4))).1)]) X hw cs_L_61 (c_X4_alter l G hM1 (xs (n + 1)) (xs (n + 2)) (xs (n + 3)) (xs (n + 4))) hM1.1 rfl rfl hl.1 rfl (Nat.le_of_ble_eq_true rfl) ⟨by decide, by decide⟩ ⟨by show _ ≤ 601024; omega, by show _ ≤ 7293000; omega⟩ dL_law_323 (fun r9 ad2 k2 H locs hp9 hw => ?_)
  obtain ⟨rfl, ea2, hM2, ho2⟩ := hp9
  refine W.eq (g2 := F0 m 326 ls [.int ((sp_alter σ (xs (n + 1)) (xs (n + 2)) (xs (n + 3)) (xs (n + 4))).1), .int ((sp_alter σ (xs (n + 1)) (xs (n + 2)) (xs (n + 3)) (xs (n + 4))).1)]) rfl ?_
  replace hw := hw.renA ea2.symm
  refine lv_icmp_eq (tgt := 986) X.1 X.2.1 dL_law_326 (by decide) (fun c326 => ?_) (fun c326 => ?_)
  · have hR2 := hR1.congr (k' := k2) (ad' := ad1) (fun t ht _ => ⟨ho2 t (by omega), rfl⟩)
    refine W.widen (k := cells + 81) (n := slots + 806) (by omega) (by omega) ?_
    exact K ad1 k2 _ 0 g _ _ ls ⟨hR2, hM2, iv_alter hiv _ _ _ _, by rw [ho2 _ (by decide), (hf1 _ (Nat.le_of_ble_eq_true rfl)).1]; exact hg⟩ hw (lv_sub hl [0, 1, 2, 3, 4] rfl)
  · exact absurd rfl c326
set_option maxHeartbeats 4000000 in
set_option maxRecDepth 100000 in
theorem lw_c5 {p : Program} {l : Launch} {e : Env} {s : State} {m : MethodId} {below : List Frame} {meth : Method} {c : Code} {G : h_G} {A : Nat → Prop} {b L n cells slots : Nat} {xs : Nat → Int32} {Q : State → Prop} {ad : h_T → Nat} {k : h_C} {σ : S_t} {th : Int32} {g : Nat → Int64} {H : Heap} {locs : List Loc} {ls : Array Slot} (GG : lw_G p l s m c G A b L n xs) (hc : cells + 81 ≤ 601024) (hs : slots + 806 ≤ 7293000) (K : lw_K p l e s m below meth c G A b n (cells + 81) (slots + 806) Q) (I : lw_I G ad k σ th g) (hw : h_W G.1 h_cl A s.heap ad k H locs) (hl : lv_has ls 8 (lw_L b ad n)) : W p l e room_1 s m #[Value.ref b] below meth c H locs cells slots Q (F0 m 331 ls []) := by
  obtain ⟨X, hlt, hZ, hXs, hbl, hbA, hL, hn⟩ := GG
  obtain ⟨hR, hM, hiv, hg⟩ := id I
  have hok := hR.ok
  have hl : lv_has ls 8 [(0, .ref b), (1, .ref (ad (0, 0, 0))), (2, .ref (ad (20, 0, 0))), (3, .ref (ad (21, 0, 0))), (4, .int (nI n))] := hl
  refine lv_aload_n X.1 X.2.1 dL_law_331 rfl (lv_at hl 1 rfl) ?_
  refine lv_aload_n X.1 X.2.1 dL_law_332 rfl (lv_at hl 0 rfl) ?_
  refine lv_iload X.1 X.2.1 dL_law_333 (lv_at hl 4 rfl) ?_
  refine lv_iconst (v := 1) X.1 X.2.1 dL_law_335 (by decide) ?_
  refine lv_iadd X.1 X.2.1 dL_law_336 ?_
  refine h_ti (b := nI (n + 1)) (nI_add n 1) ?_
  refine va_sld X.1 X.2.1 hXs hbl hbA hw.S (vp_in_nI (n := (n + 1)) (by omega) (by omega)) dL_law_337 ?_
  refine h_ti (b := xs (n + 1)) (by rw [nI_clamp (by omega)]) ?_
  refine lv_aload_n X.1 X.2.1 dL_law_338 rfl (lv_at hl 0 rfl) ?_
  refine lv_iload X.1 X.2.1 dL_law_339 (lv_at hl 4 rfl) ?_
  refine lv_iconst (v := 2) X.1 X.2.1 dL_law_341 (by decide) ?_
  refine lv_iadd X.1 X.2.1 dL_law_342 ?_
  refine h_ti (b := nI (n + 2)) (nI_add n 2) ?_
  refine va_sld X.1 X.2.1 hXs hbl hbA hw.S (vp_in_nI (n := (n + 2)) (by omega) (by omega)) dL_law_343 ?_
  refine h_ti (b := xs (n + 2)) (by rw [nI_clamp (by omega)]) ?_
  refine lv_aload_n X.1 X.2.1 dL_law_344 rfl (lv_at hl 0 rfl) ?_
  refine lv_iload X.1 X.2.1 dL_law_345 (lv_at hl 4 rfl) ?_
  refine lv_iconst (v := 3) X.1 X.2.1 dL_law_347 (by decide) ?_
  refine lv_iadd X.1 X.2.1 dL_law_348 ?_
  refine h_ti (b := nI (n + 3)) (nI_add n 3) ?_
  refine va_sld X.1 X.2.1 hXs hbl hbA hw.S (vp_in_nI (n := (n + 3)) (by omega) (by omega)) dL_law_349 ?_
  refine h_ti (b := xs (n + 3)) (by rw [nI_clamp (by omega)]) ?_
  refine h_callWV (t := (0, 0, 0)) (As := [.int (xs (n + 1)), .int (xs (n + 2)), .int (xs (n + 3))]) (rest := []) X hw cs_L_62 (c_X3_cut l G hR (xs (n + 1)) (xs (n + 2)) (xs (n + 3))) hR.1 rfl rfl hl.1 rfl (Nat.le_of_ble_eq_true rfl) ⟨by decide, by decide⟩ ⟨by show _ ≤ 601024; omega, by show _ ≤ 7293000; omega⟩ dL_law_350 (fun r9 ad1 k1 H locs hp9 hw => ?_)
  obtain ⟨rfl, hR1, hf1, ha1⟩ := hp9
  refine W.eq (g2 := F0 m 353 ls [.int ((sp_cut σ (xs (n + 1)) (xs (n + 2)) (xs (n + 3))).1)]) rfl ?_
  have eb1_0 : ad (0, 0, 0) = ad1 (0, 0, 0) := (ha1).symm
  have eb1_1 : ad (20, 0, 0) = ad1 (20, 0, 0) := ((hf1 (20, 0, 0) (Nat.le_of_ble_eq_true rfl)).2).symm
  have eb1_2 : ad (21, 0, 0) = ad1 (21, 0, 0) := ((hf1 (21, 0, 0) (Nat.le_of_ble_eq_true rfl)).2).symm
  simp only [eb1_0, eb1_1, eb1_2] at hl
  have hM1 : RM G ad1 k1 σ th := hM.congr (fun t ht => hf1 t (by omega))
  refine lv_aload_n X.1 X.2.1 dL_law_353 rfl (lv_at hl 2 rfl) ?_
  refine lv_aload_n X.1 X.2.1 dL_law_354 rfl (lv_at hl 0 rfl) ?_
  refine lv_iload X.1 X.2.1 dL_law_355 (lv_at hl 4 rfl) ?_
  refine lv_iconst (v := 1) X.1 X.2.1 dL_law_357 (by decide) ?_
  refine lv_iadd X.1 X.2.1 dL_law_358 ?_
  refine h_ti (b := nI (n + 1)) (nI_add n 1) ?_
  refine va_sld X.1 X.2.1 hXs hbl hbA hw.S (vp_in_nI (n := (n + 1)) (by omega) (by omega)) dL_law_359 ?_
  refine h_ti (b := xs (n + 1)) (by rw [nI_clamp (by omega)]) ?_
  refine lv_aload_n X.1 X.2.1 dL_law_360 rfl (lv_at hl 0 rfl) ?_
  refine lv_iload X.1 X.2.1 dL_law_361 (lv_at hl 4 rfl) ?_
  refine lv_iconst (v := 2) X.1 X.2.1 dL_law_363 (by decide) ?_
  refine lv_iadd X.1 X.2.1 dL_law_364 ?_
  refine h_ti (b := nI (n + 2)) (nI_add n 2) ?_
  refine va_sld X.1 X.2.1 hXs hbl hbA hw.S (vp_in_nI (n := (n + 2)) (by omega) (by omega)) dL_law_365 ?_
  refine h_ti (b := xs (n + 2)) (by rw [nI_clamp (by omega)]) ?_
  refine lv_aload_n X.1 X.2.1 dL_law_366 rfl (lv_at hl 0 rfl) ?_
  refine lv_iload X.1 X.2.1 dL_law_367 (lv_at hl 4 rfl) ?_
  refine lv_iconst (v := 3) X.1 X.2.1 dL_law_369 (by decide) ?_
  refine lv_iadd X.1 X.2.1 dL_law_370 ?_
  refine h_ti (b := nI (n + 3)) (nI_add n 3) ?_
  refine va_sld X.1 X.2.1 hXs hbl hbA hw.S (vp_in_nI (n := (n + 3)) (by omega) (by omega)) dL_law_371 ?_
  refine h_ti (b := xs (n + 3)) (by rw [nI_clamp (by omega)]) ?_
  refine h_callWV (t := (20, 0, 0)) (As := [.int (xs (n + 1)), .int (xs (n + 2)), .int (xs (n + 3))]) (rest := [.int ((sp_cut σ (xs (n + 1)) (xs (n + 2)) (xs (n + 3))).1)]) X hw cs_L_65 (c_X4_cut l G hM1 (xs (n + 1)) (xs (n + 2)) (xs (n + 3))) hM1.1 rfl rfl hl.1 rfl (Nat.le_of_ble_eq_true rfl) ⟨by decide, by decide⟩ ⟨by show _ ≤ 601024; omega, by show _ ≤ 7293000; omega⟩ dL_law_372 (fun r9 ad2 k2 H locs hp9 hw => ?_)
  obtain ⟨rfl, ea2, hM2, ho2⟩ := hp9
  refine W.eq (g2 := F0 m 375 ls [.int ((sp_cut σ (xs (n + 1)) (xs (n + 2)) (xs (n + 3))).1), .int ((sp_cut σ (xs (n + 1)) (xs (n + 2)) (xs (n + 3))).1)]) rfl ?_
  replace hw := hw.renA ea2.symm
  refine lv_icmp_eq (tgt := 986) X.1 X.2.1 dL_law_375 (by decide) (fun c375 => ?_) (fun c375 => ?_)
  · have hR2 := hR1.congr (k' := k2) (ad' := ad1) (fun t ht _ => ⟨ho2 t (by omega), rfl⟩)
    refine W.widen (k := cells + 81) (n := slots + 806) (by omega) (by omega) ?_
    exact K ad1 k2 _ 0 g _ _ ls ⟨hR2, hM2, iv_cut hiv _ _ _, by rw [ho2 _ (by decide), (hf1 _ (Nat.le_of_ble_eq_true rfl)).1]; exact hg⟩ hw (lv_sub hl [0, 1, 2, 3, 4] rfl)
  · exact absurd rfl c375
set_option maxHeartbeats 4000000 in
set_option maxRecDepth 100000 in
theorem lw_c6 {p : Program} {l : Launch} {e : Env} {s : State} {m : MethodId} {below : List Frame} {meth : Method} {c : Code} {G : h_G} {A : Nat → Prop} {b L n cells slots : Nat} {xs : Nat → Int32} {Q : State → Prop} {ad : h_T → Nat} {k : h_C} {σ : S_t} {th : Int32} {g : Nat → Int64} {H : Heap} {locs : List Loc} {ls : Array Slot} (GG : lw_G p l s m c G A b L n xs) (hc : cells + 81 ≤ 601024) (hs : slots + 806 ≤ 7293000) (K : lw_K p l e s m below meth c G A b n (cells + 81) (slots + 806) Q) (I : lw_I G ad k σ th g) (hw : h_W G.1 h_cl A s.heap ad k H locs) (hl : lv_has ls 8 (lw_L b ad n)) : W p l e room_1 s m #[Value.ref b] below meth c H locs cells slots Q (F0 m 380 ls []) := by
  obtain ⟨X, hlt, hZ, hXs, hbl, hbA, hL, hn⟩ := GG
  obtain ⟨hR, hM, hiv, hg⟩ := id I
  have hok := hR.ok
  have hl : lv_has ls 8 [(0, .ref b), (1, .ref (ad (0, 0, 0))), (2, .ref (ad (20, 0, 0))), (3, .ref (ad (21, 0, 0))), (4, .int (nI n))] := hl
  refine lv_aload_n X.1 X.2.1 dL_law_380 rfl (lv_at hl 1 rfl) ?_
  refine lv_aload_n X.1 X.2.1 dL_law_381 rfl (lv_at hl 0 rfl) ?_
  refine lv_iload X.1 X.2.1 dL_law_382 (lv_at hl 4 rfl) ?_
  refine lv_iconst (v := 1) X.1 X.2.1 dL_law_384 (by decide) ?_
  refine lv_iadd X.1 X.2.1 dL_law_385 ?_
  refine h_ti (b := nI (n + 1)) (nI_add n 1) ?_
  refine va_sld X.1 X.2.1 hXs hbl hbA hw.S (vp_in_nI (n := (n + 1)) (by omega) (by omega)) dL_law_386 ?_
  refine h_ti (b := xs (n + 1)) (by rw [nI_clamp (by omega)]) ?_
  refine lv_aload_n X.1 X.2.1 dL_law_387 rfl (lv_at hl 0 rfl) ?_
  refine lv_iload X.1 X.2.1 dL_law_388 (lv_at hl 4 rfl) ?_
  refine lv_iconst (v := 2) X.1 X.2.1 dL_law_390 (by decide) ?_
  refine lv_iadd X.1 X.2.1 dL_law_391 ?_
  refine h_ti (b := nI (n + 2)) (nI_add n 2) ?_
  refine va_sld X.1 X.2.1 hXs hbl hbA hw.S (vp_in_nI (n := (n + 2)) (by omega) (by omega)) dL_law_392 ?_
  refine h_ti (b := xs (n + 2)) (by rw [nI_clamp (by omega)]) ?_
  refine h_callWV (t := (0, 0, 0)) (As := [.int (xs (n + 1)), .int (xs (n + 2))]) (rest := []) X hw cs_L_66 (c_X3_lose l G hR (xs (n + 1)) (xs (n + 2))) hR.1 rfl rfl hl.1 rfl (Nat.le_of_ble_eq_true rfl) ⟨by decide, by decide⟩ ⟨by show _ ≤ 601024; omega, by show _ ≤ 7293000; omega⟩ dL_law_393 (fun r9 ad1 k1 H locs hp9 hw => ?_)
  obtain ⟨rfl, hR1, hf1, ha1⟩ := hp9
  refine W.eq (g2 := F0 m 396 ls [.int ((sp_lose σ (xs (n + 1)) (xs (n + 2))).1)]) rfl ?_
  have eb1_0 : ad (0, 0, 0) = ad1 (0, 0, 0) := (ha1).symm
  have eb1_1 : ad (20, 0, 0) = ad1 (20, 0, 0) := ((hf1 (20, 0, 0) (Nat.le_of_ble_eq_true rfl)).2).symm
  have eb1_2 : ad (21, 0, 0) = ad1 (21, 0, 0) := ((hf1 (21, 0, 0) (Nat.le_of_ble_eq_true rfl)).2).symm
  simp only [eb1_0, eb1_1, eb1_2] at hl
  have hM1 : RM G ad1 k1 σ th := hM.congr (fun t ht => hf1 t (by omega))
  refine lv_aload_n X.1 X.2.1 dL_law_396 rfl (lv_at hl 2 rfl) ?_
  refine lv_aload_n X.1 X.2.1 dL_law_397 rfl (lv_at hl 0 rfl) ?_
  refine lv_iload X.1 X.2.1 dL_law_398 (lv_at hl 4 rfl) ?_
  refine lv_iconst (v := 1) X.1 X.2.1 dL_law_400 (by decide) ?_
  refine lv_iadd X.1 X.2.1 dL_law_401 ?_
  refine h_ti (b := nI (n + 1)) (nI_add n 1) ?_
  refine va_sld X.1 X.2.1 hXs hbl hbA hw.S (vp_in_nI (n := (n + 1)) (by omega) (by omega)) dL_law_402 ?_
  refine h_ti (b := xs (n + 1)) (by rw [nI_clamp (by omega)]) ?_
  refine lv_aload_n X.1 X.2.1 dL_law_403 rfl (lv_at hl 0 rfl) ?_
  refine lv_iload X.1 X.2.1 dL_law_404 (lv_at hl 4 rfl) ?_
  refine lv_iconst (v := 2) X.1 X.2.1 dL_law_406 (by decide) ?_
  refine lv_iadd X.1 X.2.1 dL_law_407 ?_
  refine h_ti (b := nI (n + 2)) (nI_add n 2) ?_
  refine va_sld X.1 X.2.1 hXs hbl hbA hw.S (vp_in_nI (n := (n + 2)) (by omega) (by omega)) dL_law_408 ?_
  refine h_ti (b := xs (n + 2)) (by rw [nI_clamp (by omega)]) ?_
  refine h_callWV (t := (20, 0, 0)) (As := [.int (xs (n + 1)), .int (xs (n + 2))]) (rest := [.int ((sp_lose σ (xs (n + 1)) (xs (n + 2))).1)]) X hw cs_L_69 (c_X4_lose l G hM1 (xs (n + 1)) (xs (n + 2))) hM1.1 rfl rfl hl.1 rfl (Nat.le_of_ble_eq_true rfl) ⟨by decide, by decide⟩ ⟨by show _ ≤ 601024; omega, by show _ ≤ 7293000; omega⟩ dL_law_409 (fun r9 ad2 k2 H locs hp9 hw => ?_)
  obtain ⟨rfl, ea2, hM2, ho2⟩ := hp9
  refine W.eq (g2 := F0 m 412 ls [.int ((sp_lose σ (xs (n + 1)) (xs (n + 2))).1), .int ((sp_lose σ (xs (n + 1)) (xs (n + 2))).1)]) rfl ?_
  replace hw := hw.renA ea2.symm
  refine lv_icmp_eq (tgt := 986) X.1 X.2.1 dL_law_412 (by decide) (fun c412 => ?_) (fun c412 => ?_)
  · have hR2 := hR1.congr (k' := k2) (ad' := ad1) (fun t ht _ => ⟨ho2 t (by omega), rfl⟩)
    refine W.widen (k := cells + 81) (n := slots + 806) (by omega) (by omega) ?_
    exact K ad1 k2 _ 0 g _ _ ls ⟨hR2, hM2, iv_lose hiv _ _, by rw [ho2 _ (by decide), (hf1 _ (Nat.le_of_ble_eq_true rfl)).1]; exact hg⟩ hw (lv_sub hl [0, 1, 2, 3, 4] rfl)
  · exact absurd rfl c412
set_option maxHeartbeats 4000000 in
set_option maxRecDepth 100000 in
theorem lw_c9 {p : Program} {l : Launch} {e : Env} {s : State} {m : MethodId} {below : List Frame} {meth : Method} {c : Code} {G : h_G} {A : Nat → Prop} {b L n cells slots : Nat} {xs : Nat → Int32} {Q : State → Prop} {ad : h_T → Nat} {k : h_C} {σ : S_t} {th : Int32} {g : Nat → Int64} {H : Heap} {locs : List Loc} {ls : Array Slot} (GG : lw_G p l s m c G A b L n xs) (hc : cells + 81 ≤ 601024) (hs : slots + 806 ≤ 7293000) (K : lw_K p l e s m below meth c G A b n (cells + 81) (slots + 806) Q) (I : lw_I G ad k σ th g) (hw : h_W G.1 h_cl A s.heap ad k H locs) (hl : lv_has ls 8 (lw_L b ad n)) : W p l e room_1 s m #[Value.ref b] below meth c H locs cells slots Q (F0 m 554 ls []) := by
  obtain ⟨X, hlt, hZ, hXs, hbl, hbA, hL, hn⟩ := GG
  obtain ⟨hR, hM, hiv, hg⟩ := id I
  have hok := hR.ok
  have hl : lv_has ls 8 [(0, .ref b), (1, .ref (ad (0, 0, 0))), (2, .ref (ad (20, 0, 0))), (3, .ref (ad (21, 0, 0))), (4, .int (nI n))] := hl
  refine lv_aload_n X.1 X.2.1 dL_law_554 rfl (lv_at hl 1 rfl) ?_
  refine lv_aload_n X.1 X.2.1 dL_law_555 rfl (lv_at hl 0 rfl) ?_
  refine lv_iload X.1 X.2.1 dL_law_556 (lv_at hl 4 rfl) ?_
  refine lv_iconst (v := 1) X.1 X.2.1 dL_law_558 (by decide) ?_
  refine lv_iadd X.1 X.2.1 dL_law_559 ?_
  refine h_ti (b := nI (n + 1)) (nI_add n 1) ?_
  refine va_sld X.1 X.2.1 hXs hbl hbA hw.S (vp_in_nI (n := (n + 1)) (by omega) (by omega)) dL_law_560 ?_
  refine h_ti (b := xs (n + 1)) (by rw [nI_clamp (by omega)]) ?_
  refine h_callWV (t := (0, 0, 0)) (As := [.int (xs (n + 1))]) (rest := []) X hw cs_L_85 (c_X3_majority l G hR (xs (n + 1))) hR.1 rfl rfl hl.1 rfl (Nat.le_of_ble_eq_true rfl) ⟨by decide, by decide⟩ ⟨by show _ ≤ 601024; omega, by show _ ≤ 7293000; omega⟩ dL_law_561 (fun r9 ad1 k1 H locs hp9 hw => ?_)
  obtain ⟨rfl, hR1, hf1, ha1⟩ := hp9
  refine W.eq (g2 := F0 m 564 ls [.int ((sp_majority σ (xs (n + 1))).1)]) rfl ?_
  have eb1_0 : ad (0, 0, 0) = ad1 (0, 0, 0) := (ha1).symm
  have eb1_1 : ad (20, 0, 0) = ad1 (20, 0, 0) := ((hf1 (20, 0, 0) (Nat.le_of_ble_eq_true rfl)).2).symm
  have eb1_2 : ad (21, 0, 0) = ad1 (21, 0, 0) := ((hf1 (21, 0, 0) (Nat.le_of_ble_eq_true rfl)).2).symm
  simp only [eb1_0, eb1_1, eb1_2] at hl
  have hM1 : RM G ad1 k1 σ th := hM.congr (fun t ht => hf1 t (by omega))
  refine lv_aload_n X.1 X.2.1 dL_law_564 rfl (lv_at hl 2 rfl) ?_
  refine lv_aload_n X.1 X.2.1 dL_law_565 rfl (lv_at hl 0 rfl) ?_
  refine lv_iload X.1 X.2.1 dL_law_566 (lv_at hl 4 rfl) ?_
  refine lv_iconst (v := 1) X.1 X.2.1 dL_law_568 (by decide) ?_
  refine lv_iadd X.1 X.2.1 dL_law_569 ?_
  refine h_ti (b := nI (n + 1)) (nI_add n 1) ?_
  refine va_sld X.1 X.2.1 hXs hbl hbA hw.S (vp_in_nI (n := (n + 1)) (by omega) (by omega)) dL_law_570 ?_
  refine h_ti (b := xs (n + 1)) (by rw [nI_clamp (by omega)]) ?_
  refine h_callWV (t := (20, 0, 0)) (As := [.int (xs (n + 1))]) (rest := [.int ((sp_majority σ (xs (n + 1))).1)]) X hw cs_L_88 (c_X4_majority l G hM1 (xs (n + 1))) hM1.1 rfl rfl hl.1 rfl (Nat.le_of_ble_eq_true rfl) ⟨by decide, by decide⟩ ⟨by show _ ≤ 601024; omega, by show _ ≤ 7293000; omega⟩ dL_law_571 (fun r9 ad2 k2 H locs hp9 hw => ?_)
  obtain ⟨rfl, ea2, hM2, ho2⟩ := hp9
  refine W.eq (g2 := F0 m 574 ls [.int ((sp_majority σ (xs (n + 1))).1), .int ((sp_majority σ (xs (n + 1))).1)]) rfl ?_
  replace hw := hw.renA ea2.symm
  refine lv_icmp_eq (tgt := 986) X.1 X.2.1 dL_law_574 (by decide) (fun c574 => ?_) (fun c574 => ?_)
  · have hR2 := hR1.congr (k' := k2) (ad' := ad1) (fun t ht _ => ⟨ho2 t (by omega), rfl⟩)
    refine W.widen (k := cells + 81) (n := slots + 806) (by omega) (by omega) ?_
    exact K ad1 k2 _ 0 g _ _ ls ⟨hR2, hM2, iv_majority hiv _, by rw [ho2 _ (by decide), (hf1 _ (Nat.le_of_ble_eq_true rfl)).1]; exact hg⟩ hw (lv_sub hl [0, 1, 2, 3, 4] rfl)
  · exact absurd rfl c574
set_option maxHeartbeats 4000000 in
set_option maxRecDepth 100000 in
theorem lw_c10 {p : Program} {l : Launch} {e : Env} {s : State} {m : MethodId} {below : List Frame} {meth : Method} {c : Code} {G : h_G} {A : Nat → Prop} {b L n cells slots : Nat} {xs : Nat → Int32} {Q : State → Prop} {ad : h_T → Nat} {k : h_C} {σ : S_t} {th : Int32} {g : Nat → Int64} {H : Heap} {locs : List Loc} {ls : Array Slot} (GG : lw_G p l s m c G A b L n xs) (hc : cells + 81 ≤ 601024) (hs : slots + 806 ≤ 7293000) (K : lw_K p l e s m below meth c G A b n (cells + 81) (slots + 806) Q) (I : lw_I G ad k σ th g) (hw : h_W G.1 h_cl A s.heap ad k H locs) (hl : lv_has ls 8 (lw_L b ad n)) : W p l e room_1 s m #[Value.ref b] below meth c H locs cells slots Q (F0 m 579 ls []) := by
  obtain ⟨X, hlt, hZ, hXs, hbl, hbA, hL, hn⟩ := GG
  obtain ⟨hR, hM, hiv, hg⟩ := id I
  have hok := hR.ok
  have hl : lv_has ls 8 [(0, .ref b), (1, .ref (ad (0, 0, 0))), (2, .ref (ad (20, 0, 0))), (3, .ref (ad (21, 0, 0))), (4, .int (nI n))] := hl
  refine lv_aload_n X.1 X.2.1 dL_law_579 rfl (lv_at hl 1 rfl) ?_
  refine h_callRV (t := (0, 0, 0)) (As := []) (rest := []) X hw cs_L_89 (c_X3_digest l G hR) hR.1 rfl rfl hl.1 rfl (Nat.le_of_ble_eq_true rfl) ⟨by decide, by decide⟩ ⟨by show _ ≤ 601024; omega, by show _ ≤ 7293000; omega⟩ dL_law_580 ?_
  refine lv_aload_n X.1 X.2.1 dL_law_583 rfl (lv_at hl 2 rfl) ?_
  refine h_callWV (t := (20, 0, 0)) (As := []) (rest := [.int (s_dg σ)]) X hw cs_L_92 (c_X4_digest l G hM) hM.1 rfl rfl hl.1 rfl (Nat.le_of_ble_eq_true rfl) ⟨by decide, by decide⟩ ⟨by show _ ≤ 601024; omega, by show _ ≤ 7293000; omega⟩ dL_law_584 (fun r9 ad1 k1 H locs hp9 hw => ?_)
  obtain ⟨rfl, ea1, hM2, ho2⟩ := hp9
  refine W.eq (g2 := F0 m 587 ls [.int (s_dg σ), .int (s_dg σ)]) rfl ?_
  replace hw := hw.renA ea1.symm
  refine lv_icmp_eq (tgt := 986) X.1 X.2.1 dL_law_587 (by decide) (fun c587 => ?_) (fun c587 => ?_)
  · have hR2 := hR.congr (k' := k1) (ad' := ad) (fun t ht _ => ⟨ho2 t (by omega), rfl⟩)
    refine W.widen (k := cells + 81) (n := slots + 806) (by omega) (by omega) ?_
    exact K ad k1 _ 0 g _ _ ls ⟨hR2, hM2, hiv, by rw [ho2 _ (by decide)]; exact hg⟩ hw (lv_sub hl [0, 1, 2, 3, 4] rfl)
  · exact absurd rfl c587
set_option maxHeartbeats 4000000 in
set_option maxRecDepth 100000 in
theorem lw_c11 {p : Program} {l : Launch} {e : Env} {s : State} {m : MethodId} {below : List Frame} {meth : Method} {c : Code} {G : h_G} {A : Nat → Prop} {b L n cells slots : Nat} {xs : Nat → Int32} {Q : State → Prop} {ad : h_T → Nat} {k : h_C} {σ : S_t} {th : Int32} {g : Nat → Int64} {H : Heap} {locs : List Loc} {ls : Array Slot} (GG : lw_G p l s m c G A b L n xs) (hc : cells + 81 ≤ 601024) (hs : slots + 806 ≤ 7293000) (K : lw_K p l e s m below meth c G A b n (cells + 81) (slots + 806) Q) (I : lw_I G ad k σ th g) (hw : h_W G.1 h_cl A s.heap ad k H locs) (hl : lv_has ls 8 (lw_L b ad n)) : W p l e room_1 s m #[Value.ref b] below meth c H locs cells slots Q (F0 m 592 ls []) := by
  obtain ⟨X, hlt, hZ, hXs, hbl, hbA, hL, hn⟩ := GG
  obtain ⟨hR, hM, hiv, hg⟩ := id I
  have hok := hR.ok
  have hl : lv_has ls 8 [(0, .ref b), (1, .ref (ad (0, 0, 0))), (2, .ref (ad (20, 0, 0))), (3, .ref (ad (21, 0, 0))), (4, .int (nI n))] := hl
  refine lv_aload_n X.1 X.2.1 dL_law_592 rfl (lv_at hl 1 rfl) ?_
  refine lv_aload_n X.1 X.2.1 dL_law_593 rfl (lv_at hl 0 rfl) ?_
  refine lv_iload X.1 X.2.1 dL_law_594 (lv_at hl 4 rfl) ?_
  refine lv_iconst (v := 1) X.1 X.2.1 dL_law_596 (by decide) ?_
  refine lv_iadd X.1 X.2.1 dL_law_597 ?_
  refine h_ti (b := nI (n + 1)) (nI_add n 1) ?_
  refine va_sld X.1 X.2.1 hXs hbl hbA hw.S (vp_in_nI (n := (n + 1)) (by omega) (by omega)) dL_law_598 ?_
  refine h_ti (b := xs (n + 1)) (by rw [nI_clamp (by omega)]) ?_
  refine h_callWV (t := (0, 0, 0)) (As := [.int (xs (n + 1))]) (rest := []) X hw cs_L_93 (c_X3_mend l G hR (xs (n + 1))) hR.1 rfl rfl hl.1 rfl (Nat.le_of_ble_eq_true rfl) ⟨by decide, by decide⟩ ⟨by show _ ≤ 601024; omega, by show _ ≤ 7293000; omega⟩ dL_law_599 (fun r9 ad1 k1 H locs hp9 hw => ?_)
  obtain ⟨rfl, hR1, hf1, ha1⟩ := hp9
  refine W.eq (g2 := F0 m 602 ls [.int ((sp_mend σ (xs (n + 1))).1)]) rfl ?_
  have eb1_0 : ad (0, 0, 0) = ad1 (0, 0, 0) := (ha1).symm
  have eb1_1 : ad (20, 0, 0) = ad1 (20, 0, 0) := ((hf1 (20, 0, 0) (Nat.le_of_ble_eq_true rfl)).2).symm
  have eb1_2 : ad (21, 0, 0) = ad1 (21, 0, 0) := ((hf1 (21, 0, 0) (Nat.le_of_ble_eq_true rfl)).2).symm
  simp only [eb1_0, eb1_1, eb1_2] at hl
  have hM1 : RM G ad1 k1 σ th := hM.congr (fun t ht => hf1 t (by omega))
  refine lv_aload_n X.1 X.2.1 dL_law_602 rfl (lv_at hl 2 rfl) ?_
  refine lv_aload_n X.1 X.2.1 dL_law_603 rfl (lv_at hl 0 rfl) ?_
  refine lv_iload X.1 X.2.1 dL_law_604 (lv_at hl 4 rfl) ?_
  refine lv_iconst (v := 1) X.1 X.2.1 dL_law_606 (by decide) ?_
  refine lv_iadd X.1 X.2.1 dL_law_607 ?_
  refine h_ti (b := nI (n + 1)) (nI_add n 1) ?_
  refine va_sld X.1 X.2.1 hXs hbl hbA hw.S (vp_in_nI (n := (n + 1)) (by omega) (by omega)) dL_law_608 ?_
  refine h_ti (b := xs (n + 1)) (by rw [nI_clamp (by omega)]) ?_
  refine h_callWV (t := (20, 0, 0)) (As := [.int (xs (n + 1))]) (rest := [.int ((sp_mend σ (xs (n + 1))).1)]) X hw cs_L_96 (c_X4_mend l G hM1 (xs (n + 1))) hM1.1 rfl rfl hl.1 rfl (Nat.le_of_ble_eq_true rfl) ⟨by decide, by decide⟩ ⟨by show _ ≤ 601024; omega, by show _ ≤ 7293000; omega⟩ dL_law_609 (fun r9 ad2 k2 H locs hp9 hw => ?_)
  obtain ⟨rfl, ea2, hM2, ho2⟩ := hp9
  refine W.eq (g2 := F0 m 612 ls [.int ((sp_mend σ (xs (n + 1))).1), .int ((sp_mend σ (xs (n + 1))).1)]) rfl ?_
  replace hw := hw.renA ea2.symm
  refine lv_icmp_eq (tgt := 986) X.1 X.2.1 dL_law_612 (by decide) (fun c612 => ?_) (fun c612 => ?_)
  · have hR2 := hR1.congr (k' := k2) (ad' := ad1) (fun t ht _ => ⟨ho2 t (by omega), rfl⟩)
    refine W.widen (k := cells + 81) (n := slots + 806) (by omega) (by omega) ?_
    exact K ad1 k2 _ 0 g _ _ ls ⟨hR2, hM2, iv_mend hiv _, by rw [ho2 _ (by decide), (hf1 _ (Nat.le_of_ble_eq_true rfl)).1]; exact hg⟩ hw (lv_sub hl [0, 1, 2, 3, 4] rfl)
  · exact absurd rfl c612
set_option maxHeartbeats 4000000 in
set_option maxRecDepth 100000 in
theorem lw_c12 {p : Program} {l : Launch} {e : Env} {s : State} {m : MethodId} {below : List Frame} {meth : Method} {c : Code} {G : h_G} {A : Nat → Prop} {b L n cells slots : Nat} {xs : Nat → Int32} {Q : State → Prop} {ad : h_T → Nat} {k : h_C} {σ : S_t} {th : Int32} {g : Nat → Int64} {H : Heap} {locs : List Loc} {ls : Array Slot} (GG : lw_G p l s m c G A b L n xs) (hc : cells + 81 ≤ 601024) (hs : slots + 806 ≤ 7293000) (K : lw_K p l e s m below meth c G A b n (cells + 81) (slots + 806) Q) (I : lw_I G ad k σ th g) (hw : h_W G.1 h_cl A s.heap ad k H locs) (hl : lv_has ls 8 (lw_L b ad n)) : W p l e room_1 s m #[Value.ref b] below meth c H locs cells slots Q (F0 m 617 ls []) := by
  obtain ⟨X, hlt, hZ, hXs, hbl, hbA, hL, hn⟩ := GG
  obtain ⟨hR, hM, hiv, hg⟩ := id I
  have hok := hR.ok
  have hl : lv_has ls 8 [(0, .ref b), (1, .ref (ad (0, 0, 0))), (2, .ref (ad (20, 0, 0))), (3, .ref (ad (21, 0, 0))), (4, .int (nI n))] := hl
  refine lv_aload_n X.1 X.2.1 dL_law_617 rfl (lv_at hl 1 rfl) ?_
  refine lv_aload_n X.1 X.2.1 dL_law_618 rfl (lv_at hl 0 rfl) ?_
  refine lv_iload X.1 X.2.1 dL_law_619 (lv_at hl 4 rfl) ?_
  refine lv_iconst (v := 1) X.1 X.2.1 dL_law_621 (by decide) ?_
  refine lv_iadd X.1 X.2.1 dL_law_622 ?_
  refine h_ti (b := nI (n + 1)) (nI_add n 1) ?_
  refine va_sld X.1 X.2.1 hXs hbl hbA hw.S (vp_in_nI (n := (n + 1)) (by omega) (by omega)) dL_law_623 ?_
  refine h_ti (b := xs (n + 1)) (by rw [nI_clamp (by omega)]) ?_
  refine lv_aload_n X.1 X.2.1 dL_law_624 rfl (lv_at hl 0 rfl) ?_
  refine lv_iload X.1 X.2.1 dL_law_625 (lv_at hl 4 rfl) ?_
  refine lv_iconst (v := 2) X.1 X.2.1 dL_law_627 (by decide) ?_
  refine lv_iadd X.1 X.2.1 dL_law_628 ?_
  refine h_ti (b := nI (n + 2)) (nI_add n 2) ?_
  refine va_sld X.1 X.2.1 hXs hbl hbA hw.S (vp_in_nI (n := (n + 2)) (by omega) (by omega)) dL_law_629 ?_
  refine h_ti (b := xs (n + 2)) (by rw [nI_clamp (by omega)]) ?_
  refine h_callRV (t := (0, 0, 0)) (As := [.int (xs (n + 1)), .int (xs (n + 2))]) (rest := []) X hw cs_L_97 (c_X3_stale l G hR (xs (n + 1)) (xs (n + 2))) hR.1 rfl rfl hl.1 rfl (Nat.le_of_ble_eq_true rfl) ⟨by decide, by decide⟩ ⟨by show _ ≤ 601024; omega, by show _ ≤ 7293000; omega⟩ dL_law_630 ?_
  refine lv_aload_n X.1 X.2.1 dL_law_633 rfl (lv_at hl 2 rfl) ?_
  refine lv_aload_n X.1 X.2.1 dL_law_634 rfl (lv_at hl 0 rfl) ?_
  refine lv_iload X.1 X.2.1 dL_law_635 (lv_at hl 4 rfl) ?_
  refine lv_iconst (v := 1) X.1 X.2.1 dL_law_637 (by decide) ?_
  refine lv_iadd X.1 X.2.1 dL_law_638 ?_
  refine h_ti (b := nI (n + 1)) (nI_add n 1) ?_
  refine va_sld X.1 X.2.1 hXs hbl hbA hw.S (vp_in_nI (n := (n + 1)) (by omega) (by omega)) dL_law_639 ?_
  refine h_ti (b := xs (n + 1)) (by rw [nI_clamp (by omega)]) ?_
  refine lv_aload_n X.1 X.2.1 dL_law_640 rfl (lv_at hl 0 rfl) ?_
  refine lv_iload X.1 X.2.1 dL_law_641 (lv_at hl 4 rfl) ?_
  refine lv_iconst (v := 2) X.1 X.2.1 dL_law_643 (by decide) ?_
  refine lv_iadd X.1 X.2.1 dL_law_644 ?_
  refine h_ti (b := nI (n + 2)) (nI_add n 2) ?_
  refine va_sld X.1 X.2.1 hXs hbl hbA hw.S (vp_in_nI (n := (n + 2)) (by omega) (by omega)) dL_law_645 ?_
  refine h_ti (b := xs (n + 2)) (by rw [nI_clamp (by omega)]) ?_
  refine h_callWV (t := (20, 0, 0)) (As := [.int (xs (n + 1)), .int (xs (n + 2))]) (rest := [.int (sp_stale σ (xs (n + 1)) (xs (n + 2)))]) X hw cs_L_100 (c_X4_stale l G hM (xs (n + 1)) (xs (n + 2))) hM.1 rfl rfl hl.1 rfl (Nat.le_of_ble_eq_true rfl) ⟨by decide, by decide⟩ ⟨by show _ ≤ 601024; omega, by show _ ≤ 7293000; omega⟩ dL_law_646 (fun r9 ad1 k1 H locs hp9 hw => ?_)
  obtain ⟨rfl, ea1, hM2, ho2⟩ := hp9
  refine W.eq (g2 := F0 m 649 ls [.int (sp_stale σ (xs (n + 1)) (xs (n + 2))), .int (sp_stale σ (xs (n + 1)) (xs (n + 2)))]) rfl ?_
  replace hw := hw.renA ea1.symm
  refine lv_icmp_eq (tgt := 986) X.1 X.2.1 dL_law_649 (by decide) (fun c649 => ?_) (fun c649 => ?_)
  · have hR2 := hR.congr (k' := k1) (ad' := ad) (fun t ht _ => ⟨ho2 t (by omega), rfl⟩)
    refine W.widen (k := cells + 81) (n := slots + 806) (by omega) (by omega) ?_
    exact K ad k1 _ 0 g _ _ ls ⟨hR2, hM2, hiv, by rw [ho2 _ (by decide)]; exact hg⟩ hw (lv_sub hl [0, 1, 2, 3, 4] rfl)
  · exact absurd rfl c649
set_option maxHeartbeats 4000000 in
set_option maxRecDepth 100000 in
theorem lw_c13 {p : Program} {l : Launch} {e : Env} {s : State} {m : MethodId} {below : List Frame} {meth : Method} {c : Code} {G : h_G} {A : Nat → Prop} {b L n cells slots : Nat} {xs : Nat → Int32} {Q : State → Prop} {ad : h_T → Nat} {k : h_C} {σ : S_t} {th : Int32} {g : Nat → Int64} {H : Heap} {locs : List Loc} {ls : Array Slot} (GG : lw_G p l s m c G A b L n xs) (hc : cells + 81 ≤ 601024) (hs : slots + 806 ≤ 7293000) (K : lw_K p l e s m below meth c G A b n (cells + 81) (slots + 806) Q) (I : lw_I G ad k σ th g) (hw : h_W G.1 h_cl A s.heap ad k H locs) (hl : lv_has ls 8 (lw_L b ad n)) : W p l e room_1 s m #[Value.ref b] below meth c H locs cells slots Q (F0 m 654 ls []) := by
  obtain ⟨X, hlt, hZ, hXs, hbl, hbA, hL, hn⟩ := GG
  obtain ⟨hR, hM, hiv, hg⟩ := id I
  have hok := hR.ok
  have hl : lv_has ls 8 [(0, .ref b), (1, .ref (ad (0, 0, 0))), (2, .ref (ad (20, 0, 0))), (3, .ref (ad (21, 0, 0))), (4, .int (nI n))] := hl
  refine lv_aload_n X.1 X.2.1 dL_law_654 rfl (lv_at hl 1 rfl) ?_
  refine lv_aload_n X.1 X.2.1 dL_law_655 rfl (lv_at hl 0 rfl) ?_
  refine lv_iload X.1 X.2.1 dL_law_656 (lv_at hl 4 rfl) ?_
  refine lv_iconst (v := 1) X.1 X.2.1 dL_law_658 (by decide) ?_
  refine lv_iadd X.1 X.2.1 dL_law_659 ?_
  refine h_ti (b := nI (n + 1)) (nI_add n 1) ?_
  refine va_sld X.1 X.2.1 hXs hbl hbA hw.S (vp_in_nI (n := (n + 1)) (by omega) (by omega)) dL_law_660 ?_
  refine h_ti (b := xs (n + 1)) (by rw [nI_clamp (by omega)]) ?_
  refine h_callWV (t := (0, 0, 0)) (As := [.int (xs (n + 1))]) (rest := []) X hw cs_L_101 (c_X3_fill l G hR (xs (n + 1))) hR.1 rfl rfl hl.1 rfl (Nat.le_of_ble_eq_true rfl) ⟨by decide, by decide⟩ ⟨by show _ ≤ 601024; omega, by show _ ≤ 7293000; omega⟩ dL_law_661 (fun r9 ad1 k1 H locs hp9 hw => ?_)
  obtain ⟨rfl, hR1, hf1, ha1⟩ := hp9
  refine W.eq (g2 := F0 m 664 ls [.int ((sp_fill σ (xs (n + 1))).1)]) rfl ?_
  have eb1_0 : ad (0, 0, 0) = ad1 (0, 0, 0) := (ha1).symm
  have eb1_1 : ad (20, 0, 0) = ad1 (20, 0, 0) := ((hf1 (20, 0, 0) (Nat.le_of_ble_eq_true rfl)).2).symm
  have eb1_2 : ad (21, 0, 0) = ad1 (21, 0, 0) := ((hf1 (21, 0, 0) (Nat.le_of_ble_eq_true rfl)).2).symm
  simp only [eb1_0, eb1_1, eb1_2] at hl
  have hM1 : RM G ad1 k1 σ th := hM.congr (fun t ht => hf1 t (by omega))
  refine lv_aload_n X.1 X.2.1 dL_law_664 rfl (lv_at hl 2 rfl) ?_
  refine lv_aload_n X.1 X.2.1 dL_law_665 rfl (lv_at hl 0 rfl) ?_
  refine lv_iload X.1 X.2.1 dL_law_666 (lv_at hl 4 rfl) ?_
  refine lv_iconst (v := 1) X.1 X.2.1 dL_law_668 (by decide) ?_
  refine lv_iadd X.1 X.2.1 dL_law_669 ?_
  refine h_ti (b := nI (n + 1)) (nI_add n 1) ?_
  refine va_sld X.1 X.2.1 hXs hbl hbA hw.S (vp_in_nI (n := (n + 1)) (by omega) (by omega)) dL_law_670 ?_
  refine h_ti (b := xs (n + 1)) (by rw [nI_clamp (by omega)]) ?_
  refine h_callWV (t := (20, 0, 0)) (As := [.int (xs (n + 1))]) (rest := [.int ((sp_fill σ (xs (n + 1))).1)]) X hw cs_L_104 (c_X4_fill l G hM1 (xs (n + 1))) hM1.1 rfl rfl hl.1 rfl (Nat.le_of_ble_eq_true rfl) ⟨by decide, by decide⟩ ⟨by show _ ≤ 601024; omega, by show _ ≤ 7293000; omega⟩ dL_law_671 (fun r9 ad2 k2 H locs hp9 hw => ?_)
  obtain ⟨rfl, ea2, hM2, ho2⟩ := hp9
  refine W.eq (g2 := F0 m 674 ls [.int ((sp_fill σ (xs (n + 1))).1), .int ((sp_fill σ (xs (n + 1))).1)]) rfl ?_
  replace hw := hw.renA ea2.symm
  refine lv_icmp_eq (tgt := 986) X.1 X.2.1 dL_law_674 (by decide) (fun c674 => ?_) (fun c674 => ?_)
  · have hR2 := hR1.congr (k' := k2) (ad' := ad1) (fun t ht _ => ⟨ho2 t (by omega), rfl⟩)
    refine W.widen (k := cells + 81) (n := slots + 806) (by omega) (by omega) ?_
    exact K ad1 k2 _ 0 g _ _ ls ⟨hR2, hM2, iv_fill hiv hok _, by rw [ho2 _ (by decide), (hf1 _ (Nat.le_of_ble_eq_true rfl)).1]; exact hg⟩ hw (lv_sub hl [0, 1, 2, 3, 4] rfl)
  · exact absurd rfl c674
set_option maxHeartbeats 4000000 in
set_option maxRecDepth 100000 in
theorem lw_c14 {p : Program} {l : Launch} {e : Env} {s : State} {m : MethodId} {below : List Frame} {meth : Method} {c : Code} {G : h_G} {A : Nat → Prop} {b L n cells slots : Nat} {xs : Nat → Int32} {Q : State → Prop} {ad : h_T → Nat} {k : h_C} {σ : S_t} {th : Int32} {g : Nat → Int64} {H : Heap} {locs : List Loc} {ls : Array Slot} (GG : lw_G p l s m c G A b L n xs) (hc : cells + 81 ≤ 601024) (hs : slots + 806 ≤ 7293000) (K : lw_K p l e s m below meth c G A b n (cells + 81) (slots + 806) Q) (I : lw_I G ad k σ th g) (hw : h_W G.1 h_cl A s.heap ad k H locs) (hl : lv_has ls 8 (lw_L b ad n)) : W p l e room_1 s m #[Value.ref b] below meth c H locs cells slots Q (F0 m 679 ls []) := by
  obtain ⟨X, hlt, hZ, hXs, hbl, hbA, hL, hn⟩ := GG
  obtain ⟨hR, hM, hiv, hg⟩ := id I
  have hok := hR.ok
  have hl : lv_has ls 8 [(0, .ref b), (1, .ref (ad (0, 0, 0))), (2, .ref (ad (20, 0, 0))), (3, .ref (ad (21, 0, 0))), (4, .int (nI n))] := hl
  refine lv_aload_n X.1 X.2.1 dL_law_679 rfl (lv_at hl 1 rfl) ?_
  refine lv_aload_n X.1 X.2.1 dL_law_680 rfl (lv_at hl 0 rfl) ?_
  refine lv_iload X.1 X.2.1 dL_law_681 (lv_at hl 4 rfl) ?_
  refine lv_iconst (v := 1) X.1 X.2.1 dL_law_683 (by decide) ?_
  refine lv_iadd X.1 X.2.1 dL_law_684 ?_
  refine h_ti (b := nI (n + 1)) (nI_add n 1) ?_
  refine va_sld X.1 X.2.1 hXs hbl hbA hw.S (vp_in_nI (n := (n + 1)) (by omega) (by omega)) dL_law_685 ?_
  refine h_ti (b := xs (n + 1)) (by rw [nI_clamp (by omega)]) ?_
  refine lv_aload_n X.1 X.2.1 dL_law_686 rfl (lv_at hl 0 rfl) ?_
  refine lv_iload X.1 X.2.1 dL_law_687 (lv_at hl 4 rfl) ?_
  refine lv_iconst (v := 2) X.1 X.2.1 dL_law_689 (by decide) ?_
  refine lv_iadd X.1 X.2.1 dL_law_690 ?_
  refine h_ti (b := nI (n + 2)) (nI_add n 2) ?_
  refine va_sld X.1 X.2.1 hXs hbl hbA hw.S (vp_in_nI (n := (n + 2)) (by omega) (by omega)) dL_law_691 ?_
  refine h_ti (b := xs (n + 2)) (by rw [nI_clamp (by omega)]) ?_
  refine lv_aload_n X.1 X.2.1 dL_law_692 rfl (lv_at hl 0 rfl) ?_
  refine lv_iload X.1 X.2.1 dL_law_693 (lv_at hl 4 rfl) ?_
  refine lv_iconst (v := 3) X.1 X.2.1 dL_law_695 (by decide) ?_
  refine lv_iadd X.1 X.2.1 dL_law_696 ?_
  refine h_ti (b := nI (n + 3)) (nI_add n 3) ?_
  refine va_sld X.1 X.2.1 hXs hbl hbA hw.S (vp_in_nI (n := (n + 3)) (by omega) (by omega)) dL_law_697 ?_
  refine h_ti (b := xs (n + 3)) (by rw [nI_clamp (by omega)]) ?_
  refine h_callWV (t := (0, 0, 0)) (As := [.int (xs (n + 1)), .int (xs (n + 2)), .int (xs (n + 3))]) (rest := []) X hw cs_L_105 (c_X3_move l G hR (xs (n + 1)) (xs (n + 2)) (xs (n + 3))) hR.1 rfl rfl hl.1 rfl (Nat.le_of_ble_eq_true rfl) ⟨by decide, by decide⟩ ⟨by show _ ≤ 601024; omega, by show _ ≤ 7293000; omega⟩ dL_law_698 (fun r9 ad1 k1 H locs hp9 hw => ?_)
  obtain ⟨rfl, hR1, hf1, ha1⟩ := hp9
  refine W.eq (g2 := F0 m 701 ls [.int ((sp_move σ (xs (n + 1)) (xs (n + 2)) (xs (n + 3))).1)]) rfl ?_
  have eb1_0 : ad (0, 0, 0) = ad1 (0, 0, 0) := (ha1).symm
  have eb1_1 : ad (20, 0, 0) = ad1 (20, 0, 0) := ((hf1 (20, 0, 0) (Nat.le_of_ble_eq_true rfl)).2).symm
  have eb1_2 : ad (21, 0, 0) = ad1 (21, 0, 0) := ((hf1 (21, 0, 0) (Nat.le_of_ble_eq_true rfl)).2).symm
  simp only [eb1_0, eb1_1, eb1_2] at hl
  have hM1 : RM G ad1 k1 σ th := hM.congr (fun t ht => hf1 t (by omega))
  refine lv_aload_n X.1 X.2.1 dL_law_701 rfl (lv_at hl 2 rfl) ?_
  refine lv_aload_n X.1 X.2.1 dL_law_702 rfl (lv_at hl 0 rfl) ?_
  refine lv_iload X.1 X.2.1 dL_law_703 (lv_at hl 4 rfl) ?_
  refine lv_iconst (v := 1) X.1 X.2.1 dL_law_705 (by decide) ?_
  refine lv_iadd X.1 X.2.1 dL_law_706 ?_
  refine h_ti (b := nI (n + 1)) (nI_add n 1) ?_
  refine va_sld X.1 X.2.1 hXs hbl hbA hw.S (vp_in_nI (n := (n + 1)) (by omega) (by omega)) dL_law_707 ?_
  refine h_ti (b := xs (n + 1)) (by rw [nI_clamp (by omega)]) ?_
  refine lv_aload_n X.1 X.2.1 dL_law_708 rfl (lv_at hl 0 rfl) ?_
  refine lv_iload X.1 X.2.1 dL_law_709 (lv_at hl 4 rfl) ?_
  refine lv_iconst (v := 2) X.1 X.2.1 dL_law_711 (by decide) ?_
  refine lv_iadd X.1 X.2.1 dL_law_712 ?_
  refine h_ti (b := nI (n + 2)) (nI_add n 2) ?_
  refine va_sld X.1 X.2.1 hXs hbl hbA hw.S (vp_in_nI (n := (n + 2)) (by omega) (by omega)) dL_law_713 ?_
  refine h_ti (b := xs (n + 2)) (by rw [nI_clamp (by omega)]) ?_
  refine lv_aload_n X.1 X.2.1 dL_law_714 rfl (lv_at hl 0 rfl) ?_
  refine lv_iload X.1 X.2.1 dL_law_715 (lv_at hl 4 rfl) ?_
  refine lv_iconst (v := 3) X.1 X.2.1 dL_law_717 (by decide) ?_
  refine lv_iadd X.1 X.2.1 dL_law_718 ?_
  refine h_ti (b := nI (n + 3)) (nI_add n 3) ?_
  refine va_sld X.1 X.2.1 hXs hbl hbA hw.S (vp_in_nI (n := (n + 3)) (by omega) (by omega)) dL_law_719 ?_
  refine h_ti (b := xs (n + 3)) (by rw [nI_clamp (by omega)]) ?_
  refine h_callWV (t := (20, 0, 0)) (As := [.int (xs (n + 1)), .int (xs (n + 2)), .int (xs (n + 3))]) (rest := [.int ((sp_move σ (xs (n + 1)) (xs (n + 2)) (xs (n + 3))).1)]) X hw cs_L_108 (c_X4_move l G hM1 (xs (n + 1)) (xs (n + 2)) (xs (n + 3))) hM1.1 rfl rfl hl.1 rfl (Nat.le_of_ble_eq_true rfl) ⟨by decide, by decide⟩ ⟨by show _ ≤ 601024; omega, by show _ ≤ 7293000; omega⟩ dL_law_720 (fun r9 ad2 k2 H locs hp9 hw => ?_)
  obtain ⟨rfl, ea2, hM2, ho2⟩ := hp9
  refine W.eq (g2 := F0 m 723 ls [.int ((sp_move σ (xs (n + 1)) (xs (n + 2)) (xs (n + 3))).1), .int ((sp_move σ (xs (n + 1)) (xs (n + 2)) (xs (n + 3))).1)]) rfl ?_
  replace hw := hw.renA ea2.symm
  refine lv_icmp_eq (tgt := 986) X.1 X.2.1 dL_law_723 (by decide) (fun c723 => ?_) (fun c723 => ?_)
  · have hR2 := hR1.congr (k' := k2) (ad' := ad1) (fun t ht _ => ⟨ho2 t (by omega), rfl⟩)
    refine W.widen (k := cells + 81) (n := slots + 806) (by omega) (by omega) ?_
    exact K ad1 k2 _ 0 g _ _ ls ⟨hR2, hM2, iv_smove hiv _ _ _, by rw [ho2 _ (by decide), (hf1 _ (Nat.le_of_ble_eq_true rfl)).1]; exact hg⟩ hw (lv_sub hl [0, 1, 2, 3, 4] rfl)
  · exact absurd rfl c723
set_option maxHeartbeats 4000000 in
set_option maxRecDepth 100000 in
theorem lw_c15 {p : Program} {l : Launch} {e : Env} {s : State} {m : MethodId} {below : List Frame} {meth : Method} {c : Code} {G : h_G} {A : Nat → Prop} {b L n cells slots : Nat} {xs : Nat → Int32} {Q : State → Prop} {ad : h_T → Nat} {k : h_C} {σ : S_t} {th : Int32} {g : Nat → Int64} {H : Heap} {locs : List Loc} {ls : Array Slot} (GG : lw_G p l s m c G A b L n xs) (hc : cells + 81 ≤ 601024) (hs : slots + 806 ≤ 7293000) (K : lw_K p l e s m below meth c G A b n (cells + 81) (slots + 806) Q) (I : lw_I G ad k σ th g) (hw : h_W G.1 h_cl A s.heap ad k H locs) (hl : lv_has ls 8 (lw_L b ad n)) : W p l e room_1 s m #[Value.ref b] below meth c H locs cells slots Q (F0 m 728 ls []) := by
  obtain ⟨X, hlt, hZ, hXs, hbl, hbA, hL, hn⟩ := GG
  obtain ⟨hR, hM, hiv, hg⟩ := id I
  have hok := hR.ok
  have hl : lv_has ls 8 [(0, .ref b), (1, .ref (ad (0, 0, 0))), (2, .ref (ad (20, 0, 0))), (3, .ref (ad (21, 0, 0))), (4, .int (nI n))] := hl
  refine lv_aload_n X.1 X.2.1 dL_law_728 rfl (lv_at hl 1 rfl) ?_
  refine lv_aload_n X.1 X.2.1 dL_law_729 rfl (lv_at hl 0 rfl) ?_
  refine lv_iload X.1 X.2.1 dL_law_730 (lv_at hl 4 rfl) ?_
  refine lv_iconst (v := 1) X.1 X.2.1 dL_law_732 (by decide) ?_
  refine lv_iadd X.1 X.2.1 dL_law_733 ?_
  refine h_ti (b := nI (n + 1)) (nI_add n 1) ?_
  refine va_sld X.1 X.2.1 hXs hbl hbA hw.S (vp_in_nI (n := (n + 1)) (by omega) (by omega)) dL_law_734 ?_
  refine h_ti (b := xs (n + 1)) (by rw [nI_clamp (by omega)]) ?_
  refine lv_aload_n X.1 X.2.1 dL_law_735 rfl (lv_at hl 0 rfl) ?_
  refine lv_iload X.1 X.2.1 dL_law_736 (lv_at hl 4 rfl) ?_
  refine lv_iconst (v := 2) X.1 X.2.1 dL_law_738 (by decide) ?_
  refine lv_iadd X.1 X.2.1 dL_law_739 ?_
  refine h_ti (b := nI (n + 2)) (nI_add n 2) ?_
  refine va_sld X.1 X.2.1 hXs hbl hbA hw.S (vp_in_nI (n := (n + 2)) (by omega) (by omega)) dL_law_740 ?_
  refine h_ti (b := xs (n + 2)) (by rw [nI_clamp (by omega)]) ?_
  refine lv_aload_n X.1 X.2.1 dL_law_741 rfl (lv_at hl 0 rfl) ?_
  refine lv_iload X.1 X.2.1 dL_law_742 (lv_at hl 4 rfl) ?_
  refine lv_iconst (v := 3) X.1 X.2.1 dL_law_744 (by decide) ?_
  refine lv_iadd X.1 X.2.1 dL_law_745 ?_
  refine h_ti (b := nI (n + 3)) (nI_add n 3) ?_
  refine va_sld X.1 X.2.1 hXs hbl hbA hw.S (vp_in_nI (n := (n + 3)) (by omega) (by omega)) dL_law_746 ?_
  refine h_ti (b := xs (n + 3)) (by rw [nI_clamp (by omega)]) ?_
  refine h_callWV (t := (0, 0, 0)) (As := [.int (xs (n + 1)), .int (xs (n + 2)), .int (xs (n + 3))]) (rest := []) X hw cs_L_109 (c_X3_rate l G hR (xs (n + 1)) (xs (n + 2)) (xs (n + 3))) hR.1 rfl rfl hl.1 rfl (Nat.le_of_ble_eq_true rfl) ⟨by decide, by decide⟩ ⟨by show _ ≤ 601024; omega, by show _ ≤ 7293000; omega⟩ dL_law_747 (fun r9 ad1 k1 H locs hp9 hw => ?_)
  obtain ⟨rfl, hR1, hf1, ha1⟩ := hp9
  refine W.eq (g2 := F0 m 750 ls [.int ((sp_rate σ (xs (n + 1)) (xs (n + 2)) (xs (n + 3))).1)]) rfl ?_
  have eb1_0 : ad (0, 0, 0) = ad1 (0, 0, 0) := (ha1).symm
  have eb1_1 : ad (20, 0, 0) = ad1 (20, 0, 0) := ((hf1 (20, 0, 0) (Nat.le_of_ble_eq_true rfl)).2).symm
  have eb1_2 : ad (21, 0, 0) = ad1 (21, 0, 0) := ((hf1 (21, 0, 0) (Nat.le_of_ble_eq_true rfl)).2).symm
  simp only [eb1_0, eb1_1, eb1_2] at hl
  have hM1 : RM G ad1 k1 σ th := hM.congr (fun t ht => hf1 t (by omega))
  refine lv_aload_n X.1 X.2.1 dL_law_750 rfl (lv_at hl 2 rfl) ?_
  refine lv_aload_n X.1 X.2.1 dL_law_751 rfl (lv_at hl 0 rfl) ?_
  refine lv_iload X.1 X.2.1 dL_law_752 (lv_at hl 4 rfl) ?_
  refine lv_iconst (v := 1) X.1 X.2.1 dL_law_754 (by decide) ?_
  refine lv_iadd X.1 X.2.1 dL_law_755 ?_
  refine h_ti (b := nI (n + 1)) (nI_add n 1) ?_
  refine va_sld X.1 X.2.1 hXs hbl hbA hw.S (vp_in_nI (n := (n + 1)) (by omega) (by omega)) dL_law_756 ?_
  refine h_ti (b := xs (n + 1)) (by rw [nI_clamp (by omega)]) ?_
  refine lv_aload_n X.1 X.2.1 dL_law_757 rfl (lv_at hl 0 rfl) ?_
  refine lv_iload X.1 X.2.1 dL_law_758 (lv_at hl 4 rfl) ?_
  refine lv_iconst (v := 2) X.1 X.2.1 dL_law_760 (by decide) ?_
  refine lv_iadd X.1 X.2.1 dL_law_761 ?_
  refine h_ti (b := nI (n + 2)) (nI_add n 2) ?_
  refine va_sld X.1 X.2.1 hXs hbl hbA hw.S (vp_in_nI (n := (n + 2)) (by omega) (by omega)) dL_law_762 ?_
  refine h_ti (b := xs (n + 2)) (by rw [nI_clamp (by omega)]) ?_
  refine lv_aload_n X.1 X.2.1 dL_law_763 rfl (lv_at hl 0 rfl) ?_
  refine lv_iload X.1 X.2.1 dL_law_764 (lv_at hl 4 rfl) ?_
  refine lv_iconst (v := 3) X.1 X.2.1 dL_law_766 (by decide) ?_
  refine lv_iadd X.1 X.2.1 dL_law_767 ?_
  refine h_ti (b := nI (n + 3)) (nI_add n 3) ?_
  refine va_sld X.1 X.2.1 hXs hbl hbA hw.S (vp_in_nI (n := (n + 3)) (by omega) (by omega)) dL_law_768 ?_
  refine h_ti (b := xs (n + 3)) (by rw [nI_clamp (by omega)]) ?_
  refine h_callWV (t := (20, 0, 0)) (As := [.int (xs (n + 1)), .int (xs (n + 2)), .int (xs (n + 3))]) (rest := [.int ((sp_rate σ (xs (n + 1)) (xs (n + 2)) (xs (n + 3))).1)]) X hw cs_L_112 (c_X4_rate l G hM1 (xs (n + 1)) (xs (n + 2)) (xs (n + 3))) hM1.1 rfl rfl hl.1 rfl (Nat.le_of_ble_eq_true rfl) ⟨by decide, by decide⟩ ⟨by show _ ≤ 601024; omega, by show _ ≤ 7293000; omega⟩ dL_law_769 (fun r9 ad2 k2 H locs hp9 hw => ?_)
  obtain ⟨rfl, ea2, hM2, ho2⟩ := hp9
  refine W.eq (g2 := F0 m 772 ls [.int ((sp_rate σ (xs (n + 1)) (xs (n + 2)) (xs (n + 3))).1), .int ((sp_rate σ (xs (n + 1)) (xs (n + 2)) (xs (n + 3))).1)]) rfl ?_
  replace hw := hw.renA ea2.symm
  refine lv_icmp_eq (tgt := 986) X.1 X.2.1 dL_law_772 (by decide) (fun c772 => ?_) (fun c772 => ?_)
  · have hR2 := hR1.congr (k' := k2) (ad' := ad1) (fun t ht _ => ⟨ho2 t (by omega), rfl⟩)
    refine W.widen (k := cells + 81) (n := slots + 806) (by omega) (by omega) ?_
    exact K ad1 k2 _ 0 g _ _ ls ⟨hR2, hM2, iv_srate hiv _ _ _, by rw [ho2 _ (by decide), (hf1 _ (Nat.le_of_ble_eq_true rfl)).1]; exact hg⟩ hw (lv_sub hl [0, 1, 2, 3, 4] rfl)
  · exact absurd rfl c772
set_option maxHeartbeats 4000000 in
set_option maxRecDepth 100000 in
theorem lw_c18 {p : Program} {l : Launch} {e : Env} {s : State} {m : MethodId} {below : List Frame} {meth : Method} {c : Code} {G : h_G} {A : Nat → Prop} {b L n cells slots : Nat} {xs : Nat → Int32} {Q : State → Prop} {ad : h_T → Nat} {k : h_C} {σ : S_t} {th : Int32} {g : Nat → Int64} {H : Heap} {locs : List Loc} {ls : Array Slot} (GG : lw_G p l s m c G A b L n xs) (hc : cells + 81 ≤ 601024) (hs : slots + 806 ≤ 7293000) (K : lw_K p l e s m below meth c G A b n (cells + 81) (slots + 806) Q) (I : lw_I G ad k σ th g) (hw : h_W G.1 h_cl A s.heap ad k H locs) (hl : lv_has ls 8 (lw_L b ad n)) : W p l e room_1 s m #[Value.ref b] below meth c H locs cells slots Q (F0 m 924 ls []) := by
  obtain ⟨X, hlt, hZ, hXs, hbl, hbA, hL, hn⟩ := GG
  obtain ⟨hR, hM, hiv, hg⟩ := id I
  have hok := hR.ok
  have hl : lv_has ls 8 [(0, .ref b), (1, .ref (ad (0, 0, 0))), (2, .ref (ad (20, 0, 0))), (3, .ref (ad (21, 0, 0))), (4, .int (nI n))] := hl
  refine lv_aload_n X.1 X.2.1 dL_law_924 rfl (lv_at hl 1 rfl) ?_
  refine lv_aload_n X.1 X.2.1 dL_law_925 rfl (lv_at hl 0 rfl) ?_
  refine lv_iload X.1 X.2.1 dL_law_926 (lv_at hl 4 rfl) ?_
  refine lv_iconst (v := 1) X.1 X.2.1 dL_law_928 (by decide) ?_
  refine lv_iadd X.1 X.2.1 dL_law_929 ?_
  refine h_ti (b := nI (n + 1)) (nI_add n 1) ?_
  refine va_sld X.1 X.2.1 hXs hbl hbA hw.S (vp_in_nI (n := (n + 1)) (by omega) (by omega)) dL_law_930 ?_
  refine h_ti (b := xs (n + 1)) (by rw [nI_clamp (by omega)]) ?_
  refine lv_aload_n X.1 X.2.1 dL_law_931 rfl (lv_at hl 0 rfl) ?_
  refine lv_iload X.1 X.2.1 dL_law_932 (lv_at hl 4 rfl) ?_
  refine lv_iconst (v := 2) X.1 X.2.1 dL_law_934 (by decide) ?_
  refine lv_iadd X.1 X.2.1 dL_law_935 ?_
  refine h_ti (b := nI (n + 2)) (nI_add n 2) ?_
  refine va_sld X.1 X.2.1 hXs hbl hbA hw.S (vp_in_nI (n := (n + 2)) (by omega) (by omega)) dL_law_936 ?_
  refine h_ti (b := xs (n + 2)) (by rw [nI_clamp (by omega)]) ?_
  refine h_callRV (t := (0, 0, 0)) (As := [.int (xs (n + 1)), .int (xs (n + 2))]) (rest := []) X hw cs_L_120 (c_X3_about l G hR (xs (n + 1)) (xs (n + 2))) hR.1 rfl rfl hl.1 rfl (Nat.le_of_ble_eq_true rfl) ⟨by decide, by decide⟩ ⟨by show _ ≤ 601024; omega, by show _ ≤ 7293000; omega⟩ dL_law_937 ?_
  refine lv_aload_n X.1 X.2.1 dL_law_940 rfl (lv_at hl 2 rfl) ?_
  refine lv_aload_n X.1 X.2.1 dL_law_941 rfl (lv_at hl 0 rfl) ?_
  refine lv_iload X.1 X.2.1 dL_law_942 (lv_at hl 4 rfl) ?_
  refine lv_iconst (v := 1) X.1 X.2.1 dL_law_944 (by decide) ?_
  refine lv_iadd X.1 X.2.1 dL_law_945 ?_
  refine h_ti (b := nI (n + 1)) (nI_add n 1) ?_
  refine va_sld X.1 X.2.1 hXs hbl hbA hw.S (vp_in_nI (n := (n + 1)) (by omega) (by omega)) dL_law_946 ?_
  refine h_ti (b := xs (n + 1)) (by rw [nI_clamp (by omega)]) ?_
  refine lv_aload_n X.1 X.2.1 dL_law_947 rfl (lv_at hl 0 rfl) ?_
  refine lv_iload X.1 X.2.1 dL_law_948 (lv_at hl 4 rfl) ?_
  refine lv_iconst (v := 2) X.1 X.2.1 dL_law_950 (by decide) ?_
  refine lv_iadd X.1 X.2.1 dL_law_951 ?_
  refine h_ti (b := nI (n + 2)) (nI_add n 2) ?_
  refine va_sld X.1 X.2.1 hXs hbl hbA hw.S (vp_in_nI (n := (n + 2)) (by omega) (by omega)) dL_law_952 ?_
  refine h_ti (b := xs (n + 2)) (by rw [nI_clamp (by omega)]) ?_
  refine h_callWV (t := (20, 0, 0)) (As := [.int (xs (n + 1)), .int (xs (n + 2))]) (rest := [.int (sp_about σ (xs (n + 1)) (xs (n + 2)))]) X hw cs_L_123 (c_X4_about l G hM (xs (n + 1)) (xs (n + 2))) hM.1 rfl rfl hl.1 rfl (Nat.le_of_ble_eq_true rfl) ⟨by decide, by decide⟩ ⟨by show _ ≤ 601024; omega, by show _ ≤ 7293000; omega⟩ dL_law_953 (fun r9 ad1 k1 H locs hp9 hw => ?_)
  obtain ⟨rfl, ea1, hM2, ho2⟩ := hp9
  refine W.eq (g2 := F0 m 956 ls [.int (sp_about σ (xs (n + 1)) (xs (n + 2))), .int (sp_about σ (xs (n + 1)) (xs (n + 2)))]) rfl ?_
  replace hw := hw.renA ea1.symm
  refine lv_icmp_eq (tgt := 986) X.1 X.2.1 dL_law_956 (by decide) (fun c956 => ?_) (fun c956 => ?_)
  · have hR2 := hR.congr (k' := k1) (ad' := ad) (fun t ht _ => ⟨ho2 t (by omega), rfl⟩)
    refine W.widen (k := cells + 81) (n := slots + 806) (by omega) (by omega) ?_
    exact K ad k1 _ 0 g _ _ ls ⟨hR2, hM2, hiv, by rw [ho2 _ (by decide)]; exact hg⟩ hw (lv_sub hl [0, 1, 2, 3, 4] rfl)
  · exact absurd rfl c956
set_option maxHeartbeats 4000000 in
set_option maxRecDepth 100000 in
theorem lw_c19 {p : Program} {l : Launch} {e : Env} {s : State} {m : MethodId} {below : List Frame} {meth : Method} {c : Code} {G : h_G} {A : Nat → Prop} {b L n cells slots : Nat} {xs : Nat → Int32} {Q : State → Prop} {ad : h_T → Nat} {k : h_C} {σ : S_t} {th : Int32} {g : Nat → Int64} {H : Heap} {locs : List Loc} {ls : Array Slot} (GG : lw_G p l s m c G A b L n xs) (hc : cells + 81 ≤ 601024) (hs : slots + 806 ≤ 7293000) (K : lw_K p l e s m below meth c G A b n (cells + 81) (slots + 806) Q) (I : lw_I G ad k σ th g) (hw : h_W G.1 h_cl A s.heap ad k H locs) (hl : lv_has ls 8 (lw_L b ad n)) : W p l e room_1 s m #[Value.ref b] below meth c H locs cells slots Q (F0 m 961 ls []) := by
  obtain ⟨X, hlt, hZ, hXs, hbl, hbA, hL, hn⟩ := GG
  obtain ⟨hR, hM, hiv, hg⟩ := id I
  have hok := hR.ok
  have hl : lv_has ls 8 [(0, .ref b), (1, .ref (ad (0, 0, 0))), (2, .ref (ad (20, 0, 0))), (3, .ref (ad (21, 0, 0))), (4, .int (nI n))] := hl
  refine lv_aload_n X.1 X.2.1 dL_law_961 rfl (lv_at hl 1 rfl) ?_
  refine lv_aload_n X.1 X.2.1 dL_law_962 rfl (lv_at hl 0 rfl) ?_
  refine lv_iload X.1 X.2.1 dL_law_963 (lv_at hl 4 rfl) ?_
  refine lv_iconst (v := 1) X.1 X.2.1 dL_law_965 (by decide) ?_
  refine lv_iadd X.1 X.2.1 dL_law_966 ?_
  refine h_ti (b := nI (n + 1)) (nI_add n 1) ?_
  refine va_sld X.1 X.2.1 hXs hbl hbA hw.S (vp_in_nI (n := (n + 1)) (by omega) (by omega)) dL_law_967 ?_
  refine h_ti (b := xs (n + 1)) (by rw [nI_clamp (by omega)]) ?_
  refine h_callRV (t := (0, 0, 0)) (As := [.int (xs (n + 1))]) (rest := []) X hw cs_L_124 (c_X3_load l G hR (xs (n + 1))) hR.1 rfl rfl hl.1 rfl (Nat.le_of_ble_eq_true rfl) ⟨by decide, by decide⟩ ⟨by show _ ≤ 601024; omega, by show _ ≤ 7293000; omega⟩ dL_law_968 ?_
  refine lv_aload_n X.1 X.2.1 dL_law_971 rfl (lv_at hl 2 rfl) ?_
  refine lv_aload_n X.1 X.2.1 dL_law_972 rfl (lv_at hl 0 rfl) ?_
  refine lv_iload X.1 X.2.1 dL_law_973 (lv_at hl 4 rfl) ?_
  refine lv_iconst (v := 1) X.1 X.2.1 dL_law_975 (by decide) ?_
  refine lv_iadd X.1 X.2.1 dL_law_976 ?_
  refine h_ti (b := nI (n + 1)) (nI_add n 1) ?_
  refine va_sld X.1 X.2.1 hXs hbl hbA hw.S (vp_in_nI (n := (n + 1)) (by omega) (by omega)) dL_law_977 ?_
  refine h_ti (b := xs (n + 1)) (by rw [nI_clamp (by omega)]) ?_
  refine h_callWV (t := (20, 0, 0)) (As := [.int (xs (n + 1))]) (rest := [.int (sp_load σ (xs (n + 1)))]) X hw cs_L_127 (c_X4_load l G hM (xs (n + 1))) hM.1 rfl rfl hl.1 rfl (Nat.le_of_ble_eq_true rfl) ⟨by decide, by decide⟩ ⟨by show _ ≤ 601024; omega, by show _ ≤ 7293000; omega⟩ dL_law_978 (fun r9 ad1 k1 H locs hp9 hw => ?_)
  obtain ⟨rfl, ea1, hM2, ho2⟩ := hp9
  refine W.eq (g2 := F0 m 981 ls [.int (sp_load σ (xs (n + 1))), .int (sp_load σ (xs (n + 1)))]) rfl ?_
  replace hw := hw.renA ea1.symm
  refine lv_icmp_eq (tgt := 986) X.1 X.2.1 dL_law_981 (by decide) (fun c981 => ?_) (fun c981 => ?_)
  · have hR2 := hR.congr (k' := k1) (ad' := ad) (fun t ht _ => ⟨ho2 t (by omega), rfl⟩)
    refine W.widen (k := cells + 81) (n := slots + 806) (by omega) (by omega) ?_
    exact K ad k1 _ 0 g _ _ ls ⟨hR2, hM2, hiv, by rw [ho2 _ (by decide)]; exact hg⟩ hw (lv_sub hl [0, 1, 2, 3, 4] rfl)
  · exact absurd rfl c981
set_option maxHeartbeats 4000000 in
set_option maxRecDepth 100000 in
theorem lw_c7 {p : Program} {l : Launch} {e : Env} {s : State} {m : MethodId} {below : List Frame} {meth : Method} {c : Code} {G : h_G} {A : Nat → Prop} {b L n cells slots : Nat} {xs : Nat → Int32} {Q : State → Prop} {ad : h_T → Nat} {k : h_C} {σ : S_t} {th : Int32} {g : Nat → Int64} {H : Heap} {locs : List Loc} {ls : Array Slot} (GG : lw_G p l s m c G A b L n xs) (hc : cells + 81 ≤ 601024) (hs : slots + 806 ≤ 7293000) (K : lw_K p l e s m below meth c G A b n (cells + 81) (slots + 806) Q) (I : lw_I G ad k σ th g) (hw : h_W G.1 h_cl A s.heap ad k H locs) (hl : lv_has ls 8 (lw_L b ad n)) : W p l e room_1 s m #[Value.ref b] below meth c H locs cells slots Q (F0 m 417 ls []) := by
  obtain ⟨X, hlt, hZ, hXs, hbl, hbA, hL, hn⟩ := GG
  obtain ⟨hR, hM, hiv, hg⟩ := id I
  have hok := hR.ok
  have hl : lv_has ls 8 [(0, .ref b), (1, .ref (ad (0, 0, 0))), (2, .ref (ad (20, 0, 0))), (3, .ref (ad (21, 0, 0))), (4, .int (nI n))] := hl
  refine lv_aload_n X.1 X.2.1 dL_law_417 rfl (lv_at hl 1 rfl) ?_
  refine lv_aload_n X.1 X.2.1 dL_law_418 rfl (lv_at hl 0 rfl) ?_
  refine lv_iload X.1 X.2.1 dL_law_419 (lv_at hl 4 rfl) ?_
  refine lv_iconst (v := 1) X.1 X.2.1 dL_law_421 (by decide) ?_
  refine lv_iadd X.1 X.2.1 dL_law_422 ?_
  refine h_ti (b := nI (n + 1)) (nI_add n 1) ?_
  refine va_sld X.1 X.2.1 hXs hbl hbA hw.S (vp_in_nI (n := (n + 1)) (by omega) (by omega)) dL_law_423 ?_
  refine h_ti (b := xs (n + 1)) (by rw [nI_clamp (by omega)]) ?_
  refine lv_aload_n X.1 X.2.1 dL_law_424 rfl (lv_at hl 0 rfl) ?_
  refine lv_iload X.1 X.2.1 dL_law_425 (lv_at hl 4 rfl) ?_
  refine lv_iconst (v := 2) X.1 X.2.1 dL_law_427 (by decide) ?_
  refine lv_iadd X.1 X.2.1 dL_law_428 ?_
  refine h_ti (b := nI (n + 2)) (nI_add n 2) ?_
  refine va_sld X.1 X.2.1 hXs hbl hbA hw.S (vp_in_nI (n := (n + 2)) (by omega) (by omega)) dL_law_429 ?_
  refine h_ti (b := xs (n + 2)) (by rw [nI_clamp (by omega)]) ?_
  refine lv_i2l X.1 X.2.1 dL_law_430 rfl ?_
  refine lv_bipush (v := 32) X.1 X.2.1 dL_law_431 (by decide) ?_
  refine lv_lshl X.1 X.2.1 dL_law_433 rfl ?_
  refine lv_aload_n X.1 X.2.1 dL_law_434 rfl (lv_at hl 0 rfl) ?_
  refine lv_iload X.1 X.2.1 dL_law_435 (lv_at hl 4 rfl) ?_
  refine lv_iconst (v := 3) X.1 X.2.1 dL_law_437 (by decide) ?_
  refine lv_iadd X.1 X.2.1 dL_law_438 ?_
  refine h_ti (b := nI (n + 3)) (nI_add n 3) ?_
  refine va_sld X.1 X.2.1 hXs hbl hbA hw.S (vp_in_nI (n := (n + 3)) (by omega) (by omega)) dL_law_439 ?_
  refine h_ti (b := xs (n + 3)) (by rw [nI_clamp (by omega)]) ?_
  refine lv_i2l X.1 X.2.1 dL_law_440 rfl ?_
  refine lv_ldc2 (v := 4294967295) X.1 X.2.1 X.2.2.2.1 (X.2.2.2.2.1 _ wj_L_70) dL_law_441 ?_
  refine lv_land X.1 X.2.1 dL_law_444 ?_
  refine lv_lor X.1 X.2.1 dL_law_445 ?_
  obtain ⟨E9, hE9⟩ : ∃ zz : Int64, zz = ((xs (n + 2)).toInt64 <<< (((32 : Int32)).toInt64 &&& 63)) ||| ((xs (n + 3)).toInt64 &&& 4294967295) := ⟨_, rfl⟩
  refine h_tl (b := E9) hE9.symm ?_
  refine h_callWV (t := (0, 0, 0)) (As := [.int (xs (n + 1)), .long E9]) (rest := []) X hw cs_L_72 (c_X3_poll l G hR (xs (n + 1)) E9) hR.1 rfl rfl hl.1 rfl (Nat.le_of_ble_eq_true rfl) ⟨by decide, by decide⟩ ⟨by show _ ≤ 601024; omega, by show _ ≤ 7293000; omega⟩ dL_law_446 (fun r9 ad1 k1 H locs hp9 hw => ?_)
  obtain ⟨rfl, hR1, hf1, ha1⟩ := hp9
  refine W.eq (g2 := F0 m 449 ls [.int ((sp_poll σ (xs (n + 1)) E9).1)]) rfl ?_
  have eb1_0 : ad (0, 0, 0) = ad1 (0, 0, 0) := (ha1).symm
  have eb1_1 : ad (20, 0, 0) = ad1 (20, 0, 0) := ((hf1 (20, 0, 0) (Nat.le_of_ble_eq_true rfl)).2).symm
  have eb1_2 : ad (21, 0, 0) = ad1 (21, 0, 0) := ((hf1 (21, 0, 0) (Nat.le_of_ble_eq_true rfl)).2).symm
  simp only [eb1_0, eb1_1, eb1_2] at hl
  have hM1 : RM G ad1 k1 σ th := hM.congr (fun t ht => hf1 t (by omega))
  refine lv_aload_n X.1 X.2.1 dL_law_449 rfl (lv_at hl 2 rfl) ?_
  refine lv_aload_n X.1 X.2.1 dL_law_450 rfl (lv_at hl 0 rfl) ?_
  refine lv_iload X.1 X.2.1 dL_law_451 (lv_at hl 4 rfl) ?_
  refine lv_iconst (v := 1) X.1 X.2.1 dL_law_453 (by decide) ?_
  refine lv_iadd X.1 X.2.1 dL_law_454 ?_
  refine h_ti (b := nI (n + 1)) (nI_add n 1) ?_
  refine va_sld X.1 X.2.1 hXs hbl hbA hw.S (vp_in_nI (n := (n + 1)) (by omega) (by omega)) dL_law_455 ?_
  refine h_ti (b := xs (n + 1)) (by rw [nI_clamp (by omega)]) ?_
  refine lv_aload_n X.1 X.2.1 dL_law_456 rfl (lv_at hl 0 rfl) ?_
  refine lv_iload X.1 X.2.1 dL_law_457 (lv_at hl 4 rfl) ?_
  refine lv_iconst (v := 2) X.1 X.2.1 dL_law_459 (by decide) ?_
  refine lv_iadd X.1 X.2.1 dL_law_460 ?_
  refine h_ti (b := nI (n + 2)) (nI_add n 2) ?_
  refine va_sld X.1 X.2.1 hXs hbl hbA hw.S (vp_in_nI (n := (n + 2)) (by omega) (by omega)) dL_law_461 ?_
  refine h_ti (b := xs (n + 2)) (by rw [nI_clamp (by omega)]) ?_
  refine lv_i2l X.1 X.2.1 dL_law_462 rfl ?_
  refine lv_bipush (v := 32) X.1 X.2.1 dL_law_463 (by decide) ?_
  refine lv_lshl X.1 X.2.1 dL_law_465 rfl ?_
  refine lv_aload_n X.1 X.2.1 dL_law_466 rfl (lv_at hl 0 rfl) ?_
  refine lv_iload X.1 X.2.1 dL_law_467 (lv_at hl 4 rfl) ?_
  refine lv_iconst (v := 3) X.1 X.2.1 dL_law_469 (by decide) ?_
  refine lv_iadd X.1 X.2.1 dL_law_470 ?_
  refine h_ti (b := nI (n + 3)) (nI_add n 3) ?_
  refine va_sld X.1 X.2.1 hXs hbl hbA hw.S (vp_in_nI (n := (n + 3)) (by omega) (by omega)) dL_law_471 ?_
  refine h_ti (b := xs (n + 3)) (by rw [nI_clamp (by omega)]) ?_
  refine lv_i2l X.1 X.2.1 dL_law_472 rfl ?_
  refine lv_ldc2 (v := 4294967295) X.1 X.2.1 X.2.2.2.1 (X.2.2.2.2.1 _ wj_L_70) dL_law_473 ?_
  refine lv_land X.1 X.2.1 dL_law_476 ?_
  refine lv_lor X.1 X.2.1 dL_law_477 ?_
  refine h_tl (b := E9) hE9.symm ?_
  refine h_callWV (t := (20, 0, 0)) (As := [.int (xs (n + 1)), .long E9]) (rest := [.int ((sp_poll σ (xs (n + 1)) E9).1)]) X hw cs_L_76 (c_X4_poll l G hM1 (xs (n + 1)) E9) hM1.1 rfl rfl hl.1 rfl (Nat.le_of_ble_eq_true rfl) ⟨by decide, by decide⟩ ⟨by show _ ≤ 601024; omega, by show _ ≤ 7293000; omega⟩ dL_law_478 (fun r9 ad2 k2 H locs hp9 hw => ?_)
  obtain ⟨rfl, ea2, hM2, ho2⟩ := hp9
  refine W.eq (g2 := F0 m 481 ls [.int ((sp_poll σ (xs (n + 1)) E9).1), .int ((sp_poll σ (xs (n + 1)) E9).1)]) rfl ?_
  replace hw := hw.renA ea2.symm
  refine lv_icmp_eq (tgt := 986) X.1 X.2.1 dL_law_481 (by decide) (fun c481 => ?_) (fun c481 => ?_)
  · have hR2 := hR1.congr (k' := k2) (ad' := ad1) (fun t ht _ => ⟨ho2 t (by omega), rfl⟩)
    refine W.widen (k := cells + 81) (n := slots + 806) (by omega) (by omega) ?_
    exact K ad1 k2 _ 0 g _ _ ls ⟨hR2, hM2, iv_poll hiv _ _, by rw [ho2 _ (by decide), (hf1 _ (Nat.le_of_ble_eq_true rfl)).1]; exact hg⟩ hw (lv_sub hl [0, 1, 2, 3, 4] rfl)
  · exact absurd rfl c481
set_option maxHeartbeats 4000000 in
set_option maxRecDepth 100000 in
theorem lw_c3 {p : Program} {l : Launch} {e : Env} {s : State} {m : MethodId} {below : List Frame} {meth : Method} {c : Code} {G : h_G} {A : Nat → Prop} {b L n cells slots : Nat} {xs : Nat → Int32} {Q : State → Prop} {ad : h_T → Nat} {k : h_C} {σ : S_t} {th : Int32} {g : Nat → Int64} {H : Heap} {locs : List Loc} {ls : Array Slot} (GG : lw_G p l s m c G A b L n xs) (hc : cells + 81 ≤ 601024) (hs : slots + 806 ≤ 7293000) (K : lw_K p l e s m below meth c G A b n (cells + 81) (slots + 806) Q) (I : lw_I G ad k σ th g) (hw : h_W G.1 h_cl A s.heap ad k H locs) (hl : lv_has ls 8 (lw_L b ad n)) : W p l e room_1 s m #[Value.ref b] below meth c H locs cells slots Q (F0 m 217 ls []) := by
  obtain ⟨X, hlt, hZ, hXs, hbl, hbA, hL, hn⟩ := GG
  obtain ⟨hR, hM, hiv, hg⟩ := id I
  have hok := hR.ok
  have hl : lv_has ls 8 [(0, .ref b), (1, .ref (ad (0, 0, 0))), (2, .ref (ad (20, 0, 0))), (3, .ref (ad (21, 0, 0))), (4, .int (nI n))] := hl
  by_cases hz : xs (n + 2) = 0
  · refine lv_aload_n X.1 X.2.1 dL_law_217 rfl (lv_at hl 1 rfl) ?_
    refine lv_aload_n X.1 X.2.1 dL_law_218 rfl (lv_at hl 0 rfl) ?_
    refine lv_iload X.1 X.2.1 dL_law_219 (lv_at hl 4 rfl) ?_
    refine lv_iconst (v := 1) X.1 X.2.1 dL_law_221 (by decide) ?_
    refine lv_iadd X.1 X.2.1 dL_law_222 ?_
    refine h_ti (b := nI (n + 1)) (nI_add n 1) ?_
    refine va_sld X.1 X.2.1 hXs hbl hbA hw.S (vp_in_nI (n := (n + 1)) (by omega) (by omega)) dL_law_223 ?_
    refine h_ti (b := xs (n + 1)) (by rw [nI_clamp (by omega)]) ?_
    refine lv_aload_n X.1 X.2.1 dL_law_224 rfl (lv_at hl 0 rfl) ?_
    refine lv_iload X.1 X.2.1 dL_law_225 (lv_at hl 4 rfl) ?_
    refine lv_iconst (v := 2) X.1 X.2.1 dL_law_227 (by decide) ?_
    refine lv_iadd X.1 X.2.1 dL_law_228 ?_
    refine h_ti (b := nI (n + 2)) (nI_add n 2) ?_
    refine va_sld X.1 X.2.1 hXs hbl hbA hw.S (vp_in_nI (n := (n + 2)) (by omega) (by omega)) dL_law_229 ?_
    refine h_ti (b := xs (n + 2)) (by rw [nI_clamp (by omega)]) ?_
    refine lv_if_eq (tgt := 237) X.1 X.2.1 dL_law_230 (by decide) (fun c230 => ?_) (fun c230 => ?_)
    · refine lv_iconst (v := 0) X.1 X.2.1 dL_law_237 (by decide) ?_
      refine h_callWV (t := (0, 0, 0)) (As := [.int (xs (n + 1)), .int 0]) (rest := []) X hw cs_L_52 (c_X3_answers l G hR (xs (n + 1)) false) hR.1 rfl rfl hl.1 rfl (Nat.le_of_ble_eq_true rfl) ⟨by decide, by decide⟩ ⟨by show _ ≤ 601024; omega, by show _ ≤ 7293000; omega⟩ dL_law_238 (fun r9 ad1 k1 H locs hp9 hw => ?_)
      obtain ⟨rfl, hR1, hf1, ha1⟩ := hp9
      refine W.eq (g2 := F0 m 241 ls [.int ((sp_answers σ (xs (n + 1)) false).1)]) rfl ?_
      have eb1_0 : ad (0, 0, 0) = ad1 (0, 0, 0) := (ha1).symm
      have eb1_1 : ad (20, 0, 0) = ad1 (20, 0, 0) := ((hf1 (20, 0, 0) (Nat.le_of_ble_eq_true rfl)).2).symm
      have eb1_2 : ad (21, 0, 0) = ad1 (21, 0, 0) := ((hf1 (21, 0, 0) (Nat.le_of_ble_eq_true rfl)).2).symm
      simp only [eb1_0, eb1_1, eb1_2] at hl
      have hM1 : RM G ad1 k1 σ th := hM.congr (fun t ht => hf1 t (by omega))
      refine lv_aload_n X.1 X.2.1 dL_law_241 rfl (lv_at hl 2 rfl) ?_
      refine lv_aload_n X.1 X.2.1 dL_law_242 rfl (lv_at hl 0 rfl) ?_
      refine lv_iload X.1 X.2.1 dL_law_243 (lv_at hl 4 rfl) ?_
      refine lv_iconst (v := 1) X.1 X.2.1 dL_law_245 (by decide) ?_
      refine lv_iadd X.1 X.2.1 dL_law_246 ?_
      refine h_ti (b := nI (n + 1)) (nI_add n 1) ?_
      refine va_sld X.1 X.2.1 hXs hbl hbA hw.S (vp_in_nI (n := (n + 1)) (by omega) (by omega)) dL_law_247 ?_
      refine h_ti (b := xs (n + 1)) (by rw [nI_clamp (by omega)]) ?_
      refine lv_aload_n X.1 X.2.1 dL_law_248 rfl (lv_at hl 0 rfl) ?_
      refine lv_iload X.1 X.2.1 dL_law_249 (lv_at hl 4 rfl) ?_
      refine lv_iconst (v := 2) X.1 X.2.1 dL_law_251 (by decide) ?_
      refine lv_iadd X.1 X.2.1 dL_law_252 ?_
      refine h_ti (b := nI (n + 2)) (nI_add n 2) ?_
      refine va_sld X.1 X.2.1 hXs hbl hbA hw.S (vp_in_nI (n := (n + 2)) (by omega) (by omega)) dL_law_253 ?_
      refine h_ti (b := xs (n + 2)) (by rw [nI_clamp (by omega)]) ?_
      refine lv_if_eq (tgt := 261) X.1 X.2.1 dL_law_254 (by decide) (fun c254 => ?_) (fun c254 => ?_)
      · refine lv_iconst (v := 0) X.1 X.2.1 dL_law_261 (by decide) ?_
        refine h_callWV (t := (20, 0, 0)) (As := [.int (xs (n + 1)), .int 0]) (rest := [.int ((sp_answers σ (xs (n + 1)) false).1)]) X hw cs_L_56 (c_X4_answers l G hM1 (xs (n + 1)) false) hM1.1 rfl rfl hl.1 rfl (Nat.le_of_ble_eq_true rfl) ⟨by decide, by decide⟩ ⟨by show _ ≤ 601024; omega, by show _ ≤ 7293000; omega⟩ dL_law_262 (fun r9 ad2 k2 H locs hp9 hw => ?_)
        obtain ⟨rfl, ea2, hM2, ho2⟩ := hp9
        refine W.eq (g2 := F0 m 265 ls [.int ((sp_answers σ (xs (n + 1)) false).1), .int ((sp_answers σ (xs (n + 1)) false).1)]) rfl ?_
        replace hw := hw.renA ea2.symm
        refine lv_icmp_eq (tgt := 986) X.1 X.2.1 dL_law_265 (by decide) (fun c265 => ?_) (fun c265 => ?_)
        · have hR2 := hR1.congr (k' := k2) (ad' := ad1) (fun t ht _ => ⟨ho2 t (by omega), rfl⟩)
          refine W.widen (k := cells + 81) (n := slots + 806) (by omega) (by omega) ?_
          exact K ad1 k2 _ 0 g _ _ ls ⟨hR2, hM2, iv_answers hiv _ _, by rw [ho2 _ (by decide), (hf1 _ (Nat.le_of_ble_eq_true rfl)).1]; exact hg⟩ hw (lv_sub hl [0, 1, 2, 3, 4] rfl)
        · exact absurd rfl c265
      · exact absurd hz c254
    · exact absurd hz c230
  · refine lv_aload_n X.1 X.2.1 dL_law_217 rfl (lv_at hl 1 rfl) ?_
    refine lv_aload_n X.1 X.2.1 dL_law_218 rfl (lv_at hl 0 rfl) ?_
    refine lv_iload X.1 X.2.1 dL_law_219 (lv_at hl 4 rfl) ?_
    refine lv_iconst (v := 1) X.1 X.2.1 dL_law_221 (by decide) ?_
    refine lv_iadd X.1 X.2.1 dL_law_222 ?_
    refine h_ti (b := nI (n + 1)) (nI_add n 1) ?_
    refine va_sld X.1 X.2.1 hXs hbl hbA hw.S (vp_in_nI (n := (n + 1)) (by omega) (by omega)) dL_law_223 ?_
    refine h_ti (b := xs (n + 1)) (by rw [nI_clamp (by omega)]) ?_
    refine lv_aload_n X.1 X.2.1 dL_law_224 rfl (lv_at hl 0 rfl) ?_
    refine lv_iload X.1 X.2.1 dL_law_225 (lv_at hl 4 rfl) ?_
    refine lv_iconst (v := 2) X.1 X.2.1 dL_law_227 (by decide) ?_
    refine lv_iadd X.1 X.2.1 dL_law_228 ?_
    refine h_ti (b := nI (n + 2)) (nI_add n 2) ?_
    refine va_sld X.1 X.2.1 hXs hbl hbA hw.S (vp_in_nI (n := (n + 2)) (by omega) (by omega)) dL_law_229 ?_
    refine h_ti (b := xs (n + 2)) (by rw [nI_clamp (by omega)]) ?_
    refine lv_if_eq (tgt := 237) X.1 X.2.1 dL_law_230 (by decide) (fun c230 => ?_) (fun c230 => ?_)
    · exact absurd c230 hz
    · refine lv_iconst (v := 1) X.1 X.2.1 dL_law_233 (by decide) ?_
      refine lv_goto (tgt := 238) X.1 X.2.1 dL_law_234 (by decide) ?_
      refine h_callWV (t := (0, 0, 0)) (As := [.int (xs (n + 1)), .int 1]) (rest := []) X hw cs_L_52 (c_X3_answers l G hR (xs (n + 1)) true) hR.1 rfl rfl hl.1 rfl (Nat.le_of_ble_eq_true rfl) ⟨by decide, by decide⟩ ⟨by show _ ≤ 601024; omega, by show _ ≤ 7293000; omega⟩ dL_law_238 (fun r9 ad1 k1 H locs hp9 hw => ?_)
      obtain ⟨rfl, hR1, hf1, ha1⟩ := hp9
      refine W.eq (g2 := F0 m 241 ls [.int ((sp_answers σ (xs (n + 1)) true).1)]) rfl ?_
      have eb1_0 : ad (0, 0, 0) = ad1 (0, 0, 0) := (ha1).symm
      have eb1_1 : ad (20, 0, 0) = ad1 (20, 0, 0) := ((hf1 (20, 0, 0) (Nat.le_of_ble_eq_true rfl)).2).symm
      have eb1_2 : ad (21, 0, 0) = ad1 (21, 0, 0) := ((hf1 (21, 0, 0) (Nat.le_of_ble_eq_true rfl)).2).symm
      simp only [eb1_0, eb1_1, eb1_2] at hl
      have hM1 : RM G ad1 k1 σ th := hM.congr (fun t ht => hf1 t (by omega))
      refine lv_aload_n X.1 X.2.1 dL_law_241 rfl (lv_at hl 2 rfl) ?_
      refine lv_aload_n X.1 X.2.1 dL_law_242 rfl (lv_at hl 0 rfl) ?_
      refine lv_iload X.1 X.2.1 dL_law_243 (lv_at hl 4 rfl) ?_
      refine lv_iconst (v := 1) X.1 X.2.1 dL_law_245 (by decide) ?_
      refine lv_iadd X.1 X.2.1 dL_law_246 ?_
      refine h_ti (b := nI (n + 1)) (nI_add n 1) ?_
      refine va_sld X.1 X.2.1 hXs hbl hbA hw.S (vp_in_nI (n := (n + 1)) (by omega) (by omega)) dL_law_247 ?_
      refine h_ti (b := xs (n + 1)) (by rw [nI_clamp (by omega)]) ?_
      refine lv_aload_n X.1 X.2.1 dL_law_248 rfl (lv_at hl 0 rfl) ?_
      refine lv_iload X.1 X.2.1 dL_law_249 (lv_at hl 4 rfl) ?_
      refine lv_iconst (v := 2) X.1 X.2.1 dL_law_251 (by decide) ?_
      refine lv_iadd X.1 X.2.1 dL_law_252 ?_
      refine h_ti (b := nI (n + 2)) (nI_add n 2) ?_
      refine va_sld X.1 X.2.1 hXs hbl hbA hw.S (vp_in_nI (n := (n + 2)) (by omega) (by omega)) dL_law_253 ?_
      refine h_ti (b := xs (n + 2)) (by rw [nI_clamp (by omega)]) ?_
      refine lv_if_eq (tgt := 261) X.1 X.2.1 dL_law_254 (by decide) (fun c254 => ?_) (fun c254 => ?_)
      · exact absurd c254 hz
      · refine lv_iconst (v := 1) X.1 X.2.1 dL_law_257 (by decide) ?_
        refine lv_goto (tgt := 262) X.1 X.2.1 dL_law_258 (by decide) ?_
        refine h_callWV (t := (20, 0, 0)) (As := [.int (xs (n + 1)), .int 1]) (rest := [.int ((sp_answers σ (xs (n + 1)) true).1)]) X hw cs_L_56 (c_X4_answers l G hM1 (xs (n + 1)) true) hM1.1 rfl rfl hl.1 rfl (Nat.le_of_ble_eq_true rfl) ⟨by decide, by decide⟩ ⟨by show _ ≤ 601024; omega, by show _ ≤ 7293000; omega⟩ dL_law_262 (fun r9 ad2 k2 H locs hp9 hw => ?_)
        obtain ⟨rfl, ea2, hM2, ho2⟩ := hp9
        refine W.eq (g2 := F0 m 265 ls [.int ((sp_answers σ (xs (n + 1)) true).1), .int ((sp_answers σ (xs (n + 1)) true).1)]) rfl ?_
        replace hw := hw.renA ea2.symm
        refine lv_icmp_eq (tgt := 986) X.1 X.2.1 dL_law_265 (by decide) (fun c265 => ?_) (fun c265 => ?_)
        · have hR2 := hR1.congr (k' := k2) (ad' := ad1) (fun t ht _ => ⟨ho2 t (by omega), rfl⟩)
          refine W.widen (k := cells + 81) (n := slots + 806) (by omega) (by omega) ?_
          exact K ad1 k2 _ 0 g _ _ ls ⟨hR2, hM2, iv_answers hiv _ _, by rw [ho2 _ (by decide), (hf1 _ (Nat.le_of_ble_eq_true rfl)).1]; exact hg⟩ hw (lv_sub hl [0, 1, 2, 3, 4] rfl)
        · exact absurd rfl c265
set_option maxHeartbeats 4000000 in
set_option maxRecDepth 100000 in
theorem lw_c8 {p : Program} {l : Launch} {e : Env} {s : State} {m : MethodId} {below : List Frame} {meth : Method} {c : Code} {G : h_G} {A : Nat → Prop} {b L n cells slots : Nat} {xs : Nat → Int32} {Q : State → Prop} {ad : h_T → Nat} {k : h_C} {σ : S_t} {th : Int32} {g : Nat → Int64} {H : Heap} {locs : List Loc} {ls : Array Slot} (GG : lw_G p l s m c G A b L n xs) (hc : cells + 81 ≤ 601024) (hs : slots + 806 ≤ 7293000) (K : lw_K p l e s m below meth c G A b n (cells + 81) (slots + 806) Q) (I : lw_I G ad k σ th g) (hw : h_W G.1 h_cl A s.heap ad k H locs) (hl : lv_has ls 8 (lw_L b ad n)) : W p l e room_1 s m #[Value.ref b] below meth c H locs cells slots Q (F0 m 486 ls []) := by
  obtain ⟨X, hlt, hZ, hXs, hbl, hbA, hL, hn⟩ := GG
  obtain ⟨hR, hM, hiv, hg⟩ := id I
  have hok := hR.ok
  have hl : lv_has ls 8 [(0, .ref b), (1, .ref (ad (0, 0, 0))), (2, .ref (ad (20, 0, 0))), (3, .ref (ad (21, 0, 0))), (4, .int (nI n))] := hl
  rcases hsp : sp_polled σ (xs (n + 1)) (xs (n + 2)) with _ | v
  · refine lv_aload_n X.1 X.2.1 dL_law_486 rfl (lv_at hl 1 rfl) ?_
    refine lv_aload_n X.1 X.2.1 dL_law_487 rfl (lv_at hl 0 rfl) ?_
    refine lv_iload X.1 X.2.1 dL_law_488 (lv_at hl 4 rfl) ?_
    refine lv_iconst (v := 1) X.1 X.2.1 dL_law_490 (by decide) ?_
    refine lv_iadd X.1 X.2.1 dL_law_491 ?_
    refine h_ti (b := nI (n + 1)) (nI_add n 1) ?_
    refine va_sld X.1 X.2.1 hXs hbl hbA hw.S (vp_in_nI (n := (n + 1)) (by omega) (by omega)) dL_law_492 ?_
    refine h_ti (b := xs (n + 1)) (by rw [nI_clamp (by omega)]) ?_
    refine lv_aload_n X.1 X.2.1 dL_law_493 rfl (lv_at hl 0 rfl) ?_
    refine lv_iload X.1 X.2.1 dL_law_494 (lv_at hl 4 rfl) ?_
    refine lv_iconst (v := 2) X.1 X.2.1 dL_law_496 (by decide) ?_
    refine lv_iadd X.1 X.2.1 dL_law_497 ?_
    refine h_ti (b := nI (n + 2)) (nI_add n 2) ?_
    refine va_sld X.1 X.2.1 hXs hbl hbA hw.S (vp_in_nI (n := (n + 2)) (by omega) (by omega)) dL_law_498 ?_
    refine h_ti (b := xs (n + 2)) (by rw [nI_clamp (by omega)]) ?_
    refine lv_aload_n X.1 X.2.1 dL_law_499 rfl (lv_at hl 3 rfl) ?_
    refine h_callXS (As := [.ref (ad (0, 0, 0)), .int (xs (n + 1)), .int (xs (n + 2)), .ref (ad (21, 0, 0))]) (rest := []) X hw hZ cs_L_77 (c_L_polled l hlt G hR hg (xs (n + 1)) (xs (n + 2))) rfl hl.1 rfl (Nat.le_of_ble_eq_true rfl) ⟨by decide, by decide⟩ ⟨by show _ ≤ 601024; omega, by show _ ≤ 7293000; omega⟩ dL_law_500 (fun r9 ad1 k1 H locs hp9 hw => ?_)
    obtain ⟨rfl, ea1, ho1, g1, hg1, hv1⟩ := hp9
    refine W.eq (g2 := F0 m 503 ls [.int 1]) (by rw [hsp]; rfl) ?_
    replace hw := hw.renA ea1.symm
    have hR1 : RX G ad k1 σ := hR.congr (fun t ht _ => ⟨ho1 t (fun q => by rw [q] at ht; exact absurd ht (by decide)), rfl⟩)
    have hM1 : RM G ad k1 σ th := hM.congr (fun t ht => ⟨ho1 t (fun q => by rw [q] at ht; exact absurd ht (by decide)), rfl⟩)
    refine lv_istore (lv' := [(5, .int 1), (0, .ref b), (1, .ref (ad (0, 0, 0))), (2, .ref (ad (20, 0, 0))), (3, .ref (ad (21, 0, 0))), (4, .int (nI n))]) X.1 X.2.1 dL_law_503 hl (by decide) rfl (fun ls hl => ?_)
    refine lv_aload_n X.1 X.2.1 dL_law_505 rfl (lv_at hl 3 rfl) ?_
    refine lv_aload_n X.1 X.2.1 dL_law_506 rfl (lv_at hl 1 rfl) ?_
    refine lv_iload X.1 X.2.1 dL_law_507 (lv_at hl 5 rfl) ?_
    refine lv_iconst (v := 1) X.1 X.2.1 dL_law_509 (by decide) ?_
    refine lv_iadd X.1 X.2.1 dL_law_510 ?_
    refine h_ti (b := nI (n + 1)) (nI_add n 1) ?_
    refine va_sld X.1 X.2.1 hXs hbl hbA hw.S (vp_in_nI (n := (n + 1)) (by omega) (by omega)) dL_law_511 ?_
    refine h_ti (b := xs (n + 1)) (by rw [nI_clamp (by omega)]) ?_
    refine lv_aload_n X.1 X.2.1 dL_law_512 rfl (lv_at hl 1 rfl) ?_
    refine lv_iload X.1 X.2.1 dL_law_513 (lv_at hl 5 rfl) ?_
    refine lv_iconst (v := 2) X.1 X.2.1 dL_law_515 (by decide) ?_
    refine lv_iadd X.1 X.2.1 dL_law_516 ?_
    refine h_ti (b := nI (n + 2)) (nI_add n 2) ?_
    refine va_sld X.1 X.2.1 hXs hbl hbA hw.S (vp_in_nI (n := (n + 2)) (by omega) (by omega)) dL_law_517 ?_
    refine h_ti (b := xs (n + 2)) (by rw [nI_clamp (by omega)]) ?_
    refine h_callWV (t := (20, 0, 0)) (As := [.int (xs (n + 1)), .int (xs (n + 2))]) (rest := []) X hw cs_L_80 (c_X4_polled l G hM1 (xs (n + 1)) (xs (n + 2))) hM1.1 rfl rfl hl.1 rfl (Nat.le_of_ble_eq_true rfl) ⟨by decide, by decide⟩ ⟨by show _ ≤ 601024; omega, by show _ ≤ 7293000; omega⟩ dL_law_518 (fun r9 ad2 k2 H locs hp9 hw => ?_)
    obtain ⟨hr9, ea2, hM2, ho2⟩ := hp9
    rw [hsp] at hr9 hM2
    subst hr9
    refine W.eq (g2 := F0 m 521 ls [.int 0]) rfl ?_
    replace hw := hw.renA ea2.symm
    have hg2 : k2 (21, 0, 0) = some (.inl (G.2 1, 1, .inr (.inl g1))) := (ho2 _ (by decide)).trans hg1
    refine lv_istore (lv' := [(6, .int 0), (5, .int 1), (0, .ref b), (1, .ref (ad (0, 0, 0))), (2, .ref (ad (20, 0, 0))), (3, .ref (ad (21, 0, 0))), (4, .int (nI n))]) X.1 X.2.1 dL_law_521 hl (by decide) rfl (fun ls hl => ?_)
    refine lv_aload_n X.1 X.2.1 dL_law_523 rfl (lv_at hl 4 rfl) ?_
    refine h_callRV (t := (20, 0, 0)) (As := []) (rest := []) X hw cs_L_81 (c_X4_thrown l G hM2) hM2.1 rfl rfl hl.1 rfl (Nat.le_of_ble_eq_true rfl) ⟨by decide, by decide⟩ ⟨by show _ ≤ 601024; omega, by show _ ≤ 7293000; omega⟩ dL_law_524 ?_
    refine h_tv (b := .int 1) rfl ?_
    refine lv_iload X.1 X.2.1 dL_law_527 (lv_at hl 1 rfl) ?_
    refine lv_icmp_eq (tgt := 534) X.1 X.2.1 dL_law_529 (by decide) (fun c529 => ?_) (fun c529 => ?_)
    · refine lv_iload X.1 X.2.1 dL_law_534 (lv_at hl 1 rfl) ?_
      refine lv_if_ne (tgt := 551) X.1 X.2.1 dL_law_536 (by decide) (fun c536 => ?_) (fun c536 => ?_)
      · refine lv_goto (tgt := 986) X.1 X.2.1 dL_law_551 (by decide) ?_
        have hR2 := hR1.congr (k' := k2) (ad' := ad) (fun t ht _ => ⟨ho2 t (by omega), rfl⟩)
        refine W.widen (k := cells + 81) (n := slots + 806) (by omega) (by omega) ?_
        exact K ad k2 σ _ g1 _ _ ls ⟨hR2, hM2, hiv, hg2⟩ hw (lv_sub hl [2, 3, 4, 5, 6] rfl)
      · exact absurd c536 (by decide)
    · exact absurd (by decide) c529
  · refine lv_aload_n X.1 X.2.1 dL_law_486 rfl (lv_at hl 1 rfl) ?_
    refine lv_aload_n X.1 X.2.1 dL_law_487 rfl (lv_at hl 0 rfl) ?_
    refine lv_iload X.1 X.2.1 dL_law_488 (lv_at hl 4 rfl) ?_
    refine lv_iconst (v := 1) X.1 X.2.1 dL_law_490 (by decide) ?_
    refine lv_iadd X.1 X.2.1 dL_law_491 ?_
    refine h_ti (b := nI (n + 1)) (nI_add n 1) ?_
    refine va_sld X.1 X.2.1 hXs hbl hbA hw.S (vp_in_nI (n := (n + 1)) (by omega) (by omega)) dL_law_492 ?_
    refine h_ti (b := xs (n + 1)) (by rw [nI_clamp (by omega)]) ?_
    refine lv_aload_n X.1 X.2.1 dL_law_493 rfl (lv_at hl 0 rfl) ?_
    refine lv_iload X.1 X.2.1 dL_law_494 (lv_at hl 4 rfl) ?_
    refine lv_iconst (v := 2) X.1 X.2.1 dL_law_496 (by decide) ?_
    refine lv_iadd X.1 X.2.1 dL_law_497 ?_
    refine h_ti (b := nI (n + 2)) (nI_add n 2) ?_
    refine va_sld X.1 X.2.1 hXs hbl hbA hw.S (vp_in_nI (n := (n + 2)) (by omega) (by omega)) dL_law_498 ?_
    refine h_ti (b := xs (n + 2)) (by rw [nI_clamp (by omega)]) ?_
    refine lv_aload_n X.1 X.2.1 dL_law_499 rfl (lv_at hl 3 rfl) ?_
    refine h_callXS (As := [.ref (ad (0, 0, 0)), .int (xs (n + 1)), .int (xs (n + 2)), .ref (ad (21, 0, 0))]) (rest := []) X hw hZ cs_L_77 (c_L_polled l hlt G hR hg (xs (n + 1)) (xs (n + 2))) rfl hl.1 rfl (Nat.le_of_ble_eq_true rfl) ⟨by decide, by decide⟩ ⟨by show _ ≤ 601024; omega, by show _ ≤ 7293000; omega⟩ dL_law_500 (fun r9 ad1 k1 H locs hp9 hw => ?_)
    obtain ⟨rfl, ea1, ho1, g1, hg1, hv1⟩ := hp9
    refine W.eq (g2 := F0 m 503 ls [.int 0]) (by rw [hsp]; rfl) ?_
    replace hw := hw.renA ea1.symm
    have hR1 : RX G ad k1 σ := hR.congr (fun t ht _ => ⟨ho1 t (fun q => by rw [q] at ht; exact absurd ht (by decide)), rfl⟩)
    have hM1 : RM G ad k1 σ th := hM.congr (fun t ht => ⟨ho1 t (fun q => by rw [q] at ht; exact absurd ht (by decide)), rfl⟩)
    refine lv_istore (lv' := [(5, .int 0), (0, .ref b), (1, .ref (ad (0, 0, 0))), (2, .ref (ad (20, 0, 0))), (3, .ref (ad (21, 0, 0))), (4, .int (nI n))]) X.1 X.2.1 dL_law_503 hl (by decide) rfl (fun ls hl => ?_)
    refine lv_aload_n X.1 X.2.1 dL_law_505 rfl (lv_at hl 3 rfl) ?_
    refine lv_aload_n X.1 X.2.1 dL_law_506 rfl (lv_at hl 1 rfl) ?_
    refine lv_iload X.1 X.2.1 dL_law_507 (lv_at hl 5 rfl) ?_
    refine lv_iconst (v := 1) X.1 X.2.1 dL_law_509 (by decide) ?_
    refine lv_iadd X.1 X.2.1 dL_law_510 ?_
    refine h_ti (b := nI (n + 1)) (nI_add n 1) ?_
    refine va_sld X.1 X.2.1 hXs hbl hbA hw.S (vp_in_nI (n := (n + 1)) (by omega) (by omega)) dL_law_511 ?_
    refine h_ti (b := xs (n + 1)) (by rw [nI_clamp (by omega)]) ?_
    refine lv_aload_n X.1 X.2.1 dL_law_512 rfl (lv_at hl 1 rfl) ?_
    refine lv_iload X.1 X.2.1 dL_law_513 (lv_at hl 5 rfl) ?_
    refine lv_iconst (v := 2) X.1 X.2.1 dL_law_515 (by decide) ?_
    refine lv_iadd X.1 X.2.1 dL_law_516 ?_
    refine h_ti (b := nI (n + 2)) (nI_add n 2) ?_
    refine va_sld X.1 X.2.1 hXs hbl hbA hw.S (vp_in_nI (n := (n + 2)) (by omega) (by omega)) dL_law_517 ?_
    refine h_ti (b := xs (n + 2)) (by rw [nI_clamp (by omega)]) ?_
    refine h_callWV (t := (20, 0, 0)) (As := [.int (xs (n + 1)), .int (xs (n + 2))]) (rest := []) X hw cs_L_80 (c_X4_polled l G hM1 (xs (n + 1)) (xs (n + 2))) hM1.1 rfl rfl hl.1 rfl (Nat.le_of_ble_eq_true rfl) ⟨by decide, by decide⟩ ⟨by show _ ≤ 601024; omega, by show _ ≤ 7293000; omega⟩ dL_law_518 (fun r9 ad2 k2 H locs hp9 hw => ?_)
    obtain ⟨hr9, ea2, hM2, ho2⟩ := hp9
    rw [hsp] at hr9 hM2
    subst hr9
    refine W.eq (g2 := F0 m 521 ls [.int v]) rfl ?_
    replace hw := hw.renA ea2.symm
    have hg2 : k2 (21, 0, 0) = some (.inl (G.2 1, 1, .inr (.inl g1))) := (ho2 _ (by decide)).trans hg1
    refine lv_istore (lv' := [(6, .int v), (5, .int 0), (0, .ref b), (1, .ref (ad (0, 0, 0))), (2, .ref (ad (20, 0, 0))), (3, .ref (ad (21, 0, 0))), (4, .int (nI n))]) X.1 X.2.1 dL_law_521 hl (by decide) rfl (fun ls hl => ?_)
    refine lv_aload_n X.1 X.2.1 dL_law_523 rfl (lv_at hl 4 rfl) ?_
    refine h_callRV (t := (20, 0, 0)) (As := []) (rest := []) X hw cs_L_81 (c_X4_thrown l G hM2) hM2.1 rfl rfl hl.1 rfl (Nat.le_of_ble_eq_true rfl) ⟨by decide, by decide⟩ ⟨by show _ ≤ 601024; omega, by show _ ≤ 7293000; omega⟩ dL_law_524 ?_
    refine h_tv (b := .int 0) rfl ?_
    refine lv_iload X.1 X.2.1 dL_law_527 (lv_at hl 1 rfl) ?_
    refine lv_icmp_eq (tgt := 534) X.1 X.2.1 dL_law_529 (by decide) (fun c529 => ?_) (fun c529 => ?_)
    · refine lv_iload X.1 X.2.1 dL_law_534 (lv_at hl 1 rfl) ?_
      refine lv_if_ne (tgt := 551) X.1 X.2.1 dL_law_536 (by decide) (fun c536 => ?_) (fun c536 => ?_)
      · exact absurd (by decide) c536
      · refine lv_aload_n X.1 X.2.1 dL_law_539 rfl (lv_at hl 5 rfl) ?_
        refine lv_iconst (v := 0) X.1 X.2.1 dL_law_540 (by decide) ?_
        refine h_lald X hw hg2 (vp_in_nI (n := 0) (by decide) (by decide)) dL_law_541 ?_
        refine h_tv (b := .long ((v).toInt64)) (by show Value.long (g1 0) = _; rw [hv1 (v).toInt64 (by first | exact hsp | (rw [hsp]; rfl))]) ?_
        refine lv_iload X.1 X.2.1 dL_law_542 (lv_at hl 0 rfl) ?_
        refine lv_i2l X.1 X.2.1 dL_law_544 rfl ?_
        refine h_lcmp (v := 0) (lcv_eq _) X.1 X.2.1 dL_law_545 ?_
        refine lv_if_eq (tgt := 551) X.1 X.2.1 dL_law_546 (by decide) (fun c546 => ?_) (fun c546 => ?_)
        · refine lv_goto (tgt := 986) X.1 X.2.1 dL_law_551 (by decide) ?_
          have hR2 := hR1.congr (k' := k2) (ad' := ad) (fun t ht _ => ⟨ho2 t (by omega), rfl⟩)
          refine W.widen (k := cells + 81) (n := slots + 806) (by omega) (by omega) ?_
          exact K ad k2 σ _ g1 _ _ ls ⟨hR2, hM2, hiv, hg2⟩ hw (lv_sub hl [2, 3, 4, 5, 6] rfl)
        · exact absurd (by decide) c546
    · exact absurd (by decide) c529
set_option maxHeartbeats 4000000 in
set_option maxRecDepth 100000 in
theorem lw_c16 {p : Program} {l : Launch} {e : Env} {s : State} {m : MethodId} {below : List Frame} {meth : Method} {c : Code} {G : h_G} {A : Nat → Prop} {b L n cells slots : Nat} {xs : Nat → Int32} {Q : State → Prop} {ad : h_T → Nat} {k : h_C} {σ : S_t} {th : Int32} {g : Nat → Int64} {H : Heap} {locs : List Loc} {ls : Array Slot} (GG : lw_G p l s m c G A b L n xs) (hc : cells + 81 ≤ 601024) (hs : slots + 806 ≤ 7293000) (K : lw_K p l e s m below meth c G A b n (cells + 81) (slots + 806) Q) (I : lw_I G ad k σ th g) (hw : h_W G.1 h_cl A s.heap ad k H locs) (hl : lv_has ls 8 (lw_L b ad n)) : W p l e room_1 s m #[Value.ref b] below meth c H locs cells slots Q (F0 m 777 ls []) := by
  obtain ⟨X, hlt, hZ, hXs, hbl, hbA, hL, hn⟩ := GG
  obtain ⟨hR, hM, hiv, hg⟩ := id I
  have hok := hR.ok
  have hl : lv_has ls 8 [(0, .ref b), (1, .ref (ad (0, 0, 0))), (2, .ref (ad (20, 0, 0))), (3, .ref (ad (21, 0, 0))), (4, .int (nI n))] := hl
  rcases hsp : sp_odds σ (xs (n + 1)) (xs (n + 2)) with _ | v
  · refine lv_aload_n X.1 X.2.1 dL_law_777 rfl (lv_at hl 1 rfl) ?_
    refine lv_aload_n X.1 X.2.1 dL_law_778 rfl (lv_at hl 0 rfl) ?_
    refine lv_iload X.1 X.2.1 dL_law_779 (lv_at hl 4 rfl) ?_
    refine lv_iconst (v := 1) X.1 X.2.1 dL_law_781 (by decide) ?_
    refine lv_iadd X.1 X.2.1 dL_law_782 ?_
    refine h_ti (b := nI (n + 1)) (nI_add n 1) ?_
    refine va_sld X.1 X.2.1 hXs hbl hbA hw.S (vp_in_nI (n := (n + 1)) (by omega) (by omega)) dL_law_783 ?_
    refine h_ti (b := xs (n + 1)) (by rw [nI_clamp (by omega)]) ?_
    refine lv_aload_n X.1 X.2.1 dL_law_784 rfl (lv_at hl 0 rfl) ?_
    refine lv_iload X.1 X.2.1 dL_law_785 (lv_at hl 4 rfl) ?_
    refine lv_iconst (v := 2) X.1 X.2.1 dL_law_787 (by decide) ?_
    refine lv_iadd X.1 X.2.1 dL_law_788 ?_
    refine h_ti (b := nI (n + 2)) (nI_add n 2) ?_
    refine va_sld X.1 X.2.1 hXs hbl hbA hw.S (vp_in_nI (n := (n + 2)) (by omega) (by omega)) dL_law_789 ?_
    refine h_ti (b := xs (n + 2)) (by rw [nI_clamp (by omega)]) ?_
    refine lv_aload_n X.1 X.2.1 dL_law_790 rfl (lv_at hl 3 rfl) ?_
    refine h_callXS (As := [.ref (ad (0, 0, 0)), .int (xs (n + 1)), .int (xs (n + 2)), .ref (ad (21, 0, 0))]) (rest := []) X hw hZ cs_L_113 (c_L_odds l hlt G hR hg hiv (xs (n + 1)) (xs (n + 2))) rfl hl.1 rfl (Nat.le_of_ble_eq_true rfl) ⟨by decide, by decide⟩ ⟨by show _ ≤ 601024; omega, by show _ ≤ 7293000; omega⟩ dL_law_791 (fun r9 ad1 k1 H locs hp9 hw => ?_)
    obtain ⟨rfl, ea1, ho1, g1, hg1, hv1⟩ := hp9
    refine W.eq (g2 := F0 m 794 ls [.int 1]) (by rw [hsp]; rfl) ?_
    replace hw := hw.renA ea1.symm
    have hR1 : RX G ad k1 σ := hR.congr (fun t ht _ => ⟨ho1 t (fun q => by rw [q] at ht; exact absurd ht (by decide)), rfl⟩)
    have hM1 : RM G ad k1 σ th := hM.congr (fun t ht => ⟨ho1 t (fun q => by rw [q] at ht; exact absurd ht (by decide)), rfl⟩)
    refine lv_istore (lv' := [(5, .int 1), (0, .ref b), (1, .ref (ad (0, 0, 0))), (2, .ref (ad (20, 0, 0))), (3, .ref (ad (21, 0, 0))), (4, .int (nI n))]) X.1 X.2.1 dL_law_794 hl (by decide) rfl (fun ls hl => ?_)
    refine lv_aload_n X.1 X.2.1 dL_law_796 rfl (lv_at hl 3 rfl) ?_
    refine lv_aload_n X.1 X.2.1 dL_law_797 rfl (lv_at hl 1 rfl) ?_
    refine lv_iload X.1 X.2.1 dL_law_798 (lv_at hl 5 rfl) ?_
    refine lv_iconst (v := 1) X.1 X.2.1 dL_law_800 (by decide) ?_
    refine lv_iadd X.1 X.2.1 dL_law_801 ?_
    refine h_ti (b := nI (n + 1)) (nI_add n 1) ?_
    refine va_sld X.1 X.2.1 hXs hbl hbA hw.S (vp_in_nI (n := (n + 1)) (by omega) (by omega)) dL_law_802 ?_
    refine h_ti (b := xs (n + 1)) (by rw [nI_clamp (by omega)]) ?_
    refine lv_aload_n X.1 X.2.1 dL_law_803 rfl (lv_at hl 1 rfl) ?_
    refine lv_iload X.1 X.2.1 dL_law_804 (lv_at hl 5 rfl) ?_
    refine lv_iconst (v := 2) X.1 X.2.1 dL_law_806 (by decide) ?_
    refine lv_iadd X.1 X.2.1 dL_law_807 ?_
    refine h_ti (b := nI (n + 2)) (nI_add n 2) ?_
    refine va_sld X.1 X.2.1 hXs hbl hbA hw.S (vp_in_nI (n := (n + 2)) (by omega) (by omega)) dL_law_808 ?_
    refine h_ti (b := xs (n + 2)) (by rw [nI_clamp (by omega)]) ?_
    refine h_callWV (t := (20, 0, 0)) (As := [.int (xs (n + 1)), .int (xs (n + 2))]) (rest := []) X hw cs_L_115 (c_X4_odds l G hM1 hiv (xs (n + 1)) (xs (n + 2))) hM1.1 rfl rfl hl.1 rfl (Nat.le_of_ble_eq_true rfl) ⟨by decide, by decide⟩ ⟨by show _ ≤ 601024; omega, by show _ ≤ 7293000; omega⟩ dL_law_809 (fun r9 ad2 k2 H locs hp9 hw => ?_)
    obtain ⟨hr9, ea2, hM2, ho2⟩ := hp9
    rw [hsp] at hr9 hM2
    subst hr9
    refine W.eq (g2 := F0 m 812 ls [.long 0]) rfl ?_
    replace hw := hw.renA ea2.symm
    have hg2 : k2 (21, 0, 0) = some (.inl (G.2 1, 1, .inr (.inl g1))) := (ho2 _ (by decide)).trans hg1
    refine lv_lstore (lv' := [(6, .long 0), (5, .int 1), (0, .ref b), (1, .ref (ad (0, 0, 0))), (2, .ref (ad (20, 0, 0))), (3, .ref (ad (21, 0, 0))), (4, .int (nI n))]) X.1 X.2.1 dL_law_812 hl (by decide) rfl (fun ls hl => ?_)
    refine lv_aload_n X.1 X.2.1 dL_law_814 rfl (lv_at hl 4 rfl) ?_
    refine h_callRV (t := (20, 0, 0)) (As := []) (rest := []) X hw cs_L_81 (c_X4_thrown l G hM2) hM2.1 rfl rfl hl.1 rfl (Nat.le_of_ble_eq_true rfl) ⟨by decide, by decide⟩ ⟨by show _ ≤ 601024; omega, by show _ ≤ 7293000; omega⟩ dL_law_815 ?_
    refine h_tv (b := .int 1) rfl ?_
    refine lv_iload X.1 X.2.1 dL_law_818 (lv_at hl 1 rfl) ?_
    refine lv_icmp_eq (tgt := 825) X.1 X.2.1 dL_law_820 (by decide) (fun c820 => ?_) (fun c820 => ?_)
    · refine lv_iload X.1 X.2.1 dL_law_825 (lv_at hl 1 rfl) ?_
      refine lv_if_ne (tgt := 841) X.1 X.2.1 dL_law_827 (by decide) (fun c827 => ?_) (fun c827 => ?_)
      · refine lv_goto (tgt := 986) X.1 X.2.1 dL_law_841 (by decide) ?_
        have hR2 := hR1.congr (k' := k2) (ad' := ad) (fun t ht _ => ⟨ho2 t (by omega), rfl⟩)
        refine W.widen (k := cells + 81) (n := slots + 806) (by omega) (by omega) ?_
        exact K ad k2 σ _ g1 _ _ ls ⟨hR2, hM2, hiv, hg2⟩ hw (lv_sub hl [2, 3, 4, 5, 6] rfl)
      · exact absurd c827 (by decide)
    · exact absurd (by decide) c820
  · refine lv_aload_n X.1 X.2.1 dL_law_777 rfl (lv_at hl 1 rfl) ?_
    refine lv_aload_n X.1 X.2.1 dL_law_778 rfl (lv_at hl 0 rfl) ?_
    refine lv_iload X.1 X.2.1 dL_law_779 (lv_at hl 4 rfl) ?_
    refine lv_iconst (v := 1) X.1 X.2.1 dL_law_781 (by decide) ?_
    refine lv_iadd X.1 X.2.1 dL_law_782 ?_
    refine h_ti (b := nI (n + 1)) (nI_add n 1) ?_
    refine va_sld X.1 X.2.1 hXs hbl hbA hw.S (vp_in_nI (n := (n + 1)) (by omega) (by omega)) dL_law_783 ?_
    refine h_ti (b := xs (n + 1)) (by rw [nI_clamp (by omega)]) ?_
    refine lv_aload_n X.1 X.2.1 dL_law_784 rfl (lv_at hl 0 rfl) ?_
    refine lv_iload X.1 X.2.1 dL_law_785 (lv_at hl 4 rfl) ?_
    refine lv_iconst (v := 2) X.1 X.2.1 dL_law_787 (by decide) ?_
    refine lv_iadd X.1 X.2.1 dL_law_788 ?_
    refine h_ti (b := nI (n + 2)) (nI_add n 2) ?_
    refine va_sld X.1 X.2.1 hXs hbl hbA hw.S (vp_in_nI (n := (n + 2)) (by omega) (by omega)) dL_law_789 ?_
    refine h_ti (b := xs (n + 2)) (by rw [nI_clamp (by omega)]) ?_
    refine lv_aload_n X.1 X.2.1 dL_law_790 rfl (lv_at hl 3 rfl) ?_
    refine h_callXS (As := [.ref (ad (0, 0, 0)), .int (xs (n + 1)), .int (xs (n + 2)), .ref (ad (21, 0, 0))]) (rest := []) X hw hZ cs_L_113 (c_L_odds l hlt G hR hg hiv (xs (n + 1)) (xs (n + 2))) rfl hl.1 rfl (Nat.le_of_ble_eq_true rfl) ⟨by decide, by decide⟩ ⟨by show _ ≤ 601024; omega, by show _ ≤ 7293000; omega⟩ dL_law_791 (fun r9 ad1 k1 H locs hp9 hw => ?_)
    obtain ⟨rfl, ea1, ho1, g1, hg1, hv1⟩ := hp9
    refine W.eq (g2 := F0 m 794 ls [.int 0]) (by rw [hsp]; rfl) ?_
    replace hw := hw.renA ea1.symm
    have hR1 : RX G ad k1 σ := hR.congr (fun t ht _ => ⟨ho1 t (fun q => by rw [q] at ht; exact absurd ht (by decide)), rfl⟩)
    have hM1 : RM G ad k1 σ th := hM.congr (fun t ht => ⟨ho1 t (fun q => by rw [q] at ht; exact absurd ht (by decide)), rfl⟩)
    refine lv_istore (lv' := [(5, .int 0), (0, .ref b), (1, .ref (ad (0, 0, 0))), (2, .ref (ad (20, 0, 0))), (3, .ref (ad (21, 0, 0))), (4, .int (nI n))]) X.1 X.2.1 dL_law_794 hl (by decide) rfl (fun ls hl => ?_)
    refine lv_aload_n X.1 X.2.1 dL_law_796 rfl (lv_at hl 3 rfl) ?_
    refine lv_aload_n X.1 X.2.1 dL_law_797 rfl (lv_at hl 1 rfl) ?_
    refine lv_iload X.1 X.2.1 dL_law_798 (lv_at hl 5 rfl) ?_
    refine lv_iconst (v := 1) X.1 X.2.1 dL_law_800 (by decide) ?_
    refine lv_iadd X.1 X.2.1 dL_law_801 ?_
    refine h_ti (b := nI (n + 1)) (nI_add n 1) ?_
    refine va_sld X.1 X.2.1 hXs hbl hbA hw.S (vp_in_nI (n := (n + 1)) (by omega) (by omega)) dL_law_802 ?_
    refine h_ti (b := xs (n + 1)) (by rw [nI_clamp (by omega)]) ?_
    refine lv_aload_n X.1 X.2.1 dL_law_803 rfl (lv_at hl 1 rfl) ?_
    refine lv_iload X.1 X.2.1 dL_law_804 (lv_at hl 5 rfl) ?_
    refine lv_iconst (v := 2) X.1 X.2.1 dL_law_806 (by decide) ?_
    refine lv_iadd X.1 X.2.1 dL_law_807 ?_
    refine h_ti (b := nI (n + 2)) (nI_add n 2) ?_
    refine va_sld X.1 X.2.1 hXs hbl hbA hw.S (vp_in_nI (n := (n + 2)) (by omega) (by omega)) dL_law_808 ?_
    refine h_ti (b := xs (n + 2)) (by rw [nI_clamp (by omega)]) ?_
    refine h_callWV (t := (20, 0, 0)) (As := [.int (xs (n + 1)), .int (xs (n + 2))]) (rest := []) X hw cs_L_115 (c_X4_odds l G hM1 hiv (xs (n + 1)) (xs (n + 2))) hM1.1 rfl rfl hl.1 rfl (Nat.le_of_ble_eq_true rfl) ⟨by decide, by decide⟩ ⟨by show _ ≤ 601024; omega, by show _ ≤ 7293000; omega⟩ dL_law_809 (fun r9 ad2 k2 H locs hp9 hw => ?_)
    obtain ⟨hr9, ea2, hM2, ho2⟩ := hp9
    rw [hsp] at hr9 hM2
    subst hr9
    refine W.eq (g2 := F0 m 812 ls [.long v]) rfl ?_
    replace hw := hw.renA ea2.symm
    have hg2 : k2 (21, 0, 0) = some (.inl (G.2 1, 1, .inr (.inl g1))) := (ho2 _ (by decide)).trans hg1
    refine lv_lstore (lv' := [(6, .long v), (5, .int 0), (0, .ref b), (1, .ref (ad (0, 0, 0))), (2, .ref (ad (20, 0, 0))), (3, .ref (ad (21, 0, 0))), (4, .int (nI n))]) X.1 X.2.1 dL_law_812 hl (by decide) rfl (fun ls hl => ?_)
    refine lv_aload_n X.1 X.2.1 dL_law_814 rfl (lv_at hl 4 rfl) ?_
    refine h_callRV (t := (20, 0, 0)) (As := []) (rest := []) X hw cs_L_81 (c_X4_thrown l G hM2) hM2.1 rfl rfl hl.1 rfl (Nat.le_of_ble_eq_true rfl) ⟨by decide, by decide⟩ ⟨by show _ ≤ 601024; omega, by show _ ≤ 7293000; omega⟩ dL_law_815 ?_
    refine h_tv (b := .int 0) rfl ?_
    refine lv_iload X.1 X.2.1 dL_law_818 (lv_at hl 1 rfl) ?_
    refine lv_icmp_eq (tgt := 825) X.1 X.2.1 dL_law_820 (by decide) (fun c820 => ?_) (fun c820 => ?_)
    · refine lv_iload X.1 X.2.1 dL_law_825 (lv_at hl 1 rfl) ?_
      refine lv_if_ne (tgt := 841) X.1 X.2.1 dL_law_827 (by decide) (fun c827 => ?_) (fun c827 => ?_)
      · exact absurd (by decide) c827
      · refine lv_aload_n X.1 X.2.1 dL_law_830 rfl (lv_at hl 5 rfl) ?_
        refine lv_iconst (v := 0) X.1 X.2.1 dL_law_831 (by decide) ?_
        refine h_lald X hw hg2 (vp_in_nI (n := 0) (by decide) (by decide)) dL_law_832 ?_
        refine h_tv (b := .long v) (by show Value.long (g1 0) = _; rw [hv1 v (by first | exact hsp | (rw [hsp]; rfl))]) ?_
        refine lv_lload X.1 X.2.1 dL_law_833 (lv_at hl 0 rfl) ?_
        refine h_lcmp (v := 0) (lcv_eq _) X.1 X.2.1 dL_law_835 ?_
        refine lv_if_eq (tgt := 841) X.1 X.2.1 dL_law_836 (by decide) (fun c836 => ?_) (fun c836 => ?_)
        · refine lv_goto (tgt := 986) X.1 X.2.1 dL_law_841 (by decide) ?_
          have hR2 := hR1.congr (k' := k2) (ad' := ad) (fun t ht _ => ⟨ho2 t (by omega), rfl⟩)
          refine W.widen (k := cells + 81) (n := slots + 806) (by omega) (by omega) ?_
          exact K ad k2 σ _ g1 _ _ ls ⟨hR2, hM2, hiv, hg2⟩ hw (lv_sub hl [2, 3, 4, 5, 6] rfl)
        · exact absurd (by decide) c836
    · exact absurd (by decide) c820
set_option maxHeartbeats 4000000 in
set_option maxRecDepth 100000 in
theorem lw_c17 {p : Program} {l : Launch} {e : Env} {s : State} {m : MethodId} {below : List Frame} {meth : Method} {c : Code} {G : h_G} {A : Nat → Prop} {b L n cells slots : Nat} {xs : Nat → Int32} {Q : State → Prop} {ad : h_T → Nat} {k : h_C} {σ : S_t} {th : Int32} {g : Nat → Int64} {H : Heap} {locs : List Loc} {ls : Array Slot} (GG : lw_G p l s m c G A b L n xs) (hc : cells + 81 ≤ 601024) (hs : slots + 806 ≤ 7293000) (K : lw_K p l e s m below meth c G A b n (cells + 81) (slots + 806) Q) (I : lw_I G ad k σ th g) (hw : h_W G.1 h_cl A s.heap ad k H locs) (hl : lv_has ls 8 (lw_L b ad n)) : W p l e room_1 s m #[Value.ref b] below meth c H locs cells slots Q (F0 m 844 ls []) := by
  obtain ⟨X, hlt, hZ, hXs, hbl, hbA, hL, hn⟩ := GG
  obtain ⟨hR, hM, hiv, hg⟩ := id I
  have hok := hR.ok
  have hl : lv_has ls 8 [(0, .ref b), (1, .ref (ad (0, 0, 0))), (2, .ref (ad (20, 0, 0))), (3, .ref (ad (21, 0, 0))), (4, .int (nI n))] := hl
  rcases hsp : sp_at σ (xs (n + 1)) (xs (n + 2)) (xs (n + 3)) with _ | v
  · refine lv_aload_n X.1 X.2.1 dL_law_844 rfl (lv_at hl 1 rfl) ?_
    refine lv_aload_n X.1 X.2.1 dL_law_845 rfl (lv_at hl 0 rfl) ?_
    refine lv_iload X.1 X.2.1 dL_law_846 (lv_at hl 4 rfl) ?_
    refine lv_iconst (v := 1) X.1 X.2.1 dL_law_848 (by decide) ?_
    refine lv_iadd X.1 X.2.1 dL_law_849 ?_
    refine h_ti (b := nI (n + 1)) (nI_add n 1) ?_
    refine va_sld X.1 X.2.1 hXs hbl hbA hw.S (vp_in_nI (n := (n + 1)) (by omega) (by omega)) dL_law_850 ?_
    refine h_ti (b := xs (n + 1)) (by rw [nI_clamp (by omega)]) ?_
    refine lv_aload_n X.1 X.2.1 dL_law_851 rfl (lv_at hl 0 rfl) ?_
    refine lv_iload X.1 X.2.1 dL_law_852 (lv_at hl 4 rfl) ?_
    refine lv_iconst (v := 2) X.1 X.2.1 dL_law_854 (by decide) ?_
    refine lv_iadd X.1 X.2.1 dL_law_855 ?_
    refine h_ti (b := nI (n + 2)) (nI_add n 2) ?_
    refine va_sld X.1 X.2.1 hXs hbl hbA hw.S (vp_in_nI (n := (n + 2)) (by omega) (by omega)) dL_law_856 ?_
    refine h_ti (b := xs (n + 2)) (by rw [nI_clamp (by omega)]) ?_
    refine lv_aload_n X.1 X.2.1 dL_law_857 rfl (lv_at hl 0 rfl) ?_
    refine lv_iload X.1 X.2.1 dL_law_858 (lv_at hl 4 rfl) ?_
    refine lv_iconst (v := 3) X.1 X.2.1 dL_law_860 (by decide) ?_
    refine lv_iadd X.1 X.2.1 dL_law_861 ?_
    refine h_ti (b := nI (n + 3)) (nI_add n 3) ?_
    refine va_sld X.1 X.2.1 hXs hbl hbA hw.S (vp_in_nI (n := (n + 3)) (by omega) (by omega)) dL_law_862 ?_
    refine h_ti (b := xs (n + 3)) (by rw [nI_clamp (by omega)]) ?_
    refine lv_aload_n X.1 X.2.1 dL_law_863 rfl (lv_at hl 3 rfl) ?_
    refine h_callXS (As := [.ref (ad (0, 0, 0)), .int (xs (n + 1)), .int (xs (n + 2)), .int (xs (n + 3)), .ref (ad (21, 0, 0))]) (rest := []) X hw hZ cs_L_116 (c_L_at l hlt G hR hg (xs (n + 1)) (xs (n + 2)) (xs (n + 3))) rfl hl.1 rfl (Nat.le_of_ble_eq_true rfl) ⟨by decide, by decide⟩ ⟨by show _ ≤ 601024; omega, by show _ ≤ 7293000; omega⟩ dL_law_864 (fun r9 ad1 k1 H locs hp9 hw => ?_)
    obtain ⟨rfl, ea1, ho1, g1, hg1, hv1⟩ := hp9
    refine W.eq (g2 := F0 m 867 ls [.int 1]) (by rw [hsp]; rfl) ?_
    replace hw := hw.renA ea1.symm
    have hR1 : RX G ad k1 σ := hR.congr (fun t ht _ => ⟨ho1 t (fun q => by rw [q] at ht; exact absurd ht (by decide)), rfl⟩)
    have hM1 : RM G ad k1 σ th := hM.congr (fun t ht => ⟨ho1 t (fun q => by rw [q] at ht; exact absurd ht (by decide)), rfl⟩)
    refine lv_istore (lv' := [(5, .int 1), (0, .ref b), (1, .ref (ad (0, 0, 0))), (2, .ref (ad (20, 0, 0))), (3, .ref (ad (21, 0, 0))), (4, .int (nI n))]) X.1 X.2.1 dL_law_867 hl (by decide) rfl (fun ls hl => ?_)
    refine lv_aload_n X.1 X.2.1 dL_law_869 rfl (lv_at hl 3 rfl) ?_
    refine lv_aload_n X.1 X.2.1 dL_law_870 rfl (lv_at hl 1 rfl) ?_
    refine lv_iload X.1 X.2.1 dL_law_871 (lv_at hl 5 rfl) ?_
    refine lv_iconst (v := 1) X.1 X.2.1 dL_law_873 (by decide) ?_
    refine lv_iadd X.1 X.2.1 dL_law_874 ?_
    refine h_ti (b := nI (n + 1)) (nI_add n 1) ?_
    refine va_sld X.1 X.2.1 hXs hbl hbA hw.S (vp_in_nI (n := (n + 1)) (by omega) (by omega)) dL_law_875 ?_
    refine h_ti (b := xs (n + 1)) (by rw [nI_clamp (by omega)]) ?_
    refine lv_aload_n X.1 X.2.1 dL_law_876 rfl (lv_at hl 1 rfl) ?_
    refine lv_iload X.1 X.2.1 dL_law_877 (lv_at hl 5 rfl) ?_
    refine lv_iconst (v := 2) X.1 X.2.1 dL_law_879 (by decide) ?_
    refine lv_iadd X.1 X.2.1 dL_law_880 ?_
    refine h_ti (b := nI (n + 2)) (nI_add n 2) ?_
    refine va_sld X.1 X.2.1 hXs hbl hbA hw.S (vp_in_nI (n := (n + 2)) (by omega) (by omega)) dL_law_881 ?_
    refine h_ti (b := xs (n + 2)) (by rw [nI_clamp (by omega)]) ?_
    refine lv_aload_n X.1 X.2.1 dL_law_882 rfl (lv_at hl 1 rfl) ?_
    refine lv_iload X.1 X.2.1 dL_law_883 (lv_at hl 5 rfl) ?_
    refine lv_iconst (v := 3) X.1 X.2.1 dL_law_885 (by decide) ?_
    refine lv_iadd X.1 X.2.1 dL_law_886 ?_
    refine h_ti (b := nI (n + 3)) (nI_add n 3) ?_
    refine va_sld X.1 X.2.1 hXs hbl hbA hw.S (vp_in_nI (n := (n + 3)) (by omega) (by omega)) dL_law_887 ?_
    refine h_ti (b := xs (n + 3)) (by rw [nI_clamp (by omega)]) ?_
    refine h_callWV (t := (20, 0, 0)) (As := [.int (xs (n + 1)), .int (xs (n + 2)), .int (xs (n + 3))]) (rest := []) X hw cs_L_119 (c_X4_at l G hM1 (xs (n + 1)) (xs (n + 2)) (xs (n + 3))) hM1.1 rfl rfl hl.1 rfl (Nat.le_of_ble_eq_true rfl) ⟨by decide, by decide⟩ ⟨by show _ ≤ 601024; omega, by show _ ≤ 7293000; omega⟩ dL_law_888 (fun r9 ad2 k2 H locs hp9 hw => ?_)
    obtain ⟨hr9, ea2, hM2, ho2⟩ := hp9
    rw [hsp] at hr9 hM2
    subst hr9
    refine W.eq (g2 := F0 m 891 ls [.int 0]) rfl ?_
    replace hw := hw.renA ea2.symm
    have hg2 : k2 (21, 0, 0) = some (.inl (G.2 1, 1, .inr (.inl g1))) := (ho2 _ (by decide)).trans hg1
    refine lv_istore (lv' := [(6, .int 0), (5, .int 1), (0, .ref b), (1, .ref (ad (0, 0, 0))), (2, .ref (ad (20, 0, 0))), (3, .ref (ad (21, 0, 0))), (4, .int (nI n))]) X.1 X.2.1 dL_law_891 hl (by decide) rfl (fun ls hl => ?_)
    refine lv_aload_n X.1 X.2.1 dL_law_893 rfl (lv_at hl 4 rfl) ?_
    refine h_callRV (t := (20, 0, 0)) (As := []) (rest := []) X hw cs_L_81 (c_X4_thrown l G hM2) hM2.1 rfl rfl hl.1 rfl (Nat.le_of_ble_eq_true rfl) ⟨by decide, by decide⟩ ⟨by show _ ≤ 601024; omega, by show _ ≤ 7293000; omega⟩ dL_law_894 ?_
    refine h_tv (b := .int 1) rfl ?_
    refine lv_iload X.1 X.2.1 dL_law_897 (lv_at hl 1 rfl) ?_
    refine lv_icmp_eq (tgt := 904) X.1 X.2.1 dL_law_899 (by decide) (fun c899 => ?_) (fun c899 => ?_)
    · refine lv_iload X.1 X.2.1 dL_law_904 (lv_at hl 1 rfl) ?_
      refine lv_if_ne (tgt := 921) X.1 X.2.1 dL_law_906 (by decide) (fun c906 => ?_) (fun c906 => ?_)
      · refine lv_goto (tgt := 986) X.1 X.2.1 dL_law_921 (by decide) ?_
        have hR2 := hR1.congr (k' := k2) (ad' := ad) (fun t ht _ => ⟨ho2 t (by omega), rfl⟩)
        refine W.widen (k := cells + 81) (n := slots + 806) (by omega) (by omega) ?_
        exact K ad k2 σ _ g1 _ _ ls ⟨hR2, hM2, hiv, hg2⟩ hw (lv_sub hl [2, 3, 4, 5, 6] rfl)
      · exact absurd c906 (by decide)
    · exact absurd (by decide) c899
  · refine lv_aload_n X.1 X.2.1 dL_law_844 rfl (lv_at hl 1 rfl) ?_
    refine lv_aload_n X.1 X.2.1 dL_law_845 rfl (lv_at hl 0 rfl) ?_
    refine lv_iload X.1 X.2.1 dL_law_846 (lv_at hl 4 rfl) ?_
    refine lv_iconst (v := 1) X.1 X.2.1 dL_law_848 (by decide) ?_
    refine lv_iadd X.1 X.2.1 dL_law_849 ?_
    refine h_ti (b := nI (n + 1)) (nI_add n 1) ?_
    refine va_sld X.1 X.2.1 hXs hbl hbA hw.S (vp_in_nI (n := (n + 1)) (by omega) (by omega)) dL_law_850 ?_
    refine h_ti (b := xs (n + 1)) (by rw [nI_clamp (by omega)]) ?_
    refine lv_aload_n X.1 X.2.1 dL_law_851 rfl (lv_at hl 0 rfl) ?_
    refine lv_iload X.1 X.2.1 dL_law_852 (lv_at hl 4 rfl) ?_
    refine lv_iconst (v := 2) X.1 X.2.1 dL_law_854 (by decide) ?_
    refine lv_iadd X.1 X.2.1 dL_law_855 ?_
    refine h_ti (b := nI (n + 2)) (nI_add n 2) ?_
    refine va_sld X.1 X.2.1 hXs hbl hbA hw.S (vp_in_nI (n := (n + 2)) (by omega) (by omega)) dL_law_856 ?_
    refine h_ti (b := xs (n + 2)) (by rw [nI_clamp (by omega)]) ?_
    refine lv_aload_n X.1 X.2.1 dL_law_857 rfl (lv_at hl 0 rfl) ?_
    refine lv_iload X.1 X.2.1 dL_law_858 (lv_at hl 4 rfl) ?_
    refine lv_iconst (v := 3) X.1 X.2.1 dL_law_860 (by decide) ?_
    refine lv_iadd X.1 X.2.1 dL_law_861 ?_
    refine h_ti (b := nI (n + 3)) (nI_add n 3) ?_
    refine va_sld X.1 X.2.1 hXs hbl hbA hw.S (vp_in_nI (n := (n + 3)) (by omega) (by omega)) dL_law_862 ?_
    refine h_ti (b := xs (n + 3)) (by rw [nI_clamp (by omega)]) ?_
    refine lv_aload_n X.1 X.2.1 dL_law_863 rfl (lv_at hl 3 rfl) ?_
    refine h_callXS (As := [.ref (ad (0, 0, 0)), .int (xs (n + 1)), .int (xs (n + 2)), .int (xs (n + 3)), .ref (ad (21, 0, 0))]) (rest := []) X hw hZ cs_L_116 (c_L_at l hlt G hR hg (xs (n + 1)) (xs (n + 2)) (xs (n + 3))) rfl hl.1 rfl (Nat.le_of_ble_eq_true rfl) ⟨by decide, by decide⟩ ⟨by show _ ≤ 601024; omega, by show _ ≤ 7293000; omega⟩ dL_law_864 (fun r9 ad1 k1 H locs hp9 hw => ?_)
    obtain ⟨rfl, ea1, ho1, g1, hg1, hv1⟩ := hp9
    refine W.eq (g2 := F0 m 867 ls [.int 0]) (by rw [hsp]; rfl) ?_
    replace hw := hw.renA ea1.symm
    have hR1 : RX G ad k1 σ := hR.congr (fun t ht _ => ⟨ho1 t (fun q => by rw [q] at ht; exact absurd ht (by decide)), rfl⟩)
    have hM1 : RM G ad k1 σ th := hM.congr (fun t ht => ⟨ho1 t (fun q => by rw [q] at ht; exact absurd ht (by decide)), rfl⟩)
    refine lv_istore (lv' := [(5, .int 0), (0, .ref b), (1, .ref (ad (0, 0, 0))), (2, .ref (ad (20, 0, 0))), (3, .ref (ad (21, 0, 0))), (4, .int (nI n))]) X.1 X.2.1 dL_law_867 hl (by decide) rfl (fun ls hl => ?_)
    refine lv_aload_n X.1 X.2.1 dL_law_869 rfl (lv_at hl 3 rfl) ?_
    refine lv_aload_n X.1 X.2.1 dL_law_870 rfl (lv_at hl 1 rfl) ?_
    refine lv_iload X.1 X.2.1 dL_law_871 (lv_at hl 5 rfl) ?_
    refine lv_iconst (v := 1) X.1 X.2.1 dL_law_873 (by decide) ?_
    refine lv_iadd X.1 X.2.1 dL_law_874 ?_
    refine h_ti (b := nI (n + 1)) (nI_add n 1) ?_
    refine va_sld X.1 X.2.1 hXs hbl hbA hw.S (vp_in_nI (n := (n + 1)) (by omega) (by omega)) dL_law_875 ?_
    refine h_ti (b := xs (n + 1)) (by rw [nI_clamp (by omega)]) ?_
    refine lv_aload_n X.1 X.2.1 dL_law_876 rfl (lv_at hl 1 rfl) ?_
    refine lv_iload X.1 X.2.1 dL_law_877 (lv_at hl 5 rfl) ?_
    refine lv_iconst (v := 2) X.1 X.2.1 dL_law_879 (by decide) ?_
    refine lv_iadd X.1 X.2.1 dL_law_880 ?_
    refine h_ti (b := nI (n + 2)) (nI_add n 2) ?_
    refine va_sld X.1 X.2.1 hXs hbl hbA hw.S (vp_in_nI (n := (n + 2)) (by omega) (by omega)) dL_law_881 ?_
    refine h_ti (b := xs (n + 2)) (by rw [nI_clamp (by omega)]) ?_
    refine lv_aload_n X.1 X.2.1 dL_law_882 rfl (lv_at hl 1 rfl) ?_
    refine lv_iload X.1 X.2.1 dL_law_883 (lv_at hl 5 rfl) ?_
    refine lv_iconst (v := 3) X.1 X.2.1 dL_law_885 (by decide) ?_
    refine lv_iadd X.1 X.2.1 dL_law_886 ?_
    refine h_ti (b := nI (n + 3)) (nI_add n 3) ?_
    refine va_sld X.1 X.2.1 hXs hbl hbA hw.S (vp_in_nI (n := (n + 3)) (by omega) (by omega)) dL_law_887 ?_
    refine h_ti (b := xs (n + 3)) (by rw [nI_clamp (by omega)]) ?_
    refine h_callWV (t := (20, 0, 0)) (As := [.int (xs (n + 1)), .int (xs (n + 2)), .int (xs (n + 3))]) (rest := []) X hw cs_L_119 (c_X4_at l G hM1 (xs (n + 1)) (xs (n + 2)) (xs (n + 3))) hM1.1 rfl rfl hl.1 rfl (Nat.le_of_ble_eq_true rfl) ⟨by decide, by decide⟩ ⟨by show _ ≤ 601024; omega, by show _ ≤ 7293000; omega⟩ dL_law_888 (fun r9 ad2 k2 H locs hp9 hw => ?_)
    obtain ⟨hr9, ea2, hM2, ho2⟩ := hp9
    rw [hsp] at hr9 hM2
    subst hr9
    refine W.eq (g2 := F0 m 891 ls [.int v]) rfl ?_
    replace hw := hw.renA ea2.symm
    have hg2 : k2 (21, 0, 0) = some (.inl (G.2 1, 1, .inr (.inl g1))) := (ho2 _ (by decide)).trans hg1
    refine lv_istore (lv' := [(6, .int v), (5, .int 0), (0, .ref b), (1, .ref (ad (0, 0, 0))), (2, .ref (ad (20, 0, 0))), (3, .ref (ad (21, 0, 0))), (4, .int (nI n))]) X.1 X.2.1 dL_law_891 hl (by decide) rfl (fun ls hl => ?_)
    refine lv_aload_n X.1 X.2.1 dL_law_893 rfl (lv_at hl 4 rfl) ?_
    refine h_callRV (t := (20, 0, 0)) (As := []) (rest := []) X hw cs_L_81 (c_X4_thrown l G hM2) hM2.1 rfl rfl hl.1 rfl (Nat.le_of_ble_eq_true rfl) ⟨by decide, by decide⟩ ⟨by show _ ≤ 601024; omega, by show _ ≤ 7293000; omega⟩ dL_law_894 ?_
    refine h_tv (b := .int 0) rfl ?_
    refine lv_iload X.1 X.2.1 dL_law_897 (lv_at hl 1 rfl) ?_
    refine lv_icmp_eq (tgt := 904) X.1 X.2.1 dL_law_899 (by decide) (fun c899 => ?_) (fun c899 => ?_)
    · refine lv_iload X.1 X.2.1 dL_law_904 (lv_at hl 1 rfl) ?_
      refine lv_if_ne (tgt := 921) X.1 X.2.1 dL_law_906 (by decide) (fun c906 => ?_) (fun c906 => ?_)
      · exact absurd (by decide) c906
      · refine lv_aload_n X.1 X.2.1 dL_law_909 rfl (lv_at hl 5 rfl) ?_
        refine lv_iconst (v := 0) X.1 X.2.1 dL_law_910 (by decide) ?_
        refine h_lald X hw hg2 (vp_in_nI (n := 0) (by decide) (by decide)) dL_law_911 ?_
        refine h_tv (b := .long ((v).toInt64)) (by show Value.long (g1 0) = _; rw [hv1 (v).toInt64 (by first | exact hsp | (rw [hsp]; rfl))]) ?_
        refine lv_iload X.1 X.2.1 dL_law_912 (lv_at hl 0 rfl) ?_
        refine lv_i2l X.1 X.2.1 dL_law_914 rfl ?_
        refine h_lcmp (v := 0) (lcv_eq _) X.1 X.2.1 dL_law_915 ?_
        refine lv_if_eq (tgt := 921) X.1 X.2.1 dL_law_916 (by decide) (fun c916 => ?_) (fun c916 => ?_)
        · refine lv_goto (tgt := 986) X.1 X.2.1 dL_law_921 (by decide) ?_
          have hR2 := hR1.congr (k' := k2) (ad' := ad) (fun t ht _ => ⟨ho2 t (by omega), rfl⟩)
          refine W.widen (k := cells + 81) (n := slots + 806) (by omega) (by omega) ?_
          exact K ad k2 σ _ g1 _ _ ls ⟨hR2, hM2, hiv, hg2⟩ hw (lv_sub hl [2, 3, 4, 5, 6] rfl)
        · exact absurd (by decide) c916
    · exact absurd (by decide) c899
