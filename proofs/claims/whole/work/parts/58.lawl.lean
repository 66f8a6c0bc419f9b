set_option maxHeartbeats 4000000 in
set_option maxRecDepth 100000 in
theorem lw_loop {p : Program} {l : Launch} {e : Env} {s : State} {m : MethodId} {below : List Frame} {meth : Method} {c : Code} {G : h_G} {A : Nat → Prop} {b L : Nat} {xs : Nat → Int32} (X : h_X p s m #[Value.ref b] c cL_law 8 RL G) (hlt : l.stackTraces = false) (hZ : h_Z A s) (hXs : va_X b L xs s s.heap) (hbl : b < s.heap.size) (hbA : ¬ A b) (hL : L ≤ 2561) (hAs : ∀ q : Nat, A q → s.heap.size ≤ q) (hr : meth.sig.returnType = ret) (hlocks : meth.locks = false) : ∀ (f i : Nat), i ≤ 512 → 513 ≤ i + f → ∀ (ad : h_T → Nat) (k : h_C) (σ : S_t) (th : Int32) (g : Nat → Int64) (H : Heap) (locs : List Loc) (ls : Array Slot), lw_I G ad k σ th g → h_W G.1 h_cl A s.heap ad k H locs → lv_has ls 8 (lw_L b ad (1 + 5 * i)) → W p l e room_1 s m #[Value.ref b] below meth c H locs (100 + 81 * i) (10000 + 806 * i) (lw_Z below #[Value.ref b] s) (F0 m 33 ls []) := by
  intro f
  induction f with
  | zero =>
    intro i h1 h2
    exact absurd h2 (by omega)
  | succ f ih =>
    intro i hi512 hif ad k σ th g H locs ls I hw hl
    have hl : lv_has ls 8 [(0, .ref b), (1, .ref (ad (0, 0, 0))), (2, .ref (ad (20, 0, 0))), (3, .ref (ad (21, 0, 0))), (4, .int (nI (1 + 5 * i)))] := hl
    refine lv_iload X.1 X.2.1 dL_law_33 (lv_at hl 4 rfl) ?_
    refine lv_aload_n X.1 X.2.1 dL_law_35 rfl (lv_at hl 0 rfl) ?_
    refine va_slen X.1 X.2.1 hXs hbl hbA hw.S dL_law_36 ?_
    refine h_ti (b := nI L) rfl ?_
    refine lv_iconst (v := 5) X.1 X.2.1 dL_law_37 (by decide) ?_
    refine lv_isub X.1 X.2.1 dL_law_38 ?_
    refine lv_icmp_gt (tgt := 992) X.1 X.2.1 dL_law_39 (by decide) (fun c39 => ?_) (fun c39 => ?_)
    · refine lv_iconst (v := 1) X.1 X.2.1 dL_law_992 (by decide) ?_
      refine va_forget (fun q hq => hAs _ (hw.S.2.2 q hq)) ?_
      refine W.widen (k := 601024) (n := 7293000) (by omega) (by omega) ?_
      exact lw_ret X.1 X.2.1 hr hlocks dL_law_993
    · have e5 : (nI L - 5).toInt = (L : Int) - 5 := pk_sub_toInt (a := L) (b := 5) (by omega) (by decide)
      have hn : (1 + 5 * i) + 5 ≤ L := by
        have q := Int.not_lt.mp (fun z => c39 (Int32.lt_iff_toInt_lt.mpr z))
        rw [e5, nI_toInt (by omega)] at q
        omega
      have K : lw_K p l e s m below meth c G A b (1 + 5 * i) (100 + 81 * i + 81) (10000 + 806 * i + 806) (lw_Z below #[Value.ref b] s) := by
        intro ad k σ th g H locs ls I hw hl
        have hl : lv_has ls 8 [(0, .ref b), (1, .ref (ad (0, 0, 0))), (2, .ref (ad (20, 0, 0))), (3, .ref (ad (21, 0, 0))), (4, .int (nI (1 + 5 * i)))] := hl
        refine lv_iinc (v := nI (1 + 5 * (i + 1))) (lv' := [(4, .int (nI (1 + 5 * (i + 1)))), (0, .ref b), (1, .ref (ad (0, 0, 0))), (2, .ref (ad (20, 0, 0))), (3, .ref (ad (21, 0, 0)))]) X.1 X.2.1 dL_law_986 hl (k := 4) rfl ((nI_add (1 + 5 * i) 5).trans (congrArg nI (by omega))) (by decide) rfl (fun ls hl => ?_)
        refine lv_goto (tgt := 33) X.1 X.2.1 dL_law_989 (by decide) ?_
        refine W.widen (k := 100 + 81 * (i + 1)) (n := 10000 + 806 * (i + 1)) (by omega) (by omega) ?_
        exact ih (i + 1) (by omega) (by omega) ad k σ th g _ _ ls I hw (lv_sub hl [1, 2, 3, 4, 0] rfl)
      have GG : lw_G p l s m c G A b L (1 + 5 * i) xs := ⟨X, hlt, hZ, hXs, hbl, hbA, hL, hn⟩
      refine lv_aload_n X.1 X.2.1 dL_law_42 rfl (lv_at hl 0 rfl) ?_
      refine lv_iload X.1 X.2.1 dL_law_43 (lv_at hl 4 rfl) ?_
      refine va_sld X.1 X.2.1 hXs hbl hbA hw.S (vp_in_nI (n := (1 + 5 * i)) (by omega) (by omega)) dL_law_45 ?_
      refine h_ti (b := xs (1 + 5 * i)) (by rw [nI_clamp (by omega)]) ?_
      refine lv_bipush (v := 31) X.1 X.2.1 dL_law_46 (by decide) ?_
      refine lv_iand X.1 X.2.1 dL_law_48 ?_
      obtain ⟨j, hj, hjx⟩ := pk_andE (xs (1 + 5 * i)) (m := 31) 5 (by decide)
      refine h_ti (b := nI j) hjx ?_
      by_cases hj20 : 20 ≤ j
      · refine lv_tableOut (tgt := 986) X.1 X.2.1 dL_law_49 (Or.inr (by rw [nI_toInt (by omega)]; omega)) (by decide) ?_
        refine W.widen (k := 100 + 81 * i + 81) (n := 10000 + 806 * i + 806) (by omega) (by omega) ?_
        exact K ad k σ th g _ _ ls I hw (lv_sub hl [0, 1, 2, 3, 4] rfl)
      rcases (show j = 0 ∨ j = 1 ∨ j = 2 ∨ j = 3 ∨ j = 4 ∨ j = 5 ∨ j = 6 ∨ j = 7 ∨ j = 8 ∨ j = 9 ∨ j = 10 ∨ j = 11 ∨ j = 12 ∨ j = 13 ∨ j = 14 ∨ j = 15 ∨ j = 16 ∨ j = 17 ∨ j = 18 ∨ j = 19 by omega) with rfl | rfl | rfl | rfl | rfl | rfl | rfl | rfl | rfl | rfl | rfl | rfl | rfl | rfl | rfl | rfl | rfl | rfl | rfl | rfl
      · refine lv_tableIn (tgt := 144) X.1 X.2.1 dL_law_49 (by decide) (by decide) (by rfl) (by decide) ?_
        exact lw_c0 GG (by omega) (by omega) K I hw (lv_sub hl [0, 1, 2, 3, 4] rfl)
      · refine lv_tableIn (tgt := 169) X.1 X.2.1 dL_law_49 (by decide) (by decide) (by rfl) (by decide) ?_
        exact lw_c1 GG (by omega) (by omega) K I hw (lv_sub hl [0, 1, 2, 3, 4] rfl)
      · refine lv_tableIn (tgt := 192) X.1 X.2.1 dL_law_49 (by decide) (by decide) (by rfl) (by decide) ?_
        exact lw_c2 GG (by omega) (by omega) K I hw (lv_sub hl [0, 1, 2, 3, 4] rfl)
      · refine lv_tableIn (tgt := 217) X.1 X.2.1 dL_law_49 (by decide) (by decide) (by rfl) (by decide) ?_
        exact lw_c3 GG (by omega) (by omega) K I hw (lv_sub hl [0, 1, 2, 3, 4] rfl)
      · refine lv_tableIn (tgt := 270) X.1 X.2.1 dL_law_49 (by decide) (by decide) (by rfl) (by decide) ?_
        exact lw_c4 GG (by omega) (by omega) K I hw (lv_sub hl [0, 1, 2, 3, 4] rfl)
      · refine lv_tableIn (tgt := 331) X.1 X.2.1 dL_law_49 (by decide) (by decide) (by rfl) (by decide) ?_
        exact lw_c5 GG (by omega) (by omega) K I hw (lv_sub hl [0, 1, 2, 3, 4] rfl)
      · refine lv_tableIn (tgt := 380) X.1 X.2.1 dL_law_49 (by decide) (by decide) (by rfl) (by decide) ?_
        exact lw_c6 GG (by omega) (by omega) K I hw (lv_sub hl [0, 1, 2, 3, 4] rfl)
      · refine lv_tableIn (tgt := 417) X.1 X.2.1 dL_law_49 (by decide) (by decide) (by rfl) (by decide) ?_
        exact lw_c7 GG (by omega) (by omega) K I hw (lv_sub hl [0, 1, 2, 3, 4] rfl)
      · refine lv_tableIn (tgt := 486) X.1 X.2.1 dL_law_49 (by decide) (by decide) (by rfl) (by decide) ?_
        exact lw_c8 GG (by omega) (by omega) K I hw (lv_sub hl [0, 1, 2, 3, 4] rfl)
      · refine lv_tableIn (tgt := 554) X.1 X.2.1 dL_law_49 (by decide) (by decide) (by rfl) (by decide) ?_
        exact lw_c9 GG (by omega) (by omega) K I hw (lv_sub hl [0, 1, 2, 3, 4] rfl)
      · refine lv_tableIn (tgt := 579) X.1 X.2.1 dL_law_49 (by decide) (by decide) (by rfl) (by decide) ?_
        exact lw_c10 GG (by omega) (by omega) K I hw (lv_sub hl [0, 1, 2, 3, 4] rfl)
      · refine lv_tableIn (tgt := 592) X.1 X.2.1 dL_law_49 (by decide) (by decide) (by rfl) (by decide) ?_
        exact lw_c11 GG (by omega) (by omega) K I hw (lv_sub hl [0, 1, 2, 3, 4] rfl)
      · refine lv_tableIn (tgt := 617) X.1 X.2.1 dL_law_49 (by decide) (by decide) (by rfl) (by decide) ?_
        exact lw_c12 GG (by omega) (by omega) K I hw (lv_sub hl [0, 1, 2, 3, 4] rfl)
      · refine lv_tableIn (tgt := 654) X.1 X.2.1 dL_law_49 (by decide) (by decide) (by rfl) (by decide) ?_
        exact lw_c13 GG (by omega) (by omega) K I hw (lv_sub hl [0, 1, 2, 3, 4] rfl)
      · refine lv_tableIn (tgt := 679) X.1 X.2.1 dL_law_49 (by decide) (by decide) (by rfl) (by decide) ?_
        exact lw_c14 GG (by omega) (by omega) K I hw (lv_sub hl [0, 1, 2, 3, 4] rfl)
      · refine lv_tableIn (tgt := 728) X.1 X.2.1 dL_law_49 (by decide) (by decide) (by rfl) (by decide) ?_
        exact lw_c15 GG (by omega) (by omega) K I hw (lv_sub hl [0, 1, 2, 3, 4] rfl)
      · refine lv_tableIn (tgt := 777) X.1 X.2.1 dL_law_49 (by decide) (by decide) (by rfl) (by decide) ?_
        exact lw_c16 GG (by omega) (by omega) K I hw (lv_sub hl [0, 1, 2, 3, 4] rfl)
      · refine lv_tableIn (tgt := 844) X.1 X.2.1 dL_law_49 (by decide) (by decide) (by rfl) (by decide) ?_
        exact lw_c17 GG (by omega) (by omega) K I hw (lv_sub hl [0, 1, 2, 3, 4] rfl)
      · refine lv_tableIn (tgt := 924) X.1 X.2.1 dL_law_49 (by decide) (by decide) (by rfl) (by decide) ?_
        exact lw_c18 GG (by omega) (by omega) K I hw (lv_sub hl [0, 1, 2, 3, 4] rfl)
      · refine lv_tableIn (tgt := 961) X.1 X.2.1 dL_law_49 (by decide) (by decide) (by rfl) (by decide) ?_
        exact lw_c19 GG (by omega) (by omega) K I hw (lv_sub hl [0, 1, 2, 3, 4] rfl)
set_option maxHeartbeats 4000000 in
set_option maxRecDepth 100000 in
theorem whole_start {p : Program} {e : Env} {s : State} {m : MethodId} {below : List Frame} {meth : Method} {c : Code} (l : Launch) (hlt : l.stackTraces = false) {b L : Nat} {xs : Nat → Int32} (hL : L ≤ 2561) (C0 : lw_At p s m meth c b L xs) : W p l e room_1 s m #[Value.ref b] below meth c s.heap [] 0 0 (lw_Z below #[Value.ref b] s) (entryFrame m ([Value.ref b] : List Value).toArray 8) := by
  obtain ⟨hx, hb, hr, hml, hown, hts, hXs, hbl, hlocks, hgv⟩ := id C0
  obtain ⟨G, hK⟩ := lw_hK hts
  have X : h_X p s m #[Value.ref b] c cL_law 8 RL G := ⟨hx, hb, hml, hown, fun w hw => hts w (List.mem_filter.mp hw).1, hK⟩
  obtain ⟨k, hk0⟩ : ∃ zz : h_C, zz = fun _ => none := ⟨_, rfl⟩
  obtain ⟨ad, had0⟩ : ∃ zz : h_T → Nat, zz = fun _ => 0 := ⟨_, rfl⟩
  obtain ⟨A, hA0⟩ : ∃ zz : Nat → Prop, zz = h_A ad k s.heap.size := ⟨_, rfl⟩
  have hAs : ∀ q : Nat, A q → s.heap.size ≤ q := fun q h => by
    rw [hA0] at h
    rcases h with ⟨t, h1, -⟩ | h
    · rw [hk0] at h1
      exact absurd rfl h1
    · exact h
  have hbA : ¬ A b := fun h => absurd (hAs b h) (Nat.not_le.mpr hbl)
  have hZ : h_Z A s := lw_hZ hts hgv hAs
  have hw : h_W G.1 h_cl A s.heap ad k s.heap [] := by
    rw [hA0]
    exact h_W.start ⟨(fun t e ht => by rw [hk0] at ht; cases ht), (fun t t' ht => by rw [hk0] at ht; exact absurd rfl ht)⟩
  have hl := lv_entry [Value.ref b] (n := 8) (Nat.le_of_ble_eq_true rfl)
  rw [lg_entry_eq]
  generalize (lg_sl [Value.ref b] ++ List.replicate (8 - (lg_sl [Value.ref b]).length) Slot.unset).toArray = ls at hl ⊢
  have hl : lv_has ls 8 [(0, .ref b)] := hl
  obtain ⟨x, hx9⟩ : ∃ zz : Int32, zz = (if 0 < L then xs 0 else 0) := ⟨_, rfl⟩
  have hcell := c_L_cell l (b := b) (L := L) (xs := xs) (by omega)
  rw [← hx9] at hcell
  refine h_new X hw (0, 0, 0) (by rw [hk0]) (ci := 3) rfl in_X3 tyX3 tyX3_ok wk_L_8 wa_X3 wn_X3 (fs := [.int 0, .null, .int 0, .null, .int 0, .null, .null, .null, .null, .null, .int 0, .int 0]) (fun j hj => by rcases (show j = 0 ∨ j = 1 ∨ j = 2 ∨ j = 3 ∨ j = 4 ∨ j = 5 ∨ j = 6 ∨ j = 7 ∨ j = 8 ∨ j = 9 ∨ j = 10 ∨ j = 11 by omega) with rfl | rfl | rfl | rfl | rfl | rfl | rfl | rfl | rfl | rfl | rfl | rfl <;> rfl) (by show _ ≤ 601024; omega) (by show _ ≤ 7293000; omega) dL_law_0 (fun q H hw => ?_)
  obtain ⟨k1, hk1⟩ : ∃ zz, zz = h_cu k (0, 0, 0) (some (.inr (3, [.int 0, .null, .int 0, .null, .int 0, .null, .null, .null, .null, .null, .int 0, .int 0]))) := ⟨_, rfl⟩
  obtain ⟨ad1, had1⟩ : ∃ zz, zz = h_au ad (0, 0, 0) q := ⟨_, rfl⟩
  replace hw := (hw.ren hk1).renA had1
  obtain rfl : q = ad1 (0, 0, 0) := by rw [had1, h_as]
  have f1_0_0_0 : k1 (0, 0, 0) = some (.inr (3, [.int 0, .null, .int 0, .null, .int 0, .null, .null, .null, .null, .null, .int 0, .int 0])) := by rw [hk1]; exact h_cs _ _ _
  refine lv_dup X.1 X.2.1 dL_law_3 rfl ?_
  refine lv_aload_n X.1 X.2.1 dL_law_4 rfl (lv_at hl 0 rfl) ?_
  refine lv_iconst (v := 0) X.1 X.2.1 dL_law_5 (by decide) ?_
  refine h_afterR (v := .int x) (va_runS (As := [.ref b, .int 0]) (rest := [.ref (ad1 (0, 0, 0)), .ref (ad1 (0, 0, 0))]) ⟨X.1, X.2.1, X.2.2.1, X.2.2.2.1, X.2.2.2.2.1⟩ hcell (va_cwS 2 X.2.2.2.2.1 cs_L_27.1 rfl rfl rfl cs_L_27.2 ⟨by decide, by decide⟩) ⟨fun a U g mk q => ⟨q.1, va_X.moved (u := U) (U := U.calling g mk a) (Vm.Alike.refl U.vm) q.2.1, q.2.2⟩, fun U hU hW => ⟨rfl, by rw [hU]; exact va_X.moved hW.alike (hXs.kept (hw.S.2.1 b hbl hbA)), by rw [hU]; exact Nat.lt_of_lt_of_le hbl hw.S.1⟩⟩ rfl rfl hl.1 rfl (lv_room (Nat.le_of_ble_eq_true rfl)) dL_law_6 ⟨by show _ ≤ 601024; omega, by show _ ≤ 7293000; omega⟩) ?_
  refine h_callWI (t := (0, 0, 0)) (As := [.int x]) (rest := [.ref (ad1 (0, 0, 0))]) X hw cs_L_33 (c_X3_init l G f1_0_0_0 (fun t _ ht => by rw [hk1, h_cn _ _ ht, hk0]) x) rfl hl.1 rfl (Nat.le_of_ble_eq_true rfl) ⟨by decide, by decide⟩ ⟨by show _ ≤ 601024; omega, by show _ ≤ 7293000; omega⟩ dL_law_9 (fun r9 ad2 k2 H locs hp9 hw => ?_)
  obtain ⟨rfl, hR2, hf2, ha2⟩ := hp9
  refine W.eq (g2 := F0 m 12 ls [.ref (ad1 (0, 0, 0))]) rfl ?_
  have eb2_0 : ad1 (0, 0, 0) = ad2 (0, 0, 0) := (ha2).symm
  simp only [eb2_0]
  refine lv_astore_n (lv' := [(1, .ref (ad2 (0, 0, 0))), (0, .ref b)]) X.1 X.2.1 dL_law_12 rfl hl (by decide) rfl (fun ls hl => ?_)
  refine h_new X hw (20, 0, 0) (by rw [(hf2 _ (Nat.le_of_ble_eq_true rfl)).1, hk1, h_cn _ _ (by simp), hk0]) (ci := 4) rfl in_X4 tyX4 tyX4_ok wk_L_36 wa_X4 wn_X4 (fs := [.int 0, .int 0, .int 0, .null, .null, .null, .null, .int 0, .null, .int 0, .null, .null, .null, .null, .int 0, .null, .null, .null, .null, .int 0]) (fun j hj => by rcases (show j = 0 ∨ j = 1 ∨ j = 2 ∨ j = 3 ∨ j = 4 ∨ j = 5 ∨ j = 6 ∨ j = 7 ∨ j = 8 ∨ j = 9 ∨ j = 10 ∨ j = 11 ∨ j = 12 ∨ j = 13 ∨ j = 14 ∨ j = 15 ∨ j = 16 ∨ j = 17 ∨ j = 18 ∨ j = 19 by omega) with rfl | rfl | rfl | rfl | rfl | rfl | rfl | rfl | rfl | rfl | rfl | rfl | rfl | rfl | rfl | rfl | rfl | rfl | rfl | rfl <;> rfl) (by show _ ≤ 601024; omega) (by show _ ≤ 7293000; omega) dL_law_13 (fun q H hw => ?_)
  obtain ⟨k3, hk3⟩ : ∃ zz, zz = h_cu k2 (20, 0, 0) (some (.inr (4, [.int 0, .int 0, .int 0, .null, .null, .null, .null, .int 0, .null, .int 0, .null, .null, .null, .null, .int 0, .null, .null, .null, .null, .int 0]))) := ⟨_, rfl⟩
  obtain ⟨ad3, had3⟩ : ∃ zz, zz = h_au ad2 (20, 0, 0) q := ⟨_, rfl⟩
  replace hw := (hw.ren hk3).renA had3
  obtain rfl : q = ad3 (20, 0, 0) := by rw [had3, h_as]
  have ea3_0 : ad2 (0, 0, 0) = ad3 (0, 0, 0) := by rw [had3, h_an _ _ (by simp)]
  simp only [ea3_0] at hl
  have f3_20_0_0 : k3 (20, 0, 0) = some (.inr (4, [.int 0, .int 0, .int 0, .null, .null, .null, .null, .int 0, .null, .int 0, .null, .null, .null, .null, .int 0, .null, .null, .null, .null, .int 0])) := by rw [hk3]; exact h_cs _ _ _
  refine lv_dup X.1 X.2.1 dL_law_16 rfl ?_
  refine lv_aload_n X.1 X.2.1 dL_law_17 rfl (lv_at hl 1 rfl) ?_
  refine lv_iconst (v := 0) X.1 X.2.1 dL_law_18 (by decide) ?_
  refine h_afterR (v := .int x) (va_runS (As := [.ref b, .int 0]) (rest := [.ref (ad3 (20, 0, 0)), .ref (ad3 (20, 0, 0))]) ⟨X.1, X.2.1, X.2.2.1, X.2.2.2.1, X.2.2.2.2.1⟩ hcell (va_cwS 2 X.2.2.2.2.1 cs_L_27.1 rfl rfl rfl cs_L_27.2 ⟨by decide, by decide⟩) ⟨fun a U g mk q => ⟨q.1, va_X.moved (u := U) (U := U.calling g mk a) (Vm.Alike.refl U.vm) q.2.1, q.2.2⟩, fun U hU hW => ⟨rfl, by rw [hU]; exact va_X.moved hW.alike (hXs.kept (hw.S.2.1 b hbl hbA)), by rw [hU]; exact Nat.lt_of_lt_of_le hbl hw.S.1⟩⟩ rfl rfl hl.1 rfl (lv_room (Nat.le_of_ble_eq_true rfl)) dL_law_19 ⟨by show _ ≤ 601024; omega, by show _ ≤ 7293000; omega⟩) ?_
  refine h_callWI (t := (20, 0, 0)) (As := [.int x]) (rest := [.ref (ad3 (20, 0, 0))]) X hw cs_L_38 (c_X4_init l G f3_20_0_0 (fun t h2 ht => by rw [hk3, h_cn _ _ ht, (hf2 t (by omega)).1, hk1, h_cn _ _ (fun q => by rw [q] at h2; exact absurd h2 (by decide)), hk0]) x) rfl hl.1 rfl (Nat.le_of_ble_eq_true rfl) ⟨by decide, by decide⟩ ⟨by show _ ≤ 601024; omega, by show _ ≤ 7293000; omega⟩ dL_law_22 (fun r9 ad4 k4 H locs hp9 hw => ?_)
  obtain ⟨rfl, hM4, hf4, ha4⟩ := hp9
  refine W.eq (g2 := F0 m 25 ls [.ref (ad3 (20, 0, 0))]) rfl ?_
  have eb4_0 : ad3 (0, 0, 0) = ad4 (0, 0, 0) := ((hf4 (0, 0, 0) (by decide)).2).symm
  have eb4_1 : ad3 (20, 0, 0) = ad4 (20, 0, 0) := (ha4).symm
  simp only [eb4_0, eb4_1] at hl
  simp only [eb4_0, eb4_1]
  refine lv_astore_n (lv' := [(2, .ref (ad4 (20, 0, 0))), (1, .ref (ad4 (0, 0, 0))), (0, .ref b)]) X.1 X.2.1 dL_law_25 rfl hl (by decide) rfl (fun ls hl => ?_)
  refine lv_iconst (v := 1) X.1 X.2.1 dL_law_26 (by decide) ?_
  refine h_newa X hw (21, 0, 0) (by rw [(hf4 _ (by decide)).1, hk3, h_cn _ _ (by simp), (hf2 _ (Nat.le_of_ble_eq_true rfl)).1, hk1, h_cn _ _ (by simp), hk0]) (ty := .long) rfl wr_long 1 rfl (N' := 1) (a0 := (1, .inr (.inl (fun _ => 0)))) (fun _ => rfl) (by decide) (by decide) (by decide) (by show _ ≤ 601024; omega) (by show _ ≤ 7293000; omega) dL_law_27 (fun q H hw => ?_)
  obtain ⟨k5, hk5⟩ : ∃ zz, zz = h_cu k4 (21, 0, 0) (some (.inl (G.2 1, 1, .inr (.inl (fun _ => 0))))) := ⟨_, rfl⟩
  obtain ⟨ad5, had5⟩ : ∃ zz, zz = h_au ad4 (21, 0, 0) q := ⟨_, rfl⟩
  replace hw := (hw.ren hk5).renA had5
  obtain rfl : q = ad5 (21, 0, 0) := by rw [had5, h_as]
  have ea5_0 : ad4 (20, 0, 0) = ad5 (20, 0, 0) := by rw [had5, h_an _ _ (by simp)]
  have ea5_1 : ad4 (0, 0, 0) = ad5 (0, 0, 0) := by rw [had5, h_an _ _ (by simp)]
  simp only [ea5_0, ea5_1] at hl
  have f5_21_0_0 : k5 (21, 0, 0) = some (.inl (G.2 1, 1, .inr (.inl (fun _ => 0)))) := by rw [hk5]; exact h_cs _ _ _
  refine lv_astore_n (lv' := [(3, .ref (ad5 (21, 0, 0))), (2, .ref (ad5 (20, 0, 0))), (1, .ref (ad5 (0, 0, 0))), (0, .ref b)]) X.1 X.2.1 dL_law_29 rfl hl (by decide) rfl (fun ls hl => ?_)
  refine lv_iconst (v := 1) X.1 X.2.1 dL_law_30 (by decide) ?_
  refine lv_istore (lv' := [(4, .int 1), (3, .ref (ad5 (21, 0, 0))), (2, .ref (ad5 (20, 0, 0))), (1, .ref (ad5 (0, 0, 0))), (0, .ref b)]) X.1 X.2.1 dL_law_31 hl (by decide) rfl (fun ls hl => ?_)
  have nn : ∀ t : h_T, t.1 < 20 → t ≠ (20, 0, 0) := fun t ht q => by rw [q] at ht; exact absurd ht (by decide)
  have n1 : ∀ t : h_T, t.1 < 21 → t ≠ (21, 0, 0) := fun t ht q => by rw [q] at ht; exact absurd ht (by decide)
  refine W.widen (k := 100 + 81 * 0) (n := 10000 + 806 * 0) (Nat.le_of_ble_eq_true rfl) (Nat.le_of_ble_eq_true rfl) ?_
  exact lw_loop X hlt hZ hXs hbl hbA hL hAs hr hlocks 513 0 (by omega) (by omega) ad5 k5 (s_new x) 0 _ _ _ ls ⟨hR2.congr (fun t ht _ => ⟨by rw [hk5, h_cn _ _ (n1 t (by omega)), (hf4 t (by omega)).1, hk3, h_cn _ _ (nn t ht)], by rw [had5, h_an _ _ (n1 t (by omega)), (hf4 t (by omega)).2, had3, h_an _ _ (nn t ht)]⟩), hM4.congr (fun t ht => ⟨by rw [hk5, h_cn _ _ (n1 t (by omega))], by rw [had5, h_an _ _ (n1 t (by omega))]⟩), new_iv x, f5_21_0_0⟩ hw (lv_sub hl [4, 3, 2, 1, 0] rfl)
