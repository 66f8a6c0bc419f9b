/-! ===== where the law begins ===== -/
theorem ar_p {s : State} {args : Array Value} {ty : FieldType} (hty : ty = .int ∨ ty = .long ∨ ty = .boolean ∨ ty = .byte) (h : (Cond.arrayClass ty).before args s = true) : ∃ cA : ClassId, ArrOfT s cA ty ∧ va_RA s cA ty := by
  obtain ⟨cA, kA, comp, f1, f2, f3⟩ := Cond.arrayClass_spec h
  refine ⟨cA, fun N z => ⟨(fun k h => by cases h), kA, f2, comp, f3⟩, ?_⟩
  rcases hty with rfl | rfl | rfl | rfl <;> exact f1
theorem ar_q {s : State} {C : String} (h : va_AO C s) : ∃ cA : ClassId, ArrOfT s cA (.object C) ∧ va_RA s cA (.object C) := by
  obtain ⟨comp, cA, kA, h1, -, h3, h4, h5⟩ := Cond.arrayOver_spec h
  exact ⟨cA, fun N z => ⟨(fun k h => by cases h), kA, h3, comp, h4⟩, kA, comp, h3, h4, h1, h5⟩
theorem h_nw_in : ∀ w ∈ h_nw, w ∈ lw_tbl := by decide +kernel
theorem ao_in : ∀ w ∈ [Cond.arrayOver (.object RX0), Cond.arrayOver (.object RX1), Cond.arrayOver (.object RX2)], w ∈ lw_tbl := by decide +kernel
theorem lw_hK {s : State} {args : Array Value} (hts : ∀ w ∈ lw_tbl, w.before args s = true) : ∃ G : h_G, h_K G s := by
  have htb : ∀ w ∈ h_tb, w.before args s = true := fun w hw => hts w (List.mem_filter.mp hw).1
  have a0 : va_AO RX0 s := va_AO.of (hts _ (ao_in _ List.mem_cons_self))
  have a1 : va_AO RX1 s := va_AO.of (hts _ (ao_in _ (List.mem_cons_of_mem _ List.mem_cons_self)))
  have a2 : va_AO RX2 s := va_AO.of (hts _ (ao_in _ (List.mem_cons_of_mem _ (List.mem_cons_of_mem _ List.mem_cons_self))))
  obtain ⟨c0, i0, k0⟩ := u_known (C := RX0) (T := TX0) (N := 3) (n := 3) htb in_X0 (htb _ wa_X0)
  obtain ⟨c1, i1, k1⟩ := u_known (C := RX1) (T := TX1) (N := 2) (n := 2) htb in_X1 (htb _ wa_X1)
  obtain ⟨c2, i2, k2⟩ := u_known (C := RX2) (T := TX2) (N := 4) (n := 4) htb in_X2 (htb _ wa_X2)
  obtain ⟨c3, i3, k3⟩ := u_known (C := RX3) (T := TX3) (N := 12) (n := 12) htb in_X3 (htb _ wa_X3)
  obtain ⟨c4, i4, k4⟩ := u_known (C := RX4) (T := TX4) (N := 20) (n := 20) htb in_X4 (htb _ wa_X4)
  obtain ⟨r0, q0⟩ := ar_p (Or.inl rfl) (htb _ wr_int)
  obtain ⟨r1, q1⟩ := ar_p (Or.inr (Or.inl rfl)) (htb _ wr_long)
  obtain ⟨r2, q2⟩ := ar_p (Or.inr (Or.inr (Or.inl rfl))) (htb _ wr_boolean)
  obtain ⟨r3, q3⟩ := ar_p (Or.inr (Or.inr (Or.inr rfl))) (htb _ wr_byte)
  obtain ⟨r4, q4⟩ := ar_q a0
  obtain ⟨r5, q5⟩ := ar_q a1
  obtain ⟨r6, q6⟩ := ar_q a2
  refine ⟨((fun k => match k with | 0 => c0 | 1 => c1 | 2 => c2 | 3 => c3 | _ => c4, fun k => match k with | 0 => i0 | 1 => i1 | 2 => i2 | 3 => i3 | _ => i4), fun k => match k with | 0 => r0 | 1 => r1 | 2 => r2 | 3 => r3 | 4 => r4 | 5 => r5 | _ => r6), ⟨?_, ?_⟩, fun w hw => va_Nw.of (h_nw_tab w hw) (hts w (h_nw_in w hw)), a0, a1, a2⟩
  · intro j q hq
    match j, hq with
    | 0, hq => cases hq; exact k0
    | 1, hq => cases hq; exact k1
    | 2, hq => cases hq; exact k2
    | 3, hq => cases hq; exact k3
    | 4, hq => cases hq; exact k4
    | j + 5, hq => cases hq
  · intro j q hq
    match j, hq with
    | 0, hq => cases hq; exact q0
    | 1, hq => cases hq; exact q1
    | 2, hq => cases hq; exact q2
    | 3, hq => cases hq; exact q3
    | 4, hq => cases hq; exact q4
    | 5, hq => cases hq; exact q5
    | 6, hq => cases hq; exact q6
    | j + 7, hq => cases hq
theorem st_in : ∀ w ∈ [Cond.stringRef RX3 134 "no such copy was asked", Cond.stringRef RX3 170 "a store without a rate", Cond.stringRef RX3 179 "no such byte", Cond.laysStatic Bundle.tN "UNASSIGNED_STACK" Bundle.steD, Cond.laysStatic Bundle.tN "SUPPRESSED_SENTINEL" Bundle.listD, Cond.initialized Bundle.tN], w ∈ lw_tbl := by decide +kernel
theorem xw_in : ∀ w ∈ h_xw, w ∈ lw_tbl := by decide +kernel
theorem lw_hZ {s : State} {b : Nat} (hts : ∀ w ∈ lw_tbl, w.before #[Value.ref b] s = true) (hgv : (Jvm.Cond.and given_1 narrow_1).before #[Value.ref b] s = true) {A : Nat → Prop} (hA : ∀ q : Nat, A q → s.heap.size ≤ q) : h_Z A s := by
  have hs := flat_of_before _ hgv
  have nA : ∀ a : Nat, a < s.heap.size → ¬ A a := fun a ha h => absurd (hA a h) (Nat.not_le.mpr ha)
  obtain ⟨a1, _, _, _, e1, -⟩ := Cond.exactly_spec (hs (.exactly (.string "CopyPolls" 134) "java/lang/String") (by decide +kernel))
  obtain ⟨a2, _, _, _, e2, -⟩ := Cond.exactly_spec (hs (.exactly (.string "CopyPolls" 170) "java/lang/String") (by decide +kernel))
  obtain ⟨a3, _, _, _, e3, -⟩ := Cond.exactly_spec (hs (.exactly (.string "CopyPolls" 179) "java/lang/String") (by decide +kernel))
  refine ⟨⟨a1, vk_R.of (A := #[Value.ref b]) (hts _ (st_in _ (by simp))) e1⟩, ⟨a2, vk_R.of (A := #[Value.ref b]) (hts _ (st_in _ (by simp))) e2⟩, ⟨a3, vk_R.of (A := #[Value.ref b]) (hts _ (st_in _ (by simp))) e3⟩, fun w hw => va_Nw.of (h_xw_tab (h_xw_dc w hw)) (hts w (xw_in w hw)), ?_, ?_⟩
  · exact vx_Zqof (hts _ (st_in _ (by simp))) (hts _ (st_in _ (by simp))) (hs (.isRef (.static "java/lang/Throwable" "UNASSIGNED_STACK" "[Ljava/lang/StackTraceElement;")) (by decide +kernel)) nA
  · exact vx_Zqof (hts _ (st_in _ (by simp))) (hts _ (st_in _ (by simp))) (hs (.isRef (.static "java/lang/Throwable" "SUPPRESSED_SENTINEL" "Ljava/util/List;")) (by decide +kernel)) nA
