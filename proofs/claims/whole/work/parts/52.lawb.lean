/-! ===== the law's helpers ===== -/
theorem h_W.grow {D : va_G} {cl : List vw_C} {A : Nat → Prop} {H0 : Heap} {ad : h_T → Nat} {c : h_C} {H H1 : Heap} {locs : List Loc} (h : h_W D cl A H0 ad c H locs) (hz : H.size ≤ H1.size) (hk : ∀ q : Nat, q < H.size → H1[q]? = H[q]?) : h_W D cl A H0 ad c H1 locs := by
  have hH := h.H
  have hS := h.S
  refine h_W.mk ⟨fun t e ht => (hH.1 t e ht).kept (hk _ (hH.lt (by rw [ht]; exact Option.some_ne_none _))), hH.2⟩ h.A h.new ⟨Nat.le_trans hS.1 hz, fun q h1 h2 => ?_, hS.2.2⟩
  rw [hk q (Nat.lt_of_lt_of_le h1 hS.1)]
  exact hS.2.1 q h1 h2
/-- y has a table of its own; it writes -/
def h_Wx (l : Launch) (y : MethodName) (b : ByteArray) (mL : Nat) (ret : Option FieldType) (hh : List (Nat × Nat × Nat × Nat)) (fr lo mc ms : Nat) (G : h_G) (ad : h_T → Nat) (k : h_C) (av : List Value) (post : h_Ps) : Prop :=
  ∀ sz : Nat, Met l y (.codeWith y b mL ret hh :: h_tb) (h_rm fr lo mc ms) (fun v U => h_Pw G ad k sz av v U ∧ h_Z (h_A ad k sz) U) (h_Qw G ad k sz post) mc ms (h_A ad k sz)
theorem h_wx {l : Launch} {y : MethodName} {b : ByteArray} {mL : Nat} {ret : Option FieldType} {hh : List (Nat × Nat × Nat × Nat)} {fr lo mc ms : Nat} {G : h_G} {ad : h_T → Nat} {k : h_C} {av : List Value} {post : h_Ps} (hy : plainName y.cls = true) (hlen : (lg_sl av).length ≤ mL)
    (body : ∀ (p : Program) (e : Env) (s : State) (m : MethodId) (args : Array Value) (below : List Frame) (meth : Method) (c : Code), h_X p s m args c b mL y.cls G → h_Y meth ret y.name → h_W G.1 h_cl (h_A ad k s.heap.size) s.heap ad k s.heap [] → h_Z (h_A ad k s.heap.size) s → c.exceptionTable.toList = tableOf hh → ∀ ls : Array Slot, lv_has ls mL (lv_args 0 av) →
      W p l e (h_rm fr lo mc ms) s m args below meth c s.heap [] 0 0 (MQ below (h_Qw G ad k s.heap.size post) args s mc ms (h_A ad k s.heap.size)) (F0 m 0 ls [])) : h_Wx l y b mL ret hh fr lo mc ms G ad k av post := by
  intro sz
  refine va_MetW (cc := b) (maxL := mL) (ret := ret) (hh := hh) hy rfl ?_
  intro p e s m args below meth c s₁ B hml hv
  obtain ⟨⟨rfl, rfl, hK, hH⟩, hZ⟩ := hv
  have hts := atoms_spec (ws := .codeWith y b mL ret hh :: h_tb) B.pre
  have ht := vx_table (x := y) B (hts _ List.mem_cons_self)
  have hl := lv_entry av (n := mL) hlen
  rw [lg_entry_eq]
  exact body p e s m _ below meth c ⟨B.exec, B.bytes, hml, findClass_of_methodNamed B.named, fun w hw => hts w (List.mem_cons_of_mem _ hw), hK⟩ ⟨B.returns, B.notSynchronized, (name_of_methodNamed B.named B.method).1⟩ (h_W.start hH) hZ ht _ hl
def h_sX (own : String) (index : Nat) (y : MethodName) (b : ByteArray) (mL : Nat) (ret : Option FieldType) (hh : List (Nat × Nat × Nat × Nat)) (n : Nat) : Prop := GoodIn h_tb (va_wsS own index y (.codeWith y b mL ret hh :: h_tb)) ∧ (y.cls ≠ "java/lang/invoke/MethodHandle" ∧ y.cls ≠ "java/lang/invoke/VarHandle" ∧ (parseMethodDescriptor y.desc).map (fun d => d.parameters.length) = some n)
theorem h_goodX {own : String} {index : Nat} {y : MethodName} {b : ByteArray} {mL : Nat} {ret : Option FieldType} {hh : List (Nat × Nat × Nat × Nat)} (h : ∀ w ∈ va_wsS own index y [.codeWith y b mL ret hh], w ∈ lw_tbl ∧ goodWord w = true) : GoodIn h_tb (va_wsS own index y (.codeWith y b mL ret hh :: h_tb)) := by
  intro w hw
  unfold va_wsS at hw h
  rcases List.mem_append.mp hw with q | q
  · have := h w (List.mem_append_left _ q)
    exact h_tb_good _ (h_tb_in this.1 this.2)
  · rcases List.mem_cons.mp q with q | q
    · have := h w (List.mem_append_right _ (List.mem_cons.mpr (Or.inl q)))
      exact h_tb_good _ (h_tb_in this.1 this.2)
    · exact h_tb_good _ q
theorem cs_L_77 : h_sX RL 77 yL_polled cL_polled 5 (some .int) [(0, 10, 13, 13)] 4 := ⟨h_goodX (by decide +kernel), by decide +kernel⟩
theorem cs_L_113 : h_sX RL 113 yL_odds cL_odds 5 (some .int) [(0, 9, 12, 19)] 4 := ⟨h_goodX (by decide +kernel), by decide +kernel⟩
theorem cs_L_116 : h_sX RL 116 yL_at cL_at 6 (some .int) [(0, 12, 15, 25)] 5 := ⟨h_goodX (by decide +kernel), by decide +kernel⟩
section HLAW
variable {p : Program} {l : Launch} {e : Env} {R : Room} {s : State} {m : MethodId} {args : Array Value} {below : List Frame} {meth : Method} {c : Code} {H : Heap} {locs : List Loc} {cells slots : Nat} {Q : State → Prop}
variable {cc : ByteArray} {nL : Nat} {own : String} {G : h_G} {pc : Nat} {ls : Array Slot} {rest st0 : List Value} {A : Nat → Prop} {ad : h_T → Nat} {k : h_C}
variable {index : Nat} {y : MethodName} {b : ByteArray} {mL n fr lo mc ms : Nat} {ret : Option FieldType} {As : List Value} {post : h_Ps} {hh : List (Nat × Nat × Nat × Nat)}
theorem h_callXS (X : h_X p s m args c cc nL own G) (hw : h_W G.1 h_cl A s.heap ad k H locs) (hZ : h_Z A s) (cs : h_sX own index y b mL ret hh n) (hM : h_Wx l y b mL ret hh fr lo mc ms G ad k As post) (hn : As.length = n) (hsize : ls.size = nL) (hst : st0 = As.reverse ++ rest) (hrest : (rest.map fun v => v.category).sum ≤ 8) (hR : fr + 1 ≤ R.frames ∧ 8 + (mL + 11) + lo ≤ R.locals) (hf : cells + mc ≤ R.cells ∧ slots + ms ≤ R.slots) (hdg : decode cc pc = .ok (.invokestatic index, 3))
    (kk : ∀ (r : Option Value) (ad' : h_T → Nat) (k' : h_C) (H1 : Heap) (locs1 : List Loc), post r ad' k' → h_W G.1 h_cl A s.heap ad' k' H1 locs1 → W p l e R s m args below meth c H1 locs1 (cells + mc) (slots + ms) Q (F0 m (pc + 3) ls (r.toList ++ rest))) : W p l e R s m args below meth c H locs cells slots Q (F0 m pc ls st0) := by
  subst hst
  have hAA : ∀ q : Nat, h_A ad k H.size q → A q := by
    intro q hq
    rcases hq with ⟨u, h1, h2⟩ | h1
    · rw [← h2]; exact hw.A u h1
    · exact hw.new q (Nat.le_trans hw.S.1 h1)
  have hp : PreS s H (fun v U => h_Pw G ad k H.size As v U ∧ h_Z (h_A ad k H.size) U) As := ⟨fun a U g mk q => ⟨(h_preW (av := As) X hw).1 a U g mk q.1, h_Z.calling q.2⟩, fun U hU hW => ⟨(h_preW (av := As) X hw).2 U hU hW, h_Z.to (locs := locs) hZ hW (by rw [hU]; exact hw.S) hAA⟩⟩
  exact h_afterW hw (vx_runSW (hh := hh) (As := As) (rest := rest) ⟨X.1, X.2.1, X.2.2.1, X.2.2.2.1, X.2.2.2.2.1⟩ (hM H.size) (vx_cwSW n X.2.2.2.2.1 cs.1 rfl rfl rfl cs.2 hR) hp rfl hn hsize rfl (lv_room hrest) hdg hf) kk
end HLAW
/-- cell: a number of the script, 0 behind its end -/
theorem c_L_cell (l : Launch) {b L : Nat} {xs : Nat → Int32} (hL : L < 2 ^ 31) : Met l yL_cell (h_ws yL_cell cL_cell 2 (some .int)) (h_rm 0 0 0 0) (fun v U => v = [Value.ref b, Value.int 0].toArray ∧ va_X b L xs U U.heap ∧ b < U.heap.size) (h_Qr (some (.int (if 0 < L then xs 0 else 0)))) 0 0 (fun _ => False) := by
  refine Met.ofW (cc := cL_cell) (maxL := 2) (ret := some .int) (by decide +kernel) rfl ?_
  intro p e s m args below meth c s₁ B hml hv
  obtain ⟨rfl, hX, hbl⟩ := hv
  have hl := lv_entry [Value.ref b, Value.int 0] (n := 2) (Nat.le_of_ble_eq_true rfl)
  rw [lg_entry_eq]
  generalize (lg_sl [Value.ref b, Value.int 0] ++ List.replicate (2 - (lg_sl [Value.ref b, Value.int 0]).length) Slot.unset).toArray = ls at hl ⊢
  have hl : lv_has ls 2 [(0, .ref b), (1, .int 0)] := hl
  have hS : va_S (fun _ : Nat => False) s.heap s.heap [] := va_S.rf
  refine lv_iload_n B.exec B.bytes dL_cell_0 rfl (lv_at hl 1 rfl) ?_
  refine lv_aload_n B.exec B.bytes dL_cell_1 rfl (lv_at hl 0 rfl) ?_
  refine va_slen (A := fun _ => False) B.exec B.bytes hX hbl (fun h => h) hS dL_cell_2 ?_
  refine lv_icmp_ge (tgt := 12) B.exec B.bytes dL_cell_3 (by decide) (fun c3 => ?_) (fun c3 => ?_)
  · rw [if_neg (fun q => absurd c3 (nI_ge (a := 0) (b := L) q hL))]
    refine lv_iconst (v := 0) B.exec B.bytes dL_cell_12 (by decide) ?_
    exact W.iret B.exec B.bytes B.returns (fun t ht hW => ⟨rfl, ht⟩) (fun q hq => by cases hq) dL_cell_13 B.notSynchronized
  · have h0 : 0 < L := Nat.lt_of_not_le (fun q => c3 (nI_le (a := L) (b := 0) q (by decide)))
    rw [if_pos h0]
    refine lv_aload_n B.exec B.bytes dL_cell_6 rfl (lv_at hl 0 rfl) ?_
    refine lv_iload_n B.exec B.bytes dL_cell_7 rfl (lv_at hl 1 rfl) ?_
    refine va_sld (A := fun _ => False) B.exec B.bytes hX hbl (fun h => h) hS (i := 0) (vp_in_nI (n := 0) h0 hL) dL_cell_8 ?_
    refine lv_goto (tgt := 13) B.exec B.bytes dL_cell_9 (by decide) ?_
    exact W.iret B.exec B.bytes B.returns (fun t ht hW => ⟨rfl, ht⟩) (fun q hq => by cases hq) dL_cell_13 B.notSynchronized
