/-! ===== contracts: of methods that read, of methods that write ===== -/
def h_rm (fr lo mc ms : Nat) : Room := { frames := fr, cells := mc, slots := ms, locals := lo }
def h_Pr (G : h_G) (ad : h_T → Nat) (k : h_C) (av : List Value) : Array Value → State → Prop := fun v U => v = av.toArray ∧ h_K G U ∧ h_H G.1 h_cl ad k U.heap
def h_Qr (r : Option Value) : Array Value → State → Outcome → State → Prop := fun _ st o t => o = .returned r ∧ t.heap = st.heap
def h_Pw (G : h_G) (ad : h_T → Nat) (k : h_C) (sz : Nat) (av : List Value) : Array Value → State → Prop := fun v U => v = av.toArray ∧ U.heap.size = sz ∧ h_K G U ∧ h_H G.1 h_cl ad k U.heap
abbrev h_Ps : Type := Option Value → (h_T → Nat) → h_C → Prop
def h_Qw (G : h_G) (ad : h_T → Nat) (k : h_C) (sz : Nat) (post : h_Ps) : Array Value → State → Outcome → State → Prop := fun _ st o t => (∃ (r : Option Value) (ad' : h_T → Nat) (k' : h_C), o = .returned r ∧ post r ad' k' ∧ h_H G.1 h_cl ad' k' t.heap ∧ ∀ u : h_T, k' u ≠ none → h_A ad k sz (ad' u)) ∧ va_F (h_A ad k sz) st t
/-- y reads: its answer is r -/
def h_Rd (l : Launch) (y : MethodName) (b : ByteArray) (mL : Nat) (ret : Option FieldType) (fr lo : Nat) (G : h_G) (ad : h_T → Nat) (k : h_C) (av : List Value) (r : Option Value) : Prop :=
  Met l y (h_ws y b mL ret) (h_rm fr lo 0 0) (h_Pr G ad k av) (h_Qr r) 0 0 (fun _ => False)
/-- y writes: behind it post holds of the answer and of the cells -/
def h_Wr (l : Launch) (y : MethodName) (b : ByteArray) (mL : Nat) (ret : Option FieldType) (fr lo mc ms : Nat) (G : h_G) (ad : h_T → Nat) (k : h_C) (av : List Value) (post : h_Ps) : Prop :=
  ∀ sz : Nat, Met l y (h_ws y b mL ret) (h_rm fr lo mc ms) (h_Pw G ad k sz av) (h_Qw G ad k sz post) mc ms (h_A ad k sz)
def h_Y (meth : Method) (ret : Option FieldType) (nm : String) : Prop := meth.sig.returnType = ret ∧ meth.locks = false ∧ meth.name = nm
theorem h_rd {l : Launch} {y : MethodName} {b : ByteArray} {mL : Nat} {ret : Option FieldType} {fr lo : Nat} {G : h_G} {ad : h_T → Nat} {k : h_C} {av : List Value} {r : Option Value} (hy : plainName y.cls = true) (hlen : (lg_sl av).length ≤ mL)
    (body : ∀ (p : Program) (e : Env) (s : State) (m : MethodId) (args : Array Value) (below : List Frame) (meth : Method) (c : Code), h_X p s m args c b mL y.cls G → h_Y meth ret y.name → h_W G.1 h_cl (h_A ad k s.heap.size) s.heap ad k s.heap [] → ∀ ls : Array Slot, lv_has ls mL (lv_args 0 av) →
      W p l e (h_rm fr lo 0 0) s m args below meth c s.heap [] 0 0 (MQ below (h_Qr r) args s 0 0 (fun _ => False)) (F0 m 0 ls [])) : h_Rd l y b mL ret fr lo G ad k av r := by
  refine Met.ofW (cc := b) (maxL := mL) (ret := ret) hy rfl ?_
  intro p e s m args below meth c s₁ B hml hv
  obtain ⟨rfl, hK, hH⟩ := hv
  have hts := atoms_spec (ws := h_ws y b mL ret) B.pre
  have hl := lv_entry av (n := mL) hlen
  rw [lg_entry_eq]
  exact body p e s m _ below meth c ⟨B.exec, B.bytes, hml, findClass_of_methodNamed B.named, fun w hw => hts w (List.mem_cons_of_mem _ hw), hK⟩ ⟨B.returns, B.notSynchronized, (name_of_methodNamed B.named B.method).1⟩ (h_W.start hH) _ hl
theorem h_wr {l : Launch} {y : MethodName} {b : ByteArray} {mL : Nat} {ret : Option FieldType} {fr lo mc ms : Nat} {G : h_G} {ad : h_T → Nat} {k : h_C} {av : List Value} {post : h_Ps} (hy : plainName y.cls = true) (hlen : (lg_sl av).length ≤ mL)
    (body : ∀ (p : Program) (e : Env) (s : State) (m : MethodId) (args : Array Value) (below : List Frame) (meth : Method) (c : Code), h_X p s m args c b mL y.cls G → h_Y meth ret y.name → h_W G.1 h_cl (h_A ad k s.heap.size) s.heap ad k s.heap [] → ∀ ls : Array Slot, lv_has ls mL (lv_args 0 av) →
      W p l e (h_rm fr lo mc ms) s m args below meth c s.heap [] 0 0 (MQ below (h_Qw G ad k s.heap.size post) args s mc ms (h_A ad k s.heap.size)) (F0 m 0 ls [])) : h_Wr l y b mL ret fr lo mc ms G ad k av post := by
  intro sz
  refine Met.ofW (cc := b) (maxL := mL) (ret := ret) hy rfl ?_
  intro p e s m args below meth c s₁ B hml hv
  obtain ⟨rfl, rfl, hK, hH⟩ := hv
  have hts := atoms_spec (ws := h_ws y b mL ret) B.pre
  have hl := lv_entry av (n := mL) hlen
  rw [lg_entry_eq]
  exact body p e s m _ below meth c ⟨B.exec, B.bytes, hml, findClass_of_methodNamed B.named, fun w hw => hts w (List.mem_cons_of_mem _ hw), hK⟩ ⟨B.returns, B.notSynchronized, (name_of_methodNamed B.named B.method).1⟩ (h_W.start hH) _ hl
/-! where a call stands: the words of the callee -/
def h_sV (own C : String) (index : Nat) (y : MethodName) (b : ByteArray) (mL : Nat) (ret : Option FieldType) (n : Nat) : Prop := GoodIn h_tb (wsV own index C y (h_ws y b mL ret)) ∧ (y.cls = C ∧ y.cls ≠ "java/lang/invoke/MethodHandle" ∧ y.cls ≠ "java/lang/invoke/VarHandle" ∧ (parseMethodDescriptor y.desc).map (fun d => d.parameters.length) = some n)
def h_sS (own : String) (index : Nat) (y : MethodName) (b : ByteArray) (mL : Nat) (ret : Option FieldType) (n : Nat) : Prop := GoodIn h_tb (va_wsS own index y (h_ws y b mL ret)) ∧ (y.cls ≠ "java/lang/invoke/MethodHandle" ∧ y.cls ≠ "java/lang/invoke/VarHandle" ∧ (parseMethodDescriptor y.desc).map (fun d => d.parameters.length) = some n)
def h_sI (own : String) (index : Nat) (y : MethodName) (b : ByteArray) (mL : Nat) (n : Nat) : Prop := GoodIn h_tb (h_ws y b mL none) ∧ Cond.initialized y.cls ∈ h_tb ∧ Cond.methodLink own index y ∈ h_tb ∧ Cond.instanceMethod y ∈ h_tb ∧ y.name = "<init>" ∧ (y.cls ≠ "java/lang/invoke/MethodHandle" ∧ y.cls ≠ "java/lang/invoke/VarHandle" ∧ (parseMethodDescriptor y.desc).map (fun d => d.parameters.length) = some n)
def h_sJ (own : String) (index : Nat) (y : MethodName) (b : ByteArray) (mL : Nat) (n : Nat) : Prop := GoodIn h_tb (h_ws y b mL none) ∧ Cond.initialized y.cls ∈ h_tb ∧ Cond.methodLinkNest own index y RX3 ∈ h_nw ∧ Cond.instanceMethod y ∈ h_tb ∧ y.name = "<init>" ∧ (y.cls ≠ "java/lang/invoke/MethodHandle" ∧ y.cls ≠ "java/lang/invoke/VarHandle" ∧ (parseMethodDescriptor y.desc).map (fun d => d.parameters.length) = some n)
theorem h_good5 {y : MethodName} {b : ByteArray} {mL : Nat} {ret : Option FieldType} {ws : List Cond} (hc : Cond.code y b mL ret ∈ h_tb) (h : ∀ w ∈ ws, w ∈ h_tb) : GoodIn h_tb (ws ++ h_ws y b mL ret) := fun w hw => by
  rcases List.mem_append.mp hw with hw | hw
  · exact h_tb_good _ (h w hw)
  · exact h_ws_good hc w hw
section HCALLS
variable {p : Program} {l : Launch} {e : Env} {R : Room} {s : State} {m : MethodId} {args : Array Value} {below : List Frame} {meth : Method} {c : Code} {H : Heap} {locs : List Loc} {cells slots : Nat} {Q : State → Prop}
variable {cc : ByteArray} {nL : Nat} {own : String} {G : h_G} {pc : Nat} {ls : Array Slot} {rest st0 : List Value} {A : Nat → Prop} {H0 : Heap} {ad : h_T → Nat} {k : h_C} {t : h_T}
variable {C : String} {index : Nat} {y : MethodName} {b : ByteArray} {mL n fr lo mc ms : Nat} {ret : Option FieldType} {As : List Value} {r : Option Value} {post : h_Ps}
theorem h_preR {av : List Value} (X : h_X p s m args c cc nL own G) (hw : h_W G.1 h_cl A H0 ad k H locs) : PreS s H (h_Pr G ad k av) av :=
  ⟨fun a U g mk q => ⟨q.1, h_K.calling q.2.1, q.2.2⟩, fun U hU hW => ⟨rfl, h_K.warm hW X.2.2.2.2.2, by rw [hU]; exact hw.H⟩⟩
theorem h_preW {av : List Value} (X : h_X p s m args c cc nL own G) (hw : h_W G.1 h_cl A H0 ad k H locs) : PreS s H (h_Pw G ad k H.size av) av :=
  ⟨fun a U g mk q => ⟨q.1, q.2.1, h_K.calling q.2.2.1, q.2.2.2⟩, fun U hU hW => ⟨rfl, by rw [hU], h_K.warm hW X.2.2.2.2.2, by rw [hU]; exact hw.H⟩⟩
theorem h_recv (X : h_X p s m args c cc nL own G) (hw : h_W G.1 h_cl A H0 ad k H locs) {ci : Nat} {fs : List Value} {T : u_T} {N : Nat} (he : k t = some (.inr (ci, fs))) (hc : h_cl[ci]? = some (C, T, N)) : ∃ cellB : Cell, H[ad t]? = some cellB ∧ cellB.vm.isStatics = false ∧ s.vm.findClass C = some cellB.cls := by
  obtain ⟨ws, q0, hq, hP, -, -, -, -⟩ := hw.set he
  exact va_recv X.2.2.2.2.2.1 hP hc hq
/-- behind a call of a reader -/
theorem h_afterR {a : Array Value} {v : Value} (hr : va_Run p l e R s m args below meth c H locs cells slots 0 0 (F0 m pc ls st0) rest (h_Qr (some v) a) (fun _ => False))
    (kk : W p l e R s m args below meth c H locs cells slots Q (F0 m (pc + 3) ls (v :: rest))) : W p l e R s m args below meth c H locs cells slots Q (F0 m pc ls st0) := by
  intro T hT X
  obtain ⟨v', st₀, t, T', L, h0, X', hL, e1, e2, ⟨hv, hh⟩, st⟩ := hr T hT X
  cases hv
  obtain ⟨t2, a1, b1⟩ := kk T' (by rw [e1, hh, h0]) (Stand.forget X' (fun q h => (hL q h).elim))
  exact ⟨t2, st t2 a1, b1⟩
/-- behind a call of a writer -/
theorem h_afterW {a : Array Value} (hw : h_W G.1 h_cl A H0 ad k H locs) (hr : va_Run p l e R s m args below meth c H locs cells slots mc ms (F0 m pc ls st0) rest (h_Qw G ad k H.size post a) (h_A ad k H.size))
    (kk : ∀ (r : Option Value) (ad' : h_T → Nat) (k' : h_C) (H1 : Heap) (locs1 : List Loc), post r ad' k' → h_W G.1 h_cl A H0 ad' k' H1 locs1 → W p l e R s m args below meth c H1 locs1 (cells + mc) (slots + ms) Q (F0 m (pc + 3) ls (r.toList ++ rest))) : W p l e R s m args below meth c H locs cells slots Q (F0 m pc ls st0) := by
  intro T hT X
  obtain ⟨v, st₀, t, T', L, h0, X', hL, e1, e2, ⟨⟨r, ad', k', hv, hp, hh, hd⟩, hz, hk⟩, st⟩ := hr T hT X
  cases hv
  have hAA : ∀ q : Nat, h_A ad k H.size q → A q := by
    intro q hq
    rcases hq with ⟨u, h1, h2⟩ | h1
    · rw [← h2]; exact hw.A u h1
    · exact hw.new q (Nat.le_trans hw.S.1 h1)
  rw [h0] at hz hk
  have hS := hw.S
  have hS1 : va_S A H0 T'.heap (locs ++ L) := ⟨Nat.le_trans hS.1 (by rw [e1]; exact hz), fun q h1 h2 => by
      rw [e1, hk q (Nat.lt_of_lt_of_le h1 hS.1) (fun z => h2 (hAA q z))]
      exact hS.2.1 q h1 h2, fun q hq => by
      rcases List.mem_append.mp hq with h | h
      · exact hS.2.2 q h
      · exact hAA _ (hL q h)⟩
  obtain ⟨t2, a1, b1⟩ := kk _ ad' k' T'.heap (locs ++ L) hp (h_W.mk (by rw [e1]; exact hh) (fun u hu => hAA _ (hd u hu)) hw.new hS1) T' rfl X'
  exact ⟨t2, st t2 a1, b1⟩
theorem h_callRV {v : Value} (X : h_X p s m args c cc nL own G) (hw : h_W G.1 h_cl A H0 ad k H locs) (cs : h_sV own C index y b mL ret n) (hM : h_Rd l y b mL ret fr lo G ad k (.ref (ad t) :: As) (some v)) {ci : Nat} {fs : List Value} {T : u_T} {N : Nat} (he : k t = some (.inr (ci, fs))) (hc : h_cl[ci]? = some (C, T, N)) (hn : As.length = n) (hsize : ls.size = nL) (hst : st0 = As.reverse ++ .ref (ad t) :: rest) (hrest : (rest.map fun v => v.category).sum ≤ 8) (hR : fr + 1 ≤ R.frames ∧ 8 + (mL + 11) + lo ≤ R.locals) (hf : cells ≤ R.cells ∧ slots ≤ R.slots) (hdg : decode cc pc = .ok (.invokevirtual index, 3))
    (kk : W p l e R s m args below meth c H locs cells slots Q (F0 m (pc + 3) ls (v :: rest))) : W p l e R s m args below meth c H locs cells slots Q (F0 m pc ls st0) := by
  subst hst
  exact h_afterR (va_runV (As := As) (rest := rest) ⟨X.1, X.2.1, X.2.2.1, X.2.2.2.1, X.2.2.2.2.1⟩ hM (cwV n X.2.2.2.2.1 cs.1 rfl rfl rfl cs.2 hR) ⟨(h_preR (av := .ref (ad t) :: As) X hw).1, h_recv X hw he hc, (h_preR X hw).2⟩ rfl hn hsize rfl (lv_room hrest) hdg hf) kk
theorem h_callWV (X : h_X p s m args c cc nL own G) (hw : h_W G.1 h_cl A H0 ad k H locs) (cs : h_sV own C index y b mL ret n) (hM : h_Wr l y b mL ret fr lo mc ms G ad k (.ref (ad t) :: As) post) {ci : Nat} {fs : List Value} {T : u_T} {N : Nat} (he : k t = some (.inr (ci, fs))) (hc : h_cl[ci]? = some (C, T, N)) (hn : As.length = n) (hsize : ls.size = nL) (hst : st0 = As.reverse ++ .ref (ad t) :: rest) (hrest : (rest.map fun v => v.category).sum ≤ 8) (hR : fr + 1 ≤ R.frames ∧ 8 + (mL + 11) + lo ≤ R.locals) (hf : cells + mc ≤ R.cells ∧ slots + ms ≤ R.slots) (hdg : decode cc pc = .ok (.invokevirtual index, 3))
    (kk : ∀ (r : Option Value) (ad' : h_T → Nat) (k' : h_C) (H1 : Heap) (locs1 : List Loc), post r ad' k' → h_W G.1 h_cl A H0 ad' k' H1 locs1 → W p l e R s m args below meth c H1 locs1 (cells + mc) (slots + ms) Q (F0 m (pc + 3) ls (r.toList ++ rest))) : W p l e R s m args below meth c H locs cells slots Q (F0 m pc ls st0) := by
  subst hst
  exact h_afterW hw (va_runV (As := As) (rest := rest) ⟨X.1, X.2.1, X.2.2.1, X.2.2.2.1, X.2.2.2.2.1⟩ (hM H.size) (cwV n X.2.2.2.2.1 cs.1 rfl rfl rfl cs.2 hR) ⟨(h_preW (av := .ref (ad t) :: As) X hw).1, h_recv X hw he hc, (h_preW X hw).2⟩ rfl hn hsize rfl (lv_room hrest) hdg hf) kk
theorem h_callRS {v : Value} (X : h_X p s m args c cc nL own G) (hw : h_W G.1 h_cl A H0 ad k H locs) (cs : h_sS own index y b mL ret n) (hM : h_Rd l y b mL ret fr lo G ad k As (some v)) (hn : As.length = n) (hsize : ls.size = nL) (hst : st0 = As.reverse ++ rest) (hrest : (rest.map fun v => v.category).sum ≤ 8) (hR : fr + 1 ≤ R.frames ∧ 8 + (mL + 11) + lo ≤ R.locals) (hf : cells ≤ R.cells ∧ slots ≤ R.slots) (hdg : decode cc pc = .ok (.invokestatic index, 3))
    (kk : W p l e R s m args below meth c H locs cells slots Q (F0 m (pc + 3) ls (v :: rest))) : W p l e R s m args below meth c H locs cells slots Q (F0 m pc ls st0) := by
  subst hst
  exact h_afterR (va_runS (As := As) (rest := rest) ⟨X.1, X.2.1, X.2.2.1, X.2.2.2.1, X.2.2.2.2.1⟩ hM (va_cwS n X.2.2.2.2.1 cs.1 rfl rfl rfl cs.2 hR) (h_preR X hw) rfl hn hsize rfl (lv_room hrest) hdg hf) kk
theorem h_callWI (X : h_X p s m args c cc nL own G) (hw : h_W G.1 h_cl A H0 ad k H locs) (cs : h_sI own index y b mL n) (hM : h_Wr l y b mL none fr lo mc ms G ad k (.ref (ad t) :: As) post) (hn : As.length = n) (hsize : ls.size = nL) (hst : st0 = As.reverse ++ .ref (ad t) :: rest) (hrest : (rest.map fun v => v.category).sum ≤ 8) (hR : fr + 1 ≤ R.frames ∧ 8 + (mL + 11) + lo ≤ R.locals) (hf : cells + mc ≤ R.cells ∧ slots + ms ≤ R.slots) (hdg : decode cc pc = .ok (.invokespecial index, 3))
    (kk : ∀ (r : Option Value) (ad' : h_T → Nat) (k' : h_C) (H1 : Heap) (locs1 : List Loc), post r ad' k' → h_W G.1 h_cl A H0 ad' k' H1 locs1 → W p l e R s m args below meth c H1 locs1 (cells + mc) (slots + ms) Q (F0 m (pc + 3) ls (r.toList ++ rest))) : W p l e R s m args below meth c H locs cells slots Q (F0 m pc ls st0) := by
  subst hst
  exact h_afterW hw (va_runI (As := As) (rest := rest) ⟨X.1, X.2.1, X.2.2.1, X.2.2.2.1, X.2.2.2.2.1⟩ (hM H.size) (cwI n X.2.2.2.2.1 cs.1 rfl rfl rfl (X.2.2.2.2.1 _ cs.2.1) (X.2.2.2.2.1 _ cs.2.2.1) (X.2.2.2.2.1 _ cs.2.2.2.1) cs.2.2.2.2.1 cs.2.2.2.2.2 hR) (h_preW (av := .ref (ad t) :: As) X hw) rfl hn hsize rfl (lv_room hrest) hdg hf) kk
theorem h_callWJ (X : h_X p s m args c cc nL own G) (hw : h_W G.1 h_cl A H0 ad k H locs) (cs : h_sJ own index y b mL n) (hM : h_Wr l y b mL none fr lo mc ms G ad k (.ref (ad t) :: As) post) (hn : As.length = n) (hsize : ls.size = nL) (hst : st0 = As.reverse ++ .ref (ad t) :: rest) (hrest : (rest.map fun v => v.category).sum ≤ 8) (hR : fr + 1 ≤ R.frames ∧ 8 + (mL + 11) + lo ≤ R.locals) (hf : cells + mc ≤ R.cells ∧ slots + ms ≤ R.slots) (hdg : decode cc pc = .ok (.invokespecial index, 3))
    (kk : ∀ (r : Option Value) (ad' : h_T → Nat) (k' : h_C) (H1 : Heap) (locs1 : List Loc), post r ad' k' → h_W G.1 h_cl A H0 ad' k' H1 locs1 → W p l e R s m args below meth c H1 locs1 (cells + mc) (slots + ms) Q (F0 m (pc + 3) ls (r.toList ++ rest))) : W p l e R s m args below meth c H locs cells slots Q (F0 m pc ls st0) := by
  subst hst
  exact h_afterW hw (va_runIN (As := As) (rest := rest) ⟨X.1, X.2.1, X.2.2.1, X.2.2.2.1, X.2.2.2.2.1⟩ (hM H.size) ⟨va_cnB n X.2.2.2.2.1 cs.1 rfl rfl rfl (X.2.2.2.2.2.2.1 _ cs.2.2.1) (X.2.2.2.2.1 _ cs.2.1) cs.2.2.2.2.2 hR, cs.2.2.2.2.1, X.2.2.2.2.1 _ cs.2.2.2.1⟩ (h_preW (av := .ref (ad t) :: As) X hw) rfl hn hsize rfl (lv_room hrest) hdg hf) kk
/-! the ends of a reader -/
theorem h_iret {nm : String} {v : Int32} (X : h_X p s m args c cc nL own G) (Y : h_Y meth (some .int) nm) (hdg : decode cc pc = .ok (.ireturn, 1)) : W p l e R s m args below meth c s.heap [] 0 0 (MQ below (h_Qr (some (.int v))) args s 0 0 (fun _ => False)) (F0 m pc ls [.int v]) :=
  W.iret X.1 X.2.1 Y.1 (fun t ht hW => ⟨rfl, ht⟩) (fun q hq => by cases hq) hdg Y.2.1
theorem h_zret {nm : String} {v : Int32} (X : h_X p s m args c cc nL own G) (Y : h_Y meth (some .boolean) nm) (hv : narrow .boolean (.int v) = .int v) (hdg : decode cc pc = .ok (.ireturn, 1)) : W p l e R s m args below meth c s.heap [] 0 0 (MQ below (h_Qr (some (.int v))) args s 0 0 (fun _ => False)) (F0 m pc ls [.int v]) :=
  W.zret X.1 X.2.1 Y.1 hv (fun t ht hW => ⟨rfl, ht⟩) (fun q hq => by cases hq) hdg Y.2.1
theorem h_lret {nm : String} {v : Int64} (X : h_X p s m args c cc nL own G) (Y : h_Y meth (some .long) nm) (hdg : decode cc pc = .ok (.lreturn, 1)) : W p l e R s m args below meth c s.heap [] 0 0 (MQ below (h_Qr (some (.long v))) args s 0 0 (fun _ => False)) (F0 m pc ls [.long v]) :=
  W.lret X.1 X.2.1 Y.1 (fun t ht hW => ⟨rfl, ht⟩) (fun q hq => by cases hq) hdg Y.2.1
theorem h_aret {nm cn : String} {o : Option Nat} (X : h_X p s m args c cc nL own G) (Y : h_Y meth (some (.object cn)) nm) (hdg : decode cc pc = .ok (.areturn, 1)) : W p l e R s m args below meth c s.heap [] 0 0 (MQ below (h_Qr (some (va_rf o))) args s 0 0 (fun _ => False)) (F0 m pc ls [va_rf o]) :=
  W.aret X.1 X.2.1 Y.1 (Or.inl ⟨cn, rfl⟩) (va_rf_or o) (fun t ht hW => ⟨rfl, ht⟩) (fun q hq => by cases hq) hdg Y.2.1
/-! the ends of a writer -/
theorem h_endW {sz : Nat} {adE : h_T → Nat} {kE : h_C} {r : Option Value} {t : State} (hw : h_W G.1 h_cl (h_A ad k s.heap.size) s.heap adE kE H locs) (hp : post r adE kE) (ht : t.heap = H) : h_Qw G ad k s.heap.size post args s (.returned r) t :=
  ⟨⟨r, adE, kE, rfl, hp, by rw [ht]; exact hw.H, fun u hu => hw.A u hu⟩, hw.S.F ht⟩
theorem h_iretW {nm : String} {v : Int32} {adE : h_T → Nat} {kE : h_C} (X : h_X p s m args c cc nL own G) (Y : h_Y meth (some .int) nm) (hw : h_W G.1 h_cl (h_A ad k s.heap.size) s.heap adE kE H locs) (hp : post (some (.int v)) adE kE) (h1 : cells ≤ mc) (h2 : slots ≤ ms) (hdg : decode cc pc = .ok (.ireturn, 1)) : W p l e R s m args below meth c H locs cells slots (MQ below (h_Qw G ad k s.heap.size post) args s mc ms (h_A ad k s.heap.size)) (F0 m pc ls [.int v]) :=
  W.widen h1 h2 (W.iret X.1 X.2.1 Y.1 (fun t ht hW => h_endW (sz := 0) hw hp ht) hw.S.2.2 hdg Y.2.1)
theorem h_zretW {nm : String} {v : Int32} {adE : h_T → Nat} {kE : h_C} (X : h_X p s m args c cc nL own G) (Y : h_Y meth (some .boolean) nm) (hv : narrow .boolean (.int v) = .int v) (hw : h_W G.1 h_cl (h_A ad k s.heap.size) s.heap adE kE H locs) (hp : post (some (.int v)) adE kE) (h1 : cells ≤ mc) (h2 : slots ≤ ms) (hdg : decode cc pc = .ok (.ireturn, 1)) : W p l e R s m args below meth c H locs cells slots (MQ below (h_Qw G ad k s.heap.size post) args s mc ms (h_A ad k s.heap.size)) (F0 m pc ls [.int v]) :=
  W.widen h1 h2 (W.zret X.1 X.2.1 Y.1 hv (fun t ht hW => h_endW (sz := 0) hw hp ht) hw.S.2.2 hdg Y.2.1)
theorem h_lretW {nm : String} {v : Int64} {adE : h_T → Nat} {kE : h_C} (X : h_X p s m args c cc nL own G) (Y : h_Y meth (some .long) nm) (hw : h_W G.1 h_cl (h_A ad k s.heap.size) s.heap adE kE H locs) (hp : post (some (.long v)) adE kE) (h1 : cells ≤ mc) (h2 : slots ≤ ms) (hdg : decode cc pc = .ok (.lreturn, 1)) : W p l e R s m args below meth c H locs cells slots (MQ below (h_Qw G ad k s.heap.size post) args s mc ms (h_A ad k s.heap.size)) (F0 m pc ls [.long v]) :=
  W.widen h1 h2 (W.lret X.1 X.2.1 Y.1 (fun t ht hW => h_endW (sz := 0) hw hp ht) hw.S.2.2 hdg Y.2.1)
theorem h_aretW {nm cn : String} {o : Option Nat} {adE : h_T → Nat} {kE : h_C} (X : h_X p s m args c cc nL own G) (Y : h_Y meth (some (.object cn)) nm) (hw : h_W G.1 h_cl (h_A ad k s.heap.size) s.heap adE kE H locs) (hp : post (some (va_rf o)) adE kE) (h1 : cells ≤ mc) (h2 : slots ≤ ms) (hdg : decode cc pc = .ok (.areturn, 1)) : W p l e R s m args below meth c H locs cells slots (MQ below (h_Qw G ad k s.heap.size post) args s mc ms (h_A ad k s.heap.size)) (F0 m pc ls [va_rf o]) :=
  W.widen h1 h2 (W.aret X.1 X.2.1 Y.1 (Or.inl ⟨cn, rfl⟩) (va_rf_or o) (fun t ht hW => h_endW (sz := 0) hw hp ht) hw.S.2.2 hdg Y.2.1)
theorem h_vretW {nm : String} {adE : h_T → Nat} {kE : h_C} (X : h_X p s m args c cc nL own G) (Y : h_Y meth none nm) (hw : h_W G.1 h_cl (h_A ad k s.heap.size) s.heap adE kE H locs) (hp : post none adE kE) (h1 : cells ≤ mc) (h2 : slots ≤ ms) (hdg : decode cc pc = .ok (.return_, 1)) : W p l e R s m args below meth c H locs cells slots (MQ below (h_Qw G ad k s.heap.size post) args s mc ms (h_A ad k s.heap.size)) (F0 m pc ls []) :=
  W.widen h1 h2 (W.vret X.1 X.2.1 Y.1 (fun t ht hW => h_endW (sz := 0) hw hp ht) hw.S.2.2 hdg Y.2.1)
end HCALLS
