/-! ===== methods that read, and return or throw ===== -/
def h_n2 : List String := ["java/lang/RuntimeException", "java/lang/Exception"]
def h_n3 : List String := ["java/lang/IndexOutOfBoundsException", "java/lang/RuntimeException", "java/lang/Exception"]
def h_E1 : String := "java/lang/IndexOutOfBoundsException"
def h_E2 : String := "java/lang/ArithmeticException"
def h_E3 : String := "java/lang/ArrayIndexOutOfBoundsException"
def h_aw : List Cond := vx_atS RX3 136 h_E1 h_n2 ++ (vx_atS RX3 172 h_E2 h_n2 ++ vx_atS RX3 181 h_E3 h_n3)
/-- the words of throws that aren't good ones -/
def h_xw : List Cond := h_aw.filter (fun w => !goodWord w)
def h_dc (w : Cond) : Bool := match w with
  | .declares _ => true
  | .castable _ _ => true
  | _ => false
theorem h_xw_dc : ∀ w ∈ h_xw, h_dc w = true := by decide +kernel
theorem h_xw_tab {w : Cond} (h : h_dc w = true) : w.onTables = true := by
  unfold h_dc at h
  split at h
  · rfl
  · rfl
  · cases h
theorem h_xw_warm {s U : State} (hW : s.WarmedH U.vm) {w : Cond} (hd : h_dc w = true) (h : va_Nw w s) : va_Nw w U := by
  unfold h_dc at hd
  split at hd
  · exact va_Nw.warmD hW h
  · exact va_Nw.warmC hW h
  · cases hd
theorem h_aw_good : ∀ w ∈ h_aw.filter goodWord, w ∈ lw_tbl := by decide +kernel
theorem h_aw_tb {w : Cond} (h : w ∈ h_aw) (hg : goodWord w = true) : w ∈ h_tb := h_tb_in (h_aw_good w (List.mem_filter.mpr ⟨h, hg⟩)) hg
/-- what a throw needs of the world: its text, the words, Throwable's statics, which nobody writes -/
def h_Z (A : Nat → Prop) (U : State) : Prop := (∃ sa, vk_R RX3 134 "no such copy was asked" sa U) ∧ (∃ sa, vk_R RX3 170 "a store without a rate" sa U) ∧ (∃ sa, vk_R RX3 179 "no such byte" sa U) ∧ (∀ w ∈ h_xw, va_Nw w U) ∧ vx_Zq Bundle.tN "UNASSIGNED_STACK" Bundle.steD A U U.heap ∧ vx_Zq Bundle.tN "SUPPRESSED_SENTINEL" Bundle.listD A U U.heap
theorem h_Z.to {A B : Nat → Prop} {s U : State} {locs : List Loc} (h : h_Z A s) (hW : s.WarmedH U.vm) (hS : va_S A s.heap U.heap locs) (hAB : ∀ q, B q → A q) : h_Z B U := by
  obtain ⟨⟨a, h1⟩, ⟨b, h2⟩, ⟨c, h3⟩, h4, h5, h6⟩ := h
  exact ⟨⟨a, vk_R.warm hW h1⟩, ⟨b, vk_R.warm hW h2⟩, ⟨c, vk_R.warm hW h3⟩, fun w hw => h_xw_warm hW (h_xw_dc w hw) (h4 w hw), ((h5.kept hS.2.1).moved hW.alike).narrow hAB, ((h6.kept hS.2.1).moved hW.alike).narrow hAB⟩
theorem h_Z.calling {A : Nat → Prop} {U : State} {g : JFrame} {mk : MethodId} {a : Array Value} (h : h_Z A U) : h_Z A (U.calling g mk a) := by
  obtain ⟨⟨a1, h1⟩, ⟨b, h2⟩, ⟨c, h3⟩, h4, h5, h6⟩ := h
  exact ⟨⟨a1, vk_R.same (u := U) (U := U.calling g mk a) rfl h1⟩, ⟨b, vk_R.same (u := U) (U := U.calling g mk a) rfl h2⟩, ⟨c, vk_R.same (u := U) (U := U.calling g mk a) rfl h3⟩, fun w hw => va_Nw.same (u := U) (U := U.calling g mk a) (h_xw_tab (h_xw_dc w hw)) rfl (h4 w hw), vx_Zq.moved (u := U) (U := U.calling g mk a) (Vm.Alike.refl U.vm) h5, vx_Zq.moved (u := U) (U := U.calling g mk a) (Vm.Alike.refl U.vm) h6⟩
def h_Pt (G : h_G) (ad : h_T → Nat) (k : h_C) (av : List Value) : Array Value → State → Prop := fun v U => h_Pr G ad k av v U ∧ h_Z (h_A ad k U.heap.size) U
def h_Qt (o : Option Value) : Array Value → State → Outcome → State → Prop := fun _ st oc t => ∃ r, o = some r ∧ oc = .returned (some r) ∧ t.heap = st.heap
def h_Xt (o : Option Value) (E : String) : String → State → State → Prop := fun F st t => F = E ∧ o = none ∧ st.heap.size ≤ t.heap.size ∧ ∀ q : Nat, q < st.heap.size → t.heap[q]? = st.heap[q]?
/-- y reads; it returns what o has, or throws E -/
def h_Tr (l : Launch) (y : MethodName) (b : ByteArray) (mL : Nat) (ret : Option FieldType) (fr lo : Nat) (G : h_G) (ad : h_T → Nat) (k : h_C) (av : List Value) (o : Option Value) (E : String) : Prop :=
  vx_Met l y (h_ws y b mL ret) (h_rm fr lo 1 6) (h_Pt G ad k av) (h_Qt o) (h_Xt o E) 1 6 (fun _ => False)
theorem h_tr {l : Launch} {y : MethodName} {b : ByteArray} {mL : Nat} {ret : Option FieldType} {fr lo : Nat} {G : h_G} {ad : h_T → Nat} {k : h_C} {av : List Value} {o : Option Value} {E : String} (hy : plainName y.cls = true) (hlen : (lg_sl av).length ≤ mL)
    (body : ∀ (p : Program) (e : Env) (s : State) (m : MethodId) (args : Array Value) (below : List Frame) (meth : Method) (c : Code), h_X p s m args c b mL y.cls G → h_Y meth ret y.name → h_W G.1 h_cl (h_A ad k s.heap.size) s.heap ad k s.heap [] → h_Z (h_A ad k s.heap.size) s → (∀ x ∈ c.exceptionTable.toList, False) → ∀ ls : Array Slot, lv_has ls mL (lv_args 0 av) →
      W p l e (h_rm fr lo 1 6) s m args below meth c s.heap [] 0 0 (vx_MQ below (h_Qt o) (h_Xt o E) args s 1 6 (fun _ => False)) (F0 m 0 ls [])) : h_Tr l y b mL ret fr lo G ad k av o E := by
  refine vx_ofW (cc := b) (maxL := mL) (ret := ret) hy rfl ?_
  intro p e s m args below meth c s₁ B hml hx hv
  obtain ⟨⟨rfl, hK, hH⟩, hZ⟩ := hv
  have hts := atoms_spec (ws := h_ws y b mL ret) B.pre
  have hl := lv_entry av (n := mL) hlen
  rw [lg_entry_eq]
  exact body p e s m _ below meth c ⟨B.exec, B.bytes, hml, findClass_of_methodNamed B.named, fun w hw => hts w (List.mem_cons_of_mem _ hw), hK⟩ ⟨B.returns, B.notSynchronized, (name_of_methodNamed B.named B.method).1⟩ (h_W.start hH) hZ hx _ hl
section HTHR
variable {p : Program} {l : Launch} {e : Env} {R : Room} {s : State} {m : MethodId} {args : Array Value} {below : List Frame} {meth : Method} {c : Code} {H : Heap} {locs : List Loc} {cells slots : Nat} {Q : State → Prop}
variable {cc : ByteArray} {nL : Nat} {own : String} {G : h_G} {pc : Nat} {ls : Array Slot} {rest st0 : List Value} {A : Nat → Prop} {H0 : Heap} {ad : h_T → Nat} {k : h_C} {t : h_T}
variable {C : String} {index : Nat} {y : MethodName} {b : ByteArray} {mL n fr lo mc ms : Nat} {ret : Option FieldType} {As : List Value} {o : Option Value} {E : String}
theorem h_iretT {nm : String} {v : Int32} (X : h_X p s m args c cc nL own G) (Y : h_Y meth (some .int) nm) (hv : o = some (.int v)) (hdg : decode cc pc = .ok (.ireturn, 1)) : W p l e R s m args below meth c s.heap [] 0 0 (vx_MQ below (h_Qt o) (h_Xt o E) args s 1 6 (fun _ => False)) (F0 m pc ls [.int v]) :=
  vx_ret (W.widen (Nat.zero_le 1) (Nat.zero_le 6) (W.iret X.1 X.2.1 Y.1 (fun t ht hW => ⟨_, hv, rfl, ht⟩) (fun q hq => by cases hq) hdg Y.2.1))
theorem h_lretT {nm : String} {v : Int64} (X : h_X p s m args c cc nL own G) (Y : h_Y meth (some .long) nm) (hv : o = some (.long v)) (hdg : decode cc pc = .ok (.lreturn, 1)) : W p l e R s m args below meth c s.heap [] 0 0 (vx_MQ below (h_Qt o) (h_Xt o E) args s 1 6 (fun _ => False)) (F0 m pc ls [.long v]) :=
  vx_ret (W.widen (Nat.zero_le 1) (Nat.zero_le 6) (W.lret X.1 X.2.1 Y.1 (fun t ht hW => ⟨_, hv, rfl, ht⟩) (fun q hq => by cases hq) hdg Y.2.1))
theorem h_throw {A : Nat → Prop} {ik is ic sa : Nat} {text nm : String} {names : List String} (X : h_X p s m args c cc nL RX3 G) (Y : h_Y meth ret nm) (hl : l.stackTraces = false) (hxt : ∀ x ∈ c.exceptionTable.toList, False) (hsub : ∀ w ∈ vx_atS RX3 ic E names, w ∈ h_aw) (hcls : Bundle.fit E = true) (hnames : ∀ n ∈ names, Bundle.fit n = true) (hk : Cond.classLink RX3 ik E ∈ h_tb) (hi : Cond.initialized E ∈ h_tb) (hot : ∀ w ∈ Cond.classLink RX3 ik E :: Cond.initialized E :: vx_atS RX3 ic E names, vx_ot w = true)
    (hs : vk_R RX3 is text sa s) (hw4 : ∀ w ∈ h_xw, va_Nw w s) (h5 : vx_Zq Bundle.tN "UNASSIGNED_STACK" Bundle.steD A s s.heap) (h6 : vx_Zq Bundle.tN "SUPPRESSED_SENTINEL" Bundle.listD A s s.heap) (hsize : ls.size = nL) (ho : o = none)
    (d0 : decode cc pc = .ok (.new ik, 3)) (d3 : decode cc (pc + 3) = .ok (.dup, 1)) (d4 : decode cc (pc + 4) = .ok (.ldc is, 2)) (d6 : decode cc (pc + 6) = .ok (.invokespecial ic, 3)) (d9 : decode cc (pc + 9) = .ok (.athrow, 1))
    (hf : names.length + 3 < fr) (hlo : 13 * (names.length + 1) + 43 ≤ lo) : W p l e (h_rm fr lo 1 6) s m args below meth c s.heap [] 0 0 (vx_MQ below (h_Qt o) (h_Xt o E) args s 1 6 (fun _ => False)) (F0 m pc ls []) := by
  refine vx_throwS (A := A) (names := names) (text := text) (sa := sa) X.1 X.2.1 hl X.2.2.2.1 hcls hnames (X.2.2.2.2.1 _ hk) (X.2.2.2.2.1 _ hi) hs ?_ hot h5 h6 ⟨Nat.le_refl _, fun q _ _ => rfl, fun q hq => by cases hq⟩ (hsize.trans X.2.2.1.symm) d0 d3 d4 d6 d9 (fun x hx => (hxt x hx).elim) hf (by show 0 + _ ≤ _; rw [Nat.zero_add]; exact hlo) (Nat.le_refl 1) (Nat.le_refl 6) Y.2.1 (fun t _ h1 h2 => ⟨rfl, ho, h1, h2⟩) (fun z hz => by cases hz) (Nat.le_refl 1) (Nat.le_refl 6)
  intro w hw
  cases hg : goodWord w with
  | true => exact X.2.2.2.2.1 _ (h_aw_tb (hsub w hw) hg)
  | false =>
    have hx : w ∈ h_xw := List.mem_filter.mpr ⟨hsub w hw, by rw [hg]; rfl⟩
    exact va_Nw.use (h_xw_tab (h_xw_dc w hx)) (hw4 w hx)
/-- behind a call of a method that may throw -/
theorem h_afterT {a : Array Value} (hr : vx_Run p l e R s m args below meth c H locs cells slots 1 6 (F0 m pc ls st0) rest (h_Qt o a) (h_Xt o E) (fun _ => False))
    (kk : ∀ v, o = some v → W p l e R s m args below meth c H locs (cells + 1) (slots + 6) Q (F0 m (pc + 3) ls (v :: rest)))
    (kx : o = none → ∀ (q : Addr) (ce : Cell) (H1 : Heap), H.size ≤ H1.size → (∀ q : Nat, q < H.size → H1[q]? = H[q]?) → H1[q]? = some ce → ce.vm = .none → s.vm.findClass E = some ce.cls → vx_W p l e R s m args below meth c H1 locs (cells + 1) (slots + 6) Q (F0 m pc ls rest) q) : W p l e R s m args below meth c H locs cells slots Q (F0 m pc ls st0) := by
  intro T hT X
  rcases hr T hT X with ⟨v, st₀, t, T', L, h0, X', hL, e1, e2, ⟨r, ho, hv, hh⟩, st⟩ | ⟨q, st₀, t, T', L, F, ce, h0, X', hL, e1, e2, ⟨rfl, ho, hz, hk⟩, hce, hcv, hcl, st⟩
  · cases hv
    have hLn : L = [] := by
      cases L with
      | nil => rfl
      | cons z zs => exact (hL z List.mem_cons_self).elim
    subst hLn
    rw [List.append_nil] at X'
    obtain ⟨t2, a1, b1⟩ := kk r ho T' (by rw [e1, hh, h0]) X'
    exact ⟨t2, st t2 a1, b1⟩
  · have hLn : L = [] := by
      cases L with
      | nil => rfl
      | cons z zs => exact (hL z List.mem_cons_self).elim
    subst hLn
    rw [List.append_nil] at X'
    rw [h0] at hz hk
    obtain ⟨t2, a1, b1⟩ := kx ho q ce T'.heap (by rw [e1]; exact hz) (by rw [e1]; exact hk) (by rw [e1]; exact hce) hcv hcl T' rfl X'
    exact ⟨t2, st.trans a1, b1⟩
/-- a virtual call of a method that may throw, in the heap of the entry -/
theorem h_callTV (X : h_X p s m args c cc nL own G) (hw : h_W G.1 h_cl A H0 ad k s.heap locs) (hZ : h_Z (h_A ad k s.heap.size) s) (cs : h_sV own C index y b mL ret n) (hM : h_Tr l y b mL ret fr lo G ad k (.ref (ad t) :: As) o E) {ci : Nat} {fs : List Value} {T : u_T} {N : Nat} (he : k t = some (.inr (ci, fs))) (hc : h_cl[ci]? = some (C, T, N)) (hn : As.length = n) (hsize : ls.size = nL) (hst : st0 = As.reverse ++ .ref (ad t) :: rest) (hrest : (rest.map fun v => v.category).sum ≤ 8) (hR : fr + 1 ≤ R.frames ∧ 8 + (mL + 11) + lo ≤ R.locals) (hf : cells + 1 ≤ R.cells ∧ slots + 6 ≤ R.slots) (hdg : decode cc pc = .ok (.invokevirtual index, 3))
    (kk : ∀ v, o = some v → W p l e R s m args below meth c s.heap locs (cells + 1) (slots + 6) Q (F0 m (pc + 3) ls (v :: rest)))
    (kx : o = none → ∀ (q : Addr) (ce : Cell) (H1 : Heap), s.heap.size ≤ H1.size → (∀ q : Nat, q < s.heap.size → H1[q]? = s.heap[q]?) → H1[q]? = some ce → ce.vm = .none → s.vm.findClass E = some ce.cls → vx_W p l e R s m args below meth c H1 locs (cells + 1) (slots + 6) Q (F0 m pc ls rest) q) : W p l e R s m args below meth c s.heap locs cells slots Q (F0 m pc ls st0) := by
  subst hst
  have hp : PreS s s.heap (h_Pt G ad k (.ref (ad t) :: As)) (.ref (ad t) :: As) := ⟨fun a U g mk q => ⟨(h_preR (av := .ref (ad t) :: As) X hw).1 a U g mk q.1, h_Z.calling q.2⟩, fun U hU hW => ⟨(h_preR (av := .ref (ad t) :: As) X hw).2 U hU hW, by
    rw [hU]
    exact h_Z.to (locs := []) hZ hW (by rw [hU]; exact ⟨Nat.le_refl _, fun q _ _ => rfl, fun q hq => by cases hq⟩) (fun _ h => h)⟩⟩
  exact h_afterT (vx_runV (As := As) (rest := rest) ⟨X.1, X.2.1, X.2.2.1, X.2.2.2.1, X.2.2.2.2.1⟩ hM (cwV n X.2.2.2.2.1 cs.1 rfl rfl rfl cs.2 hR) ⟨hp.1, h_recv X hw he hc, hp.2⟩ rfl hn hsize rfl (lv_room hrest) hdg hf) kk kx
end HTHR
