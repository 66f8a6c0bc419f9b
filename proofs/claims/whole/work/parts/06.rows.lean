/-! ===== what a method's walk stands on: the machine, the code, the words, the classes ===== -/
abbrev h_cl : List vw_C := [(RX0, TX0, 3), (RX1, TX1, 2), (RX2, TX2, 4), (RX3, TX3, 12), (RX4, TX4, 20)]
abbrev h_G : Type := va_G × (Nat → ClassId)
abbrev h_ty (G : h_G) : List (ClassId × FieldType) := [(G.2 0, .int), (G.2 1, .long), (G.2 2, .boolean), (G.2 3, .byte), (G.2 4, .object RX0), (G.2 5, .object RX1), (G.2 6, .object RX2)]
def h_nw : List Cond := [.methodLinkNest RX3 30 yX1_init RX3, .fieldLinkNest RX3 106 RX1 "bytes" "[I" RX3, .fieldLinkNest RX3 79 RX1 "size" "I" RX3, .fieldLinkNest RX3 195 RX2 "place" "I" RX3, .fieldLinkNest RX3 95 RX2 "answering" "Z" RX3, .fieldLinkNest RX3 156 RX2 "up" "I" RX3, .fieldLinkNest RX3 159 RX2 "down" "I" RX3, .fieldLinkNest RX3 117 RX0 "pack" "I" RX3, .fieldLinkNest RX3 113 RX0 "rows" "[LCopyPolls$Row;" RX3, .fieldLinkNest RX3 188 RX0 "renewed" "I" RX3]
def h_K (G : h_G) (U : State) : Prop := va_K G.1 h_cl (h_ty G) U ∧ (∀ w ∈ h_nw, va_Nw w U) ∧ va_AO RX0 U ∧ va_AO RX1 U ∧ va_AO RX2 U
theorem h_nw_warm {s U : State} (hW : s.WarmedH U.vm) (h : ∀ w ∈ h_nw, va_Nw w s) : ∀ w ∈ h_nw, va_Nw w U := by
  intro w hw
  have h0 := h w hw
  simp only [h_nw, List.mem_cons, List.not_mem_nil, or_false] at hw
  rcases hw with rfl | rfl | rfl | rfl | rfl | rfl | rfl | rfl | rfl | rfl
  · exact va_Nw.warmM hW h0
  all_goals exact va_Nw.warmF hW h0
theorem h_nw_tab : ∀ w ∈ h_nw, w.onTables = true := by
  intro w hw
  simp only [h_nw, List.mem_cons, List.not_mem_nil, or_false] at hw
  rcases hw with rfl | rfl | rfl | rfl | rfl | rfl | rfl | rfl | rfl | rfl <;> rfl
theorem h_K.warm {G : h_G} {s U : State} (hW : s.WarmedH U.vm) (h : h_K G s) : h_K G U := ⟨va_K.moved hW.alike h.1, h_nw_warm hW h.2.1, va_AO.moved hW.alike h.2.2.1, va_AO.moved hW.alike h.2.2.2.1, va_AO.moved hW.alike h.2.2.2.2⟩
theorem h_K.calling {G : h_G} {U : State} {g : JFrame} {mk : MethodId} {a : Array Value} (h : h_K G U) : h_K G (U.calling g mk a) :=
  ⟨va_K.moved (u := U) (U := U.calling g mk a) (Vm.Alike.refl U.vm) h.1, fun w hw => va_Nw.same (u := U) (U := U.calling g mk a) (h_nw_tab w hw) rfl (h.2.1 w hw), va_AO.moved (u := U) (U := U.calling g mk a) (Vm.Alike.refl U.vm) h.2.2.1, va_AO.moved (u := U) (U := U.calling g mk a) (Vm.Alike.refl U.vm) h.2.2.2.1, va_AO.moved (u := U) (U := U.calling g mk a) (Vm.Alike.refl U.vm) h.2.2.2.2⟩
/-- the tables' good words -/
def h_tb : List Cond := lw_tbl.filter goodWord
theorem h_tb_in {w : Cond} (h : w ∈ lw_tbl) (hg : goodWord w = true) : w ∈ h_tb := List.mem_filter.mpr ⟨h, hg⟩
theorem h_tb_good : GoodIn h_tb h_tb := goodIn_sub (fun _ h => h) (by
  rw [List.all_eq_true]
  intro w hw
  exact (List.mem_filter.mp hw).2)
def h_ws (y : MethodName) (b : ByteArray) (mL : Nat) (ret : Option FieldType) : List Cond := .code y b mL ret :: h_tb
theorem h_ws_good {y : MethodName} {b : ByteArray} {mL : Nat} {ret : Option FieldType} (h : Cond.code y b mL ret ∈ h_tb) : GoodIn h_tb (h_ws y b mL ret) := fun w hw => by
  rcases List.mem_cons.mp hw with rfl | hw
  · exact h_tb_good _ h
  · exact h_tb_good _ hw
def h_X (p : Program) (s : State) (m : MethodId) (args : Array Value) (c : Code) (cc : ByteArray) (nL : Nat) (own : String) (G : h_G) : Prop :=
  p.tables.exec = Jvm.exec ∧ c.code = cc ∧ c.maxLocals = nL ∧ s.vm.findClass own = some m.cls ∧ (∀ w ∈ h_tb, w.before args s = true) ∧ h_K G s
section HROWS
variable {p : Program} {l : Launch} {e : Env} {R : Room} {s : State} {m : MethodId} {args : Array Value} {below : List Frame} {meth : Method} {c : Code} {H : Heap} {locs : List Loc} {cells slots : Nat} {Q : State → Prop}
variable {cc : ByteArray} {nL : Nat} {own : String} {G : h_G} {pc : Nat} {ls : Array Slot} {rest : List Value} {A : Nat → Prop} {H0 : Heap} {ad : h_T → Nat} {k : h_C} {t : h_T}
theorem h_get (X : h_X p s m args c cc nL own G) (hw : h_W G.1 h_cl A H0 ad k H locs) {C : String} {T : u_T} {N ci index : Nat} {fs : List Value} (he : k t = some (.inr (ci, fs))) (hc : h_cl[ci]? = some (C, T, N)) (hin : ∀ w ∈ u_ws C T N, w ∈ h_tb) (i : Nat) (hi : i < N) (hlink : Cond.fieldLink own index (T i).1 (T i).2.1 (T i).2.2.1 ∈ h_tb) {v : Value} (hv : fs[i]? = some v) (hdg : decode cc pc = .ok (.getfield index, 3))
    (kk : W p l e R s m args below meth c H locs cells slots Q (F0 m (pc + 3) ls (v :: rest))) : W p l e R s m args below meth c H locs cells slots Q (F0 m pc ls (.ref (ad t) :: rest)) := by
  obtain ⟨ws, q0, hq, hP, -, -, -, -⟩ := hw.set he
  exact va_get X.1 X.2.1 X.2.2.2.2.1 hin X.2.2.2.1 X.2.2.2.2.2.1 hP q0 hq hc i hi (X.2.2.2.2.1 _ hlink) (fun x hx => hx) hv hdg kk
theorem h_getN (X : h_X p s m args c cc nL own G) (hw : h_W G.1 h_cl A H0 ad k H locs) {C host : String} {T : u_T} {N ci index : Nat} {fs : List Value} (he : k t = some (.inr (ci, fs))) (hc : h_cl[ci]? = some (C, T, N)) (hin : ∀ w ∈ u_ws C T N, w ∈ h_tb) (i : Nat) (hi : i < N) (hlink : Cond.fieldLinkNest own index (T i).1 (T i).2.1 (T i).2.2.1 host ∈ h_nw) {v : Value} (hv : fs[i]? = some v) (hdg : decode cc pc = .ok (.getfield index, 3))
    (kk : W p l e R s m args below meth c H locs cells slots Q (F0 m (pc + 3) ls (v :: rest))) : W p l e R s m args below meth c H locs cells slots Q (F0 m pc ls (.ref (ad t) :: rest)) := by
  obtain ⟨ws, q0, hq, hP, -, -, -, -⟩ := hw.set he
  exact va_getN X.1 X.2.1 X.2.2.2.2.1 hin X.2.2.2.1 X.2.2.2.2.2.1 hP q0 hq hc i hi (va_Nw.use (h_nw_tab _ hlink) (X.2.2.2.2.2.2.1 _ hlink)) (fun x hx => hx) hv hdg kk
theorem h_put (X : h_X p s m args c cc nL own G) (hw : h_W G.1 h_cl A H0 ad k H locs) {C : String} {T : u_T} {N ci index : Nat} {fs : List Value} (he : k t = some (.inr (ci, fs))) (hc : h_cl[ci]? = some (C, T, N)) (hin : ∀ w ∈ u_ws C T N, w ∈ h_tb) (ty : Nat → FieldType) (hty : ∀ k, k < N → parseFieldDescriptor (T k).2.2.1 = some (ty k)) (hnm : ∀ a, a < N → ∀ b, b < N → a ≠ b → (T a).2.1 ≠ (T b).2.1) (i : Nat) (hi : i < N) (hlink : Cond.fieldLink own index (T i).1 (T i).2.1 (T i).2.2.1 ∈ h_tb) (hfin : (T i).2.2.2 = false) {v : Value} (hn : narrow (ty i) v = v) (hfit : fits (ty i) v = true) (hl : i < fs.length) (hdg : decode cc pc = .ok (.putfield index, 3))
    (kk : ∀ (H1 : Heap) (locs1 : List Loc), h_W G.1 h_cl A H0 ad (h_cu k t (some (.inr (ci, fs.set i v)))) H1 locs1 → W p l e R s m args below meth c H1 locs1 cells slots Q (F0 m (pc + 3) ls rest)) : W p l e R s m args below meth c H locs cells slots Q (F0 m pc ls (v :: .ref (ad t) :: rest)) := by
  obtain ⟨ws, q0, hq, hP, hD, hS, -, fin⟩ := hw.set he
  exact va_put X.1 X.2.1 X.2.2.2.2.1 hin ty hty hnm X.2.2.2.1 X.2.2.2.2.2.1 hP hD hS q0 hq hc i hi (X.2.2.2.2.1 _ hlink) (fun x hx => hx) hfin (hty i hi) hn hfit hl hdg (fun H1 locs1 h1 _ h3 => kk H1 locs1 (fin _ H1 locs1 h1 h3))
theorem h_putN (X : h_X p s m args c cc nL own G) (hw : h_W G.1 h_cl A H0 ad k H locs) {C host : String} {T : u_T} {N ci index : Nat} {fs : List Value} (he : k t = some (.inr (ci, fs))) (hc : h_cl[ci]? = some (C, T, N)) (hin : ∀ w ∈ u_ws C T N, w ∈ h_tb) (ty : Nat → FieldType) (hty : ∀ k, k < N → parseFieldDescriptor (T k).2.2.1 = some (ty k)) (hnm : ∀ a, a < N → ∀ b, b < N → a ≠ b → (T a).2.1 ≠ (T b).2.1) (i : Nat) (hi : i < N) (hlink : Cond.fieldLinkNest own index (T i).1 (T i).2.1 (T i).2.2.1 host ∈ h_nw) (hfin : (T i).2.2.2 = false) {v : Value} (hn : narrow (ty i) v = v) (hfit : fits (ty i) v = true) (hl : i < fs.length) (hdg : decode cc pc = .ok (.putfield index, 3))
    (kk : ∀ (H1 : Heap) (locs1 : List Loc), h_W G.1 h_cl A H0 ad (h_cu k t (some (.inr (ci, fs.set i v)))) H1 locs1 → W p l e R s m args below meth c H1 locs1 cells slots Q (F0 m (pc + 3) ls rest)) : W p l e R s m args below meth c H locs cells slots Q (F0 m pc ls (v :: .ref (ad t) :: rest)) := by
  obtain ⟨ws, q0, hq, hP, hD, hS, -, fin⟩ := hw.set he
  exact va_putN X.1 X.2.1 X.2.2.2.2.1 hin ty hty hnm X.2.2.2.1 X.2.2.2.2.2.1 hP hD hS q0 hq hc i hi (va_Nw.use (h_nw_tab _ hlink) (X.2.2.2.2.2.2.1 _ hlink)) (fun x hx => hx) hfin (hty i hi) hn hfit hl hdg (fun H1 locs1 h1 _ h3 => kk H1 locs1 (fin _ H1 locs1 h1 h3))
theorem h_putF (X : h_X p s m args c cc nL own G) (hw : h_W G.1 h_cl A H0 ad k H locs) {C : String} {T : u_T} {N ci index : Nat} {fs : List Value} (he : k t = some (.inr (ci, fs))) (hc : h_cl[ci]? = some (C, T, N)) (hin : ∀ w ∈ u_ws C T N, w ∈ h_tb) (ty : Nat → FieldType) (hty : ∀ k, k < N → parseFieldDescriptor (T k).2.2.1 = some (ty k)) (hnm : ∀ a, a < N → ∀ b, b < N → a ≠ b → (T a).2.1 ≠ (T b).2.1) (i : Nat) (hi : i < N) (hlink : Cond.fieldLink own index (T i).1 (T i).2.1 (T i).2.2.1 ∈ h_tb) (hfin : (T i).2.2.2 = true) (hdecl : (T i).1 = own) (hin2 : meth.name = "<init>") {v : Value} (hn : narrow (ty i) v = v) (hfit : fits (ty i) v = true) (hl : i < fs.length) (hdg : decode cc pc = .ok (.putfield index, 3))
    (kk : ∀ (H1 : Heap) (locs1 : List Loc), h_W G.1 h_cl A H0 ad (h_cu k t (some (.inr (ci, fs.set i v)))) H1 locs1 → W p l e R s m args below meth c H1 locs1 cells slots Q (F0 m (pc + 3) ls rest)) : W p l e R s m args below meth c H locs cells slots Q (F0 m pc ls (v :: .ref (ad t) :: rest)) := by
  obtain ⟨ws, q0, hq, hP, hD, hS, -, fin⟩ := hw.set he
  exact va_putF X.1 X.2.1 X.2.2.2.2.1 hin ty hty hnm X.2.2.2.1 X.2.2.2.2.2.1 hP hD hS q0 hq hc i hi (X.2.2.2.2.1 _ hlink) (fun x hx => hx) hfin hin2 hdecl (hty i hi) hn hfit hl hdg (fun H1 locs1 h1 _ h3 => kk H1 locs1 (fin _ H1 locs1 h1 h3))
theorem h_iald (X : h_X p s m args c cc nL own G) (hw : h_W G.1 h_cl A H0 ad k H locs) {n : Nat} {f : Nat → Int32} (ha : k t = some (.inl (G.2 0, n, .inl f))) {i : Int32} (hin : vp_in i n) (hdg : decode cc pc = .ok (.iaload, 1))
    (kk : W p l e R s m args below meth c H locs cells slots Q (F0 m (pc + 1) ls (.int (f i.toNatClampNeg) :: rest))) : W p l e R s m args below meth c H locs cells slots Q (F0 m pc ls (.int i :: .ref (ad t) :: rest)) := by
  obtain ⟨ws, q0, hq, hP, -, -, -, -⟩ := hw.set ha
  exact va_iald X.1 X.2.1 X.2.2.2.2.2.1 hP q0 0 hq rfl hin hdg kk
theorem h_iast (X : h_X p s m args c cc nL own G) (hw : h_W G.1 h_cl A H0 ad k H locs) {n : Nat} {f : Nat → Int32} (ha : k t = some (.inl (G.2 0, n, .inl f))) {i x : Int32} (hin : vp_in i n) (hdg : decode cc pc = .ok (.iastore, 1))
    (kk : ∀ (H1 : Heap) (locs1 : List Loc), h_W G.1 h_cl A H0 ad (h_cu k t (some (.inl (G.2 0, n, .inl (upd f i.toNatClampNeg x))))) H1 locs1 → W p l e R s m args below meth c H1 locs1 cells slots Q (F0 m (pc + 1) ls rest)) : W p l e R s m args below meth c H locs cells slots Q (F0 m pc ls (.int x :: .int i :: .ref (ad t) :: rest)) := by
  obtain ⟨ws, q0, hq, hP, hD, hS, -, fin⟩ := hw.set ha
  exact va_iast X.1 X.2.1 X.2.2.2.2.2.1 hP hD hS q0 0 hq rfl hin hdg (fun H1 locs1 h1 _ h3 => kk H1 locs1 (fin _ H1 locs1 h1 h3))
theorem h_lald (X : h_X p s m args c cc nL own G) (hw : h_W G.1 h_cl A H0 ad k H locs) {n : Nat} {f : Nat → Int64} (ha : k t = some (.inl (G.2 1, n, .inr (.inl f)))) {i : Int32} (hin : vp_in i n) (hdg : decode cc pc = .ok (.laload, 1))
    (kk : W p l e R s m args below meth c H locs cells slots Q (F0 m (pc + 1) ls (.long (f i.toNatClampNeg) :: rest))) : W p l e R s m args below meth c H locs cells slots Q (F0 m pc ls (.int i :: .ref (ad t) :: rest)) := by
  obtain ⟨ws, q0, hq, hP, -, -, -, -⟩ := hw.set ha
  exact va_lald X.1 X.2.1 X.2.2.2.2.2.1 hP q0 1 hq rfl hin hdg kk
theorem h_last (X : h_X p s m args c cc nL own G) (hw : h_W G.1 h_cl A H0 ad k H locs) {n : Nat} {f : Nat → Int64} (ha : k t = some (.inl (G.2 1, n, .inr (.inl f)))) {i : Int32} {x : Int64} (hin : vp_in i n) (hdg : decode cc pc = .ok (.lastore, 1))
    (kk : ∀ (H1 : Heap) (locs1 : List Loc), h_W G.1 h_cl A H0 ad (h_cu k t (some (.inl (G.2 1, n, .inr (.inl (vp_updL f i.toNatClampNeg x)))))) H1 locs1 → W p l e R s m args below meth c H1 locs1 cells slots Q (F0 m (pc + 1) ls rest)) : W p l e R s m args below meth c H locs cells slots Q (F0 m pc ls (.long x :: .int i :: .ref (ad t) :: rest)) := by
  obtain ⟨ws, q0, hq, hP, hD, hS, -, fin⟩ := hw.set ha
  exact va_last X.1 X.2.1 X.2.2.2.2.2.1 hP hD hS q0 1 hq rfl hin hdg (fun H1 locs1 h1 _ h3 => kk H1 locs1 (fin _ H1 locs1 h1 h3))
theorem h_zald (X : h_X p s m args c cc nL own G) (hw : h_W G.1 h_cl A H0 ad k H locs) {n : Nat} {f : Nat → Int32} (ha : k t = some (.inl (G.2 2, n, .inl f))) {i : Int32} (hin : vp_in i n) (hdg : decode cc pc = .ok (.baload, 1))
    (kk : W p l e R s m args below meth c H locs cells slots Q (F0 m (pc + 1) ls (.int (f i.toNatClampNeg) :: rest))) : W p l e R s m args below meth c H locs cells slots Q (F0 m pc ls (.int i :: .ref (ad t) :: rest)) := by
  obtain ⟨ws, q0, hq, hP, -, -, -, -⟩ := hw.set ha
  exact va_zald X.1 X.2.1 X.2.2.2.2.2.1 hP q0 2 hq rfl hin hdg kk
theorem h_zast (X : h_X p s m args c cc nL own G) (hw : h_W G.1 h_cl A H0 ad k H locs) {n : Nat} {f : Nat → Int32} (ha : k t = some (.inl (G.2 2, n, .inl f))) {i x : Int32} (hin : vp_in i n) (hdg : decode cc pc = .ok (.bastore, 1))
    (kk : ∀ (H1 : Heap) (locs1 : List Loc), h_W G.1 h_cl A H0 ad (h_cu k t (some (.inl (G.2 2, n, .inl (upd f i.toNatClampNeg (vp_nar .boolean x)))))) H1 locs1 → W p l e R s m args below meth c H1 locs1 cells slots Q (F0 m (pc + 1) ls rest)) : W p l e R s m args below meth c H locs cells slots Q (F0 m pc ls (.int x :: .int i :: .ref (ad t) :: rest)) := by
  obtain ⟨ws, q0, hq, hP, hD, hS, -, fin⟩ := hw.set ha
  exact va_zast X.1 X.2.1 X.2.2.2.2.2.1 hP hD hS q0 2 hq rfl hin hdg (fun H1 locs1 h1 _ h3 => kk H1 locs1 (fin _ H1 locs1 h1 h3))
theorem h_bald (X : h_X p s m args c cc nL own G) (hw : h_W G.1 h_cl A H0 ad k H locs) {n : Nat} {f : Nat → Int32} (ha : k t = some (.inl (G.2 3, n, .inl f))) {i : Int32} (hin : vp_in i n) (hdg : decode cc pc = .ok (.baload, 1))
    (kk : W p l e R s m args below meth c H locs cells slots Q (F0 m (pc + 1) ls (.int (f i.toNatClampNeg) :: rest))) : W p l e R s m args below meth c H locs cells slots Q (F0 m pc ls (.int i :: .ref (ad t) :: rest)) := by
  obtain ⟨ws, q0, hq, hP, -, -, -, -⟩ := hw.set ha
  exact va_bald X.1 X.2.1 X.2.2.2.2.2.1 hP q0 3 hq rfl hin hdg kk
theorem h_bast (X : h_X p s m args c cc nL own G) (hw : h_W G.1 h_cl A H0 ad k H locs) {n : Nat} {f : Nat → Int32} (ha : k t = some (.inl (G.2 3, n, .inl f))) {i x : Int32} (hin : vp_in i n) (hdg : decode cc pc = .ok (.bastore, 1))
    (kk : ∀ (H1 : Heap) (locs1 : List Loc), h_W G.1 h_cl A H0 ad (h_cu k t (some (.inl (G.2 3, n, .inl (upd f i.toNatClampNeg (vp_nar .byte x)))))) H1 locs1 → W p l e R s m args below meth c H1 locs1 cells slots Q (F0 m (pc + 1) ls rest)) : W p l e R s m args below meth c H locs cells slots Q (F0 m pc ls (.int x :: .int i :: .ref (ad t) :: rest)) := by
  obtain ⟨ws, q0, hq, hP, hD, hS, -, fin⟩ := hw.set ha
  exact va_bast X.1 X.2.1 X.2.2.2.2.2.1 hP hD hS q0 3 hq rfl hin hdg (fun H1 locs1 h1 _ h3 => kk H1 locs1 (fin _ H1 locs1 h1 h3))
theorem h_aald (X : h_X p s m args c cc nL own G) (hw : h_W G.1 h_cl A H0 ad k H locs) (ti : Nat) {cA : ClassId} {C : String} (hti : (h_ty G)[ti]? = some (cA, .object C)) {n : Nat} {f : Nat → Option Nat} (ha : k t = some (.inl (cA, n, .inr (.inr (.inr (.inr f)))))) {i : Int32} (hin : vp_in i n) (hdg : decode cc pc = .ok (.aaload, 1))
    (kk : W p l e R s m args below meth c H locs cells slots Q (F0 m (pc + 1) ls (va_rf (f i.toNatClampNeg) :: rest))) : W p l e R s m args below meth c H locs cells slots Q (F0 m pc ls (.int i :: .ref (ad t) :: rest)) := by
  obtain ⟨ws, q0, hq, hP, -, -, -, -⟩ := hw.set ha
  exact va_aldq X.1 X.2.1 X.2.2.2.2.2.1 hP q0 ti hq hti hin hdg kk
theorem h_aast (X : h_X p s m args c cc nL own G) (hw : h_W G.1 h_cl A H0 ad k H locs) (ti ci : Nat) {cA : ClassId} {r : vw_C} (hti : (h_ty G)[ti]? = some (cA, .object r.1)) {n : Nat} {u : h_T} {vs : List Value} {f : Nat → Option Nat} (ha : k t = some (.inl (cA, n, .inr (.inr (.inr (.inr f)))))) (hv : k u = some (.inr (ci, vs))) (hc : h_cl[ci]? = some r) {i : Int32} (hin : vp_in i n) (hdg : decode cc pc = .ok (.aastore, 1))
    (kk : ∀ (H1 : Heap) (locs1 : List Loc), h_W G.1 h_cl A H0 ad (h_cu k t (some (.inl (cA, n, .inr (.inr (.inr (.inr (va_up f i.toNatClampNeg (some (ad u)))))))))) H1 locs1 → W p l e R s m args below meth c H1 locs1 cells slots Q (F0 m (pc + 1) ls rest)) : W p l e R s m args below meth c H locs cells slots Q (F0 m pc ls (.ref (ad u) :: .int i :: .ref (ad t) :: rest)) := by
  obtain ⟨ws, q0, hq, hP, hD, hS, hal, fin⟩ := hw.set ha
  obtain ⟨qk, hqk⟩ := hal u _ hv
  exact va_astq X.1 X.2.1 X.2.2.2.2.2.1 hP hD hS q0 ti qk ci hq hti hqk hc hin hdg (fun H1 locs1 h1 _ h3 => kk H1 locs1 (fin _ H1 locs1 h1 h3))
theorem h_aastN (X : h_X p s m args c cc nL own G) (hw : h_W G.1 h_cl A H0 ad k H locs) (ti : Nat) {cA : ClassId} {C : String} (hti : (h_ty G)[ti]? = some (cA, .object C)) {n : Nat} {f : Nat → Option Nat} (ha : k t = some (.inl (cA, n, .inr (.inr (.inr (.inr f)))))) {i : Int32} (hin : vp_in i n) (hdg : decode cc pc = .ok (.aastore, 1))
    (kk : ∀ (H1 : Heap) (locs1 : List Loc), h_W G.1 h_cl A H0 ad (h_cu k t (some (.inl (cA, n, .inr (.inr (.inr (.inr (va_up f i.toNatClampNeg none)))))))) H1 locs1 → W p l e R s m args below meth c H1 locs1 cells slots Q (F0 m (pc + 1) ls rest)) : W p l e R s m args below meth c H locs cells slots Q (F0 m pc ls (.null :: .int i :: .ref (ad t) :: rest)) := by
  obtain ⟨ws, q0, hq, hP, hD, hS, -, fin⟩ := hw.set ha
  exact va_astqN X.1 X.2.1 X.2.2.2.2.2.1 hP hD hS q0 ti hq hti hin hdg (fun H1 locs1 h1 _ h3 => kk H1 locs1 (fin _ H1 locs1 h1 h3))
theorem h_alen (X : h_X p s m args c cc nL own G) (hw : h_W G.1 h_cl A H0 ad k H locs) (ti : Nat) {cA : ClassId} {ty : FieldType} (hti : (h_ty G)[ti]? = some (cA, ty)) {x : vp_A} (ha : k t = some (.inl (cA, x))) {v : Int32} (hv : Int32.ofNat x.1 = v) (hdg : decode cc pc = .ok (.arraylength, 1))
    (kk : W p l e R s m args below meth c H locs cells slots Q (F0 m (pc + 1) ls (.int v :: rest))) : W p l e R s m args below meth c H locs cells slots Q (F0 m pc ls (.ref (ad t) :: rest)) := by
  obtain ⟨ws, q0, hq, hP, -, -, -, -⟩ := hw.set ha
  exact va_alen X.1 X.2.1 X.2.2.2.2.2.1 hP q0 ti hq hti hv hdg kk
theorem h_new (X : h_X p s m args c cc nL own G) (hw : h_W G.1 h_cl A H0 ad k H locs) {C : String} {T : u_T} {N ci index : Nat} (t : h_T) (ht : k t = none) (hc : h_cl[ci]? = some (C, T, N)) (hin : ∀ w ∈ u_ws C T N, w ∈ h_tb) (ty : Nat → FieldType) (hty : ∀ k, k < N → parseFieldDescriptor (T k).2.2.1 = some (ty k)) (hcl : Cond.classLink own index C ∈ h_tb) (hinst : Cond.instantiable C N ∈ h_tb) (hini : Cond.initialized C ∈ h_tb)
    {fs : List Value} (hfs : ∀ j, j < N → defaultValue (ty j) = vp_V fs j) (hcells : cells + 1 ≤ R.cells) (hslots : slots + N ≤ R.slots) (hdg : decode cc pc = .ok (.new index, 3))
    (kk : ∀ (q : Nat) (H1 : Heap), h_W G.1 h_cl A H0 (h_au ad t q) (h_cu k t (some (.inr (ci, fs)))) H1 locs →
      W p l e R s m args below meth c H1 locs (cells + 1) (slots + N) Q (F0 m (pc + 3) ls (.ref q :: rest))) : W p l e R s m args below meth c H locs cells slots Q (F0 m pc ls rest) := by
  obtain ⟨ws, hP, hD, hS, fin⟩ := hw.push ht
  exact va_new X.1 X.2.1 X.2.2.2.2.1 hin ty hty X.2.2.2.1 (X.2.2.2.2.1 _ hcl) (X.2.2.2.2.1 _ hinst) (X.2.2.2.2.1 _ hini) X.2.2.2.2.2.1 hP hD hS hw.new hc hfs hcells hslots hdg (fun q H1 h1 h2 h3 => kk q H1 (fin q _ H1 locs h1 h2 h3))
/-- a new array of numbers; its class is the one that is known -/
theorem h_newa (X : h_X p s m args c cc nL own G) (hw : h_W G.1 h_cl A H0 ad k H locs) (t : h_T) (ht : k t = none) {atype : ArrayType} {ty : FieldType} (hty : newarray.typeOf atype = ty) (harr : Cond.arrayClass ty ∈ h_tb) (ti : Nat) {cA : ClassId} (hti : (h_ty G)[ti]? = some (cA, ty))
    {n : Int32} {N' : Nat} {a0 : vp_A} (ha : ∀ cA : ClassId, vp_cell cA a0 = arrV cA N' (fun _ => defaultValue ty)) (hn : ¬ n < 0) (hN : n.toNatClampNeg = N') (hbytes : N' * componentBytes ty ≤ 536870912) (hcells : cells + 1 ≤ R.cells) (hslots : slots + N' ≤ R.slots) (hdg : decode cc pc = .ok (.newarray atype, 2))
    (kk : ∀ (q : Nat) (H1 : Heap), h_W G.1 h_cl A H0 (h_au ad t q) (h_cu k t (some (.inl (cA, a0)))) H1 locs →
      W p l e R s m args below meth c H1 locs (cells + 1) (slots + N') Q (F0 m (pc + 2) ls (.ref q :: rest))) : W p l e R s m args below meth c H locs cells slots Q (F0 m pc ls (.int n :: rest)) := by
  obtain ⟨ws, hP, hD, hS, fin⟩ := hw.push ht
  refine va_newa X.1 X.2.1 (by rw [hty]; exact X.2.2.2.2.1 _ harr) hty X.2.2.2.2.2.1 hP hD hS hw.new ha hn hN hbytes hcells hslots hdg (fun q cB H1 hK1 h1 h2 h3 => ?_)
  have e1 := (hK1.2 (h_ty G).length (cB, ty) (by simp)).2
  have e2 := (X.2.2.2.2.2.1.2 ti _ hti).2
  have hcc : cB = cA := by
    subst hty
    cases atype <;> exact Option.some.inj (e1.symm.trans e2)
  subst hcc
  exact kk q H1 (fin q _ H1 locs h1 h2 h3)
theorem h_newq (X : h_X p s m args c cc nL own G) (hw : h_W G.1 h_cl A H0 ad k H locs) (t : h_T) (ht : k t = none) {C : String} {index : Nat} (hcl : Cond.classLink own index C ∈ h_tb) (hover : va_AO C s) (ti : Nat) {cA : ClassId} (hti : (h_ty G)[ti]? = some (cA, .object C))
    {n : Int32} {N' : Nat} (hn : ¬ n < 0) (hN : n.toNatClampNeg = N') (hbytes : N' * 4 ≤ 536870912) (hcells : cells + 1 ≤ R.cells) (hslots : slots + N' ≤ R.slots) (hdg : decode cc pc = .ok (.anewarray index, 3))
    (kk : ∀ (q : Nat) (H1 : Heap), h_W G.1 h_cl A H0 (h_au ad t q) (h_cu k t (some (.inl (cA, N', .inr (.inr (.inr (.inr (fun _ => none)))))))) H1 locs →
      W p l e R s m args below meth c H1 locs (cells + 1) (slots + N') Q (F0 m (pc + 3) ls (.ref q :: rest))) : W p l e R s m args below meth c H locs cells slots Q (F0 m pc ls (.int n :: rest)) := by
  obtain ⟨ws, hP, hD, hS, fin⟩ := hw.push ht
  refine va_newq X.1 X.2.1 X.2.2.2.1 (X.2.2.2.2.1 _ hcl) hover X.2.2.2.2.2.1 hP hD hS hw.new hn hN hbytes hcells hslots hdg (fun q cB H1 hK1 h1 h2 h3 => ?_)
  obtain ⟨_, _, _, _, _, e1⟩ := (hK1.2 (h_ty G).length (cB, .object C) (by simp)).2
  obtain ⟨_, _, _, _, _, e2⟩ := (X.2.2.2.2.2.1.2 ti _ hti).2
  have hcc : cB = cA := Option.some.inj (e1.symm.trans e2)
  subst hcc
  exact kk q H1 (fin q _ H1 locs h1 h2 h3)
/-! locals and tests of a reference or null -/
theorem h_aload_n (X : h_X p s m args c cc nL own G) {j : Fin 4} {i : Nat} {o : Option Nat} (hdg : decode cc pc = .ok (.aload_n j, 1)) (hi : (j : Nat) = i) (hl : ls[i]? = some (.val (va_rf o)))
    (kk : W p l e R s m args below meth c H locs cells slots Q (F0 m (pc + 1) ls (va_rf o :: rest))) : W p l e R s m args below meth c H locs cells slots Q (F0 m pc ls rest) := by
  cases o with
  | none => exact lv_aload_nN X.1 X.2.1 hdg hi hl kk
  | some x => exact lv_aload_n X.1 X.2.1 hdg hi hl kk
theorem h_aload (X : h_X p s m args c cc nL own G) {i : Nat} {o : Option Nat} (hdg : decode cc pc = .ok (.aload i, 2)) (hl : ls[i]? = some (.val (va_rf o)))
    (kk : W p l e R s m args below meth c H locs cells slots Q (F0 m (pc + 2) ls (va_rf o :: rest))) : W p l e R s m args below meth c H locs cells slots Q (F0 m pc ls rest) := by
  cases o with
  | none => exact lv_aloadN X.1 X.2.1 hdg hl kk
  | some x => exact lv_aload X.1 X.2.1 hdg hl kk
theorem h_cat (o : Option Nat) : (va_rf o).category = 1 := by cases o <;> rfl
theorem h_astore_n (X : h_X p s m args c cc nL own G) {j : Fin 4} {i : Nat} {o : Option Nat} {lv lv' : List (Nat × Value)} (hdg : decode cc pc = .ok (.astore_n j, 1)) (hi : (j : Nat) = i) (h : lv_has ls nL lv) (hn : i < nL) (hl : (i, va_rf o) :: lv.filter (fun q => !(q.1 == i) && !(q.1 + 1 == i && q.2.category == 2)) = lv')
    (kk : ∀ ls' : Array Slot, lv_has ls' nL lv' → W p l e R s m args below meth c H locs cells slots Q (F0 m (pc + 1) ls' rest)) : W p l e R s m args below meth c H locs cells slots Q (F0 m pc ls (va_rf o :: rest)) := by
  cases o with
  | none => exact lv_astore_nN X.1 X.2.1 hdg hi h hn hl kk
  | some x => exact lv_astore_n X.1 X.2.1 hdg hi h hn hl kk
theorem h_astore (X : h_X p s m args c cc nL own G) {i : Nat} {o : Option Nat} {lv lv' : List (Nat × Value)} (hdg : decode cc pc = .ok (.astore i, 2)) (h : lv_has ls nL lv) (hn : i < nL) (hl : (i, va_rf o) :: lv.filter (fun q => !(q.1 == i) && !(q.1 + 1 == i && q.2.category == 2)) = lv')
    (kk : ∀ ls' : Array Slot, lv_has ls' nL lv' → W p l e R s m args below meth c H locs cells slots Q (F0 m (pc + 2) ls' rest)) : W p l e R s m args below meth c H locs cells slots Q (F0 m pc ls (va_rf o :: rest)) := by
  cases o with
  | none => exact lv_astoreN X.1 X.2.1 hdg h hn hl kk
  | some x => exact lv_astore X.1 X.2.1 hdg h hn hl kk
theorem h_ifnull (X : h_X p s m args c cc nL own G) {o : Option Nat} {off : Int} {tgt : Nat} (hdg : decode cc pc = .ok (.ifnull off, 3)) (ht : (pc : Int) + off = (tgt : Int))
    (k1 : o = none → W p l e R s m args below meth c H locs cells slots Q (F0 m tgt ls rest)) (k2 : ∀ x : Nat, o = some x → W p l e R s m args below meth c H locs cells slots Q (F0 m (pc + 3) ls rest)) : W p l e R s m args below meth c H locs cells slots Q (F0 m pc ls (va_rf o :: rest)) := by
  cases o with
  | none => exact lv_ifnullN X.1 X.2.1 hdg ht (k1 rfl)
  | some x => exact lv_ifnull X.1 X.2.1 hdg (k2 x rfl)
theorem h_ifnonnull (X : h_X p s m args c cc nL own G) {o : Option Nat} {off : Int} {tgt : Nat} (hdg : decode cc pc = .ok (.ifnonnull off, 3)) (ht : (pc : Int) + off = (tgt : Int))
    (k1 : ∀ x : Nat, o = some x → W p l e R s m args below meth c H locs cells slots Q (F0 m tgt ls rest)) (k2 : o = none → W p l e R s m args below meth c H locs cells slots Q (F0 m (pc + 3) ls rest)) : W p l e R s m args below meth c H locs cells slots Q (F0 m pc ls (va_rf o :: rest)) := by
  cases o with
  | none => exact lv_ifnonnullN X.1 X.2.1 hdg (k2 rfl)
  | some x => exact lv_ifnonnull X.1 X.2.1 hdg ht (k1 x rfl)
end HROWS
