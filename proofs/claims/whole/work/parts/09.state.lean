/-! ===== the state in mathematical words, and how the class holds it ===== -/
abbrev S_t : Type := (Nat × Nat × Nat) × ((Nat → Int32) × (Nat → Bool) × (Nat → Int32) × (Nat → Int32)) × ((Nat → Int32) × (Nat → Int32) × (Nat → Nat → Option (List Int32))) × (List Int32 × List (Int32 × Int32 × Int32) × Int32)
/-- copies wanted; stores; files -/
abbrev s_cop (σ : S_t) : Nat := σ.1.1
abbrev s_nS (σ : S_t) : Nat := σ.1.2.1
abbrev s_nF (σ : S_t) : Nat := σ.1.2.2
/-- of a store: its place, whether it is silent, its rate -/
abbrev s_pl (σ : S_t) : Nat → Int32 := σ.2.1.1
abbrev s_si (σ : S_t) : Nat → Bool := σ.2.1.2.1
abbrev s_up (σ : S_t) : Nat → Int32 := σ.2.1.2.2.1
abbrev s_dn (σ : S_t) : Nat → Int32 := σ.2.1.2.2.2
/-- of a file: its package, how often it was renewed; the copy on a store -/
abbrev s_pk (σ : S_t) : Nat → Int32 := σ.2.2.1.1
abbrev s_rn (σ : S_t) : Nat → Int32 := σ.2.2.1.2.1
abbrev s_cp (σ : S_t) : Nat → Nat → Option (List Int32) := σ.2.2.1.2.2
/-- what is collected; what was asked; the digest that was found -/
abbrev s_col (σ : S_t) : List Int32 := σ.2.2.2.1
abbrev s_as (σ : S_t) : List (Int32 × Int32 × Int32) := σ.2.2.2.2.1
abbrev s_dg (σ : S_t) : Int32 := σ.2.2.2.2.2
def bI (b : Bool) : Int32 := if b then 1 else 0
/-- what can be of the numbers -/
def s_ok (σ : S_t) : Prop := (1 ≤ s_cop σ ∧ s_cop σ ≤ 5) ∧ s_nS σ ≤ 10 ∧ s_nF σ ≤ 40 ∧ (s_col σ).length ≤ 16 ∧ (s_as σ).length ≤ 120 ∧
  (∀ s f, s_nS σ ≤ s ∨ s_nF σ ≤ f → s_cp σ s f = none) ∧ (∀ s f l, s_cp σ s f = some l → l.length ≤ 16) ∧
  (∀ s, s_nS σ ≤ s → s_si σ s = false ∧ s_up σ s = 0 ∧ s_dn σ s = 0) ∧ (∀ f, s_nF σ ≤ f → s_rn σ f = 0)
abbrev x_refs (f : Nat → Option Nat) : ((Nat → Int32) ⊕ (Nat → Int64) ⊕ (Nat → UInt32) ⊕ (Nat → UInt64) ⊕ (Nat → Option Nat)) := .inr (.inr (.inr (.inr f)))
/-- a Row that holds the bytes l -/
def x_row (G : h_G) (ad : h_T → Nat) (k : h_C) (t u : h_T) (l : List Int32) : Prop := k t = some (.inr (1, [.ref (ad u), .int (nI l.length)])) ∧ ∃ g : Nat → Int32, k u = some (.inl (G.2 0, 16, .inl g)) ∧ ∀ i, i < l.length → g i = l.getD i 0
def x_obj (ad : h_T → Nat) (σ : S_t) : List Value := [.int (nI (s_cop σ)), .ref (ad (1, 0, 0)), .int (nI (s_nS σ)), .ref (ad (2, 0, 0)), .int (nI (s_nF σ)), .ref (ad (3, 0, 0)), .ref (ad (4, 0, 0)), .ref (ad (5, 0, 0)), .ref (ad (5, 1, 0)), .ref (ad (5, 2, 0)), .int (nI (s_as σ).length), .int (s_dg σ)]
def x_sto (ad : h_T → Nat) (σ : S_t) : Nat → Option Nat := fun i => if i < s_nS σ then some (ad (6, i, 0)) else none
def x_ite (ad : h_T → Nat) (σ : S_t) : Nat → Option Nat := fun f => if f < s_nF σ then some (ad (7, f, 0)) else none
def x_rws (ad : h_T → Nat) (σ : S_t) (f : Nat) : Nat → Option Nat := fun s => (s_cp σ s f).map (fun _ => ad (9, s, f))
def x_st (k : h_C) (σ : S_t) (i : Nat) : Prop := k (6, i, 0) = some (.inr (2, [.int (s_pl σ i), .int (bI (!s_si σ i)), .int (s_up σ i), .int (s_dn σ i)]))
def x_it (G : h_G) (ad : h_T → Nat) (k : h_C) (σ : S_t) (f : Nat) : Prop := k (7, f, 0) = some (.inr (0, [.int (s_pk σ f), .ref (ad (8, f, 0)), .int (s_rn σ f)])) ∧ k (8, f, 0) = some (.inl (G.2 5, 10, x_refs (x_rws ad σ f)))
def x_ask (G : h_G) (k : h_C) (as : List (Int32 × Int32 × Int32)) : Prop := ∃ g0 g1 g2 : Nat → Int32, k (5, 0, 0) = some (.inl (G.2 0, 120, .inl g0)) ∧ k (5, 1, 0) = some (.inl (G.2 0, 120, .inl g1)) ∧ k (5, 2, 0) = some (.inl (G.2 0, 120, .inl g2)) ∧ ∀ i, i < as.length → (g0 i, g1 i, g2 i) = as.getD i (0, 0, 0)
/-- THE CLASS HOLDS THE STATE -/
def RX (G : h_G) (ad : h_T → Nat) (k : h_C) (σ : S_t) : Prop :=
  k (0, 0, 0) = some (.inr (3, x_obj ad σ)) ∧ k (1, 0, 0) = some (.inl (G.2 6, 10, x_refs (x_sto ad σ))) ∧ (∀ i, i < s_nS σ → x_st k σ i) ∧
  k (2, 0, 0) = some (.inl (G.2 4, 40, x_refs (x_ite ad σ))) ∧ (∀ f, f < s_nF σ → x_it G ad k σ f) ∧
  (∀ s f l, s_cp σ s f = some l → x_row G ad k (9, s, f) (10, s, f) l) ∧ x_row G ad k (3, 0, 0) (3, 1, 0) (s_col σ) ∧
  (∃ g : Nat → Int32, k (4, 0, 0) = some (.inl (G.2 0, 10, .inl g))) ∧ x_ask G k (s_as σ) ∧ s_ok σ
theorem RX.ok {G : h_G} {ad : h_T → Nat} {k : h_C} {σ : S_t} (h : RX G ad k σ) : s_ok σ := h.2.2.2.2.2.2.2.2.2
theorem x_row.congr {G : h_G} {ad ad' : h_T → Nat} {k k' : h_C} {t u : h_T} {l : List Int32} (h : x_row G ad k t u l) (ht : k' t = k t) (hu : k' u = k u) (ha : ad' u = ad u) : x_row G ad' k' t u l := by
  obtain ⟨h1, g, h2, h3⟩ := h
  exact ⟨by rw [ht, h1, ha], g, by rw [hu, h2], h3⟩
/-- the class's cells are as they were: it holds the same state -/
theorem RX.congr {G : h_G} {ad ad' : h_T → Nat} {k k' : h_C} {σ : S_t} (h : RX G ad k σ) (hk : ∀ t : h_T, t.1 < 20 → k t ≠ none → k' t = k t ∧ ad' t = ad t) : RX G ad' k' σ := by
  obtain ⟨h0, h1, h2, h3, h4, h5, h6, ⟨g, h7⟩, ⟨g0, g1, g2, h8, h9, h10, h11⟩, h12⟩ := h
  have e0 := hk (0, 0, 0) (by decide) (by rw [h0]; exact Option.some_ne_none _)
  have e1 := hk (1, 0, 0) (by decide) (by rw [h1]; exact Option.some_ne_none _)
  have e2 := hk (2, 0, 0) (by decide) (by rw [h3]; exact Option.some_ne_none _)
  have e3 := hk (3, 0, 0) (by decide) (by rw [h6.1]; exact Option.some_ne_none _)
  have e31 := hk (3, 1, 0) (by decide) (by obtain ⟨g', q, -⟩ := h6.2; rw [q]; exact Option.some_ne_none _)
  have e4 := hk (4, 0, 0) (by decide) (by rw [h7]; exact Option.some_ne_none _)
  have e5 := hk (5, 0, 0) (by decide) (by rw [h8]; exact Option.some_ne_none _)
  have e51 := hk (5, 1, 0) (by decide) (by rw [h9]; exact Option.some_ne_none _)
  have e52 := hk (5, 2, 0) (by decide) (by rw [h10]; exact Option.some_ne_none _)
  have eS : ∀ i, i < s_nS σ → k' (6, i, 0) = k (6, i, 0) ∧ ad' (6, i, 0) = ad (6, i, 0) := fun i hi => hk (6, i, 0) (by show 6 < 20; decide) (by rw [show k (6, i, 0) = _ from h2 i hi]; exact Option.some_ne_none _)
  have eI : ∀ f, f < s_nF σ → k' (7, f, 0) = k (7, f, 0) ∧ ad' (7, f, 0) = ad (7, f, 0) := fun f hf => hk (7, f, 0) (by show 7 < 20; decide) (by rw [(h4 f hf).1]; exact Option.some_ne_none _)
  have eR : ∀ f, f < s_nF σ → k' (8, f, 0) = k (8, f, 0) ∧ ad' (8, f, 0) = ad (8, f, 0) := fun f hf => hk (8, f, 0) (by show 8 < 20; decide) (by rw [(h4 f hf).2]; exact Option.some_ne_none _)
  have e9 : ∀ s f l, s_cp σ s f = some l → (k' (9, s, f) = k (9, s, f) ∧ ad' (9, s, f) = ad (9, s, f)) ∧ (k' (10, s, f) = k (10, s, f) ∧ ad' (10, s, f) = ad (10, s, f)) := fun s f l hl =>
    ⟨hk (9, s, f) (by show 9 < 20; decide) (by rw [(h5 s f l hl).1]; exact Option.some_ne_none _), hk (10, s, f) (by show 10 < 20; decide) (by obtain ⟨g', q, -⟩ := (h5 s f l hl).2; rw [q]; exact Option.some_ne_none _)⟩
  refine ⟨?_, ?_, fun i hi => ?_, ?_, fun f hf => ⟨?_, ?_⟩, fun s f l hl => (h5 s f l hl).congr (e9 s f l hl).1.1 (e9 s f l hl).2.1 (e9 s f l hl).2.2, h6.congr e3.1 e31.1 e31.2, ⟨g, by rw [e4.1, h7]⟩, ⟨g0, g1, g2, by rw [e5.1, h8], by rw [e51.1, h9], by rw [e52.1, h10], h11⟩, h12⟩
  · rw [e0.1, h0]; simp only [x_obj, e1.2, e2.2, e3.2, e4.2, e5.2, e51.2, e52.2]
  · rw [e1.1, h1]
    have : x_sto ad' σ = x_sto ad σ := by
      funext i
      unfold x_sto
      by_cases hi : i < s_nS σ
      · rw [if_pos hi, if_pos hi, (eS i hi).2]
      · rw [if_neg hi, if_neg hi]
    rw [this]
  · exact (eS i hi).1.trans (h2 i hi)
  · rw [e2.1, h3]
    have : x_ite ad' σ = x_ite ad σ := by
      funext i
      unfold x_ite
      by_cases hi : i < s_nF σ
      · rw [if_pos hi, if_pos hi, (eI i hi).2]
      · rw [if_neg hi, if_neg hi]
    rw [this]
  · rw [(eI f hf).1, (h4 f hf).1, (eR f hf).2]
  · rw [(eR f hf).1, (h4 f hf).2]
    have : x_rws ad' σ f = x_rws ad σ f := by
      funext s
      unfold x_rws
      cases hc : s_cp σ s f with
      | none => rfl
      | some l => simp only [Option.map_some, (e9 s f l hc).1.2]
    rw [this]
/-! numbers that name something -/
def ix (x : Int32) (n : Nat) : Option Nat := if 0 ≤ x.toInt ∧ x.toInt < n then some x.toInt.toNat else none
theorem ix_nI {j n : Nat} (h : j < n) (hn : n < 2 ^ 31) : ix (nI j) n = some j := by
  unfold ix
  rw [nI_toInt (by omega), if_pos (by omega)]
  simp
theorem ix_cases (x : Int32) {n : Nat} (hn : n < 2 ^ 31) : (ix x n = none ∧ x < 0) ∨ (ix x n = none ∧ ¬ x < 0 ∧ nI n ≤ x) ∨ ∃ j, j < n ∧ x = nI j ∧ ix x n = some j := by
  rcases pk_ix x hn with h | h | ⟨j, h1, h2⟩
  · left
    have : x.toInt < 0 := by simpa using Int32.lt_iff_toInt_lt.mp h
    exact ⟨by unfold ix; rw [if_neg (by omega)], h⟩
  · right; left
    have h3 := Int32.le_iff_toInt_le.mp h
    rw [nI_toInt hn] at h3
    refine ⟨by unfold ix; rw [if_neg (by omega)], fun q => ?_, h⟩
    have : x.toInt < 0 := by simpa using Int32.lt_iff_toInt_lt.mp q
    omega
  · right; right
    exact ⟨j, h1, h2, by rw [h2]; exact ix_nI h1 hn⟩
section TOPS
variable {p : Program} {l : Launch} {e : Env} {R : Room} {s : State} {m : MethodId} {args : Array Value} {below : List Frame} {meth : Method} {c : Code} {H : Heap} {locs : List Loc} {cells slots : Nat} {Q : State → Prop} {pc : Nat} {ls : Array Slot} {rest : List Value}
theorem h_tv {a b : Value} (h : a = b) (kk : W p l e R s m args below meth c H locs cells slots Q (F0 m pc ls (b :: rest))) : W p l e R s m args below meth c H locs cells slots Q (F0 m pc ls (a :: rest)) := h ▸ kk
theorem h_ti {a b : Int32} (h : a = b) (kk : W p l e R s m args below meth c H locs cells slots Q (F0 m pc ls (.int b :: rest))) : W p l e R s m args below meth c H locs cells slots Q (F0 m pc ls (.int a :: rest)) := h ▸ kk
theorem h_tl {a b : Int64} (h : a = b) (kk : W p l e R s m args below meth c H locs cells slots Q (F0 m pc ls (.long b :: rest))) : W p l e R s m args below meth c H locs cells slots Q (F0 m pc ls (.long a :: rest)) := h ▸ kk
end TOPS
