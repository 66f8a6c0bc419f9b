/-! ===== how the reference holds the state ===== -/
def m_ob (ad : h_T → Nat) (σ : S_t) (th : Int32) : List Value := [.int th, .int (nI (s_cop σ)), .int (nI (s_nS σ)), .ref (ad (20, 3, 0)), .ref (ad (20, 4, 0)), .ref (ad (20, 5, 0)), .ref (ad (20, 6, 0)), .int (nI (s_col σ).length), .ref (ad (20, 8, 0)), .int (nI (s_nF σ)), .ref (ad (20, 10, 0)), .ref (ad (20, 11, 0)), .ref (ad (20, 12, 0)), .ref (ad (20, 13, 0)), .int (nI (s_as σ).length), .ref (ad (20, 15, 0)), .ref (ad (20, 16, 0)), .ref (ad (20, 17, 0)), .ref (ad (20, 18, 0)), .int (s_dg σ)]
def m_sz (σ : S_t) (s f : Nat) : Int32 := match s_cp σ s f with
  | none => -1
  | some l => nI l.length
theorem msz_n {σ : S_t} {s f : Nat} (h : s_cp σ s f = none) : m_sz σ s f = -1 := by unfold m_sz; rw [h]
theorem msz_s {σ : S_t} {s f : Nat} {l : List Int32} (h : s_cp σ s f = some l) : m_sz σ s f = nI l.length := by unfold m_sz; rw [h]
def RM (G : h_G) (ad : h_T → Nat) (k : h_C) (σ : S_t) (th : Int32) : Prop :=
  k (20, 0, 0) = some (.inr (4, m_ob ad σ th)) ∧
  (∃ g : Nat → Int32, k (20, 3, 0) = some (.inl (G.2 0, 10, .inl g)) ∧ ∀ s, s < s_nS σ → g s = s_pl σ s) ∧
  (∃ g : Nat → Int32, k (20, 4, 0) = some (.inl (G.2 2, 10, .inl g)) ∧ ∀ s, s < 10 → g s = bI (s_si σ s)) ∧
  (∃ g : Nat → Int32, k (20, 5, 0) = some (.inl (G.2 0, 10, .inl g)) ∧ ∀ s, s < 10 → g s = s_up σ s) ∧
  (∃ g : Nat → Int32, k (20, 6, 0) = some (.inl (G.2 0, 10, .inl g)) ∧ ∀ s, s < 10 → g s = s_dn σ s) ∧
  (∃ g : Nat → Int32, k (20, 8, 0) = some (.inl (G.2 3, 16, .inl g)) ∧ ∀ i, i < (s_col σ).length → g i &&& 255 = (s_col σ).getD i 0) ∧
  (∃ g : Nat → Int32, k (20, 10, 0) = some (.inl (G.2 0, 40, .inl g)) ∧ ∀ f, f < s_nF σ → g f = s_pk σ f) ∧
  (∃ g : Nat → Int32, k (20, 11, 0) = some (.inl (G.2 0, 40, .inl g)) ∧ ∀ f, f < 40 → g f = s_rn σ f) ∧
  (∃ g : Nat → Int32, k (20, 12, 0) = some (.inl (G.2 0, 400, .inl g)) ∧ ∀ s f, s < 10 → f < 40 → g (40 * s + f) = m_sz σ s f) ∧
  (∃ g : Nat → Int32, k (20, 13, 0) = some (.inl (G.2 3, 6400, .inl g)) ∧ ∀ s f l, s_cp σ s f = some l → ∀ i, i < l.length → g (16 * (40 * s + f) + i) &&& 255 = l.getD i 0) ∧
  (∃ g0 g1 g2 : Nat → Int32, k (20, 15, 0) = some (.inl (G.2 0, 120, .inl g0)) ∧ k (20, 16, 0) = some (.inl (G.2 0, 120, .inl g1)) ∧ k (20, 17, 0) = some (.inl (G.2 0, 120, .inl g2)) ∧ ∀ i, i < (s_as σ).length → (g0 i, g1 i, g2 i) = (s_as σ).getD i (0, 0, 0)) ∧
  (∃ g : Nat → Int32, k (20, 18, 0) = some (.inl (G.2 0, 10, .inl g))) ∧ s_ok σ
theorem RM.ok {G : h_G} {ad : h_T → Nat} {k : h_C} {σ : S_t} {th : Int32} (h : RM G ad k σ th) : s_ok σ := h.2.2.2.2.2.2.2.2.2.2.2.2
/-- the reference's cells are as they were -/
theorem RM.congr {G : h_G} {ad ad' : h_T → Nat} {k k' : h_C} {σ : S_t} {th : Int32} (h : RM G ad k σ th) (hk : ∀ t : h_T, t.1 = 20 → k' t = k t ∧ ad' t = ad t) : RM G ad' k' σ th := by
  obtain ⟨h0, ⟨gP, eP, vP⟩, ⟨gS, eS, vS⟩, ⟨gU, eU, vU⟩, ⟨gD, eD, vD⟩, ⟨gA, eA, vA⟩, ⟨gK, eK, vK⟩, ⟨gN, eN, vN⟩, ⟨gZ, eZ, vZ⟩, ⟨gB, eB, vB⟩, ⟨g0, g1, g2, e15, e16, e17, v3⟩, ⟨gM, eM⟩, ok⟩ := h
  have q : ∀ j, k' (20, j, 0) = k (20, j, 0) := fun j => (hk (20, j, 0) rfl).1
  have a : ∀ j, ad' (20, j, 0) = ad (20, j, 0) := fun j => (hk (20, j, 0) rfl).2
  refine ⟨?_, ⟨gP, (q _).trans eP, vP⟩, ⟨gS, (q _).trans eS, vS⟩, ⟨gU, (q _).trans eU, vU⟩, ⟨gD, (q _).trans eD, vD⟩, ⟨gA, (q _).trans eA, vA⟩, ⟨gK, (q _).trans eK, vK⟩, ⟨gN, (q _).trans eN, vN⟩, ⟨gZ, (q _).trans eZ, vZ⟩, ⟨gB, (q _).trans eB, vB⟩, ⟨g0, g1, g2, (q _).trans e15, (q _).trans e16, (q _).trans e17, v3⟩, ⟨gM, (q _).trans eM⟩, ok⟩
  rw [q, h0]
  unfold m_ob
  simp only [a]
/-- the object alone is another -/
theorem RM.obj {G : h_G} {ad : h_T → Nat} {k k' : h_C} {σ : S_t} {th th' : Int32} (h : RM G ad k σ th) (hk : k' (20, 0, 0) = some (.inr (4, m_ob ad σ th'))) (ho : ∀ t : h_T, t ≠ (20, 0, 0) → k' t = k t) : RM G ad k' σ th' := by
  obtain ⟨h0, ⟨gP, eP, vP⟩, ⟨gS, eS, vS⟩, ⟨gU, eU, vU⟩, ⟨gD, eD, vD⟩, ⟨gA, eA, vA⟩, ⟨gK, eK, vK⟩, ⟨gN, eN, vN⟩, ⟨gZ, eZ, vZ⟩, ⟨gB, eB, vB⟩, ⟨g0, g1, g2, e15, e16, e17, v3⟩, ⟨gM, eM⟩, ok⟩ := h
  exact ⟨hk, ⟨gP, (ho _ (by simp)).trans eP, vP⟩, ⟨gS, (ho _ (by simp)).trans eS, vS⟩, ⟨gU, (ho _ (by simp)).trans eU, vU⟩, ⟨gD, (ho _ (by simp)).trans eD, vD⟩, ⟨gA, (ho _ (by simp)).trans eA, vA⟩, ⟨gK, (ho _ (by simp)).trans eK, vK⟩, ⟨gN, (ho _ (by simp)).trans eN, vN⟩, ⟨gZ, (ho _ (by simp)).trans eZ, vZ⟩, ⟨gB, (ho _ (by simp)).trans eB, vB⟩, ⟨g0, g1, g2, (ho _ (by simp)).trans e15, (ho _ (by simp)).trans e16, (ho _ (by simp)).trans e17, v3⟩, ⟨gM, (ho _ (by simp)).trans eM⟩, ok⟩
/-- behind a call of the reference -/
def MPost (G : h_G) (ad : h_T → Nat) (k : h_C) (v : Option Value) (τ : S_t) (th : Int32) : h_Ps := fun r ad' k' => r = v ∧ ad' = ad ∧ RM G ad k' τ th ∧ ∀ t : h_T, t.1 ≠ 20 → k' t = k t
theorem narrow_bI (b : Bool) : narrow .boolean (.int (bI b)) = .int (bI b) := by cases b <;> rfl
theorem i_nle {x y : Int32} (h : x < y) : ¬ y ≤ x := fun q => absurd (Int32.le_iff_toInt_le.mp q) (Int.not_le.mpr (Int32.lt_iff_toInt_lt.mp h))
theorem i_le {x y : Int32} (h : ¬ x < y) : y ≤ x := Int32.le_iff_toInt_le.mpr (Int.not_lt.mp (fun q => h (Int32.lt_iff_toInt_lt.mpr q)))
theorem in_ix {n : Nat} (hn : n < 2 ^ 30) (x : Int32) : decide (0 ≤ x ∧ x ≤ nI n - 1) = (ix x n).isSome := by
  have e : (nI n - 1).toInt = (n : Int) - 1 := pk_sub_toInt (a := n) (b := 1) hn (by decide)
  unfold ix
  by_cases h : 0 ≤ x.toInt ∧ x.toInt < n
  · rw [if_pos h]
    exact decide_eq_true ⟨Int32.le_iff_toInt_le.mpr h.1, Int32.le_iff_toInt_le.mpr (by rw [e]; omega)⟩
  · rw [if_neg h]
    refine decide_eq_false (fun q => h ?_)
    have h1 := Int32.le_iff_toInt_le.mp q.1
    have h2 := Int32.le_iff_toInt_le.mp q.2
    rw [e] at h2
    exact ⟨h1, by omega⟩
theorem in_ix' {n : Nat} (hn : n + 1 < 2 ^ 30) (x : Int32) : decide (0 ≤ x ∧ x ≤ nI n) = (ix x (n + 1)).isSome := by
  rw [← in_ix hn, nI_pred]
theorem at_nI {σ : S_t} {s f : Nat} (hok : s_ok σ) (hs : s < s_nS σ) (hf : f < s_nF σ) : (s_at σ (nI s) (nI f)).isSome = s_has σ s f := by
  have h1 := hok.2.1
  have h2 := hok.2.2.1
  unfold s_at s_has
  rw [ix_nI hf (by omega), ix_nI hs (by omega)]
  show (Option.map (fun b => (s, f, b)) (s_cp σ s f)).isSome = (s_cp σ s f).isSome
  cases s_cp σ s f <;> rfl
theorem isC_eq (σ : S_t) (f s : Nat) : s_isC σ f s = (s_has σ s f && !s_si σ s) := by
  unfold s_isC s_cnt s_has
  cases s_si σ s with
  | true => simp
  | false => simp
