/-! ===== mending and filling in mathematical words ===== -/
def s_oth (σ : S_t) (f : Nat) (d : Int32) : Nat → Bool := fun a => match s_cnt σ a f with
  | some l => decide (¬ dgL l = d)
  | none => false
/-- the first n stores' copies of f are mended by b -/
def s_mendN (σ : S_t) (f : Nat) (b : List Int32) (n : Nat) : S_t := (σ.1, σ.2.1, (s_pk σ, s_rn σ, fun a g => if g = f ∧ a < n ∧ s_oth σ f (dgL b) a = true then some b else s_cp σ a g), σ.2.2.2)
theorem mendN_cp (σ : S_t) (f : Nat) (b : List Int32) (n a g : Nat) : s_cp (s_mendN σ f b n) a g = if g = f ∧ a < n ∧ s_oth σ f (dgL b) a = true then some b else s_cp σ a g := rfl
theorem s_ext {σ τ : S_t} (h1 : τ.1 = σ.1) (h2 : τ.2.1 = σ.2.1) (h3 : s_pk τ = s_pk σ) (h4 : s_rn τ = s_rn σ) (h5 : ∀ a g, s_cp τ a g = s_cp σ a g) (h6 : τ.2.2.2 = σ.2.2.2) : τ = σ := by
  obtain ⟨a, b, ⟨c, d, e⟩, x⟩ := τ
  obtain ⟨a', b', ⟨c', d', e'⟩, x'⟩ := σ
  cases h1
  cases h2
  cases h3
  cases h4
  cases h6
  have : e = e' := funext fun i => funext fun j => h5 i j
  rw [this]
theorem mendN_0 (σ : S_t) (f : Nat) (b : List Int32) : s_mendN σ f b 0 = σ := s_ext rfl rfl rfl rfl (fun a g => by
  rw [mendN_cp, if_neg (fun h => Nat.not_lt_zero a h.2.1)]) rfl
theorem mendN_t {σ : S_t} {f : Nat} {b : List Int32} {n : Nat} (h : s_oth σ f (dgL b) n = true) : s_mendN σ f b (n + 1) = s_setCp (s_mendN σ f b n) n f (some b) := s_ext rfl rfl rfl rfl (fun a g => by
  rw [mendN_cp]
  show _ = s_c2 (s_cp (s_mendN σ f b n)) n f (some b) a g
  by_cases hz : a = n ∧ g = f
  · obtain ⟨rfl, rfl⟩ := hz
    rw [s_c2_s, if_pos ⟨rfl, Nat.lt_succ_self _, h⟩]
  · rw [s_c2_n hz, mendN_cp]
    by_cases h1 : g = f ∧ a < n ∧ s_oth σ f (dgL b) a = true
    · rw [if_pos h1, if_pos ⟨h1.1, by omega, h1.2.2⟩]
    · rw [if_neg h1, if_neg (fun h2 => h1 ⟨h2.1, by
        have : a ≠ n := fun e => hz ⟨e, h2.1⟩
        omega, h2.2.2⟩)]) rfl
theorem mendN_f {σ : S_t} {f : Nat} {b : List Int32} {n : Nat} (h : s_oth σ f (dgL b) n = false) : s_mendN σ f b (n + 1) = s_mendN σ f b n := s_ext rfl rfl rfl rfl (fun a g => by
  rw [mendN_cp, mendN_cp]
  by_cases h1 : g = f ∧ a < n ∧ s_oth σ f (dgL b) a = true
  · rw [if_pos h1, if_pos ⟨h1.1, by omega, h1.2.2⟩]
  · rw [if_neg h1, if_neg (fun h2 => h1 ⟨h2.1, by
      have : a ≠ n := fun e => by
        rw [e, h] at h2
        exact absurd h2.2.2 (by decide)
      omega, h2.2.2⟩)]) rfl
theorem mendN_self (σ : S_t) (f : Nat) (b : List Int32) (n : Nat) : s_cp (s_mendN σ f b n) n f = s_cp σ n f := by
  rw [mendN_cp, if_neg (fun h => Nat.lt_irrefl _ h.2.1)]
theorem mendN_cnt (σ : S_t) (f : Nat) (b : List Int32) (n : Nat) : s_cnt (s_mendN σ f b n) n f = s_cnt σ n f := by
  unfold s_cnt
  rw [mendN_self]
  rfl
theorem mendN_lead {σ : S_t} {f q : Nat} {b : List Int32} (h : s_cnt σ q f = some b) (n : Nat) : s_cp (s_mendN σ f b n) q f = some b := by
  rw [mendN_cp, if_neg, (s_cnt_cp h).1]
  intro hh
  have := hh.2.2
  unfold s_oth at this
  rw [h] at this
  simp at this
/-- the bytes of the leading copy -/
def s_lrow (σ : S_t) (f : Nat) : Option (List Int32) := (s_lead σ f).bind fun q => s_cnt σ q f
def s_mendF (σ : S_t) (f : Nat) : Int32 × S_t := match s_lrow σ f with
  | none => (0, σ)
  | some b => (nI (cN (s_oth σ f (dgL b)) (s_nS σ)), s_setRn (s_mendN σ f b (s_nS σ)) f (s_rn σ f + nI (cN (s_oth σ f (dgL b)) (s_nS σ))))
def sp_mendN (σ : S_t) (x : Int32) : Nat → Int32 × S_t
  | 0 => (0, σ)
  | n + 1 => if s_pk σ n = x then ((sp_mendN σ x n).1 + (s_mendF (sp_mendN σ x n).2 n).1, (s_mendF (sp_mendN σ x n).2 n).2) else sp_mendN σ x n
def sp_mend (σ : S_t) (x : Int32) : Int32 × S_t := if (ix x 10).isNone then (-2, σ) else sp_mendN σ x (s_nF σ)
def s_fillF (σ : S_t) (j f : Nat) : Bool × S_t := if s_has σ j f = true ∨ s_cop σ ≤ cN (fun s => s_has σ s f) (s_nS σ) then (false, σ) else match s_lrow σ f with
  | none => (false, σ)
  | some b => (true, s_setRn (s_setCp σ j f (some b)) f (s_rn σ f + 1))
def sp_fillN (σ : S_t) (j : Nat) : Nat → Nat × S_t
  | 0 => (0, σ)
  | n + 1 => ((sp_fillN σ j n).1 + (if (s_fillF (sp_fillN σ j n).2 j n).1 then 1 else 0), (s_fillF (sp_fillN σ j n).2 j n).2)
def sp_fill (σ : S_t) (x : Int32) : Int32 × S_t := match ix x (s_nS σ) with
  | none => (-1, σ)
  | some j => if s_si σ j = true then (-3, σ) else (nI (sp_fillN σ j (s_nF σ)).1, (sp_fillN σ j (s_nF σ)).2)
theorem mendF_1 (σ : S_t) (f : Nat) : (s_mendF σ f).2.1 = σ.1 ∧ (s_mendF σ f).2.2.1 = σ.2.1 ∧ s_pk (s_mendF σ f).2 = s_pk σ := by
  unfold s_mendF
  split <;> exact ⟨rfl, rfl, rfl⟩
theorem mendNN (σ : S_t) (x : Int32) : ∀ n, (sp_mendN σ x n).2.1 = σ.1 ∧ (sp_mendN σ x n).2.2.1 = σ.2.1 ∧ s_pk (sp_mendN σ x n).2 = s_pk σ
  | 0 => ⟨rfl, rfl, rfl⟩
  | n + 1 => by
    have ih := mendNN σ x n
    unfold sp_mendN
    split
    · have h := mendF_1 (sp_mendN σ x n).2 n
      exact ⟨h.1.trans ih.1, h.2.1.trans ih.2.1, h.2.2.trans ih.2.2⟩
    · exact ih
theorem fillF_1 (σ : S_t) (j f : Nat) : (s_fillF σ j f).2.1 = σ.1 ∧ (s_fillF σ j f).2.2.1 = σ.2.1 ∧ s_pk (s_fillF σ j f).2 = s_pk σ := by
  unfold s_fillF
  split
  · exact ⟨rfl, rfl, rfl⟩
  · split <;> exact ⟨rfl, rfl, rfl⟩
theorem fillNN (σ : S_t) (j : Nat) : ∀ n, (sp_fillN σ j n).2.1 = σ.1 ∧ (sp_fillN σ j n).2.2.1 = σ.2.1 ∧ s_pk (sp_fillN σ j n).2 = s_pk σ
  | 0 => ⟨rfl, rfl, rfl⟩
  | n + 1 => by
    have ih := fillNN σ j n
    have h := fillF_1 (sp_fillN σ j n).2 j n
    exact ⟨h.1.trans ih.1, h.2.1.trans ih.2.1, h.2.2.trans ih.2.2⟩
theorem fillN_le (σ : S_t) (j : Nat) : ∀ n, (sp_fillN σ j n).1 ≤ n
  | 0 => Nat.le_refl _
  | n + 1 => by
    have ih := fillN_le σ j n
    show (sp_fillN σ j n).1 + _ ≤ _
    split <;> omega
/-- a file's own number of renewals -/
theorem RX.setRn {G : h_G} {ad : h_T → Nat} {k k' : h_C} {σ : S_t} (h : RX G ad k σ) {f : Nat} (hf : f < s_nF σ) {v : Int32} (hk : k' (7, f, 0) = some (.inr (0, [.int (s_pk σ f), .ref (ad (8, f, 0)), .int v]))) (ho : ∀ t : h_T, t ≠ (7, f, 0) → k' t = k t) : RX G ad k' (s_setRn σ f v) := by
  obtain ⟨g0, g1, g2, g3, g4, g5, g6, g7, g8, ok1, ok2, ok3, ok4, ok5, ok6, ok7, ok8, ok9⟩ := id h
  exact h.file (τ := s_setRn σ f v) (f := f) rfl rfl rfl (fun g hg => pk_un hg) rfl (fun _ _ _ => rfl) hf (fun a ha => ok6 a f (Or.inl ha)) (fun a b hb => ok7 a f b hb) ⟨by
    show k' (7, f, 0) = some (Sum.inr (0, [Value.int (s_pk σ f), Value.ref (ad (8, f, 0)), Value.int (upd (s_rn σ) f v f)]))
    rw [pk_us]; exact hk, (ho _ (by simp)).trans (g4 f hf).2⟩ (fun a b hb => (g5 a f b hb).congr (ho _ (by simp)) (ho _ (by simp)) rfl) rfl (fun t _ h7 _ _ => ⟨ho t h7, rfl⟩)
theorem mendS_t {σ : S_t} {x : Int32} {n : Nat} (h : s_pk σ n = x) : sp_mendN σ x (n + 1) = ((sp_mendN σ x n).1 + (s_mendF (sp_mendN σ x n).2 n).1, (s_mendF (sp_mendN σ x n).2 n).2) := if_pos h
theorem mendS_f {σ : S_t} {x : Int32} {n : Nat} (h : ¬ s_pk σ n = x) : sp_mendN σ x (n + 1) = sp_mendN σ x n := if_neg h
