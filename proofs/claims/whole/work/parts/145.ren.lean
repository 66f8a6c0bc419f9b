theorem h_W.ren {D : va_G} {cl : List vw_C} {A : Nat → Prop} {H0 : Heap} {ad : h_T → Nat} {k k' : h_C} {H : Heap} {locs : List Loc} (h : h_W D cl A H0 ad k H locs) (e : k' = k) : h_W D cl A H0 ad k' H locs := by
  rw [e]
  exact h
theorem h_W.renA {D : va_G} {cl : List vw_C} {A : Nat → Prop} {H0 : Heap} {ad ad' : h_T → Nat} {k : h_C} {H : Heap} {locs : List Loc} (h : h_W D cl A H0 ad k H locs) (e : ad' = ad) : h_W D cl A H0 ad' k H locs := by
  rw [e]
  exact h
/-- a store's cell is another one -/
theorem RX.setStore {G : h_G} {ad : h_T → Nat} {k k' : h_C} {σ τ : S_t} (h : RX G ad k σ) {s : Nat} (hs : s < s_nS σ) (h1 : τ.1 = σ.1) (h2 : τ.2.2 = σ.2.2) (hpl : s_pl τ = s_pl σ) (hot : ∀ i, i ≠ s → s_si τ i = s_si σ i ∧ s_up τ i = s_up σ i ∧ s_dn τ i = s_dn σ i) (hk : k' (6, s, 0) = some (.inr (2, [.int (s_pl τ s), .int (bI (!s_si τ s)), .int (s_up τ s), .int (s_dn τ s)]))) (ho : ∀ t : h_T, t ≠ (6, s, 0) → k' t = k t) : RX G ad k' τ := by
  obtain ⟨⟨c0, n0, f0⟩, q, w⟩ := τ
  obtain ⟨⟨c1, n1, f1⟩, q1, w1⟩ := σ
  cases h1
  cases h2
  obtain ⟨g0, g1, g2, g3, g4, g5, g6, ⟨g, g7⟩, ⟨a0, a1, a2, b0, b1, b2, b3⟩, ok1, ok2, ok3, ok4, ok5, ok6, ok7, ok8, ok9⟩ := h
  refine ⟨(ho _ (by simp)).trans g0, (ho _ (by simp)).trans g1, fun i hi => ?_, (ho _ (by simp)).trans g3, fun f hf => ⟨(ho _ (by simp)).trans (g4 f hf).1, (ho _ (by simp)).trans (g4 f hf).2⟩, fun a f b hb => (g5 a f b hb).congr (ho _ (by simp)) (ho _ (by simp)) rfl, g6.congr (ho _ (by simp)) (ho _ (by simp)) rfl, ⟨g, (ho _ (by simp)).trans g7⟩, ⟨a0, a1, a2, (ho _ (by simp)).trans b0, (ho _ (by simp)).trans b1, (ho _ (by simp)).trans b2, b3⟩, ok1, ok2, ok3, ok4, ok5, ok6, ok7, fun i hi => ?_, ok9⟩
  · by_cases his : i = s
    · subst his
      exact hk
    · obtain ⟨e1, e2, e3⟩ := hot i his
      show k' (6, i, 0) = _
      rw [ho _ (by simp [his])]
      have := g2 i hi
      unfold x_st at this
      rw [this, ← e1, ← e2, ← e3, ← hpl]
  · have his : i ≠ s := by
      intro z
      subst z
      exact absurd hs (Nat.not_lt.mpr hi)
    obtain ⟨e1, e2, e3⟩ := hot i his
    exact ⟨e1.trans (ok8 i hi).1, e2.trans (ok8 i hi).2.1, e3.trans (ok8 i hi).2.2⟩
/-- the object's own fields that are numbers -/
theorem RX.setObj {G : h_G} {ad : h_T → Nat} {k k' : h_C} {σ τ : S_t} (h : RX G ad k σ) (h1 : τ.1 = σ.1) (h2 : τ.2.1 = σ.2.1) (h3 : τ.2.2.1 = σ.2.2.1) (h4 : s_col τ = s_col σ) (h5 : s_as τ = s_as σ) (hk : k' (0, 0, 0) = some (.inr (3, x_obj ad τ))) (ho : ∀ t : h_T, t ≠ (0, 0, 0) → k' t = k t) : RX G ad k' τ := by
  obtain ⟨c0, q, w, co, as, dg⟩ := τ
  obtain ⟨c1, q1, w1, co1, as1, dg1⟩ := σ
  cases h1
  cases h2
  cases h3
  cases h4
  cases h5
  obtain ⟨g0, g1, g2, g3, g4, g5, g6, ⟨g, g7⟩, ⟨a0, a1, a2, b0, b1, b2, b3⟩, ok⟩ := h
  exact ⟨hk, (ho _ (by simp)).trans g1, fun i hi => (ho _ (by simp)).trans (g2 i hi), (ho _ (by simp)).trans g3, fun f hf => ⟨(ho _ (by simp)).trans (g4 f hf).1, (ho _ (by simp)).trans (g4 f hf).2⟩, fun a f b hb => (g5 a f b hb).congr (ho _ (by simp)) (ho _ (by simp)) rfl, g6.congr (ho _ (by simp)) (ho _ (by simp)) rfl, ⟨g, (ho _ (by simp)).trans g7⟩, ⟨a0, a1, a2, (ho _ (by simp)).trans b0, (ho _ (by simp)).trans b1, (ho _ (by simp)).trans b2, b3⟩, ok⟩
/-- the bytes of a copy that is there are others -/
theorem RX.setRow {G : h_G} {ad : h_T → Nat} {k k' : h_C} {σ : S_t} (h : RX G ad k σ) {s f : Nat} {b b' : List Int32} (hb : s_cp σ s f = some b) (hl : b'.length ≤ 16) (hk : x_row G ad k' (9, s, f) (10, s, f) b') (ho : ∀ t : h_T, t ≠ (9, s, f) → t ≠ (10, s, f) → k' t = k t) : RX G ad k' (s_setCp σ s f (some b')) := by
  obtain ⟨g0, g1, g2, g3, g4, g5, g6, ⟨g, g7⟩, ⟨a0, a1, a2, b0, b1, b2, b3⟩, ok1, ok2, ok3, ok4, ok5, ok6, ok7, ok8, ok9⟩ := h
  refine ⟨(ho _ (by simp) (by simp)).trans g0, (ho _ (by simp) (by simp)).trans g1, fun i hi => (ho _ (by simp) (by simp)).trans (g2 i hi), (ho _ (by simp) (by simp)).trans g3, fun f' hf => ⟨(ho _ (by simp) (by simp)).trans (g4 f' hf).1, ((ho _ (by simp) (by simp)).trans (g4 f' hf).2).trans ?_⟩, fun a f' l hl' => ?_, g6.congr (ho _ (by simp) (by simp)) (ho _ (by simp) (by simp)) rfl, ⟨g, (ho _ (by simp) (by simp)).trans g7⟩, ⟨a0, a1, a2, (ho _ (by simp) (by simp)).trans b0, (ho _ (by simp) (by simp)).trans b1, (ho _ (by simp) (by simp)).trans b2, b3⟩, ok1, ok2, ok3, ok4, ok5, fun a f' hf => ?_, fun a f' l hl' => ?_, ok8, ok9⟩
  · have : x_rws ad (s_setCp σ s f (some b')) f' = x_rws ad σ f' := by
      funext a
      show (s_c2 (s_cp σ) s f (some b') a f').map _ = (s_cp σ a f').map _
      by_cases hz : a = s ∧ f' = f
      · obtain ⟨rfl, rfl⟩ := hz
        rw [s_c2_s, hb]
        rfl
      · rw [s_c2_n hz]
    rw [this]
  · have hl' : s_c2 (s_cp σ) s f (some b') a f' = some l := hl'
    by_cases hz : a = s ∧ f' = f
    · obtain ⟨rfl, rfl⟩ := hz
      rw [s_c2_s] at hl'
      cases hl'
      exact hk
    · rw [s_c2_n hz] at hl'
      exact (g5 a f' l hl').congr (ho _ (by simp; exact fun h1 h2 => hz ⟨h1, h2⟩) (by simp)) (ho _ (by simp) (by simp; exact fun h1 h2 => hz ⟨h1, h2⟩)) rfl
  · show s_c2 (s_cp σ) s f (some b') a f' = none
    have hn := ok6 a f' hf
    by_cases hz : a = s ∧ f' = f
    · obtain ⟨rfl, rfl⟩ := hz
      rw [hn] at hb
      cases hb
    · rw [s_c2_n hz]
      exact hn
  · have hl' : s_c2 (s_cp σ) s f (some b') a f' = some l := hl'
    by_cases hz : a = s ∧ f' = f
    · obtain ⟨rfl, rfl⟩ := hz
      rw [s_c2_s] at hl'
      cases hl'
      exact hl
    · rw [s_c2_n hz] at hl'
      exact ok7 a f' l hl'
/-- the names that the class uses for the state -/
def x_use (σ : S_t) (t : h_T) : Prop := t ∈ ([(0, 0, 0), (1, 0, 0), (2, 0, 0), (3, 0, 0), (3, 1, 0), (4, 0, 0), (5, 0, 0), (5, 1, 0), (5, 2, 0)] : List h_T) ∨ (∃ i, i < s_nS σ ∧ t = (6, i, 0)) ∨ (∃ f, f < s_nF σ ∧ (t = (7, f, 0) ∨ t = (8, f, 0))) ∨ ∃ s f, (s_cp σ s f).isSome = true ∧ (t = (9, s, f) ∨ t = (10, s, f))
theorem x_use.kind {σ : S_t} {t : h_T} (h : x_use σ t) : t.1 < 20 := by
  rcases h with h | ⟨i, -, rfl⟩ | ⟨f, -, rfl | rfl⟩ | ⟨s, f, -, rfl | rfl⟩
  · simp only [List.mem_cons, List.not_mem_nil, or_false] at h
    rcases h with rfl | rfl | rfl | rfl | rfl | rfl | rfl | rfl | rfl <;> decide
  all_goals (dsimp only; decide)
/-- one file's cells are others -/
theorem RX.file {G : h_G} {ad ad' : h_T → Nat} {k k' : h_C} {σ τ : S_t} (h : RX G ad k σ) {f : Nat} (h1 : τ.1 = σ.1) (h2 : τ.2.1 = σ.2.1) (h3 : s_pk τ = s_pk σ) (hrn : ∀ g, g ≠ f → s_rn τ g = s_rn σ g) (h4 : τ.2.2.2 = σ.2.2.2) (hcp : ∀ s g, g ≠ f → s_cp τ s g = s_cp σ s g) (hf : f < s_nF σ) (hcn : ∀ s, s_nS σ ≤ s → s_cp τ s f = none) (hlen : ∀ s b, s_cp τ s f = some b → b.length ≤ 16) (hit : x_it G ad' k' τ f) (hrow : ∀ s b, s_cp τ s f = some b → x_row G ad' k' (9, s, f) (10, s, f) b)
    (ha : ad' (7, f, 0) = ad (7, f, 0)) (ho : ∀ t : h_T, x_use σ t → t ≠ (7, f, 0) → t ≠ (8, f, 0) → (∀ s, t ≠ (9, s, f) ∧ t ≠ (10, s, f)) → k' t = k t ∧ ad' t = ad t) : RX G ad' k' τ := by
  obtain ⟨⟨c0, n0, f0⟩, q, ⟨pk, rn, cp⟩, w⟩ := τ
  obtain ⟨⟨c1, n1, f1⟩, q1, ⟨pk1, rn1, cp1⟩, w1⟩ := σ
  cases h1
  cases h2
  cases h3
  cases h4
  obtain ⟨g0, g1, g2, g3, g4, g5, g6, ⟨g, g7⟩, ⟨a0, a1, a2, b0, b1, b2, b3⟩, ok1, ok2, ok3, ok4, ok5, ok6, ok7, ok8, ok9⟩ := h
  have base : ∀ t : h_T, t ∈ ([(0, 0, 0), (1, 0, 0), (2, 0, 0), (3, 0, 0), (3, 1, 0), (4, 0, 0), (5, 0, 0), (5, 1, 0), (5, 2, 0)] : List h_T) → k' t = k t ∧ ad' t = ad t := by
    intro t ht
    have hu : x_use ((c0, n0, f0), q, (pk, rn1, cp1), w) t := Or.inl ht
    simp only [List.mem_cons, List.not_mem_nil, or_false] at ht
    rcases ht with rfl | rfl | rfl | rfl | rfl | rfl | rfl | rfl | rfl <;> exact ho _ hu (by simp) (by simp) (fun s => by simp)
  have e0 := base (0, 0, 0) (by simp)
  have e1 := base (1, 0, 0) (by simp)
  have e2 := base (2, 0, 0) (by simp)
  have e3 := base (3, 0, 0) (by simp)
  have e31 := base (3, 1, 0) (by simp)
  have e4 := base (4, 0, 0) (by simp)
  have e5 := base (5, 0, 0) (by simp)
  have e51 := base (5, 1, 0) (by simp)
  have e52 := base (5, 2, 0) (by simp)
  have eS : ∀ i, i < n0 → k' (6, i, 0) = k (6, i, 0) ∧ ad' (6, i, 0) = ad (6, i, 0) := fun i hi => ho _ (Or.inr (Or.inl ⟨i, hi, rfl⟩)) (by simp) (by simp) (fun s => by simp)
  have eI : ∀ g, g < f0 → g ≠ f → k' (7, g, 0) = k (7, g, 0) ∧ ad' (7, g, 0) = ad (7, g, 0) := fun g hg hgf => ho _ (Or.inr (Or.inr (Or.inl ⟨g, hg, Or.inl rfl⟩))) (by simp [hgf]) (by simp) (fun s => by simp)
  have eR : ∀ g, g < f0 → g ≠ f → k' (8, g, 0) = k (8, g, 0) ∧ ad' (8, g, 0) = ad (8, g, 0) := fun g hg hgf => ho _ (Or.inr (Or.inr (Or.inl ⟨g, hg, Or.inr rfl⟩))) (by simp) (by simp [hgf]) (fun s => by simp)
  have e9 : ∀ s g b, g ≠ f → cp1 s g = some b → (k' (9, s, g) = k (9, s, g) ∧ ad' (9, s, g) = ad (9, s, g)) ∧ (k' (10, s, g) = k (10, s, g) ∧ ad' (10, s, g) = ad (10, s, g)) := fun s g b hgf hb =>
    ⟨ho _ (Or.inr (Or.inr (Or.inr ⟨s, g, (by show (cp1 s g).isSome = true; rw [hb]; rfl), Or.inl rfl⟩))) (by simp) (by simp) (fun s' => by simp [hgf]), ho _ (Or.inr (Or.inr (Or.inr ⟨s, g, (by show (cp1 s g).isSome = true; rw [hb]; rfl), Or.inr rfl⟩))) (by simp) (by simp) (fun s' => by simp [hgf])⟩
  refine ⟨?_, ?_, fun i hi => (eS i hi).1.trans (g2 i hi), ?_, fun g hg => ?_, fun s g b hb => ?_, g6.congr e3.1 e31.1 e31.2, ⟨g, e4.1.trans g7⟩, ⟨a0, a1, a2, e5.1.trans b0, e51.1.trans b1, e52.1.trans b2, b3⟩, ok1, ok2, ok3, ok4, ok5, fun s g hg => ?_, fun s g b hb => ?_, ok8, fun g hg => ?_⟩
  · rw [e0.1, g0]
    simp only [x_obj, e1.2, e2.2, e3.2, e4.2, e5.2, e51.2, e52.2]
  · rw [e1.1, g1]
    have : x_sto ad' ((c0, n0, f0), q, (pk, rn, cp), w) = x_sto ad ((c0, n0, f0), q, (pk, rn1, cp1), w) := by
      funext i
      unfold x_sto
      by_cases hi : i < n0
      · rw [if_pos hi, if_pos hi, (eS i hi).2]
      · rw [if_neg hi, if_neg hi]
    rw [this]
  · rw [e2.1, g3]
    have : x_ite ad' ((c0, n0, f0), q, (pk, rn, cp), w) = x_ite ad ((c0, n0, f0), q, (pk, rn1, cp1), w) := by
      funext i
      unfold x_ite
      by_cases hi : i < f0
      · rw [if_pos hi, if_pos hi]
        by_cases hif : i = f
        · rw [hif, ha]
        · rw [(eI i hi hif).2]
      · rw [if_neg hi, if_neg hi]
    rw [this]
  · by_cases hgf : g = f
    · subst hgf
      exact hit
    · refine ⟨?_, ?_⟩
      · rw [(eI g hg hgf).1, (g4 g hg).1, (eR g hg hgf).2]
        show some (Sum.inr (0, [Value.int (pk g), Value.ref (ad (8, g, 0)), Value.int (rn1 g)])) = some (Sum.inr (0, [Value.int (pk g), Value.ref (ad (8, g, 0)), Value.int (rn g)]))
        rw [show rn g = rn1 g from hrn g hgf]
      · rw [(eR g hg hgf).1, (g4 g hg).2]
        have : x_rws ad' ((c0, n0, f0), q, (pk, rn, cp), w) g = x_rws ad ((c0, n0, f0), q, (pk, rn1, cp1), w) g := by
          funext s
          show (cp s g).map _ = (cp1 s g).map _
          rw [show cp s g = cp1 s g from hcp s g hgf]
          cases hc : cp1 s g with
          | none => rfl
          | some b => simp only [Option.map_some, (e9 s g b hgf hc).1.2]
        rw [this]
  · by_cases hgf : g = f
    · subst hgf
      exact hrow s b hb
    · have hb : cp1 s g = some b := (hcp s g hgf).symm.trans hb
      exact (g5 s g b hb).congr (e9 s g b hgf hb).1.1 (e9 s g b hgf hb).2.1 (e9 s g b hgf hb).2.2
  · by_cases hgf : g = f
    · subst hgf
      rcases hg with hg | hg
      · exact hcn s hg
      · exact absurd hf (Nat.not_lt.mpr hg)
    · exact (hcp s g hgf).trans (ok6 s g hg)
  · by_cases hgf : g = f
    · subst hgf
      exact hlen s b hb
    · exact ok7 s g b ((hcp s g hgf).symm.trans hb)
  · have hgf : g ≠ f := by
      intro z
      subst z
      exact absurd hf (Nat.not_lt.mpr hg)
    exact (hrn g hgf).trans (ok9 g hg)
theorem t20 {t u : h_T} (h : 20 ≤ t.1) (hu : u.1 < 20) : t ≠ u := fun e => by
  rw [e] at h
  omega
