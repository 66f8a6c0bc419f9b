/-! ===== what more holds of the numbers stays so ===== -/
theorem iv_sub {σ τ : S_t} (h : s_iv σ) (h2 : τ.2.1 = σ.2.1) (hn : s_nS τ = s_nS σ) (hh : ∀ s f, s_has τ s f = true → s_has σ s f = true) : s_iv τ := by
  refine ⟨fun s => ?_, fun f => ?_⟩
  · obtain ⟨a, b, q⟩ := h.1 s
    refine ⟨a, b, q.1, q.2.1, ?_, ?_⟩
    · rw [← q.2.2.1]; exact congrFun (congrArg (fun z => z.2.2.1) h2) s
    · rw [← q.2.2.2]; exact congrFun (congrArg (fun z => z.2.2.2) h2) s
  · rw [hn]
    exact Nat.le_trans (cN_mono (fun s hs => hh s f hs) _) (h.2 f)
theorem has_c2 {σ : S_t} {s f : Nat} {v : Option (List Int32)} {a g : Nat} (h : s_has (s_setCp σ s f v) a g = true) : (a = s ∧ g = f ∧ v.isSome = true) ∨ s_has σ a g = true := by
  have h : (s_c2 (s_cp σ) s f v a g).isSome = true := h
  by_cases hz : a = s ∧ g = f
  · obtain ⟨rfl, rfl⟩ := hz
    rw [s_c2_s] at h
    exact Or.inl ⟨rfl, rfl, h⟩
  · rw [s_c2_n hz] at h
    exact Or.inr h
theorem iv_setCp {σ : S_t} (h : s_iv σ) {s f : Nat} {v : Option (List Int32)} (hv : v.isSome = true → s_has σ s f = true) : s_iv (s_setCp σ s f v) := iv_sub h rfl rfl (fun a g hg => by
  rcases has_c2 hg with ⟨rfl, rfl, h3⟩ | h3
  · exact hv h3
  · exact h3)
theorem iv_rate {σ : S_t} (h : s_iv σ) {s a b : Nat} (h1 : a ≤ b) (h2 : b ≤ 1000) : s_iv (s_setRate σ s (nI a) (nI b)) := by
  refine ⟨fun i => ?_, h.2⟩
  show ∃ x y : Nat, x ≤ y ∧ y ≤ 1000 ∧ upd (s_up σ) s (nI a) i = nI x ∧ upd (s_dn σ) s (nI b) i = nI y
  by_cases hi : i = s
  · rw [hi, pk_us, pk_us]
    exact ⟨a, b, h1, h2, rfl, rfl⟩
  · rw [pk_un hi, pk_un hi]
    exact h.1 i
theorem iv_addS {σ : S_t} (h : s_iv σ) (hok : s_ok σ) (x : Int32) : s_iv (s_addS σ x) := by
  refine ⟨h.1, fun f => ?_⟩
  show cN (fun s => s_has σ s f) (s_nS σ + 1) ≤ 5
  rw [cN_f (by show (s_cp σ (s_nS σ) f).isSome = false; rw [hok.2.2.2.2.2.1 _ f (Or.inl (Nat.le_refl _))]; rfl)]
  exact h.2 f
theorem iv_put {σ : S_t} (h : s_iv σ) (hok : s_ok σ) (hm : s_cop σ ≤ cN (fun s => !s_si σ s) (s_nS σ)) (x : Int32) : s_iv (s_put σ x) := by
  refine ⟨h.1, fun f => ?_⟩
  by_cases hf : f = s_nF σ
  · have e : cN (fun s => s_has (s_put σ x) s f) (s_nS (s_put σ x)) = cN (s_chN σ (s_cop σ)) (s_nS σ) := cN_congr (fun i _ => by
      show (if f = s_nF σ then (if s_chN σ (s_cop σ) i then some (s_col σ) else none) else s_cp σ i f).isSome = _
      rw [if_pos hf]
      cases s_chN σ (s_cop σ) i <;> rfl)
    rw [e, (chN_rk σ (s_cop σ) hm).2]
    exact hok.1.2
  · have e : cN (fun s => s_has (s_put σ x) s f) (s_nS (s_put σ x)) = cN (fun s => s_has σ s f) (s_nS σ) := cN_congr (fun i _ => by
      show (if f = s_nF σ then (if s_chN σ (s_cop σ) i then some (s_col σ) else none) else s_cp σ i f).isSome = _
      rw [if_neg hf]
      rfl)
    rw [e]
    exact h.2 f
theorem mendN_has {σ : S_t} {f : Nat} {b : List Int32} {n a g : Nat} (h : s_has (s_mendN σ f b n) a g = true) : s_has σ a g = true := by
  have h : (s_cp (s_mendN σ f b n) a g).isSome = true := h
  rw [mendN_cp] at h
  split at h
  · rename_i q
    obtain ⟨rfl, -, q⟩ := q
    unfold s_oth at q
    cases hc : s_cnt σ a g with
    | none => rw [hc] at q; cases q
    | some l => unfold s_has; rw [(s_cnt_cp hc).1]; rfl
  · exact h
theorem iv_mendF {σ : S_t} (h : s_iv σ) (f : Nat) : s_iv (s_mendF σ f).2 := by
  unfold s_mendF
  split
  · exact h
  · exact iv_sub h rfl rfl (fun a g hg => mendN_has (f := f) (show s_has (s_mendN σ f _ _) a g = true from hg))
theorem iv_mendN {σ : S_t} (h : s_iv σ) (x : Int32) : ∀ n, s_iv (sp_mendN σ x n).2
  | 0 => h
  | n + 1 => by
    have ih := iv_mendN h x n
    unfold sp_mendN
    split
    · exact iv_mendF ih n
    · exact ih
theorem iv_fillF {σ : S_t} (h : s_iv σ) (hc : s_cop σ ≤ 5) {j : Nat} (hj : j < s_nS σ) (f : Nat) : s_iv (s_fillF σ j f).2 := by
  unfold s_fillF
  split
  · exact h
  rename_i hq
  have hq1 : s_has σ j f = false := by
    cases q : s_has σ j f with
    | false => rfl
    | true => exact absurd (Or.inl q) hq
  have hq2 : cN (fun s => s_has σ s f) (s_nS σ) < s_cop σ := Nat.lt_of_not_le (fun q => hq (Or.inr q))
  split
  · exact h
  rename_i b _
  refine ⟨h.1, fun g => ?_⟩
  show cN (fun s => s_has (s_setCp σ j f (some b)) s g) (s_nS σ) ≤ 5
  by_cases hg : g = f
  · subst hg
    rw [cN_one (P := fun s => s_has σ s g) (j := j) hq1 (by show (s_c2 (s_cp σ) j g (some b) j g).isSome = true; rw [s_c2_s]; rfl) (fun s hs => by
      show (s_c2 (s_cp σ) j g (some b) s g).isSome = _
      rw [s_c2_n (fun z => hs z.1)]
      rfl) _ hj]
    omega
  · rw [cN_congr (P' := fun s => s_has σ s g) (fun i _ => by
      show (s_c2 (s_cp σ) j f (some b) i g).isSome = _
      rw [s_c2_n (fun z => hg z.2)]
      rfl)]
    exact h.2 g
theorem iv_fillN {σ : S_t} (h : s_iv σ) (hc : s_cop σ ≤ 5) {j : Nat} (hj : j < s_nS σ) : ∀ n, s_iv (sp_fillN σ j n).2
  | 0 => h
  | n + 1 => by
    have e := (fillNN σ j n).1
    exact iv_fillF (iv_fillN h hc hj n) (by unfold s_cop; rw [e]; exact hc) (by unfold s_nS; rw [e]; exact hj) n
theorem iv_move {σ : S_t} (h : s_iv σ) {s u f : Nat} {b : List Int32} (hs : s < s_nS σ) (hu : u < s_nS σ) (hb : s_cp σ s f = some b) (hn : s_has σ u f = false) (hsu : s ≠ u) : s_iv (s_setCp (s_setCp σ u f (some b)) s f none) := by
  refine ⟨h.1, fun g => ?_⟩
  show cN (fun i => s_has (s_setCp (s_setCp σ u f (some b)) s f none) i g) (s_nS σ) ≤ 5
  by_cases hg : g = f
  · subst hg
    have h1 : cN (fun i => s_has (s_setCp σ u g (some b)) i g) (s_nS σ) = cN (fun i => s_has σ i g) (s_nS σ) + 1 := cN_one (P := fun i => s_has σ i g) (j := u) hn (by show (s_c2 (s_cp σ) u g (some b) u g).isSome = true; rw [s_c2_s]; rfl) (fun i hi => by
      show (s_c2 (s_cp σ) u g (some b) i g).isSome = _
      rw [s_c2_n (fun z => hi z.1)]
      rfl) _ hu
    have h2 : cN (fun i => s_has (s_setCp σ u g (some b)) i g) (s_nS σ) = cN (fun i => s_has (s_setCp (s_setCp σ u g (some b)) s g none) i g) (s_nS σ) + 1 := cN_one (P := fun i => s_has (s_setCp (s_setCp σ u g (some b)) s g none) i g) (j := s) (by show (s_c2 (s_c2 (s_cp σ) u g (some b)) s g none s g).isSome = false; rw [s_c2_s]; rfl) (by show (s_c2 (s_cp σ) u g (some b) s g).isSome = true; rw [s_c2_n (fun z => hsu z.1), hb]; rfl) (fun i hi => by
      show _ = (s_c2 (s_c2 (s_cp σ) u g (some b)) s g none i g).isSome
      rw [s_c2_n (fun z => hi z.1)]
      rfl) _ hs
    have h3 := h.2 g
    omega
  · rw [cN_congr (P' := fun i => s_has σ i g) (fun i _ => by
      show (s_c2 (s_c2 (s_cp σ) u f (some b)) s f none i g).isSome = _
      rw [s_c2_n (fun z => hg z.2), s_c2_n (fun z => hg z.2)]
      rfl)]
    exact h.2 g
