/-! ===== placing a new file's copies ===== -/
def s_ld (σ : S_t) (s : Nat) : Nat := cN (fun f => s_has σ s f) (s_nF σ)
/-- the first store in the order among the first n that answer and aren't in c -/
def s_bst (σ : S_t) (c : Nat → Bool) : Nat → Option Nat
  | 0 => none
  | n + 1 => match s_bst σ c n with
    | none => if !s_si σ n && !c n then some n else none
    | some j => if (!s_si σ n && !c n) && decide (s_ld σ n < s_ld σ j) then some n else some j
theorem bst_lt {σ : S_t} {c : Nat → Bool} : ∀ {n j : Nat}, s_bst σ c n = some j → j < n ∧ s_si σ j = false ∧ c j = false
  | 0, j, h => by cases h
  | n + 1, j, h => by
    unfold s_bst at h
    cases hb : s_bst σ c n with
    | none =>
      rw [hb] at h
      dsimp only at h
      split at h
      · rename_i hc
        cases h
        simp at hc
        exact ⟨Nat.lt_succ_self _, hc.1, hc.2⟩
      · cases h
    | some q =>
      rw [hb] at h
      dsimp only at h
      split at h
      · rename_i hc
        cases h
        simp at hc
        exact ⟨Nat.lt_succ_self _, hc.1.1, hc.1.2⟩
      · cases h
        have := bst_lt hb
        exact ⟨by omega, this.2⟩
theorem bst_skip {σ : S_t} {c : Nat → Bool} {n : Nat} (h : (!s_si σ n && !c n) = false) : s_bst σ c (n + 1) = s_bst σ c n := by
  conv => lhs; unfold s_bst
  rw [h]
  cases s_bst σ c n <;> rfl
theorem bst_new {σ : S_t} {c : Nat → Bool} {n : Nat} (h : (!s_si σ n && !c n) = true) (hb : s_bst σ c n = none) : s_bst σ c (n + 1) = some n := by
  conv => lhs; unfold s_bst
  rw [h, hb]
  rfl
theorem bst_less {σ : S_t} {c : Nat → Bool} {n j : Nat} (h : (!s_si σ n && !c n) = true) (hb : s_bst σ c n = some j) (hl : s_ld σ n < s_ld σ j) : s_bst σ c (n + 1) = some n := by
  conv => lhs; unfold s_bst
  rw [h, hb]
  simp [hl]
theorem bst_keep {σ : S_t} {c : Nat → Bool} {n j : Nat} (hb : s_bst σ c n = some j) (hl : ¬ s_ld σ n < s_ld σ j) : s_bst σ c (n + 1) = some j := by
  conv => lhs; unfold s_bst
  rw [hb]
  simp [hl]
def s_nxt (σ : S_t) (c : Nat → Bool) : Nat → Bool := fun s => c s || decide (s_bst σ c (s_nS σ) = some s)
def s_chN (σ : S_t) : Nat → Nat → Bool
  | 0 => fun _ => false
  | i + 1 => s_nxt σ (s_chN σ i)
theorem chN_lt {σ : S_t} : ∀ {i s : Nat}, s_chN σ i s = true → s < s_nS σ
  | 0, s, h => by cases h
  | i + 1, s, h => by
    have h : (s_chN σ i s || decide (s_bst σ (s_chN σ i) (s_nS σ) = some s)) = true := h
    simp at h
    rcases h with h | h
    · exact chN_lt h
    · exact (bst_lt h).1
def oI (o : Option Nat) : Int32 := match o with
  | none => -1
  | some j => nI j
def oL (σ : S_t) (o : Option Nat) : Int32 := match o with
  | none => 0
  | some j => nI (s_ld σ j)
def s_put (σ : S_t) (x : Int32) : S_t := ((s_cop σ, s_nS σ, s_nF σ + 1), σ.2.1, (upd (s_pk σ) (s_nF σ) x, s_rn σ, fun s f => if f = s_nF σ then (if s_chN σ (s_cop σ) s then some (s_col σ) else none) else s_cp σ s f), ([], s_as σ, s_dg σ))
def sp_put (σ : S_t) (x : Int32) : Int32 × S_t := if (ix x 10).isNone ∨ (s_col σ).length = 0 then (-2, σ) else if cN (fun s => !s_si σ s) (s_nS σ) < s_cop σ then (-3, σ) else if 40 ≤ s_nF σ then (-4, σ) else (nI (s_nF σ), s_put σ x)
/-- a file that is being placed: its copies lie on the stores in c -/
def x_new (G : h_G) (ad : h_T → Nat) (k : h_C) (σ : S_t) (x : Int32) (c : Nat → Bool) : Prop :=
  RX G ad k σ ∧ k (7, s_nF σ, 0) = some (.inr (0, [.int x, .ref (ad (8, s_nF σ, 0)), .int 0])) ∧ k (8, s_nF σ, 0) = some (.inl (G.2 5, 10, x_refs (fun s => if c s then some (ad (9, s, s_nF σ)) else none))) ∧
  (∀ s, c s = true → x_row G ad k (9, s, s_nF σ) (10, s, s_nF σ) (s_col σ)) ∧ ∀ s, c s = true → s < s_nS σ
theorem RX.congr2 {G : h_G} {ad ad' : h_T → Nat} {k k' : h_C} {σ : S_t} (h : RX G ad k σ) (hk : ∀ t : h_T, x_use σ t → k' t = k t ∧ ad' t = ad t) : RX G ad' k' σ := by
  obtain ⟨h0, h1, h2, h3, h4, h5, h6, ⟨g, h7⟩, ⟨g0, g1, g2, h8, h9, h10, h11⟩, h12⟩ := h
  have b := fun (t : h_T) (ht : t ∈ ([(0, 0, 0), (1, 0, 0), (2, 0, 0), (3, 0, 0), (3, 1, 0), (4, 0, 0), (5, 0, 0), (5, 1, 0), (5, 2, 0)] : List h_T)) => hk t (Or.inl ht)
  have e0 := b (0, 0, 0) (by simp)
  have e1 := b (1, 0, 0) (by simp)
  have e2 := b (2, 0, 0) (by simp)
  have e3 := b (3, 0, 0) (by simp)
  have e31 := b (3, 1, 0) (by simp)
  have e4 := b (4, 0, 0) (by simp)
  have e5 := b (5, 0, 0) (by simp)
  have e51 := b (5, 1, 0) (by simp)
  have e52 := b (5, 2, 0) (by simp)
  have eS : ∀ i, i < s_nS σ → k' (6, i, 0) = k (6, i, 0) ∧ ad' (6, i, 0) = ad (6, i, 0) := fun i hi => hk _ (Or.inr (Or.inl ⟨i, hi, rfl⟩))
  have eI : ∀ f, f < s_nF σ → k' (7, f, 0) = k (7, f, 0) ∧ ad' (7, f, 0) = ad (7, f, 0) := fun f hf => hk _ (Or.inr (Or.inr (Or.inl ⟨f, hf, Or.inl rfl⟩)))
  have eR : ∀ f, f < s_nF σ → k' (8, f, 0) = k (8, f, 0) ∧ ad' (8, f, 0) = ad (8, f, 0) := fun f hf => hk _ (Or.inr (Or.inr (Or.inl ⟨f, hf, Or.inr rfl⟩)))
  have e9 : ∀ s f l, s_cp σ s f = some l → (k' (9, s, f) = k (9, s, f) ∧ ad' (9, s, f) = ad (9, s, f)) ∧ (k' (10, s, f) = k (10, s, f) ∧ ad' (10, s, f) = ad (10, s, f)) := fun s f l hl =>
    ⟨hk _ (Or.inr (Or.inr (Or.inr ⟨s, f, by rw [hl]; rfl, Or.inl rfl⟩))), hk _ (Or.inr (Or.inr (Or.inr ⟨s, f, by rw [hl]; rfl, Or.inr rfl⟩)))⟩
  refine ⟨?_, ?_, fun i hi => ?_, ?_, fun f hf => ⟨?_, ?_⟩, fun s f l hl => (h5 s f l hl).congr (e9 s f l hl).1.1 (e9 s f l hl).2.1 (e9 s f l hl).2.2, h6.congr e3.1 e31.1 e31.2, ⟨g, by rw [e4.1, h7]⟩, ⟨g0, g1, g2, by rw [e5.1, h8], by rw [e51.1, h9], by rw [e52.1, h10], h11⟩, h12⟩
  · rw [e0.1, h0]; simp only [x_obj, e1.2, e2.2, e3.2, e4.2, e5.2, e51.2, e52.2]
  · rw [e1.1, h1]
    have : x_sto ad' σ = x_sto ad σ := by
      funext i
      unfold x_sto
      by_cases hi : i < s_nS σ
      · rw [if_pos hi, if_pos hi, (eS i hi).2]
      · rw [if_neg hi, if_neg hi]
    rw [this]
  · exact (eS i hi).1.trans (h2 i hi)
  · rw [e2.1, h3]
    have : x_ite ad' σ = x_ite ad σ := by
      funext i
      unfold x_ite
      by_cases hi : i < s_nF σ
      · rw [if_pos hi, if_pos hi, (eI i hi).2]
      · rw [if_neg hi, if_neg hi]
    rw [this]
  · rw [(eI f hf).1, (h4 f hf).1, (eR f hf).2]
  · rw [(eR f hf).1, (h4 f hf).2]
    have : x_rws ad' σ f = x_rws ad σ f := by
      funext s
      unfold x_rws
      cases hc : s_cp σ s f with
      | none => rfl
      | some l => simp only [Option.map_some, (e9 s f l hc).1.2]
    rw [this]
/-- names of files that aren't there yet aren't used -/
theorem x_use.old {σ : S_t} (hok : s_ok σ) {t : h_T} (h : x_use σ t) : t ≠ (7, s_nF σ, 0) ∧ t ≠ (8, s_nF σ, 0) ∧ ∀ s, t ≠ (9, s, s_nF σ) ∧ t ≠ (10, s, s_nF σ) := by
  rcases h with h | ⟨i, -, rfl⟩ | ⟨f, hf, rfl | rfl⟩ | ⟨s, f, hs, rfl | rfl⟩
  · simp only [List.mem_cons, List.not_mem_nil, or_false] at h
    rcases h with rfl | rfl | rfl | rfl | rfl | rfl | rfl | rfl | rfl <;> exact ⟨by simp, by simp, fun s => ⟨by simp, by simp⟩⟩
  · exact ⟨by simp, by simp, fun s => ⟨by simp, by simp⟩⟩
  · exact ⟨by simp; omega, by simp, fun s => ⟨by simp, by simp⟩⟩
  · exact ⟨by simp, by simp; omega, fun s => ⟨by simp, by simp⟩⟩
  all_goals
    have hf : f < s_nF σ := Nat.lt_of_not_le (fun q => by
      rw [hok.2.2.2.2.2.1 s f (Or.inr q)] at hs
      cases hs)
    exact ⟨by simp, by simp, fun s' => ⟨by simp <;> omega, by simp <;> omega⟩⟩
