/-! ===== the order of the stores by ranks ===== -/
def s_bf (σ : S_t) (k s : Nat) : Bool := decide (s_ld σ k < s_ld σ s) || (decide (s_ld σ k = s_ld σ s) && decide (k < s))
def s_rk (σ : S_t) (s : Nat) : Nat := cN (fun k => !s_si σ k && s_bf σ k s) (s_nS σ)
theorem bf_iff {σ : S_t} {k s : Nat} : s_bf σ k s = true ↔ (s_ld σ k < s_ld σ s ∨ (s_ld σ k = s_ld σ s ∧ k < s)) := by
  unfold s_bf
  simp
theorem cN_strict {P P' : Nat → Bool} (h : ∀ s, P s = true → P' s = true) {j : Nat} (h1 : P j = false) (h2 : P' j = true) : ∀ n, j < n → cN P n < cN P' n
  | 0, hj => absurd hj (Nat.not_lt_zero j)
  | n + 1, hj => by
    have hm : cN P n ≤ cN P' n := by
      clear hj
      induction n with
      | zero => exact Nat.le_refl _
      | succ n ih =>
        cases q : P n with
        | true => rw [cN_t q, cN_t (h n q)]; omega
        | false =>
          rw [cN_f q]
          cases q2 : P' n with
          | true => rw [cN_t q2]; omega
          | false => rw [cN_f q2]; exact ih
    by_cases hjn : j = n
    · subst hjn
      rw [cN_f h1, cN_t h2]
      omega
    · have ih := cN_strict h h1 h2 n (by omega)
      cases q : P n with
      | true => rw [cN_t q, cN_t (h n q)]; omega
      | false =>
        rw [cN_f q]
        cases q2 : P' n with
        | true => rw [cN_t q2]; omega
        | false => rw [cN_f q2]; exact ih
theorem cN_one {P P' : Nat → Bool} {j : Nat} (h1 : P j = false) (h2 : P' j = true) (h : ∀ s, s ≠ j → P' s = P s) : ∀ n, j < n → cN P' n = cN P n + 1
  | 0, hj => absurd hj (Nat.not_lt_zero j)
  | n + 1, hj => by
    by_cases hjn : j = n
    · subst hjn
      rw [cN_f h1, cN_t h2, cN_congr (P := P') (P' := P) (fun i hi => h i (by omega))]
    · have ih := cN_one h1 h2 h n (by omega)
      cases q : P n with
      | true => rw [cN_t q, cN_t ((h n (by omega)).trans q), ih]
      | false => rw [cN_f q, cN_f ((h n (by omega)).trans q), ih]
theorem bst_min {σ : S_t} {c : Nat → Bool} : ∀ {n : Nat}, match s_bst σ c n with
    | none => ∀ k, k < n → s_si σ k = false → c k = true
    | some j => ∀ k, k < n → s_si σ k = false → c k = false → k = j ∨ s_bf σ j k = true
  | 0 => fun k hk => absurd hk (Nat.not_lt_zero k)
  | n + 1 => by
    have ih := bst_min (σ := σ) (c := c) (n := n)
    cases hb : s_bst σ c n with
    | none =>
      rw [hb] at ih
      dsimp only at ih
      cases hc : (!s_si σ n && !c n) with
      | true =>
        rw [bst_new hc hb]
        dsimp only
        intro k hk h1 h2
        by_cases hkn : k = n
        · exact Or.inl hkn
        · exact absurd (ih k (by omega) h1) (by rw [h2]; decide)
      | false =>
        rw [bst_skip hc, hb]
        dsimp only
        intro k hk h1
        by_cases hkn : k = n
        · subst hkn
          rw [h1] at hc
          simpa using hc
        · exact ih k (by omega) h1
    | some j =>
      rw [hb] at ih
      dsimp only at ih
      have hjn := (bst_lt hb).1
      cases hc : (!s_si σ n && !c n) with
      | true =>
        by_cases hl : s_ld σ n < s_ld σ j
        · rw [bst_less hc hb hl]
          dsimp only
          intro k hk h1 h2
          by_cases hkn : k = n
          · exact Or.inl hkn
          · right
            rcases ih k (by omega) h1 h2 with h3 | h3
            · subst h3
              exact bf_iff.mpr (Or.inl hl)
            · rcases bf_iff.mp h3 with h4 | h4
              · exact bf_iff.mpr (Or.inl (by omega))
              · exact bf_iff.mpr (Or.inl (by omega))
        · rw [bst_keep hb hl]
          dsimp only
          intro k hk h1 h2
          by_cases hkn : k = n
          · subst hkn
            right
            apply bf_iff.mpr
            by_cases h5 : s_ld σ j < s_ld σ k
            · exact Or.inl h5
            · exact Or.inr ⟨by omega, hjn⟩
          · exact ih k (by omega) h1 h2
      | false =>
        rw [bst_skip hc, hb]
        dsimp only
        intro k hk h1 h2
        by_cases hkn : k = n
        · subst hkn
          rw [h1, h2] at hc
          cases hc
        · exact ih k (by omega) h1 h2
theorem rk_lt {σ : S_t} {j s : Nat} (hj : j < s_nS σ) (ha : s_si σ j = false) (h : s_bf σ j s = true) : s_rk σ j < s_rk σ s := by
  refine cN_strict (j := j) (fun k hk => ?_) ?_ ?_ _ hj
  · simp only [Bool.and_eq_true] at hk ⊢
    refine ⟨hk.1, bf_iff.mpr ?_⟩
    have h1 := bf_iff.mp hk.2
    have h2 := bf_iff.mp h
    omega
  · cases hq : s_bf σ j j with
    | false => simp
    | true => have := bf_iff.mp hq; omega
  · simp [ha, h]
/-- the stores that are chosen are those of the first ranks -/
theorem chN_rk (σ : S_t) : ∀ i, i ≤ cN (fun s => !s_si σ s) (s_nS σ) → (∀ s, s_chN σ i s = true ↔ (s < s_nS σ ∧ s_si σ s = false ∧ s_rk σ s < i)) ∧ cN (s_chN σ i) (s_nS σ) = i
  | 0, _ => ⟨fun s => ⟨(fun h => by cases h), fun h => absurd h.2.2 (Nat.not_lt_zero _)⟩, cN_none (fun _ _ => rfl)⟩
  | i + 1, hi => by
    obtain ⟨h1, h2⟩ := chN_rk σ i (by omega)
    have hm := bst_min (σ := σ) (c := s_chN σ i) (n := s_nS σ)
    cases hb : s_bst σ (s_chN σ i) (s_nS σ) with
    | none =>
      rw [hb] at hm
      dsimp only at hm
      exfalso
      have h3 : cN (fun s => !s_si σ s) (s_nS σ) ≤ cN (s_chN σ i) (s_nS σ) := by
        have : cN (fun s => !s_si σ s) (s_nS σ) = cN (fun s => s_chN σ i s && !s_si σ s) (s_nS σ) := cN_congr (fun k hk => by
          cases q : s_si σ k with
          | true => simp
          | false => rw [hm k hk q]; rfl)
        rw [this]
        clear hi hb hm h1 h2 this
        generalize s_nS σ = n
        induction n with
        | zero => exact Nat.le_refl _
        | succ n ih =>
          cases q : s_chN σ i n with
          | true =>
            rw [cN_t q]
            cases q2 : (s_chN σ i n && !s_si σ n) with
            | true => rw [cN_t q2]; omega
            | false => rw [cN_f q2]; omega
          | false => rw [cN_f q, cN_f (by rw [q]; rfl)]; exact ih
      omega
    | some j =>
      rw [hb] at hm
      dsimp only at hm
      obtain ⟨hj, hja, hjc⟩ := bst_lt hb
      have hch : ∀ s, s_chN σ (i + 1) s = (s_chN σ i s || decide (s = j)) := fun s => by
        show (s_chN σ i s || decide (s_bst σ (s_chN σ i) (s_nS σ) = some s)) = _
        rw [hb]
        congr 1
        by_cases q : s = j
        · subst q; simp
        · simp [q, Ne.symm q]
      have hcnt : cN (s_chN σ (i + 1)) (s_nS σ) = i + 1 := by
        rw [cN_one (P := s_chN σ i) hjc (by rw [hch]; simp) (fun s hs => by rw [hch]; simp [hs]) _ hj, h2]
      have hrj : s_rk σ j = i := by
        have : s_rk σ j = cN (s_chN σ i) (s_nS σ) := by
          apply cN_congr
          intro k hk
          cases q : s_chN σ i k with
          | true =>
            obtain ⟨-, q1, q2⟩ := (h1 k).mp q
            have hnr : ¬ s_rk σ j < i := fun z => by rw [(h1 j).mpr ⟨hj, hja, z⟩] at hjc; cases hjc
            rw [q1]
            cases z : s_bf σ k j with
            | true => rfl
            | false =>
              exfalso
              have z1 : ¬ (s_ld σ k < s_ld σ j ∨ (s_ld σ k = s_ld σ j ∧ k < j)) := fun y => by rw [bf_iff.mpr y] at z; cases z
              by_cases hkj : k = j
              · subst hkj
                exact hnr q2
              · have := rk_lt (s := k) hj hja (bf_iff.mpr (by omega))
                omega
          | false =>
            cases q1 : s_si σ k with
            | true => rfl
            | false =>
              cases z : s_bf σ k j with
              | false => rfl
              | true =>
                exfalso
                have z1 := bf_iff.mp z
                rcases hm k hk q1 q with y | y
                · subst y; omega
                · have := bf_iff.mp y; omega
        rw [this, h2]
      refine ⟨fun s => ?_, hcnt⟩
      rw [hch]
      constructor
      · intro h
        simp only [Bool.or_eq_true, decide_eq_true_eq] at h
        rcases h with h | h
        · obtain ⟨a, b, d⟩ := (h1 s).mp h
          exact ⟨a, b, by omega⟩
        · subst h
          exact ⟨hj, hja, by omega⟩
      · rintro ⟨a, b, d⟩
        cases q : s_chN σ i s with
        | true => rfl
        | false =>
          have hnr : ¬ s_rk σ s < i := fun z => by rw [(h1 s).mpr ⟨a, b, z⟩] at q; cases q
          rcases hm s a b q with y | y
          · simp [y]
          · exfalso
            have := rk_lt hj hja y
            omega
