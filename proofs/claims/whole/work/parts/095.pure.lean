/-! ===== counting, the first that fits, digests ===== -/
def cN (P : Nat → Bool) : Nat → Nat
  | 0 => 0
  | n + 1 => cN P n + (if P n then 1 else 0)
theorem cN_t {P : Nat → Bool} {n : Nat} (h : P n = true) : cN P (n + 1) = cN P n + 1 := by simp [cN, h]
theorem cN_f {P : Nat → Bool} {n : Nat} (h : P n = false) : cN P (n + 1) = cN P n := by simp [cN, h]
theorem cN_le (P : Nat → Bool) : ∀ n, cN P n ≤ n
  | 0 => Nat.le_refl _
  | n + 1 => by
    have := cN_le P n
    unfold cN
    split <;> omega
theorem cN_congr {P P' : Nat → Bool} : ∀ {n : Nat}, (∀ i, i < n → P i = P' i) → cN P n = cN P' n
  | 0, _ => rfl
  | n + 1, h => by
    unfold cN
    rw [cN_congr (fun i hi => h i (by omega)), h n (by omega)]
theorem cN_none {P : Nat → Bool} : ∀ {n : Nat}, (∀ i, i < n → P i = false) → cN P n = 0
  | 0, _ => rfl
  | n + 1, h => by rw [cN_f (h n (by omega)), cN_none (fun i hi => h i (by omega))]
theorem cN_more {P : Nat → Bool} {n : Nat} : ∀ {d : Nat}, (∀ i, n ≤ i → i < n + d → P i = false) → cN P (n + d) = cN P n
  | 0, _ => rfl
  | d + 1, h => by
    show cN P ((n + d) + 1) = _
    rw [cN_f (h (n + d) (by omega) (by omega)), cN_more (fun i h1 h2 => h i h1 (by omega))]
def ff (P : Nat → Bool) : Nat → Option Nat
  | 0 => none
  | n + 1 => match ff P n with
    | some j => some j
    | none => if P n then some n else none
theorem ff_miss {P : Nat → Bool} : ∀ {n : Nat}, (∀ i, i < n → P i = false) → ff P n = none
  | 0, _ => rfl
  | n + 1, h => by
    unfold ff
    rw [ff_miss (fun i hi => h i (by omega))]
    simp [h n (by omega)]
theorem ff_hit {P : Nat → Bool} {j : Nat} (h : ∀ i, i < j → P i = false) (hj : P j = true) : ∀ {n : Nat}, j < n → ff P n = some j
  | 0, hn => absurd hn (Nat.not_lt_zero _)
  | n + 1, hn => by
    unfold ff
    by_cases hjn : j = n
    · subst hjn
      rw [ff_miss h]
      simp [hj]
    · rw [ff_hit h hj (n := n) (by omega)]
theorem ff_spec {P : Nat → Bool} : ∀ {n j : Nat}, ff P n = some j → j < n ∧ P j = true ∧ ∀ i, i < j → P i = false
  | 0, j, h => by cases h
  | n + 1, j, h => by
    unfold ff at h
    cases hf : ff P n with
    | some i =>
      rw [hf] at h
      cases h
      obtain ⟨h1, h2, h3⟩ := ff_spec hf
      exact ⟨by omega, h2, h3⟩
    | none =>
      rw [hf] at h
      dsimp only at h
      split at h
      · rename_i hP
        cases h
        refine ⟨Nat.lt_succ_self _, hP, fun i hi => ?_⟩
        cases hi' : P i with
        | false => rfl
        | true =>
          exfalso
          obtain ⟨k, hk1, hk2⟩ := pk_least (fun k => P k = true) ⟨i, hi'⟩
          have hki : k ≤ i := Nat.le_of_not_lt (fun q => hk2 i q hi')
          have := ff_hit (P := P) (j := k) (fun a ha => by cases hz : P a with
            | false => rfl
            | true => exact absurd hz (hk2 a ha)) hk1 (n := n) (by omega)
          rw [hf] at this
          cases this
      · cases h
theorem ff_none {P : Nat → Bool} {n : Nat} (h : ff P n = none) : ∀ i, i < n → P i = false := by
  intro i hi
  cases hi' : P i with
  | false => rfl
  | true =>
    exfalso
    obtain ⟨k, hk1, hk2⟩ := pk_least (fun k => P k = true) ⟨i, hi'⟩
    have hki : k ≤ i := Nat.le_of_not_lt (fun q => hk2 i q hi')
    have := ff_hit (P := P) (j := k) (fun a ha => by cases hz : P a with
      | false => rfl
      | true => exact absurd hz (hk2 a ha)) hk1 (n := n) (by omega)
    rw [h] at this
    cases this
theorem ff_congr {P P' : Nat → Bool} : ∀ {n : Nat}, (∀ i, i < n → P i = P' i) → ff P n = ff P' n
  | 0, _ => rfl
  | n + 1, h => by
    unfold ff
    rw [ff_congr (fun i hi => h i (by omega)), h n (by omega)]
/-- the digest of the first n bytes, before the end -/
def dgP (l : List Int32) : Nat → Int32
  | 0 => 7
  | n + 1 => 31 * dgP l n + l.getD n 0
def dgL (l : List Int32) : Int32 := dgP l l.length ^^^ nI l.length
/-- the copy of file f on store s if it counts -/
def s_cnt (σ : S_t) (s f : Nat) : Option (List Int32) := if s_si σ s then none else s_cp σ s f
def s_isC (σ : S_t) (f : Nat) : Nat → Bool := fun s => (s_cnt σ s f).isSome
def s_isD (σ : S_t) (f : Nat) (d : Int32) : Nat → Bool := fun s => match s_cnt σ s f with
  | some l => decide (dgL l = d)
  | none => false
def s_maj (σ : S_t) (f : Nat) : Nat → Bool := fun s => match s_cnt σ s f with
  | some l => decide (cN (s_isC σ f) (s_nS σ) < 2 * cN (s_isD σ f (dgL l)) (s_nS σ))
  | none => false
def s_lead (σ : S_t) (f : Nat) : Option Nat := ff (s_maj σ f) (s_nS σ)
def s_has (σ : S_t) (s f : Nat) : Bool := (s_cp σ s f).isSome
theorem bI_t : bI true = 1 := rfl
theorem bI_f : bI false = 0 := rfl
theorem s_lead_spec {σ : S_t} {f s : Nat} (h : s_lead σ f = some s) : s < s_nS σ ∧ ∃ l, s_cnt σ s f = some l := by
  obtain ⟨h1, h2, -⟩ := ff_spec h
  refine ⟨h1, ?_⟩
  unfold s_maj at h2
  cases hc : s_cnt σ s f with
  | none => rw [hc] at h2; cases h2
  | some l => exact ⟨l, rfl⟩
theorem s_cnt_cp {σ : S_t} {s f : Nat} {l : List Int32} (h : s_cnt σ s f = some l) : s_cp σ s f = some l ∧ s_si σ s = false := by
  unfold s_cnt at h
  split at h
  · cases h
  · rename_i hs
    exact ⟨h, by simpa using hs⟩
