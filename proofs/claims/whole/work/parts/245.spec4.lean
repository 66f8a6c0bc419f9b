/-! ===== polls in mathematical words ===== -/
def uN (x : Int64) : Nat := x.toUInt64.toNat
theorem uN_lt (x : Int64) : uN x < 18446744073709551616 := x.toUInt64.toNat_lt
theorem uN_inj {x y : Int64} (h : uN x = uN y) : x = y := congrArg UInt64.toInt64 (UInt64.toNat_inj.mp h)
theorem uN_shr (x : Int64) (s : UInt64) : uN (x.toUInt64 >>> s).toInt64 = uN x / 2 ^ (s.toNat % 64) := by
  show (x.toUInt64 >>> s).toNat = _
  rw [UInt64.toNat_shiftRight, Nat.shiftRight_eq_div_pow]
  rfl

theorem uN_lN {n : Nat} (h : n < 18446744073709551616) : uN (lN n) = n := by
  show (Int64.ofNat n).toUInt64.toNat = n
  rw [show (Int64.ofNat n).toUInt64 = UInt64.ofNat n from rfl, UInt64.toNat_ofNat']
  exact Nat.mod_eq_of_lt h
def p_A : Int64 := 6364136223846793005
def p_B : Int64 := 1442695040888963407
/-- the highest 31 bits -/
def p_sh (x : Int64) : Nat := uN x / 2 ^ 33
theorem p_sh_lt (x : Int64) : p_sh x < 2 ^ 31 := by
  have := uN_lt x
  unfold p_sh
  omega
theorem p_sh_eq (x : Int64) : (x.toUInt64 >>> ((33 : Int32).toInt64.toUInt64 &&& Int64.toUInt64 63)).toInt64 = lN (p_sh x) := by
  apply uN_inj
  rw [uN_shr, uN_lN (by have := p_sh_lt x; omega)]
  rfl
def swp (m : Nat → Nat) (a b : Nat) : Nat → Nat := fun c => if c = b then m a else if c = a then m b else m c
def p_st (x : Int64) : Int64 := x * p_A + p_B
def p_ix (y : Int64) (d : Nat) : Nat := p_sh y % d
def p_mixG (st : Int64 → Int64) (jx : Int64 → Nat → Nat) : Nat → (Nat → Nat) → Int64 → (Nat → Nat) × Int64
  | 0, m, x => (m, x)
  | k + 1, m, x => p_mixG st jx k (swp m (k + 1) (jx (st x) (k + 2))) (st x)
theorem mixG_s (st : Int64 → Int64) (jx : Int64 → Nat → Nat) (k : Nat) (m : Nat → Nat) (x : Int64) : p_mixG st jx (k + 1) m x = p_mixG st jx k (swp m (k + 1) (jx (st x) (k + 2))) (st x) := rfl
def p_mix (k : Nat) (m : Nat → Nat) (x : Int64) : (Nat → Nat) × Int64 := p_mixG p_st p_ix k m x
theorem mix_0 (m : Nat → Nat) (x : Int64) : p_mix 0 m x = (m, x) := rfl
theorem mix_s (k : Nat) (m : Nat → Nat) (x : Int64) : p_mix (k + 1) m x = p_mix k (swp m (k + 1) (p_ix (p_st x) (k + 2))) (p_st x) := mixG_s p_st p_ix k m x
theorem p_ix_lt (y : Int64) {d : Nat} (h : 0 < d) : p_ix y d < d := Nat.mod_lt _ h
theorem swp_in {P : Nat → Prop} {n a b : Nat} {m : Nat → Nat} (ha : a < n) (hb : b < n) (h : ∀ c, c < n → P (m c)) : ∀ c, c < n → P (swp m a b c) := by
  intro c hc
  unfold swp
  split
  · exact h _ ha
  · split
    · exact h _ hb
    · exact h c hc
theorem mix_in {P : Nat → Prop} {n : Nat} (k : Nat) : ∀ (m : Nat → Nat) (x : Int64), k < n → (∀ c, c < n → P (m c)) → ∀ c, c < n → P ((p_mix k m x).1 c) := by
  induction k with
  | zero => exact fun m x _ h => h
  | succ k ih =>
    intro m x hk h
    rw [mix_s]
    exact ih _ _ (by omega) (swp_in hk (by have := p_ix_lt (p_st x) (show 0 < k + 2 by omega); omega) h)
def s_clN (σ : S_t) (f n : Nat) : List Nat := (List.range n).filter (s_isC σ f)
theorem clN_t {σ : S_t} {f n : Nat} (h : s_isC σ f n = true) : s_clN σ f (n + 1) = s_clN σ f n ++ [n] := by
  unfold s_clN
  rw [List.range_succ, List.filter_append]
  simp [h]
theorem clN_f {σ : S_t} {f n : Nat} (h : s_isC σ f n = false) : s_clN σ f (n + 1) = s_clN σ f n := by
  unfold s_clN
  rw [List.range_succ, List.filter_append]
  simp [h]
theorem clN_len (σ : S_t) (f : Nat) : ∀ n, (s_clN σ f n).length = cN (s_isC σ f) n
  | 0 => rfl
  | n + 1 => by
    cases h : s_isC σ f n with
    | true => rw [clN_t h, cN_t h, List.length_append, clN_len σ f n]; rfl
    | false => rw [clN_f h, cN_f h, clN_len σ f n]
theorem clN_mem {σ : S_t} {f n c : Nat} (h : c < cN (s_isC σ f) n) : (s_clN σ f n).getD c 0 < n ∧ s_isC σ f ((s_clN σ f n).getD c 0) = true := by
  have hc : c < (s_clN σ f n).length := by rw [clN_len]; exact h
  rw [List.getD_eq_getElem?_getD, List.getElem?_eq_getElem hc]
  have hm : (s_clN σ f n)[c] ∈ s_clN σ f n := List.getElem_mem hc
  obtain ⟨h1, h2⟩ := List.mem_filter.mp hm
  exact ⟨List.mem_range.mp h1, h2⟩
def p_row (σ : S_t) (f : Nat) (m : Nat → Nat) (a : Nat) : Int32 × Int32 × Int32 := (nI f, nI (m a), dgL ((s_cnt σ (m a) f).getD []))
def p_ask (σ : S_t) (f : Nat) (m : Nat → Nat) (c : Nat) : List (Int32 × Int32 × Int32) := (List.range c).map (p_row σ f m)
theorem ask_s (σ : S_t) (f : Nat) (m : Nat → Nat) (c : Nat) : p_ask σ f m (c + 1) = p_ask σ f m c ++ [p_row σ f m c] := by
  unfold p_ask
  rw [List.range_succ, List.map_append]
  rfl
theorem ask_len (σ : S_t) (f : Nat) (m : Nat → Nat) (c : Nat) : (p_ask σ f m c).length = c := by
  unfold p_ask
  rw [List.length_map, List.length_range]
def p_mf (σ : S_t) (f : Nat) (x : Int64) : (Nat → Nat) × Int64 := p_mix (cN (s_isC σ f) (s_nS σ) - 1) (fun c => (s_clN σ f (s_nS σ)).getD c 0) x
def p_n3 (σ : S_t) (f : Nat) : Nat := min (cN (s_isC σ f) (s_nS σ)) 3
def sp_pollN (σ : S_t) (w : Int32) (x : Int64) : Nat → List (Int32 × Int32 × Int32) × Int64
  | 0 => ([], x)
  | n + 1 => if s_pk σ n = w then ((sp_pollN σ w x n).1 ++ p_ask σ n (p_mf σ n (sp_pollN σ w x n).2).1 (p_n3 σ n), (p_mf σ n (sp_pollN σ w x n).2).2) else sp_pollN σ w x n
theorem pollN_t {σ : S_t} {w : Int32} {x : Int64} {n : Nat} (h : s_pk σ n = w) : sp_pollN σ w x (n + 1) = ((sp_pollN σ w x n).1 ++ p_ask σ n (p_mf σ n (sp_pollN σ w x n).2).1 (p_n3 σ n), (p_mf σ n (sp_pollN σ w x n).2).2) := if_pos h
theorem pollN_f {σ : S_t} {w : Int32} {x : Int64} {n : Nat} (h : ¬ s_pk σ n = w) : sp_pollN σ w x (n + 1) = sp_pollN σ w x n := if_neg h
theorem pollN_len (σ : S_t) (w : Int32) (x : Int64) : ∀ n, (sp_pollN σ w x n).1.length ≤ 3 * n
  | 0 => Nat.le_refl _
  | n + 1 => by
    have ih := pollN_len σ w x n
    by_cases h : s_pk σ n = w
    · rw [pollN_t h, List.length_append, ask_len]
      have : p_n3 σ n ≤ 3 := Nat.min_le_right _ _
      omega
    · rw [pollN_f h]
      omega
def sp_poll (σ : S_t) (w : Int32) (x : Int64) : Int32 × S_t := if (ix w 10).isNone then (-2, σ) else (nI (sp_pollN σ w x (s_nF σ)).1.length, s_setAs σ (sp_pollN σ w x (s_nF σ)).1)
theorem mf_in {σ : S_t} {f : Nat} {x : Int64} {c : Nat} (h : c < cN (s_isC σ f) (s_nS σ)) : (p_mf σ f x).1 c < s_nS σ ∧ s_isC σ f ((p_mf σ f x).1 c) = true := by
  refine mix_in (P := fun s => s < s_nS σ ∧ s_isC σ f s = true) (n := cN (s_isC σ f) (s_nS σ)) _ _ _ (by omega) (fun a ha => clN_mem ha) c h
/-- the places for mixing are others -/
theorem RX.setMix {G : h_G} {ad : h_T → Nat} {k k' : h_C} {σ : S_t} (h : RX G ad k σ) {g : Nat → Int32} (hk : k' (4, 0, 0) = some (.inl (G.2 0, 10, .inl g))) (ho : ∀ t : h_T, t ≠ (4, 0, 0) → k' t = k t) : RX G ad k' σ := by
  obtain ⟨g0, g1, g2, g3, g4, g5, g6, g7, ⟨a0, a1, a2, b0, b1, b2, b3⟩, ok⟩ := h
  exact ⟨(ho _ (by simp)).trans g0, (ho _ (by simp)).trans g1, fun i hi => (ho _ (by simp)).trans (g2 i hi), (ho _ (by simp)).trans g3, fun f hf => ⟨(ho _ (by simp)).trans (g4 f hf).1, (ho _ (by simp)).trans (g4 f hf).2⟩, fun a f b hb => (g5 a f b hb).congr (ho _ (by simp)) (ho _ (by simp)) rfl, g6.congr (ho _ (by simp)) (ho _ (by simp)) rfl, ⟨g, hk⟩, ⟨a0, a1, a2, (ho _ (by simp)).trans b0, (ho _ (by simp)).trans b1, (ho _ (by simp)).trans b2, b3⟩, ok⟩
/-- what was asked is another list -/
theorem RX.setAs {G : h_G} {ad : h_T → Nat} {k k' : h_C} {σ : S_t} (h : RX G ad k σ) {as : List (Int32 × Int32 × Int32)} (hl : as.length ≤ 120) (hk0 : k' (0, 0, 0) = some (.inr (3, x_obj ad (s_setAs σ as)))) (hk : x_ask G k' as) (ho : ∀ t : h_T, t ≠ (0, 0, 0) → t.1 ≠ 5 → k' t = k t) : RX G ad k' (s_setAs σ as) := by
  obtain ⟨g0, g1, g2, g3, g4, g5, g6, ⟨g, g7⟩, -, ok1, ok2, ok3, ok4, ok5, ok⟩ := h
  exact ⟨hk0, (ho _ (by simp) (by simp)).trans g1, fun i hi => (ho _ (by simp) (by simp)).trans (g2 i hi), (ho _ (by simp) (by simp)).trans g3, fun f hf => ⟨(ho _ (by simp) (by simp)).trans (g4 f hf).1, (ho _ (by simp) (by simp)).trans (g4 f hf).2⟩, fun a f b hb => (g5 a f b hb).congr (ho _ (by simp) (by simp)) (ho _ (by simp) (by simp)) rfl, g6.congr (ho _ (by simp) (by simp)) (ho _ (by simp) (by simp)) rfl, ⟨g, (ho _ (by simp) (by simp)).trans g7⟩, hk, ok1, ok2, ok3, ok4, hl, ok⟩
