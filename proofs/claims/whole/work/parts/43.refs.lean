/-! ===== the reference's arrays of sizes and bytes, changed at one copy ===== -/
theorem t_ne20 {t : h_T} {a b : Nat} (h : t.1 ≠ 20) : t ≠ (20, a, b) := fun e => h (by rw [e])
theorem byte_low (x : Int32) : (x &&& 255).toInt8 = x.toInt8 := by
  rw [Int32.toInt8_and]
  show x.toInt8 &&& (-1) = _
  exact Int8.and_neg_one
theorem byte_mask (x : Int32) : x.toInt8.toInt32 &&& 255 = x &&& 255 := by
  obtain ⟨j, hj, e⟩ := pk_andE x (m := 255) 8 (by decide)
  rw [← byte_low x, e]
  exact sc_k8 j hj
theorem byte_2 (x : Int32) : x.toInt8.toInt32.toInt8.toInt32 = x.toInt8.toInt32 := by rw [Int8.toInt8_toInt32]
theorem byte_nar (x : Int32) : vp_nar .byte x &&& 255 = x &&& 255 := byte_mask x
def m_zo (v : Option (List Int32)) : Int32 := match v with
  | none => -1
  | some l => nI l.length
theorem msz_o (σ : S_t) (s f : Nat) : m_sz σ s f = m_zo (s_cp σ s f) := by
  unfold m_sz m_zo
  cases s_cp σ s f <;> rfl
theorem mz_set {σ : S_t} {gZ : Nat → Int32} (vZ : ∀ s f, s < 10 → f < 40 → gZ (40 * s + f) = m_sz σ s f) {s f : Nat} (hs : s < 10) (hf : f < 40) (v : Option (List Int32)) : ∀ a b, a < 10 → b < 40 → upd gZ (40 * s + f) (m_zo v) (40 * a + b) = m_sz (s_setCp σ s f v) a b := by
  intro a b ha hb
  rw [msz_o]
  show _ = m_zo (s_c2 (s_cp σ) s f v a b)
  by_cases h : a = s ∧ b = f
  · obtain ⟨rfl, rfl⟩ := h
    rw [pk_us, s_c2_s]
  · rw [pk_un (by omega), s_c2_n h, vZ a b ha hb, msz_o]
/-- bytes that are no copy's but this one's may be written -/
theorem mb_set {σ : S_t} {gB gB' : Nat → Int32} (vB : ∀ s f l, s_cp σ s f = some l → ∀ i, i < l.length → gB (16 * (40 * s + f) + i) &&& 255 = l.getD i 0) (hok : s_ok σ) {s f : Nat} (hf : f < 40) {v : Option (List Int32)} (ho : ∀ n, ¬ (16 * (40 * s + f) ≤ n ∧ n < 16 * (40 * s + f) + 16) → gB' n = gB n) (hv : ∀ l, v = some l → ∀ i, i < l.length → gB' (16 * (40 * s + f) + i) &&& 255 = l.getD i 0) :
    ∀ a b l, s_cp (s_setCp σ s f v) a b = some l → ∀ i, i < l.length → gB' (16 * (40 * a + b) + i) &&& 255 = l.getD i 0 := by
  intro a b l hl i hi
  have hl : s_c2 (s_cp σ) s f v a b = some l := hl
  by_cases h : a = s ∧ b = f
  · obtain ⟨rfl, rfl⟩ := h
    rw [s_c2_s] at hl
    exact hv l hl i hi
  · rw [s_c2_n h] at hl
    have h16 := hok.2.2.2.2.2.2.1 _ _ _ hl
    have hb : b < 40 := by
      have h1 := hok.2.2.1
      have h2 : b < s_nF σ := Nat.lt_of_not_le (fun q => by
        rw [hok.2.2.2.2.2.1 a b (Or.inr q)] at hl
        cases hl)
      omega
    rw [ho _ (by omega)]
    exact vB a b l hl i hi
theorem ok_setCp {σ : S_t} (hok : s_ok σ) {s f : Nat} {v : Option (List Int32)} (hs : s < s_nS σ) (hf : f < s_nF σ) (hv : ∀ l, v = some l → l.length ≤ 16) : s_ok (s_setCp σ s f v) := by
  obtain ⟨o1, o2, o3, o4, o5, o6, o7, o8, o9⟩ := hok
  refine ⟨o1, o2, o3, o4, o5, fun a b h => ?_, fun a b l h => ?_, o8, o9⟩
  · show s_c2 (s_cp σ) s f v a b = none
    have h : s_nS σ ≤ a ∨ s_nF σ ≤ b := h
    rw [s_c2_n (by omega)]
    exact o6 a b h
  · have h : s_c2 (s_cp σ) s f v a b = some l := h
    by_cases q : a = s ∧ b = f
    · obtain ⟨rfl, rfl⟩ := q
      rw [s_c2_s] at h
      exact hv l h
    · rw [s_c2_n q] at h
      exact o7 a b l h
/-- what the reference says of a throw -/
def o_th {α : Type} (o : Option α) : Int32 := bI o.isNone
