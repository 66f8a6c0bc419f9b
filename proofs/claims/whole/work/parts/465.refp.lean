/-! ===== the reference's own steps of mending ===== -/
theorem upd_2 {g : Nat → Int32} {f : Nat} {v w : Int32} : upd (upd g f v) f w = upd g f w := by
  funext a
  by_cases h : a = f
  · rw [h, pk_us, pk_us]
  · rw [pk_un h, pk_un h, pk_un h]
theorem upd_id {g : Nat → Int32} {f : Nat} : upd g f (g f) = g := by
  funext a
  by_cases h : a = f
  · rw [h, pk_us]
  · rw [pk_un h]
def s_mndR (τ : S_t) (f : Nat) (b : List Int32) (i : Nat) : S_t := s_setRn (s_mendN τ f b i) f (s_rn τ f + nI (cN (s_oth τ f (dgL b)) i))
theorem mndR_0 (τ : S_t) (f : Nat) (b : List Int32) : s_mndR τ f b 0 = τ := by
  unfold s_mndR
  rw [mendN_0]
  refine s_ext rfl rfl rfl ?_ (fun _ _ => rfl) rfl
  show upd (s_rn τ) f (s_rn τ f + nI 0) = s_rn τ
  rw [show s_rn τ f + nI 0 = s_rn τ f from Int32.add_zero _, upd_id]
theorem mndR_f {τ : S_t} {f : Nat} {b : List Int32} {i : Nat} (h : s_oth τ f (dgL b) i = false) : s_mndR τ f b (i + 1) = s_mndR τ f b i := by
  unfold s_mndR
  rw [mendN_f h, cN_f h]
theorem mndR_t {τ : S_t} {f : Nat} {b : List Int32} {i : Nat} (h : s_oth τ f (dgL b) i = true) : s_setRn (s_setCp (s_mndR τ f b i) i f (some b)) f (s_rn (s_mndR τ f b i) f + 1) = s_mndR τ f b (i + 1) := by
  have e : s_mndR τ f b (i + 1) = s_setRn (s_setCp (s_mendN τ f b i) i f (some b)) f (s_rn τ f + nI (cN (s_oth τ f (dgL b)) i + 1)) := by
    unfold s_mndR
    rw [mendN_t h, cN_t h]
  rw [e]
  refine s_ext rfl rfl rfl ?_ (fun _ _ => rfl) rfl
  show upd (upd (s_rn τ) f (s_rn τ f + nI (cN (s_oth τ f (dgL b)) i))) f (upd (s_rn τ) f (s_rn τ f + nI (cN (s_oth τ f (dgL b)) i)) f + 1) = upd (s_rn τ) f (s_rn τ f + nI (cN (s_oth τ f (dgL b)) i + 1))
  rw [upd_2, pk_us, Int32.add_assoc, nI_1]
theorem mndR_cnt (τ : S_t) (f : Nat) (b : List Int32) (i : Nat) : s_cnt (s_mndR τ f b i) i f = s_cnt τ i f := mendN_cnt τ f b i
theorem mndR_lead {τ : S_t} {f q : Nat} {b : List Int32} (h : s_cnt τ q f = some b) (i : Nat) : s_cp (s_mndR τ f b i) q f = some b := mendN_lead h i
theorem lrow_n {τ : S_t} {f : Nat} (h : s_lead τ f = none) : s_lrow τ f = none := by unfold s_lrow; rw [h]; rfl
theorem lrow_s {τ : S_t} {f q : Nat} {b : List Int32} (h : s_lead τ f = some q) (hb : s_cnt τ q f = some b) : s_lrow τ f = some b := by unfold s_lrow; rw [h]; exact hb
theorem mendF_n {τ : S_t} {f : Nat} (h : s_lead τ f = none) : s_mendF τ f = (0, τ) := by unfold s_mendF; rw [lrow_n h]
theorem mendF_s {τ : S_t} {f q : Nat} {b : List Int32} (h : s_lead τ f = some q) (hb : s_cnt τ q f = some b) : s_mendF τ f = (nI (cN (s_oth τ f (dgL b)) (s_nS τ)), s_mndR τ f b (s_nS τ)) := by unfold s_mendF; rw [lrow_s h hb]; rfl
theorem oth_n {τ : S_t} {f a : Nat} {d : Int32} (h : s_cnt τ a f = none) : s_oth τ f d a = false := by unfold s_oth; rw [h]
theorem oth_d {τ : S_t} {f a : Nat} {d : Int32} {b : List Int32} (h : s_cnt τ a f = some b) (hd : ¬ dgL b = d) : s_oth τ f d a = true := by unfold s_oth; rw [h]; exact decide_eq_true hd
theorem oth_e {τ : S_t} {f a : Nat} {d : Int32} {b : List Int32} (h : s_cnt τ a f = some b) (hd : dgL b = d) : s_oth τ f d a = false := by unfold s_oth; rw [h]; exact decide_eq_false (fun z => z hd)
theorem ok_setRn {σ : S_t} (hok : s_ok σ) {f : Nat} (hf : f < s_nF σ) (v : Int32) : s_ok (s_setRn σ f v) := by
  obtain ⟨o1, o2, o3, o4, o5, o6, o7, o8, o9⟩ := hok
  refine ⟨o1, o2, o3, o4, o5, o6, o7, o8, fun a h => ?_⟩
  have h : s_nF σ ≤ a := h
  show upd (s_rn σ) f v a = 0
  rw [pk_un (by omega)]
  exact o9 a h
/-- one more renewal of a file -/
theorem RM.rn {G : h_G} {ad : h_T → Nat} {k k' : h_C} {σ : S_t} {th : Int32} (h : RM G ad k σ th) {f : Nat} (hf : f < s_nF σ) {v : Int32} {g : Nat → Int32} (hg : ∀ a, a < 40 → g a = upd (s_rn σ) f v a) (hk : k' (20, 11, 0) = some (.inl (G.2 0, 40, .inl g))) (ho : ∀ t : h_T, t ≠ (20, 11, 0) → k' t = k t) : RM G ad k' (s_setRn σ f v) th := by
  obtain ⟨h0, ⟨gP, eP, vP⟩, ⟨gS, eS, vS⟩, ⟨gU, eU, vU⟩, ⟨gD, eD, vD⟩, ⟨gA, eA, vA⟩, ⟨gK, eK, vK⟩, ⟨gN, eN, vN⟩, ⟨gZ, eZ, vZ⟩, ⟨gB, eB, vB⟩, ⟨g0, g1, g2, e15, e16, e17, v3⟩, ⟨gM, eM⟩, ok⟩ := h
  exact ⟨(ho _ (by simp)).trans h0, ⟨gP, (ho _ (by simp)).trans eP, vP⟩, ⟨gS, (ho _ (by simp)).trans eS, vS⟩, ⟨gU, (ho _ (by simp)).trans eU, vU⟩, ⟨gD, (ho _ (by simp)).trans eD, vD⟩, ⟨gA, (ho _ (by simp)).trans eA, vA⟩, ⟨gK, (ho _ (by simp)).trans eK, vK⟩, ⟨g, hk, hg⟩, ⟨gZ, (ho _ (by simp)).trans eZ, vZ⟩, ⟨gB, (ho _ (by simp)).trans eB, vB⟩, ⟨g0, g1, g2, (ho _ (by simp)).trans e15, (ho _ (by simp)).trans e16, (ho _ (by simp)).trans e17, v3⟩, ⟨gM, (ho _ (by simp)).trans eM⟩, ok_setRn ok hf v⟩
/-- a copy's size and bytes are others -/
theorem RM.cp {G : h_G} {ad : h_T → Nat} {k k' : h_C} {σ : S_t} {th : Int32} (h : RM G ad k σ th) {s f : Nat} (hs : s < s_nS σ) (hf : f < s_nF σ) {v : Option (List Int32)} (hv : ∀ l, v = some l → l.length ≤ 16) {gZ gB gZ' gB' : Nat → Int32} (eZ : k (20, 12, 0) = some (.inl (G.2 0, 400, .inl gZ))) (eB : k (20, 13, 0) = some (.inl (G.2 3, 6400, .inl gB))) (hz : gZ' = upd gZ (40 * s + f) (m_zo v)) (hk1 : k' (20, 12, 0) = some (.inl (G.2 0, 400, .inl gZ'))) (hk2 : k' (20, 13, 0) = some (.inl (G.2 3, 6400, .inl gB')))
    (hb1 : ∀ n, ¬ (16 * (40 * s + f) ≤ n ∧ n < 16 * (40 * s + f) + 16) → gB' n = gB n) (hb2 : ∀ l, v = some l → ∀ i, i < l.length → gB' (16 * (40 * s + f) + i) &&& 255 = l.getD i 0) (ho : ∀ t : h_T, t ≠ (20, 12, 0) → t ≠ (20, 13, 0) → k' t = k t) : RM G ad k' (s_setCp σ s f v) th := by
  obtain ⟨h0, ⟨gP, eP, vP⟩, ⟨gS, eS, vS⟩, ⟨gU, eU, vU⟩, ⟨gD, eD, vD⟩, ⟨gA, eA, vA⟩, ⟨gK, eK, vK⟩, ⟨gN, eN, vN⟩, ⟨gz, eZ', vZ⟩, ⟨gb, eB', vB⟩, ⟨g0, g1, g2, e15, e16, e17, v3⟩, ⟨gM, eM⟩, ok⟩ := h
  have hs10 : s_nS σ ≤ 10 := ok.2.1
  have hf40 : s_nF σ ≤ 40 := ok.2.2.1
  rw [eZ'] at eZ
  rw [eB'] at eB
  simp only [Option.some.injEq, Sum.inl.injEq, Prod.mk.injEq, true_and] at eZ eB
  subst eZ
  subst eB
  have q : ∀ j, j ≠ 12 → j ≠ 13 → k' (20, j, 0) = k (20, j, 0) := fun j h1 h2 => ho _ (by simp [h1]) (by simp [h2])
  exact ⟨(q _ (by decide) (by decide)).trans h0, ⟨gP, (q _ (by decide) (by decide)).trans eP, vP⟩, ⟨gS, (q _ (by decide) (by decide)).trans eS, vS⟩, ⟨gU, (q _ (by decide) (by decide)).trans eU, vU⟩, ⟨gD, (q _ (by decide) (by decide)).trans eD, vD⟩, ⟨gA, (q _ (by decide) (by decide)).trans eA, vA⟩, ⟨gK, (q _ (by decide) (by decide)).trans eK, vK⟩, ⟨gN, (q _ (by decide) (by decide)).trans eN, vN⟩, ⟨gZ', hk1, by rw [hz]; exact mz_set vZ (by omega) (by omega) v⟩, ⟨gB', hk2, mb_set vB ok (by omega) hb1 hb2⟩, ⟨g0, g1, g2, (q _ (by decide) (by decide)).trans e15, (q _ (by decide) (by decide)).trans e16, (q _ (by decide) (by decide)).trans e17, v3⟩, ⟨gM, (q _ (by decide) (by decide)).trans eM⟩, ok_setCp ok hs hf hv⟩
