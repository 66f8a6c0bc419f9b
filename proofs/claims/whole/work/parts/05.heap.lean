/-! ===== BEGIN words of one list among another's, by their places ===== -/
theorem goodIn_r {big : List Cond} (ws : List Cond) (ps : List Nat) (hp : ws = ps.filterMap (fun i => big[i]?)) (h : ws.all goodWord = true) : GoodIn big ws := by
  intro w hw
  have h1 := List.all_eq_true.mp h w hw
  rw [hp] at hw
  obtain ⟨i, -, hi⟩ := List.mem_filterMap.mp hw
  have hm : w ∈ big := by first | exact List.mem_of_getElem? hi | exact List.getElem?_mem hi
  exact ⟨hm, good_of_word h1⟩
theorem goodIn_app {big a b : List Cond} (ha : GoodIn big a) (hb : GoodIn big b) : GoodIn big (a ++ b) := fun w h => (List.mem_append.mp h).elim (ha w) (hb w)
theorem goodIn_ca {big a b : List Cond} {c : Cond} (ha : GoodIn big (c :: a)) (hb : GoodIn big b) : GoodIn big (c :: (a ++ b)) := fun w h => (List.mem_cons.mp h).elim (fun e => ha w (List.mem_cons.mpr (Or.inl e))) (fun h => (List.mem_append.mp h).elim (fun h => ha w (List.mem_cons.mpr (Or.inr h))) (hb w))
theorem goodIn_sub {big ws : List Cond} (hm : ∀ w ∈ ws, w ∈ big) (h : ws.all goodWord = true) : GoodIn big ws := fun w hw => ⟨hm w hw, good_of_word (List.all_eq_true.mp h w hw)⟩
/-! ===== END ===== -/
/-! ===== the heap as a map of cells: addresses to what lies there ===== -/
abbrev h_M : Type := Nat → Option va_E
def h_up (M : h_M) (a : Nat) (e : va_E) : h_M := fun q => if q = a then some e else M q
theorem h_us (M : h_M) (a : Nat) (e : va_E) : h_up M a e a = some e := if_pos rfl
theorem h_un (M : h_M) {a q : Nat} (e : va_E) (h : q ≠ a) : h_up M a e q = M q := if_neg h
def h_P (D : va_G) (cl : List vw_C) (M : h_M) (H : Heap) : Prop := ∀ (a : Nat) (e : va_E), M a = some e → va_at D cl (a, e) H
/-- the map's cells below n as a list -/
def h_l (M : h_M) (n : Nat) : va_W := (List.range n).filterMap (fun a => (M a).map (fun e => (a, e)))
theorem h_l_mem {M : h_M} {n a : Nat} {e : va_E} : (a, e) ∈ h_l M n ↔ a < n ∧ M a = some e := by
  unfold h_l
  rw [List.mem_filterMap]
  constructor
  · rintro ⟨b, hb, h⟩
    cases hM : M b with
    | none => rw [hM] at h; cases h
    | some x =>
      rw [hM] at h
      cases h
      exact ⟨List.mem_range.mp hb, hM⟩
  · rintro ⟨h1, h2⟩
    exact ⟨a, List.mem_range.mpr h1, by rw [h2]; rfl⟩
theorem h_l_at {M : h_M} {n a : Nat} {e : va_E} (h : M a = some e) (hn : a < n) : ∃ k : Nat, (h_l M n)[k]? = some (a, e) := List.getElem?_of_mem (h_l_mem.mpr ⟨hn, h⟩)
theorem h_l_nd (M : h_M) (n : Nat) : (h_l M n).Pairwise (fun x y => x.1 ≠ y.1) := by
  unfold h_l
  rw [List.pairwise_filterMap]
  refine List.Pairwise.imp ?_ List.nodup_range
  intro a b hab x hx y hy
  cases hA : M a with
  | none => rw [hA] at hx; cases hx
  | some u =>
    cases hB : M b with
    | none => rw [hB] at hy; cases hy
    | some v =>
      rw [hA] at hx
      rw [hB] at hy
      cases hx
      cases hy
      exact hab
theorem h_l_inj {M : h_M} {n i j : Nat} {x y : Nat × va_E} (hx : (h_l M n)[i]? = some x) (hy : (h_l M n)[j]? = some y) (h : x.1 = y.1) : i = j := by
  have hp := h_l_nd M n
  rw [List.pairwise_iff_getElem] at hp
  obtain ⟨hi, ei⟩ := List.getElem?_eq_some_iff.mp hx
  obtain ⟨hj, ej⟩ := List.getElem?_eq_some_iff.mp hy
  rcases Nat.lt_trichotomy i j with q | q | q
  · exact absurd (by rw [ei, ej]; exact h) (hp i j hi hj q)
  · exact q
  · exact absurd (by rw [ei, ej]; exact h.symm) (hp j i hj hi q)
theorem h_P.lt {D : va_G} {cl : List vw_C} {M : h_M} {H : Heap} (h : h_P D cl M H) {a : Nat} {e : va_E} (he : M a = some e) : a < H.size := (h a e he).lt
theorem h_P.ws {D : va_G} {cl : List vw_C} {M : h_M} {H : Heap} (h : h_P D cl M H) (n : Nat) : va_P D cl (h_l M n) H := fun k q hk => h q.1 q.2 (h_l_mem.mp (List.mem_of_getElem? hk)).2
theorem h_P.kept {D : va_G} {cl : List vw_C} {M : h_M} {H H1 : Heap} (h : h_P D cl M H) (hq : ∀ (a : Nat) (e : va_E), M a = some e → H1[a]? = H[a]?) : h_P D cl M H1 := fun a e he => (h a e he).kept (hq a e he)
/-- what a method's walk has in hand: the cells, what it may change, what has stayed -/
def h_V (D : va_G) (cl : List vw_C) (A : Nat → Prop) (H0 : Heap) (M : h_M) (H : Heap) (locs : List Loc) : Prop := h_P D cl M H ∧ (∀ a : Nat, M a ≠ none → A a) ∧ (∀ q : Nat, H0.size ≤ q → A q) ∧ va_S A H0 H locs
theorem h_V.D {D : va_G} {cl : List vw_C} {A : Nat → Prop} {H0 : Heap} {M : h_M} {H : Heap} {locs : List Loc} (h : h_V D cl A H0 M H locs) (n : Nat) : va_D A (h_l M n) :=
  ⟨fun _ _ _ _ hp hq he => h_l_inj hp hq he, fun k q hk => h.2.1 q.1 (by rw [(h_l_mem.mp (List.mem_of_getElem? hk)).2]; exact fun z => by cases z)⟩
theorem h_V.S {D : va_G} {cl : List vw_C} {A : Nat → Prop} {H0 : Heap} {M : h_M} {H : Heap} {locs : List Loc} (h : h_V D cl A H0 M H locs) : va_S A H0 H locs := h.2.2.2
theorem h_V.set {D : va_G} {cl : List vw_C} {A : Nat → Prop} {H0 : Heap} {M : h_M} {H H1 : Heap} {locs locs1 : List Loc} (h : h_V D cl A H0 M H locs) {k a : Nat} {e0 e : va_E} (hk : (h_l M H.size)[k]? = some (a, e0)) (hP : va_P D cl ((h_l M H.size).set k (a, e)) H1) (hS : va_S A H0 H1 locs1) : h_V D cl A H0 (h_up M a e) H1 locs1 := by
  have hlt : k < (h_l M H.size).length := (List.getElem?_eq_some_iff.mp hk).1
  refine ⟨fun b eb hb => ?_, fun b hb => ?_, h.2.2.1, hS⟩
  · by_cases hba : b = a
    · subst hba
      rw [h_us] at hb
      cases hb
      exact hP k _ (by rw [List.getElem?_set_self hlt])
    · rw [h_un M e hba] at hb
      obtain ⟨j, hj⟩ := h_l_at hb (h.1.lt hb)
      exact hP j _ (by
        rw [List.getElem?_set_ne]
        · exact hj
        · intro hjk
          subst hjk
          rw [hk] at hj
          cases hj
          exact hba rfl)
  · by_cases hba : b = a
    · subst hba
      exact h.2.1 b (by rw [(h_l_mem.mp (List.mem_of_getElem? hk)).2]; exact fun z => by cases z)
    · rw [h_un M e hba] at hb
      exact h.2.1 b hb
theorem h_V.push {D : va_G} {cl : List vw_C} {A : Nat → Prop} {H0 : Heap} {M : h_M} {H H1 : Heap} {locs locs1 : List Loc} (h : h_V D cl A H0 M H locs) {q : Nat} {e : va_E} (hP : va_P D cl (h_l M H.size ++ [(q, e)]) H1) (hD : va_D A (h_l M H.size ++ [(q, e)])) (hS : va_S A H0 H1 locs1) : h_V D cl A H0 (h_up M q e) H1 locs1 ∧ M q = none := by
  have hlast : (h_l M H.size ++ [(q, e)])[(h_l M H.size).length]? = some (q, e) := by simp
  refine ⟨⟨fun b eb hb => ?_, fun b hb => ?_, h.2.2.1, hS⟩, ?_⟩
  · by_cases hba : b = q
    · subst hba
      rw [h_us] at hb
      cases hb
      exact hP _ _ hlast
    · rw [h_un M e hba] at hb
      obtain ⟨j, hj⟩ := h_l_at hb (h.1.lt hb)
      exact hP j _ (by rw [List.getElem?_append_left (List.getElem?_eq_some_iff.mp hj).1]; exact hj)
  · by_cases hba : b = q
    · subst hba
      exact hD.2 _ _ hlast
    · rw [h_un M e hba] at hb
      exact h.2.1 b hb
  · cases hq : M q with
    | none => rfl
    | some x =>
      obtain ⟨j, hj⟩ := h_l_at hq (h.1.lt hq)
      have hl := (List.getElem?_eq_some_iff.mp hj).1
      have := hD.1 j _ (q, x) (q, e) (by rw [List.getElem?_append_left hl]; exact hj) hlast rfl
      omega
/-! ===== cells by names: a name (tag) is a kind and two numbers; ad: where it lies, c: what it holds ===== -/
abbrev h_T : Type := Nat × Nat × Nat
abbrev h_C : Type := h_T → Option va_E
def h_cu (c : h_C) (t : h_T) (e : Option va_E) : h_C := fun q => if q = t then e else c q
def h_au (ad : h_T → Nat) (t : h_T) (a : Nat) : h_T → Nat := fun q => if q = t then a else ad q
theorem h_cs (c : h_C) (t : h_T) (e : Option va_E) : h_cu c t e t = e := if_pos rfl
theorem h_cn (c : h_C) {t q : h_T} (e : Option va_E) (h : q ≠ t) : h_cu c t e q = c q := if_neg h
theorem h_as (ad : h_T → Nat) (t : h_T) (a : Nat) : h_au ad t a t = a := if_pos rfl
theorem h_an (ad : h_T → Nat) {t q : h_T} (a : Nat) (h : q ≠ t) : h_au ad t a q = ad q := if_neg h
theorem h_cuu (c : h_C) (t : h_T) (e e' : Option va_E) : h_cu (h_cu c t e) t e' = h_cu c t e' := by
  funext q
  by_cases h : q = t
  · rw [h, h_cs, h_cs]
  · rw [h_cn _ _ h, h_cn _ _ h, h_cn _ _ h]
/-- the cells lie in the heap as told, and different names lie at different places -/
def h_H (D : va_G) (cl : List vw_C) (ad : h_T → Nat) (c : h_C) (H : Heap) : Prop := (∀ (t : h_T) (e : va_E), c t = some e → va_at D cl (ad t, e) H) ∧ ∀ t t' : h_T, c t ≠ none → c t' ≠ none → ad t = ad t' → t = t'
def h_A (ad : h_T → Nat) (c : h_C) (sz : Nat) : Nat → Prop := fun q => (∃ t : h_T, c t ≠ none ∧ ad t = q) ∨ sz ≤ q
def h_W (D : va_G) (cl : List vw_C) (A : Nat → Prop) (H0 : Heap) (ad : h_T → Nat) (c : h_C) (H : Heap) (locs : List Loc) : Prop :=
  ∃ M : h_M, h_V D cl A H0 M H locs ∧ (∀ (t : h_T) (e : va_E), c t = some e → M (ad t) = some e) ∧ ∀ t t' : h_T, c t ≠ none → c t' ≠ none → ad t = ad t' → t = t'
theorem h_W.H {D : va_G} {cl : List vw_C} {A : Nat → Prop} {H0 : Heap} {ad : h_T → Nat} {c : h_C} {H : Heap} {locs : List Loc} (h : h_W D cl A H0 ad c H locs) : h_H D cl ad c H := by
  obtain ⟨M, hv, hm, hi⟩ := h
  exact ⟨fun t e ht => hv.1 _ _ (hm t e ht), hi⟩
theorem h_W.S {D : va_G} {cl : List vw_C} {A : Nat → Prop} {H0 : Heap} {ad : h_T → Nat} {c : h_C} {H : Heap} {locs : List Loc} (h : h_W D cl A H0 ad c H locs) : va_S A H0 H locs := by
  obtain ⟨M, hv, -, -⟩ := h
  exact hv.2.2.2
theorem h_W.A {D : va_G} {cl : List vw_C} {A : Nat → Prop} {H0 : Heap} {ad : h_T → Nat} {c : h_C} {H : Heap} {locs : List Loc} (h : h_W D cl A H0 ad c H locs) : ∀ t : h_T, c t ≠ none → A (ad t) := by
  obtain ⟨M, hv, hm, -⟩ := h
  intro t ht
  cases hc : c t with
  | none => exact absurd hc ht
  | some e => exact hv.2.1 _ (by rw [hm t e hc]; exact fun z => by cases z)
theorem h_W.new {D : va_G} {cl : List vw_C} {A : Nat → Prop} {H0 : Heap} {ad : h_T → Nat} {c : h_C} {H : Heap} {locs : List Loc} (h : h_W D cl A H0 ad c H locs) : ∀ q : Nat, H0.size ≤ q → A q := by
  obtain ⟨M, hv, -, -⟩ := h
  exact hv.2.2.1
/-- a world out of its parts -/
theorem h_W.mk {D : va_G} {cl : List vw_C} {A : Nat → Prop} {H0 : Heap} {ad : h_T → Nat} {c : h_C} {H : Heap} {locs : List Loc} (hH : h_H D cl ad c H) (hA : ∀ t : h_T, c t ≠ none → A (ad t)) (hn : ∀ q : Nat, H0.size ≤ q → A q) (hS : va_S A H0 H locs) : h_W D cl A H0 ad c H locs := by
  classical
  have key : ∀ a : Nat, ∃ o : Option va_E, (∀ t e, c t = some e → ad t = a → o = some e) ∧ (o ≠ none → ∃ t, c t = o ∧ ad t = a) := by
    intro a
    by_cases h : ∃ t : h_T, c t ≠ none ∧ ad t = a
    · obtain ⟨t, h1, h2⟩ := h
      refine ⟨c t, fun t' e h3 h4 => ?_, fun _ => ⟨t, rfl, h2⟩⟩
      have := hH.2 t t' h1 (by rw [h3]; exact fun z => by cases z) (h2.trans h4.symm)
      rw [this, h3]
    · exact ⟨none, fun t e h3 h4 => absurd ⟨t, (by rw [h3]; exact Option.some_ne_none _), h4⟩ h, fun z => absurd rfl z⟩
  refine ⟨fun a => (key a).choose, ⟨fun a e he => ?_, fun a ha => ?_, hn, hS⟩, fun t e ht => (key (ad t)).choose_spec.1 t e ht rfl, hH.2⟩
  · have he : (key a).choose = some e := he
    obtain ⟨t, h1, h2⟩ := (key a).choose_spec.2 (by rw [he]; exact fun z => by cases z)
    rw [he] at h1
    have := hH.1 t e h1
    rw [h2] at this
    exact this
  · have ha : (key a).choose ≠ none := ha
    obtain ⟨t, h1, h2⟩ := (key a).choose_spec.2 ha
    rw [← h2]
    exact hA t (by rw [h1]; exact ha)
theorem h_W.start {D : va_G} {cl : List vw_C} {ad : h_T → Nat} {c : h_C} {H : Heap} (h : h_H D cl ad c H) : h_W D cl (h_A ad c H.size) H ad c H [] := h_W.mk h (fun t ht => Or.inl ⟨t, ht, rfl⟩) (fun _ hq => Or.inr hq) va_S.rf
theorem h_H.lt {D : va_G} {cl : List vw_C} {ad : h_T → Nat} {c : h_C} {H : Heap} (h : h_H D cl ad c H) {t : h_T} (ht : c t ≠ none) : ad t < H.size := by
  cases hc : c t with
  | none => exact absurd hc ht
  | some e => exact (h.1 t e hc).lt
/-- another name for a cell, or none: the heap stays -/
theorem h_W.drop {D : va_G} {cl : List vw_C} {A : Nat → Prop} {H0 : Heap} {ad : h_T → Nat} {c : h_C} {H : Heap} {locs : List Loc} (h : h_W D cl A H0 ad c H locs) (t : h_T) : h_W D cl A H0 ad (h_cu c t none) H locs := by
  obtain ⟨M, hv, hm, hi⟩ := h
  have live : ∀ q e, h_cu c t none q = some e → c q = some e := by
    intro q e hq
    by_cases hqt : q = t
    · rw [hqt, h_cs] at hq; cases hq
    · rwa [h_cn _ _ hqt] at hq
  have live' : ∀ q, h_cu c t none q ≠ none → c q ≠ none := by
    intro q hq
    by_cases hqt : q = t
    · rw [hqt, h_cs] at hq; exact absurd rfl hq
    · rwa [h_cn _ _ hqt] at hq
  exact ⟨M, hv, fun q e hq => hm q e (live q e hq), fun q q' h1 h2 h3 => hi q q' (live' q h1) (live' q' h2) h3⟩
theorem h_W.retag {D : va_G} {cl : List vw_C} {A : Nat → Prop} {H0 : Heap} {ad : h_T → Nat} {c : h_C} {H : Heap} {locs : List Loc} (h : h_W D cl A H0 ad c H locs) {t u : h_T} (hne : t ≠ u) (hu : c u = none) : h_W D cl A H0 (h_au ad u (ad t)) (h_cu (h_cu c u (c t)) t none) H locs := by
  obtain ⟨M, hv, hm, hi⟩ := h
  have live : ∀ q, h_cu (h_cu c u (c t)) t none q ≠ none → q ≠ t ∧ (q = u → c t ≠ none) ∧ (q ≠ u → c q ≠ none) := by
    intro q hq
    by_cases hqt : q = t
    · rw [hqt, h_cs] at hq; exact absurd rfl hq
    · rw [h_cn _ _ hqt] at hq
      refine ⟨hqt, fun e => ?_, fun e => ?_⟩
      · rwa [e, h_cs] at hq
      · rwa [h_cn _ _ e] at hq
  refine ⟨M, hv, fun q e hq => ?_, fun q q' h1 h2 h3 => ?_⟩
  · by_cases hqt : q = t
    · rw [hqt, h_cs] at hq; cases hq
    · rw [h_cn _ _ hqt] at hq
      by_cases hqu : q = u
      · rw [hqu, h_cs] at hq
        rw [hqu, h_as]
        exact hm t e hq
      · rw [h_cn _ _ hqu] at hq
        rw [h_an _ _ hqu]
        exact hm q e hq
  · obtain ⟨a1, a2, a3⟩ := live q h1
    obtain ⟨b1, b2, b3⟩ := live q' h2
    by_cases hqu : q = u
    · by_cases hqu' : q' = u
      · rw [hqu, hqu']
      · rw [hqu, h_as, h_an _ _ hqu'] at h3
        exact absurd (hi t q' (a2 hqu) (b3 hqu') h3) (Ne.symm b1)
    · by_cases hqu' : q' = u
      · rw [hqu', h_as, h_an _ _ hqu] at h3
        exact absurd (hi q t (a3 hqu) (b2 hqu') h3) a1
      · rw [h_an _ _ hqu, h_an _ _ hqu'] at h3
        exact hi q q' (a3 hqu) (b3 hqu') h3
/-- a cell written -/
theorem h_W.set {D : va_G} {cl : List vw_C} {A : Nat → Prop} {H0 : Heap} {ad : h_T → Nat} {c : h_C} {H : Heap} {locs : List Loc} (h : h_W D cl A H0 ad c H locs) {t : h_T} {e0 : va_E} (ht : c t = some e0) : ∃ (ws : va_W) (k : Nat), ws[k]? = some (ad t, e0) ∧ va_P D cl ws H ∧ va_D A ws ∧ va_S A H0 H locs ∧ (∀ (u : h_T) (e : va_E), c u = some e → ∃ j : Nat, ws[j]? = some (ad u, e)) ∧
    (∀ (e : va_E) (H1 : Heap) (locs1 : List Loc), va_P D cl (ws.set k (ad t, e)) H1 → va_S A H0 H1 locs1 → h_W D cl A H0 ad (h_cu c t (some e)) H1 locs1) := by
  obtain ⟨M, hv, hm, hi⟩ := h
  obtain ⟨k, hk⟩ := h_l_at (hm t e0 ht) (hv.1.lt (hm t e0 ht))
  refine ⟨h_l M H.size, k, hk, hv.1.ws H.size, hv.D H.size, hv.2.2.2, fun u e hu => h_l_at (hm u e hu) (hv.1.lt (hm u e hu)), fun e H1 locs1 hP hS => ?_⟩
  have live : ∀ q, h_cu c t (some e) q ≠ none → c q ≠ none := by
    intro q hq
    by_cases hqt : q = t
    · rw [hqt, ht]; exact fun z => by cases z
    · rwa [h_cn _ _ hqt] at hq
  refine ⟨h_up M (ad t) e, hv.set hk hP hS, fun q e' hq => ?_, fun q q' h1 h2 h3 => hi q q' (live q h1) (live q' h2) h3⟩
  by_cases hqt : q = t
  · rw [hqt, h_cs] at hq
    cases hq
    rw [hqt, h_us]
  · rw [h_cn _ _ hqt] at hq
    rw [h_un]
    · exact hm q e' hq
    · intro hz
      exact hqt (hi q t (by rw [hq]; exact fun z => by cases z) (by rw [ht]; exact fun z => by cases z) hz)
/-- a cell more -/
theorem h_W.push {D : va_G} {cl : List vw_C} {A : Nat → Prop} {H0 : Heap} {ad : h_T → Nat} {c : h_C} {H : Heap} {locs : List Loc} (h : h_W D cl A H0 ad c H locs) {t : h_T} (ht : c t = none) : ∃ ws : va_W, va_P D cl ws H ∧ va_D A ws ∧ va_S A H0 H locs ∧
    (∀ (q : Nat) (e : va_E) (H1 : Heap) (locs1 : List Loc), va_P D cl (ws ++ [(q, e)]) H1 → va_D A (ws ++ [(q, e)]) → va_S A H0 H1 locs1 → h_W D cl A H0 (h_au ad t q) (h_cu c t (some e)) H1 locs1) := by
  obtain ⟨M, hv, hm, hi⟩ := h
  refine ⟨h_l M H.size, hv.1.ws H.size, hv.D H.size, hv.2.2.2, fun q e H1 locs1 hP hD hS => ?_⟩
  obtain ⟨hv1, hq⟩ := hv.push hP hD hS
  have ne : ∀ u : h_T, c u ≠ none → ad u ≠ q := by
    intro u hu
    cases hc : c u with
    | none => exact absurd hc hu
    | some e' =>
      intro z
      have := hm u e' hc
      rw [z, hq] at this
      cases this
  refine ⟨h_up M q e, hv1, fun u e' hu => ?_, fun u u' h1 h2 h3 => ?_⟩
  · by_cases hut : u = t
    · rw [hut, h_cs] at hu
      cases hu
      rw [hut, h_as, h_us]
    · rw [h_cn _ _ hut] at hu
      rw [h_an _ _ hut, h_un]
      · exact hm u e' hu
      · exact ne u (by rw [hu]; exact fun z => by cases z)
  · by_cases hut : u = t
    · by_cases hut' : u' = t
      · rw [hut, hut']
      · rw [h_cn _ _ hut'] at h2
        rw [hut, h_as, h_an _ _ hut'] at h3
        exact absurd h3.symm (ne u' h2)
    · rw [h_cn _ _ hut] at h1
      by_cases hut' : u' = t
      · rw [hut', h_as, h_an _ _ hut] at h3
        exact absurd h3 (ne u h1)
      · rw [h_cn _ _ hut'] at h2
        rw [h_an _ _ hut, h_an _ _ hut'] at h3
        exact hi u u' h1 h2 h3
