/-! ===== the law's loop: what holds between two calls ===== -/
theorem iv_store {σ : S_t} (h : s_iv σ) (hok : s_ok σ) (x : Int32) : s_iv (sp_store σ x).2 := by
  unfold sp_store
  split
  · exact h
  · split
    · exact h
    · split
      · exact h
      · exact iv_addS h hok x
theorem iv_octet {σ : S_t} (h : s_iv σ) (x : Int32) : s_iv (sp_octet σ x) := by
  unfold sp_octet
  split
  · exact h
  · exact h
theorem iv_sput {σ : S_t} (h : s_iv σ) (hok : s_ok σ) (x : Int32) : s_iv (sp_put σ x).2 := by
  unfold sp_put
  split
  · exact h
  · split
    · exact h
    · split
      · exact h
      · rename_i hm _
        exact iv_put h hok (Nat.le_of_not_lt hm) x
theorem iv_answers {σ : S_t} (h : s_iv σ) (x : Int32) (on : Bool) : s_iv (sp_answers σ x on).2 := by
  unfold sp_answers
  split
  · exact h
  · exact h
theorem iv_alter {σ : S_t} (h : s_iv σ) (x y i b : Int32) : s_iv (sp_alter σ x y i b).2 := by
  unfold sp_alter
  split
  · exact h
  · rename_i s f l ha
    split
    · exact h
    · exact iv_setCp h (fun _ => by unfold s_has; rw [(s_at_some ha).2.2.2.2.1]; rfl)
theorem iv_cut {σ : S_t} (h : s_iv σ) (x y n : Int32) : s_iv (sp_cut σ x y n).2 := by
  unfold sp_cut
  split
  · exact h
  · rename_i s f l ha
    split
    · exact h
    · exact iv_setCp h (fun _ => by unfold s_has; rw [(s_at_some ha).2.2.2.2.1]; rfl)
theorem iv_lose {σ : S_t} (h : s_iv σ) (x y : Int32) : s_iv (sp_lose σ x y).2 := by
  unfold sp_lose
  split
  · exact h
  · exact iv_setCp h (fun q => by cases q)
theorem iv_poll {σ : S_t} (h : s_iv σ) (w : Int32) (x : Int64) : s_iv (sp_poll σ w x).2 := by
  unfold sp_poll
  split
  · exact h
  · exact h
theorem iv_majority {σ : S_t} (h : s_iv σ) (y : Int32) : s_iv (sp_majority σ y).2 := by
  unfold sp_majority
  split
  · exact h
  · split
    · exact h
    · exact h
theorem iv_mend {σ : S_t} (h : s_iv σ) (x : Int32) : s_iv (sp_mend σ x).2 := by
  unfold sp_mend
  split
  · exact h
  · exact iv_mendN h x _
theorem iv_fill {σ : S_t} (h : s_iv σ) (hok : s_ok σ) (x : Int32) : s_iv (sp_fill σ x).2 := by
  unfold sp_fill
  split
  · exact h
  · rename_i j hj
    split
    · exact h
    · exact iv_fillN h hok.1.2 (ix_lt hj) _
theorem iv_smove {σ : S_t} (h : s_iv σ) (y x z : Int32) : s_iv (sp_move σ y x z).2 := by
  unfold sp_move
  split
  · exact h
  · rename_i s f l ha
    split
    · exact h
    · rename_i u hu
      split
      · exact h
      · rename_i hq
        exact iv_move h (s_at_some ha).2.2.1 (ix_lt hu) (s_at_some ha).2.2.2.2.1 (by
          cases q : s_has σ u f with
          | false => rfl
          | true => exact absurd (Or.inr (Or.inr (Or.inr q))) hq) (fun q => hq (Or.inl q))
theorem iv_srate {σ : S_t} (h : s_iv σ) (x a b : Int32) : s_iv (sp_rate σ x a b).2 := by
  unfold sp_rate
  split
  · exact h
  · split
    · exact h
    · rename_i hq
      have h1 : ¬ b < 1 := fun q => hq (Or.inl q)
      have h2 : ¬ 1000 < b := fun q => hq (Or.inr (Or.inl q))
      have h3 : ¬ a < 0 := fun q => hq (Or.inr (Or.inr (Or.inl q)))
      have h4 : ¬ b < a := fun q => hq (Or.inr (Or.inr (Or.inr q)))
      have t1 : ¬ b.toInt < 1 := fun q => h1 (Int32.lt_iff_toInt_lt.mpr q)
      obtain ⟨i, hi, rfl⟩ := nI_of (x := a) h3
      obtain ⟨j, hj, rfl⟩ := nI_of (x := b) (fun q => by have q : b.toInt < 0 := Int32.lt_iff_toInt_lt.mp q; omega)
      have e1 : ¬ 1000 < j := fun q => h2 (nI_lt (a := 1000) q hj)
      have e2 : ¬ j < i := fun q => h4 (nI_lt q hi)
      exact iv_rate h (by omega) (by omega)
def lw_I (G : h_G) (ad : h_T → Nat) (k : h_C) (σ : S_t) (th : Int32) (g : Nat → Int64) : Prop := RX G ad k σ ∧ RM G ad k σ th ∧ s_iv σ ∧ k (21, 0, 0) = some (.inl (G.2 1, 1, .inr (.inl g)))
def lw_L (b : Nat) (ad : h_T → Nat) (n : Nat) : List (Nat × Value) := [(0, .ref b), (1, .ref (ad (0, 0, 0))), (2, .ref (ad (20, 0, 0))), (3, .ref (ad (21, 0, 0))), (4, .int (nI n))]
def lw_K (p : Program) (l : Launch) (e : Env) (s : State) (m : MethodId) (below : List Frame) (meth : Method) (c : Code) (G : h_G) (A : Nat → Prop) (b n cells slots : Nat) (Q : State → Prop) : Prop := ∀ (ad : h_T → Nat) (k : h_C) (σ : S_t) (th : Int32) (g : Nat → Int64) (H : Heap) (locs : List Loc) (ls : Array Slot), lw_I G ad k σ th g → h_W G.1 h_cl A s.heap ad k H locs → lv_has ls 8 (lw_L b ad n) → W p l e room_1 s m #[Value.ref b] below meth c H locs cells slots Q (F0 m 986 ls [])
/-- the ground a call stands on -/
def lw_G (p : Program) (l : Launch) (s : State) (m : MethodId) (c : Code) (G : h_G) (A : Nat → Prop) (b L n : Nat) (xs : Nat → Int32) : Prop := h_X p s m #[Value.ref b] c cL_law 8 RL G ∧ l.stackTraces = false ∧ h_Z A s ∧ va_X b L xs s s.heap ∧ b < s.heap.size ∧ ¬ A b ∧ L ≤ 2561 ∧ n + 5 ≤ L
theorem oth_map {α β : Type} (o : Option α) (f : α → β) : o_th (o.map f) = o_th o := by cases o <;> rfl
