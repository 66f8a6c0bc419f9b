/-! ===== what each call answers and does, in mathematical words ===== -/
def s_c2 (g : Nat → Nat → Option (List Int32)) (s f : Nat) (v : Option (List Int32)) : Nat → Nat → Option (List Int32) := fun a b => if a = s ∧ b = f then v else g a b
theorem s_c2_s {g : Nat → Nat → Option (List Int32)} {s f : Nat} {v : Option (List Int32)} : s_c2 g s f v s f = v := if_pos ⟨rfl, rfl⟩
theorem s_c2_n {g : Nat → Nat → Option (List Int32)} {s f a b : Nat} {v : Option (List Int32)} (h : ¬ (a = s ∧ b = f)) : s_c2 g s f v a b = g a b := if_neg h
def s_setCp (σ : S_t) (s f : Nat) (v : Option (List Int32)) : S_t := (σ.1, σ.2.1, (s_pk σ, s_rn σ, s_c2 (s_cp σ) s f v), σ.2.2.2)
def s_setRn (σ : S_t) (f : Nat) (v : Int32) : S_t := (σ.1, σ.2.1, (s_pk σ, upd (s_rn σ) f v, s_cp σ), σ.2.2.2)
def s_setSi (σ : S_t) (s : Nat) (v : Bool) : S_t := (σ.1, (s_pl σ, (fun a => if a = s then v else s_si σ a), s_up σ, s_dn σ), σ.2.2)
def s_setRate (σ : S_t) (s : Nat) (a b : Int32) : S_t := (σ.1, (s_pl σ, s_si σ, upd (s_up σ) s a, upd (s_dn σ) s b), σ.2.2)
def s_addS (σ : S_t) (x : Int32) : S_t := ((s_cop σ, s_nS σ + 1, s_nF σ), (upd (s_pl σ) (s_nS σ) x, s_si σ, s_up σ, s_dn σ), σ.2.2)
def s_setCol (σ : S_t) (l : List Int32) : S_t := (σ.1, σ.2.1, σ.2.2.1, (l, s_as σ, s_dg σ))
def s_setAs (σ : S_t) (l : List (Int32 × Int32 × Int32)) : S_t := (σ.1, σ.2.1, σ.2.2.1, (s_col σ, l, s_dg σ))
def s_setDg (σ : S_t) (d : Int32) : S_t := (σ.1, σ.2.1, σ.2.2.1, (s_col σ, s_as σ, d))
/-- a copy by the numbers of a call -/
def s_at (σ : S_t) (x y : Int32) : Option (Nat × Nat × List Int32) := (ix y (s_nF σ)).bind fun f => (ix x (s_nS σ)).bind fun s => (s_cp σ s f).map fun b => (s, f, b)
theorem x_copy_at (ad : h_T → Nat) (σ : S_t) (x y : Int32) : x_copy ad σ x y = (s_at σ x y).map (fun q => ad (9, q.1, q.2.1)) := by
  unfold x_copy s_at
  cases ix y (s_nF σ) with
  | none => rfl
  | some f =>
    simp only [Option.bind_some]
    cases ix x (s_nS σ) with
    | none => rfl
    | some s =>
      simp only [Option.bind_some]
      cases s_cp σ s f <;> rfl
theorem s_at_some {σ : S_t} {x y : Int32} {s f : Nat} {b : List Int32} (h : s_at σ x y = some (s, f, b)) : x = nI s ∧ y = nI f ∧ s < s_nS σ ∧ f < s_nF σ ∧ s_cp σ s f = some b ∧ ix x (s_nS σ) = some s ∧ ix y (s_nF σ) = some f := by
  unfold s_at at h
  cases hy : ix y (s_nF σ) with
  | none => rw [hy] at h; cases h
  | some f' =>
    rw [hy, Option.bind_some] at h
    cases hx : ix x (s_nS σ) with
    | none => rw [hx] at h; cases h
    | some s' =>
      rw [hx, Option.bind_some] at h
      cases hc : s_cp σ s' f' with
      | none => rw [hc] at h; cases h
      | some b' =>
        rw [hc] at h
        cases h
        exact ⟨ix_eq hx, ix_eq hy, ix_lt hx, ix_lt hy, hc, rfl, rfl⟩
def sp_store (σ : S_t) (x : Int32) : Int32 × S_t := if (ix x 10).isNone then (-2, σ) else if (ff (fun s => decide (s_pl σ s = x)) (s_nS σ)).isSome then (-3, σ) else if 10 ≤ s_nS σ then (-4, σ) else (nI (s_nS σ), s_addS σ x)
def sp_octet (σ : S_t) (x : Int32) : S_t := if (s_col σ).length < 16 then s_setCol σ (s_col σ ++ [x &&& 255]) else σ
def sp_answers (σ : S_t) (x : Int32) (on : Bool) : Int32 × S_t := match ix x (s_nS σ) with
  | none => (-1, σ)
  | some s => (1, s_setSi σ s (!on))
def sp_alter (σ : S_t) (x y i b : Int32) : Int32 × S_t := match s_at σ x y with
  | none => (-1, σ)
  | some (s, f, l) => match ix i l.length with
    | none => (-1, σ)
    | some j => (l.getD j 0, s_setCp σ s f (some (l.set j (b &&& 255))))
def sp_cut (σ : S_t) (x y n : Int32) : Int32 × S_t := match s_at σ x y with
  | none => (-1, σ)
  | some (s, f, l) => match ix n (l.length + 1) with
    | none => (-2, σ)
    | some j => (nI (l.length - j), s_setCp σ s f (some (l.take j)))
def sp_lose (σ : S_t) (x y : Int32) : Int32 × S_t := match s_at σ x y with
  | none => (-1, σ)
  | some (s, f, _) => (1, s_setCp σ s f none)
def sp_polled (σ : S_t) (x w : Int32) : Option Int32 := (ix x (s_as σ).length).map fun j => if w = 0 then ((s_as σ).getD j (0, 0, 0)).1 else if w = 1 then ((s_as σ).getD j (0, 0, 0)).2.1 else if w = 2 then ((s_as σ).getD j (0, 0, 0)).2.2 else -1
def sp_majority (σ : S_t) (y : Int32) : Int32 × S_t := match ix y (s_nF σ) with
  | none => (-1, σ)
  | some f => match s_ldg σ f with
    | none => (0, s_setDg σ 0)
    | some d => (1, s_setDg σ d)
def sp_stale (σ : S_t) (x y : Int32) : Int32 := match s_at σ x y with
  | none => -1
  | some (_, f, l) => match s_ldg σ f with
    | none => 0
    | some d => if d = dgL l then 0 else 1
def sp_move (σ : S_t) (y x z : Int32) : Int32 × S_t := match s_at σ x y with
  | none => (-1, σ)
  | some (s, f, l) => match ix z (s_nS σ) with
    | none => (-1, σ)
    | some u => if s = u ∨ s_si σ s = true ∨ s_si σ u = true ∨ s_has σ u f = true then (-3, σ) else (1, s_setCp (s_setCp σ u f (some l)) s f none)
def sp_rate (σ : S_t) (x a b : Int32) : Int32 × S_t := match ix x (s_nS σ) with
  | none => (-1, σ)
  | some s => if b < 1 ∨ 1000 < b ∨ a < 0 ∨ b < a then (-2, σ) else (1, s_setRate σ s a b)
def sp_at (σ : S_t) (x y i : Int32) : Option Int32 := match s_at σ x y with
  | none => some (-1)
  | some (_, _, l) => (ix i l.length).map fun j => l.getD j 0
def sp_about (σ : S_t) (y w : Int32) : Int32 := match ix y (s_nF σ) with
  | none => -1
  | some f => if w = 0 then s_pk σ f else if w = 1 then nI (cN (fun s => s_has σ s f) (s_nS σ)) else if w = 2 then nI (cN (s_isC σ f) (s_nS σ)) else if w = 3 then s_rn σ f else -1
def sp_load (σ : S_t) (x : Int32) : Int32 := match ix x (s_nS σ) with
  | none => -1
  | some s => nI (cN (fun f => s_has σ s f) (s_nF σ))
theorem cN_has10 {σ : S_t} (hok : s_ok σ) (f : Nat) : cN (fun s => s_has σ s f) 10 = cN (fun s => s_has σ s f) (s_nS σ) := by
  have h10 := hok.2.1
  have := cN_more (P := fun s => s_has σ s f) (n := s_nS σ) (d := 10 - s_nS σ) (fun i h1 _ => by
    show (s_cp σ i f).isSome = false
    rw [hok.2.2.2.2.2.1 i f (Or.inl h1)]
    rfl)
  rw [show s_nS σ + (10 - s_nS σ) = 10 by omega] at this
  exact this
/-- behind a call of the class: the answer, the state, and nothing of others -/
def XPost (G : h_G) (ad : h_T → Nat) (k : h_C) (v : Option Value) (τ : S_t) : h_Ps := fun r ad' k' => r = v ∧ RX G ad' k' τ ∧ (∀ t : h_T, 20 ≤ t.1 → k' t = k t ∧ ad' t = ad t) ∧ ad' (0, 0, 0) = ad (0, 0, 0)
