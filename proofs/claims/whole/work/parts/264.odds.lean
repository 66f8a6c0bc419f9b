/-! ===== odds: the comparing of longs, the common divisor ===== -/
def lcv (x y : Int64) : Int32 := if x > y then 1 else if x == y then 0 else -1
section LCMP
variable {p : Program} {l : Launch} {e : Env} {R : Room} {s : State} {m : MethodId} {args : Array Value} {below : List Frame} {meth : Method} {c : Code} {H : Heap} {locs : List Loc} {cells slots : Nat} {Q : State → Prop} {pc : Nat} {ls : Array Slot} {rest : List Value} {cc : ByteArray}
theorem h_lcmp {x y : Int64} {v : Int32} (hv : lcv x y = v) (hexec : p.tables.exec = Jvm.exec) (hb : c.code = cc) (hdg : decode cc pc = .ok (.lcmp, 1))
    (k : W p l e R s m args below meth c H locs cells slots Q (F0 m (pc + 1) ls (.int v :: rest))) : W p l e R s m args below meth c H locs cells slots Q (F0 m pc ls (.long y :: .long x :: rest)) := by
  subst hv
  intro T hT X
  obtain ⟨t, a, b⟩ := k T hT X
  refine ⟨t, ?_, b⟩
  unfold lcv at a
  jvm_step X.here [X.here.top, hexec, hb, hdg]
  by_cases h1 : x > y
  · simp only [h1, if_true] at a ⊢; exact a
  · by_cases h2 : x = y
    · simp [h2] at a ⊢; exact a
    · simp [h1, h2] at a ⊢; exact a
end LCMP
theorem lcv_eq (x : Int64) : lcv x x = 0 := by
  unfold lcv
  rw [if_neg (fun h => Int64.lt_irrefl h)]
  simp
theorem lcv_gt {a b : Nat} (ha : a < 2 ^ 63) (h : b < a) : lcv (lN a) (lN b) = 1 := by
  unfold lcv
  rw [if_pos ((pk_lLT (by omega) ha).mpr h)]
theorem lcv_lt {a b : Nat} (hb : b < 2 ^ 63) (h : a < b) : lcv (lN a) (lN b) = -1 := by
  unfold lcv
  rw [if_neg (fun q => absurd ((pk_lLT hb (by omega)).mp q) (by omega)), if_neg (by
    simp only [beq_iff_eq]
    exact fun q => absurd ((pk_lEQ (by omega) hb).mp q) (by omega))]
theorem gcd_step {u v : Nat} (h : 0 < v) : Nat.gcd v (u % v) = Nat.gcd u v := by
  rw [Nat.gcd_comm v, ← Nat.gcd_rec, Nat.gcd_comm]
/-- a division at least halves the product -/
theorem gcd_half {u v : Nat} (h0 : 0 < v) (h : v ≤ u) : 2 * (v * (u % v)) ≤ u * v := by
  have h1 := Nat.div_add_mod u v
  have h2 : 1 ≤ u / v := (Nat.one_le_div_iff h0).mpr h
  have h3 := Nat.mod_lt u h0
  have h4 : v * 1 ≤ v * (u / v) := Nat.mul_le_mul_left v h2
  have h5 : 2 * (u % v) ≤ u := by omega
  calc 2 * (v * (u % v)) = v * (2 * (u % v)) := by rw [Nat.mul_left_comm]
    _ ≤ v * u := Nat.mul_le_mul_left v h5
    _ = u * v := Nat.mul_comm v u
theorem gcd_inv {u v i : Nat} (hu : u < 2 ^ 50) (hv : v < 2 ^ 50) (h0 : 0 < v) (h : i = 0 ∨ (v ≤ u ∧ u * v * 2 ^ i ≤ 2 ^ 101)) : u % v ≤ v ∧ v * (u % v) * 2 ^ (i + 1) ≤ 2 ^ 101 := by
  refine ⟨Nat.le_of_lt (Nat.mod_lt u h0), ?_⟩
  rcases h with h | ⟨h1, h2⟩
  · subst h
    have h3 : u % v ≤ 2 ^ 50 := Nat.le_trans (Nat.le_of_lt (Nat.mod_lt u h0)) (Nat.le_of_lt hv)
    calc v * (u % v) * 2 ^ (0 + 1) ≤ 2 ^ 50 * 2 ^ 50 * 2 ^ 1 := Nat.mul_le_mul_right _ (Nat.mul_le_mul (Nat.le_of_lt hv) h3)
      _ = 2 ^ 101 := by decide
  · have h3 := gcd_half h0 h1
    calc v * (u % v) * 2 ^ (i + 1) = 2 * (v * (u % v)) * 2 ^ i := by rw [Nat.pow_succ, ← Nat.mul_assoc, Nat.mul_comm, ← Nat.mul_assoc]
      _ ≤ u * v * 2 ^ i := Nat.mul_le_mul_right _ h3
      _ ≤ 2 ^ 101 := h2
theorem gcd_end {u v : Nat} (h : 1000 = 0 ∨ (v ≤ u ∧ u * v * 2 ^ 1000 ≤ 2 ^ 101)) : v = 0 := by
  rcases h with h | ⟨h1, h2⟩
  · exact absurd h (by decide)
  · rcases Nat.eq_zero_or_pos v with h3 | h3
    · exact h3
    · have h4 : 1 ≤ u * v := Nat.mul_le_mul (Nat.le_trans h3 h1) h3
      have h5 : 1 * 2 ^ 1000 ≤ u * v * 2 ^ 1000 := Nat.mul_le_mul_right _ h4
      rw [Nat.one_mul] at h5
      exact absurd (Nat.lt_of_lt_of_le (Nat.pow_lt_pow_right (a := 2) (by decide) (show 101 < 1000 by decide)) (Nat.le_trans h5 h2)) (Nat.lt_irrefl _)
set_option maxHeartbeats 4000000 in
set_option maxRecDepth 100000 in
/-- commonDivisor -/
theorem c_X3_commonDivisor (l : Launch) (G : h_G) {ad : h_T → Nat} {k : h_C} {a b : Nat} (ha : a < 2 ^ 50) (hb : b < 2 ^ 50) : h_Rd l yX3_commonDivisor cX3_commonDivisor 11 (some .long) 0 0 G ad k [.long (lN a), .long (lN b)] (some (.long (lN (Nat.gcd a b)))) := by
  refine h_rd (by decide +kernel) (Nat.le_of_ble_eq_true rfl) ?_
  intro p e s m args below meth c X Y hw ls hl
  have hl : lv_has ls 11 [(0, .long (lN a)), (2, .long (lN b))] := hl
  have loop : ∀ (n i : Nat), i ≤ 1000 → 1000 + 1 ≤ i + n → ∀ (u v : Nat), u < 2 ^ 50 → v < 2 ^ 50 → Nat.gcd u v = Nat.gcd a b → (i = 0 ∨ (v ≤ u ∧ u * v * 2 ^ i ≤ 2 ^ 101)) → ∀ (ls : Array Slot), lv_has ls 11 [(4, .long (lN u)), (6, .long (lN v)), (8, .int (nI i))] → W p l e (h_rm 0 0 0 0) s m args below meth c s.heap [] 0 0 (MQ below (h_Qr (some (.long (lN (Nat.gcd a b))))) args s 0 0 (fun _ => False)) (F0 m 9 ls []) := by
    intro n
    induction n with
    | zero =>
      intro i h1 h2
      exact absurd h2 (by omega)
    | succ n ih =>
      intro i hii hni u v hu hv hgc hfu ls hl
      refine lv_iload X.1 X.2.1 dX3_commonDivisor_9 (lv_at hl 2 rfl) ?_
      refine lv_sipush (v := 1000) X.1 X.2.1 dX3_commonDivisor_11 (by decide) ?_
      refine lv_icmp_ge (tgt := 45) X.1 X.2.1 dX3_commonDivisor_14 (by decide) (fun c14 => ?_) (fun c14 => ?_)
      · refine lv_lload X.1 X.2.1 dX3_commonDivisor_45 (lv_at hl 0 rfl) ?_
        have hz : v = 0 := (gcd_end (by
          rw [← (show i = 1000 from Nat.le_antisymm hii (Nat.le_of_not_lt (fun q => absurd c14 (nI_ge (b := 1000) q (by omega)))))]
          exact hfu))
        rw [← hgc, hz, Nat.gcd_zero_right]
        exact h_lret X Y dX3_commonDivisor_47
      · have hib : i < 1000 := Nat.lt_of_not_le (fun q => c14 (nI_le (a := 1000) q (by omega)))
        rcases Nat.eq_zero_or_pos v with hv0 | hv0
        · refine lv_lload X.1 X.2.1 dX3_commonDivisor_17 (lv_at hl 1 rfl) ?_
          refine lv_lconst (v := 0) X.1 X.2.1 dX3_commonDivisor_19 (by decide) ?_
          refine h_lcmp (v := 0) (by rw [hv0]; exact lcv_eq 0) X.1 X.2.1 dX3_commonDivisor_20 ?_
          refine lv_if_eq (tgt := 45) X.1 X.2.1 dX3_commonDivisor_21 (by decide) (fun c21 => ?_) (fun c21 => ?_)
          · refine lv_lload X.1 X.2.1 dX3_commonDivisor_45 (lv_at hl 0 rfl) ?_
            have hz : v = 0 := hv0
            rw [← hgc, hz, Nat.gcd_zero_right]
            exact h_lret X Y dX3_commonDivisor_47
          · exact absurd (by decide) c21
        · refine lv_lload X.1 X.2.1 dX3_commonDivisor_17 (lv_at hl 1 rfl) ?_
          refine lv_lconst (v := 0) X.1 X.2.1 dX3_commonDivisor_19 (by decide) ?_
          refine h_lcmp (v := 1) (lcv_gt (b := 0) (by omega) hv0) X.1 X.2.1 dX3_commonDivisor_20 ?_
          refine lv_if_eq (tgt := 45) X.1 X.2.1 dX3_commonDivisor_21 (by decide) (fun c21 => ?_) (fun c21 => ?_)
          · exact absurd c21 (by decide)
          · refine lv_lload X.1 X.2.1 dX3_commonDivisor_24 (lv_at hl 0 rfl) ?_
            refine lv_lload X.1 X.2.1 dX3_commonDivisor_26 (lv_at hl 1 rfl) ?_
            refine lv_lrem X.1 X.2.1 dX3_commonDivisor_28 (fun q => absurd ((pk_lEQ (b := 0) (by omega) (by omega)).mp q) (by omega)) ?_
            refine h_tl (b := lN (u % v)) (pk_lRem (by omega) hv0 (by omega)) ?_
            refine lv_lstore (lv' := [(9, .long (lN (u % v))), (4, .long (lN u)), (6, .long (lN v)), (8, .int (nI i))]) X.1 X.2.1 dX3_commonDivisor_29 hl (by decide) rfl (fun ls hl => ?_)
            refine lv_lload X.1 X.2.1 dX3_commonDivisor_31 (lv_at hl 2 rfl) ?_
            refine lv_lstore (lv' := [(4, .long (lN v)), (9, .long (lN (u % v))), (6, .long (lN v)), (8, .int (nI i))]) X.1 X.2.1 dX3_commonDivisor_33 hl (by decide) rfl (fun ls hl => ?_)
            refine lv_lload X.1 X.2.1 dX3_commonDivisor_35 (lv_at hl 1 rfl) ?_
            refine lv_lstore (lv' := [(6, .long (lN (u % v))), (4, .long (lN v)), (9, .long (lN (u % v))), (8, .int (nI i))]) X.1 X.2.1 dX3_commonDivisor_37 hl (by decide) rfl (fun ls hl => ?_)
            refine lv_iinc (v := nI (i + 1)) (lv' := [(8, .int (nI (i + 1))), (6, .long (lN (u % v))), (4, .long (lN v)), (9, .long (lN (u % v)))]) X.1 X.2.1 dX3_commonDivisor_39 hl (k := 3) rfl (nI_1 _) (by decide) rfl (fun ls hl => ?_)
            refine lv_goto (tgt := 9) X.1 X.2.1 dX3_commonDivisor_42 (by decide) ?_
            refine ih (i + 1) (by omega) (by omega) v (u % v) hv (Nat.lt_of_le_of_lt (Nat.le_of_lt (Nat.mod_lt u hv0)) hv) ((gcd_step hv0).trans hgc) (Or.inr (gcd_inv hu hv hv0 hfu)) ls (lv_sub hl [2, 1, 0] rfl)
  refine lv_lload_n X.1 X.2.1 dX3_commonDivisor_0 rfl (lv_at hl 0 rfl) ?_
  refine lv_lstore (lv' := [(4, .long (lN a)), (0, .long (lN a)), (2, .long (lN b))]) X.1 X.2.1 dX3_commonDivisor_1 hl (by decide) rfl (fun ls hl => ?_)
  refine lv_lload_n X.1 X.2.1 dX3_commonDivisor_3 rfl (lv_at hl 2 rfl) ?_
  refine lv_lstore (lv' := [(6, .long (lN b)), (4, .long (lN a)), (0, .long (lN a)), (2, .long (lN b))]) X.1 X.2.1 dX3_commonDivisor_4 hl (by decide) rfl (fun ls hl => ?_)
  refine lv_iconst (v := 0) X.1 X.2.1 dX3_commonDivisor_6 (by decide) ?_
  refine lv_istore (lv' := [(8, .int 0), (6, .long (lN b)), (4, .long (lN a)), (0, .long (lN a)), (2, .long (lN b))]) X.1 X.2.1 dX3_commonDivisor_7 hl (by decide) rfl (fun ls hl => ?_)
  exact loop 1001 0 (by omega) (by omega) a b ha hb rfl (Or.inl rfl) ls (lv_sub hl [2, 1, 0] rfl)
def o_P (g : Nat → Int32) (b : Nat → Bool) : Nat → Nat
  | 0 => 1
  | n + 1 => if b n then o_P g b n * (g n).toNatClampNeg else o_P g b n
theorem oP_t {g : Nat → Int32} {b : Nat → Bool} {n : Nat} (h : b n = true) : o_P g b (n + 1) = o_P g b n * (g n).toNatClampNeg := if_pos h
theorem oP_f {g : Nat → Int32} {b : Nat → Bool} {n : Nat} (h : b n = false) : o_P g b (n + 1) = o_P g b n := if_neg (by rw [h]; decide)
theorem oP_le {g : Nat → Int32} {b : Nat → Bool} (hg : ∀ s, (g s).toNatClampNeg ≤ 1000) : ∀ n, o_P g b n ≤ 1000 ^ cN b n
  | 0 => Nat.le_refl _
  | n + 1 => by
    cases h : b n with
    | true => rw [oP_t h, cN_t h, Nat.pow_succ]; exact Nat.mul_le_mul (oP_le hg n) (hg n)
    | false => rw [oP_f h, cN_f h]; exact oP_le hg n
theorem oP_pos {g : Nat → Int32} {b : Nat → Bool} : ∀ {n}, (∀ s, s < n → b s = true → 0 < (g s).toNatClampNeg) → 0 < o_P g b n
  | 0, _ => Nat.one_pos
  | n + 1, hg => by
    cases h : b n with
    | true => rw [oP_t h]; exact Nat.mul_pos (oP_pos (fun s hs => hg s (by omega))) (hg n (by omega) h)
    | false => rw [oP_f h]; exact oP_pos (fun s hs => hg s (by omega))
theorem cN_mono {P P' : Nat → Bool} (h : ∀ s, P s = true → P' s = true) : ∀ n, cN P n ≤ cN P' n
  | 0 => Nat.le_refl _
  | n + 1 => by
    have ih := cN_mono h n
    cases h1 : P n with
    | true => rw [cN_t h1, cN_t (h n h1)]; omega
    | false =>
      rw [cN_f h1]
      cases h2 : P' n with
      | true => rw [cN_t h2]; omega
      | false => rw [cN_f h2]; exact ih
/-- what more can be of the numbers: rates, and at most five copies of a file -/
def s_iv (σ : S_t) : Prop := (∀ s, ∃ a b : Nat, a ≤ b ∧ b ≤ 1000 ∧ s_up σ s = nI a ∧ s_dn σ s = nI b) ∧ ∀ f, cN (fun s => s_has σ s f) (s_nS σ) ≤ 5
theorem bears_has {σ : S_t} {f s : Nat} (h : s_bears σ f s = true) : s_has σ s f = true := by
  unfold s_bears at h
  cases hc : s_cnt σ s f with
  | none => rw [hc] at h; cases h
  | some b => unfold s_has; rw [(s_cnt_cp hc).1]; rfl
theorem cN_up (P : Nat → Bool) (n : Nat) : ∀ d, cN P n ≤ cN P (n + d)
  | 0 => Nat.le_refl _
  | d + 1 => by
    have ih := cN_up P n d
    rw [← Nat.add_assoc]
    cases h : P (n + d) with
    | true => rw [cN_t h]; omega
    | false => rw [cN_f h]; exact ih
theorem iv_num {σ : S_t} (hv : s_iv σ) (f : Nat) : ∀ n, n ≤ s_nS σ → o_P (s_up σ) (s_bears σ f) n < 2 ^ 50 ∧ o_P (s_dn σ) (s_bears σ f) n < 2 ^ 50 := by
  intro n hn
  have h1 : cN (s_bears σ f) n ≤ 5 := by
    have h2 := cN_mono (P := s_bears σ f) (P' := fun s => s_has σ s f) (fun s h => bears_has h) n
    obtain ⟨d, hd⟩ : ∃ d, s_nS σ = n + d := ⟨s_nS σ - n, by omega⟩
    have h3 : cN (fun s => s_has σ s f) n ≤ cN (fun s => s_has σ s f) (n + d) := cN_up _ n d
    have h4 := hv.2 f
    rw [hd] at h4
    omega
  have h5 : (1000 : Nat) ^ cN (s_bears σ f) n ≤ 1000 ^ 5 := Nat.pow_le_pow_right (by decide) h1
  have h6 : (1000 : Nat) ^ 5 < 2 ^ 50 := by decide
  have hu : ∀ s, (s_up σ s).toNatClampNeg ≤ 1000 := fun s => by
    obtain ⟨a, b, q1, q2, q3, q4⟩ := hv.1 s
    rw [q3, nI_clamp (by omega)]
    omega
  have hd : ∀ s, (s_dn σ s).toNatClampNeg ≤ 1000 := fun s => by
    obtain ⟨a, b, q1, q2, q3, q4⟩ := hv.1 s
    rw [q4, nI_clamp (by omega)]
    omega
  exact ⟨Nat.lt_of_le_of_lt (Nat.le_trans (oP_le hu n) h5) h6, Nat.lt_of_le_of_lt (Nat.le_trans (oP_le hd n) h5) h6⟩
def o_bad (σ : S_t) (f : Nat) : Nat → Bool := fun s => s_bears σ f s && decide (s_dn σ s = 0)
def o_v (σ : S_t) (f : Nat) (side : Int32) : Nat := (if side = 0 then o_P (s_up σ) (s_bears σ f) (s_nS σ) else o_P (s_dn σ) (s_bears σ f) (s_nS σ)) / Nat.gcd (o_P (s_up σ) (s_bears σ f) (s_nS σ)) (o_P (s_dn σ) (s_bears σ f) (s_nS σ))
def sp_odds (σ : S_t) (y side : Int32) : Option Int64 := match ix y (s_nF σ) with
  | none => some (-1)
  | some f => if (ff (o_bad σ f) (s_nS σ)).isSome then none else some (lN (o_v σ f side))
