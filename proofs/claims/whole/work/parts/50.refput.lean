theorem ok_put {σ : S_t} (hok : s_ok σ) (h40 : s_nF σ < 40) (x : Int32) : s_ok (s_put σ x) := by
  obtain ⟨o1, o2, o3, o4, o5, o6, o7, o8, o9⟩ := hok
  have cpt : ∀ s f, s_cp (s_put σ x) s f = if f = s_nF σ then (if s_chN σ (s_cop σ) s then some (s_col σ) else none) else s_cp σ s f := fun _ _ => rfl
  refine ⟨o1, o2, by show s_nF σ + 1 ≤ 40; omega, by show 0 ≤ 16; decide, o5, fun s f hf => ?_, fun s f b hb => ?_, o8, fun f hf => ?_⟩
  · rw [cpt]
    by_cases hff : f = s_nF σ
    · rw [if_pos hff]
      rcases hf with hf | hf
      · have hf : s_nS σ ≤ s := hf
        cases hc : s_chN σ (s_cop σ) s with
        | false => rfl
        | true => exact absurd (chN_lt hc) (by omega)
      · have hf : s_nF σ + 1 ≤ f := hf
        omega
    · rw [if_neg hff]
      rcases hf with hf | hf
      · exact o6 s f (Or.inl hf)
      · have hf : s_nF σ + 1 ≤ f := hf
        exact o6 s f (Or.inr (by omega))
  · rw [cpt] at hb
    by_cases hff : f = s_nF σ
    · rw [if_pos hff] at hb
      cases hc : s_chN σ (s_cop σ) s with
      | false => rw [hc] at hb; cases hb
      | true =>
        rw [hc] at hb
        cases hb
        exact o4
    · rw [if_neg hff] at hb
      exact o7 s f b hb
  · have hf : s_nF σ + 1 ≤ f := hf
    exact o9 f (by omega)
/-- sizes and bytes while a file is placed: the stores before i are done -/
def m_pz (σ : S_t) (i : Nat) (gz : Nat → Int32) : Prop := ∀ s f, s < 10 → f < 40 → gz (40 * s + f) = m_zo (if f = s_nF σ then (if decide (s < i) && s_chN σ (s_cop σ) s then some (s_col σ) else none) else s_cp σ s f)
def m_pb (σ : S_t) (i : Nat) (gb : Nat → Int32) : Prop := (∀ s f l, s_cp σ s f = some l → ∀ a, a < l.length → gb (16 * (40 * s + f) + a) &&& 255 = l.getD a 0) ∧ ∀ s, s < i → s_chN σ (s_cop σ) s = true → ∀ a, a < (s_col σ).length → gb (16 * (40 * s + s_nF σ) + a) &&& 255 = (s_col σ).getD a 0
theorem pz_no {σ : S_t} {i : Nat} {gz : Nat → Int32} (h : m_pz σ i gz) (hc : s_chN σ (s_cop σ) i = false) : m_pz σ (i + 1) gz := by
  intro s f hs hf
  rw [h s f hs hf]
  by_cases hff : f = s_nF σ
  · rw [if_pos hff, if_pos hff]
    by_cases hsi : s = i
    · rw [hsi, hc, Bool.and_false, Bool.and_false]
    · rw [show decide (s < i + 1) = decide (s < i) from decide_eq_decide.mpr (by omega)]
  · rw [if_neg hff, if_neg hff]
theorem pz_yes {σ : S_t} {i : Nat} {gz : Nat → Int32} (h : m_pz σ i gz) (hc : s_chN σ (s_cop σ) i = true) (hF : s_nF σ < 40) : m_pz σ (i + 1) (upd gz (40 * i + s_nF σ) (nI (s_col σ).length)) := by
  intro s f hs hf
  by_cases hz : s = i ∧ f = s_nF σ
  · obtain ⟨rfl, rfl⟩ := hz
    rw [pk_us, if_pos rfl, hc, Bool.and_true, if_pos (decide_eq_true (Nat.lt_succ_self s))]
    rfl
  · rw [pk_un (by omega), h s f hs hf]
    by_cases hff : f = s_nF σ
    · rw [if_pos hff, if_pos hff, show decide (s < i + 1) = decide (s < i) from decide_eq_decide.mpr (by omega)]
    · rw [if_neg hff, if_neg hff]
theorem pb_no {σ : S_t} {i : Nat} {gb : Nat → Int32} (h : m_pb σ i gb) (hc : s_chN σ (s_cop σ) i = false) : m_pb σ (i + 1) gb := ⟨h.1, nlt_s h.2 (fun z => by rw [hc] at z; cases z)⟩
theorem pb_yes {σ : S_t} (hok : s_ok σ) {i : Nat} {gb gb' : Nat → Int32} (h : m_pb σ i gb) (hF : s_nF σ < 40) (h1 : ∀ n, ¬ (16 * (40 * i + s_nF σ) ≤ n ∧ n < 16 * (40 * i + s_nF σ) + 16) → gb' n = gb n) (h2 : ∀ a, a < (s_col σ).length → gb' (16 * (40 * i + s_nF σ) + a) &&& 255 = (s_col σ).getD a 0) : m_pb σ (i + 1) gb' := by
  have hcl := hok.2.2.2.1
  refine ⟨fun s f l hl a ha => ?_, nlt_s (fun s hs hc a ha => ?_) (fun _ => h2)⟩
  · have hb := hok.2.2.2.2.2.2.1 s f l hl
    have hf := (ok_lt hok hl).2
    rw [h1 _ (by omega)]
    exact h.1 s f l hl a ha
  · rw [h1 _ (by omega)]
    exact h.2 s hs hc a ha
theorem rk_le (σ : S_t) (s : Nat) : s_rk σ s ≤ s_nS σ := cN_le _ _
theorem put_cases {σ : S_t} (hm : s_cop σ ≤ cN (fun s => !s_si σ s) (s_nS σ)) (i : Nat) (hi : i < s_nS σ) : (s_si σ i = true ∧ s_chN σ (s_cop σ) i = false) ∨ (s_si σ i = false ∧ ¬ s_rk σ i < s_cop σ ∧ s_chN σ (s_cop σ) i = false) ∨ (s_si σ i = false ∧ s_rk σ i < s_cop σ ∧ s_chN σ (s_cop σ) i = true) := by
  have h := (chN_rk σ (s_cop σ) hm).1 i
  cases hs : s_si σ i with
  | true =>
    refine Or.inl ⟨rfl, ?_⟩
    cases hc : s_chN σ (s_cop σ) i with
    | false => rfl
    | true =>
      have := (h.mp hc).2.1
      rw [hs] at this
      cases this
  | false =>
    by_cases hr : s_rk σ i < s_cop σ
    · exact Or.inr (Or.inr ⟨rfl, hr, h.mpr ⟨hi, hs, hr⟩⟩)
    · refine Or.inr (Or.inl ⟨rfl, hr, ?_⟩)
      cases hc : s_chN σ (s_cop σ) i with
      | false => rfl
      | true => exact absurd (h.mp hc).2.2 hr
set_option maxHeartbeats 4000000 in
set_option maxRecDepth 100000 in
/-- put -/
theorem c_X4_put (l : Launch) (G : h_G) {ad : h_T → Nat} {k : h_C} {σ : S_t} {th : Int32} (hM : RM G ad k σ th) (x : Int32) : h_Wr l yX4_put cX4_put 6 (some .int) 2 46 0 0 G ad k [.ref (ad (20, 0, 0)), .int x] (MPost G ad k (some (.int (sp_put σ x).1)) (sp_put σ x).2 0) := by
  refine h_wr (by decide +kernel) (Nat.le_of_ble_eq_true rfl) ?_
  intro p e s m args below meth c X Y hw ls hl
  have hl : lv_has ls 6 [(0, .ref (ad (20, 0, 0))), (1, .int x)] := hl
  unfold sp_put
  have hok := hM.ok
  have hnS : s_nS σ ≤ 10 := hok.2.1
  have hnF : s_nF σ ≤ 40 := hok.2.2.1
  have hx : k (20, 0, 0) = some (.inr (4, [.int th, .int (nI (s_cop σ)), .int (nI (s_nS σ)), .ref (ad (20, 3, 0)), .ref (ad (20, 4, 0)), .ref (ad (20, 5, 0)), .ref (ad (20, 6, 0)), .int (nI (s_col σ).length), .ref (ad (20, 8, 0)), .int (nI (s_nF σ)), .ref (ad (20, 10, 0)), .ref (ad (20, 11, 0)), .ref (ad (20, 12, 0)), .ref (ad (20, 13, 0)), .int (nI (s_as σ).length), .ref (ad (20, 15, 0)), .ref (ad (20, 16, 0)), .ref (ad (20, 17, 0)), .ref (ad (20, 18, 0)), .int (s_dg σ)])) := hM.1
  refine lv_aload_n X.1 X.2.1 dX4_put_0 rfl (lv_at hl 0 rfl) ?_
  refine lv_iconst (v := 0) X.1 X.2.1 dX4_put_1 (by decide) ?_
  refine pf_X4_55 X hw hx rfl rfl (Nat.le_of_ble_eq_true rfl) dX4_put_2 (fun H locs hw => ?_)
  obtain ⟨k1, hk1⟩ : ∃ zz, zz = h_cu k (20, 0, 0) (some (.inr (4, [.int 0, .int (nI (s_cop σ)), .int (nI (s_nS σ)), .ref (ad (20, 3, 0)), .ref (ad (20, 4, 0)), .ref (ad (20, 5, 0)), .ref (ad (20, 6, 0)), .int (nI (s_col σ).length), .ref (ad (20, 8, 0)), .int (nI (s_nF σ)), .ref (ad (20, 10, 0)), .ref (ad (20, 11, 0)), .ref (ad (20, 12, 0)), .ref (ad (20, 13, 0)), .int (nI (s_as σ).length), .ref (ad (20, 15, 0)), .ref (ad (20, 16, 0)), .ref (ad (20, 17, 0)), .ref (ad (20, 18, 0)), .int (s_dg σ)]))) := ⟨_, rfl⟩
  replace hw := h_W.ren hw hk1
  have f1_20_0_0 : k1 (20, 0, 0) = some (.inr (4, [.int 0, .int (nI (s_cop σ)), .int (nI (s_nS σ)), .ref (ad (20, 3, 0)), .ref (ad (20, 4, 0)), .ref (ad (20, 5, 0)), .ref (ad (20, 6, 0)), .int (nI (s_col σ).length), .ref (ad (20, 8, 0)), .int (nI (s_nF σ)), .ref (ad (20, 10, 0)), .ref (ad (20, 11, 0)), .ref (ad (20, 12, 0)), .ref (ad (20, 13, 0)), .int (nI (s_as σ).length), .ref (ad (20, 15, 0)), .ref (ad (20, 16, 0)), .ref (ad (20, 17, 0)), .ref (ad (20, 18, 0)), .int (s_dg σ)])) := by rw [hk1]; exact h_cs _ _ _
  have hM1 : RM G ad k1 σ 0 := hM.obj f1_20_0_0 (fun t ht => by rw [hk1, h_cn _ _ ht])
  obtain ⟨hx, ⟨gP, eP, vP⟩, ⟨gS, eS, vS⟩, ⟨gU, eU, vU⟩, ⟨gD, eD, vD⟩, ⟨gA, eA, vA⟩, ⟨gK, eK, vK⟩, ⟨gN, eN, vN⟩, ⟨gZ, eZ, vZ⟩, ⟨gB, eB, vB⟩, ⟨g0, g1, g2, e15, e16, e17, v3⟩, ⟨gM, eM⟩, -⟩ := id hM1
  have hx : k1 (20, 0, 0) = some (.inr (4, [.int 0, .int (nI (s_cop σ)), .int (nI (s_nS σ)), .ref (ad (20, 3, 0)), .ref (ad (20, 4, 0)), .ref (ad (20, 5, 0)), .ref (ad (20, 6, 0)), .int (nI (s_col σ).length), .ref (ad (20, 8, 0)), .int (nI (s_nF σ)), .ref (ad (20, 10, 0)), .ref (ad (20, 11, 0)), .ref (ad (20, 12, 0)), .ref (ad (20, 13, 0)), .int (nI (s_as σ).length), .ref (ad (20, 15, 0)), .ref (ad (20, 16, 0)), .ref (ad (20, 17, 0)), .ref (ad (20, 18, 0)), .int (s_dg σ)])) := hx
  have hcl : (s_col σ).length ≤ 16 := hok.2.2.2.1
  have hcop := hok.1
  have hml := cN_le (fun s => !s_si σ s) (s_nS σ)
  rcases hp : ix x 10 with _ | p9
  · rw [if_pos (Or.inl (show (none : Option Nat).isNone = true from rfl))]
    refine lv_iload_n X.1 X.2.1 dX4_put_5 rfl (lv_at hl 1 rfl) ?_
    refine lv_iconst (v := 0) X.1 X.2.1 dX4_put_6 (by decide) ?_
    refine lv_bipush (v := 9) X.1 X.2.1 dX4_put_7 (by decide) ?_
    refine h_callRS (As := [.int x, .int 0, .int 9]) (rest := []) X hw cs_X4_61 (c_X4_in l G x 0 9) rfl hl.1 rfl (Nat.le_of_ble_eq_true rfl) ⟨by decide, by decide⟩ ⟨Nat.zero_le _, Nat.zero_le _⟩ dX4_put_9 ?_
    refine h_tv (b := .int 0) (by rw [show (9 : Int32) = nI 10 - 1 from by decide, in_ix (by decide), hp]; rfl) ?_
    refine lv_if_eq (tgt := 22) X.1 X.2.1 dX4_put_12 (by decide) (fun c12 => ?_) (fun c12 => ?_)
    · refine lv_bipush (v := (-2)) X.1 X.2.1 dX4_put_22 (by decide) ?_
      exact h_iretW X Y hw ⟨rfl, rfl, hM1, fun t ht => by rw [hk1, h_cn _ _ (t_ne20 ht)]⟩ (Nat.zero_le _) (Nat.zero_le _) dX4_put_24
    · exact absurd (by decide) c12
  by_cases hz : (s_col σ).length = 0
  · rw [if_pos (Or.inr hz)]
    refine lv_iload_n X.1 X.2.1 dX4_put_5 rfl (lv_at hl 1 rfl) ?_
    refine lv_iconst (v := 0) X.1 X.2.1 dX4_put_6 (by decide) ?_
    refine lv_bipush (v := 9) X.1 X.2.1 dX4_put_7 (by decide) ?_
    refine h_callRS (As := [.int x, .int 0, .int 9]) (rest := []) X hw cs_X4_61 (c_X4_in l G x 0 9) rfl hl.1 rfl (Nat.le_of_ble_eq_true rfl) ⟨by decide, by decide⟩ ⟨Nat.zero_le _, Nat.zero_le _⟩ dX4_put_9 ?_
    refine h_tv (b := .int 1) (by rw [show (9 : Int32) = nI 10 - 1 from by decide, in_ix (by decide), hp]; rfl) ?_
    refine lv_if_eq (tgt := 22) X.1 X.2.1 dX4_put_12 (by decide) (fun c12 => ?_) (fun c12 => ?_)
    · exact absurd c12 (by decide)
    · refine lv_aload_n X.1 X.2.1 dX4_put_15 rfl (lv_at hl 0 rfl) ?_
      refine gf_X4_79 X hw hx rfl dX4_put_16 ?_
      refine lv_if_ne (tgt := 25) X.1 X.2.1 dX4_put_19 (by decide) (fun c19 => ?_) (fun c19 => ?_)
      · exact absurd (by rw [hz]; rfl) c19
      · refine lv_bipush (v := (-2)) X.1 X.2.1 dX4_put_22 (by decide) ?_
        exact h_iretW X Y hw ⟨rfl, rfl, hM1, fun t ht => by rw [hk1, h_cn _ _ (t_ne20 ht)]⟩ (Nat.zero_le _) (Nat.zero_le _) dX4_put_24
  rw [if_neg (fun q => by
    rcases q with q | q
    · cases q
    · exact hz q)]
  have loop2 : ∀ (n i : Nat), i ≤ s_nS σ → s_nS σ + 1 ≤ i + n → ¬ cN (fun s => !s_si σ s) (s_nS σ) < s_cop σ → ¬ 40 ≤ s_nF σ → ∀ (kk : h_C) (gm : Nat → Int32) (H : Heap) (locs : List Loc), kk (20, 18, 0) = some (.inl (G.2 0, 10, .inl gm)) → (∀ c, c < i → gm c = (if s_si σ c then 100 else nI (s_rk σ c))) → (∀ t : h_T, t ≠ (20, 18, 0) → kk t = k1 t) → h_W G.1 h_cl (h_A ad k s.heap.size) s.heap ad kk H locs → ∀ (ls : Array Slot), lv_has ls 6 [(0, .ref (ad (20, 0, 0))), (1, .int x), (3, .int (nI i))] → W p l e (h_rm 2 46 0 0) s m args below meth c H locs 0 0 (MQ below (h_Qw G ad k s.heap.size (MPost G ad k (some (.int (if cN (fun s => !s_si σ s) (s_nS σ) < s_cop σ then (-3, σ) else if 40 ≤ s_nF σ then (-4, σ) else (nI (s_nF σ), s_put σ x)).1)) (if cN (fun s => !s_si σ s) (s_nS σ) < s_cop σ then (-3, σ) else if 40 ≤ s_nF σ then (-4, σ) else (nI (s_nF σ), s_put σ x)).2 0)) args s 0 0 (h_A ad k s.heap.size)) (F0 m 85 ls []) := by
    intro n
    induction n with
    | zero =>
      intro i h1 h2
      exact absurd h2 (by omega)
    | succ n ih =>
      intro i hii hni hm h40 kk gm H locs gkm hgm ho hw ls hl
      refine lv_iload_n X.1 X.2.1 dX4_put_85 rfl (lv_at hl 2 rfl) ?_
      refine lv_aload_n X.1 X.2.1 dX4_put_86 rfl (lv_at hl 0 rfl) ?_
      refine gf_X4_58 X hw ((ho _ (by simp)).trans hx) rfl dX4_put_87 ?_
      refine lv_icmp_ge (tgt := 124) X.1 X.2.1 dX4_put_90 (by decide) (fun c90 => ?_) (fun c90 => ?_)
      · obtain rfl : i = s_nS σ := Nat.le_antisymm hii (Nat.le_of_not_lt (fun q => absurd c90 (nI_ge (b := s_nS σ) q (by omega))))
        refine lv_aload_n X.1 X.2.1 dX4_put_124 rfl (lv_at hl 0 rfl) ?_
        refine gf_X4_65 X hw ((ho _ (by simp)).trans hx) rfl dX4_put_125 ?_
        refine lv_istore_n (lv' := [(3, .int (nI (s_nF σ))), (0, .ref (ad (20, 0, 0))), (1, .int x)]) X.1 X.2.1 dX4_put_128 rfl hl (by decide) rfl (fun ls hl => ?_)
        refine lv_aload_n X.1 X.2.1 dX4_put_129 rfl (lv_at hl 1 rfl) ?_
        refine lv_dup X.1 X.2.1 dX4_put_130 rfl ?_
        refine gf_X4_65 X hw ((ho _ (by simp)).trans hx) rfl dX4_put_131 ?_
        refine lv_iconst (v := 1) X.1 X.2.1 dX4_put_134 (by decide) ?_
        refine lv_iadd X.1 X.2.1 dX4_put_135 ?_
        refine h_ti (b := nI ((s_nF σ) + 1)) (nI_add (s_nF σ) 1) ?_
        refine pf_X4_65 X hw ((ho _ (by simp)).trans hx) rfl rfl (Nat.le_of_ble_eq_true rfl) dX4_put_136 (fun H locs hw => ?_)
        obtain ⟨k2, hk2⟩ : ∃ zz, zz = h_cu kk (20, 0, 0) (some (.inr (4, [.int 0, .int (nI (s_cop σ)), .int (nI (s_nS σ)), .ref (ad (20, 3, 0)), .ref (ad (20, 4, 0)), .ref (ad (20, 5, 0)), .ref (ad (20, 6, 0)), .int (nI (s_col σ).length), .ref (ad (20, 8, 0)), .int (nI ((s_nF σ) + 1)), .ref (ad (20, 10, 0)), .ref (ad (20, 11, 0)), .ref (ad (20, 12, 0)), .ref (ad (20, 13, 0)), .int (nI (s_as σ).length), .ref (ad (20, 15, 0)), .ref (ad (20, 16, 0)), .ref (ad (20, 17, 0)), .ref (ad (20, 18, 0)), .int (s_dg σ)]))) := ⟨_, rfl⟩
        replace hw := h_W.ren hw hk2
        have f2_20_0_0 : k2 (20, 0, 0) = some (.inr (4, [.int 0, .int (nI (s_cop σ)), .int (nI (s_nS σ)), .ref (ad (20, 3, 0)), .ref (ad (20, 4, 0)), .ref (ad (20, 5, 0)), .ref (ad (20, 6, 0)), .int (nI (s_col σ).length), .ref (ad (20, 8, 0)), .int (nI ((s_nF σ) + 1)), .ref (ad (20, 10, 0)), .ref (ad (20, 11, 0)), .ref (ad (20, 12, 0)), .ref (ad (20, 13, 0)), .int (nI (s_as σ).length), .ref (ad (20, 15, 0)), .ref (ad (20, 16, 0)), .ref (ad (20, 17, 0)), .ref (ad (20, 18, 0)), .int (s_dg σ)])) := by rw [hk2]; exact h_cs _ _ _
        have f2_20_4_0 : k2 (20, 4, 0) = some (.inl (G.2 2, 10, .inl gS)) := by rw [hk2, h_cn _ _ (by simp)]; exact ((ho _ (by simp)).trans eS)
        have f2_20_10_0 : k2 (20, 10, 0) = some (.inl (G.2 0, 40, .inl gK)) := by rw [hk2, h_cn _ _ (by simp)]; exact ((ho _ (by simp)).trans eK)
        have f2_20_18_0 : k2 (20, 18, 0) = some (.inl (G.2 0, 10, .inl gm)) := by rw [hk2, h_cn _ _ (by simp)]; exact gkm
        refine lv_aload_n X.1 X.2.1 dX4_put_139 rfl (lv_at hl 1 rfl) ?_
        refine gf_X4_27 X hw f2_20_0_0 rfl dX4_put_140 ?_
        refine lv_iload_n X.1 X.2.1 dX4_put_143 rfl (lv_at hl 0 rfl) ?_
        refine lv_iload_n X.1 X.2.1 dX4_put_144 rfl (lv_at hl 2 rfl) ?_
        refine h_iast X hw f2_20_10_0 (vp_in_nI (by omega) (by decide)) dX4_put_145 (fun H locs hw => ?_)
        obtain ⟨k3, hk3⟩ : ∃ zz, zz = h_cu k2 (20, 10, 0) (some (.inl (G.2 0, 40, .inl (upd gK (nI (s_nF σ)).toNatClampNeg x)))) := ⟨_, rfl⟩
        replace hw := h_W.ren hw hk3
        have f3_20_0_0 : k3 (20, 0, 0) = some (.inr (4, [.int 0, .int (nI (s_cop σ)), .int (nI (s_nS σ)), .ref (ad (20, 3, 0)), .ref (ad (20, 4, 0)), .ref (ad (20, 5, 0)), .ref (ad (20, 6, 0)), .int (nI (s_col σ).length), .ref (ad (20, 8, 0)), .int (nI ((s_nF σ) + 1)), .ref (ad (20, 10, 0)), .ref (ad (20, 11, 0)), .ref (ad (20, 12, 0)), .ref (ad (20, 13, 0)), .int (nI (s_as σ).length), .ref (ad (20, 15, 0)), .ref (ad (20, 16, 0)), .ref (ad (20, 17, 0)), .ref (ad (20, 18, 0)), .int (s_dg σ)])) := by rw [hk3, h_cn _ _ (by simp)]; exact f2_20_0_0
        have f3_20_4_0 : k3 (20, 4, 0) = some (.inl (G.2 2, 10, .inl gS)) := by rw [hk3, h_cn _ _ (by simp)]; exact f2_20_4_0
        have f3_20_10_0 : k3 (20, 10, 0) = some (.inl (G.2 0, 40, .inl (upd gK (nI (s_nF σ)).toNatClampNeg x))) := by rw [hk3]; exact h_cs _ _ _
        have f3_20_18_0 : k3 (20, 18, 0) = some (.inl (G.2 0, 10, .inl gm)) := by rw [hk3, h_cn _ _ (by simp)]; exact f2_20_18_0
        refine lv_iconst (v := 0) X.1 X.2.1 dX4_put_146 (by decide) ?_
        refine lv_istore (lv' := [(4, .int 0), (3, .int (nI (s_nF σ))), (0, .ref (ad (20, 0, 0))), (1, .int x)]) X.1 X.2.1 dX4_put_147 hl (by decide) rfl (fun ls hl => ?_)
        obtain ⟨k9, hk9⟩ : ∃ zz, zz = k3 := ⟨_, rfl⟩
        have h9 : ∀ t : h_T, t ≠ (20, 0, 0) → t ≠ (20, 10, 0) → t ≠ (20, 18, 0) → k9 t = k1 t := fun t n0 n1 n2 => by rw [hk9, hk3, h_cn _ _ n1, hk2, h_cn _ _ n0, ho t n2]
        have e9m : k9 (20, 18, 0) = some (.inl (G.2 0, 10, .inl gm)) := by rw [hk9]; exact f3_20_18_0
        have e9k := f3_20_10_0
        rw [← hk9] at e9k
        have e9a : k9 (20, 8, 0) = some (.inl (G.2 3, 16, .inl gA)) := (h9 _ (by simp) (by simp) (by simp)).trans eA
        have hmany : s_cop σ ≤ cN (fun s => !s_si σ s) (s_nS σ) := Nat.le_of_not_lt hm
        have loop3 : ∀ (n i : Nat), i ≤ s_nS σ → s_nS σ + 1 ≤ i + n → ∀ (kk : h_C) (gz gb : Nat → Int32) (H : Heap) (locs : List Loc), kk (20, 0, 0) = some (.inr (4, [.int 0, .int (nI (s_cop σ)), .int (nI (s_nS σ)), .ref (ad (20, 3, 0)), .ref (ad (20, 4, 0)), .ref (ad (20, 5, 0)), .ref (ad (20, 6, 0)), .int (nI (s_col σ).length), .ref (ad (20, 8, 0)), .int (nI (s_nF σ + 1)), .ref (ad (20, 10, 0)), .ref (ad (20, 11, 0)), .ref (ad (20, 12, 0)), .ref (ad (20, 13, 0)), .int (nI (s_as σ).length), .ref (ad (20, 15, 0)), .ref (ad (20, 16, 0)), .ref (ad (20, 17, 0)), .ref (ad (20, 18, 0)), .int (s_dg σ)])) → kk (20, 12, 0) = some (.inl (G.2 0, 400, .inl gz)) → kk (20, 13, 0) = some (.inl (G.2 3, 6400, .inl gb)) → m_pz σ i gz → m_pb σ i gb → (∀ t : h_T, t ≠ (20, 0, 0) → t ≠ (20, 12, 0) → t ≠ (20, 13, 0) → kk t = k9 t) → h_W G.1 h_cl (h_A ad k s.heap.size) s.heap ad kk H locs → ∀ (ls : Array Slot), lv_has ls 6 [(0, .ref (ad (20, 0, 0))), (3, .int (nI (s_nF σ))), (4, .int (nI i))] → W p l e (h_rm 2 46 0 0) s m args below meth c H locs 0 0 (MQ below (h_Qw G ad k s.heap.size (MPost G ad k (some (.int (if cN (fun s => !s_si σ s) (s_nS σ) < s_cop σ then (-3, σ) else if 40 ≤ s_nF σ then (-4, σ) else (nI (s_nF σ), s_put σ x)).1)) (if cN (fun s => !s_si σ s) (s_nS σ) < s_cop σ then (-3, σ) else if 40 ≤ s_nF σ then (-4, σ) else (nI (s_nF σ), s_put σ x)).2 0)) args s 0 0 (h_A ad k s.heap.size)) (F0 m 149 ls []) := by
          intro n
          induction n with
          | zero =>
            intro i h1 h2
            exact absurd h2 (by omega)
          | succ n ih =>
            intro i hii hni kk gz gb H locs gx gkz gkb hpz hpb ho hw ls hl
            have km : kk (20, 18, 0) = some (.inl (G.2 0, 10, .inl gm)) := (ho _ (by simp) (by simp) (by simp)).trans e9m
            have ka : kk (20, 8, 0) = some (.inl (G.2 3, 16, .inl gA)) := (ho _ (by simp) (by simp) (by simp)).trans e9a
            refine lv_iload X.1 X.2.1 dX4_put_149 (lv_at hl 2 rfl) ?_
            refine lv_aload_n X.1 X.2.1 dX4_put_151 rfl (lv_at hl 0 rfl) ?_
            refine gf_X4_58 X hw gx rfl dX4_put_152 ?_
            refine lv_icmp_ge (tgt := 240) X.1 X.2.1 dX4_put_155 (by decide) (fun c155 => ?_) (fun c155 => ?_)
            · obtain rfl : i = s_nS σ := Nat.le_antisymm hii (Nat.le_of_not_lt (fun q => absurd c155 (nI_ge (b := s_nS σ) q (by omega))))
              refine lv_aload_n X.1 X.2.1 dX4_put_240 rfl (lv_at hl 0 rfl) ?_
              refine lv_iconst (v := 0) X.1 X.2.1 dX4_put_241 (by decide) ?_
              refine pf_X4_79 X hw gx rfl rfl (Nat.le_of_ble_eq_true rfl) dX4_put_242 (fun H locs hw => ?_)
              obtain ⟨k2, hk2⟩ : ∃ zz, zz = h_cu kk (20, 0, 0) (some (.inr (4, [.int 0, .int (nI (s_cop σ)), .int (nI (s_nS σ)), .ref (ad (20, 3, 0)), .ref (ad (20, 4, 0)), .ref (ad (20, 5, 0)), .ref (ad (20, 6, 0)), .int 0, .ref (ad (20, 8, 0)), .int (nI (s_nF σ + 1)), .ref (ad (20, 10, 0)), .ref (ad (20, 11, 0)), .ref (ad (20, 12, 0)), .ref (ad (20, 13, 0)), .int (nI (s_as σ).length), .ref (ad (20, 15, 0)), .ref (ad (20, 16, 0)), .ref (ad (20, 17, 0)), .ref (ad (20, 18, 0)), .int (s_dg σ)]))) := ⟨_, rfl⟩
              replace hw := h_W.ren hw hk2
              have f2_20_0_0 : k2 (20, 0, 0) = some (.inr (4, [.int 0, .int (nI (s_cop σ)), .int (nI (s_nS σ)), .ref (ad (20, 3, 0)), .ref (ad (20, 4, 0)), .ref (ad (20, 5, 0)), .ref (ad (20, 6, 0)), .int 0, .ref (ad (20, 8, 0)), .int (nI (s_nF σ + 1)), .ref (ad (20, 10, 0)), .ref (ad (20, 11, 0)), .ref (ad (20, 12, 0)), .ref (ad (20, 13, 0)), .int (nI (s_as σ).length), .ref (ad (20, 15, 0)), .ref (ad (20, 16, 0)), .ref (ad (20, 17, 0)), .ref (ad (20, 18, 0)), .int (s_dg σ)])) := by rw [hk2]; exact h_cs _ _ _
              have f2_20_8_0 : k2 (20, 8, 0) = some (.inl (G.2 3, 16, .inl gA)) := by rw [hk2, h_cn _ _ (by simp)]; exact ka
              have f2_20_12_0 : k2 (20, 12, 0) = some (.inl (G.2 0, 400, .inl gz)) := by rw [hk2, h_cn _ _ (by simp)]; exact gkz
              have f2_20_13_0 : k2 (20, 13, 0) = some (.inl (G.2 3, 6400, .inl gb)) := by rw [hk2, h_cn _ _ (by simp)]; exact gkb
              have f2_20_18_0 : k2 (20, 18, 0) = some (.inl (G.2 0, 10, .inl gm)) := by rw [hk2, h_cn _ _ (by simp)]; exact km
              refine lv_iload_n X.1 X.2.1 dX4_put_245 rfl (lv_at hl 1 rfl) ?_
              have hO : ∀ t : h_T, t ≠ (20, 0, 0) → t ≠ (20, 12, 0) → t ≠ (20, 13, 0) → k2 t = k9 t := fun t n0 n1 n2 => by rw [hk2, h_cn _ _ n0, ho t n0 n1 n2]
              have q : ∀ j, j ≠ 0 → j ≠ 12 → j ≠ 13 → k2 (20, j, 0) = k9 (20, j, 0) := fun j h0 h1 h2 => hO _ (by simp [h0]) (by simp [h1]) (by simp [h2])
              have q9 : ∀ j, j ≠ 0 → j ≠ 10 → j ≠ 12 → j ≠ 13 → j ≠ 18 → k2 (20, j, 0) = k1 (20, j, 0) := fun j h0 h3 h1 h2 h4 => by rw [q j h0 h1 h2, h9 _ (by simp [h0]) (by simp [h3]) (by simp [h4])]
              rw [if_neg hm, if_neg h40]
              exact h_iretW X Y hw ⟨rfl, rfl, ⟨f2_20_0_0, ⟨gP, (q9 _ (by decide) (by decide) (by decide) (by decide) (by decide)).trans eP, vP⟩, ⟨gS, (q9 _ (by decide) (by decide) (by decide) (by decide) (by decide)).trans eS, vS⟩, ⟨gU, (q9 _ (by decide) (by decide) (by decide) (by decide) (by decide)).trans eU, vU⟩, ⟨gD, (q9 _ (by decide) (by decide) (by decide) (by decide) (by decide)).trans eD, vD⟩, ⟨gA, (q9 _ (by decide) (by decide) (by decide) (by decide) (by decide)).trans eA, fun a ha => absurd ha (Nat.not_lt_zero a)⟩, ⟨_, (q _ (by decide) (by decide) (by decide)).trans e9k, fun f hf => by
                have hf : f < s_nF σ + 1 := hf
                rw [nI_clamp (by omega)]
                show _ = upd (s_pk σ) (s_nF σ) x f
                by_cases z : f = s_nF σ
                · rw [z, pk_us, pk_us]
                · rw [pk_un z, pk_un z]; exact vK f (by omega)⟩, ⟨gN, (q9 _ (by decide) (by decide) (by decide) (by decide) (by decide)).trans eN, vN⟩, ⟨gz, f2_20_12_0, fun a f ha hf => by
                rw [hpz a f ha hf, msz_o]
                show _ = m_zo (if f = s_nF σ then (if s_chN σ (s_cop σ) a then some (s_col σ) else none) else s_cp σ a f)
                by_cases z : f = s_nF σ
                · rw [if_pos z, if_pos z]
                  cases hc : s_chN σ (s_cop σ) a with
                  | false => rw [Bool.and_false]
                  | true => rw [Bool.and_true, decide_eq_true (chN_lt hc)]
                · rw [if_neg z, if_neg z]⟩, ⟨gb, f2_20_13_0, fun a f b hb => by
                have hb : (if f = s_nF σ then (if s_chN σ (s_cop σ) a then some (s_col σ) else none) else s_cp σ a f) = some b := hb
                by_cases z : f = s_nF σ
                · rw [if_pos z] at hb
                  cases hc : s_chN σ (s_cop σ) a with
                  | false => rw [hc] at hb; cases hb
                  | true =>
                    rw [hc] at hb
                    cases hb
                    rw [z]
                    exact hpb.2 a (chN_lt hc) hc
                · rw [if_neg z] at hb
                  exact hpb.1 a f b hb⟩, ⟨g0, g1, g2, (q9 _ (by decide) (by decide) (by decide) (by decide) (by decide)).trans e15, (q9 _ (by decide) (by decide) (by decide) (by decide) (by decide)).trans e16, (q9 _ (by decide) (by decide) (by decide) (by decide) (by decide)).trans e17, v3⟩, ⟨gm, (q _ (by decide) (by decide) (by decide)).trans e9m⟩, ok_put hok (by omega) x⟩, fun t ht => by rw [hO t (t_ne20 ht) (t_ne20 ht) (t_ne20 ht), h9 t (t_ne20 ht) (t_ne20 ht) (t_ne20 ht), hk1, h_cn _ _ (t_ne20 ht)]⟩ (Nat.zero_le _) (Nat.zero_le _) dX4_put_246
            · have hib : i < s_nS σ := Nat.lt_of_not_le (fun q => c155 (nI_le q (by omega)))
              have hrl := rk_le σ i
              rcases put_cases hmany i hib with ⟨hsi, hch⟩ | ⟨hsi, hrk, hch⟩ | ⟨hsi, hrk, hch⟩
              · refine lv_aload_n X.1 X.2.1 dX4_put_158 rfl (lv_at hl 0 rfl) ?_
                refine gf_X4_48 X hw gx rfl dX4_put_159 ?_
                refine lv_iload X.1 X.2.1 dX4_put_162 (lv_at hl 2 rfl) ?_
                refine h_iald X hw km (vp_in_nI (by omega) (by decide)) dX4_put_164 ?_
                refine h_tv (b := .int 100) (by rw [nI_clamp (by omega), hgm i hib, hsi]; rfl) ?_
                refine lv_aload_n X.1 X.2.1 dX4_put_165 rfl (lv_at hl 0 rfl) ?_
                refine gf_X4_51 X hw gx rfl dX4_put_166 ?_
                refine lv_icmp_lt (tgt := 175) X.1 X.2.1 dX4_put_169 (by decide) (fun c169 => ?_) (fun c169 => ?_)
                · exact absurd c169 (nI_nlt (a := 100) (by omega) (by omega))
                · refine lv_goto (tgt := 234) X.1 X.2.1 dX4_put_172 (by decide) ?_
                  refine lv_iinc (v := nI (i + 1)) (lv' := [(4, .int (nI (i + 1))), (0, .ref (ad (20, 0, 0))), (3, .int (nI (s_nF σ)))]) X.1 X.2.1 dX4_put_234 hl (k := 2) rfl (nI_1 _) (by decide) rfl (fun ls hl => ?_)
                  refine lv_goto (tgt := 149) X.1 X.2.1 dX4_put_237 (by decide) ?_
                  exact ih (i + 1) (by omega) (by omega) kk gz gb _ _ gx gkz gkb (pz_no hpz hch) (pb_no hpb hch) ho hw ls (lv_sub hl [1, 2, 0] rfl)
              · refine lv_aload_n X.1 X.2.1 dX4_put_158 rfl (lv_at hl 0 rfl) ?_
                refine gf_X4_48 X hw gx rfl dX4_put_159 ?_
                refine lv_iload X.1 X.2.1 dX4_put_162 (lv_at hl 2 rfl) ?_
                refine h_iald X hw km (vp_in_nI (by omega) (by decide)) dX4_put_164 ?_
                refine h_tv (b := .int (nI (s_rk σ i))) (by rw [nI_clamp (by omega), hgm i hib, hsi]; rfl) ?_
                refine lv_aload_n X.1 X.2.1 dX4_put_165 rfl (lv_at hl 0 rfl) ?_
                refine gf_X4_51 X hw gx rfl dX4_put_166 ?_
                refine lv_icmp_lt (tgt := 175) X.1 X.2.1 dX4_put_169 (by decide) (fun c169 => ?_) (fun c169 => ?_)
                · exact absurd c169 (nI_nlt (by omega) (by omega))
                · refine lv_goto (tgt := 234) X.1 X.2.1 dX4_put_172 (by decide) ?_
                  refine lv_iinc (v := nI (i + 1)) (lv' := [(4, .int (nI (i + 1))), (0, .ref (ad (20, 0, 0))), (3, .int (nI (s_nF σ)))]) X.1 X.2.1 dX4_put_234 hl (k := 2) rfl (nI_1 _) (by decide) rfl (fun ls hl => ?_)
                  refine lv_goto (tgt := 149) X.1 X.2.1 dX4_put_237 (by decide) ?_
                  exact ih (i + 1) (by omega) (by omega) kk gz gb _ _ gx gkz gkb (pz_no hpz hch) (pb_no hpb hch) ho hw ls (lv_sub hl [1, 2, 0] rfl)
              · refine lv_aload_n X.1 X.2.1 dX4_put_158 rfl (lv_at hl 0 rfl) ?_
                refine gf_X4_48 X hw gx rfl dX4_put_159 ?_
                refine lv_iload X.1 X.2.1 dX4_put_162 (lv_at hl 2 rfl) ?_
                refine h_iald X hw km (vp_in_nI (by omega) (by decide)) dX4_put_164 ?_
                refine h_tv (b := .int (nI (s_rk σ i))) (by rw [nI_clamp (by omega), hgm i hib, hsi]; rfl) ?_
                refine lv_aload_n X.1 X.2.1 dX4_put_165 rfl (lv_at hl 0 rfl) ?_
                refine gf_X4_51 X hw gx rfl dX4_put_166 ?_
                refine lv_icmp_lt (tgt := 175) X.1 X.2.1 dX4_put_169 (by decide) (fun c169 => ?_) (fun c169 => ?_)
                · refine lv_aload_n X.1 X.2.1 dX4_put_175 rfl (lv_at hl 0 rfl) ?_
                  refine gf_X4_33 X hw gx rfl dX4_put_176 ?_
                  refine lv_bipush (v := 40) X.1 X.2.1 dX4_put_179 (by decide) ?_
                  refine lv_iload X.1 X.2.1 dX4_put_181 (lv_at hl 2 rfl) ?_
                  refine lv_imul X.1 X.2.1 dX4_put_183 ?_
                  refine h_ti (b := nI (40 * i)) (pk_mul 40 i) ?_
                  refine lv_iload_n X.1 X.2.1 dX4_put_184 rfl (lv_at hl 1 rfl) ?_
                  refine lv_iadd X.1 X.2.1 dX4_put_185 ?_
                  refine h_ti (b := nI ((40 * i) + (s_nF σ))) (nI_add (40 * i) (s_nF σ)) ?_
                  refine lv_aload_n X.1 X.2.1 dX4_put_186 rfl (lv_at hl 0 rfl) ?_
                  refine gf_X4_79 X hw gx rfl dX4_put_187 ?_
                  refine h_iast X hw gkz (vp_in_nI (by omega) (by decide)) dX4_put_190 (fun H locs hw => ?_)
                  obtain ⟨k2, hk2⟩ : ∃ zz, zz = h_cu kk (20, 12, 0) (some (.inl (G.2 0, 400, .inl (upd gz (nI (40 * i + (s_nF σ))).toNatClampNeg (nI (s_col σ).length))))) := ⟨_, rfl⟩
                  replace hw := h_W.ren hw hk2
                  have f2_20_0_0 : k2 (20, 0, 0) = some (.inr (4, [.int 0, .int (nI (s_cop σ)), .int (nI (s_nS σ)), .ref (ad (20, 3, 0)), .ref (ad (20, 4, 0)), .ref (ad (20, 5, 0)), .ref (ad (20, 6, 0)), .int (nI (s_col σ).length), .ref (ad (20, 8, 0)), .int (nI (s_nF σ + 1)), .ref (ad (20, 10, 0)), .ref (ad (20, 11, 0)), .ref (ad (20, 12, 0)), .ref (ad (20, 13, 0)), .int (nI (s_as σ).length), .ref (ad (20, 15, 0)), .ref (ad (20, 16, 0)), .ref (ad (20, 17, 0)), .ref (ad (20, 18, 0)), .int (s_dg σ)])) := by rw [hk2, h_cn _ _ (by simp)]; exact gx
                  have f2_20_8_0 : k2 (20, 8, 0) = some (.inl (G.2 3, 16, .inl gA)) := by rw [hk2, h_cn _ _ (by simp)]; exact ka
                  have f2_20_12_0 : k2 (20, 12, 0) = some (.inl (G.2 0, 400, .inl (upd gz (nI (40 * i + (s_nF σ))).toNatClampNeg (nI (s_col σ).length)))) := by rw [hk2]; exact h_cs _ _ _
                  have f2_20_13_0 : k2 (20, 13, 0) = some (.inl (G.2 3, 6400, .inl gb)) := by rw [hk2, h_cn _ _ (by simp)]; exact gkb
                  have f2_20_18_0 : k2 (20, 18, 0) = some (.inl (G.2 0, 10, .inl gm)) := by rw [hk2, h_cn _ _ (by simp)]; exact km
                  refine lv_iconst (v := 0) X.1 X.2.1 dX4_put_191 (by decide) ?_
                  refine lv_istore (lv' := [(5, .int 0), (0, .ref (ad (20, 0, 0))), (3, .int (nI (s_nF σ))), (4, .int (nI i))]) X.1 X.2.1 dX4_put_192 hl (by decide) rfl (fun ls hl => ?_)
                  have loop4 : ∀ (n a : Nat), a ≤ (s_col σ).length → (s_col σ).length + 1 ≤ a + n → ∀ (k4 : h_C) (gb4 : Nat → Int32) (H : Heap) (locs : List Loc), k4 (20, 13, 0) = some (.inl (G.2 3, 6400, .inl gb4)) → (∀ t : h_T, t ≠ (20, 13, 0) → k4 t = k2 t) → (∀ n, ¬ (16 * (40 * i + s_nF σ) ≤ n ∧ n < 16 * (40 * i + s_nF σ) + 16) → gb4 n = gb n) → (∀ c, c < a → gb4 (16 * (40 * i + s_nF σ) + c) &&& 255 = (s_col σ).getD c 0) → h_W G.1 h_cl (h_A ad k s.heap.size) s.heap ad k4 H locs → ∀ (ls : Array Slot), lv_has ls 6 [(0, .ref (ad (20, 0, 0))), (3, .int (nI (s_nF σ))), (4, .int (nI i)), (5, .int (nI a))] → W p l e (h_rm 2 46 0 0) s m args below meth c H locs 0 0 (MQ below (h_Qw G ad k s.heap.size (MPost G ad k (some (.int (if cN (fun s => !s_si σ s) (s_nS σ) < s_cop σ then (-3, σ) else if 40 ≤ s_nF σ then (-4, σ) else (nI (s_nF σ), s_put σ x)).1)) (if cN (fun s => !s_si σ s) (s_nS σ) < s_cop σ then (-3, σ) else if 40 ≤ s_nF σ then (-4, σ) else (nI (s_nF σ), s_put σ x)).2 0)) args s 0 0 (h_A ad k s.heap.size)) (F0 m 194 ls []) := by
                    intro n
                    induction n with
                    | zero =>
                      intro a h1 h2
                      exact absurd h2 (by omega)
                    | succ n ih4 =>
                      intro a hia hna k4 gb4 H locs gk4 ho4 hb4 hc4 hw ls hl
                      have gx4 : k4 (20, 0, 0) = some (.inr (4, [.int 0, .int (nI (s_cop σ)), .int (nI (s_nS σ)), .ref (ad (20, 3, 0)), .ref (ad (20, 4, 0)), .ref (ad (20, 5, 0)), .ref (ad (20, 6, 0)), .int (nI (s_col σ).length), .ref (ad (20, 8, 0)), .int (nI (s_nF σ + 1)), .ref (ad (20, 10, 0)), .ref (ad (20, 11, 0)), .ref (ad (20, 12, 0)), .ref (ad (20, 13, 0)), .int (nI (s_as σ).length), .ref (ad (20, 15, 0)), .ref (ad (20, 16, 0)), .ref (ad (20, 17, 0)), .ref (ad (20, 18, 0)), .int (s_dg σ)])) := (ho4 _ (by simp)).trans f2_20_0_0
                      have ka4 : k4 (20, 8, 0) = some (.inl (G.2 3, 16, .inl gA)) := (ho4 _ (by simp)).trans f2_20_8_0
                      refine lv_iload X.1 X.2.1 dX4_put_194 (lv_at hl 3 rfl) ?_
                      refine lv_aload_n X.1 X.2.1 dX4_put_196 rfl (lv_at hl 0 rfl) ?_
                      refine gf_X4_79 X hw gx4 rfl dX4_put_197 ?_
                      refine lv_icmp_ge (tgt := 234) X.1 X.2.1 dX4_put_200 (by decide) (fun c200 => ?_) (fun c200 => ?_)
                      · refine lv_iinc (v := nI (i + 1)) (lv' := [(4, .int (nI (i + 1))), (0, .ref (ad (20, 0, 0))), (3, .int (nI (s_nF σ))), (5, .int (nI a))]) X.1 X.2.1 dX4_put_234 hl (k := 2) rfl (nI_1 _) (by decide) rfl (fun ls hl => ?_)
                        refine lv_goto (tgt := 149) X.1 X.2.1 dX4_put_237 (by decide) ?_
                        obtain rfl : a = (s_col σ).length := Nat.le_antisymm hia (Nat.le_of_not_lt (fun q => absurd c200 (nI_ge (b := (s_col σ).length) q (by omega))))
                        exact ih (i + 1) (by omega) (by omega) k4 _ _ _ _ gx4 ((ho4 _ (by simp)).trans f2_20_12_0) gk4 (by rw [nI_clamp (by omega)]; exact pz_yes hpz hch (by omega)) (pb_yes hok hpb (by omega) hb4 hc4) (fun t n0 n1 n2 => by rw [ho4 t n2, hk2, h_cn _ _ n1, ho t n0 n1 n2]) hw ls (lv_sub hl [1, 2, 0] rfl)
                      · have hab : a < (s_col σ).length := Nat.lt_of_not_le (fun q => c200 (nI_le q (by omega)))
                        refine lv_aload_n X.1 X.2.1 dX4_put_203 rfl (lv_at hl 0 rfl) ?_
                        refine gf_X4_36 X hw gx4 rfl dX4_put_204 ?_
                        refine lv_bipush (v := 16) X.1 X.2.1 dX4_put_207 (by decide) ?_
                        refine lv_bipush (v := 40) X.1 X.2.1 dX4_put_209 (by decide) ?_
                        refine lv_iload X.1 X.2.1 dX4_put_211 (lv_at hl 2 rfl) ?_
                        refine lv_imul X.1 X.2.1 dX4_put_213 ?_
                        refine h_ti (b := nI (40 * i)) (pk_mul 40 i) ?_
                        refine lv_iload_n X.1 X.2.1 dX4_put_214 rfl (lv_at hl 1 rfl) ?_
                        refine lv_iadd X.1 X.2.1 dX4_put_215 ?_
                        refine h_ti (b := nI ((40 * i) + (s_nF σ))) (nI_add (40 * i) (s_nF σ)) ?_
                        refine lv_imul X.1 X.2.1 dX4_put_216 ?_
                        refine h_ti (b := nI (16 * ((40 * i) + (s_nF σ)))) (pk_mul 16 ((40 * i) + (s_nF σ))) ?_
                        refine lv_iload X.1 X.2.1 dX4_put_217 (lv_at hl 3 rfl) ?_
                        refine lv_iadd X.1 X.2.1 dX4_put_219 ?_
                        refine h_ti (b := nI ((16 * ((40 * i) + (s_nF σ))) + a)) (nI_add (16 * ((40 * i) + (s_nF σ))) a) ?_
                        refine lv_aload_n X.1 X.2.1 dX4_put_220 rfl (lv_at hl 0 rfl) ?_
                        refine gf_X4_23 X hw gx4 rfl dX4_put_221 ?_
                        refine lv_iload X.1 X.2.1 dX4_put_224 (lv_at hl 3 rfl) ?_
                        refine h_bald X hw ka4 (vp_in_nI (by omega) (by decide)) dX4_put_226 ?_
                        refine h_tv (b := .int (gA a)) (by rw [nI_clamp (by omega)]) ?_
                        refine h_bast X hw gk4 (vp_in_nI (by omega) (by decide)) dX4_put_227 (fun H locs hw => ?_)
                        obtain ⟨k5, hk5⟩ : ∃ zz, zz = h_cu k4 (20, 13, 0) (some (.inl (G.2 3, 6400, .inl (upd gb4 (nI (16 * (40 * i + (s_nF σ)) + a)).toNatClampNeg (vp_nar .byte (gA a)))))) := ⟨_, rfl⟩
                        replace hw := h_W.ren hw hk5
                        have f5_20_0_0 : k5 (20, 0, 0) = some (.inr (4, [.int 0, .int (nI (s_cop σ)), .int (nI (s_nS σ)), .ref (ad (20, 3, 0)), .ref (ad (20, 4, 0)), .ref (ad (20, 5, 0)), .ref (ad (20, 6, 0)), .int (nI (s_col σ).length), .ref (ad (20, 8, 0)), .int (nI (s_nF σ + 1)), .ref (ad (20, 10, 0)), .ref (ad (20, 11, 0)), .ref (ad (20, 12, 0)), .ref (ad (20, 13, 0)), .int (nI (s_as σ).length), .ref (ad (20, 15, 0)), .ref (ad (20, 16, 0)), .ref (ad (20, 17, 0)), .ref (ad (20, 18, 0)), .int (s_dg σ)])) := by rw [hk5, h_cn _ _ (by simp)]; exact gx4
                        have f5_20_8_0 : k5 (20, 8, 0) = some (.inl (G.2 3, 16, .inl gA)) := by rw [hk5, h_cn _ _ (by simp)]; exact ka4
                        have f5_20_13_0 : k5 (20, 13, 0) = some (.inl (G.2 3, 6400, .inl (upd gb4 (nI (16 * (40 * i + (s_nF σ)) + a)).toNatClampNeg (vp_nar .byte (gA a))))) := by rw [hk5]; exact h_cs _ _ _
                        refine lv_iinc (v := nI (a + 1)) (lv' := [(5, .int (nI (a + 1))), (0, .ref (ad (20, 0, 0))), (3, .int (nI (s_nF σ))), (4, .int (nI i))]) X.1 X.2.1 dX4_put_228 hl (k := 3) rfl (nI_1 _) (by decide) rfl (fun ls hl => ?_)
                        refine lv_goto (tgt := 194) X.1 X.2.1 dX4_put_231 (by decide) ?_
                        exact ih4 (a + 1) (by omega) (by omega) k5 _ _ _ f5_20_13_0 (fun t ht => by rw [hk5, h_cn _ _ ht, ho4 t ht]) (fun n hn => by
                          rw [nI_clamp (by omega), pk_un (by omega)]; exact hb4 n hn) (nlt_s (fun c hc => by
                          rw [nI_clamp (by omega), pk_un (by omega)]; exact hc4 c hc) (by
                          rw [nI_clamp (by omega), pk_us, byte_nar]; exact vA a hab)) hw ls (lv_sub hl [1, 2, 3, 0] rfl)
                  exact loop4 ((s_col σ).length + 1) 0 (by omega) (by omega) k2 gb _ _ f2_20_13_0 (fun _ _ => rfl) (fun _ _ => rfl) (fun c hc => absurd hc (Nat.not_lt_zero c)) hw ls (lv_sub hl [1, 2, 3, 0] rfl)
                · exact absurd (nI_lt hrk (by omega)) c169
        exact loop3 (s_nS σ + 1) 0 (by omega) (by omega) k9 gZ gB _ _ (by rw [hk9]; exact f3_20_0_0) ((h9 _ (by simp) (by simp) (by simp)).trans eZ) ((h9 _ (by simp) (by simp) (by simp)).trans eB) (fun a f ha hf => by
          rw [vZ a f ha hf, msz_o]
          by_cases z : f = s_nF σ
          · rw [if_pos z, decide_eq_false (Nat.not_lt_zero a), Bool.false_and]
            rw [hok.2.2.2.2.2.1 a f (Or.inr (by omega))]
            rfl
          · rw [if_neg z]) ⟨vB, fun a ha => absurd ha (Nat.not_lt_zero a)⟩ (fun _ _ _ _ => rfl) (by rw [hk9]; exact hw) ls (lv_sub hl [2, 1, 0] rfl)
      · have hib : i < s_nS σ := Nat.lt_of_not_le (fun q => c90 (nI_le q (by omega)))
        rcases hsi : s_si σ i with _ | _
        · refine lv_aload_n X.1 X.2.1 dX4_put_93 rfl (lv_at hl 0 rfl) ?_
          refine gf_X4_48 X hw ((ho _ (by simp)).trans hx) rfl dX4_put_94 ?_
          refine lv_iload_n X.1 X.2.1 dX4_put_97 rfl (lv_at hl 2 rfl) ?_
          refine lv_aload_n X.1 X.2.1 dX4_put_98 rfl (lv_at hl 0 rfl) ?_
          refine gf_X4_13 X hw ((ho _ (by simp)).trans hx) rfl dX4_put_99 ?_
          refine lv_iload_n X.1 X.2.1 dX4_put_102 rfl (lv_at hl 2 rfl) ?_
          refine h_zald X hw ((ho _ (by simp)).trans eS) (vp_in_nI (by omega) (by decide)) dX4_put_103 ?_
          refine h_tv (b := .int 0) (by rw [nI_clamp (by omega), vS i (by omega), hsi, bI_f]) ?_
          refine lv_if_eq (tgt := 112) X.1 X.2.1 dX4_put_104 (by decide) (fun c104 => ?_) (fun c104 => ?_)
          · refine lv_aload_n X.1 X.2.1 dX4_put_112 rfl (lv_at hl 0 rfl) ?_
            refine lv_iload_n X.1 X.2.1 dX4_put_113 rfl (lv_at hl 2 rfl) ?_
            refine h_callRV (t := (20, 0, 0)) (As := [.int (nI i)]) (rest := [.int (nI i), .ref (ad (20, 18, 0))]) X hw cs_X4_86 (c_X4_ahead l G (hM1.mx gkm ho) hib) ((ho _ (by simp)).trans hx) rfl rfl hl.1 rfl (Nat.le_of_ble_eq_true rfl) ⟨by decide, by decide⟩ ⟨Nat.zero_le _, Nat.zero_le _⟩ dX4_put_114 ?_
            refine h_iast X hw gkm (vp_in_nI (by omega) (by decide)) dX4_put_117 (fun H locs hw => ?_)
            obtain ⟨k2, hk2⟩ : ∃ zz, zz = h_cu kk (20, 18, 0) (some (.inl (G.2 0, 10, .inl (upd gm (nI i).toNatClampNeg (nI (s_rk σ i)))))) := ⟨_, rfl⟩
            replace hw := h_W.ren hw hk2
            have f2_20_0_0 : k2 (20, 0, 0) = some (.inr (4, [.int 0, .int (nI (s_cop σ)), .int (nI (s_nS σ)), .ref (ad (20, 3, 0)), .ref (ad (20, 4, 0)), .ref (ad (20, 5, 0)), .ref (ad (20, 6, 0)), .int (nI (s_col σ).length), .ref (ad (20, 8, 0)), .int (nI (s_nF σ)), .ref (ad (20, 10, 0)), .ref (ad (20, 11, 0)), .ref (ad (20, 12, 0)), .ref (ad (20, 13, 0)), .int (nI (s_as σ).length), .ref (ad (20, 15, 0)), .ref (ad (20, 16, 0)), .ref (ad (20, 17, 0)), .ref (ad (20, 18, 0)), .int (s_dg σ)])) := by rw [hk2, h_cn _ _ (by simp)]; exact ((ho _ (by simp)).trans hx)
            have f2_20_4_0 : k2 (20, 4, 0) = some (.inl (G.2 2, 10, .inl gS)) := by rw [hk2, h_cn _ _ (by simp)]; exact ((ho _ (by simp)).trans eS)
            have f2_20_10_0 : k2 (20, 10, 0) = some (.inl (G.2 0, 40, .inl gK)) := by rw [hk2, h_cn _ _ (by simp)]; exact ((ho _ (by simp)).trans eK)
            have f2_20_18_0 : k2 (20, 18, 0) = some (.inl (G.2 0, 10, .inl (upd gm (nI i).toNatClampNeg (nI (s_rk σ i))))) := by rw [hk2]; exact h_cs _ _ _
            refine lv_iinc (v := nI (i + 1)) (lv' := [(3, .int (nI (i + 1))), (0, .ref (ad (20, 0, 0))), (1, .int x)]) X.1 X.2.1 dX4_put_118 hl (k := 2) rfl (nI_1 _) (by decide) rfl (fun ls hl => ?_)
            refine lv_goto (tgt := 85) X.1 X.2.1 dX4_put_121 (by decide) ?_
            exact ih (i + 1) (by omega) (by omega) hm h40 k2 _ _ _ f2_20_18_0 (nlt_s (fun c hc => by
              rw [nI_clamp (by omega), pk_un (by omega)]; exact hgm c hc) (by
              rw [nI_clamp (by omega), pk_us, hsi]; rfl)) (fun t ht => by rw [hk2, h_cn _ _ ht, ho t ht]) hw ls (lv_sub hl [1, 2, 0] rfl)
          · exact absurd (by decide) c104
        · refine lv_aload_n X.1 X.2.1 dX4_put_93 rfl (lv_at hl 0 rfl) ?_
          refine gf_X4_48 X hw ((ho _ (by simp)).trans hx) rfl dX4_put_94 ?_
          refine lv_iload_n X.1 X.2.1 dX4_put_97 rfl (lv_at hl 2 rfl) ?_
          refine lv_aload_n X.1 X.2.1 dX4_put_98 rfl (lv_at hl 0 rfl) ?_
          refine gf_X4_13 X hw ((ho _ (by simp)).trans hx) rfl dX4_put_99 ?_
          refine lv_iload_n X.1 X.2.1 dX4_put_102 rfl (lv_at hl 2 rfl) ?_
          refine h_zald X hw ((ho _ (by simp)).trans eS) (vp_in_nI (by omega) (by decide)) dX4_put_103 ?_
          refine h_tv (b := .int 1) (by rw [nI_clamp (by omega), vS i (by omega), hsi, bI_t]) ?_
          refine lv_if_eq (tgt := 112) X.1 X.2.1 dX4_put_104 (by decide) (fun c104 => ?_) (fun c104 => ?_)
          · exact absurd c104 (by decide)
          · refine lv_bipush (v := 100) X.1 X.2.1 dX4_put_107 (by decide) ?_
            refine lv_goto (tgt := 117) X.1 X.2.1 dX4_put_109 (by decide) ?_
            refine h_iast X hw gkm (vp_in_nI (by omega) (by decide)) dX4_put_117 (fun H locs hw => ?_)
            obtain ⟨k2, hk2⟩ : ∃ zz, zz = h_cu kk (20, 18, 0) (some (.inl (G.2 0, 10, .inl (upd gm (nI i).toNatClampNeg 100)))) := ⟨_, rfl⟩
            replace hw := h_W.ren hw hk2
            have f2_20_0_0 : k2 (20, 0, 0) = some (.inr (4, [.int 0, .int (nI (s_cop σ)), .int (nI (s_nS σ)), .ref (ad (20, 3, 0)), .ref (ad (20, 4, 0)), .ref (ad (20, 5, 0)), .ref (ad (20, 6, 0)), .int (nI (s_col σ).length), .ref (ad (20, 8, 0)), .int (nI (s_nF σ)), .ref (ad (20, 10, 0)), .ref (ad (20, 11, 0)), .ref (ad (20, 12, 0)), .ref (ad (20, 13, 0)), .int (nI (s_as σ).length), .ref (ad (20, 15, 0)), .ref (ad (20, 16, 0)), .ref (ad (20, 17, 0)), .ref (ad (20, 18, 0)), .int (s_dg σ)])) := by rw [hk2, h_cn _ _ (by simp)]; exact ((ho _ (by simp)).trans hx)
            have f2_20_4_0 : k2 (20, 4, 0) = some (.inl (G.2 2, 10, .inl gS)) := by rw [hk2, h_cn _ _ (by simp)]; exact ((ho _ (by simp)).trans eS)
            have f2_20_10_0 : k2 (20, 10, 0) = some (.inl (G.2 0, 40, .inl gK)) := by rw [hk2, h_cn _ _ (by simp)]; exact ((ho _ (by simp)).trans eK)
            have f2_20_18_0 : k2 (20, 18, 0) = some (.inl (G.2 0, 10, .inl (upd gm (nI i).toNatClampNeg 100))) := by rw [hk2]; exact h_cs _ _ _
            refine lv_iinc (v := nI (i + 1)) (lv' := [(3, .int (nI (i + 1))), (0, .ref (ad (20, 0, 0))), (1, .int x)]) X.1 X.2.1 dX4_put_118 hl (k := 2) rfl (nI_1 _) (by decide) rfl (fun ls hl => ?_)
            refine lv_goto (tgt := 85) X.1 X.2.1 dX4_put_121 (by decide) ?_
            exact ih (i + 1) (by omega) (by omega) hm h40 k2 _ _ _ f2_20_18_0 (nlt_s (fun c hc => by
              rw [nI_clamp (by omega), pk_un (by omega)]; exact hgm c hc) (by
              rw [nI_clamp (by omega), pk_us, hsi]; rfl)) (fun t ht => by rw [hk2, h_cn _ _ ht, ho t ht]) hw ls (lv_sub hl [1, 2, 0] rfl)
  have loop1 : ∀ (n i : Nat), i ≤ s_nS σ → s_nS σ + 1 ≤ i + n → ∀ (ls : Array Slot), lv_has ls 6 [(0, .ref (ad (20, 0, 0))), (1, .int x), (2, .int (nI (cN (fun s => !s_si σ s) i))), (3, .int (nI i))] → W p l e (h_rm 2 46 0 0) s m args below meth c H locs 0 0 (MQ below (h_Qw G ad k s.heap.size (MPost G ad k (some (.int (if cN (fun s => !s_si σ s) (s_nS σ) < s_cop σ then (-3, σ) else if 40 ≤ s_nF σ then (-4, σ) else (nI (s_nF σ), s_put σ x)).1)) (if cN (fun s => !s_si σ s) (s_nS σ) < s_cop σ then (-3, σ) else if 40 ≤ s_nF σ then (-4, σ) else (nI (s_nF σ), s_put σ x)).2 0)) args s 0 0 (h_A ad k s.heap.size)) (F0 m 29 ls []) := by
    intro n
    induction n with
    | zero =>
      intro i h1 h2
      exact absurd h2 (by omega)
    | succ n ih =>
      intro i hii hni  ls hl
      refine lv_iload_n X.1 X.2.1 dX4_put_29 rfl (lv_at hl 3 rfl) ?_
      refine lv_aload_n X.1 X.2.1 dX4_put_30 rfl (lv_at hl 0 rfl) ?_
      refine gf_X4_58 X hw hx rfl dX4_put_31 ?_
      refine lv_icmp_ge (tgt := 60) X.1 X.2.1 dX4_put_34 (by decide) (fun c34 => ?_) (fun c34 => ?_)
      · obtain rfl : i = s_nS σ := Nat.le_antisymm hii (Nat.le_of_not_lt (fun q => absurd c34 (nI_ge (b := s_nS σ) q (by omega))))
        refine lv_iload_n X.1 X.2.1 dX4_put_60 rfl (lv_at hl 2 rfl) ?_
        refine lv_aload_n X.1 X.2.1 dX4_put_61 rfl (lv_at hl 0 rfl) ?_
        refine gf_X4_51 X hw hx rfl dX4_put_62 ?_
        refine lv_icmp_ge (tgt := 71) X.1 X.2.1 dX4_put_65 (by decide) (fun c65 => ?_) (fun c65 => ?_)
        · refine lv_aload_n X.1 X.2.1 dX4_put_71 rfl (lv_at hl 0 rfl) ?_
          refine gf_X4_65 X hw hx rfl dX4_put_72 ?_
          refine lv_bipush (v := 40) X.1 X.2.1 dX4_put_75 (by decide) ?_
          refine lv_icmp_ne (tgt := 83) X.1 X.2.1 dX4_put_77 (by decide) (fun c77 => ?_) (fun c77 => ?_)
          · refine lv_iconst (v := 0) X.1 X.2.1 dX4_put_83 (by decide) ?_
            refine lv_istore_n (lv' := [(3, .int 0), (0, .ref (ad (20, 0, 0))), (1, .int x), (2, .int (nI (cN (fun s => !s_si σ s) (s_nS σ))))]) X.1 X.2.1 dX4_put_84 rfl hl (by decide) rfl (fun ls hl => ?_)
            exact loop2 (s_nS σ + 1) 0 (by omega) (by omega) (fun q => absurd c65 (nI_ge q (by omega))) (fun q => c77 (by rw [show s_nF σ = 40 by omega]; rfl)) k1 gM _ _ eM (fun c hc => absurd hc (Nat.not_lt_zero c)) (fun _ _ => rfl) hw ls (lv_sub hl [1, 2, 0] rfl)
          · refine lv_bipush (v := (-4)) X.1 X.2.1 dX4_put_80 (by decide) ?_
            rw [if_neg (fun q => absurd c65 (nI_ge q (by omega))), if_pos (Nat.le_of_eq ((nI_eq (b := 40) (by omega) (by omega)).mp c77).symm)]
            exact h_iretW X Y hw ⟨rfl, rfl, hM1, fun t ht => by rw [hk1, h_cn _ _ (t_ne20 ht)]⟩ (Nat.zero_le _) (Nat.zero_le _) dX4_put_82
        · refine lv_bipush (v := (-3)) X.1 X.2.1 dX4_put_68 (by decide) ?_
          rw [if_pos (Nat.lt_of_not_le (fun q => c65 (nI_le q (by omega))))]
          exact h_iretW X Y hw ⟨rfl, rfl, hM1, fun t ht => by rw [hk1, h_cn _ _ (t_ne20 ht)]⟩ (Nat.zero_le _) (Nat.zero_le _) dX4_put_70
      · have hib : i < s_nS σ := Nat.lt_of_not_le (fun q => c34 (nI_le q (by omega)))
        rcases hsi : s_si σ i with _ | _
        · refine lv_iload_n X.1 X.2.1 dX4_put_37 rfl (lv_at hl 2 rfl) ?_
          refine lv_aload_n X.1 X.2.1 dX4_put_38 rfl (lv_at hl 0 rfl) ?_
          refine gf_X4_13 X hw hx rfl dX4_put_39 ?_
          refine lv_iload_n X.1 X.2.1 dX4_put_42 rfl (lv_at hl 3 rfl) ?_
          refine h_zald X hw eS (vp_in_nI (by omega) (by decide)) dX4_put_43 ?_
          refine h_tv (b := .int 0) (by rw [nI_clamp (by omega), vS i (by omega), hsi, bI_f]) ?_
          refine lv_if_eq (tgt := 51) X.1 X.2.1 dX4_put_44 (by decide) (fun c44 => ?_) (fun c44 => ?_)
          · refine lv_iconst (v := 1) X.1 X.2.1 dX4_put_51 (by decide) ?_
            refine lv_iadd X.1 X.2.1 dX4_put_52 ?_
            refine h_ti (b := nI ((cN (fun s => !s_si σ s) i) + 1)) (nI_add (cN (fun s => !s_si σ s) i) 1) ?_
            refine lv_istore_n (lv' := [(2, .int (nI ((cN (fun s => !s_si σ s) i) + 1))), (0, .ref (ad (20, 0, 0))), (1, .int x), (3, .int (nI i))]) X.1 X.2.1 dX4_put_53 rfl hl (by decide) rfl (fun ls hl => ?_)
            refine lv_iinc (v := nI (i + 1)) (lv' := [(3, .int (nI (i + 1))), (2, .int (nI ((cN (fun s => !s_si σ s) i) + 1))), (0, .ref (ad (20, 0, 0))), (1, .int x)]) X.1 X.2.1 dX4_put_54 hl (k := 3) rfl (nI_1 _) (by decide) rfl (fun ls hl => ?_)
            refine lv_goto (tgt := 29) X.1 X.2.1 dX4_put_57 (by decide) ?_
            exact ih (i + 1) (by omega) (by omega) ls (by
              rw [cN_t (P := (fun s => !s_si σ s)) (show (!s_si σ i) = true by rw [hsi]; rfl)]
              exact lv_sub hl [2, 3, 1, 0] rfl)
          · exact absurd (by decide) c44
        · refine lv_iload_n X.1 X.2.1 dX4_put_37 rfl (lv_at hl 2 rfl) ?_
          refine lv_aload_n X.1 X.2.1 dX4_put_38 rfl (lv_at hl 0 rfl) ?_
          refine gf_X4_13 X hw hx rfl dX4_put_39 ?_
          refine lv_iload_n X.1 X.2.1 dX4_put_42 rfl (lv_at hl 3 rfl) ?_
          refine h_zald X hw eS (vp_in_nI (by omega) (by decide)) dX4_put_43 ?_
          refine h_tv (b := .int 1) (by rw [nI_clamp (by omega), vS i (by omega), hsi, bI_t]) ?_
          refine lv_if_eq (tgt := 51) X.1 X.2.1 dX4_put_44 (by decide) (fun c44 => ?_) (fun c44 => ?_)
          · exact absurd c44 (by decide)
          · refine lv_iconst (v := 0) X.1 X.2.1 dX4_put_47 (by decide) ?_
            refine lv_goto (tgt := 52) X.1 X.2.1 dX4_put_48 (by decide) ?_
            refine lv_iadd X.1 X.2.1 dX4_put_52 ?_
            refine h_ti (b := nI ((cN (fun s => !s_si σ s) i) + 0)) (nI_add (cN (fun s => !s_si σ s) i) 0) ?_
            refine lv_istore_n (lv' := [(2, .int (nI ((cN (fun s => !s_si σ s) i) + 0))), (0, .ref (ad (20, 0, 0))), (1, .int x), (3, .int (nI i))]) X.1 X.2.1 dX4_put_53 rfl hl (by decide) rfl (fun ls hl => ?_)
            refine lv_iinc (v := nI (i + 1)) (lv' := [(3, .int (nI (i + 1))), (2, .int (nI ((cN (fun s => !s_si σ s) i) + 0))), (0, .ref (ad (20, 0, 0))), (1, .int x)]) X.1 X.2.1 dX4_put_54 hl (k := 3) rfl (nI_1 _) (by decide) rfl (fun ls hl => ?_)
            refine lv_goto (tgt := 29) X.1 X.2.1 dX4_put_57 (by decide) ?_
            exact ih (i + 1) (by omega) (by omega) ls (by
              rw [cN_f (P := (fun s => !s_si σ s)) (show (!s_si σ i) = false by rw [hsi]; rfl)]
              exact lv_sub hl [2, 3, 1, 0] rfl)
  refine lv_iload_n X.1 X.2.1 dX4_put_5 rfl (lv_at hl 1 rfl) ?_
  refine lv_iconst (v := 0) X.1 X.2.1 dX4_put_6 (by decide) ?_
  refine lv_bipush (v := 9) X.1 X.2.1 dX4_put_7 (by decide) ?_
  refine h_callRS (As := [.int x, .int 0, .int 9]) (rest := []) X hw cs_X4_61 (c_X4_in l G x 0 9) rfl hl.1 rfl (Nat.le_of_ble_eq_true rfl) ⟨by decide, by decide⟩ ⟨Nat.zero_le _, Nat.zero_le _⟩ dX4_put_9 ?_
  refine h_tv (b := .int 1) (by rw [show (9 : Int32) = nI 10 - 1 from by decide, in_ix (by decide), hp]; rfl) ?_
  refine lv_if_eq (tgt := 22) X.1 X.2.1 dX4_put_12 (by decide) (fun c12 => ?_) (fun c12 => ?_)
  · exact absurd c12 (by decide)
  · refine lv_aload_n X.1 X.2.1 dX4_put_15 rfl (lv_at hl 0 rfl) ?_
    refine gf_X4_79 X hw hx rfl dX4_put_16 ?_
    refine lv_if_ne (tgt := 25) X.1 X.2.1 dX4_put_19 (by decide) (fun c19 => ?_) (fun c19 => ?_)
    · refine lv_iconst (v := 0) X.1 X.2.1 dX4_put_25 (by decide) ?_
      refine lv_istore_n (lv' := [(2, .int 0), (0, .ref (ad (20, 0, 0))), (1, .int x)]) X.1 X.2.1 dX4_put_26 rfl hl (by decide) rfl (fun ls hl => ?_)
      refine lv_iconst (v := 0) X.1 X.2.1 dX4_put_27 (by decide) ?_
      refine lv_istore_n (lv' := [(3, .int 0), (2, .int 0), (0, .ref (ad (20, 0, 0))), (1, .int x)]) X.1 X.2.1 dX4_put_28 rfl hl (by decide) rfl (fun ls hl => ?_)
      exact loop1 (s_nS σ + 1) 0 (by omega) (by omega) ls (lv_sub hl [2, 3, 1, 0] rfl)
    · exact absurd c19 (nI_ne0 (by omega) (by omega))
