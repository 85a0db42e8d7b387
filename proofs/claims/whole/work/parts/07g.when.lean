theorem nI_suc {i : Nat} : nI i + (1:Int32) = nI (i + 1) := nI_1 i
theorem when_loop {σ τ : Sg} {c N a : Nat} (h1 : σ 4 1 = 400) (h2 : σ 4 2 = 7) (d2 : σ 4 3 = nI c) (hc : c ≤ 400) (he : ∀ i, i < c → σ 5 (i * 7 + 1) = τ 40 i) (ha : a < c) : ∀ (d i : Nat) (acc : Int32) (j : Nat), i + d = a + 1 → d < j → ∃ S, b_X0_coalDownFrom_7 N j σ (nI a) acc (nI i) = some (S, σ) ∧ b_X8_when_42 N j τ (nI a) acc (nI i) = c_X8_when_62 N τ S := by
  intro d
  induction d with
  | zero =>
    intro i acc j hi hj
    obtain ⟨j, rfl⟩ : ∃ k, j = k + 1 := ⟨j - 1, by omega⟩
    have hlt : nI a < nI i := nI_lt (by omega) (by omega)
    refine ⟨acc, ?_, ?_⟩
    · show c_X0_coalDownFrom_7 N _ σ (nI a) acc (nI i) = _
      unfold c_X0_coalDownFrom_7
      rw [if_pos hlt]
    · show c_X8_when_42 N _ τ (nI a) acc (nI i) = _
      unfold c_X8_when_42
      rw [if_pos hlt]
  | succ d ih =>
    intro i acc j hi hj
    obtain ⟨j, rfl⟩ : ∃ k, j = k + 1 := ⟨j - 1, by omega⟩
    have hlt : ¬ nI a < nI i := nI_nlt (by omega) (by omega)
    have hge : ¬ nI c ≤ nI i := nI_ge (by omega) (by omega)
    obtain ⟨S, e1, e2⟩ := ih (i + 1) (acc + τ 40 i) j (by omega) (by omega)
    refine ⟨S, ?_, ?_⟩
    · show c_X0_coalDownFrom_7 N _ σ (nI a) acc (nI i) = _
      unfold c_X0_coalDownFrom_7
      rw [if_neg hlt, d2, if_neg hge]
      refine G_bd (ch_get h1 h2 (i := i) (by omega) rfl rfl (by decide)) ?_
      rw [he i (by omega), lt_e, nI_suc]
      exact e1
    · show c_X8_when_42 N _ τ (nI a) acc (nI i) = _
      unfold c_X8_when_42
      rw [if_neg hlt, gd_t (vi_nI (by omega) (by decide)), nI_tN (by omega), lt_e, nI_suc]
      exact e2
theorem st_when {N : Nat} (hN : 70000 ≤ N) (v1 : Int32) : StI (fun σ => f_X7_when N σ v1) (fun σ => f_X8_when N σ v1) := by
  intro σ τ R
  obtain ⟨r1, r2, r3, r4, r5, r6, r7, r8, r9, r10, r11⟩ := id R
  obtain ⟨q1, q2, c, lo, hlo, hc, hcl, d1, d2, d3, d4, hi⟩ := id r3
  obtain ⟨-, ⟨b0, -⟩, c1, -⟩ := id r4
  by_cases h1 : wi v1 0 (nI c - 1)
  case neg => exact ⟨-2, σ, τ, by simp [f_X7_when, c_X7_when_0, d2, wx_f _ h1, bd_s], by simp [f_X8_when, c_X8_when_0, d3, wm_f _ h1, bd_s], R⟩
  have h2 := wi_iff.mp h1
  have e0 : (nI c - 1).toInt = (c : Int) - 1 := by
    have := nI_toInt (n := c) (by omega)
    rw [i32_sub (by rw [this]; show -2147483648 ≤ (c : Int) - 1; omega) (by rw [this]; show (c : Int) - 1 < 2147483648; omega), this]
    rfl
  have h3 : (0 : Int32).toInt = 0 := rfl
  obtain ⟨a, ha, rfl, -⟩ := i32_nat (x := v1) (n := c) (by omega) (by omega)
  have hv := vi_nI (k := a) (n := 400) (by omega) (by decide)
  have ht := nI_tN (k := a) (by omega)
  have hst := (hi a ha).2.2.2.2.2.2.2.1
  have hbl : 0 < τ 36 11 ↔ ¬ τ 36 11 = 0 := by
    rw [i32_lt, i32_eq]
    have := c1.1
    show 0 < _ ↔ ¬ _ = 0
    omega
  by_cases g1 : lo ≤ a
  case neg =>
    refine ⟨-1, σ, τ, ?_, ?_, R⟩
    · show f_X7_when N σ (nI a) = _
      unfold f_X7_when c_X7_when_0
      rw [d2, wx_t _ h1, bd_s, if_neg (by decide), lt_e, d1, if_pos (nI_lt (by omega) (by omega))]
    · show f_X8_when N τ (nI a) = _
      unfold f_X8_when c_X8_when_0
      rw [d3, wm_t _ h1, bd_s, if_neg (by decide), gd_t hv, ht, if_neg (fun z => g1 (hst.mp z))]
  by_cases g2 : τ 36 11 = 0
  · refine ⟨-1, σ, τ, ?_, ?_, R⟩
    · show f_X7_when N σ (nI a) = _
      unfold f_X7_when c_X7_when_0
      rw [d2, wx_t _ h1, bd_s, if_neg (by decide), lt_e, d1, if_neg (nI_nlt g1 (by omega)), b0, if_neg (fun z => (hbl.mp z) g2)]
    · show f_X8_when N τ (nI a) = _
      unfold f_X8_when c_X8_when_0
      rw [d3, wm_t _ h1, bd_s, if_neg (by decide), gd_t hv, ht, if_pos (hst.mpr g1), if_pos g2]
  obtain ⟨S, e1, e2⟩ := when_loop (N := N) q1 q2 d2 hc (fun i hi2 => (hi i hi2).2.1) ha (a + 1 - lo) lo 0 N (by omega) (by omega)
  refine ⟨((S + τ 36 11) - 1) / τ 36 11, σ, τ, ?_, ?_, R⟩
  · show f_X7_when N σ (nI a) = _
    unfold f_X7_when c_X7_when_0
    rw [d2, wx_t _ h1, bd_s, if_neg (by decide), lt_e, d1, if_neg (nI_nlt g1 (by omega)), b0, if_pos (hbl.mpr g2)]
    refine G_bd (r := S) (σ := σ) ?_ (G_gd (by simpa using g2) rfl)
    unfold f_X0_coalDownFrom c_X0_coalDownFrom_0
    rw [lt_e, d1]
    exact e1
  · show f_X8_when N τ (nI a) = _
    unfold f_X8_when c_X8_when_0
    rw [d3, wm_t _ h1, bd_s, if_neg (by decide), gd_t hv, ht, if_pos (hst.mpr g1), if_neg g2, lt_e, d4]
    show b_X8_when_42 N N τ (nI a) 0 (nI lo) = _
    rw [e2]
    unfold c_X8_when_62
    rw [gd_t (by simpa using g2)]
theorem sold_le (G : Nat → Int32) : ∀ n, sold G n ≤ n
  | 0 => Nat.le_refl _
  | n + 1 => by
    have := sold_le G n
    show sold G n + (if G n = -1 then 0 else 1) ≤ n + 1
    split <;> omega
theorem count_loop {τ : Sg} {N p : Nat} (d3 : τ 36 27 = nI p) (hp : p ≤ 60) : ∀ (d i j : Nat), i + d = p → d < j → b_X8_count_62 N j τ (nI (sold (τ 51) i)) (nI i) = some (nI (sold (τ 51) p), τ) := by
  intro d
  induction d with
  | zero =>
    intro i j hi hj
    obtain ⟨j, rfl⟩ : ∃ k, j = k + 1 := ⟨j - 1, by omega⟩
    have : i = p := by omega
    subst this
    show c_X8_count_62 N _ τ _ (nI i) = _
    unfold c_X8_count_62
    rw [d3, if_pos (nI_le (Nat.le_refl _) (by omega))]
  | succ d ih =>
    intro i j hi hj
    obtain ⟨j, rfl⟩ : ∃ k, j = k + 1 := ⟨j - 1, by omega⟩
    have e := ih (i + 1) j (by omega) (by omega)
    show c_X8_count_62 N _ τ _ (nI i) = _
    unfold c_X8_count_62
    rw [d3, if_neg (nI_ge (by omega) (by omega)), gd_t (vi_nI (by omega) (by decide)), nI_tN (by omega)]
    by_cases g : τ 51 i = -1
    · rw [if_pos g]
      unfold c_X8_count_86
      rw [lt_e, nI_suc]
      have : sold (τ 51) (i + 1) = sold (τ 51) i := by
        show sold (τ 51) i + (if τ 51 i = -1 then 0 else 1) = _
        rw [if_pos g]
        rfl
      rw [this] at e
      show b_X8_count_62 N j τ (nI (sold (τ 51) i) + nI 0) (nI (i + 1)) = _
      rw [nI_add, Nat.add_zero]
      exact e
    · rw [if_neg g]
      unfold c_X8_count_86
      rw [lt_e, nI_suc]
      have : sold (τ 51) (i + 1) = sold (τ 51) i + 1 := by
        show sold (τ 51) i + (if τ 51 i = -1 then 0 else 1) = _
        rw [if_neg g]
      rw [this] at e
      rw [nI_suc]
      exact e
theorem eq_count {N : Nat} (hN : 70000 ≤ N) (v1 : Int32) {σ τ : Sg} (R : Rel σ τ) : ∃ r, f_X7_count σ v1 = some (r, σ) ∧ f_X8_count N τ v1 = some (r, τ) := by
  obtain ⟨r1, r2, r3, r4, r5, r6, r7, r8, r9, r10, r11⟩ := id R
  obtain ⟨-, -, c, lo, -, -, -, -, d2, d3, -⟩ := id r3
  obtain ⟨-, -, q0, p, hp, p2, p3, p5, -⟩ := id r5
  obtain ⟨-, -, r, -, u2, u3, -⟩ := id r7
  obtain ⟨-, -, f, -, g2, g3, -⟩ := id r8
  by_cases n0 : v1 = 0
  · subst n0
    exact ⟨nI c, congrArg (fun z => some (z, σ)) d2, congrArg (fun z => some (z, τ)) d3⟩
  by_cases n1 : v1 = 1
  · subst n1
    exact ⟨nI p, congrArg (fun z => some (z, σ)) p2, congrArg (fun z => some (z, τ)) p3⟩
  by_cases n2 : v1 = 2
  · subst n2
    exact ⟨nI r, congrArg (fun z => some (z, σ)) u2, congrArg (fun z => some (z, τ)) u3⟩
  by_cases n3 : v1 = 3
  · subst n3
    exact ⟨nI f, congrArg (fun z => some (z, σ)) g2, congrArg (fun z => some (z, τ)) g3⟩
  by_cases n4 : v1 = 4
  · subst n4
    refine ⟨nI (sold (τ 51) p), congrArg (fun z => some (z, σ)) p5, ?_⟩
    exact count_loop (N := N) p3 hp p 0 N (by omega) (by omega)
  by_cases n5 : v1 = 5
  · subst n5
    exact ⟨τ 36 45, congrArg (fun z => some (z, σ)) q0, rfl⟩
  refine ⟨-2, ?_, ?_⟩
  · unfold f_X7_count c_X7_count_0
    rw [if_neg n0, if_neg n1, if_neg n2, if_neg n3, if_neg n4, if_neg n5]
  · unfold f_X8_count c_X8_count_0
    rw [if_neg n0, if_neg n1, if_neg n2, if_neg n3, if_neg n4, if_neg n5]
theorem st_count {N : Nat} (hN : 70000 ≤ N) (v1 : Int32) : StI (fun σ => f_X7_count σ v1) (fun σ => f_X8_count N σ v1) := by
  intro σ τ R
  obtain ⟨r, e1, e2⟩ := eq_count hN v1 R
  exact ⟨r, σ, τ, e1, e2, R⟩
