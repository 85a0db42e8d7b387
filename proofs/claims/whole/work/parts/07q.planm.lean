theorem pow5 : ∀ n : Nat, n ≤ 6 → 5 ^ n ≤ 15625 := by
  intro n hn
  exact Nat.pow_le_pow_right (by decide) hn
theorem settle_copy {N n : Nat} (hn : n ≤ 6) : ∀ (d i j : Nat) (σ : Sg), i + d = n → d < j → σ 29 6 = nI n → ∃ σ', b_X3_settle_35 N j σ (nI i) = some (σ 29 7, σ') ∧ σ' 29 = σ 29 ∧ (∀ k, k < i → σ' 35 k = σ 35 k) ∧ ∀ k, i ≤ k → k < n → σ' 35 k = σ 34 k := by
  intro d
  induction d with
  | zero =>
    intro i j σ hi hj h6
    obtain ⟨j, rfl⟩ : ∃ z, j = z + 1 := ⟨j - 1, by omega⟩
    refine ⟨σ, ?_, rfl, fun _ _ => rfl, fun k h1 h2 => absurd h2 (by omega)⟩
    show c_X3_settle_35 N _ σ (nI i) = _
    unfold c_X3_settle_35
    rw [h6, if_pos (nI_le (by omega) (by omega))]
  | succ d ih =>
    intro i j σ hi hj h6
    obtain ⟨j, rfl⟩ : ∃ z, j = z + 1 := ⟨j - 1, by omega⟩
    obtain ⟨σ', e1, e2, e4, e5⟩ := ih (i + 1) j (sgu σ 35 i (σ 34 i)) (by omega) (by omega) h6
    refine ⟨σ', ?_, e2, fun k hk => (e4 k (by omega)).trans (by rw [sgu_s, upd_n (by omega)]), fun k h1 h2 => ?_⟩
    · show c_X3_settle_35 N _ σ (nI i) = _
      unfold c_X3_settle_35
      rw [h6, if_neg (nI_ge (by omega) (by omega)), gd_t (vi_nI (by omega) (by decide)), gd_t (vi_nI (by omega) (by decide)), nI_tN (by omega), lt_e, nI_suc]
      exact e1
    · by_cases hk : k = i
      · subst hk
        rw [e4 k (by omega), sgu_s, upd_s]
      · rw [e5 k (by omega) h2]
        rfl
theorem m1_int {x : Int32} : x = -1 ↔ x.toInt = -1 := by
  rw [i32_eq]
  exact Iff.rfl
theorem settle_ok {N n : Nat} (hN : 70000 ≤ N) {W D I Wr Cl H : Nat → Int} (np : NP n W D I Wr Cl H) {σ : Sg} (gp : GP n W D I Wr Cl H σ) {wl cl : Int32} (hw : rng wl 0 10000) (hc : rng cl 0 10000) : ∃ r σ', f_X3_settle N σ wl cl = some (r, σ') ∧ r.toInt = (scan (ev 5 (stp W D I Wr Cl) pv n 0 (0, wl.toInt, cl.toInt)) 0 (5 ^ n) (-1, 0)).1 ∧ (r = -1 → σ' 29 8 = σ 29 8 ∧ σ' 35 = σ 35) ∧ (r ≠ -1 → σ' 29 8 = nI n ∧ ∀ j, j < n → σ' 35 j = nI ((scan (ev 5 (stp W D I Wr Cl) pv n 0 (0, wl.toInt, cl.toInt)) 0 (5 ^ n) (-1, 0)).2 / 5 ^ (n - 1 - j) % 5)) := by
  have hgp1 : GP n W D I Wr Cl H (sgu σ 29 7 (-1)) := gp.fr (Fr.rf.put rfl (Or.inr (by simp)))
  have hn6 := np.1
  have hfp1 : FP n (sgu σ 29 7 (-1)) (-1, 0) := ⟨rfl, fun h => absurd rfl h⟩
  obtain ⟨σ1, e1, e2, -⟩ := goOn_ok hN np n 0 12 0 (sgu σ 29 7 (-1)) 0 wl cl (-1, 0) (by omega) (by omega) hgp1 (by decide) (by decide) hw.1 hw.2 hc.1 (by have := hc.2; omega) (by decide) hfp1 (fun j hj => absurd hj (by omega))
  rw [Nat.zero_mul] at e2
  have f1 := fr_X3_goOn e1
  have e2' : FP n σ1 (scan (ev 5 (stp W D I Wr Cl) pv n 0 (0, wl.toInt, cl.toInt)) 0 (5 ^ n) (-1, 0)) := e2
  clear e2
  generalize scan (ev 5 (stp W D I Wr Cl) pv n 0 (0, wl.toInt, cl.toInt)) 0 (5 ^ n) (-1, 0) = acc at e2' ⊢
  have h6 : σ1 29 6 = nI n := (hgp1.fr f1).2.2.1
  by_cases hm : σ1 29 7 = -1
  · refine ⟨-1, σ1, ?_, (by rw [← e2'.1, hm]), fun _ => ⟨f1 29 8 (by decide) (by decide), (f1.cell 35 (by decide))⟩, fun h => absurd rfl h⟩
    unfold f_X3_settle c_X3_settle_0
    rw [lt_e]
    exact G_bdv e1 (G_it hm rfl)
  · obtain ⟨σ2, g1, g2, g3, g4⟩ := settle_copy (N := N) hn6 n 0 N (sgu σ1 29 8 (σ1 29 6)) (by omega) (by omega) h6
    refine ⟨σ1 29 7, σ2, ?_, e2'.1, fun h => absurd h hm, fun _ => ⟨?_, fun j hj => ?_⟩⟩
    · unfold f_X3_settle c_X3_settle_0
      rw [lt_e]
      exact G_bdv e1 (G_if hm g1)
    · rw [g2, sgu_s, upd_s, h6]
    · rw [g4 j (by omega) hj]
      exact e2'.2 (fun z => hm (m1_int.mpr (e2'.1.trans z))) j hj
theorem iron_ok {N a n : Nat} {τ : Sg} {mw : Int32} (ha : a ≤ 11) (hn : n ≤ 6) (hmw : rng mw 0 10000) (r61 : ∀ i, i < 12 → rng (τ 61 i) 0 4 ∧ rng (τ 62 i) 0 1000) (r63 : ∀ i, i < 5 → rng (τ 63 i) 0 1000 ∧ rng (τ 64 i) 0 1000 ∧ rng (τ 65 i) 0 1000) (code : Nat) (hcode : code < 15625) : ∀ (d k j : Nat) (v8 v9 v10 : Int32), k + d = n → d < j → 0 ≤ v8.toInt → v8.toInt ≤ 10000 → 0 ≤ v9.toInt → v9.toInt ≤ 10000 + 1000 * k → 0 ≤ v10.toInt → v10.toInt ≤ 1000 * k → ∃ r, b_X8_ironOf_16 N j τ (nI code) (nI a) (nI n) mw (nI (5 ^ d)) v8 v9 v10 (nI k) = some (r, τ) ∧ r.toInt = ev 5 (stp (fun k => (τ 61 ((a + k) % 12)).toInt) (fun k => (τ 62 ((a + k) % 12)).toInt) (fun p => (τ 63 p).toInt) (fun p => (τ 64 p).toInt) (fun p => (τ 65 p).toInt)) pv d k (v10.toInt, mw.toInt - v8.toInt, v9.toInt) code := by
  intro d
  induction d with
  | zero =>
    intro k j v8 v9 v10 hk hj _ _ _ _ _ _
    obtain ⟨j, rfl⟩ : ∃ z, j = z + 1 := ⟨j - 1, by omega⟩
    refine ⟨v10, ?_, rfl⟩
    show c_X8_ironOf_16 N _ τ (nI code) (nI a) (nI n) mw _ v8 v9 v10 (nI k) = _
    unfold c_X8_ironOf_16
    rw [if_pos (nI_le (by omega) (by omega))]
  | succ d ih =>
    intro k j v8 v9 v10 hk hj h80 h81 h90 h91 hi0 hi1
    obtain ⟨j, rfl⟩ : ∃ z, j = z + 1 := ⟨j - 1, by omega⟩
    have hp5 := pow5 (d + 1) (by omega)
    have hpd := pow5 d (by omega)
    have hpp : 0 < 5 ^ d := Nat.pow_pos (by decide)
    have hdiv : nI (5 ^ (d + 1)) / (5:Int32) = nI (5 ^ d) := by
      have := pk_div (a := 5 ^ (d + 1)) (d := 5) (by omega) (by decide) (by decide)
      rw [Nat.pow_succ, Nat.mul_div_cancel _ (by decide)] at this
      rw [Nat.pow_succ]
      exact this
    have hdig : nI code / nI (5 ^ d) - nI code / nI (5 ^ d) / (5:Int32) * (5:Int32) = nI (code / 5 ^ d % 5) := by
      rw [pk_div (by omega) hpp (by omega)]
      exact pk_rem (Nat.lt_of_le_of_lt (Nat.div_le_self _ _) (by omega)) (by decide) (by decide)
    have hdn : (!decide (nI (5 ^ d) = 0)) = true := by
      have : nI (5 ^ d) ≠ 0 := fun z => by
        have := nI_inj (b := 0) (by omega) (by decide) z
        omega
      simp [this]
    have hmon : nI (a + k) - nI (a + k) / (12:Int32) * (12:Int32) = nI ((a + k) % 12) := pk_rem (by omega) (by decide) (by decide)
    have hp : code / 5 ^ d % 5 < 5 := Nat.mod_lt _ (by decide)
    have hm : (a + k) % 12 < 12 := Nat.mod_lt _ (by decide)
    generalize hpe : code / 5 ^ d % 5 = p at hdig hp
    generalize hme : (a + k) % 12 = m at hmon hm
    obtain ⟨⟨w0, w1⟩, b0, b1⟩ := r61 m hm
    obtain ⟨⟨i0, i1⟩, ⟨q0, q1⟩, c0, c1⟩ := r63 p hp
    have hpI : (nI p).toInt = p := nI_toInt (by omega)
    have hx4 : (v9 + τ 62 m).toInt = v9.toInt + (τ 62 m).toInt := i32_add (by omega) (by omega)
    have hx5 : (v8 + τ 64 p).toInt = v8.toInt + (τ 64 p).toInt := i32_add (by omega) (by omega)
    have hvm := vi_nI (k := m) (n := 12) hm (by decide)
    have hvp := vi_nI (k := p) (n := 5) hp (by decide)
    have htm := nI_tN (k := m) (by omega)
    have htp := nI_tN (k := p) (by omega)
    have hmw0 := hmw.1
    have hmw1 := hmw.2
    have hx : b_X8_ironOf_16 N (j + 1) τ (nI code) (nI a) (nI n) mw (nI (5 ^ (d + 1))) v8 v9 v10 (nI k) = if τ 61 m < nI p then some (-1, τ) else if (v9 + τ 62 m) < τ 65 p then some (-1, τ) else if (v8 + τ 64 p) ≤ mw then b_X8_ironOf_16 N j τ (nI code) (nI a) (nI n) mw (nI (5 ^ d)) (v8 + τ 64 p) (v9 + τ 62 m - τ 65 p) (v10 + τ 63 p) (nI (k + 1)) else some (-1, τ) := by
      show c_X8_ironOf_16 N _ τ (nI code) (nI a) (nI n) mw _ v8 v9 v10 (nI k) = _
      unfold c_X8_ironOf_16
      rw [if_neg (nI_ge (by omega) (by omega)), gd_t (by decide), hdiv, lt_e, gd_t hdn, gd_t (by decide), hdig, lt_e, gd_t (by decide), nI_add, hmon, lt_e, gd_t hvm, htm, lt_e, gd_t hvp, htp, lt_e, gd_t hvm, gd_t hvp, gd_t hvp, lt_e, gd_t hvp, lt_e, nI_suc]
    rw [hx]
    by_cases hok : (p : Int) ≤ (τ 61 m).toInt ∧ (τ 64 p).toInt ≤ mw.toInt - v8.toInt ∧ (τ 65 p).toInt ≤ v9.toInt + (τ 62 m).toInt
    · obtain ⟨o1, o2, o3⟩ := hok
      have hx6 : (v9 + τ 62 m - τ 65 p).toInt = v9.toInt + (τ 62 m).toInt - (τ 65 p).toInt := by rw [i32_sub (by omega) (by omega), hx4]
      have hx7 : (v10 + τ 63 p).toInt = v10.toInt + (τ 63 p).toInt := i32_add (by omega) (by omega)
      obtain ⟨r, e1, e2⟩ := ih (k + 1) j (v8 + τ 64 p) (v9 + τ 62 m - τ 65 p) (v10 + τ 63 p) (by omega) (by omega) (by omega) (by omega) (by omega) (by omega) (by omega) (by omega)
      refine ⟨r, ?_, ?_⟩
      · rw [if_neg (by rw [i32_lt, hpI]; omega), if_neg (by rw [i32_lt, hx4]; omega), if_pos (by rw [i32_le, hx5]; omega)]
        exact e1
      · rw [ev_some (s' := (v10.toInt + (τ 63 p).toInt, mw.toInt - v8.toInt - (τ 64 p).toInt, v9.toInt + (τ 62 m).toInt - (τ 65 p).toInt))]
        · rw [e2, hx5, hx6, hx7, show mw.toInt - (v8.toInt + (τ 64 p).toInt) = mw.toInt - v8.toInt - (τ 64 p).toInt by omega]
        · rw [hpe]
          unfold stp
          dsimp only
          rw [if_pos (by rw [hme]; exact ⟨o1, o2, o3⟩), hme]
    · refine ⟨-1, ?_, ?_⟩
      · by_cases o1 : (p : Int) ≤ (τ 61 m).toInt
        case neg => rw [if_pos (by rw [i32_lt, hpI]; omega)]
        by_cases o3 : (τ 65 p).toInt ≤ v9.toInt + (τ 62 m).toInt
        case neg => rw [if_neg (by rw [i32_lt, hpI]; omega), if_pos (by rw [i32_lt, hx4]; omega)]
        rw [if_neg (by rw [i32_lt, hpI]; omega), if_neg (by rw [i32_lt, hx4]; omega), if_neg (by rw [i32_le, hx5]; omega)]
      · rw [ev_none]
        · rfl
        · rw [hpe]
          unfold stp
          dsimp only
          rw [if_neg (by rw [hme]; exact hok)]
theorem all_loop {N n : Nat} {τ : Sg} {v1 v3 v4 : Int32} (hn : n ≤ 6) : ∀ (d k j : Nat), k + d = n → d < j → b_X8_plan_52 N j τ v1 (nI n) v3 v4 (nI (5 ^ k)) (nI k) = c_X8_plan_70 N τ v1 (nI n) v3 v4 (nI (5 ^ n)) := by
  intro d
  induction d with
  | zero =>
    intro k j hk hj
    obtain ⟨j, rfl⟩ : ∃ z, j = z + 1 := ⟨j - 1, by omega⟩
    have : k = n := by omega
    subst this
    show c_X8_plan_52 N _ τ v1 (nI k) v3 v4 _ (nI k) = _
    unfold c_X8_plan_52
    rw [if_pos (nI_le (by omega) (by omega))]
  | succ d ih =>
    intro k j hk hj
    obtain ⟨j, rfl⟩ : ∃ z, j = z + 1 := ⟨j - 1, by omega⟩
    show c_X8_plan_52 N _ τ v1 (nI n) v3 v4 _ (nI k) = _
    unfold c_X8_plan_52
    rw [if_neg (nI_ge (by omega) (by omega)), show (5:Int32) * nI (5 ^ k) = nI (5 * 5 ^ k) from pk_mul 5 _, show 5 * 5 ^ k = 5 ^ (k + 1) by rw [Nat.pow_succ, Nat.mul_comm], lt_e, nI_suc]
    exact ih (k + 1) j (by omega) (by omega)
theorem best_loop {N n A : Nat} {τ : Sg} {v1 v3 v4 : Int32} {f : Nat → Int} (hA : A ≤ 15625) (hf : ∀ c, c < A → ∃ r, f_X8_ironOf N τ (nI c) (nI A) v1 (nI n) v3 v4 = some (r, τ) ∧ r.toInt = f c) : ∀ (d c j : Nat) (B : Int32) (acc : Int × Nat), c + d = A → d < j → B.toInt = acc.1 → ∃ B', b_X8_plan_79 N j τ v1 (nI n) v3 v4 (nI A) B (nI acc.2) (nI c) = c_X8_plan_122 N τ (nI n) B' (nI (scan f c d acc).2) ∧ B'.toInt = (scan f c d acc).1 := by
  intro d
  induction d with
  | zero =>
    intro c j B acc hc hj hB
    obtain ⟨j, rfl⟩ : ∃ z, j = z + 1 := ⟨j - 1, by omega⟩
    refine ⟨B, ?_, hB⟩
    show c_X8_plan_79 N _ τ v1 (nI n) v3 v4 _ B _ (nI c) = _
    unfold c_X8_plan_79
    rw [if_pos (nI_le (by omega) (by omega))]
    rfl
  | succ d ih =>
    intro c j B acc hc hj hB
    obtain ⟨j, rfl⟩ : ∃ z, j = z + 1 := ⟨j - 1, by omega⟩
    obtain ⟨r, e1, e2⟩ := hf c (by omega)
    have hx : b_X8_plan_79 N (j + 1) τ v1 (nI n) v3 v4 (nI A) B (nI acc.2) (nI c) = if r ≤ B then b_X8_plan_79 N j τ v1 (nI n) v3 v4 (nI A) B (nI acc.2) (nI (c + 1)) else b_X8_plan_79 N j τ v1 (nI n) v3 v4 (nI A) r (nI c) (nI (c + 1)) := by
      show c_X8_plan_79 N _ τ v1 (nI n) v3 v4 _ B _ (nI c) = _
      unfold c_X8_plan_79
      rw [if_neg (nI_ge (by omega) (by omega)), e1, bd_s]
      unfold c_X8_plan_116
      rw [nI_suc]
    rw [hx]
    show ∃ B', _ = c_X8_plan_122 N τ (nI n) B' (nI (scan f (c + 1) d (if acc.1 < f c then (f c, c) else acc)).2) ∧ B'.toInt = (scan f (c + 1) d (if acc.1 < f c then (f c, c) else acc)).1
    by_cases hlt : acc.1 < f c
    · rw [if_pos hlt, if_neg (by rw [i32_le, e2, hB]; omega)]
      exact ih (c + 1) j r (f c, c) (by omega) (by omega) e2
    · rw [if_neg hlt, if_pos (by rw [i32_le, e2, hB]; omega)]
      exact ih (c + 1) j B acc (by omega) (by omega) hB
theorem dec_loop {N n code : Nat} {v6 : Int32} (hn : n ≤ 6) (hc : code < 15625) : ∀ (m j : Nat) (τ : Sg), m ≤ n → m < j → ∃ τ', b_X8_plan_138 N j τ v6 (nI (code / 5 ^ (n - m))) (nI m + (-1)) = some (v6, τ') ∧ τ' 36 = τ 36 ∧ (∀ k, m ≤ k → τ' 66 k = τ 66 k) ∧ ∀ k, k < m → τ' 66 k = nI (code / 5 ^ (n - 1 - k) % 5) := by
  intro m
  induction m with
  | zero =>
    intro j τ hm hj
    obtain ⟨j, rfl⟩ : ∃ z, j = z + 1 := ⟨j - 1, by omega⟩
    refine ⟨τ, ?_, rfl, fun _ _ => rfl, fun k hk => absurd hk (by omega)⟩
    show c_X8_plan_138 N _ τ v6 _ _ = _
    unfold c_X8_plan_138
    rw [if_pos (by decide)]
  | succ m ih =>
    intro j τ hm hj
    obtain ⟨j, rfl⟩ : ∃ z, j = z + 1 := ⟨j - 1, by omega⟩
    have hlt : code / 5 ^ (n - (m + 1)) < 2147483648 := Nat.lt_of_le_of_lt (Nat.div_le_self _ _) (by omega)
    have hr : nI (code / 5 ^ (n - (m + 1))) - nI (code / 5 ^ (n - (m + 1))) / (5:Int32) * (5:Int32) = nI (code / 5 ^ (n - (m + 1)) % 5) := pk_rem hlt (by decide) (by decide)
    have hd : nI (code / 5 ^ (n - (m + 1))) / (5:Int32) = nI (code / 5 ^ (n - m)) := by
      have := pk_div (a := code / 5 ^ (n - (m + 1))) (d := 5) hlt (by decide) (by decide)
      rw [Nat.div_div_eq_div_mul, ← Nat.pow_succ, Nat.succ_eq_add_one, show n - (m + 1) + 1 = n - m by omega] at this
      exact this
    obtain ⟨τ', e1, e2, e3, e4⟩ := ih j (sgu τ 66 m (nI (code / 5 ^ (n - (m + 1)) % 5))) (by omega) (by omega)
    refine ⟨τ', ?_, e2, fun k hk => (e3 k (by omega)).trans (by rw [sgu_s, upd_n (by omega)]), fun k hk => ?_⟩
    · show c_X8_plan_138 N _ τ v6 _ _ = _
      unfold c_X8_plan_138
      rw [pk_m1, if_neg (nI_pos (by omega)), gd_t (by decide), gd_t (vi_nI (by omega) (by decide)), nI_tN (by omega), hr, lt_e, gd_t (by decide), hd, lt_e]
      exact e1
    · by_cases hkm : k = m
      · subst hkm
        rw [e3 k (by omega), sgu_s, upd_s, show n - (k + 1) = n - 1 - k by omega]
      · exact e4 k (by omega)
theorem st_plan {N : Nat} (hN : 70000 ≤ N) (v1 v2 v3 v4 : Int32) : StI (fun σ => f_X7_plan N σ v1 v2 v3 v4) (fun σ => f_X8_plan N σ v1 v2 v3 v4) := by
  intro σ τ R
  by_cases h1 : wi v1 0 11
  case neg => exact ⟨-2, σ, τ, by simp [f_X7_plan, c_X7_plan_0, wx_f _ h1, bd_s], by simp [f_X8_plan, c_X8_plan_0, wm_f _ h1, bd_s], R⟩
  by_cases h2 : wi v2 1 6
  case neg => exact ⟨-2, σ, τ, by simp [f_X7_plan, c_X7_plan_0, wx_t _ h1, wx_f _ h2, bd_s], by simp [f_X8_plan, c_X8_plan_0, wm_t _ h1, wm_f _ h2, bd_s], R⟩
  by_cases h3 : wi v3 0 10000
  case neg => exact ⟨-2, σ, τ, by simp [f_X7_plan, c_X7_plan_0, wx_t _ h1, wx_t _ h2, wx_f _ h3, bd_s], by simp [f_X8_plan, c_X8_plan_0, wm_t _ h1, wm_t _ h2, wm_f _ h3, bd_s], R⟩
  by_cases h4 : wi v4 0 10000
  case neg => exact ⟨-2, σ, τ, by simp [f_X7_plan, c_X7_plan_0, wx_t _ h1, wx_t _ h2, wx_t _ h3, wx_f _ h4, bd_s], by simp [f_X8_plan, c_X8_plan_0, wm_t _ h1, wm_t _ h2, wm_t _ h3, wm_f _ h4, bd_s], R⟩
  obtain ⟨a, ha, rfl, -⟩ := wi_nat (n := 12) h1 rfl
  have h2' := wi_iff.mp h2
  have h2a : (1:Int32).toInt = 1 := rfl
  have h2b : (6:Int32).toInt = 6 := rfl
  obtain ⟨n, hn, rfl, hnI⟩ := i32_nat (x := v2) (n := 7) (by omega) (by omega)
  have hw : rng v3 0 10000 := wi_iff.mp h3
  have hc : rng v4 0 10000 := wi_iff.mp h4
  obtain ⟨r1, r2, r3, r4, r5, r6, r7, r8, r9, r10, r11⟩ := id R
  obtain ⟨m1, m2, m3⟩ := id r9
  obtain ⟨p1, p2, p3⟩ := id r10
  obtain ⟨k0, hk0, l1, l2, l3⟩ := id r11
  obtain ⟨σ1, e1, g0, g1, g2, g3, g4⟩ := months_ok (N := N) (a := a) (n := n) (σ := σ) hN (by omega) (by omega) (by omega) p1 p2 m1 m2 (fun q hq => by rw [(p3 q hq).1]; exact (p3 q hq).2.2.2.1.2)
  obtain ⟨t1, t2, t3, t4, t5, t6⟩ := g0
  have f1 := fr_X3_readMonths e1
  let W : Nat → Int := fun k => (τ 61 ((a + k) % 12)).toInt
  let D : Nat → Int := fun k => (τ 62 ((a + k) % 12)).toInt
  let I : Nat → Int := fun p => (τ 63 p).toInt
  let Wr : Nat → Int := fun p => (τ 64 p).toInt
  let Cl : Nat → Int := fun p => (τ 65 p).toInt
  let H : Nat → Int := fun k => (σ1 32 k).toInt
  have hmod : ∀ k, (a + k) % 12 < 12 := fun k => Nat.mod_lt _ (by decide)
  have gp : GP n W D I Wr Cl H σ1 := by
    refine ⟨t1, t2, g1, fun k hk => ?_, fun k _ => rfl, fun p hp => ?_⟩
    · obtain ⟨⟨u1, u2⟩, -⟩ := g4 k (Nat.zero_le _) hk
      rw [u1, u2, (m3 _ (hmod k)).1, (m3 _ (hmod k)).2.1]
      exact ⟨rfl, rfl⟩
    · rw [t6, (p3 p hp).1, (p3 p hp).2.1, (p3 p hp).2.2.1]
      exact ⟨rfl, rfl, rfl⟩
  have np : NP n W D I Wr Cl H := by
    refine ⟨by omega, fun k hk => ?_, fun p hp => ?_, g2, fun k hk => ?_⟩
    · obtain ⟨-, -, ⟨u1, u2⟩, u3, u4⟩ := m3 _ (hmod k)
      exact ⟨u1, u2, u3, u4⟩
    · obtain ⟨-, -, -, ⟨u1, u2⟩, ⟨u3, u4⟩, u5, u6⟩ := p3 p hp
      exact ⟨u1, u2, u3, u4, u5, u6⟩
    · obtain ⟨⟨u1, -⟩, u3, u4, u5, u6⟩ := g4 k (Nat.zero_le _) hk
      refine ⟨u3, u4, u5, fun p hp hpw => ?_⟩
      have := u6 p hp (by rw [u1, (m3 _ (hmod k)).1]; exact hpw)
      rw [(p3 p hp).1] at this
      exact this
  obtain ⟨r, σ2, e2, e3, e4, e5⟩ := settle_ok hN np gp hw hc
  have f2 := fr_X3_settle e2
  have hx : f_X7_plan N σ (nI a) (nI n) v3 v4 = some (r, σ2) := by
    unfold f_X7_plan c_X7_plan_0
    rw [wx_t _ h1, bd_s, if_neg (by decide), wx_t _ h2, bd_s, if_neg (by decide), wx_t _ h3, bd_s, if_neg (by decide), wx_t _ h4, bd_s, if_neg (by decide)]
    exact G_bdv e1 (G_bd e2 rfl)
  have hA := pow5 n (by omega)
  obtain ⟨B, b1, b2⟩ := best_loop (N := N) (n := n) (A := 5 ^ n) (τ := τ) (v1 := nI a) (v3 := v3) (v4 := v4) (f := ev 5 (stp W D I Wr Cl) pv n 0 (0, v3.toInt, v4.toInt)) hA (fun c hc2 => by
    obtain ⟨r, q1, q2⟩ := iron_ok (N := N) (a := a) (n := n) (τ := τ) (mw := v3) (by omega) (by omega) hw (fun i hi => (m3 i hi).2.2) (fun i hi => (p3 i hi).2.2.2) c (by omega) n 0 N 0 v4 0 (by omega) (by omega) (by decide) (by decide) hc.1 (by have := hc.2; omega) (by decide) (by decide)
    refine ⟨r, q1, q2.trans ?_⟩
    show ev 5 (stp W D I Wr Cl) pv n 0 (0, v3.toInt - 0, v4.toInt) c = _
    rw [Int.sub_zero]) (5 ^ n) 0 N (-1) (-1, 0) (by omega) (by omega) rfl
  have hsc := scan_lt (f := ev 5 (stp W D I Wr Cl) pv n 0 (0, v3.toInt, v4.toInt)) (M := 15625) (5 ^ n) 0 (-1, 0) (by decide) (by omega)
  generalize scan (ev 5 (stp W D I Wr Cl) pv n 0 (0, v3.toInt, v4.toInt)) 0 (5 ^ n) (-1, 0) = acc at e3 e5 b1 b2 hsc
  have hBr : B = r := i32_eq.mpr (b2.trans e3.symm)
  subst hBr
  have hy : f_X8_plan N τ (nI a) (nI n) v3 v4 = c_X8_plan_122 N τ (nI n) B (nI acc.2) := by
    unfold f_X8_plan c_X8_plan_0
    rw [wm_t _ h1, bd_s, if_neg (by decide), wm_t _ h2, bd_s, if_neg (by decide), wm_t _ h3, bd_s, if_neg (by decide), wm_t _ h4, bd_s, if_neg (by decide)]
    refine (all_loop (N := N) (n := n) (τ := τ) (by omega) n 0 N (by omega) (by omega)).trans ?_
    exact b1
  have fx : Fr _ σ σ2 := fr_X7_plan hx
  by_cases hm : B = -1
  · obtain ⟨s1, s2⟩ := e4 hm
    have hy2 : f_X8_plan N τ (nI a) (nI n) v3 v4 = some (B, τ) := by
      rw [hy]
      unfold c_X8_plan_122
      rw [if_pos hm]
    refine ⟨B, σ2, τ, hx, hy2, ?_⟩
    unfold Rel
    rw [fx.cell 0 (by decide), fx.cell 1 (by decide), fx.cell 2 (by decide), fx.cell 3 (by decide), fx.cell 4 (by decide), fx.cell 5 (by decide), fx.cell 6 (by decide), fx.cell 7 (by decide), fx.cell 8 (by decide), fx.cell 9 (by decide), fx.cell 11 (by decide), fx.cell 12 (by decide), fx.cell 13 (by decide), fx.cell 14 (by decide), fx.cell 15 (by decide), fx.cell 16 (by decide), fx.cell 25 (by decide), fx.cell 26 (by decide), fx.cell 27 (by decide), fx.cell 28 (by decide)]
    refine ⟨r1, r2, r3, r4, r5, r6, r7, r8, r9, r10, ?_⟩
    rw [s1, s2, f1 29 8 (by decide) (by decide), f1.cell 35 (by decide)]
    exact r11
  · obtain ⟨s1, s2⟩ := e5 hm
    obtain ⟨τ1, d1, d2, -, d4⟩ := dec_loop (N := N) (n := n) (code := acc.2) (v6 := B) (by omega) hsc n N (sgu τ 36 52 (nI n)) (Nat.le_refl _) (by omega)
    rw [Nat.sub_self, Nat.pow_zero, Nat.div_one] at d1
    have hy2 : f_X8_plan N τ (nI a) (nI n) v3 v4 = some (B, τ1) := by
      rw [hy]
      unfold c_X8_plan_122
      rw [if_neg hm, lt_e, lt_e, show nI n - (1:Int32) = nI n + (-1) from Int32.sub_eq_add_neg ..]
      exact d1
    have fm : Fr _ τ τ1 := fr_X8_plan hy2
    refine ⟨B, σ2, τ1, hx, hy2, ?_⟩
    have h36 : ∀ k, k ≠ 52 → τ1 36 k = τ 36 k := fun k hk => by
      rw [d2, sgu_s, upd_n hk]
    have h52 : τ1 36 52 = nI n := by rw [d2, sgu_s, upd_s]
    unfold Rel
    rw [fx.cell 0 (by decide), fx.cell 1 (by decide), fx.cell 2 (by decide), fx.cell 3 (by decide), fx.cell 4 (by decide), fx.cell 5 (by decide), fx.cell 6 (by decide), fx.cell 7 (by decide), fx.cell 8 (by decide), fx.cell 9 (by decide), fx.cell 11 (by decide), fx.cell 12 (by decide), fx.cell 13 (by decide), fx.cell 14 (by decide), fx.cell 15 (by decide), fx.cell 16 (by decide), fx.cell 25 (by decide), fx.cell 26 (by decide), fx.cell 27 (by decide), fx.cell 28 (by decide)]
    rw [fm.cell 37 (by decide), fm.cell 38 (by decide), fm.cell 39 (by decide), fm.cell 40 (by decide), fm.cell 41 (by decide), fm.cell 42 (by decide), fm.cell 43 (by decide), fm.cell 44 (by decide), fm.cell 45 (by decide), fm.cell 46 (by decide), fm.cell 47 (by decide), fm.cell 48 (by decide), fm.cell 49 (by decide), fm.cell 50 (by decide), fm.cell 51 (by decide), fm.cell 52 (by decide), fm.cell 53 (by decide), fm.cell 54 (by decide), fm.cell 55 (by decide), fm.cell 56 (by decide), fm.cell 57 (by decide), fm.cell 58 (by decide), fm.cell 59 (by decide), fm.cell 60 (by decide), fm.cell 61 (by decide), fm.cell 62 (by decide), fm.cell 63 (by decide), fm.cell 64 (by decide), fm.cell 65 (by decide)]
    rw [h36 2 (by decide), h36 3 (by decide), h36 27 (by decide), h36 45 (by decide), h36 36 (by decide), h36 41 (by decide), s1, h52]
    refine ⟨r1, r2, r3, ?_, r5, r6, r7, r8, r9, r10, n, by omega, rfl, rfl, fun i hi => (s2 i hi).trans (d4 i hi).symm⟩
    unfold R_sc at r4 ⊢
    simp only [h36 _ (show 11 ≠ 52 by decide), h36 _ (show 12 ≠ 52 by decide), h36 _ (show 13 ≠ 52 by decide), h36 _ (show 14 ≠ 52 by decide), h36 _ (show 15 ≠ 52 by decide), h36 _ (show 16 ≠ 52 by decide), h36 _ (show 17 ≠ 52 by decide), h36 _ (show 18 ≠ 52 by decide), h36 _ (show 19 ≠ 52 by decide), h36 _ (show 20 ≠ 52 by decide), h36 _ (show 21 ≠ 52 by decide), h36 _ (show 22 ≠ 52 by decide), h36 _ (show 23 ≠ 52 by decide), h36 _ (show 24 ≠ 52 by decide), h36 _ (show 25 ≠ 52 by decide), h36 _ (show 26 ≠ 52 by decide)]
    exact r4
