theorem nar_b {v : Int32} (h : v = 0 ∨ v = 1) : vp_nar .boolean v = v := by rcases h with rfl | rfl <;> rfl
theorem st_rule (v1 v2 v3 v4 : Int32) (hb : v2 = 0 ∨ v2 = 1) : StI (fun σ => f_X7_rule σ v1 v2 v3 v4) (fun σ => f_X8_rule σ v1 v2 v3 v4) := by
  intro σ τ R
  obtain ⟨r1, r2, r3, r4, r5, r6, r7, r8, r9, r10, r11⟩ := id R
  obtain ⟨q1, q2, r, hr, d2, d3, hi⟩ := id r7
  by_cases h1 : wi v1 0 2
  case neg => exact ⟨-2, σ, τ, by simp [f_X7_rule, c_X7_rule_0, wx_f _ h1, bd_s], by simp [f_X8_rule, c_X8_rule_0, wm_f _ h1, bd_s], R⟩
  by_cases h2 : wi v3 0 1000
  case neg => exact ⟨-2, σ, τ, by simp [f_X7_rule, c_X7_rule_0, wx_t _ h1, wx_f _ h2, bd_s], by simp [f_X8_rule, c_X8_rule_0, wm_t _ h1, wm_f _ h2, bd_s], R⟩
  by_cases h3 : wi v4 0 2
  case neg => exact ⟨-2, σ, τ, by simp [f_X7_rule, c_X7_rule_0, wx_t _ h1, wx_t _ h2, wx_f _ h3, bd_s], by simp [f_X8_rule, c_X8_rule_0, wm_t _ h1, wm_t _ h2, wm_f _ h3, bd_s], R⟩
  by_cases g5 : r = 8
  · refine ⟨-4, σ, τ, ?_, ?_, R⟩
    · show f_X7_rule σ v1 v2 v3 v4 = _
      unfold f_X7_rule c_X7_rule_0
      rw [wx_t _ h1, bd_s, if_neg (by decide), wx_t _ h2, bd_s, if_neg (by decide), wx_t _ h3, bd_s, if_neg (by decide), full_t (M := 8) (r := r) q1 d2 (by omega) (by omega), bd_s, if_neg (by decide)]
    · show f_X8_rule τ v1 v2 v3 v4 = _
      unfold f_X8_rule c_X8_rule_0
      rw [wm_t _ h1, bd_s, if_neg (by decide), wm_t _ h2, bd_s, if_neg (by decide), wm_t _ h3, bd_s, if_neg (by decide), d3, if_pos (show nI r = (8:Int32) from by rw [g5]; rfl)]
  have hr8 : r < 8 := by omega
  have n6 : ¬ nI r = (8 : Int32) := fun z => g5 ((nI_eq (a := r) (b := 8) (by omega) (by decide)).mp z)
  have hvc : vi (nI r) 8 = true := vi_nI hr8 (by decide)
  have htc : (nI r).toNatClampNeg = r := nI_tN (by omega)
  have hx : f_X7_rule σ v1 v2 v3 v4 = some (nI r, (sgu (sgu (sgu (sgu (sgu σ 13 3 (nI (r + 1))) 14 (r * 4 + 0) v1) 14 (r * 4 + 1) v2) 14 (r * 4 + 2) v3) 14 (r * 4 + 3) v4)) := by
    unfold f_X7_rule c_X7_rule_0
    rw [wx_t _ h1, bd_s, if_neg (by decide), wx_t _ h2, bd_s, if_neg (by decide), wx_t _ h3, bd_s, if_neg (by decide), full_f (M := 8) (r := r) q1 d2 hr8 (by omega), bd_s, if_pos rfl]
    refine G_bd (add_ok (M := 8) q1 d2 hr8 (by decide)) ?_
    refine G_bdv (ru_set q1 q2 hr8 rfl rfl (by decide)) ?_
    rcases hb with rfl | rfl
    · refine G_it rfl ?_
      unfold c_X7_rule_85
      refine G_bdv (ru_set q1 q2 hr8 rfl rfl (by decide)) ?_
      refine G_bdv (ru_set q1 q2 hr8 rfl rfl (by decide)) ?_
      exact G_bdv (ru_set q1 q2 hr8 rfl rfl (by decide)) rfl
    · refine G_if (by decide) ?_
      unfold c_X7_rule_85
      refine G_bdv (ru_set q1 q2 hr8 rfl rfl (by decide)) ?_
      refine G_bdv (ru_set q1 q2 hr8 rfl rfl (by decide)) ?_
      exact G_bdv (ru_set q1 q2 hr8 rfl rfl (by decide)) rfl
  have hm : f_X8_rule τ v1 v2 v3 v4 = some (nI r, (sgu (sgu (sgu (sgu (sgu τ 54 r v1) 55 r v2) 56 r v3) 57 r v4) 36 36 (nI (r + 1)))) := by
    unfold f_X8_rule c_X8_rule_0
    rw [wm_t _ h1, bd_s, if_neg (by decide), wm_t _ h2, bd_s, if_neg (by decide), wm_t _ h3, bd_s, if_neg (by decide), d3, if_neg n6, htc, nar_b hb]
    refine G_gd hvc (G_lt ?_)
    show gd (vi (τ 36 36) 8) (lt_ (sgu _ 55 (τ 36 36).toNatClampNeg v2) _) = _
    rw [d3, htc]
    refine G_gd hvc (G_lt ?_)
    show gd (vi (τ 36 36) 8) (lt_ (sgu _ 56 (τ 36 36).toNatClampNeg v3) _) = _
    rw [d3, htc]
    refine G_gd hvc (G_lt ?_)
    show gd (vi (τ 36 36) 8) (lt_ (sgu _ 57 (τ 36 36).toNatClampNeg v4) _) = _
    rw [d3, htc]
    refine G_gd hvc (G_lt ?_)
    show lt_ (sgu _ 36 36 (τ 36 36 + 1)) _ = _
    rw [d3, nI_1]
    refine G_lt ?_
    show some (nI (r + 1) - 1, _) = _
    rw [nI_pred]
  refine ⟨nI r, _, _, hx, hm, r1, r2, r3, r4, r5, r6, ⟨q1, q2, r + 1, by omega, rfl, rfl, ?_⟩, r8, r9, r10, r11⟩
  intro i hi2
  show row4 (σ 14) r v1 v2 v3 v4 (i * 4 + 0) = upd (τ 54) r v1 i ∧ row4 (σ 14) r v1 v2 v3 v4 (i * 4 + 1) = upd (τ 55) r v2 i ∧ row4 (σ 14) r v1 v2 v3 v4 (i * 4 + 2) = upd (τ 56) r v3 i ∧ row4 (σ 14) r v1 v2 v3 v4 (i * 4 + 3) = upd (τ 57) r v4 i ∧ rng (upd (τ 54) r v1 i) 0 2 ∧ rng (upd (τ 55) r v2 i) 0 1
  by_cases hic : i = r
  · subst hic
    rw [row4_0, row4_1, row4_2, row4_3, upd_s, upd_s, upd_s, upd_s]
    exact ⟨rfl, rfl, rfl, rfl, wi_iff.mp h1, by rcases hb with rfl | rfl <;> exact ⟨by decide, by decide⟩⟩
  · have e := hi i (by omega)
    rw [row4_n hic (by decide), row4_n hic (by decide), row4_n hic (by decide), row4_n hic (by decide), upd_n hic, upd_n hic, upd_n hic, upd_n hic]
    exact e
theorem st_forge (v1 v2 v3 : Int32) : StI (fun σ => f_X7_forge σ v1 v2 v3) (fun σ => f_X8_forge σ v1 v2 v3) := by
  intro σ τ R
  obtain ⟨r1, r2, r3, r4, r5, r6, r7, r8, r9, r10, r11⟩ := id R
  obtain ⟨q1, q2, r, hr, d2, d3, hi⟩ := id r8
  by_cases h1 : wi v1 0 15
  case neg => exact ⟨-2, σ, τ, by simp [f_X7_forge, c_X7_forge_0, wx_f _ h1, bd_s], by simp [f_X8_forge, c_X8_forge_0, wm_f _ h1, bd_s], R⟩
  by_cases h2 : wi v2 0 2000
  case neg => exact ⟨-2, σ, τ, by simp [f_X7_forge, c_X7_forge_0, wx_t _ h1, wx_f _ h2, bd_s], by simp [f_X8_forge, c_X8_forge_0, wm_t _ h1, wm_f _ h2, bd_s], R⟩
  by_cases h3 : wi v3 1 50
  case neg => exact ⟨-2, σ, τ, by simp [f_X7_forge, c_X7_forge_0, wx_t _ h1, wx_t _ h2, wx_f _ h3, bd_s], by simp [f_X8_forge, c_X8_forge_0, wm_t _ h1, wm_t _ h2, wm_f _ h3, bd_s], R⟩
  by_cases g5 : r = 3
  · refine ⟨-4, σ, τ, ?_, ?_, R⟩
    · show f_X7_forge σ v1 v2 v3 = _
      unfold f_X7_forge c_X7_forge_0
      rw [wx_t _ h1, bd_s, if_neg (by decide), wx_t _ h2, bd_s, if_neg (by decide), wx_t _ h3, bd_s, if_neg (by decide), full_t (M := 3) (r := r) q1 d2 (by omega) (by omega), bd_s, if_neg (by decide)]
    · show f_X8_forge τ v1 v2 v3 = _
      unfold f_X8_forge c_X8_forge_0
      rw [wm_t _ h1, bd_s, if_neg (by decide), wm_t _ h2, bd_s, if_neg (by decide), wm_t _ h3, bd_s, if_neg (by decide), d3, if_pos (show nI r = (3:Int32) from by rw [g5]; rfl)]
  have hr8 : r < 3 := by omega
  have n6 : ¬ nI r = (3 : Int32) := fun z => g5 ((nI_eq (a := r) (b := 3) (by omega) (by decide)).mp z)
  have hvc : vi (nI r) 3 = true := vi_nI hr8 (by decide)
  have htc : (nI r).toNatClampNeg = r := nI_tN (by omega)
  have hx : f_X7_forge σ v1 v2 v3 = some (nI r, (sgu (sgu (sgu (sgu σ 15 3 (nI (r + 1))) 16 (r * 3 + 0) v1) 16 (r * 3 + 1) v2) 16 (r * 3 + 2) v3)) := by
    unfold f_X7_forge c_X7_forge_0
    rw [wx_t _ h1, bd_s, if_neg (by decide), wx_t _ h2, bd_s, if_neg (by decide), wx_t _ h3, bd_s, if_neg (by decide), full_f (M := 3) (r := r) q1 d2 hr8 (by omega), bd_s, if_pos rfl]
    refine G_bd (add_ok (M := 3) q1 d2 hr8 (by decide)) ?_
    refine G_bdv (fg_set q1 q2 hr8 rfl rfl (by decide)) ?_
    refine G_bdv (fg_set q1 q2 hr8 rfl rfl (by decide)) ?_
    exact G_bdv (fg_set q1 q2 hr8 rfl rfl (by decide)) rfl
  have hm : f_X8_forge τ v1 v2 v3 = some (nI r, (sgu (sgu (sgu (sgu τ 58 r v1) 59 r v2) 60 r v3) 36 41 (nI (r + 1)))) := by
    unfold f_X8_forge c_X8_forge_0
    rw [wm_t _ h1, bd_s, if_neg (by decide), wm_t _ h2, bd_s, if_neg (by decide), wm_t _ h3, bd_s, if_neg (by decide), d3, if_neg n6, htc]
    refine G_gd hvc (G_lt ?_)
    show gd (vi (τ 36 41) 3) (lt_ (sgu _ 59 (τ 36 41).toNatClampNeg v2) _) = _
    rw [d3, htc]
    refine G_gd hvc (G_lt ?_)
    show gd (vi (τ 36 41) 3) (lt_ (sgu _ 60 (τ 36 41).toNatClampNeg v3) _) = _
    rw [d3, htc]
    refine G_gd hvc (G_lt ?_)
    show lt_ (sgu _ 36 41 (τ 36 41 + 1)) _ = _
    rw [d3, nI_1]
    refine G_lt ?_
    show some (nI (r + 1) - 1, _) = _
    rw [nI_pred]
  refine ⟨nI r, _, _, hx, hm, r1, r2, r3, r4, r5, r6, r7, ⟨q1, q2, r + 1, by omega, rfl, rfl, ?_⟩, r9, r10, r11⟩
  intro i hi2
  show row3 (σ 16) r v1 v2 v3 (i * 3 + 0) = upd (τ 58) r v1 i ∧ row3 (σ 16) r v1 v2 v3 (i * 3 + 1) = upd (τ 59) r v2 i ∧ row3 (σ 16) r v1 v2 v3 (i * 3 + 2) = upd (τ 60) r v3 i ∧ rng (upd (τ 58) r v1 i) 0 15 ∧ rng (upd (τ 59) r v2 i) 0 2000 ∧ rng (upd (τ 60) r v3 i) 1 50
  by_cases hic : i = r
  · subst hic
    rw [row3_0, row3_1, row3_2, upd_s, upd_s, upd_s]
    exact ⟨rfl, rfl, rfl, wi_iff.mp h1, wi_iff.mp h2, wi_iff.mp h3⟩
  · have e := hi i (by omega)
    rw [row3_n hic (by decide), row3_n hic (by decide), row3_n hic (by decide), upd_n hic, upd_n hic, upd_n hic]
    exact e
theorem sold_upd {G : Nat → Int32} {p : Nat} {v : Int32} : ∀ n, n ≤ p → sold (upd G p v) n = sold G n
  | 0, _ => rfl
  | n + 1, h => by
    show sold (upd G p v) n + (if upd G p v n = -1 then 0 else 1) = sold G n + (if G n = -1 then 0 else 1)
    rw [sold_upd n (by omega), upd_n (by omega)]
theorem st_cast : StI (fun σ => f_X7_castPig σ) (fun σ => f_X8_tap σ) := by
  intro σ τ R
  obtain ⟨r1, r2, r3, r4, r5, r6, r7, r8, r9, r10, r11⟩ := id R
  obtain ⟨q1, q2, q0, p, hp, d2, d3, d5, hi⟩ := id r5
  obtain ⟨⟨a0, a1, a2, a3, a4, a5, a6⟩, ⟨b0, b1, b2, b4, b5, b6, b7, b8, b9⟩, c1, c2, c3, c4, c5, c6⟩ := id r4
  by_cases g1 : τ 36 15 = 0
  · refine ⟨-1, σ, τ, ?_, ?_, R⟩
    · show f_X7_castPig σ = _
      unfold f_X7_castPig c_X7_castPig_0
      rw [a0, g1, if_neg (by decide)]
    · show f_X8_tap τ = _
      unfold f_X8_tap c_X8_tap_0
      rw [if_pos g1]
  have g1x : 0 < σ 6 0 := by
    rw [a0, i32_lt]
    have : (τ 36 15).toInt ≠ 0 := fun z => g1 (i32_eq.mpr z)
    have := c2.1
    show 0 < _
    omega
  by_cases g5 : p = 60
  · refine ⟨-4, σ, τ, ?_, ?_, R⟩
    · show f_X7_castPig σ = _
      unfold f_X7_castPig c_X7_castPig_0
      rw [if_pos g1x, full_t (M := 60) (r := p) q1 d2 (by omega) (by omega), bd_s, if_neg (by decide)]
    · show f_X8_tap τ = _
      unfold f_X8_tap c_X8_tap_0
      rw [if_neg g1, d3, if_pos (show nI p = (60:Int32) from by rw [g5]; rfl)]
  have hr8 : p < 60 := by omega
  have n6 : ¬ nI p = (60 : Int32) := fun z => g5 ((nI_eq (a := p) (b := 60) (by omega) (by decide)).mp z)
  have hvc : vi (nI p) 60 = true := vi_nI hr8 (by decide)
  have htc : (nI p).toNatClampNeg = p := nI_tN (by omega)
  have hx : f_X7_castPig σ = some (nI p, (sgu (sgu (sgu (sgu (sgu (sgu (sgu (sgu (sgu (sgu (sgu σ 8 3 (nI (p + 1))) 9 (p * 6 + 0) (σ 6 0)) 9 (p * 6 + 1) (σ 6 6)) 9 (p * 6 + 2) (σ 6 4)) 9 (p * 6 + 3) (σ 6 5)) 9 (p * 6 + 4) (σ 7 6)) 9 (p * 6 + 5) (-1)) 6 0 0) 6 4 (-1)) 6 5 (-1)) 6 6 (-1))) := by
    unfold f_X7_castPig c_X7_castPig_0
    rw [if_pos g1x, full_f (M := 60) (r := p) q1 d2 hr8 (by omega), bd_s, if_pos rfl]
    refine G_bd (add_ok (M := 60) q1 d2 hr8 (by decide)) ?_
    refine G_bdv (pg_set q1 q2 hr8 rfl rfl (by decide)) ?_
    refine G_bdv (pg_set q1 q2 hr8 rfl rfl (by decide)) ?_
    refine G_bdv (pg_set q1 q2 hr8 rfl rfl (by decide)) ?_
    refine G_bdv (pg_set q1 q2 hr8 rfl rfl (by decide)) ?_
    refine G_bdv (pg_set q1 q2 hr8 rfl rfl (by decide)) ?_
    refine G_bdv (pg_set q1 q2 hr8 rfl rfl (by decide)) ?_
    exact G_bdv rfl rfl
  have hm : f_X8_tap τ = some (nI p, (sgu (sgu (sgu (sgu (sgu (sgu (sgu (sgu (sgu (sgu (sgu τ 46 p (τ 36 15)) 47 p (τ 36 24)) 48 p (τ 36 25)) 49 p (τ 36 26)) 50 p (τ 36 18)) 51 p (-1)) 36 27 (nI (p + 1))) 36 15 0) 36 24 (-1)) 36 25 (-1)) 36 26 (-1))) := by
    unfold f_X8_tap c_X8_tap_0
    rw [if_neg g1, d3, if_neg n6, htc]
    refine G_gd hvc (G_lt ?_)
    show gd (vi (τ 36 27) 60) (lt_ (sgu _ 47 (τ 36 27).toNatClampNeg (τ 36 24)) _) = _
    rw [d3, htc]
    refine G_gd hvc (G_lt ?_)
    show gd (vi (τ 36 27) 60) (lt_ (sgu _ 48 (τ 36 27).toNatClampNeg (τ 36 25)) _) = _
    rw [d3, htc]
    refine G_gd hvc (G_lt ?_)
    show gd (vi (τ 36 27) 60) (lt_ (sgu _ 49 (τ 36 27).toNatClampNeg (τ 36 26)) _) = _
    rw [d3, htc]
    refine G_gd hvc (G_lt ?_)
    show gd (vi (τ 36 27) 60) (lt_ (sgu _ 50 (τ 36 27).toNatClampNeg (τ 36 18)) _) = _
    rw [d3, htc]
    refine G_gd hvc (G_lt ?_)
    show gd (vi (τ 36 27) 60) (lt_ (sgu _ 51 (τ 36 27).toNatClampNeg (-1)) _) = _
    rw [d3, htc]
    refine G_gd hvc (G_lt ?_)
    show lt_ (sgu _ 36 27 (τ 36 27 + 1)) _ = _
    rw [d3, nI_1]
    refine G_lt (G_lt (G_lt (G_lt (G_lt ?_))))
    show some (nI (p + 1) - 1, _) = _
    rw [nI_pred]
  refine ⟨nI p, _, _, hx, hm, r1, r2, r3, ⟨⟨rfl, a1, a2, a3, rfl, rfl, rfl⟩, ⟨b0, b1, b2, b4, b5, b6, b7, b8, b9⟩, c1, (show rng (0:Int32) 0 500 from ⟨by decide, by decide⟩), c3, ⟨fun _ => rfl, fun _ => rfl⟩, (show rng (-1:Int32) (-1) 3 from ⟨by decide, by decide⟩), fun z => absurd rfl z⟩, ⟨q1, q2, q0, p + 1, by omega, rfl, rfl, ?_, ?_⟩, r6, r7, r8, r9, r10, r11⟩
  · show σ 0 13 = nI (sold (upd (τ 51) p (-1)) p + (if upd (τ 51) p (-1) p = -1 then 0 else 1))
    rw [sold_upd p (Nat.le_refl _), upd_s, if_pos rfl, Nat.add_zero]
    exact d5
  · intro i hi2
    show R_pi (row6 (σ 9) p (σ 6 0) (σ 6 6) (σ 6 4) (σ 6 5) (σ 7 6) (-1)) (upd (τ 46) p (τ 36 15)) (upd (τ 47) p (τ 36 24)) (upd (τ 48) p (τ 36 25)) (upd (τ 49) p (τ 36 26)) (upd (τ 50) p (τ 36 18)) (upd (τ 51) p (-1)) i
    unfold R_pi
    by_cases hic : i = p
    · subst hic
      rw [row6_0, row6_1, row6_2, row6_3, row6_4, row6_5, upd_s, upd_s, upd_s, upd_s, upd_s, upd_s]
      have z1 := c6 g1
      have z2 : (τ 36 24).toInt ≠ -1 := fun z => z1 (i32_eq.mpr z)
      exact ⟨a0, a6, a4, a5, b6, rfl, c2, ⟨by have := c5.1; omega, c5.2⟩⟩
    · have e := hi i (by omega)
      unfold R_pi at e
      rw [row6_n hic (by decide), row6_n hic (by decide), row6_n hic (by decide), row6_n hic (by decide), row6_n hic (by decide), row6_n hic (by decide), upd_n hic, upd_n hic, upd_n hic, upd_n hic, upd_n hic, upd_n hic]
      exact e
theorem st_tap : StI (fun σ => f_X7_tap σ) (fun σ => f_X8_tap σ) := by
  intro σ τ R
  obtain ⟨r, σ', τ', e1, e2, R'⟩ := st_cast σ τ R
  refine ⟨r, σ', τ', ?_, e2, R'⟩
  show f_X7_tap σ = _
  unfold f_X7_tap c_X7_tap_0
  exact G_bd e1 rfl
