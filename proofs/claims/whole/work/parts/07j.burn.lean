theorem Rel.coal {σ τ : Sg} (R : Rel σ τ) {c i : Nat} (hc : σ 4 3 = nI c) (hc4 : c ≤ 400) (hi : i < c) {v : Int32} (hv : rng v 0 60) : Rel (sgu σ 5 (i * 7 + 1) v) (sgu τ 40 i v) := by
  obtain ⟨r1, r2, ⟨q1, q2, c', lo, hlo, hc', hcl, d1, d2, d3, d4, he⟩, rest⟩ := R
  have hcc : c' = c := nI_inj (by omega) (by omega) (d2.symm.trans hc)
  subst hcc
  refine ⟨r1, r2, ⟨q1, q2, c', lo, hlo, hc', hcl, d1, d2, d3, d4, ?_⟩, rest⟩
  intro k hk
  have e := he k hk
  show R_ci lo (upd (σ 5) (i * 7 + 1) v) (τ 39) (upd (τ 40) i v) (τ 41) (τ 42) (τ 43) (τ 44) (τ 45) k
  unfold R_ci at e ⊢
  obtain ⟨e0, e1, e2, e3, e4, e5, e6, f1, f2, f3⟩ := e
  by_cases hki : k = i
  · subst hki
    refine ⟨?_, ?_, ?_, ?_, ?_, ?_, ?_, f1, ?_, f3⟩
    · rw [tu_d (by decide)]; exact e0
    · rw [upd_s, upd_s]
    · rw [tu_d (by decide)]; exact e2
    · rw [tu_d (by decide)]; exact e3
    · rw [tu_d (by decide)]; exact e4
    · rw [tu_d (by decide)]; exact e5
    · rw [tu_d (by decide)]; exact e6
    · rw [upd_s]; exact hv
  · refine ⟨?_, ?_, ?_, ?_, ?_, ?_, ?_, f1, ?_, f3⟩
    · rw [tu_n hki (by decide) (by decide)]; exact e0
    · rw [tu_n hki (by decide) (by decide), upd_n hki]; exact e1
    · rw [tu_n hki (by decide) (by decide)]; exact e2
    · rw [tu_n hki (by decide) (by decide)]; exact e3
    · rw [tu_n hki (by decide) (by decide)]; exact e4
    · rw [tu_n hki (by decide) (by decide)]; exact e5
    · rw [tu_n hki (by decide) (by decide)]; exact e6
    · rw [upd_n hki]; exact f2
theorem burn_loop {N c : Nat} (hc4 : c ≤ 400) (v1 sl : Int32) : ∀ (d i j : Nat) (σ τ : Sg) (left : Int32), i + d = c → d < j → Rel σ τ → σ 4 3 = nI c → rng left 0 20 → ∃ left' σ' τ', b_X0_burn_7 N j σ v1 left (nI i) = some (v1 - left', σ') ∧ b_X8_oneTick_90 N j τ sl left (nI i) = c_X8_oneTick_146 N τ' sl left' ∧ Rel σ' τ' ∧ (∀ q, q ≠ 5 → σ' q = σ q) ∧ (∀ q, q ≠ 40 → τ' q = τ q) := by
  intro d
  induction d with
  | zero =>
    intro i j σ τ left hi hj R hc hl
    obtain ⟨j, rfl⟩ : ∃ z, j = z + 1 := ⟨j - 1, by omega⟩
    obtain ⟨r1, r2, ⟨q1, q2, c', lo, hlo, hc', hcl, d1, d2, d3, d4, he⟩, rest⟩ := id R
    have hcc : c' = c := nI_inj (by omega) (by omega) (d2.symm.trans hc)
    subst hcc
    refine ⟨left, σ, τ, ?_, ?_, R, fun _ _ => rfl, fun _ _ => rfl⟩
    · show c_X0_burn_7 N _ σ v1 left (nI i) = _
      unfold c_X0_burn_7
      rw [d2, if_pos (nI_le (by omega) (by omega))]
    · show c_X8_oneTick_90 N _ τ sl left (nI i) = _
      unfold c_X8_oneTick_90
      rw [d3, if_pos (nI_le (by omega) (by omega))]
  | succ d ih =>
    intro i j σ τ left hi hj R hc hl
    obtain ⟨j, rfl⟩ : ∃ z, j = z + 1 := ⟨j - 1, by omega⟩
    obtain ⟨r1, r2, ⟨q1, q2, c', lo, hlo, hc', hcl, d1, d2, d3, d4, he⟩, rest⟩ := id R
    have hcc : c' = c := nI_inj (by omega) (by omega) (d2.symm.trans hc)
    subst hcc
    have hge : ¬ nI c' ≤ nI i := nI_ge (by omega) (by omega)
    by_cases h0 : left ≤ 0
    · refine ⟨left, σ, τ, ?_, ?_, R, fun _ _ => rfl, fun _ _ => rfl⟩
      · show c_X0_burn_7 N _ σ v1 left (nI i) = _
        unfold c_X0_burn_7
        rw [d2, if_neg hge, if_pos h0]
      · show c_X8_oneTick_90 N _ τ sl left (nI i) = _
        unfold c_X8_oneTick_90
        rw [d3, if_neg hge, if_pos h0]
    · obtain ⟨e0, e1, -, -, -, -, -, -, f2, -⟩ := he i (by omega)
      have hv4 : vi (nI i) 400 = true := vi_nI (by omega) (by decide)
      have ht4 : (nI i).toNatClampNeg = i := nI_tN (by omega)
      obtain ⟨am, ham, ham2⟩ : ∃ am : Int32, am = (if left < τ 40 i then left else τ 40 i) ∧ am = (if left ≤ τ 40 i then left else τ 40 i) := by
        refine ⟨_, rfl, ?_⟩
        by_cases z : left < τ 40 i
        · rw [if_pos z, if_pos (by rw [i32_lt] at z; rw [i32_le]; omega)]
        · rw [if_neg z]
          by_cases y : left ≤ τ 40 i
          · rw [if_pos y, i32_eq]
            rw [i32_lt] at z
            rw [i32_le] at y
            omega
          · rw [if_neg y]
      have b1 : 0 ≤ am.toInt ∧ am.toInt ≤ left.toInt ∧ am.toInt ≤ (τ 40 i).toInt := by
        have := hl.1
        have := f2.1
        rw [ham2]
        by_cases y : left ≤ τ 40 i
        · rw [if_pos y]
          rw [i32_le] at y
          omega
        · rw [if_neg y]
          rw [i32_le] at y
          omega
      have hl1 := hl.1
      have hl2 := hl.2
      have f21 := f2.1
      have f22 := f2.2
      have hs1 : (τ 40 i - am).toInt = (τ 40 i).toInt - am.toInt := i32_sub (by omega) (by omega)
      have hs2 : (left - am).toInt = left.toInt - am.toInt := i32_sub (by omega) (by omega)
      have R1 := R.coal (c := c') d2 hc4 (i := i) (by omega) (v := τ 40 i - am) ⟨by omega, by omega⟩
      obtain ⟨left', σ', τ', g1, g2, R', k1, k2⟩ := ih (i + 1) j _ _ (left - am) (by omega) (by omega) R1 d2 ⟨by omega, by omega⟩
      refine ⟨left', σ', τ', ?_, ?_, R', fun q hq => (k1 q hq).trans (sgu_n hq), fun q hq => (k2 q hq).trans (sgu_n hq)⟩
      · show c_X0_burn_7 N _ σ v1 left (nI i) = _
        unfold c_X0_burn_7
        rw [d2, if_neg hge, if_neg h0]
        refine G_bd (ch_get q1 q2 (i := i) (by omega) rfl rfl (by decide)) ?_
        rw [e1, ← ham, lt_e]
        refine G_bdv (ch_set q1 q2 (i := i) (by omega) rfl rfl (by decide)) ?_
        rw [lt_e, nI_suc]
        exact g1
      · show c_X8_oneTick_90 N _ τ sl left (nI i) = _
        unfold c_X8_oneTick_90
        rw [d3, if_neg hge, if_neg h0, gd_t hv4, ht4, gd_t hv4]
        have hstep : c_X8_oneTick_122 N (b_X8_oneTick_90 N j) τ sl left (nI i) am = c_X8_oneTick_146 N τ' sl left' := by
          unfold c_X8_oneTick_122
          rw [gd_t hv4, gd_t hv4, ht4, lt_e, lt_e, nI_suc]
          exact g2
        by_cases y : left ≤ τ 40 i
        · rw [if_pos y] at ham2 ⊢
          rw [ham2] at hstep
          exact hstep
        · rw [if_neg y] at ham2 ⊢
          rw [ham2] at hstep
          exact hstep
def R_sd (h f m : Nat → Int32) (sl : Int32) (B : Int) : Prop := (h 0 = m 15 ∧ h 1 = m 12 ∧ h 2 = m 22 ∧ h 3 = m 21 ∧ h 4 = m 25 ∧ h 5 = m 26 ∧ h 6 = m 24) ∧ (f 0 = m 11 ∧ f 1 = m 14 ∧ f 2 = sl ∧ m 16 = sl + f 3 ∧ f 4 = m 17 ∧ f 5 = m 13 ∧ f 6 = m 18 ∧ f 7 = m 19 ∧ f 8 = m 20) ∧ rng (m 11) 0 20 ∧ rng (m 15) 0 B ∧ rng (m 12) 1 500 ∧ (m 25 = -1 ↔ m 24 = -1) ∧ rng (m 24) (-1) 3 ∧ (m 15 ≠ 0 → m 24 ≠ -1)
def RelT (σ τ : Sg) (sl : Int32) (B : Int) : Prop := R_st (σ 1) (τ 37) ∧ R_ri (σ 2) (τ 38) ∧ R_ch (σ 3 1) (σ 4 1) (σ 4 2) (σ 4 3) (σ 5) (τ 36 2) (τ 36 3) (τ 39) (τ 40) (τ 41) (τ 42) (τ 43) (τ 44) (τ 45) ∧ R_sd (σ 6) (σ 7) (τ 36) sl B ∧ R_pg (σ 0 13) (σ 0 14) (σ 8 1) (σ 8 2) (σ 8 3) (σ 9) (τ 36 27) (τ 36 45) (τ 46) (τ 47) (τ 48) (τ 49) (τ 50) (τ 51) ∧ R_sg (σ 11) (σ 12) (τ 52) (τ 53) ∧ R_ru (σ 13 1) (σ 13 2) (σ 13 3) (σ 14) (τ 36 36) (τ 54) (τ 55) (τ 56) (τ 57) ∧ R_fg (σ 15 1) (σ 15 2) (σ 15 3) (σ 16) (τ 36 41) (τ 58) (τ 59) (τ 60) ∧ R_mo (σ 25 1) (σ 25 2) (σ 26) (τ 61) (τ 62) ∧ R_pc (σ 27 1) (σ 27 2) (σ 28) (τ 63) (τ 64) (τ 65) ∧ R_pl (σ 29 8) (σ 35) (τ 36 52) (τ 66)
