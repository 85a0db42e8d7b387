theorem tu_n {f : Nat → Int32} {k j W a b : Nat} {v : Int32} (h : j ≠ k) (ha : a < W) (hb : b < W) : upd f (k * W + a) v (j * W + b) = f (j * W + b) := by
  refine upd_n (fun e => h ?_)
  have h1 : (j * W + b) / W = (k * W + a) / W := by rw [e]
  rw [Nat.mul_comm j W, Nat.mul_comm k W, Nat.mul_add_div (by omega), Nat.mul_add_div (by omega), Nat.div_eq_of_lt hb, Nat.div_eq_of_lt ha] at h1
  omega
theorem tu_d {f : Nat → Int32} {k W a b : Nat} {v : Int32} (h : b ≠ a) : upd f (k * W + a) v (k * W + b) = f (k * W + b) := upd_n (by omega)
theorem st_rich (v1 v2 : Int32) : StI (fun σ => f_X7_rich σ v1 v2) (fun σ => f_X8_rich σ v1 v2) := by
  intro σ τ R
  obtain ⟨r1, r2, r3, r4, r5, r6, r7, r8, r9, r10, r11⟩ := id R
  by_cases h1 : wi v1 0 3
  · by_cases h2 : wi v2 10 60
    · obtain ⟨k, hk, rfl, -⟩ := wi_nat (n := 4) h1 (by decide)
      have e := (r2 k hk).1
      have hv := vi_nI hk (by decide)
      have ht := nI_tN (k := k) (by omega)
      refine ⟨σ 2 k, sgu σ 2 k v2, sgu τ 38 k v2, ?_, ?_, r1, ?_, r3, r4, r5, r6, r7, r8, r9, r10, r11⟩
      · simp [f_X7_rich, c_X7_rich_0, wx_t _ h1, wx_t _ h2, bd_s, gd_t hv, ht, lt_e]
      · simp [f_X8_rich, c_X8_rich_0, wm_t _ h1, wm_t _ h2, bd_s, gd_t hv, ht, lt_e, e]
      · intro j hj
        rw [sgu_s, sgu_s]
        by_cases hjk : j = k
        · rw [hjk, upd_s, upd_s]
          exact ⟨rfl, wi_iff.mp h2⟩
        · rw [upd_n hjk, upd_n hjk]
          exact r2 j hj
    · refine ⟨-2, σ, τ, ?_, ?_, R⟩
      · simp [f_X7_rich, c_X7_rich_0, wx_t _ h1, wx_f _ h2, bd_s]
      · simp [f_X8_rich, c_X8_rich_0, wm_t _ h1, wm_f _ h2, bd_s]
  · refine ⟨-2, σ, τ, ?_, ?_, R⟩
    · simp [f_X7_rich, c_X7_rich_0, wx_f _ h1, bd_s]
    · simp [f_X8_rich, c_X8_rich_0, wm_f _ h1, bd_s]
theorem st_store (v1 : Int32) : StI (fun σ => f_X7_store σ v1) (fun σ => f_X8_store σ v1) := by
  intro σ τ R
  obtain ⟨r1, r2, r3, r4, r5, r6, r7, r8, r9, r10, r11⟩ := id R
  by_cases h1 : wi v1 0 5
  · obtain ⟨k, hk, rfl, -⟩ := wi_nat (n := 6) h1 (by decide)
    have e := r1 k hk
    have hv := vi_nI hk (by decide)
    have ht := nI_tN (k := k) (by omega)
    refine ⟨σ 1 k, σ, τ, ?_, ?_, R⟩
    · simp [f_X7_store, c_X7_store_0, wx_t _ h1, bd_s, gd_t hv, ht]
    · simp [f_X8_store, c_X8_store_0, wm_t _ h1, bd_s, gd_t hv, ht, e]
  · refine ⟨-2, σ, τ, ?_, ?_, R⟩
    · simp [f_X7_store, c_X7_store_0, wx_f _ h1, bd_s]
    · simp [f_X8_store, c_X8_store_0, wm_f _ h1, bd_s]
theorem st_sign (v1 : Int32) : StI (fun σ => f_X7_sign σ v1) (fun σ => f_X8_sign σ v1) := by
  intro σ τ R
  obtain ⟨r1, r2, r3, r4, r5, r6, r7, r8, r9, r10, r11⟩ := id R
  by_cases h1 : wi v1 0 2
  · obtain ⟨k, hk, rfl, -⟩ := wi_nat (n := 3) h1 (by decide)
    have e := (r6 k hk).1
    have hv := vi_nI hk (by decide)
    have ht := nI_tN (k := k) (by omega)
    refine ⟨σ 11 k, σ, τ, ?_, ?_, R⟩
    · simp [f_X7_sign, c_X7_sign_0, wx_t _ h1, bd_s, gd_t hv, ht]
    · simp [f_X8_sign, c_X8_sign_0, wm_t _ h1, bd_s, gd_t hv, ht, e]
  · refine ⟨-2, σ, τ, ?_, ?_, R⟩
    · simp [f_X7_sign, c_X7_sign_0, wx_f _ h1, bd_s]
    · simp [f_X8_sign, c_X8_sign_0, wm_f _ h1, bd_s]
theorem st_lose (v1 v2 : Int32) : StI (fun σ => f_X7_lose σ v1 v2) (fun σ => f_X8_lose σ v1 v2) := by
  intro σ τ R
  obtain ⟨r1, r2, r3, r4, r5, r6, r7, r8, r9, r10, r11⟩ := id R
  by_cases h1 : wi v1 0 2
  · by_cases h2 : wi v2 0 50
    · obtain ⟨k, hk, rfl, -⟩ := wi_nat (n := 3) h1 (by decide)
      have hv := vi_nI hk (by decide)
      have ht := nI_tN (k := k) (by omega)
      refine ⟨1, sgu σ 12 k v2, sgu τ 53 k v2, ?_, ?_, r1, r2, r3, r4, r5, ?_, r7, r8, r9, r10, r11⟩
      · simp [f_X7_lose, c_X7_lose_0, wx_t _ h1, wx_t _ h2, bd_s, gd_t hv, ht, lt_e]
      · simp [f_X8_lose, c_X8_lose_0, wm_t _ h1, wm_t _ h2, bd_s, gd_t hv, ht, lt_e]
      · intro j hj
        rw [sgu_s, sgu_s, sgu_n (by decide), sgu_n (by decide)]
        by_cases hjk : j = k
        · rw [hjk, upd_s, upd_s]
          exact ⟨(r6 k hk).1, rfl⟩
        · rw [upd_n hjk, upd_n hjk]
          exact r6 j hj
    · refine ⟨-2, σ, τ, ?_, ?_, R⟩
      · simp [f_X7_lose, c_X7_lose_0, wx_t _ h1, wx_f _ h2, bd_s]
      · simp [f_X8_lose, c_X8_lose_0, wm_t _ h1, wm_f _ h2, bd_s]
  · refine ⟨-2, σ, τ, ?_, ?_, R⟩
    · simp [f_X7_lose, c_X7_lose_0, wx_f _ h1, bd_s]
    · simp [f_X8_lose, c_X8_lose_0, wm_f _ h1, bd_s]
theorem st_blast (v1 : Int32) : StI (fun σ => f_X7_blast σ v1) (fun σ => f_X8_blast σ v1) := by
  intro σ τ R
  obtain ⟨r1, r2, r3, r4, r5, r6, r7, r8, r9, r10, r11⟩ := id R
  by_cases h1 : wi v1 0 20
  · obtain ⟨⟨a0, a1, a2, a3, a4, a5, a6⟩, ⟨b0, b1, b2, b4, b5, b6, b7, b8, b9⟩, c1, c2⟩ := id r4
    refine ⟨σ 7 0, sgu σ 7 0 v1, sgu τ 36 11 v1, ?_, ?_, r1, r2, r3, ⟨⟨a0, a1, a2, a3, a4, a5, a6⟩, ⟨rfl, b1, b2, b4, b5, b6, b7, b8, b9⟩, wi_iff.mp h1, c2⟩, r5, r6, r7, r8, r9, r10, r11⟩
    · simp [f_X7_blast, c_X7_blast_0, wx_t _ h1, bd_s, lt_e]
    · simp [f_X8_blast, c_X8_blast_0, wm_t _ h1, bd_s, lt_e, b0]
  · refine ⟨-2, σ, τ, ?_, ?_, R⟩
    · simp [f_X7_blast, c_X7_blast_0, wx_f _ h1, bd_s]
    · simp [f_X8_blast, c_X8_blast_0, wm_f _ h1, bd_s]
theorem st_hearth (v1 v2 : Int32) : StI (fun σ => f_X7_hearth σ v1 v2) (fun σ => f_X8_hearth σ v1 v2) := by
  intro σ τ R
  obtain ⟨r1, r2, r3, r4, r5, r6, r7, r8, r9, r10, r11⟩ := id R
  by_cases h1 : wi v1 1 500
  · by_cases h2 : wi v2 1 100000
    · obtain ⟨⟨a0, a1, a2, a3, a4, a5, a6⟩, ⟨b0, b1, b2, b4, b5, b6, b7, b8, b9⟩, c1, c2, c3, c4⟩ := id r4
      refine ⟨1, sgu (sgu σ 6 1 v1) 7 5 v2, sgu (sgu τ 36 12 v1) 36 13 v2, ?_, ?_, r1, r2, r3, ⟨⟨a0, rfl, a2, a3, a4, a5, a6⟩, ⟨b0, b1, b2, b4, rfl, b6, b7, b8, b9⟩, c1, c2, wi_iff.mp h1, c4⟩, r5, r6, r7, r8, r9, r10, r11⟩
      · simp [f_X7_hearth, c_X7_hearth_0, wx_t _ h1, wx_t _ h2, bd_s, lt_e]
      · simp [f_X8_hearth, c_X8_hearth_0, wm_t _ h1, wm_t _ h2, bd_s, lt_e]
    · refine ⟨-2, σ, τ, ?_, ?_, R⟩
      · simp [f_X7_hearth, c_X7_hearth_0, wx_t _ h1, wx_f _ h2, bd_s]
      · simp [f_X8_hearth, c_X8_hearth_0, wm_t _ h1, wm_f _ h2, bd_s]
  · refine ⟨-2, σ, τ, ?_, ?_, R⟩
    · simp [f_X7_hearth, c_X7_hearth_0, wx_f _ h1, bd_s]
    · simp [f_X8_hearth, c_X8_hearth_0, wm_f _ h1, bd_s]
theorem st_unrule : StI (fun σ => f_X7_unrule σ) (fun σ => f_X8_unrule σ) := by
  intro σ τ R
  obtain ⟨r1, r2, r3, r4, r5, r6, r7, r8, r9, r10, r11⟩ := id R
  obtain ⟨q1, q2, r, hr, q3, q4, q5⟩ := r7
  refine ⟨σ 13 3, sgu σ 13 3 0, sgu τ 36 36 0, rfl, ?_, r1, r2, r3, r4, r5, r6, ⟨q1, q2, 0, by omega, rfl, rfl, fun i hi => absurd hi (by omega)⟩, r8, r9, r10, r11⟩
  show some (τ 36 36, _) = _
  rw [q4, q3]
theorem st_about (v1 : Int32) : StI (fun σ => f_X7_about σ v1) (fun σ => f_X8_about σ v1) := by
  intro σ τ R
  obtain ⟨r1, r2, r3, r4, r5, r6, r7, r8, r9, r10, r11⟩ := id R
  obtain ⟨⟨a0, a1, a2, a3, a4, a5, a6⟩, ⟨b0, b1, b2, b4, b5, b6, b7, b8, b9⟩, -⟩ := r4
  obtain ⟨-, -, c, lo, -, -, -, d1, d2, d3, d4, -⟩ := r3
  have key : ∃ r, f_X7_about σ v1 = some (r, σ) ∧ f_X8_about τ v1 = some (r, τ) := by
    by_cases n0 : v1 = 0
    · subst n0
      exact ⟨τ 36 14, congrArg (fun z => some (z, σ)) b1, rfl⟩
    by_cases n1 : v1 = 1
    · subst n1
      exact ⟨τ 36 15, congrArg (fun z => some (z, σ)) a0, rfl⟩
    by_cases n2 : v1 = 2
    · subst n2
      exact ⟨τ 36 16, congrArg (fun z => some (z, σ)) b2, rfl⟩
    by_cases n3 : v1 = 3
    · subst n3
      exact ⟨τ 36 17, congrArg (fun z => some (z, σ)) b4, rfl⟩
    by_cases n4 : v1 = 4
    · subst n4
      exact ⟨τ 36 18, congrArg (fun z => some (z, σ)) b6, rfl⟩
    by_cases n5 : v1 = 5
    · subst n5
      exact ⟨nI c - nI lo, by show some (σ 4 3 - σ 3 1, σ) = _; rw [d2, d1], by show some (τ 36 2 - τ 36 3, τ) = _; rw [d3, d4]⟩
    by_cases n6 : v1 = 6
    · subst n6
      exact ⟨τ 36 19, congrArg (fun z => some (z, σ)) b7, rfl⟩
    by_cases n7 : v1 = 7
    · subst n7
      exact ⟨τ 36 20, congrArg (fun z => some (z, σ)) b8, rfl⟩
    by_cases n8 : v1 = 8
    · subst n8
      exact ⟨τ 36 21, congrArg (fun z => some (z, σ)) a3, rfl⟩
    by_cases n9 : v1 = 9
    · subst n9
      by_cases h0 : τ 36 23 = 0
      · exact ⟨0, if_pos (b9.trans h0), if_pos h0⟩
      · exact ⟨1, if_neg (fun z => h0 (b9.symm.trans z)), if_neg h0⟩
    by_cases n10 : v1 = 10
    · subst n10
      exact ⟨τ 36 22, congrArg (fun z => some (z, σ)) a2, rfl⟩
    by_cases n11 : v1 = 11
    · subst n11
      exact ⟨τ 36 11, congrArg (fun z => some (z, σ)) b0, rfl⟩
    refine ⟨-2, ?_, ?_⟩
    · unfold f_X7_about c_X7_about_0
      rw [if_neg n0, if_neg n1, if_neg n2, if_neg n3, if_neg n4, if_neg n5, if_neg n6, if_neg n7, if_neg n8, if_neg n9, if_neg n10, if_neg n11]
    · unfold f_X8_about c_X8_about_0
      rw [if_neg n0, if_neg n1, if_neg n2, if_neg n3, if_neg n4, if_neg n5, if_neg n6, if_neg n7, if_neg n8, if_neg n9, if_neg n10, if_neg n11]
  obtain ⟨r, e1, e2⟩ := key
  exact ⟨r, σ, τ, e1, e2, R⟩
theorem st_paceAt (v1 : Int32) : StI (fun σ => f_X7_paceAt σ v1) (fun σ => f_X8_paceAt σ v1) := by
  intro σ τ R
  obtain ⟨r1, r2, r3, r4, r5, r6, r7, r8, r9, r10, r11⟩ := id R
  obtain ⟨k, hk, q1, q2, q3⟩ := r11
  by_cases h1 : wi v1 0 (nI k - 1)
  · have h2 := wi_iff.mp h1
    have e0 : (nI k - 1).toInt = (k : Int) - 1 := by
      have := nI_toInt (n := k) (by omega)
      rw [i32_sub (by rw [this]; show -2147483648 ≤ (k : Int) - 1; omega) (by rw [this]; show (k : Int) - 1 < 2147483648; omega), this]
      rfl
    have h3 : (0 : Int32).toInt = 0 := rfl
    obtain ⟨j, hj, rfl, -⟩ := i32_nat (x := v1) (n := k) (by omega) (by omega)
    have hv := vi_nI (k := j) (n := 6) (by omega) (by decide)
    have ht := nI_tN (k := j) (by omega)
    refine ⟨σ 35 j, σ, τ, ?_, ?_, R⟩
    · simp [f_X7_paceAt, c_X7_paceAt_0, q1, wx_t _ h1, bd_s, gd_t hv, ht]
    · simp [f_X8_paceAt, c_X8_paceAt_0, q2, wm_t _ h1, bd_s, gd_t hv, ht, q3 j hj]
  · refine ⟨-1, σ, τ, ?_, ?_, R⟩
    · simp [f_X7_paceAt, c_X7_paceAt_0, q1, wx_f _ h1, bd_s]
    · simp [f_X8_paceAt, c_X8_paceAt_0, q2, wm_f _ h1, bd_s]
theorem st_month (v1 v2 v3 : Int32) : StI (fun σ => f_X7_month σ v1 v2 v3) (fun σ => f_X8_month σ v1 v2 v3) := by
  intro σ τ R
  obtain ⟨r1, r2, r3, r4, r5, r6, r7, r8, r9, r10, r11⟩ := id R
  obtain ⟨q1, q2, q3⟩ := id r9
  by_cases h1 : wi v1 0 11
  · by_cases h2 : wi v2 0 4
    · by_cases h3 : wi v3 0 1000
      · obtain ⟨k, hk, rfl, -⟩ := wi_nat (n := 12) h1 (by decide)
        have hv := vi_nI hk (by decide)
        have ht := nI_tN (k := k) (by omega)
        refine ⟨1, sgu (sgu σ 26 (k * 2 + 0) v2) 26 (k * 2 + 1) v3, sgu (sgu τ 61 k v2) 62 k v3, ?_, ?_, r1, r2, r3, r4, r5, r6, r7, r8, ⟨q1, q2, ?_⟩, r10, r11⟩
        · show f_X7_month σ (nI k) v2 v3 = _
          unfold f_X7_month c_X7_month_0
          rw [wx_t _ h1, bd_s, if_neg (by decide), wx_t _ h2, bd_s, if_neg (by decide), wx_t _ h3, bd_s, if_neg (by decide)]
          refine G_bdv (mo_set q1 q2 hk rfl rfl (by decide)) ?_
          exact G_bdv (mo_set q1 q2 hk rfl rfl (by decide)) rfl
        · simp [f_X8_month, c_X8_month_0, wm_t _ h1, wm_t _ h2, wm_t _ h3, bd_s, gd_t hv, ht, lt_e]
        · intro j hj
          have e := q3 j hj
          show upd (upd (σ 26) (k * 2 + 0) v2) (k * 2 + 1) v3 (j * 2 + 0) = upd (τ 61) k v2 j ∧ upd (upd (σ 26) (k * 2 + 0) v2) (k * 2 + 1) v3 (j * 2 + 1) = upd (τ 62) k v3 j ∧ rng (upd (τ 61) k v2 j) 0 4 ∧ rng (upd (τ 62) k v3 j) 0 1000
          by_cases hjk : j = k
          · subst hjk
            refine ⟨?_, ?_, ?_, ?_⟩
            · rw [tu_d, upd_s, upd_s]; decide
            · rw [upd_s, upd_s]
            · rw [upd_s]; exact wi_iff.mp h2
            · rw [upd_s]; exact wi_iff.mp h3
          · refine ⟨?_, ?_, ?_, ?_⟩
            · rw [tu_n hjk, tu_n hjk, upd_n hjk, e.1] <;> decide
            · rw [tu_n hjk, tu_n hjk, upd_n hjk, e.2.1] <;> decide
            · rw [upd_n hjk]; exact e.2.2.1
            · rw [upd_n hjk]; exact e.2.2.2
      · refine ⟨-2, σ, τ, ?_, ?_, R⟩
        · simp [f_X7_month, c_X7_month_0, wx_t _ h1, wx_t _ h2, wx_f _ h3, bd_s]
        · simp [f_X8_month, c_X8_month_0, wm_t _ h1, wm_t _ h2, wm_f _ h3, bd_s]
    · refine ⟨-2, σ, τ, ?_, ?_, R⟩
      · simp [f_X7_month, c_X7_month_0, wx_t _ h1, wx_f _ h2, bd_s]
      · simp [f_X8_month, c_X8_month_0, wm_t _ h1, wm_f _ h2, bd_s]
  · refine ⟨-2, σ, τ, ?_, ?_, R⟩
    · simp [f_X7_month, c_X7_month_0, wx_f _ h1, bd_s]
    · simp [f_X8_month, c_X8_month_0, wm_f _ h1, bd_s]
theorem st_pace (v1 v2 v3 v4 : Int32) : StI (fun σ => f_X7_pace σ v1 v2 v3 v4) (fun σ => f_X8_pace σ v1 v2 v3 v4) := by
  intro σ τ R
  obtain ⟨r1, r2, r3, r4, r5, r6, r7, r8, r9, r10, r11⟩ := id R
  obtain ⟨q1, q2, q3⟩ := id r10
  by_cases h1 : wi v1 0 4
  · by_cases h2 : wi v2 0 1000
    · by_cases h3 : wi v3 0 1000
      · by_cases h4 : wi v4 0 1000
        · obtain ⟨k, hk, rfl, -⟩ := wi_nat (n := 5) h1 (by decide)
          have hv := vi_nI hk (by decide)
          have ht := nI_tN (k := k) (by omega)
          refine ⟨1, sgu (sgu (sgu σ 28 (k * 3 + 0) v2) 28 (k * 3 + 1) v3) 28 (k * 3 + 2) v4, sgu (sgu (sgu τ 63 k v2) 64 k v3) 65 k v4, ?_, ?_, r1, r2, r3, r4, r5, r6, r7, r8, r9, ⟨q1, q2, ?_⟩, r11⟩
          · show f_X7_pace σ (nI k) v2 v3 v4 = _
            unfold f_X7_pace c_X7_pace_0
            rw [wx_t _ h1, bd_s, if_neg (by decide), wx_t _ h2, bd_s, if_neg (by decide), wx_t _ h3, bd_s, if_neg (by decide), wx_t _ h4, bd_s, if_neg (by decide)]
            refine G_bdv (pc_set q1 q2 hk rfl rfl (by decide)) ?_
            refine G_bdv (pc_set q1 q2 hk rfl rfl (by decide)) ?_
            exact G_bdv (pc_set q1 q2 hk rfl rfl (by decide)) rfl
          · simp [f_X8_pace, c_X8_pace_0, wm_t _ h1, wm_t _ h2, wm_t _ h3, wm_t _ h4, bd_s, gd_t hv, ht, lt_e]
          · intro j hj
            have e := q3 j hj
            show upd (upd (upd (σ 28) (k * 3 + 0) v2) (k * 3 + 1) v3) (k * 3 + 2) v4 (j * 3 + 0) = upd (τ 63) k v2 j ∧ upd (upd (upd (σ 28) (k * 3 + 0) v2) (k * 3 + 1) v3) (k * 3 + 2) v4 (j * 3 + 1) = upd (τ 64) k v3 j ∧ upd (upd (upd (σ 28) (k * 3 + 0) v2) (k * 3 + 1) v3) (k * 3 + 2) v4 (j * 3 + 2) = upd (τ 65) k v4 j ∧ rng (upd (τ 63) k v2 j) 0 1000 ∧ rng (upd (τ 64) k v3 j) 0 1000 ∧ rng (upd (τ 65) k v4 j) 0 1000
            by_cases hjk : j = k
            · subst hjk
              refine ⟨?_, ?_, ?_, ?_, ?_, ?_⟩
              · rw [tu_d, tu_d, upd_s, upd_s] <;> decide
              · rw [tu_d, upd_s, upd_s]; decide
              · rw [upd_s, upd_s]
              · rw [upd_s]; exact wi_iff.mp h2
              · rw [upd_s]; exact wi_iff.mp h3
              · rw [upd_s]; exact wi_iff.mp h4
            · refine ⟨?_, ?_, ?_, ?_, ?_, ?_⟩
              · rw [tu_n hjk, tu_n hjk, tu_n hjk, upd_n hjk, e.1] <;> decide
              · rw [tu_n hjk, tu_n hjk, tu_n hjk, upd_n hjk, e.2.1] <;> decide
              · rw [tu_n hjk, tu_n hjk, tu_n hjk, upd_n hjk, e.2.2.1] <;> decide
              · rw [upd_n hjk]; exact e.2.2.2.1
              · rw [upd_n hjk]; exact e.2.2.2.2.1
              · rw [upd_n hjk]; exact e.2.2.2.2.2
        · refine ⟨-2, σ, τ, ?_, ?_, R⟩
          · simp [f_X7_pace, c_X7_pace_0, wx_t _ h1, wx_t _ h2, wx_t _ h3, wx_f _ h4, bd_s]
          · simp [f_X8_pace, c_X8_pace_0, wm_t _ h1, wm_t _ h2, wm_t _ h3, wm_f _ h4, bd_s]
      · refine ⟨-2, σ, τ, ?_, ?_, R⟩
        · simp [f_X7_pace, c_X7_pace_0, wx_t _ h1, wx_t _ h2, wx_f _ h3, bd_s]
        · simp [f_X8_pace, c_X8_pace_0, wm_t _ h1, wm_t _ h2, wm_f _ h3, bd_s]
    · refine ⟨-2, σ, τ, ?_, ?_, R⟩
      · simp [f_X7_pace, c_X7_pace_0, wx_t _ h1, wx_f _ h2, bd_s]
      · simp [f_X8_pace, c_X8_pace_0, wm_t _ h1, wm_f _ h2, bd_s]
  · refine ⟨-2, σ, τ, ?_, ?_, R⟩
    · simp [f_X7_pace, c_X7_pace_0, wx_f _ h1, bd_s]
    · simp [f_X8_pace, c_X8_pace_0, wm_f _ h1, bd_s]
theorem st_chargeAt (v1 v2 : Int32) : StI (fun σ => f_X7_chargeAt σ v1 v2) (fun σ => f_X8_chargeAt σ v1 v2) := by
  intro σ τ R
  obtain ⟨r1, r2, r3, r4, r5, r6, r7, r8, r9, r10, r11⟩ := id R
  obtain ⟨q1, q2, c, lo, -, hc, -, d1, d2, d3, d4, hi⟩ := id r3
  have key : ∃ r, f_X7_chargeAt σ v1 v2 = some (r, σ) ∧ f_X8_chargeAt τ v1 v2 = some (r, τ) := by
    by_cases h0 : v1 < 0
    · exact ⟨-2, by simp [f_X7_chargeAt, c_X7_chargeAt_0, h0], by simp [f_X8_chargeAt, c_X8_chargeAt_0, h0]⟩
    by_cases h1 : wi v2 0 6
    · by_cases hlt : v1 < nI c
      · have g1 : ¬ v1.toInt < 0 := by rw [i32_lt] at h0; exact h0
        have g2 : v1.toInt < c := by rw [i32_lt, nI_toInt (by omega)] at hlt; exact hlt
        obtain ⟨i, hi2, rfl, -⟩ := i32_nat (x := v1) (n := c) (by omega) g2
        have hv := vi_nI (k := i) (n := 400) (by omega) (by decide)
        have ht := nI_tN (k := i) (by omega)
        obtain ⟨k, hk, rfl, -⟩ := wi_nat (n := 7) h1 (by decide)
        obtain ⟨e0, e1, e2, e3, e4, e5, e6, -⟩ := hi i hi2
        rcases (show k = 0 ∨ k = 1 ∨ k = 2 ∨ k = 3 ∨ k = 4 ∨ k = 5 ∨ k = 6 by omega) with rfl | rfl | rfl | rfl | rfl | rfl | rfl
        · refine ⟨τ 39 i, ?_, ?_⟩
          · unfold f_X7_chargeAt c_X7_chargeAt_0
            rw [if_neg h0, wx_t _ h1, bd_s, if_neg (by decide), d2, if_pos hlt]
            exact G_bd (ch_get q1 q2 (by omega) rfl rfl (by decide)) (by rw [e0])
          · unfold f_X8_chargeAt c_X8_chargeAt_0
            rw [if_neg h0, wm_t _ h1, bd_s, if_neg (by decide), d3, if_pos hlt]
            simp [gd_t hv, ht, show nI 0 = (0 : Int32) from rfl]
        · refine ⟨τ 40 i, ?_, ?_⟩
          · unfold f_X7_chargeAt c_X7_chargeAt_0
            rw [if_neg h0, wx_t _ h1, bd_s, if_neg (by decide), d2, if_pos hlt]
            exact G_bd (ch_get q1 q2 (by omega) rfl rfl (by decide)) (by rw [e1])
          · unfold f_X8_chargeAt c_X8_chargeAt_0
            rw [if_neg h0, wm_t _ h1, bd_s, if_neg (by decide), d3, if_pos hlt]
            simp [gd_t hv, ht, show nI 1 = (1 : Int32) from rfl]
        · refine ⟨τ 41 i, ?_, ?_⟩
          · unfold f_X7_chargeAt c_X7_chargeAt_0
            rw [if_neg h0, wx_t _ h1, bd_s, if_neg (by decide), d2, if_pos hlt]
            exact G_bd (ch_get q1 q2 (by omega) rfl rfl (by decide)) (by rw [e2])
          · unfold f_X8_chargeAt c_X8_chargeAt_0
            rw [if_neg h0, wm_t _ h1, bd_s, if_neg (by decide), d3, if_pos hlt]
            simp [gd_t hv, ht, show nI 2 = (2 : Int32) from rfl]
        · refine ⟨τ 42 i, ?_, ?_⟩
          · unfold f_X7_chargeAt c_X7_chargeAt_0
            rw [if_neg h0, wx_t _ h1, bd_s, if_neg (by decide), d2, if_pos hlt]
            exact G_bd (ch_get q1 q2 (by omega) rfl rfl (by decide)) (by rw [e3])
          · unfold f_X8_chargeAt c_X8_chargeAt_0
            rw [if_neg h0, wm_t _ h1, bd_s, if_neg (by decide), d3, if_pos hlt]
            simp [gd_t hv, ht, show nI 3 = (3 : Int32) from rfl]
        · refine ⟨τ 43 i, ?_, ?_⟩
          · unfold f_X7_chargeAt c_X7_chargeAt_0
            rw [if_neg h0, wx_t _ h1, bd_s, if_neg (by decide), d2, if_pos hlt]
            exact G_bd (ch_get q1 q2 (by omega) rfl rfl (by decide)) (by rw [e4])
          · unfold f_X8_chargeAt c_X8_chargeAt_0
            rw [if_neg h0, wm_t _ h1, bd_s, if_neg (by decide), d3, if_pos hlt]
            simp [gd_t hv, ht, show nI 4 = (4 : Int32) from rfl]
        · refine ⟨τ 44 i, ?_, ?_⟩
          · unfold f_X7_chargeAt c_X7_chargeAt_0
            rw [if_neg h0, wx_t _ h1, bd_s, if_neg (by decide), d2, if_pos hlt]
            exact G_bd (ch_get q1 q2 (by omega) rfl rfl (by decide)) (by rw [e5])
          · unfold f_X8_chargeAt c_X8_chargeAt_0
            rw [if_neg h0, wm_t _ h1, bd_s, if_neg (by decide), d3, if_pos hlt]
            simp [gd_t hv, ht, show nI 5 = (5 : Int32) from rfl]
        · refine ⟨τ 45 i, ?_, ?_⟩
          · unfold f_X7_chargeAt c_X7_chargeAt_0
            rw [if_neg h0, wx_t _ h1, bd_s, if_neg (by decide), d2, if_pos hlt]
            exact G_bd (ch_get q1 q2 (by omega) rfl rfl (by decide)) (by rw [e6])
          · unfold f_X8_chargeAt c_X8_chargeAt_0
            rw [if_neg h0, wm_t _ h1, bd_s, if_neg (by decide), d3, if_pos hlt]
            simp [gd_t hv, ht, show nI 6 = (6 : Int32) from rfl]
      · refine ⟨-1, ?_, ?_⟩
        · simp [f_X7_chargeAt, c_X7_chargeAt_0, h0, wx_t _ h1, bd_s, d2, hlt]
        · simp [f_X8_chargeAt, c_X8_chargeAt_0, h0, wm_t _ h1, bd_s, d3, hlt]
    · exact ⟨-2, by simp [f_X7_chargeAt, c_X7_chargeAt_0, h0, wx_f _ h1, bd_s], by simp [f_X8_chargeAt, c_X8_chargeAt_0, h0, wm_f _ h1, bd_s]⟩
  obtain ⟨r, e1, e2⟩ := key
  exact ⟨r, σ, τ, e1, e2, R⟩
theorem st_pig (v1 v2 : Int32) : StI (fun σ => f_X7_pig σ v1 v2) (fun σ => f_X8_pig σ v1 v2) := by
  intro σ τ R
  obtain ⟨r1, r2, r3, r4, r5, r6, r7, r8, r9, r10, r11⟩ := id R
  obtain ⟨q1, q2, q0, c, hc, d2, d3, q9, hi⟩ := id r5
  have key : ∃ r, f_X7_pig σ v1 v2 = some (r, σ) ∧ f_X8_pig τ v1 v2 = some (r, τ) := by
    by_cases h0 : v1 < 0
    · exact ⟨-2, by simp [f_X7_pig, c_X7_pig_0, h0], by simp [f_X8_pig, c_X8_pig_0, h0]⟩
    by_cases h1 : wi v2 0 5
    · by_cases hlt : v1 < nI c
      · have g1 : ¬ v1.toInt < 0 := by rw [i32_lt] at h0; exact h0
        have g2 : v1.toInt < c := by rw [i32_lt, nI_toInt (by omega)] at hlt; exact hlt
        obtain ⟨i, hi2, rfl, -⟩ := i32_nat (x := v1) (n := c) (by omega) g2
        have hv := vi_nI (k := i) (n := 60) (by omega) (by decide)
        have ht := nI_tN (k := i) (by omega)
        obtain ⟨k, hk, rfl, -⟩ := wi_nat (n := 6) h1 (by decide)
        obtain ⟨e0, e1, e2, e3, e4, e5, -⟩ := hi i hi2
        rcases (show k = 0 ∨ k = 1 ∨ k = 2 ∨ k = 3 ∨ k = 4 ∨ k = 5 by omega) with rfl | rfl | rfl | rfl | rfl | rfl
        · refine ⟨τ 46 i, ?_, ?_⟩
          · unfold f_X7_pig c_X7_pig_0
            rw [if_neg h0, wx_t _ h1, bd_s, if_neg (by decide), d2, if_pos hlt]
            exact G_bd (pg_get q1 q2 (by omega) rfl rfl (by decide)) (by rw [e0])
          · unfold f_X8_pig c_X8_pig_0
            rw [if_neg h0, wm_t _ h1, bd_s, if_neg (by decide), d3, if_pos hlt]
            simp [gd_t hv, ht, show nI 0 = (0 : Int32) from rfl]
        · refine ⟨τ 47 i, ?_, ?_⟩
          · unfold f_X7_pig c_X7_pig_0
            rw [if_neg h0, wx_t _ h1, bd_s, if_neg (by decide), d2, if_pos hlt]
            exact G_bd (pg_get q1 q2 (by omega) rfl rfl (by decide)) (by rw [e1])
          · unfold f_X8_pig c_X8_pig_0
            rw [if_neg h0, wm_t _ h1, bd_s, if_neg (by decide), d3, if_pos hlt]
            simp [gd_t hv, ht, show nI 1 = (1 : Int32) from rfl]
        · refine ⟨τ 48 i, ?_, ?_⟩
          · unfold f_X7_pig c_X7_pig_0
            rw [if_neg h0, wx_t _ h1, bd_s, if_neg (by decide), d2, if_pos hlt]
            exact G_bd (pg_get q1 q2 (by omega) rfl rfl (by decide)) (by rw [e2])
          · unfold f_X8_pig c_X8_pig_0
            rw [if_neg h0, wm_t _ h1, bd_s, if_neg (by decide), d3, if_pos hlt]
            simp [gd_t hv, ht, show nI 2 = (2 : Int32) from rfl]
        · refine ⟨τ 49 i, ?_, ?_⟩
          · unfold f_X7_pig c_X7_pig_0
            rw [if_neg h0, wx_t _ h1, bd_s, if_neg (by decide), d2, if_pos hlt]
            exact G_bd (pg_get q1 q2 (by omega) rfl rfl (by decide)) (by rw [e3])
          · unfold f_X8_pig c_X8_pig_0
            rw [if_neg h0, wm_t _ h1, bd_s, if_neg (by decide), d3, if_pos hlt]
            simp [gd_t hv, ht, show nI 3 = (3 : Int32) from rfl]
        · refine ⟨τ 50 i, ?_, ?_⟩
          · unfold f_X7_pig c_X7_pig_0
            rw [if_neg h0, wx_t _ h1, bd_s, if_neg (by decide), d2, if_pos hlt]
            exact G_bd (pg_get q1 q2 (by omega) rfl rfl (by decide)) (by rw [e4])
          · unfold f_X8_pig c_X8_pig_0
            rw [if_neg h0, wm_t _ h1, bd_s, if_neg (by decide), d3, if_pos hlt]
            simp [gd_t hv, ht, show nI 4 = (4 : Int32) from rfl]
        · refine ⟨τ 51 i, ?_, ?_⟩
          · unfold f_X7_pig c_X7_pig_0
            rw [if_neg h0, wx_t _ h1, bd_s, if_neg (by decide), d2, if_pos hlt]
            exact G_bd (pg_get q1 q2 (by omega) rfl rfl (by decide)) (by rw [e5])
          · unfold f_X8_pig c_X8_pig_0
            rw [if_neg h0, wm_t _ h1, bd_s, if_neg (by decide), d3, if_pos hlt]
            simp [gd_t hv, ht, show nI 5 = (5 : Int32) from rfl]
      · refine ⟨-1, ?_, ?_⟩
        · simp [f_X7_pig, c_X7_pig_0, h0, wx_t _ h1, bd_s, d2, hlt]
        · simp [f_X8_pig, c_X8_pig_0, h0, wm_t _ h1, bd_s, d3, hlt]
    · exact ⟨-2, by simp [f_X7_pig, c_X7_pig_0, h0, wx_f _ h1, bd_s], by simp [f_X8_pig, c_X8_pig_0, h0, wm_f _ h1, bd_s]⟩
  obtain ⟨r, e1, e2⟩ := key
  exact ⟨r, σ, τ, e1, e2, R⟩
