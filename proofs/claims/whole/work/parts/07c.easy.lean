theorem st_buy (v1 v2 : Int32) : StI (fun σ => f_X7_buy σ v1 v2) (fun σ => f_X8_buy σ v1 v2) := by
  intro σ τ R
  obtain ⟨r1, r2, r3, r4, r5, r6, r7, r8, r9, r10, r11⟩ := id R
  by_cases h1 : wi v1 0 5
  · by_cases h2 : wi v2 0 10000
    · obtain ⟨k, hk, rfl, -⟩ := wi_nat (n := 6) h1 (by decide)
      have e := r1 k hk
      have hv := vi_nI hk (by decide)
      have ht := nI_tN (k := k) (by omega)
      by_cases h3 : σ 1 k + v2 ≤ 10000
      · have h4 : τ 37 k + v2 ≤ 10000 := by rw [← e]; exact h3
        refine ⟨σ 1 k + v2, sgu σ 1 k (σ 1 k + v2), sgu τ 37 k (σ 1 k + v2), ?_, ?_, ?_, r2, r3, r4, r5, r6, r7, r8, r9, r10, r11⟩
        · simp [f_X7_buy, c_X7_buy_0, wx_t _ h1, wx_t _ h2, bd_s, gd_t hv, ht, h3, lt_e, sgu_s, upd_s]
        · simp [f_X8_buy, c_X8_buy_0, wm_t _ h1, wm_t _ h2, bd_s, gd_t hv, ht, h4, lt_e, sgu_s, upd_s, e]
        · intro j hj
          rw [sgu_s, sgu_s]
          by_cases hjk : j = k
          · rw [hjk, upd_s, upd_s]
          · rw [upd_n hjk, upd_n hjk]
            exact r1 j hj
      · have h4 : ¬ τ 37 k + v2 ≤ 10000 := by rw [← e]; exact h3
        refine ⟨-3, σ, τ, ?_, ?_, R⟩
        · simp [f_X7_buy, c_X7_buy_0, wx_t _ h1, wx_t _ h2, bd_s, gd_t hv, ht, h3]
        · simp [f_X8_buy, c_X8_buy_0, wm_t _ h1, wm_t _ h2, bd_s, gd_t hv, ht, h4]
    · refine ⟨-2, σ, τ, ?_, ?_, R⟩
      · simp [f_X7_buy, c_X7_buy_0, wx_t _ h1, wx_f _ h2, bd_s]
      · simp [f_X8_buy, c_X8_buy_0, wm_t _ h1, wm_f _ h2, bd_s]
  · refine ⟨-2, σ, τ, ?_, ?_, R⟩
    · simp [f_X7_buy, c_X7_buy_0, wx_f _ h1, bd_s]
    · simp [f_X8_buy, c_X8_buy_0, wm_f _ h1, bd_s]
