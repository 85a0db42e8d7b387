theorem RelT.mono {σ τ : Sg} {sl : Int32} {B B' : Int} (h : RelT σ τ sl B) (hb : B ≤ B') : RelT σ τ sl B' := by
  obtain ⟨r1, r2, r3, ⟨a, b, c1, c2, c3⟩, rest⟩ := h
  exact ⟨r1, r2, r3, ⟨a, b, c1, ⟨c2.1, Int.le_trans c2.2 hb⟩, c3⟩, rest⟩
theorem down_loop {N c : Nat} (hc4 : c ≤ 400) (sl v4 : Int32) : ∀ (d lo k j : Nat) (σ τ : Sg), lo + d = c → d + k ≤ 12 → d < j → RelT σ τ sl (500 + 36 * k) → σ 4 3 = nI c → σ 3 1 = nI lo → ∃ σ' τ', b_X1_blow_29 N j σ v4 (nI k) = c_X1_blow_73 N σ' v4 ∧ b_X8_oneTick_163 N j τ sl v4 = c_X8_oneTick_193 N τ' sl v4 ∧ RelT σ' τ' sl 1000 := by
  intro d
  induction d with
  | zero =>
    intro lo k j σ τ hlc hk hj R hcx hlx
    obtain ⟨j, rfl⟩ : ∃ z, j = z + 1 := ⟨j - 1, by omega⟩
    obtain ⟨r1, r2, ⟨q1, q2, c', lo', hlo, hc', hcl, d1, d2, d3, d4, he⟩, rest⟩ := id R
    have hcc : c' = c := nI_inj (by omega) (by omega) (d2.symm.trans hcx)
    subst hcc
    have hll : lo' = lo := nI_inj (by omega) (by omega) (d1.symm.trans hlx)
    subst hll
    have hle : nI c' ≤ nI lo' := nI_le (by omega) (by omega)
    refine ⟨σ, τ, ?_, ?_, R.mono (by omega)⟩
    · show c_X1_blow_29 N _ σ v4 (nI k) = _
      unfold c_X1_blow_29
      by_cases h12 : (12:Int32) ≤ nI k
      · rw [if_pos h12]
      · rw [if_neg h12]
        have : f_X0_lowestIsBurned σ = some (0, σ) := by
          unfold f_X0_lowestIsBurned c_X0_lowestIsBurned_0
          rw [d2, d1, if_pos hle, gd_t bz_0]
        rw [this, bd_s, if_pos rfl]
    · show c_X8_oneTick_163 N _ τ sl v4 = _
      unfold c_X8_oneTick_163
      rw [d3, d4, if_pos hle]
  | succ d ih =>
    intro lo k j σ τ hlc hk hj R hcx hlx
    obtain ⟨j, rfl⟩ : ∃ z, j = z + 1 := ⟨j - 1, by omega⟩
    obtain ⟨r1, r2, ⟨q1, q2, c', lo', hlo, hc', hcl, d1, d2, d3, d4, he⟩, rest⟩ := id R
    have hcc : c' = c := nI_inj (by omega) (by omega) (d2.symm.trans hcx)
    subst hcc
    have hll : lo' = lo := nI_inj (by omega) (by omega) (d1.symm.trans hlx)
    subst hll
    have hnle : ¬ nI c' ≤ nI lo' := nI_ge (by omega) (by omega)
    have h12 : ¬ (12:Int32) ≤ nI k := nI_ge (b := 12) (by omega) (by omega)
    obtain ⟨e0, e1, -⟩ := he lo' (by omega)
    have hv4 : vi (nI lo') 400 = true := vi_nI (by omega) (by decide)
    have ht4 : (nI lo').toNatClampNeg = lo' := nI_tN (by omega)
    have hlb : f_X0_lowestIsBurned σ = if τ 40 lo' = 0 then some (1, σ) else some (0, σ) := by
      unfold f_X0_lowestIsBurned c_X0_lowestIsBurned_0
      rw [d2, d1, if_neg hnle, ch_get q1 q2 (i := lo') (by omega) rfl (show (1:Int32) = nI 1 from rfl) (by decide), bd_s, e1, gd_t bz_0, gd_t bz_1]
    by_cases hz : τ 40 lo' = 0
    · obtain ⟨σ1, τ1, g1, g2, R1⟩ := down_eq R d2 d1 (by omega) hc4 (by omega)
      have f3 : σ1 3 = σ 3 := (fr_X1_bringDown g1).cell 3 (by decide)
      have f4 : σ1 4 = σ 4 := (fr_X1_bringDown g1).cell 4 (by decide)
      obtain ⟨σ', τ', k1, k2, R'⟩ := ih (lo' + 1) (k + 1) j (sgu σ1 3 1 (nI (lo' + 1))) τ1 (by omega) (by omega) (by omega) (R1.mono (by omega)) (by show σ1 4 3 = _; rw [f4]; exact d2) rfl
      refine ⟨σ', τ', ?_, ?_, R'⟩
      · show c_X1_blow_29 N _ σ v4 (nI k) = _
        unfold c_X1_blow_29
        rw [if_neg h12, hlb, if_pos hz, bd_s, if_neg (by decide), d1, g1, bdv_s, lt_e, f3, d1, nI_suc, nI_suc]
        exact k1
      · show c_X8_oneTick_163 N _ τ sl v4 = _
        unfold c_X8_oneTick_163
        rw [d3, d4, if_neg hnle, gd_t hv4, ht4, if_pos hz, g2, bdv_s]
        exact k2
    · refine ⟨σ, τ, ?_, ?_, R.mono (by omega)⟩
      · show c_X1_blow_29 N _ σ v4 (nI k) = _
        unfold c_X1_blow_29
        rw [if_neg h12, hlb, if_neg hz, bd_s, if_pos rfl]
      · show c_X8_oneTick_163 N _ τ sl v4 = _
        unfold c_X8_oneTick_163
        rw [d3, d4, if_neg hnle, gd_t hv4, ht4, if_neg hz]
def seeM (τ : Sg) (sl : Int32) : Option Sg := bdv (f_X8_see τ (0:Int32) ((τ 36 14) / (10:Int32))) (fun s3 => bdv (f_X8_see s3 (1:Int32) ((s3 36 16) - sl)) (fun s5 => bdv (f_X8_see s5 (2:Int32) (s5 36 15)) (fun s7 => some s7)))
theorem clamp_eq (h : Int32) : (if (0:Int32) < (if h < 1000 then h else 1000) then (if h < 1000 then h else 1000) else 0) = if 0 ≤ h then (if h ≤ 1000 then h else 1000) else 0 := by
  have i0 : (0:Int32).toInt = 0 := rfl
  have i1 : (1000:Int32).toInt = 1000 := rfl
  by_cases h1 : h < 1000
  · rw [if_pos h1]
    by_cases h2 : 0 < h
    · rw [if_pos h2, if_pos (by rw [i32_lt] at h2; rw [i32_le]; omega), if_pos (by rw [i32_lt] at h1; rw [i32_le]; omega)]
    · rw [if_neg h2]
      by_cases h3 : 0 ≤ h
      · rw [if_pos h3, if_pos (by rw [i32_lt] at h1; rw [i32_le]; omega), i32_eq]
        rw [i32_lt] at h2
        rw [i32_le] at h3
        omega
      · rw [if_neg h3]
  · rw [if_neg h1, if_pos (by decide), if_pos (by rw [i32_lt] at h1; rw [i32_le]; omega)]
    by_cases h3 : h ≤ 1000
    · rw [if_pos h3, i32_eq]
      rw [i32_lt] at h1
      rw [i32_le] at h3
      omega
    · rw [if_neg h3]
theorem tail_eq {N : Nat} {σ τ : Sg} {sl v4 : Int32} (R : RelT σ τ sl 1000) : ∃ σ' τ', c_X1_blow_73 N σ v4 = some σ' ∧ c_X8_oneTick_193 N τ sl v4 = seeM τ' sl ∧ Rel σ' τ' ∧ τ' 36 16 = sl + σ' 7 3 := by
  obtain ⟨r1, r2, r3, ⟨⟨a0, a1, a2, a3, a4, a5, a6⟩, ⟨b0, b1, b2, b3, b4, b5, b6, b7, b8⟩, c1, c2, c3, c4, c5, c6⟩, rest⟩ := id R
  have h100 : (!decide ((100:Int32) = 0)) = true := by decide
  have h10 : (!decide ((10:Int32) = 0)) = true := by decide
  obtain ⟨ht, hht⟩ : ∃ ht : Int32, ht = if 0 ≤ (τ 36 14 + 8 * v4 - 40) then (if (τ 36 14 + 8 * v4 - 40) ≤ 1000 then (τ 36 14 + 8 * v4 - 40) else 1000) else 0 := ⟨_, rfl⟩
  obtain ⟨ov, hov⟩ : ∃ ov : Int32, ov = if τ 36 15 ≤ τ 36 12 then 0 else τ 36 15 - τ 36 12 := ⟨_, rfl⟩
  have c21 := c2.1
  have c22 := c2.2
  have c31 := c3.1
  have c32 := c3.2
  have hsub : (τ 36 15 - τ 36 12).toInt = (τ 36 15).toInt - (τ 36 12).toInt := i32_sub (by omega) (by omega)
  have i0 : (0:Int32).toInt = 0 := rfl
  have hov2 : (if (0:Int32) < τ 36 15 - τ 36 12 then τ 36 15 - τ 36 12 else 0) = ov := by
    rw [hov]
    by_cases z : τ 36 15 ≤ τ 36 12
    · rw [if_pos z, if_neg (by rw [i32_le] at z; rw [i32_lt]; omega)]
    · rw [if_neg z, if_pos (by rw [i32_le] at z; rw [i32_lt]; omega)]
  have hovr : 0 ≤ ov.toInt ∧ (τ 36 15).toInt - ov.toInt ≤ 500 ∧ ov.toInt ≤ (τ 36 15).toInt := by
    rw [hov]
    by_cases z : τ 36 15 ≤ τ 36 12
    · rw [if_pos z]
      rw [i32_le] at z
      omega
    · rw [if_neg z]
      rw [i32_le] at z
      omega
  have hir : (τ 36 15 - ov).toInt = (τ 36 15).toInt - ov.toInt := i32_sub (by omega) (by omega)
  obtain ⟨we, hwe⟩ : ∃ we : Int32, we = τ 36 17 + ht / 100 := ⟨_, rfl⟩
  obtain ⟨ou, hou⟩ : ∃ ou : Int32, ou = if we < τ 36 13 then 0 else 1 := ⟨_, rfl⟩
  have hboz : bz ou = true := by
    rw [hou]
    split <;> decide
  refine ⟨sgu (sgu (sgu (sgu (sgu (sgu (sgu (sgu σ 7 1 ht) 6 0 (τ 36 15 - ov)) 6 3 (σ 6 3 + ov)) 7 3 (σ 7 3 + ov)) 7 2 (sl + (σ 7 3 + ov))) 7 4 we) 7 6 (τ 36 18 + 1)) 7 9 ou, sgu (sgu (sgu (sgu (sgu (sgu (sgu τ 36 14 ht) 36 21 (τ 36 21 + ov)) 36 16 (τ 36 16 + ov)) 36 15 (τ 36 15 - ov)) 36 17 we) 36 23 ou) 36 18 (τ 36 18 + 1), ?_, ?_, ?_, ?_⟩
  · unfold c_X1_blow_73
    rw [b1, clamp_eq, ← hht, lt_e]
    have hsp : f_X2_spill (sgu σ 7 1 ht) = some (ov, sgu (sgu (sgu σ 7 1 ht) 6 0 (τ 36 15 - ov)) 6 3 (σ 6 3 + ov)) := by
      unfold f_X2_spill c_X2_spill_0
      rw [show sgu σ 7 1 ht 6 0 = τ 36 15 from a0, show sgu σ 7 1 ht 6 1 = τ 36 12 from a1, hov2, lt_e, lt_e, lt_e]
      rfl
    refine G_bd hsp (G_lt (G_lt (G_gd h100 (G_lt (G_lt ?_)))))
    show (if (σ 7 4 + ht / 100) < σ 7 5 then gd (bz 0) (lt_ (sgu (sgu (sgu (sgu (sgu (sgu (sgu (sgu σ 7 1 ht) 6 0 (τ 36 15 - ov)) 6 3 (σ 6 3 + ov)) 7 3 (σ 7 3 + ov)) 7 2 (σ 7 2 + (σ 7 3 + ov))) 7 4 (σ 7 4 + ht / 100)) 7 6 (σ 7 6 + 1)) 7 9 0) (fun s8 => some s8)) else gd (bz 1) (lt_ (sgu (sgu (sgu (sgu (sgu (sgu (sgu (sgu σ 7 1 ht) 6 0 (τ 36 15 - ov)) 6 3 (σ 6 3 + ov)) 7 3 (σ 7 3 + ov)) 7 2 (σ 7 2 + (σ 7 3 + ov))) 7 4 (σ 7 4 + ht / 100)) 7 6 (σ 7 6 + 1)) 7 9 1) (fun s8 => some s8))) = _
    rw [b4, b5, b6, b2, ← hwe]
    by_cases z : we < τ 36 13
    · rw [if_pos z] at hou ⊢
      rw [hou]
      rfl
    · rw [if_neg z] at hou ⊢
      rw [hou]
      rfl
  · have h332 : ∀ T : Sg, T 36 18 = τ 36 18 → ∀ u, bz u = true → c_X8_oneTick_332 N T sl u = seeM (sgu (sgu T 36 23 u) 36 18 (τ 36 18 + 1)) sl := by
      intro T hT u hu
      unfold c_X8_oneTick_332
      rw [gd_t hu, lt_e, lt_e, gd_t h10]
      rw [show sgu T 36 23 u 36 18 = τ 36 18 from hT]
      rfl
    have h299 : ∀ T : Sg, T 36 18 = τ 36 18 → T 36 17 = τ 36 17 → T 36 14 = ht → T 36 13 = τ 36 13 → c_X8_oneTick_299 N T sl = seeM (sgu (sgu (sgu T 36 17 we) 36 23 ou) 36 18 (τ 36 18 + 1)) sl := by
      intro T t1 t2 t3 t4
      unfold c_X8_oneTick_299
      rw [gd_t h100, t2, t3, ← hwe, lt_e]
      rw [show sgu T 36 17 we 36 17 = we from rfl, show sgu T 36 17 we 36 13 = τ 36 13 from t4]
      by_cases z : we < τ 36 13
      · rw [if_pos z] at hou ⊢
        rw [hou]
        exact h332 (sgu T 36 17 we) t1 0 (by decide)
      · rw [if_neg z] at hou ⊢
        rw [hou]
        exact h332 (sgu T 36 17 we) t1 1 (by decide)
    have sgu2 : ∀ (T : Sg) (q k : Nat) (x y : Int32), sgu (sgu T q k x) q k y = sgu T q k y := by
      intro T q k x y
      funext q'
      show (if q' = q then upd (sgu T q k x q) k y else if q' = q then upd (T q) k x else T q') = if q' = q then upd (T q) k y else T q'
      by_cases hq : q' = q
      · rw [if_pos hq, if_pos hq, sgu_s]
        funext j
        show (if j = k then y else if j = k then x else T q j) = if j = k then y else T q j
        by_cases hj : j = k
        · rw [if_pos hj, if_pos hj]
        · rw [if_neg hj, if_neg hj, if_neg hj]
      · rw [if_neg hq, if_neg hq, if_neg hq]
    have h241 : ∀ x : Int32, c_X8_oneTick_241 N (sgu τ 36 14 x) sl ht = seeM (sgu (sgu (sgu (sgu (sgu (sgu (sgu τ 36 14 ht) 36 21 (τ 36 21 + ov)) 36 16 (τ 36 16 + ov)) 36 15 (τ 36 15 - ov)) 36 17 we) 36 23 ou) 36 18 (τ 36 18 + 1)) sl := by
      intro x
      unfold c_X8_oneTick_241
      rw [sgu2, lt_e]
      rw [show sgu τ 36 14 ht 36 15 = τ 36 15 from rfl, show sgu τ 36 14 ht 36 12 = τ 36 12 from rfl]
      by_cases z : τ 36 15 ≤ τ 36 12
      · rw [if_pos z] at hov ⊢
        rw [h299 (sgu τ 36 14 ht) rfl rfl rfl rfl, hov]
        congr 1
        have e1 : sgu (sgu (sgu (sgu τ 36 14 ht) 36 21 (τ 36 21 + 0)) 36 16 (τ 36 16 + 0)) 36 15 (τ 36 15 - 0) = sgu τ 36 14 ht := by
          rw [Int32.add_zero, Int32.add_zero, Int32.sub_zero]
          funext q
          by_cases hq : q = 36
          · subst hq
            funext j
            show (if j = 15 then τ 36 15 else if j = 16 then τ 36 16 else if j = 21 then τ 36 21 else if j = 14 then ht else τ 36 j) = if j = 14 then ht else τ 36 j
            by_cases j15 : j = 15
            · subst j15; rfl
            · rw [if_neg j15]
              by_cases j16 : j = 16
              · subst j16; rfl
              · rw [if_neg j16]
                by_cases j21 : j = 21
                · subst j21; rfl
                · rw [if_neg j21]
          · rw [sgu_n hq, sgu_n hq, sgu_n hq]
        rw [e1]
      · rw [if_neg z] at hov ⊢
        rw [lt_e]
        rw [show sgu τ 36 14 ht 36 21 = τ 36 21 from rfl, ← hov, lt_e]
        rw [show sgu (sgu τ 36 14 ht) 36 21 (τ 36 21 + ov) 36 15 = τ 36 15 from rfl, show sgu (sgu τ 36 14 ht) 36 21 (τ 36 21 + ov) 36 12 = τ 36 12 from rfl, show sgu (sgu τ 36 14 ht) 36 21 (τ 36 21 + ov) 36 16 = τ 36 16 from rfl, ← hov, lt_e]
        rw [show sgu (sgu (sgu τ 36 14 ht) 36 21 (τ 36 21 + ov)) 36 16 (τ 36 16 + ov) 36 12 = τ 36 12 from rfl]
        have e2 : τ 36 12 = τ 36 15 - ov := by
          rw [i32_eq, hir, hov, hsub]
          omega
        rw [e2]
        exact h299 _ rfl rfl rfl rfl
    unfold c_X8_oneTick_193
    rw [lt_e]
    rw [show ∀ x, sgu τ 36 14 x 36 14 = x from fun _ => rfl]
    by_cases z0 : 0 ≤ (τ 36 14 + 8 * v4 - 40)
    · rw [if_pos z0] at hht ⊢
      by_cases z1 : (τ 36 14 + 8 * v4 - 40) ≤ 1000
      · rw [if_pos z1] at hht ⊢
        rw [← hht]
        exact h241 _
      · rw [if_neg z1] at hht ⊢
        rw [← hht]
        exact h241 _
    · rw [if_neg z0] at hht ⊢
      rw [← hht]
      exact h241 _
  · refine ⟨r1, r2, r3, ⟨⟨rfl, a1, a2, ?_, a4, a5, a6⟩, ⟨b0, rfl, ?_, rfl, b5, rfl, b7, b8, rfl⟩, c1, ?_, c3, c4, c5, ?_⟩, rest⟩
    · show σ 6 3 + ov = τ 36 21 + ov
      rw [a3]
    · show sl + (σ 7 3 + ov) = τ 36 16 + ov
      rw [b3, Int32.add_assoc]
    · show rng (τ 36 15 - ov) 0 500
      exact ⟨by omega, by omega⟩
    · show τ 36 15 - ov ≠ 0 → τ 36 24 ≠ -1
      intro z
      refine c6 (fun y => z ?_)
      rw [i32_eq, hir, y]
      rw [y] at hovr
      omega
  · show τ 36 16 + ov = sl + (σ 7 3 + ov)
    rw [b3, Int32.add_assoc]
