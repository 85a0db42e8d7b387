def LK (s : Sg) (k : Nat) : Sg := if 0 < s 12 k then sgu (sgu s 11 k (-1)) 12 k (s 12 k - 1) else s
def SE (τ : Sg) (k : Nat) (v : Int32) : Sg := if τ 53 k ≤ 0 then sgu (sgu τ 52 k v) 53 k (τ 53 k - 0) else sgu (sgu τ 52 k (-1)) 53 k (τ 53 k - 1)
theorem look_step {N j k : Nat} {s : Sg} (hk : k < 3) : b_X5_look_24 N (j + 1) s (nI k) = b_X5_look_24 N j (LK s k) (nI (k + 1)) := by
  show c_X5_look_24 N _ s (nI k) = _
  have hv : vi (nI k) 3 = true := vi_nI hk (by decide)
  have ht : (nI k).toNatClampNeg = k := nI_tN (by omega)
  unfold c_X5_look_24 c_X5_look_62 LK
  rw [if_neg (show ¬ (3:Int32) ≤ nI k from nI_ge (b := 3) hk (by decide)), gd_t hv, ht]
  by_cases h : 0 < s 12 k
  · rw [if_pos h, if_pos h, gd_t hv, lt_e, gd_t hv, gd_t hv, lt_e, nI_suc]
    rfl
  · rw [if_neg h, if_neg h, nI_suc]
theorem see_ok {k : Nat} {τ : Sg} {v u : Int32} (hk : k < 3) (hu : u = nI k) : f_X8_see τ u v = some (SE τ k v) := by
  subst hu
  have hv : vi (nI k) 3 = true := vi_nI hk (by decide)
  have ht : (nI k).toNatClampNeg = k := nI_tN (by omega)
  unfold f_X8_see c_X8_see_0 c_X8_see_19 SE
  rw [gd_t hv, ht]
  by_cases h : τ 53 k ≤ 0
  · rw [if_pos h, if_pos h, gd_t hv, lt_e, gd_t hv, gd_t hv]
    rw [show ∀ x, sgu τ 52 k x 53 k = τ 53 k from fun _ => rfl, if_pos h, gd_t hv, lt_e]
  · rw [if_neg h, if_neg h, gd_t hv, lt_e, gd_t hv, gd_t hv]
    rw [show ∀ x, sgu τ 52 k x 53 k = τ 53 k from fun _ => rfl, if_neg h, gd_t hv, lt_e]
theorem LK_q {s : Sg} {k q : Nat} (h1 : q ≠ 11) (h2 : q ≠ 12) : LK s k q = s q := by
  unfold LK
  split
  · rw [sgu_n h2, sgu_n h1]
  · rfl
theorem SE_q {s : Sg} {k q : Nat} {v : Int32} (h1 : q ≠ 52) (h2 : q ≠ 53) : SE s k v q = s q := by
  unfold SE
  split
  · rw [sgu_n h2, sgu_n h1]
  · rw [sgu_n h2, sgu_n h1]
theorem LK_11 {s : Sg} {k j : Nat} : LK s k 11 j = if j = k ∧ 0 < s 12 k then -1 else s 11 j := by
  unfold LK
  by_cases h : 0 < s 12 k
  · rw [if_pos h]
    show upd (s 11) k (-1) j = _
    by_cases hj : j = k
    · subst hj
      rw [upd_s, if_pos ⟨rfl, h⟩]
    · rw [upd_n hj, if_neg (fun z => hj z.1)]
  · rw [if_neg h, if_neg (fun z => h z.2)]
theorem LK_12 {s : Sg} {k j : Nat} : LK s k 12 j = if j = k ∧ 0 < s 12 k then s 12 k - 1 else s 12 j := by
  unfold LK
  by_cases h : 0 < s 12 k
  · rw [if_pos h]
    show upd (s 12) k (s 12 k - 1) j = _
    by_cases hj : j = k
    · subst hj
      rw [upd_s, if_pos ⟨rfl, h⟩]
    · rw [upd_n hj, if_neg (fun z => hj z.1)]
  · rw [if_neg h, if_neg (fun z => h z.2)]
theorem SE_52 {s : Sg} {k j : Nat} {v : Int32} : SE s k v 52 j = if j = k then (if 0 < s 53 k then -1 else v) else s 52 j := by
  unfold SE
  have hn : s 53 k ≤ 0 ↔ ¬ 0 < s 53 k := by rw [i32_le, i32_lt]; omega
  by_cases h : s 53 k ≤ 0
  · rw [if_pos h, if_neg (hn.mp h)]
    rfl
  · rw [if_neg h, if_pos (show 0 < s 53 k from by rw [hn] at h; exact Decidable.not_not.mp h)]
    rfl
theorem SE_53 {s : Sg} {k j : Nat} {v : Int32} : SE s k v 53 j = if j = k then (if 0 < s 53 k then s 53 k - 1 else s 53 k) else s 53 j := by
  unfold SE
  have hn : s 53 k ≤ 0 ↔ ¬ 0 < s 53 k := by rw [i32_le, i32_lt]; omega
  by_cases h : s 53 k ≤ 0
  · rw [if_pos h, if_neg (hn.mp h), Int32.sub_zero]
    rfl
  · rw [if_neg h, if_pos (show 0 < s 53 k from by rw [hn] at h; exact Decidable.not_not.mp h)]
    rfl
theorem look_eq {N : Nat} (hN : 70000 ≤ N) {σ τ : Sg} {sl : Int32} (R : Rel σ τ) (hs : τ 36 16 = sl + σ 7 3) : ∃ σ' τ', f_X5_look N σ ((σ 7 1) / (10:Int32)) (σ 7 3) (σ 6 0) = some σ' ∧ seeM τ sl = some τ' ∧ Rel σ' τ' := by
  obtain ⟨r1, r2, r3, r4, r5, r6, rest⟩ := id R
  obtain ⟨⟨a0, -⟩, ⟨-, b1, -⟩, -⟩ := id r4
  have hsl : τ 36 16 - sl = σ 7 3 := by
    rw [hs, Int32.add_comm, Int32.add_sub_cancel]
  obtain ⟨t0, ht0⟩ : ∃ T : Sg, T = sgu (sgu (sgu σ 11 0 (τ 36 14 / 10)) 11 1 (σ 7 3)) 11 2 (τ 36 15) := ⟨_, rfl⟩
  have hx : f_X5_look N σ ((σ 7 1) / (10:Int32)) (σ 7 3) (σ 6 0) = some (LK (LK (LK t0 0) 1) 2) := by
    unfold f_X5_look c_X5_look_0
    rw [b1, a0]
    refine G_gd (by decide) (G_lt (G_gd (by decide) (G_lt (G_gd (by decide) (G_lt ?_)))))
    show b_X5_look_24 N N (sgu (sgu (sgu σ 11 0 (τ 36 14 / 10)) 11 1 (σ 7 3)) 11 2 (τ 36 15)) (nI 0) = _
    rw [← ht0]
    obtain ⟨n, rfl⟩ : ∃ n, N = n + 4 := ⟨N - 4, by omega⟩
    rw [show b_X5_look_24 (n + 4) (n + 4) t0 (nI 0) = b_X5_look_24 (n + 4) (n + 3) (LK t0 0) (nI 1) from look_step (by decide)]
    rw [show b_X5_look_24 (n + 4) (n + 3) (LK t0 0) (nI 1) = b_X5_look_24 (n + 4) (n + 2) (LK (LK t0 0) 1) (nI 2) from look_step (by decide)]
    rw [show b_X5_look_24 (n + 4) (n + 2) (LK (LK t0 0) 1) (nI 2) = b_X5_look_24 (n + 4) (n + 1) (LK (LK (LK t0 0) 1) 2) (nI 3) from look_step (by decide)]
    show c_X5_look_24 (n + 4) _ _ (nI 3) = _
    unfold c_X5_look_24
    rw [if_pos (by decide)]
  have hm : seeM τ sl = some (SE (SE (SE τ 0 (τ 36 14 / 10)) 1 (σ 7 3)) 2 (τ 36 15)) := by
    unfold seeM
    refine G_bdv (see_ok (k := 0) (by decide) rfl) ?_
    rw [SE_q (by decide) (by decide), hsl]
    refine G_bdv (see_ok (k := 1) (by decide) rfl) ?_
    rw [SE_q (by decide) (by decide), SE_q (by decide) (by decide)]
    exact G_bdv (see_ok (k := 2) (by decide) rfl) rfl
  have hxq : ∀ q, q ≠ 11 → q ≠ 12 → LK (LK (LK t0 0) 1) 2 q = σ q := by
    intro q h1 h2
    rw [LK_q h1 h2, LK_q h1 h2, LK_q h1 h2, ht0, sgu_n h1, sgu_n h1, sgu_n h1]
  have hmq : ∀ q, q ≠ 52 → q ≠ 53 → SE (SE (SE τ 0 (τ 36 14 / 10)) 1 (σ 7 3)) 2 (τ 36 15) q = τ q := by
    intro q h1 h2
    rw [SE_q h1 h2, SE_q h1 h2, SE_q h1 h2]
  refine ⟨_, _, hx, hm, ?_⟩
  have hsg : R_sg (LK (LK (LK t0 0) 1) 2 11) (LK (LK (LK t0 0) 1) 2 12) (SE (SE (SE τ 0 (τ 36 14 / 10)) 1 (σ 7 3)) 2 (τ 36 15) 52) (SE (SE (SE τ 0 (τ 36 14 / 10)) 1 (σ 7 3)) 2 (τ 36 15) 53) := by
    have t12 : t0 12 = σ 12 := by rw [ht0]; rfl
    have u0 : t0 11 0 = τ 36 14 / 10 := by rw [ht0]; rfl
    have u1 : t0 11 1 = σ 7 3 := by rw [ht0]; rfl
    have u2 : t0 11 2 = τ 36 15 := by rw [ht0]; rfl
    have g0 := (r6 0 (by decide)).2
    have g1 := (r6 1 (by decide)).2
    have g2 := (r6 2 (by decide)).2
    intro k hk
    rcases (show k = 0 ∨ k = 1 ∨ k = 2 by omega) with rfl | rfl | rfl
    · simp only [LK_11, LK_12, SE_52, SE_53, t12, u0, g0]
      simp
    · simp only [LK_11, LK_12, SE_52, SE_53, t12, u1, g1]
      simp
    · simp only [LK_11, LK_12, SE_52, SE_53, t12, u2, g2]
      simp
  have RR : Rel σ τ := R
  unfold Rel at RR ⊢
  rw [hxq 0 (by decide) (by decide), hxq 1 (by decide) (by decide), hxq 2 (by decide) (by decide), hxq 3 (by decide) (by decide), hxq 4 (by decide) (by decide), hxq 5 (by decide) (by decide), hxq 6 (by decide) (by decide), hxq 7 (by decide) (by decide), hxq 8 (by decide) (by decide), hxq 9 (by decide) (by decide), hxq 13 (by decide) (by decide), hxq 14 (by decide) (by decide), hxq 15 (by decide) (by decide), hxq 16 (by decide) (by decide), hxq 25 (by decide) (by decide), hxq 26 (by decide) (by decide), hxq 27 (by decide) (by decide), hxq 28 (by decide) (by decide), hxq 29 (by decide) (by decide), hxq 35 (by decide) (by decide)]
  rw [hmq 36 (by decide) (by decide), hmq 37 (by decide) (by decide), hmq 38 (by decide) (by decide), hmq 39 (by decide) (by decide), hmq 40 (by decide) (by decide), hmq 41 (by decide) (by decide), hmq 42 (by decide) (by decide), hmq 43 (by decide) (by decide), hmq 44 (by decide) (by decide), hmq 45 (by decide) (by decide), hmq 46 (by decide) (by decide), hmq 47 (by decide) (by decide), hmq 48 (by decide) (by decide), hmq 49 (by decide) (by decide), hmq 50 (by decide) (by decide), hmq 51 (by decide) (by decide), hmq 54 (by decide) (by decide), hmq 55 (by decide) (by decide), hmq 56 (by decide) (by decide), hmq 57 (by decide) (by decide), hmq 58 (by decide) (by decide), hmq 59 (by decide) (by decide), hmq 60 (by decide) (by decide), hmq 61 (by decide) (by decide), hmq 62 (by decide) (by decide), hmq 63 (by decide) (by decide), hmq 64 (by decide) (by decide), hmq 65 (by decide) (by decide), hmq 66 (by decide) (by decide)]
  exact ⟨RR.1, RR.2.1, RR.2.2.1, RR.2.2.2.1, RR.2.2.2.2.1, hsg, RR.2.2.2.2.2.2⟩
theorem tick_eq {N : Nat} (hN : 70000 ≤ N) {σ τ : Sg} (R : Rel σ τ) : ∃ σ1 σ3 σ' τ', f_X7_followRules N σ = some σ1 ∧ f_X1_blow N σ1 = some σ3 ∧ f_X5_look N σ3 ((σ3 7 1) / (10:Int32)) (σ3 7 3) (σ3 6 0) = some σ' ∧ f_X8_oneTick N τ = some τ' ∧ Rel σ' τ' := by
  obtain ⟨r1, r2, r3, r4, r5, r6, ⟨-, -, r, hr, u2, -, -⟩, -⟩ := id R
  obtain ⟨σ1, τ1, g1, g2, R1⟩ := rules_loop (N := N) hr r 0 N σ τ (by omega) (by omega) R u2
  obtain ⟨-, -, ⟨q1, q2, c, lo, hlo, hc, hcl, d1, d2, d3, d4, he⟩, ⟨hA, ⟨b0, b1, b2, b4, b5, b6, b7, b8, b9⟩, c1, c2⟩, -⟩ := id R1
  have R1' : Rel (sgu σ1 7 3 0) τ1 := R1
  obtain ⟨lf, σ2, τ2, k1, k2, R2, z1, z2⟩ := burn_loop (N := N) hc (τ1 36 11) (τ1 36 16) (c - lo) lo N (sgu σ1 7 3 0) τ1 (τ1 36 11) (by omega) (by omega) R1' d2 c1
  obtain ⟨v1, v2, v3, ⟨⟨a0, a1, a2, a3, a4, a5, a6⟩, ⟨x0, x1, x2, x4, x5, x6, x7, x8, x9⟩, y1, y2, y3, y4, y5, y6⟩, vrest⟩ := id R2
  have s77 : σ2 7 = sgu σ1 7 3 0 7 := z1 7 (by decide)
  have t36 : τ2 36 = τ1 36 := z2 36 (by decide)
  have RT : RelT (sgu σ2 7 7 (σ2 7 7 + (τ1 36 11 - lf))) (sgu τ2 36 19 (τ2 36 19 + (τ1 36 11 - lf))) (τ1 36 16) (500 + 36 * (0:Nat)) := by
    refine ⟨v1, v2, v3, ⟨⟨a0, a1, a2, a3, a4, a5, a6⟩, ⟨x0, x1, ?_, ?_, x4, x5, x6, ?_, x8⟩, y1, y2, y3, y4, y5, y6⟩, vrest⟩
    · show σ2 7 2 = τ1 36 16
      rw [x2, t36]
    · show τ2 36 16 = τ1 36 16 + σ2 7 3
      rw [t36, s77]
      show τ1 36 16 = τ1 36 16 + 0
      rw [Int32.add_zero]
    · show σ2 7 7 + (τ1 36 11 - lf) = τ2 36 19 + (τ1 36 11 - lf)
      rw [x7]
  have e4 : σ2 4 3 = nI c := by rw [z1 4 (by decide)]; exact d2
  have e3 : σ2 3 1 = nI lo := by rw [z1 3 (by decide)]; exact d1
  obtain ⟨σ3, τ3, w1, w2, R3⟩ := down_loop (N := N) hc (τ1 36 16) (τ1 36 11 - lf) (c - lo) lo 0 N _ _ (by omega) (by omega) (by omega) RT e4 e3
  obtain ⟨σ4, τ4, t1, t2, R4, t4⟩ := tail_eq (N := N) (v4 := τ1 36 11 - lf) R3
  obtain ⟨σ5, τ5, l1, l2, R5⟩ := look_eq (N := N) hN R4 t4
  refine ⟨σ1, σ4, σ5, τ5, g1, ?_, l1, ?_, R5⟩
  · unfold f_X1_blow c_X1_blow_0
    rw [lt_e]
    refine G_bd (r := τ1 36 11 - lf) (σ := σ2) ?_ (G_lt ?_)
    · unfold f_X0_burn c_X0_burn_0
      rw [lt_e]
      rw [show sgu σ1 7 3 0 7 0 = τ1 36 11 from b0, show sgu σ1 7 3 0 3 1 = nI lo from d1]
      exact k1
    · exact w1.trans t1
  · unfold f_X8_oneTick c_X8_oneTick_0
    refine Eq.trans g2 ?_
    unfold c_X8_oneTick_75
    rw [lt_e, lt_e, lt_e, d4]
    refine Eq.trans k2 ?_
    unfold c_X8_oneTick_146
    rw [lt_e, lt_e]
    rw [show τ2 36 11 = τ1 36 11 from by rw [t36]]
    exact (w2.trans t2).trans l2
theorem tick_loop {N n : Nat} (hN : 70000 ≤ N) (hn : n ≤ 50) : ∀ (d k j : Nat) (σ τ : Sg), k + d = n → d < j → Rel σ τ → ∃ r σ' τ', b_X7_tick_48 N j σ (nI n) (nI k) (nI k) = some (r, σ') ∧ b_X8_tick_40 N j τ (nI n) (nI k) = some (r, τ') ∧ Rel σ' τ' := by
  intro d
  induction d with
  | zero =>
    intro k j σ τ hk hj R
    obtain ⟨j, rfl⟩ : ∃ z, j = z + 1 := ⟨j - 1, by omega⟩
    have hle : nI n ≤ nI k := nI_le (by omega) (by omega)
    refine ⟨nI k, σ, τ, ?_, ?_, R⟩
    · show c_X7_tick_48 N _ σ (nI n) (nI k) (nI k) = _
      unfold c_X7_tick_48
      rw [if_pos hle]
    · show c_X8_tick_40 N _ τ (nI n) (nI k) = _
      unfold c_X8_tick_40
      rw [if_pos hle]
  | succ d ih =>
    intro k j σ τ hk hj R
    obtain ⟨j, rfl⟩ : ∃ z, j = z + 1 := ⟨j - 1, by omega⟩
    have hnle : ¬ nI n ≤ nI k := nI_ge (by omega) (by omega)
    obtain ⟨-, -, -, ⟨-, ⟨-, -, -, -, -, -, -, -, b9⟩, -⟩, -⟩ := id R
    by_cases ho : τ 36 23 = 0
    · obtain ⟨σ1, σ3, σ5, τ5, e1, e2, e3, e4, R5⟩ := tick_eq hN R
      obtain ⟨r, σ', τ', g1, g2, R'⟩ := ih (k + 1) j σ5 τ5 (by omega) (by omega) R5
      refine ⟨r, σ', τ', ?_, ?_, R'⟩
      · show c_X7_tick_48 N _ σ (nI n) (nI k) (nI k) = _
        unfold c_X7_tick_48
        rw [if_neg hnle, if_pos (b9.trans ho), e1, bdv_s, e2, bdv_s, gd_t (by decide), e3, bdv_s, nI_suc]
        exact g1
      · show c_X8_tick_40 N _ τ (nI n) (nI k) = _
        unfold c_X8_tick_40
        rw [if_neg hnle, if_pos ho, e4, bdv_s, nI_suc]
        exact g2
    · refine ⟨nI k, σ, τ, ?_, ?_, R⟩
      · show c_X7_tick_48 N _ σ (nI n) (nI k) (nI k) = _
        unfold c_X7_tick_48
        rw [if_neg hnle, if_neg (fun z => ho (b9.symm.trans z))]
      · show c_X8_tick_40 N _ τ (nI n) (nI k) = _
        unfold c_X8_tick_40
        rw [if_neg hnle, if_neg ho]
theorem st_tick {N : Nat} (hN : 70000 ≤ N) (v1 : Int32) : StI (fun σ => f_X7_tick N σ v1) (fun σ => f_X8_tick N σ v1) := by
  intro σ τ R
  obtain ⟨-, -, -, ⟨-, ⟨b0, b1, b2, b4, b5, b6, b7, b8, b9⟩, -⟩, -⟩ := id R
  by_cases h1 : wi v1 1 50
  case neg => exact ⟨-2, σ, τ, by simp [f_X7_tick, c_X7_tick_0, wx_f _ h1, bd_s], by simp [f_X8_tick, c_X8_tick_0, wm_f _ h1, bd_s], R⟩
  have h2 := wi_iff.mp h1
  have i1 : (1:Int32).toInt = 1 := rfl
  have i50 : (50:Int32).toInt = 50 := rfl
  obtain ⟨n, hn, rfl, -⟩ := i32_nat (x := v1) (n := 51) (by omega) (by omega)
  by_cases ho : τ 36 23 = 0
  case neg =>
    refine ⟨-3, σ, τ, ?_, ?_, R⟩
    · show f_X7_tick N σ (nI n) = _
      unfold f_X7_tick c_X7_tick_0
      rw [wx_t _ h1, bd_s, if_neg (by decide), if_neg (fun z => ho (b9.symm.trans z))]
    · show f_X8_tick N τ (nI n) = _
      unfold f_X8_tick c_X8_tick_0
      rw [wm_t _ h1, bd_s, if_neg (by decide), if_neg ho]
  by_cases hf : τ 36 18 + nI n ≤ 5000
  case neg =>
    refine ⟨-4, σ, τ, ?_, ?_, R⟩
    · show f_X7_tick N σ (nI n) = _
      unfold f_X7_tick c_X7_tick_0
      rw [wx_t _ h1, bd_s, if_neg (by decide), if_pos (b9.trans ho), b6, if_neg hf]
    · show f_X8_tick N τ (nI n) = _
      unfold f_X8_tick c_X8_tick_0
      rw [wm_t _ h1, bd_s, if_neg (by decide), if_pos ho, if_neg hf]
  obtain ⟨r, σ', τ', g1, g2, R'⟩ := tick_loop (N := N) (n := n) hN (by omega) n 0 N σ τ (by omega) (by omega) R
  refine ⟨r, σ', τ', ?_, ?_, R'⟩
  · show f_X7_tick N σ (nI n) = _
    unfold f_X7_tick c_X7_tick_0
    rw [wx_t _ h1, bd_s, if_neg (by decide), if_pos (b9.trans ho), b6, if_pos hf]
    exact g1
  · show f_X8_tick N τ (nI n) = _
    unfold f_X8_tick c_X8_tick_0
    rw [wm_t _ h1, bd_s, if_neg (by decide), if_pos ho, if_pos hf]
    exact g2
