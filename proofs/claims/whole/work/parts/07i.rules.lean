theorem nI_inj {a b : Nat} (ha : a < 2147483648) (hb : b < 2147483648) (h : nI a = nI b) : a = b := (nI_eq ha hb).mp h
theorem called_eq {N i r : Nat} {σ τ : Sg} (R : Rel σ τ) (hr : σ 13 3 = nI r) (hr8 : r ≤ 8) (hi : i < r) : ∃ b : Bool, f_X7_isCalledFor σ (nI i) = some (if b then 1 else 0, σ) ∧ ∀ K, c_X8_oneTick_2 N K τ (nI i) = if b then c_X8_oneTick_59 N K τ (nI i) else c_X8_oneTick_69 N K τ (nI i) := by
  obtain ⟨r1, r2, r3, r4, r5, r6, r7, r8, r9, r10, r11⟩ := id R
  obtain ⟨q1, q2, r', hr', d2, d3, hri⟩ := id r7
  have hrr : r' = r := nI_inj (by omega) (by omega) (d2.symm.trans hr)
  subst hrr
  obtain ⟨e0, e1, e2, e3, g0, g1⟩ := hri i hi
  obtain ⟨k, hk, hs, -⟩ := i32_nat (x := τ 54 i) (n := 3) g0.1 (by have := g0.2; omega)
  have hw : wi (τ 54 i) 0 2 := wi_iff.mpr ⟨g0.1, g0.2⟩
  have es := (r6 k hk).1
  have hv8 : vi (nI i) 8 = true := vi_nI (by omega) (by decide)
  have ht8 : (nI i).toNatClampNeg = i := nI_tN (by omega)
  have hv3 : vi (nI k) 3 = true := vi_nI hk (by decide)
  have ht3 : (nI k).toNatClampNeg = k := nI_tN (by omega)
  have hx : f_X7_isCalledFor σ (nI i) = if τ 52 k = -1 then some (0, σ) else if τ 55 i = 1 then (if τ 52 k ≤ τ 56 i then some (0, σ) else some (1, σ)) else (if τ 56 i ≤ τ 52 k then some (0, σ) else some (1, σ)) := by
    unfold f_X7_isCalledFor c_X7_isCalledFor_0
    rw [ru_get q1 q2 (i := i) (by omega) rfl (show (0:Int32) = nI 0 from rfl) (by decide), bd_s, e0, wx_t _ hw, bd_s, if_neg (by decide), hs, gd_t hv3, ht3, lt_e, es]
    by_cases z : τ 52 k = -1
    · rw [if_pos z, if_pos z, gd_t bz_0]
    · rw [if_neg z, if_neg z, ru_get q1 q2 (i := i) (by omega) rfl (show (2:Int32) = nI 2 from rfl) (by decide), bd_s, ru_get q1 q2 (i := i) (by omega) rfl (show (1:Int32) = nI 1 from rfl) (by decide), bd_s, e1, e2, gd_t bz_0, gd_t bz_1]
  have hm : ∀ K, c_X8_oneTick_2 N K τ (nI i) = if τ 52 k = -1 then c_X8_oneTick_69 N K τ (nI i) else if τ 55 i = 0 then (if τ 56 i ≤ τ 52 k then c_X8_oneTick_69 N K τ (nI i) else c_X8_oneTick_59 N K τ (nI i)) else (if τ 52 k ≤ τ 56 i then c_X8_oneTick_69 N K τ (nI i) else c_X8_oneTick_59 N K τ (nI i)) := by
    intro K
    unfold c_X8_oneTick_2
    rw [d3, if_neg (nI_ge hi (by omega)), gd_t hv8, ht8, hs, gd_t hv3, ht3, lt_e, gd_t hv8, gd_t hv8, gd_t hv8]
  have ha : τ 55 i = 0 ∨ τ 55 i = 1 := by
    rw [i32_eq, i32_eq]
    have := g1.1
    have := g1.2
    show _ = 0 ∨ _ = 1
    omega
  by_cases z : τ 52 k = -1
  · exact ⟨false, by rw [hx, if_pos z]; rfl, fun K => by rw [hm, if_pos z]; rfl⟩
  · rcases ha with ha | ha
    · by_cases y : τ 56 i ≤ τ 52 k
      · exact ⟨false, by rw [hx, if_neg z, if_neg (by rw [ha]; decide), if_pos y]; rfl, fun K => by rw [hm, if_neg z, if_pos ha, if_pos y]; rfl⟩
      · exact ⟨true, by rw [hx, if_neg z, if_neg (by rw [ha]; decide), if_neg y]; rfl, fun K => by rw [hm, if_neg z, if_pos ha, if_neg y]; rfl⟩
    · by_cases y : τ 52 k ≤ τ 56 i
      · exact ⟨false, by rw [hx, if_neg z, if_pos ha, if_pos y]; rfl, fun K => by rw [hm, if_neg z, if_neg (by rw [ha]; decide), if_pos y]; rfl⟩
      · exact ⟨true, by rw [hx, if_neg z, if_pos ha, if_neg y]; rfl, fun K => by rw [hm, if_neg z, if_neg (by rw [ha]; decide), if_neg y]; rfl⟩
def xact (σ : Sg) (a : Int32) : Option Sg := if a = 0 then some (sgu σ 7 0 (if ((σ 7 0) + 1) < 20 then ((σ 7 0) + 1) else 20)) else if a = 1 then some (sgu σ 7 0 (if 0 < ((σ 7 0) - 1) then ((σ 7 0) - 1) else 0)) else bd (f_X7_castPig σ) (fun _ s => some s)
theorem Rel.blast {σ τ : Sg} (R : Rel σ τ) {v : Int32} (hv : rng v 0 20) : Rel (sgu σ 7 0 v) (sgu τ 36 11 v) := by
  obtain ⟨r1, r2, r3, r4, r5, r6, r7, r8, r9, r10, r11⟩ := R
  obtain ⟨⟨a0, a1, a2, a3, a4, a5, a6⟩, ⟨b0, b1, b2, b4, b5, b6, b7, b8, b9⟩, c1, c2⟩ := r4
  exact ⟨r1, r2, r3, ⟨⟨a0, a1, a2, a3, a4, a5, a6⟩, ⟨rfl, b1, b2, b4, b5, b6, b7, b8, b9⟩, hv, c2⟩, r5, r6, r7, r8, r9, r10, r11⟩
theorem act_eq {σ τ : Sg} (R : Rel σ τ) (a : Int32) : ∃ σ' τ', xact σ a = some σ' ∧ f_X8_act τ a = some τ' ∧ Rel σ' τ' ∧ σ' 13 = σ 13 := by
  obtain ⟨r1, r2, r3, r4, r5, r6, r7, r8, r9, r10, r11⟩ := id R
  obtain ⟨-, ⟨b0, -⟩, c1, -⟩ := id r4
  have k1 := c1.1
  have k2 := c1.2
  have i1 : (1:Int32).toInt = 1 := rfl
  have i20 : (20:Int32).toInt = 20 := rfl
  have i0 : (0:Int32).toInt = 0 := rfl
  have ea : (τ 36 11 + 1).toInt = (τ 36 11).toInt + 1 := i32_add (by omega) (by omega)
  have es : (τ 36 11 - 1).toInt = (τ 36 11).toInt - 1 := i32_sub (by omega) (by omega)
  by_cases h0 : a = 0
  · have hv : (if ((σ 7 0) + 1) < 20 then ((σ 7 0) + 1) else 20 : Int32) = if 20 ≤ τ 36 11 then 20 else τ 36 11 + 1 := by
      rw [b0]
      by_cases z : 20 ≤ τ 36 11
      · rw [if_pos z, if_neg (by rw [i32_le] at z; rw [i32_lt]; omega)]
      · rw [if_neg z]
        by_cases y : τ 36 11 + 1 < 20
        · rw [if_pos y]
        · rw [if_neg y, i32_eq, ea]
          rw [i32_le] at z
          rw [i32_lt] at y
          omega
    have hr : rng (if 20 ≤ τ 36 11 then 20 else τ 36 11 + 1) 0 20 := by
      unfold rng
      split
      · rw [i20]; omega
      · next z =>
        rw [i32_le] at z
        rw [ea]
        omega
    refine ⟨_, _, if_pos h0, ?_, R.blast (v := if 20 ≤ τ 36 11 then 20 else τ 36 11 + 1) hr |> (fun h => by rw [hv]; exact h), rfl⟩
    unfold f_X8_act c_X8_act_0
    rw [if_pos h0]
    by_cases z : 20 ≤ τ 36 11
    · rw [if_pos z, if_pos z]
      rfl
    · rw [if_neg z, if_neg z]
      rfl
  · by_cases h1 : a = 1
    · have hv : (if 0 < ((σ 7 0) - 1) then ((σ 7 0) - 1) else 0 : Int32) = if τ 36 11 ≤ 0 then 0 else τ 36 11 - 1 := by
        rw [b0]
        by_cases z : τ 36 11 ≤ 0
        · rw [if_pos z, if_neg (by rw [i32_le] at z; rw [i32_lt]; omega)]
        · rw [if_neg z]
          by_cases y : 0 < τ 36 11 - 1
          · rw [if_pos y]
          · rw [if_neg y, i32_eq, es]
            rw [i32_le] at z
            rw [i32_lt] at y
            omega
      have hr : rng (if τ 36 11 ≤ 0 then 0 else τ 36 11 - 1) 0 20 := by
        unfold rng
        split
        · rw [i0]; omega
        · next z =>
          rw [i32_le] at z
          rw [es]
          omega
      refine ⟨_, _, (if_neg h0).trans (if_pos h1), ?_, R.blast (v := if τ 36 11 ≤ 0 then 0 else τ 36 11 - 1) hr |> (fun h => by rw [hv]; exact h), rfl⟩
      unfold f_X8_act c_X8_act_0
      rw [if_neg h0, if_pos h1]
      by_cases z : τ 36 11 ≤ 0
      · rw [if_pos z, if_pos z]
        rfl
      · rw [if_neg z, if_neg z]
        rfl
    · obtain ⟨r, σ', τ', e1, e2, R'⟩ := st_cast σ τ R
      have e1 : f_X7_castPig σ = some (r, σ') := e1
      refine ⟨σ', τ', ?_, ?_, R', (fr_X7_castPig e1).cell 13 (by decide)⟩
      · unfold xact
        rw [if_neg h0, if_neg h1]
        exact G_bd e1 rfl
      · unfold f_X8_act c_X8_act_0
        rw [if_neg h0, if_neg h1]
        exact G_bd e2 rfl
theorem rules_loop {N r : Nat} (hr8 : r ≤ 8) : ∀ (d i j : Nat) (σ τ : Sg), i + d = r → d < j → Rel σ τ → σ 13 3 = nI r → ∃ σ' τ', b_X7_followRules_2 N j σ (nI i) = some σ' ∧ b_X8_oneTick_2 N j τ (nI i) = c_X8_oneTick_75 N τ' ∧ Rel σ' τ' := by
  intro d
  induction d with
  | zero =>
    intro i j σ τ hi hj R hr
    obtain ⟨j, rfl⟩ : ∃ z, j = z + 1 := ⟨j - 1, by omega⟩
    obtain ⟨r1, r2, r3, r4, r5, r6, ⟨q1, q2, r', hr', d2, d3, hri⟩, -⟩ := id R
    have hrr : r' = r := nI_inj (by omega) (by omega) (d2.symm.trans hr)
    subst hrr
    refine ⟨σ, τ, ?_, ?_, R⟩
    · show c_X7_followRules_2 N _ σ (nI i) = _
      unfold c_X7_followRules_2
      rw [d2, if_pos (nI_le (by omega) (by omega))]
    · show c_X8_oneTick_2 N _ τ (nI i) = _
      unfold c_X8_oneTick_2
      rw [d3, if_pos (nI_le (by omega) (by omega))]
  | succ d ih =>
    intro i j σ τ hi hj R hr
    obtain ⟨j, rfl⟩ : ∃ z, j = z + 1 := ⟨j - 1, by omega⟩
    obtain ⟨b, e1, e2⟩ := called_eq (N := N) R hr hr8 (i := i) (by omega)
    have hx0 : b_X7_followRules_2 N (j + 1) σ (nI i) = bd (f_X7_isCalledFor σ (nI i)) (fun r2 s1 => if r2 = 0 then c_X7_followRules_95 N (b_X7_followRules_2 N j) s1 (nI i) else bd (f_X6_get 13 32 s1 (nI i) (3:Int32)) (fun r4 s3 => if r4 = 0 then lt_ (sgu s3 7 0 (if ((s3 7 0) + 1) < 20 then ((s3 7 0) + 1) else 20)) (fun s8 => c_X7_followRules_95 N (b_X7_followRules_2 N j) s8 (nI i)) else if r4 = 1 then lt_ (sgu s3 7 0 (if 0 < ((s3 7 0) - 1) then ((s3 7 0) - 1) else 0)) (fun s7 => c_X7_followRules_95 N (b_X7_followRules_2 N j) s7 (nI i)) else bd (f_X7_castPig s3) (fun r6 s5 => c_X7_followRules_95 N (b_X7_followRules_2 N j) s5 (nI i)))) := by
      show c_X7_followRules_2 N _ σ (nI i) = _
      unfold c_X7_followRules_2
      rw [hr, if_neg (nI_ge (by omega) (by omega))]
    have hm0 : b_X8_oneTick_2 N (j + 1) τ (nI i) = if b then c_X8_oneTick_59 N (b_X8_oneTick_2 N j) τ (nI i) else c_X8_oneTick_69 N (b_X8_oneTick_2 N j) τ (nI i) := e2 _
    cases b with
    | false =>
      obtain ⟨σ', τ', g1, g2, R'⟩ := ih (i + 1) j σ τ (by omega) (by omega) R hr
      refine ⟨σ', τ', ?_, ?_, R'⟩
      · rw [hx0, e1, bd_s]
        show (if (0:Int32) = 0 then c_X7_followRules_95 N (b_X7_followRules_2 N j) σ (nI i) else _) = _
        rw [if_pos rfl]
        unfold c_X7_followRules_95
        rw [nI_suc]
        exact g1
      · rw [hm0]
        show c_X8_oneTick_69 N (b_X8_oneTick_2 N j) τ (nI i) = _
        unfold c_X8_oneTick_69
        rw [nI_suc]
        exact g2
    | true =>
      obtain ⟨r1, r2, r3, r4, r5, r6, ⟨q1, q2, r', hr', d2, d3, hri⟩, -⟩ := id R
      have hrr : r' = r := nI_inj (by omega) (by omega) (d2.symm.trans hr)
      subst hrr
      obtain ⟨σ1, τ1, g1, g2, R1, h13⟩ := act_eq R (τ 57 i)
      obtain ⟨σ', τ', k1, k2, R'⟩ := ih (i + 1) j σ1 τ1 (by omega) (by omega) R1 (by rw [h13]; exact hr)
      have e3 := (hri i (by omega)).2.2.2.1
      refine ⟨σ', τ', ?_, ?_, R'⟩
      · rw [hx0, e1, bd_s]
        show (if (1:Int32) = 0 then _ else _) = _
        rw [if_neg (by decide), ru_get q1 q2 (i := i) (by omega) rfl (show (3:Int32) = nI 3 from rfl) (by decide), bd_s, e3]
        have hc : c_X7_followRules_95 N (b_X7_followRules_2 N j) σ1 (nI i) = some σ' := by
          unfold c_X7_followRules_95
          rw [nI_suc]
          exact k1
        unfold xact at g1
        by_cases z0 : τ 57 i = 0
        · rw [if_pos z0] at g1 ⊢
          rw [lt_e, Option.some.inj g1]
          exact hc
        · rw [if_neg z0] at g1 ⊢
          by_cases z1 : τ 57 i = 1
          · rw [if_pos z1] at g1 ⊢
            rw [lt_e, Option.some.inj g1]
            exact hc
          · rw [if_neg z1] at g1 ⊢
            obtain ⟨r, s, y1, y2⟩ := bd_some g1
            cases y2
            exact G_bd y1 hc
      · rw [hm0]
        show c_X8_oneTick_59 N (b_X8_oneTick_2 N j) τ (nI i) = _
        unfold c_X8_oneTick_59
        rw [gd_t (vi_nI (by omega) (by decide)), nI_tN (by omega), g2, bdv_s]
        unfold c_X8_oneTick_69
        rw [nI_suc]
        exact k2
