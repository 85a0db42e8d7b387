theorem Fr.nil {a b : Sg} (h : Fr [] a b) : b = a := funext fun q => funext fun k => h q k (by simp) (by simp)
theorem eq_about (v1 : Int32) {σ τ : Sg} (R : Rel σ τ) : ∃ r, f_X7_about σ v1 = some (r, σ) ∧ f_X8_about τ v1 = some (r, τ) := by
  obtain ⟨r, σ', τ', e1, e2, -⟩ := st_about v1 σ τ R
  have e1 : f_X7_about σ v1 = some (r, σ') := e1
  have e2 : f_X8_about τ v1 = some (r, τ') := e2
  have h1 : σ' = σ := (fr_X7_about e1).nil
  have h2 : τ' = τ := (fr_X8_about e2).nil
  subst h1
  subst h2
  exact ⟨r, e1, e2⟩
theorem eq_chargeAt (v1 v2 : Int32) {σ τ : Sg} (R : Rel σ τ) : ∃ r, f_X7_chargeAt σ v1 v2 = some (r, σ) ∧ f_X8_chargeAt τ v1 v2 = some (r, τ) := by
  obtain ⟨r, σ', τ', e1, e2, -⟩ := st_chargeAt v1 v2 σ τ R
  have e1 : f_X7_chargeAt σ v1 v2 = some (r, σ') := e1
  have e2 : f_X8_chargeAt τ v1 v2 = some (r, τ') := e2
  have h1 : σ' = σ := (fr_X7_chargeAt e1).nil
  have h2 : τ' = τ := (fr_X8_chargeAt e2).nil
  subst h1
  subst h2
  exact ⟨r, e1, e2⟩
theorem eq_pig (v1 v2 : Int32) {σ τ : Sg} (R : Rel σ τ) : ∃ r, f_X7_pig σ v1 v2 = some (r, σ) ∧ f_X8_pig τ v1 v2 = some (r, τ) := by
  obtain ⟨r, σ', τ', e1, e2, -⟩ := st_pig v1 v2 σ τ R
  have e1 : f_X7_pig σ v1 v2 = some (r, σ') := e1
  have e2 : f_X8_pig τ v1 v2 = some (r, τ') := e2
  have h1 : σ' = σ := (fr_X7_pig e1).nil
  have h2 : τ' = τ := (fr_X8_pig e2).nil
  subst h1
  subst h2
  exact ⟨r, e1, e2⟩
theorem dig_a {N : Nat} (hN : 70000 ≤ N) {σ τ : Sg} (R : Rel σ τ) : ∀ (d k : Nat) (h : Int64) (j : Nat), k + d = 6 → d < j → ∃ h', b_X7_digest_6 N j σ h (nI k) = c_X7_digest_31 N σ h' ∧ b_X8_digest_6 N j τ h (nI k) = c_X8_digest_31 N τ h' := by
  intro d
  induction d with
  | zero =>
    intro k h j hk hj
    obtain ⟨j, rfl⟩ : ∃ z, j = z + 1 := ⟨j - 1, by omega⟩
    have hc : (6 : Int32) ≤ nI k := nI_le (a := 6) (by omega) (by omega)
    refine ⟨h, ?_, ?_⟩
    · show c_X7_digest_6 N _ σ h (nI k) = _
      unfold c_X7_digest_6
      rw [if_pos hc]
    · show c_X8_digest_6 N _ τ h (nI k) = _
      unfold c_X8_digest_6
      rw [if_pos hc]
  | succ d ih =>
    intro k h j hk hj
    obtain ⟨j, rfl⟩ : ∃ z, j = z + 1 := ⟨j - 1, by omega⟩
    have hc : ¬ (6 : Int32) ≤ nI k := nI_ge (b := 6) (by omega) (by omega)
    obtain ⟨r, g1, g2⟩ := eq_count hN (nI k) R
    obtain ⟨h', e1, e2⟩ := ih (k + 1) ((31 * h) + r.toInt64) j (by omega) (by omega)
    refine ⟨h', ?_, ?_⟩
    · show c_X7_digest_6 N _ σ h (nI k) = _
      unfold c_X7_digest_6
      rw [if_neg hc, g1, bd_s, lt_e, nI_suc]
      exact e1
    · show c_X8_digest_6 N _ τ h (nI k) = _
      unfold c_X8_digest_6
      rw [if_neg hc, g2, bd_s, lt_e, nI_suc]
      exact e2
theorem dig_b {N : Nat} {σ τ : Sg} (R : Rel σ τ) : ∀ (d k : Nat) (h : Int64) (j : Nat), k + d = 12 → d < j → ∃ h', b_X7_digest_33 N j σ h (nI k) = c_X7_digest_58 N σ h' ∧ b_X8_digest_33 N j τ h (nI k) = c_X8_digest_58 N τ h' := by
  intro d
  induction d with
  | zero =>
    intro k h j hk hj
    obtain ⟨j, rfl⟩ : ∃ z, j = z + 1 := ⟨j - 1, by omega⟩
    have hc : (12 : Int32) ≤ nI k := nI_le (a := 12) (by omega) (by omega)
    refine ⟨h, ?_, ?_⟩
    · show c_X7_digest_33 N _ σ h (nI k) = _
      unfold c_X7_digest_33
      rw [if_pos hc]
    · show c_X8_digest_33 N _ τ h (nI k) = _
      unfold c_X8_digest_33
      rw [if_pos hc]
  | succ d ih =>
    intro k h j hk hj
    obtain ⟨j, rfl⟩ : ∃ z, j = z + 1 := ⟨j - 1, by omega⟩
    have hc : ¬ (12 : Int32) ≤ nI k := nI_ge (b := 12) (by omega) (by omega)
    obtain ⟨r, g1, g2⟩ := eq_about (nI k) R
    obtain ⟨h', e1, e2⟩ := ih (k + 1) ((31 * h) + r.toInt64) j (by omega) (by omega)
    refine ⟨h', ?_, ?_⟩
    · show c_X7_digest_33 N _ σ h (nI k) = _
      unfold c_X7_digest_33
      rw [if_neg hc, g1, bd_s, lt_e, nI_suc]
      exact e1
    · show c_X8_digest_33 N _ τ h (nI k) = _
      unfold c_X8_digest_33
      rw [if_neg hc, g2, bd_s, lt_e, nI_suc]
      exact e2
theorem dig_c {N : Nat} {σ τ : Sg} (he : ∀ k, k < 6 → σ 1 k = τ 37 k) : ∀ (d k : Nat) (h : Int64) (j : Nat), k + d = 6 → d < j → ∃ h', b_X7_digest_60 N j σ h (nI k) = c_X7_digest_86 N σ h' ∧ b_X8_digest_60 N j τ h (nI k) = c_X8_digest_86 N τ h' := by
  intro d
  induction d with
  | zero =>
    intro k h j hk hj
    obtain ⟨j, rfl⟩ : ∃ z, j = z + 1 := ⟨j - 1, by omega⟩
    have hc : (6 : Int32) ≤ nI k := nI_le (a := 6) (by omega) (by omega)
    refine ⟨h, ?_, ?_⟩
    · show c_X7_digest_60 N _ σ h (nI k) = _
      unfold c_X7_digest_60
      rw [if_pos hc]
    · show c_X8_digest_60 N _ τ h (nI k) = _
      unfold c_X8_digest_60
      rw [if_pos hc]
  | succ d ih =>
    intro k h j hk hj
    obtain ⟨j, rfl⟩ : ∃ z, j = z + 1 := ⟨j - 1, by omega⟩
    have hc : ¬ (6 : Int32) ≤ nI k := nI_ge (b := 6) (by omega) (by omega)
    obtain ⟨h', e1, e2⟩ := ih (k + 1) ((31 * h) + (τ 37 k).toInt64) j (by omega) (by omega)
    refine ⟨h', ?_, ?_⟩
    · show c_X7_digest_60 N _ σ h (nI k) = _
      unfold c_X7_digest_60
      rw [if_neg hc, gd_t (vi_nI (by omega) (by decide)), nI_tN (by omega), lt_e, nI_suc, he k (by omega)]
      exact e1
    · show c_X8_digest_60 N _ τ h (nI k) = _
      unfold c_X8_digest_60
      rw [if_neg hc, gd_t (vi_nI (by omega) (by decide)), nI_tN (by omega), lt_e, nI_suc]
      exact e2
theorem dig_f {N : Nat} {σ τ : Sg} (he : ∀ k, k < 3 → σ 11 k = τ 52 k) : ∀ (d k : Nat) (h : Int64) (j : Nat), k + d = 3 → d < j → ∃ h', b_X7_digest_109 N j σ h (nI k) = some (h', σ) ∧ b_X8_digest_182 N j τ h (nI k) = some (h', τ) := by
  intro d
  induction d with
  | zero =>
    intro k h j hk hj
    obtain ⟨j, rfl⟩ : ∃ z, j = z + 1 := ⟨j - 1, by omega⟩
    have hc : (3 : Int32) ≤ nI k := nI_le (a := 3) (by omega) (by omega)
    refine ⟨h, ?_, ?_⟩
    · show c_X7_digest_109 N _ σ h (nI k) = _
      unfold c_X7_digest_109
      rw [if_pos hc]
    · show c_X8_digest_182 N _ τ h (nI k) = _
      unfold c_X8_digest_182
      rw [if_pos hc]
  | succ d ih =>
    intro k h j hk hj
    obtain ⟨j, rfl⟩ : ∃ z, j = z + 1 := ⟨j - 1, by omega⟩
    have hc : ¬ (3 : Int32) ≤ nI k := nI_ge (b := 3) (by omega) (by omega)
    obtain ⟨h', e1, e2⟩ := ih (k + 1) ((31 * h) + (τ 52 k).toInt64) j (by omega) (by omega)
    refine ⟨h', ?_, ?_⟩
    · show c_X7_digest_109 N _ σ h (nI k) = _
      unfold c_X7_digest_109
      rw [if_neg hc, gd_t (vi_nI (by omega) (by decide)), nI_tN (by omega), lt_e, nI_suc, he k (by omega)]
      exact e1
    · show c_X8_digest_182 N _ τ h (nI k) = _
      unfold c_X8_digest_182
      rw [if_neg hc, gd_t (vi_nI (by omega) (by decide)), nI_tN (by omega), lt_e, nI_suc]
      exact e2
theorem dig_d1 {N : Nat} {σ τ : Sg} (R : Rel σ τ) {c i : Nat} (q1 : σ 4 1 = 400) (q2 : σ 4 2 = 7) (d2 : σ 4 3 = nI c) (hc : c ≤ 400) (hi : i < c) {K : Sg → Int64 → Int32 → Option (Int64 × Sg)} : ∀ (d k : Nat) (h : Int64), k + d = 7 → ∃ h', ∀ (j j' : Nat), b_X6_mixInto_13 4 2800 N (j + d) σ h (nI (c * 7)) (nI (i * 7 + k)) = b_X6_mixInto_13 4 2800 N j σ h' (nI (c * 7)) (nI ((i + 1) * 7)) ∧ b_X8_digest_99 N K (j' + d + 1) τ h (nI i) (nI k) = K τ h' (nI (i + 1)) := by
  intro d
  induction d with
  | zero =>
    intro k h hk
    refine ⟨h, fun j j' => ⟨?_, ?_⟩⟩
    · rw [show i * 7 + k = (i + 1) * 7 by omega]
      rfl
    · show c_X8_digest_99 N K _ τ h (nI i) (nI k) = _
      unfold c_X8_digest_99
      rw [if_pos (show (7 : Int32) ≤ nI k from nI_le (a := 7) (by omega) (by omega))]
      unfold c_X8_digest_127
      rw [nI_suc]
  | succ d ih =>
    intro k h hk
    have hx : f_X7_chargeAt σ (nI i) (nI k) = some (σ 5 (i * 7 + k), σ) := by
      unfold f_X7_chargeAt c_X7_chargeAt_0
      rw [if_neg (nI_pos (by omega)), wx_t _ (wi_iff.mpr ⟨by rw [nI_toInt (by omega)]; exact Int.natCast_nonneg k, by rw [nI_toInt (by omega)]; show (k : Int) ≤ 6; omega⟩), bd_s, if_neg (by decide), d2, if_pos (nI_lt hi (by omega))]
      exact G_bd (ch_get q1 q2 (i := i) (f := k) (by omega) rfl rfl (by omega)) rfl
    obtain ⟨r, g1, g2⟩ := eq_chargeAt (nI i) (nI k) R
    have hr : σ 5 (i * 7 + k) = r := congrArg Prod.fst (Option.some.inj (hx.symm.trans g1))
    obtain ⟨h', e⟩ := ih (k + 1) ((31 * h) + r.toInt64) (by omega)
    refine ⟨h', fun j j' => ⟨?_, ?_⟩⟩
    · show c_X6_mixInto_13 4 2800 N (b_X6_mixInto_13 4 2800 N (j + d)) σ h (nI (c * 7)) (nI (i * 7 + k)) = _
      unfold c_X6_mixInto_13
      rw [if_neg (nI_ge (by omega) (by omega)), if_neg (show ¬ Int32.ofNat 2800 ≤ nI (i * 7 + k) from nI_ge (b := 2800) (by omega) (by omega)), gd_t (vi_nI (by omega) (by decide)), nI_tN (by omega), lt_e, nI_suc, hr]
      exact (e j 0).1
    · show c_X8_digest_99 N K (b_X8_digest_99 N K (j' + d + 1)) τ h (nI i) (nI k) = _
      unfold c_X8_digest_99
      rw [if_neg (show ¬ (7 : Int32) ≤ nI k from nI_ge (b := 7) (by omega) (by omega)), g2, bd_s, lt_e, nI_suc]
      exact (e 0 j').2
theorem dig_d {N : Nat} (hN : 70000 ≤ N) {σ τ : Sg} (R : Rel σ τ) {c : Nat} (q1 : σ 4 1 = 400) (q2 : σ 4 2 = 7) (d2 : σ 4 3 = nI c) (d3 : τ 36 2 = nI c) (hc : c ≤ 400) : ∀ (d i : Nat) (h : Int64) (j j' : Nat), i + d = c → ∃ h', b_X6_mixInto_13 4 2800 N (j + d * 7 + 1) σ h (nI (c * 7)) (nI (i * 7)) = some (h', σ) ∧ b_X8_digest_88 N (j' + d + 1) τ h (nI i) = c_X8_digest_133 N τ h' := by
  intro d
  induction d with
  | zero =>
    intro i h j j' hi
    refine ⟨h, ?_, ?_⟩
    · show c_X6_mixInto_13 4 2800 N _ σ h (nI (c * 7)) (nI (i * 7)) = _
      unfold c_X6_mixInto_13
      rw [if_pos (nI_le (by omega) (by omega))]
    · show c_X8_digest_88 N _ τ h (nI i) = _
      unfold c_X8_digest_88
      rw [d3, if_pos (nI_le (by omega) (by omega))]
  | succ d ih =>
    intro i h j j' hi
    obtain ⟨h1, e⟩ := dig_d1 (N := N) R q1 q2 d2 hc (i := i) (by omega) (K := b_X8_digest_88 N (j' + d + 1)) 7 0 h (by omega)
    obtain ⟨h', e1, e2⟩ := ih (i + 1) h1 j j' (by omega)
    refine ⟨h', ?_, ?_⟩
    · have := (e (j + d * 7 + 1) 0).1
      rw [show j + (d + 1) * 7 + 1 = j + d * 7 + 1 + 7 by omega]
      exact Eq.trans this e1
    · show c_X8_digest_88 N (b_X8_digest_88 N (j' + d + 1)) τ h (nI i) = _
      unfold c_X8_digest_88
      rw [d3, if_neg (nI_ge (by omega) (by omega))]
      have := (e 0 (N - 8)).2
      rw [show N - 8 + 7 + 1 = N by omega] at this
      show b_X8_digest_99 N (b_X8_digest_88 N (j' + d + 1)) N τ h (nI i) (nI 0) = _
      rw [this]
      exact e2
theorem dig_e1 {N : Nat} {σ τ : Sg} (R : Rel σ τ) {c i : Nat} (q1 : σ 8 1 = 60) (q2 : σ 8 2 = 6) (d2 : σ 8 3 = nI c) (hc : c ≤ 60) (hi : i < c) {K : Sg → Int64 → Int32 → Option (Int64 × Sg)} : ∀ (d k : Nat) (h : Int64), k + d = 6 → ∃ h', ∀ (j j' : Nat), b_X6_mixInto_13 8 360 N (j + d) σ h (nI (c * 6)) (nI (i * 6 + k)) = b_X6_mixInto_13 8 360 N j σ h' (nI (c * 6)) (nI ((i + 1) * 6)) ∧ b_X8_digest_146 N K (j' + d + 1) τ h (nI i) (nI k) = K τ h' (nI (i + 1)) := by
  intro d
  induction d with
  | zero =>
    intro k h hk
    refine ⟨h, fun j j' => ⟨?_, ?_⟩⟩
    · rw [show i * 6 + k = (i + 1) * 6 by omega]
      rfl
    · show c_X8_digest_146 N K _ τ h (nI i) (nI k) = _
      unfold c_X8_digest_146
      rw [if_pos (show (6 : Int32) ≤ nI k from nI_le (a := 6) (by omega) (by omega))]
      unfold c_X8_digest_174
      rw [nI_suc]
  | succ d ih =>
    intro k h hk
    have hx : f_X7_pig σ (nI i) (nI k) = some (σ 9 (i * 6 + k), σ) := by
      unfold f_X7_pig c_X7_pig_0
      rw [if_neg (nI_pos (by omega)), wx_t _ (wi_iff.mpr ⟨by rw [nI_toInt (by omega)]; exact Int.natCast_nonneg k, by rw [nI_toInt (by omega)]; show (k : Int) ≤ 5; omega⟩), bd_s, if_neg (by decide), d2, if_pos (nI_lt hi (by omega))]
      exact G_bd (pg_get q1 q2 (i := i) (f := k) (by omega) rfl rfl (by omega)) rfl
    obtain ⟨r, g1, g2⟩ := eq_pig (nI i) (nI k) R
    have hr : σ 9 (i * 6 + k) = r := congrArg Prod.fst (Option.some.inj (hx.symm.trans g1))
    obtain ⟨h', e⟩ := ih (k + 1) ((31 * h) + r.toInt64) (by omega)
    refine ⟨h', fun j j' => ⟨?_, ?_⟩⟩
    · show c_X6_mixInto_13 8 360 N (b_X6_mixInto_13 8 360 N (j + d)) σ h (nI (c * 6)) (nI (i * 6 + k)) = _
      unfold c_X6_mixInto_13
      rw [if_neg (nI_ge (by omega) (by omega)), if_neg (show ¬ Int32.ofNat 360 ≤ nI (i * 6 + k) from nI_ge (b := 360) (by omega) (by omega)), gd_t (vi_nI (by omega) (by decide)), nI_tN (by omega), lt_e, nI_suc, hr]
      exact (e j 0).1
    · show c_X8_digest_146 N K (b_X8_digest_146 N K (j' + d + 1)) τ h (nI i) (nI k) = _
      unfold c_X8_digest_146
      rw [if_neg (show ¬ (6 : Int32) ≤ nI k from nI_ge (b := 6) (by omega) (by omega)), g2, bd_s, lt_e, nI_suc]
      exact (e 0 j').2
theorem dig_e {N : Nat} (hN : 70000 ≤ N) {σ τ : Sg} (R : Rel σ τ) {c : Nat} (q1 : σ 8 1 = 60) (q2 : σ 8 2 = 6) (d2 : σ 8 3 = nI c) (d3 : τ 36 27 = nI c) (hc : c ≤ 60) : ∀ (d i : Nat) (h : Int64) (j j' : Nat), i + d = c → ∃ h', b_X6_mixInto_13 8 360 N (j + d * 6 + 1) σ h (nI (c * 6)) (nI (i * 6)) = some (h', σ) ∧ b_X8_digest_135 N (j' + d + 1) τ h (nI i) = c_X8_digest_180 N τ h' := by
  intro d
  induction d with
  | zero =>
    intro i h j j' hi
    refine ⟨h, ?_, ?_⟩
    · show c_X6_mixInto_13 8 360 N _ σ h (nI (c * 6)) (nI (i * 6)) = _
      unfold c_X6_mixInto_13
      rw [if_pos (nI_le (by omega) (by omega))]
    · show c_X8_digest_135 N _ τ h (nI i) = _
      unfold c_X8_digest_135
      rw [d3, if_pos (nI_le (by omega) (by omega))]
  | succ d ih =>
    intro i h j j' hi
    obtain ⟨h1, e⟩ := dig_e1 (N := N) R q1 q2 d2 hc (i := i) (by omega) (K := b_X8_digest_135 N (j' + d + 1)) 6 0 h (by omega)
    obtain ⟨h', e1, e2⟩ := ih (i + 1) h1 j j' (by omega)
    refine ⟨h', ?_, ?_⟩
    · have := (e (j + d * 6 + 1) 0).1
      rw [show j + (d + 1) * 6 + 1 = j + d * 6 + 1 + 6 by omega]
      exact Eq.trans this e1
    · show c_X8_digest_135 N (b_X8_digest_135 N (j' + d + 1)) τ h (nI i) = _
      unfold c_X8_digest_135
      rw [d3, if_neg (nI_ge (by omega) (by omega))]
      have := (e 0 (N - 7)).2
      rw [show N - 7 + 6 + 1 = N by omega] at this
      show b_X8_digest_146 N (b_X8_digest_135 N (j' + d + 1)) N τ h (nI i) (nI 0) = _
      rw [this]
      exact e2
theorem st_digest {N : Nat} (hN : 70000 ≤ N) : StL (fun σ => f_X7_digest N σ) (fun σ => f_X8_digest N σ) := by
  intro σ τ R
  obtain ⟨r1, r2, r3, r4, r5, r6, r7, r8, r9, r10, r11⟩ := id R
  obtain ⟨q1, q2, c, lo, hlo, hc, hcl, d1, d2, d3, d4, hi⟩ := id r3
  obtain ⟨p1, p2, p0, p, hp, p3, p4, p5, hpi⟩ := id r5
  obtain ⟨h1, e1, f1⟩ := dig_a (N := N) hN R 6 0 199 N (by omega) (by omega)
  obtain ⟨h2, e2, f2⟩ := dig_b (N := N) R 12 0 h1 N (by omega) (by omega)
  obtain ⟨h3, e3, f3⟩ := dig_c (N := N) r1 6 0 h2 N (by omega) (by omega)
  obtain ⟨h4, e4, f4⟩ := dig_d (N := N) hN R q1 q2 d2 d3 hc c 0 h3 (N - (c * 7 + 1)) (N - (c + 1)) (by omega)
  obtain ⟨h5, e5, f5⟩ := dig_e (N := N) hN R p1 p2 p3 p4 hp p 0 h4 (N - (p * 6 + 1)) (N - (p + 1)) (by omega)
  obtain ⟨h6, e6, f6⟩ := dig_f (N := N) (fun k hk => (r6 k hk).1) 3 0 h5 N (by omega) (by omega)
  rw [show N - (c * 7 + 1) + c * 7 + 1 = N by omega] at e4
  rw [show N - (p * 6 + 1) + p * 6 + 1 = N by omega] at e5
  rw [show N - (c + 1) + c + 1 = N by omega] at f4
  rw [show N - (p + 1) + p + 1 = N by omega] at f5
  refine ⟨h6, σ, τ, ?_, ?_, R⟩
  · show b_X7_digest_6 N N σ 199 (nI 0) = _
    rw [e1]
    show b_X7_digest_33 N N σ h1 (nI 0) = _
    rw [e2]
    show b_X7_digest_60 N N σ h2 (nI 0) = _
    rw [e3]
    unfold c_X7_digest_86
    have m1 : f_X6_mixInto 4 2800 N σ h3 = some (h4, σ) := by
      unfold f_X6_mixInto c_X6_mixInto_0
      rw [lt_e, d2, q2]
      show b_X6_mixInto_13 4 2800 N N σ h3 (nI c * nI 7) (nI (0 * 7)) = _
      rw [pk_mul]
      exact e4
    have m2 : f_X6_mixInto 8 360 N σ h4 = some (h5, σ) := by
      unfold f_X6_mixInto c_X6_mixInto_0
      rw [lt_e, p3, p2]
      show b_X6_mixInto_13 8 360 N N σ h4 (nI p * nI 6) (nI (0 * 6)) = _
      rw [pk_mul]
      exact e5
    exact G_bdl m1 (G_bdl m2 e6)
  · show b_X8_digest_6 N N τ 199 (nI 0) = _
    rw [f1]
    show b_X8_digest_33 N N τ h1 (nI 0) = _
    rw [f2]
    show b_X8_digest_60 N N τ h2 (nI 0) = _
    rw [f3]
    show b_X8_digest_88 N N τ h3 (nI 0) = _
    rw [f4]
    show b_X8_digest_135 N N τ h4 (nI 0) = _
    rw [f5]
    exact f6
