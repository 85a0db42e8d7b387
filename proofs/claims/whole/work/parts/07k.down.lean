theorem ch_chill {C A B O F K S I : Nat → Int32} {c lo : Nat} {a : Int32} (ha : a ≠ 0) (he : ∀ i, i < c → R_ci lo C A B O F K S I i) : ∀ i, i < c → R_ci (lo + 1) (upd C (lo * 7 + 0) a) (upd A lo a) B O F K S I i := by
  intro i hi
  have e := he i hi
  unfold R_ci at e ⊢
  obtain ⟨e0, e1, e2, e3, e4, e5, e6, f1, f2, f3⟩ := e
  by_cases hil : i = lo
  · subst hil
    refine ⟨?_, ?_, ?_, ?_, ?_, ?_, ?_, ?_, f2, f3⟩
    · rw [upd_s, upd_s]
    · rw [tu_d (by decide)]; exact e1
    · rw [tu_d (by decide)]; exact e2
    · rw [tu_d (by decide)]; exact e3
    · rw [tu_d (by decide)]; exact e4
    · rw [tu_d (by decide)]; exact e5
    · rw [tu_d (by decide)]; exact e6
    · rw [upd_s]
      exact ⟨fun z => absurd z ha, fun z => absurd z (by omega)⟩
  · refine ⟨?_, ?_, ?_, ?_, ?_, ?_, ?_, ?_, f2, f3⟩
    · rw [tu_n hil (by decide) (by decide), upd_n hil]; exact e0
    · rw [tu_n hil (by decide) (by decide)]; exact e1
    · rw [tu_n hil (by decide) (by decide)]; exact e2
    · rw [tu_n hil (by decide) (by decide)]; exact e3
    · rw [tu_n hil (by decide) (by decide)]; exact e4
    · rw [tu_n hil (by decide) (by decide)]; exact e5
    · rw [tu_n hil (by decide) (by decide)]; exact e6
    · rw [upd_n hil]
      exact f1.trans ⟨fun z => by omega, fun z => by omega⟩
theorem ch_melt {C A B O F K S I : Nat → Int32} {c lo : Nat} {a s m : Int32} (ha : a ≠ 0) (he : ∀ i, i < c → R_ci lo C A B O F K S I i) : ∀ i, i < c → R_ci (lo + 1) (upd (upd (upd C (lo * 7 + 0) a) (lo * 7 + 5) s) (lo * 7 + 6) m) (upd A lo a) B O F K (upd S lo s) (upd I lo m) i := by
  intro i hi
  have e := ch_chill ha he i hi
  unfold R_ci at e ⊢
  obtain ⟨e0, e1, e2, e3, e4, e5, e6, f1, f2, f3⟩ := e
  by_cases hil : i = lo
  · subst hil
    refine ⟨?_, ?_, ?_, ?_, ?_, ?_, ?_, f1, f2, f3⟩
    · rw [tu_d (by decide), tu_d (by decide)]; exact e0
    · rw [tu_d (by decide), tu_d (by decide)]; exact e1
    · rw [tu_d (by decide), tu_d (by decide)]; exact e2
    · rw [tu_d (by decide), tu_d (by decide)]; exact e3
    · rw [tu_d (by decide), tu_d (by decide)]; exact e4
    · rw [tu_d (by decide), upd_s, upd_s]
    · rw [upd_s, upd_s]
  · refine ⟨?_, ?_, ?_, ?_, ?_, ?_, ?_, f1, f2, f3⟩
    · rw [tu_n hil (by decide) (by decide), tu_n hil (by decide) (by decide)]; exact e0
    · rw [tu_n hil (by decide) (by decide), tu_n hil (by decide) (by decide)]; exact e1
    · rw [tu_n hil (by decide) (by decide), tu_n hil (by decide) (by decide)]; exact e2
    · rw [tu_n hil (by decide) (by decide), tu_n hil (by decide) (by decide)]; exact e3
    · rw [tu_n hil (by decide) (by decide), tu_n hil (by decide) (by decide)]; exact e4
    · rw [tu_n hil (by decide) (by decide), tu_n hil (by decide) (by decide), upd_n hil]; exact e5
    · rw [tu_n hil (by decide) (by decide), tu_n hil (by decide) (by decide), upd_n hil]; exact e6
theorem sort_eq {σ w : Sg} {x1 ore flux : Int32} (hh : σ 7 1 = w 36 14) : ∃ s u2 u3 : Int32, f_X1_sortOf σ ore flux = some (s, σ) ∧ (if ((4:Int32) * flux) < ore then c_X8_comesDown_92 w x1 x1 (0:Int32) else c_X8_comesDown_92 w x1 x1 (1:Int32)) = c_X8_comesDown_123 w x1 x1 u2 u3 ∧ u2 + u3 = s ∧ rng s 0 3 := by
  unfold f_X1_sortOf c_X1_sortOf_0 c_X1_sortOf_12 c_X1_sortOf_25 c_X8_comesDown_92 c_X8_comesDown_107
  rw [hh]
  by_cases h1 : ((4:Int32) * flux) < ore
  · rw [if_pos h1, if_pos h1]
    by_cases h2 : w 36 14 < 400
    · rw [if_pos h2, if_pos h2]
      by_cases h3 : w 36 14 < 700
      · rw [if_pos h3, if_pos h3]
        exact ⟨0, 0 + 0, 0, rfl, rfl, by decide, ⟨by decide, by decide⟩⟩
      · rw [if_neg h3, if_neg h3]
        exact ⟨0 + 1, 0 + 0, 1, rfl, rfl, by decide, ⟨by decide, by decide⟩⟩
    · rw [if_neg h2, if_neg h2]
      by_cases h3 : w 36 14 < 700
      · rw [if_pos h3, if_pos h3]
        exact ⟨0 + 1, 0 + 1, 0, rfl, rfl, by decide, ⟨by decide, by decide⟩⟩
      · rw [if_neg h3, if_neg h3]
        exact ⟨0 + 1 + 1, 0 + 1, 1, rfl, rfl, by decide, ⟨by decide, by decide⟩⟩
  · rw [if_neg h1, if_neg h1]
    by_cases h2 : w 36 14 < 400
    · rw [if_pos h2, if_pos h2]
      by_cases h3 : w 36 14 < 700
      · rw [if_pos h3, if_pos h3]
        exact ⟨0 + 1, 1 + 0, 0, rfl, rfl, by decide, ⟨by decide, by decide⟩⟩
      · rw [if_neg h3, if_neg h3]
        exact ⟨0 + 1 + 1, 1 + 0, 1, rfl, rfl, by decide, ⟨by decide, by decide⟩⟩
    · rw [if_neg h2, if_neg h2]
      by_cases h3 : w 36 14 < 700
      · rw [if_pos h3, if_pos h3]
        exact ⟨0 + 1 + 1, 1 + 1, 0, rfl, rfl, by decide, ⟨by decide, by decide⟩⟩
      · rw [if_neg h3, if_neg h3]
        exact ⟨0 + 1 + 1 + 1, 1 + 1, 1, rfl, rfl, by decide, ⟨by decide, by decide⟩⟩
theorem div100 {x : Int32} {n : Int} (h0 : 0 ≤ x.toInt) (h : x.toInt ≤ n) : 0 ≤ (x / 100).toInt ∧ (x / 100).toInt ≤ n / 100 := by
  obtain ⟨k, hk, rfl, e⟩ := i32_nat (x := x) (n := x.toInt.toNat + 1) h0 (by omega)
  have hk2 : k < 2147483648 := by
    have := Int32.toInt_lt (nI k)
    omega
  have : nI k / 100 = nI (k / 100) := pk_div (a := k) (d := 100) hk2 (by decide) (by decide)
  rw [this, nI_toInt (by omega)]
  omega
theorem down_eq {σ τ : Sg} {sl : Int32} {B : Int} {c lo : Nat} (R : RelT σ τ sl B) (hcx : σ 4 3 = nI c) (hlx : σ 3 1 = nI lo) (hlc : lo < c) (hc4 : c ≤ 400) (hB : B ≤ 2000) : ∃ σ1 τ1, f_X1_bringDown σ (nI lo) = some σ1 ∧ f_X8_comesDown τ = some τ1 ∧ RelT (sgu σ1 3 1 (nI (lo + 1))) τ1 sl (B + 36) := by
  obtain ⟨r1, r2, ⟨q1, q2, c', lo', hlo, hc', hcl, d1, d2, d3, d4, he⟩, ⟨⟨a0, a1, a2, a3, a4, a5, a6⟩, ⟨b0, b1, b2, b3, b4, b5, b6, b7, b8⟩, c1, c2, c3, c4, c5, c6⟩, rest⟩ := id R
  have hcc : c' = c := nI_inj (by omega) (by omega) (d2.symm.trans hcx)
  subst hcc
  have hll : lo' = lo := nI_inj (by omega) (by omega) (d1.symm.trans hlx)
  subst hll
  obtain ⟨e0, e1, e2, e3, e4, e5, e6, f1, f2, f3, f4, f5⟩ := he lo' hlc
  have hv4 : vi (nI lo') 400 = true := vi_nI (by omega) (by decide)
  have ht4 : (nI lo').toNatClampNeg = lo' := nI_tN (by omega)
  obtain ⟨k, hk, hkk, -⟩ := i32_nat (x := τ 43 lo') (n := 4) f5.1 (by have := f5.2; omega)
  have hvk : vi (nI k) 4 = true := vi_nI hk (by decide)
  have htk : (nI k).toNatClampNeg = k := nI_tN (by omega)
  obtain ⟨er, rr⟩ := r2 k hk
  have h100 : (!decide ((100:Int32) = 0)) = true := by decide
  have hx0 : f_X1_bringDown σ (nI lo') = if (σ 7 1) < ((10:Int32) * τ 41 lo') then c_X1_bringDown_49 σ (nI lo') (τ 41 lo') (τ 42 lo') else lt_ ((τ 41 lo' * (σ 2 k)) / (100:Int32)) (fun x7 => bd (f_X1_sortOf σ (τ 41 lo') (τ 42 lo')) (fun r9 s8 => bdv (f_X6_set 4 2800 s8 (nI lo') (0:Int32) (1:Int32)) (fun s10 => bdv (f_X6_set 4 2800 s10 (nI lo') (5:Int32) r9) (fun s12 => bdv (f_X6_set 4 2800 s12 (nI lo') (6:Int32) x7) (fun s14 => bdv (f_X2_pour s14 (nI lo') r9 x7) (fun s16 => lt_ (sgu s16 7 3 ((s16 7 3) + ((τ 41 lo' - x7) + τ 42 lo'))) (fun s18 => lt_ (sgu s18 7 1 ((s18 7 1) - ((5:Int32) * τ 41 lo'))) (fun s19 => some s19)))))))) := by
    unfold f_X1_bringDown c_X1_bringDown_0
    rw [ch_get q1 q2 (i := lo') (by omega) rfl (show (2:Int32) = nI 2 from rfl) (by decide), bd_s, ch_get q1 q2 (i := lo') (by omega) rfl (show (3:Int32) = nI 3 from rfl) (by decide), bd_s, ch_get q1 q2 (i := lo') (by omega) rfl (show (4:Int32) = nI 4 from rfl) (by decide), bd_s, e2, e3, e4, hkk, if_neg (nI_pos (n := k) (by omega)), if_pos (show nI k < (4:Int32) from nI_lt (b := 4) hk (by decide)), gd_t hvk, gd_t h100, htk]
  by_cases hq : σ 7 1 < (10:Int32) * τ 41 lo'
  · have hq' : τ 36 14 < (10:Int32) * τ 41 lo' := by rw [← b1]; exact hq
    refine ⟨sgu (sgu (sgu σ 5 (lo' * 7 + 0) 2) 7 8 (σ 7 8 + 1)) 7 3 (σ 7 3 + (τ 41 lo' + τ 42 lo')), sgu (sgu (sgu (sgu τ 36 3 (nI (lo' + 1))) 39 lo' 2) 36 16 (τ 36 16 + (τ 41 lo' + τ 42 lo'))) 36 20 (τ 36 20 + 1), ?_, ?_, ?_⟩
    · rw [hx0, if_pos hq]
      unfold c_X1_bringDown_49
      exact G_bdv (ch_set q1 q2 (i := lo') (by omega) rfl rfl (by decide)) rfl
    · unfold f_X8_comesDown c_X8_comesDown_0
      rw [lt_e, d4, nI_suc, lt_e, gd_t hv4, ht4]
      show (if τ 36 14 < (10:Int32) * τ 41 lo' then _ else _) = _
      rw [if_pos hq', gd_t hv4]
      refine G_lt (G_gd hv4 (G_gd hv4 (G_lt (G_lt rfl))))
    · refine ⟨r1, r2, ⟨q1, q2, c', lo' + 1, by omega, hc', by omega, rfl, d2, d3, rfl, ch_chill (by decide) he⟩, ⟨⟨a0, a1, a2, a3, a4, a5, a6⟩, ⟨b0, b1, b2, ?_, b4, b5, b6, b7, ?_⟩, c1, ⟨c2.1, Int.le_trans c2.2 (by omega)⟩, c3, c4, c5, c6⟩, rest⟩
      · show τ 36 16 + (τ 41 lo' + τ 42 lo') = sl + (σ 7 3 + (τ 41 lo' + τ 42 lo'))
        rw [b3, Int32.add_assoc]
      · show σ 7 8 + 1 = τ 36 20 + 1
        rw [b8]
  · have hq' : ¬ τ 36 14 < (10:Int32) * τ 41 lo' := by rw [← b1]; exact hq
    obtain ⟨am, ham⟩ : ∃ am, am = (τ 41 lo' * (τ 38 k)) / (100:Int32) := ⟨_, rfl⟩
    have hamr : 0 ≤ am.toInt ∧ am.toInt ≤ 36 := by
      rw [er] at rr
      have g1 := f3.1
      have g2 := f3.2
      have g3 := rr.1
      have g4 := rr.2
      have m1 : 0 ≤ (τ 41 lo').toInt * (τ 38 k).toInt := Int.mul_nonneg g1 (by omega)
      have m2 : (τ 41 lo').toInt * (τ 38 k).toInt ≤ 60 * 60 := Int.mul_le_mul g2 g4 (by omega) (by omega)
      have m3 : (τ 41 lo' * τ 38 k).toInt = (τ 41 lo').toInt * (τ 38 k).toInt := i32_mul (by omega) (by omega)
      have := div100 (x := τ 41 lo' * τ 38 k) (n := 3600) (by omega) (by omega)
      rw [ham]
      omega
    have hir : (τ 36 15 + am).toInt = (τ 36 15).toInt + am.toInt := i32_add (by have := c2.1; omega) (by have := c2.2; omega)
    obtain ⟨s, u2, u3, hs1, hs2, hs3, hs4⟩ := sort_eq (σ := σ) (w := sgu (sgu (sgu τ 36 3 (nI (lo' + 1))) 39 lo' 1) 45 lo' am) (x1 := nI lo') (ore := τ 41 lo') (flux := τ 42 lo') b1
    have hsn : s ≠ -1 := fun z => by
      have := hs4.1
      rw [z] at this
      exact absurd this (by decide)
    have hlon : nI lo' ≠ -1 := fun z => by
      have h1 := nI_toInt (n := lo') (by omega)
      rw [z] at h1
      have : ((-1 : Int32)).toInt = -1 := rfl
      omega
    have hm0 : ∀ o, c_X8_comesDown_123 (sgu (sgu (sgu τ 36 3 (nI (lo' + 1))) 39 lo' 1) 45 lo' am) (nI lo') (nI lo') u2 u3 = some o → f_X8_comesDown τ = some o := by
      intro o ho
      unfold f_X8_comesDown c_X8_comesDown_0
      rw [lt_e, d4, nI_suc, lt_e, gd_t hv4, ht4]
      show (if τ 36 14 < (10:Int32) * τ 41 lo' then _ else _) = _
      rw [if_neg hq', gd_t hv4]
      refine G_lt (G_gd hv4 (G_gd hv4 ?_))
      show gd (vi (τ 43 lo') 4) _ = _
      rw [hkk]
      refine G_gd hvk (G_gd h100 (G_gd hv4 ?_))
      show lt_ (sgu (sgu (sgu τ 36 3 (nI (lo' + 1))) 39 lo' 1) 45 lo' ((τ 41 lo' * τ 38 (τ 43 lo').toNatClampNeg) / 100)) _ = _
      rw [hkk, htk, ← ham]
      refine G_lt (G_gd hv4 (G_gd hv4 ?_))
      exact hs2.trans ho
    obtain ⟨T5, hT5⟩ : ∃ T : Sg, T = sgu (sgu (sgu (sgu (sgu (sgu (sgu (sgu τ 36 3 (nI (lo' + 1))) 39 lo' 1) 45 lo' am) 44 lo' s) 36 15 (τ 36 15 + am)) 36 22 (τ 36 22 + am)) 36 16 (τ 36 16 + ((τ 41 lo' - am) + τ 42 lo'))) 36 14 (τ 36 14 - (5:Int32) * τ 41 lo') := ⟨_, rfl⟩
    have hm1 : c_X8_comesDown_123 (sgu (sgu (sgu τ 36 3 (nI (lo' + 1))) 39 lo' 1) 45 lo' am) (nI lo') (nI lo') u2 u3 = if τ 36 24 = -1 then c_X8_comesDown_223 T5 (nI lo') else if τ 36 24 ≤ s then c_X8_comesDown_236 T5 (nI lo') (τ 36 24) else c_X8_comesDown_223 T5 (nI lo') := by
      unfold c_X8_comesDown_123
      rw [gd_t hv4, lt_e, gd_t hv4, lt_e, gd_t hv4, lt_e, gd_t hv4, gd_t hv4, gd_t hv4, lt_e, gd_t hv4, lt_e, gd_t hv4, ht4, hs3]
      have z1 : sgu (sgu (sgu (sgu τ 36 3 (nI (lo' + 1))) 39 lo' 1) 45 lo' am) 44 lo' s 45 lo' = am := by
        show upd (τ 45) lo' am lo' = am
        exact upd_s
      have z2 : sgu (sgu (sgu (sgu (sgu τ 36 3 (nI (lo' + 1))) 39 lo' 1) 45 lo' am) 44 lo' s) 36 15 (τ 36 15 + am) 45 lo' = am := z1
      have z3 : sgu (sgu (sgu (sgu (sgu (sgu τ 36 3 (nI (lo' + 1))) 39 lo' 1) 45 lo' am) 44 lo' s) 36 15 (τ 36 15 + am)) 36 22 (τ 36 22 + am) 45 lo' = am := z1
      rw [z1]
      rw [show sgu (sgu (sgu (sgu τ 36 3 (nI (lo' + 1))) 39 lo' 1) 45 lo' am) 44 lo' s 36 15 = τ 36 15 from rfl, z2]
      rw [show sgu (sgu (sgu (sgu (sgu τ 36 3 (nI (lo' + 1))) 39 lo' 1) 45 lo' am) 44 lo' s) 36 15 (τ 36 15 + am) 36 22 = τ 36 22 from rfl, z3]
      rw [show sgu (sgu (sgu (sgu (sgu (sgu τ 36 3 (nI (lo' + 1))) 39 lo' 1) 45 lo' am) 44 lo' s) 36 15 (τ 36 15 + am)) 36 22 (τ 36 22 + am) 36 16 = τ 36 16 from rfl]
      rw [show sgu (sgu (sgu (sgu (sgu (sgu τ 36 3 (nI (lo' + 1))) 39 lo' 1) 45 lo' am) 44 lo' s) 36 15 (τ 36 15 + am)) 36 22 (τ 36 22 + am) 41 = τ 41 from rfl]
      rw [show sgu (sgu (sgu (sgu (sgu (sgu τ 36 3 (nI (lo' + 1))) 39 lo' 1) 45 lo' am) 44 lo' s) 36 15 (τ 36 15 + am)) 36 22 (τ 36 22 + am) 42 = τ 42 from rfl]
      rw [show sgu (sgu (sgu (sgu (sgu (sgu (sgu τ 36 3 (nI (lo' + 1))) 39 lo' 1) 45 lo' am) 44 lo' s) 36 15 (τ 36 15 + am)) 36 22 (τ 36 22 + am)) 36 16 (τ 36 16 + ((τ 41 lo' - am) + τ 42 lo')) 36 14 = τ 36 14 from rfl]
      rw [show sgu (sgu (sgu (sgu (sgu (sgu (sgu τ 36 3 (nI (lo' + 1))) 39 lo' 1) 45 lo' am) 44 lo' s) 36 15 (τ 36 15 + am)) 36 22 (τ 36 22 + am)) 36 16 (τ 36 16 + ((τ 41 lo' - am) + τ 42 lo')) 41 = τ 41 from rfl]
      rw [← hT5]
      have z4 : T5 36 24 = τ 36 24 := by rw [hT5]; rfl
      have z5 : T5 44 lo' = s := by
        rw [hT5]
        show upd (τ 44) lo' s lo' = s
        exact upd_s
      rw [z4, z5]
    have hT44 : T5 44 lo' = s := by
      rw [hT5]
      show upd (τ 44) lo' s lo' = s
      exact upd_s
    have hm223 : c_X8_comesDown_223 T5 (nI lo') = c_X8_comesDown_236 T5 (nI lo') s := by
      unfold c_X8_comesDown_223
      rw [gd_t hv4, ht4, hT44]
    have hm236 : ∀ u : Int32, c_X8_comesDown_236 T5 (nI lo') u = some (sgu (sgu (sgu T5 36 24 u) 36 25 (if τ 36 25 = -1 then nI lo' else τ 36 25)) 36 26 (nI lo')) := by
      intro u
      unfold c_X8_comesDown_236 c_X8_comesDown_256
      rw [lt_e]
      have z : sgu T5 36 24 u 36 25 = τ 36 25 := by rw [hT5]; rfl
      rw [z]
      by_cases y : τ 36 25 = -1
      · rw [if_pos y, if_pos y, lt_e, lt_e]
      · rw [if_neg y, if_neg y, lt_e, lt_e]
    obtain ⟨σa, hσa⟩ : ∃ T : Sg, T = sgu (sgu (sgu σ 5 (lo' * 7 + 0) 1) 5 (lo' * 7 + 5) s) 5 (lo' * 7 + 6) am := ⟨_, rfl⟩
    have hx1 : ∀ s16, f_X2_pour σa (nI lo') s am = some s16 → f_X1_bringDown σ (nI lo') = some (sgu (sgu s16 7 3 ((s16 7 3) + ((τ 41 lo' - am) + τ 42 lo'))) 7 1 ((s16 7 1) - ((5:Int32) * τ 41 lo'))) := by
      intro s16 h16
      rw [hx0, if_neg hq, er, ← ham, lt_e]
      refine G_bd hs1 ?_
      refine G_bdv (ch_set q1 q2 (i := lo') (by omega) rfl rfl (by decide)) ?_
      refine G_bdv (ch_set q1 q2 (i := lo') (by omega) rfl rfl (by decide)) ?_
      refine G_bdv (ch_set q1 q2 (i := lo') (by omega) rfl rfl (by decide)) ?_
      rw [← hσa]
      exact G_bdv h16 rfl
    by_cases hF : τ 36 25 = -1
    · have hL : τ 36 24 = -1 := c4.mp hF
      have hp : f_X2_pour σa (nI lo') s am = some (sgu (sgu (sgu (sgu (sgu σa 6 0 (σ 6 0 + am)) 6 2 (σ 6 2 + am)) 6 6 s) 6 4 (nI lo')) 6 5 (nI lo')) := by
        unfold f_X2_pour c_X2_pour_0 c_X2_pour_41
        rw [lt_e, lt_e]
        have y1 : σa 6 0 = σ 6 0 := by rw [hσa]; rfl
        have y2 : sgu σa 6 0 (σ 6 0 + am) 6 2 = σ 6 2 := by rw [hσa]; rfl
        have y4 : sgu (sgu σa 6 0 (σ 6 0 + am)) 6 2 (σ 6 2 + am) 6 4 = -1 := by rw [hσa]; exact a4.trans hF
        have y5 : sgu (sgu (sgu σa 6 0 (σ 6 0 + am)) 6 2 (σ 6 2 + am)) 6 6 s 6 4 = -1 := y4
        rw [y1, y2, if_pos y4, lt_e, if_pos y5, lt_e, lt_e]
      refine ⟨_, _, hx1 _ hp, hm0 _ (hm1.trans ((if_pos hL).trans (hm223.trans (hm236 s)))), ?_⟩
      rw [hσa, hT5, if_pos hF]
      refine ⟨r1, r2, ⟨q1, q2, c', lo' + 1, by omega, hc', by omega, rfl, d2, d3, rfl, ch_melt (by decide) he⟩, ⟨⟨?_, a1, ?_, a3, rfl, rfl, rfl⟩, ⟨b0, ?_, b2, ?_, b4, b5, b6, b7, b8⟩, c1, ?_, c3, ⟨fun z => absurd z hlon, fun z => absurd z hsn⟩, ?_, fun _ => hsn⟩, rest⟩
      · show σ 6 0 + am = τ 36 15 + am
        rw [a0]
      · show σ 6 2 + am = τ 36 22 + am
        rw [a2]
      · show σ 7 1 - (5:Int32) * τ 41 lo' = τ 36 14 - (5:Int32) * τ 41 lo'
        rw [b1]
      · show τ 36 16 + ((τ 41 lo' - am) + τ 42 lo') = sl + (σ 7 3 + ((τ 41 lo' - am) + τ 42 lo'))
        rw [b3, Int32.add_assoc]
      · show rng (τ 36 15 + am) 0 (B + 36)
        have := c2.1
        have := c2.2
        exact ⟨by omega, by omega⟩
      · show rng s (-1) 3
        exact ⟨by have := hs4.1; omega, hs4.2⟩
    · have hL : ¬ τ 36 24 = -1 := fun z => hF (c4.mpr z)
      obtain ⟨lw, hlw, hlw2⟩ : ∃ lw : Int32, lw = (if s < τ 36 24 then s else τ 36 24) ∧ lw = (if τ 36 24 ≤ s then τ 36 24 else s) := by
        refine ⟨_, rfl, ?_⟩
        by_cases z : s < τ 36 24
        · rw [if_pos z, if_neg (by rw [i32_lt] at z; rw [i32_le]; omega)]
        · rw [if_neg z, if_pos (by rw [i32_lt] at z; rw [i32_le]; omega)]
      have hlwr : rng lw (-1) 3 ∧ lw ≠ -1 := by
        rw [hlw]
        by_cases z : s < τ 36 24
        · rw [if_pos z]
          exact ⟨⟨by have := hs4.1; omega, hs4.2⟩, hsn⟩
        · rw [if_neg z]
          exact ⟨c5, hL⟩
      have hp : f_X2_pour σa (nI lo') s am = some (sgu (sgu (sgu (sgu σa 6 0 (σ 6 0 + am)) 6 2 (σ 6 2 + am)) 6 6 lw) 6 5 (nI lo')) := by
        unfold f_X2_pour c_X2_pour_0 c_X2_pour_41
        rw [lt_e, lt_e]
        have y1 : σa 6 0 = σ 6 0 := by rw [hσa]; rfl
        have y2 : sgu σa 6 0 (σ 6 0 + am) 6 2 = σ 6 2 := by rw [hσa]; rfl
        have y4 : sgu (sgu σa 6 0 (σ 6 0 + am)) 6 2 (σ 6 2 + am) 6 4 = τ 36 25 := by rw [hσa]; exact a4
        have y6 : sgu (sgu σa 6 0 (σ 6 0 + am)) 6 2 (σ 6 2 + am) 6 6 = τ 36 24 := by rw [hσa]; exact a6
        have y5 : sgu (sgu (sgu σa 6 0 (σ 6 0 + am)) 6 2 (σ 6 2 + am)) 6 6 lw 6 4 = τ 36 25 := y4
        rw [y1, y2, y4, if_neg hF, y6, ← hlw, lt_e, y5, if_neg hF, lt_e]
      have hmm : c_X8_comesDown_123 (sgu (sgu (sgu τ 36 3 (nI (lo' + 1))) 39 lo' 1) 45 lo' am) (nI lo') (nI lo') u2 u3 = c_X8_comesDown_236 T5 (nI lo') lw := by
        rw [hm1, if_neg hL, hm223, hlw2]
        by_cases z : τ 36 24 ≤ s
        · rw [if_pos z, if_pos z]
        · rw [if_neg z, if_neg z]
      refine ⟨_, _, hx1 _ hp, hm0 _ (hmm.trans (hm236 lw)), ?_⟩
      rw [hσa, hT5, if_neg hF]
      refine ⟨r1, r2, ⟨q1, q2, c', lo' + 1, by omega, hc', by omega, rfl, d2, d3, rfl, ch_melt (by decide) he⟩, ⟨⟨?_, a1, ?_, a3, a4, rfl, rfl⟩, ⟨b0, ?_, b2, ?_, b4, b5, b6, b7, b8⟩, c1, ?_, c3, ⟨fun z => absurd z hF, fun z => absurd z hlwr.2⟩, hlwr.1, fun _ => hlwr.2⟩, rest⟩
      · show σ 6 0 + am = τ 36 15 + am
        rw [a0]
      · show σ 6 2 + am = τ 36 22 + am
        rw [a2]
      · show σ 7 1 - (5:Int32) * τ 41 lo' = τ 36 14 - (5:Int32) * τ 41 lo'
        rw [b1]
      · show τ 36 16 + ((τ 41 lo' - am) + τ 42 lo') = sl + (σ 7 3 + ((τ 41 lo' - am) + τ 42 lo'))
        rw [b3, Int32.add_assoc]
      · show rng (τ 36 15 + am) 0 (B + 36)
        have := c2.1
        have := c2.2
        exact ⟨by omega, by omega⟩
