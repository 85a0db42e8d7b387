def stp (W D I Wr Cl : Nat → Int) (k : Nat) (s : Int × Int × Int) (p : Nat) : Option (Int × Int × Int) := if (p : Int) ≤ W k ∧ Wr p ≤ s.2.1 ∧ Cl p ≤ s.2.2 + D k then some (s.1 + I p, s.2.1 - Wr p, s.2.2 + D k - Cl p) else none
def pv (s : Int × Int × Int) : Int := s.1
/-- what the planner's rows hold -/
def GP (n : Nat) (W D I Wr Cl H : Nat → Int) (σ : Sg) : Prop := σ 27 1 = 5 ∧ σ 27 2 = 3 ∧ σ 29 6 = nI n ∧ (∀ k, k < n → (σ 30 k).toInt = W k ∧ (σ 31 k).toInt = D k) ∧ (∀ k, k ≤ n → (σ 32 k).toInt = H k) ∧ ∀ p, p < 5 → (σ 28 (p * 3 + 0)).toInt = I p ∧ (σ 28 (p * 3 + 1)).toInt = Wr p ∧ (σ 28 (p * 3 + 2)).toInt = Cl p
/-- what is known of the numbers -/
def NP (n : Nat) (W D I Wr Cl H : Nat → Int) : Prop := n ≤ 6 ∧ (∀ k, k < n → 0 ≤ W k ∧ W k ≤ 4 ∧ 0 ≤ D k ∧ D k ≤ 1000) ∧ (∀ p, p < 5 → 0 ≤ I p ∧ I p ≤ 1000 ∧ 0 ≤ Wr p ∧ Wr p ≤ 1000 ∧ 0 ≤ Cl p ∧ Cl p ≤ 1000) ∧ H n = 0 ∧ (∀ k, k < n → 0 ≤ H (k + 1) ∧ H (k + 1) ≤ H k ∧ H k ≤ H (k + 1) + 1000 ∧ ∀ p : Nat, p < 5 → (p : Int) ≤ W k → H (k + 1) + I p ≤ H k)
theorem GP.fr {n : Nat} {W D I Wr Cl H : Nat → Int} {σ σ' : Sg} (h : GP n W D I Wr Cl H σ) (f : Fr [(29, some 7), (33, none), (34, none)] σ σ') : GP n W D I Wr Cl H σ' := by
  obtain ⟨h1, h2, h3, h4, h5, h6⟩ := h
  have e27 := f.cell 27 (by decide)
  have e28 := f.cell 28 (by decide)
  have e30 := f.cell 30 (by decide)
  have e31 := f.cell 31 (by decide)
  have e32 := f.cell 32 (by decide)
  have e29 := f 29 6 (by decide) (by decide)
  refine ⟨by rw [e27]; exact h1, by rw [e27]; exact h2, by rw [e29]; exact h3, ?_, ?_, ?_⟩
  · rw [e30, e31]; exact h4
  · rw [e32]; exact h5
  · rw [e28]; exact h6
theorem NP.hb {n : Nat} {W D I Wr Cl H : Nat → Int} (h : NP n W D I Wr Cl H) : ∀ d k, k + d = n → 0 ≤ H k ∧ H k ≤ 1000 * d := by
  intro d
  induction d with
  | zero =>
    intro k hk
    have : k = n := by omega
    subst this
    rw [h.2.2.2.1]
    omega
  | succ d ih =>
    intro k hk
    have h1 := ih (k + 1) (by omega)
    obtain ⟨a, b, c, -⟩ := h.2.2.2.2 k (by omega)
    omega
theorem ev_ub {n : Nat} {W D I Wr Cl H : Nat → Int} (h : NP n W D I Wr Cl H) : ∀ (d k : Nat) (s : Int × Int × Int) (c : Nat), k + d = n → 0 ≤ s.1 → ev 5 (stp W D I Wr Cl) pv d k s c ≤ s.1 + H k := by
  intro d
  induction d with
  | zero =>
    intro k s c hk hs
    have : k = n := by omega
    subst this
    show s.1 ≤ _
    rw [h.2.2.2.1]
    omega
  | succ d ih =>
    intro k s c hk hs
    have hH := h.hb (d + 1) k hk
    cases hst : stp W D I Wr Cl k s (c / 5 ^ d % 5) with
    | none =>
      rw [ev_none hst]
      omega
    | some s' =>
      rw [ev_some hst]
      have hp : c / 5 ^ d % 5 < 5 := Nat.mod_lt _ (by decide)
      unfold stp at hst
      split at hst
      · next hc =>
        cases hst
        obtain ⟨i0, -⟩ := h.2.2.1 _ hp
        have h1 := ih (k + 1) (s.1 + I (c / 5 ^ d % 5), s.2.1 - Wr (c / 5 ^ d % 5), s.2.2 + D k - Cl (c / 5 ^ d % 5)) c (by omega) (by show 0 ≤ s.1 + _; omega)
        obtain ⟨-, -, -, hu⟩ := h.2.2.2.2 k (by omega)
        have h2 := hu _ hp hc.1
        have h3 : ev 5 (stp W D I Wr Cl) pv d (k + 1) (s.1 + I (c / 5 ^ d % 5), s.2.1 - Wr (c / 5 ^ d % 5), s.2.2 + D k - Cl (c / 5 ^ d % 5)) c ≤ s.1 + I (c / 5 ^ d % 5) + H (k + 1) := h1
        omega
      · cases hst
/-- the best way so far, as the class holds it -/
def FP (n : Nat) (σ : Sg) (acc : Int × Nat) : Prop := (σ 29 7).toInt = acc.1 ∧ (acc.1 ≠ -1 → ∀ j, j < n → σ 34 j = nI (acc.2 / 5 ^ (n - 1 - j) % 5))
theorem copy_found {N n : Nat} {Z : Sg → Int32 → Int32 → Int32 → Int32 → Option Sg} (hn : n ≤ 6) : ∀ (d i j : Nat) (σ : Sg), i + d = n → d < j → σ 29 6 = nI n → ∃ σ', b_X3_goOn_38 N Z j σ (nI i) = some σ' ∧ σ' 29 = σ 29 ∧ σ' 33 = σ 33 ∧ (∀ k, k < i → σ' 34 k = σ 34 k) ∧ ∀ k, i ≤ k → k < n → σ' 34 k = σ 33 k := by
  intro d
  induction d with
  | zero =>
    intro i j σ hi hj h6
    obtain ⟨j, rfl⟩ : ∃ z, j = z + 1 := ⟨j - 1, by omega⟩
    refine ⟨σ, ?_, rfl, rfl, fun _ _ => rfl, fun k h1 h2 => absurd h2 (by omega)⟩
    show c_X3_goOn_38 N Z _ σ (nI i) = _
    unfold c_X3_goOn_38
    rw [h6, if_pos (nI_le (by omega) (by omega))]
  | succ d ih =>
    intro i j σ hi hj h6
    obtain ⟨j, rfl⟩ : ∃ z, j = z + 1 := ⟨j - 1, by omega⟩
    obtain ⟨σ', e1, e2, e3, e4, e5⟩ := ih (i + 1) j (sgu σ 34 i (σ 33 i)) (by omega) (by omega) h6
    refine ⟨σ', ?_, e2, e3, fun k hk => (e4 k (by omega)).trans (by rw [sgu_s, upd_n (by omega)]), fun k h1 h2 => ?_⟩
    · show c_X3_goOn_38 N Z _ σ (nI i) = _
      unfold c_X3_goOn_38
      rw [h6, if_neg (nI_ge (by omega) (by omega)), gd_t (vi_nI (by omega) (by decide)), gd_t (vi_nI (by omega) (by decide)), nI_tN (by omega), lt_e, nI_suc]
      exact e1
    · by_cases hk : k = i
      · subst hk
        rw [e4 k (by omega), sgu_s, upd_s]
      · rw [e5 k (by omega) h2]
        rfl
theorem goOn_ok {N n : Nat} (hN : 70000 ≤ N) {W D I Wr Cl H : Nat → Int} (np : NP n W D I Wr Cl H) : ∀ (d i dd b : Nat) (σ : Sg) (iron wl cl : Int32) (acc : Int × Nat), i + d = n → d < dd → GP n W D I Wr Cl H σ → 0 ≤ iron.toInt → iron.toInt ≤ 1000 * i → 0 ≤ wl.toInt → wl.toInt ≤ 10000 → 0 ≤ cl.toInt → cl.toInt ≤ 10000 + 1000 * i → -1 ≤ acc.1 → FP n σ acc → (∀ j, j < i → σ 33 j = nI (b / 5 ^ (i - 1 - j) % 5)) → ∃ σ', f_X3_goOn N dd σ (nI i) iron wl cl = some σ' ∧ FP n σ' (scan (ev 5 (stp W D I Wr Cl) pv d i (iron.toInt, wl.toInt, cl.toInt)) (b * 5 ^ d) (5 ^ d) acc) ∧ ∀ j, j < i → σ' 33 j = σ 33 j := by
  have hn6 := np.1
  intro d
  induction d with
  | zero =>
    intro i dd b σ iron wl cl acc hi hdd gp hi0 hi1 hw0 hw1 hc0 hc1 ha fp hway
    obtain ⟨dd, rfl⟩ : ∃ z, dd = z + 1 := ⟨dd - 1, by omega⟩
    have hin : i = n := by omega
    subst hin
    obtain ⟨p1, p2, p3, p4, p5, p6⟩ := id gp
    have hH : (σ 32 i).toInt = 0 := (p5 i (Nat.le_refl _)).trans np.2.2.2.1
    have hsum : (iron + σ 32 i).toInt = iron.toInt := by rw [i32_add (by omega) (by omega), hH, Int.add_zero]
    have hcond : σ 29 7 < iron + σ 32 i ↔ acc.1 < iron.toInt := by rw [i32_lt, hsum, fp.1]
    have hx : f_X3_goOn N (dd + 1) σ (nI i) iron wl cl = if (σ 29 7) < (iron + (σ 32 i)) then b_X3_goOn_38 N (f_X3_goOn N dd) N (sgu σ 29 7 iron) (nI 0) else some σ := by
      show c_X3_goOn_0 N (f_X3_goOn N dd) σ (nI i) iron wl cl = _
      unfold c_X3_goOn_0
      rw [if_neg (show ¬ (6:Int32) < nI i from nI_nlt (a := 6) (by omega) (by omega)), gd_t (vi_nI (by omega) (by decide)), nI_tN (by omega), p3, if_neg (nI_nlt (Nat.le_refl _) (by omega)), lt_e]
      rfl
    have hsc : scan (ev 5 (stp W D I Wr Cl) pv 0 i (iron.toInt, wl.toInt, cl.toInt)) (b * 5 ^ 0) (5 ^ 0) acc = if acc.1 < iron.toInt then (iron.toInt, b) else acc := by
      rw [Nat.pow_zero, Nat.mul_one]
      rfl
    rw [hsc]
    by_cases hlt : acc.1 < iron.toInt
    · obtain ⟨σ', e1, e2, e3, e4, e5⟩ := copy_found (N := N) (Z := f_X3_goOn N dd) hn6 i 0 N (sgu σ 29 7 iron) (by omega) (by omega) p3
      refine ⟨σ', by rw [hx, if_pos (hcond.mpr hlt)]; exact e1, ?_, fun j _ => by rw [e3]; rfl⟩
      rw [if_pos hlt]
      refine ⟨by rw [e2]; rfl, fun _ j hj => ?_⟩
      rw [e5 j (by omega) hj]
      exact hway j hj
    · exact ⟨σ, by rw [hx, if_neg (fun z => hlt (hcond.mp z))], by rw [if_neg hlt]; exact fp, fun _ _ => rfl⟩
  | succ d ih =>
    intro i dd b σ iron wl cl acc hi hdd gp hi0 hi1 hw0 hw1 hc0 hc1 ha fp hway
    obtain ⟨dd, rfl⟩ : ∃ z, dd = z + 1 := ⟨dd - 1, by omega⟩
    obtain ⟨p1, p2, p3, p4, p5, p6⟩ := id gp
    have hHb := np.hb (d + 1) i hi
    have hH := p5 i (by omega)
    have hsum : (iron + σ 32 i).toInt = iron.toInt + H i := by rw [i32_add (by omega) (by omega), hH]
    have hcond : σ 29 7 < iron + σ 32 i ↔ acc.1 < iron.toInt + H i := by rw [i32_lt, hsum, fp.1]
    have hx : f_X3_goOn N (dd + 1) σ (nI i) iron wl cl = if (σ 29 7) < (iron + (σ 32 i)) then b_X3_goOn_82 N (f_X3_goOn N dd) N σ (nI i) iron wl (cl + σ 31 i) (nI 0) else some σ := by
      show c_X3_goOn_0 N (f_X3_goOn N dd) σ (nI i) iron wl cl = _
      unfold c_X3_goOn_0
      rw [if_neg (show ¬ (6:Int32) < nI i from nI_nlt (a := 6) (by omega) (by omega)), gd_t (vi_nI (by omega) (by decide)), nI_tN (by omega), p3, if_pos (nI_lt (by omega) (by omega)), gd_t (vi_nI (by omega) (by decide)), lt_e]
      rfl
    by_cases hlt : acc.1 < iron.toInt + H i
    case neg =>
      refine ⟨σ, by rw [hx, if_neg (fun z => hlt (hcond.mp z))], ?_, fun _ _ => rfl⟩
      rw [scan_skip _ _ _ (fun x _ _ => Int.le_trans (ev_ub np (d + 1) i (iron.toInt, wl.toInt, cl.toInt) x hi hi0) (by show iron.toInt + H i ≤ acc.1; omega))]
      exact fp
    rw [hx, if_pos (hcond.mpr hlt), scan_node]
    obtain ⟨w1, w2⟩ := p4 i (by omega)
    obtain ⟨n1, n2, n3, n4⟩ := np.2.1 i (by omega)
    have hcl : (cl + σ 31 i).toInt = cl.toInt + D i := by rw [i32_add (by omega) (by omega), w2]
    have key : ∀ (r p j : Nat) (σ : Sg) (acc : Int × Nat), p + r = 5 → r < j → GP n W D I Wr Cl H σ → -1 ≤ acc.1 → FP n σ acc → (∀ j, j < i → σ 33 j = nI (b / 5 ^ (i - 1 - j) % 5)) → ∃ σ', b_X3_goOn_82 N (f_X3_goOn N dd) j σ (nI i) iron wl (cl + σ 31 i) (nI p) = some σ' ∧ FP n σ' (scan (ev 5 (stp W D I Wr Cl) pv (d + 1) i (iron.toInt, wl.toInt, cl.toInt)) ((b * 5 + p) * 5 ^ d) (r * 5 ^ d) acc) ∧ ∀ j, j < i → σ' 33 j = σ 33 j := by
      intro r
      induction r with
      | zero =>
        intro p j σ acc hp hj gp ha fp hway
        obtain ⟨j, rfl⟩ : ∃ z, j = z + 1 := ⟨j - 1, by omega⟩
        refine ⟨σ, ?_, by rw [Nat.zero_mul]; exact fp, fun _ _ => rfl⟩
        show c_X3_goOn_82 N (f_X3_goOn N dd) _ σ (nI i) iron wl _ (nI p) = _
        unfold c_X3_goOn_82
        rw [if_pos (show (5:Int32) ≤ nI p from nI_le (a := 5) (by omega) (by omega))]
      | succ r ihr =>
        intro p j σ acc hp hj gp ha fp hway
        obtain ⟨j, rfl⟩ : ∃ z, j = z + 1 := ⟨j - 1, by omega⟩
        obtain ⟨p1, p2, p3, p4, p5, p6⟩ := id gp
        obtain ⟨w1, w2⟩ := p4 i (by omega)
        obtain ⟨x1, x2, x3⟩ := p6 p (by omega)
        obtain ⟨m1, m2, m3, m4, m5, m6⟩ := np.2.2.1 p (by omega)
        have hcl : (cl + σ 31 i).toInt = cl.toInt + D i := by rw [i32_add (by omega) (by omega), w2]
        have hpI : (nI p).toInt = p := nI_toInt (by omega)
        have hvi : vi (nI i) 6 = true := vi_nI (by omega) (by decide)
        have hti : (nI i).toNatClampNeg = i := nI_tN (by omega)
        rw [scan_from (by omega) ha]
        by_cases hw : (p : Int) ≤ W i
        case neg =>
          have hst : ∀ q, p ≤ q → stp W D I Wr Cl i (iron.toInt, wl.toInt, cl.toInt) q = none := by
            intro q hq
            unfold stp
            rw [if_neg (fun z => hw (by have := z.1; omega))]
          refine ⟨σ, ?_, ?_, fun _ _ => rfl⟩
          · show c_X3_goOn_82 N (f_X3_goOn N dd) _ σ (nI i) iron wl _ (nI p) = _
            unfold c_X3_goOn_82
            rw [if_neg (show ¬ (5:Int32) ≤ nI p from nI_ge (b := 5) (by omega) (by omega)), gd_t hvi, hti, if_pos (by rw [i32_lt, w1, hpI]; omega)]
          · rw [hst p (Nat.le_refl _)]
            have : ∀ (r p : Nat), p + r = 5 → (∀ q, p ≤ q → stp W D I Wr Cl i (iron.toInt, wl.toInt, cl.toInt) q = none) → scan (ev 5 (stp W D I Wr Cl) pv (d + 1) i (iron.toInt, wl.toInt, cl.toInt)) ((b * 5 + p) * 5 ^ d) (r * 5 ^ d) acc = acc := by
              intro r
              induction r with
              | zero => intro p _ _; rw [Nat.zero_mul]; rfl
              | succ r ih2 =>
                intro p hp hq
                rw [scan_from (by omega) ha, hq p (Nat.le_refl _)]
                exact ih2 (p + 1) (by omega) (fun q h => hq q (by omega))
            rw [this r (p + 1) (by omega) (fun q h => hst q (by omega))]
            exact fp
        case pos =>
          have hg1 : f_X6_get 27 15 σ (nI p) (1:Int32) = some (σ 28 (p * 3 + 1), σ) := pc_get p1 p2 (by omega) rfl rfl (by decide)
          have hg2 : f_X6_get 27 15 σ (nI p) (2:Int32) = some (σ 28 (p * 3 + 2), σ) := pc_get p1 p2 (by omega) rfl rfl (by decide)
          have hwa : (wl - σ 28 (p * 3 + 1)).toInt = wl.toInt - Wr p := by rw [i32_sub (by omega) (by omega), x2]
          have hca : (cl + σ 31 i - σ 28 (p * 3 + 2)).toInt = cl.toInt + D i - Cl p := by rw [i32_sub (by omega) (by omega), hcl, x3]
          have hx2 : b_X3_goOn_82 N (f_X3_goOn N dd) (j + 1) σ (nI i) iron wl (cl + σ 31 i) (nI p) = if (wl - σ 28 (p * 3 + 1)) < 0 then b_X3_goOn_82 N (f_X3_goOn N dd) j σ (nI i) iron wl (cl + σ 31 i) (nI (p + 1)) else if 0 ≤ (cl + σ 31 i - σ 28 (p * 3 + 2)) then bd (f_X6_get 27 15 (sgu σ 33 i (nI p)) (nI p) (0:Int32)) (fun r9 s8 => bdv (f_X3_goOn N dd s8 (nI i + 1) (iron + r9) (wl - σ 28 (p * 3 + 1)) (cl + σ 31 i - σ 28 (p * 3 + 2))) (fun s10 => b_X3_goOn_82 N (f_X3_goOn N dd) j s10 (nI i) iron wl (cl + σ 31 i) (nI (p + 1)))) else b_X3_goOn_82 N (f_X3_goOn N dd) j σ (nI i) iron wl (cl + σ 31 i) (nI (p + 1)) := by
            show c_X3_goOn_82 N (f_X3_goOn N dd) _ σ (nI i) iron wl _ (nI p) = _
            unfold c_X3_goOn_82 c_X3_goOn_165
            rw [if_neg (show ¬ (5:Int32) ≤ nI p from nI_ge (b := 5) (by omega) (by omega)), gd_t hvi, hti, if_neg (by rw [i32_lt, w1, hpI]; omega), hg1, bd_s, lt_e, hg2, bd_s, lt_e, gd_t hvi, lt_e, nI_suc]
          rw [hx2]
          by_cases hok : Wr p ≤ wl.toInt ∧ Cl p ≤ cl.toInt + D i
          · have hst : stp W D I Wr Cl i (iron.toInt, wl.toInt, cl.toInt) p = some (iron.toInt + I p, wl.toInt - Wr p, cl.toInt + D i - Cl p) := by
              unfold stp
              rw [if_pos ⟨hw, hok.1, hok.2⟩]
            rw [if_neg (by rw [i32_lt, hwa]; show ¬ _ < (0:Int); omega), if_pos (by rw [i32_le, hca]; show (0:Int) ≤ _; omega), hst]
            have hgp1 : GP n W D I Wr Cl H (sgu σ 33 i (nI p)) := gp.fr (Fr.rf.put rfl (Or.inl (by simp)))
            have hfp1 : FP n (sgu σ 33 i (nI p)) acc := fp
            have hir : (iron + σ 28 (p * 3 + 0)).toInt = iron.toInt + I p := by rw [i32_add (by omega) (by omega), x1]
            have hway1 : ∀ j, j < i + 1 → sgu σ 33 i (nI p) 33 j = nI ((b * 5 + p) / 5 ^ (i + 1 - 1 - j) % 5) := by
              intro j hj
              rw [sgu_s]
              by_cases hji : j = i
              · subst hji
                rw [upd_s, show j + 1 - 1 - j = 0 by omega, Nat.pow_zero, Nat.div_one, dig_mod (by omega)]
              · rw [upd_n hji, hway j (by omega), show i + 1 - 1 - j = (i - 1 - j) + 1 by omega, Nat.pow_succ, Nat.mul_comm (5 ^ _) 5, ← Nat.div_div_eq_div_mul, show (b * 5 + p) / 5 = b by omega]
            obtain ⟨σ1, e1, e2, e3⟩ := ih (i + 1) dd (b * 5 + p) (sgu σ 33 i (nI p)) (iron + σ 28 (p * 3 + 0)) (wl - σ 28 (p * 3 + 1)) (cl + σ 31 i - σ 28 (p * 3 + 2)) acc (by omega) (by omega) hgp1 (by omega) (by omega) (by omega) (by omega) (by omega) (by omega) ha hfp1 hway1
            have f1 := fr_X3_goOn e1
            have gp1 := hgp1.fr f1
            have s31 : σ1 31 = σ 31 := f1.cell 31 (by decide)
            rw [hir, hwa, hca] at e2
            have hway2 : ∀ j, j < i → σ1 33 j = nI (b / 5 ^ (i - 1 - j) % 5) := by
              intro j hj
              rw [e3 j (by omega), sgu_s, upd_n (by omega)]
              exact hway j hj
            obtain ⟨σ2, g1, g2, g3⟩ := ihr (p + 1) j σ1 _ (by omega) (by omega) gp1 (Int.le_trans ha (scan_ge _ _ _)) e2 hway2
            rw [s31] at g1
            refine ⟨σ2, ?_, g2, fun j hj => ?_⟩
            · refine G_bd (pc_get p1 p2 (i := p) (f := 0) (by omega) rfl rfl (by decide)) ?_
              rw [nI_suc]
              exact G_bdv e1 g1
            · rw [g3 j hj, e3 j (by omega), sgu_s, upd_n (by omega)]
          · have hst : stp W D I Wr Cl i (iron.toInt, wl.toInt, cl.toInt) p = none := by
              unfold stp
              rw [if_neg (fun z => hok ⟨z.2.1, z.2.2⟩)]
            rw [hst]
            obtain ⟨σ2, g1, g2, g3⟩ := ihr (p + 1) j σ acc (by omega) (by omega) gp ha fp hway
            refine ⟨σ2, ?_, g2, g3⟩
            by_cases hz : Wr p ≤ wl.toInt
            · rw [if_neg (by rw [i32_lt, hwa]; show ¬ _ < (0:Int); omega), if_neg (by rw [i32_le, hca]; show ¬ (0:Int) ≤ _; omega)]
              exact g1
            · rw [if_pos (by rw [i32_lt, hwa]; show _ < (0:Int); omega)]
              exact g1
    have := key 5 0 N σ acc (by omega) (by omega) gp ha fp hway
    exact this
