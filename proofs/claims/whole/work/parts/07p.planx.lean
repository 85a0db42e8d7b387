theorem mx_loop {N m : Nat} {σ : Sg} {v3 : Int32} {K : Sg → Int32 → Int32 → Option Sg} (h1 : σ 27 1 = 5) (h2 : σ 27 2 = 3) (hm : m < 6) (hp : ∀ q, q < 5 → (σ 28 (q * 3 + 0)).toInt ≤ 1000) : ∀ (d p j : Nat) (acc : Int32), p + d = 5 → d < j → acc.toInt ≤ 1000 → ∃ M, b_X3_readMonths_81 N K j σ v3 (nI m) acc (nI p) = c_X3_readMonths_119 N K σ v3 (nI m) M ∧ acc.toInt ≤ M.toInt ∧ M.toInt ≤ 1000 ∧ ∀ q : Nat, p ≤ q → q < 5 → (q : Int) ≤ (σ 30 m).toInt → (σ 28 (q * 3 + 0)).toInt ≤ M.toInt := by
  intro d
  induction d with
  | zero =>
    intro p j acc h hj ha
    obtain ⟨j, rfl⟩ : ∃ z, j = z + 1 := ⟨j - 1, by omega⟩
    refine ⟨acc, ?_, Int.le_refl _, ha, fun q h1 h2 => absurd h2 (by omega)⟩
    show c_X3_readMonths_81 N K _ σ v3 (nI m) acc (nI p) = _
    unfold c_X3_readMonths_81
    rw [if_pos (show (5:Int32) ≤ nI p from nI_le (a := 5) (by omega) (by omega))]
  | succ d ih =>
    intro p j acc h hj ha
    obtain ⟨j, rfl⟩ : ∃ z, j = z + 1 := ⟨j - 1, by omega⟩
    have hpI : (nI p).toInt = p := nI_toInt (by omega)
    by_cases hw : (σ 30 m).toInt < p
    · refine ⟨acc, ?_, Int.le_refl _, ha, fun q h1 h2 h3 => absurd h3 (by omega)⟩
      show c_X3_readMonths_81 N K _ σ v3 (nI m) acc (nI p) = _
      unfold c_X3_readMonths_81
      rw [if_neg (show ¬ (5:Int32) ≤ nI p from nI_ge (b := 5) (by omega) (by omega)), gd_t (vi_nI (by omega) (by decide)), nI_tN (by omega), if_pos (by rw [i32_lt, hpI]; exact hw)]
    · obtain ⟨M, e1, e2, e3, e4⟩ := ih (p + 1) j (if acc < σ 28 (p * 3 + 0) then σ 28 (p * 3 + 0) else acc) (by omega) (by omega) (by have := hp p (by omega); split <;> omega)
      have e5 : acc.toInt ≤ M.toInt ∧ (σ 28 (p * 3 + 0)).toInt ≤ M.toInt := by
        split at e2
        · next hx => rw [i32_lt] at hx; omega
        · next hx => rw [i32_lt] at hx; omega
      refine ⟨M, ?_, e5.1, e3, fun q h1 h2 h3 => ?_⟩
      · show c_X3_readMonths_81 N K _ σ v3 (nI m) acc (nI p) = _
        unfold c_X3_readMonths_81
        rw [if_neg (show ¬ (5:Int32) ≤ nI p from nI_ge (b := 5) (by omega) (by omega)), gd_t (vi_nI (by omega) (by decide)), nI_tN (by omega), if_neg (by rw [i32_lt, hpI]; exact hw)]
        rw [show f_X6_get 27 15 σ (nI p) (0:Int32) = some (σ 28 (p * 3 + 0), σ) from pc_get h1 h2 (i := p) (f := 0) (by omega) rfl rfl (by decide), bd_s, lt_e, nI_suc]
        exact e1
      · by_cases hq : q = p
        · subst hq; exact e5.2
        · exact e4 q (by omega) h2 h3
/-- the planner's rows from month m on -/
def RM (a n : Nat) (C26 C28 : Nat → Int32) (m : Nat) (σ : Sg) : Prop := (σ 27 1 = 5 ∧ σ 27 2 = 3 ∧ σ 25 1 = 12 ∧ σ 25 2 = 2 ∧ σ 26 = C26 ∧ σ 28 = C28) ∧ σ 29 6 = nI n ∧ (σ 32 n).toInt = 0 ∧ (0 ≤ (σ 32 m).toInt ∧ (σ 32 m).toInt ≤ 1000 * ((n - m : Nat) : Int)) ∧ ∀ k, m ≤ k → k < n → (σ 30 k = C26 ((a + k) % 12 * 2 + 0) ∧ σ 31 k = C26 ((a + k) % 12 * 2 + 1)) ∧ 0 ≤ (σ 32 (k + 1)).toInt ∧ (σ 32 (k + 1)).toInt ≤ (σ 32 k).toInt ∧ (σ 32 k).toInt ≤ (σ 32 (k + 1)).toInt + 1000 ∧ ∀ p : Nat, p < 5 → (p : Int) ≤ (σ 30 k).toInt → (σ 32 (k + 1)).toInt + (C28 (p * 3 + 0)).toInt ≤ (σ 32 k).toInt
theorem rm_loop {N a n : Nat} {C26 C28 : Nat → Int32} (hN : 70000 ≤ N) (ha : a ≤ 11) (hn : n ≤ 6) (hp : ∀ q, q < 5 → (C28 (q * 3 + 0)).toInt ≤ 1000) : ∀ (m j : Nat) (σ : Sg), m ≤ n → m < j → RM a n C26 C28 m σ → ∃ σ', b_X3_readMonths_33 N j σ (nI a) (nI m + (-1)) = some σ' ∧ RM a n C26 C28 0 σ' := by
  intro m
  induction m with
  | zero =>
    intro j σ hm hj h
    obtain ⟨j, rfl⟩ : ∃ z, j = z + 1 := ⟨j - 1, by omega⟩
    refine ⟨σ, ?_, h⟩
    show c_X3_readMonths_33 N _ σ (nI a) _ = _
    unfold c_X3_readMonths_33
    rw [if_pos (by decide)]
  | succ m ih =>
    intro j σ hm hj h
    obtain ⟨j, rfl⟩ : ∃ z, j = z + 1 := ⟨j - 1, by omega⟩
    obtain ⟨⟨t1, t2, t3, t4, t5, t6⟩, g1, g2, g3, g4⟩ := h
    have hk : (a + m) % 12 < 12 := Nat.mod_lt _ (by decide)
    have s1 : ∀ s : Sg, s 25 1 = 12 → s 25 2 = 2 → s 26 = C26 → f_X6_get 25 24 s (nI ((a + m) % 12)) (0:Int32) = some (C26 ((a + m) % 12 * 2 + 0), s) := by
      intro s x1 x2 x3
      rw [← x3]
      exact mo_get x1 x2 hk rfl rfl (by decide)
    have s2 : ∀ s : Sg, s 25 1 = 12 → s 25 2 = 2 → s 26 = C26 → f_X6_get 25 24 s (nI ((a + m) % 12)) (1:Int32) = some (C26 ((a + m) % 12 * 2 + 1), s) := by
      intro s x1 x2 x3
      rw [← x3]
      exact mo_get x1 x2 hk rfl rfl (by decide)
    let σ2 := sgu (sgu σ 30 m (C26 ((a + m) % 12 * 2 + 0))) 31 m (C26 ((a + m) % 12 * 2 + 1))
    obtain ⟨M, e1, e2, e3, e4⟩ := mx_loop (N := N) (m := m) (σ := σ2) (v3 := nI a) (K := b_X3_readMonths_33 N j) t1 t2 (by omega) (fun q hq => by show (σ 28 _).toInt ≤ _; rw [t6]; exact hp q hq) 5 0 N 0 rfl (by omega) (by decide)
    have hM0 : (0:Int) ≤ M.toInt := e2
    have hs30 : σ2 30 m = C26 ((a + m) % 12 * 2 + 0) := by
      show upd (σ 30) m _ m = _
      rw [upd_s]
    have hs31 : σ2 31 m = C26 ((a + m) % 12 * 2 + 1) := by
      show upd (σ 31) m _ m = _
      rw [upd_s]
    have hsum : (σ 32 (m + 1) + M).toInt = (σ 32 (m + 1)).toInt + M.toInt := i32_add (by omega) (by omega)
    let σ3 := sgu σ2 32 m (σ 32 (m + 1) + M)
    have h32m : σ3 32 m = σ 32 (m + 1) + M := by
      show upd (σ 32) m _ m = _
      rw [upd_s]
    have h32n : ∀ k, k ≠ m → σ3 32 k = σ 32 k := by
      intro k hk
      show upd (σ 32) m _ k = _
      rw [upd_n hk]
    have hR : RM a n C26 C28 m σ3 := by
      refine ⟨⟨t1, t2, t3, t4, t5, t6⟩, g1, by rw [h32n n (by omega)]; exact g2, by rw [h32m, hsum]; omega, fun k k1 k2 => ?_⟩
      by_cases hkm : k = m
      · subst hkm
        rw [h32m, h32n (k + 1) (by omega), hsum]
        refine ⟨⟨hs30, hs31⟩, g3.1, by omega, by omega, fun p p1 p2 => ?_⟩
        have := e4 p (by omega) p1 p2
        have h28 : σ2 28 (p * 3 + 0) = C28 (p * 3 + 0) := by rw [← t6]; rfl
        rw [h28] at this
        omega
      · obtain ⟨u1, u2⟩ := g4 k (by omega) k2
        have q30 : σ3 30 k = σ 30 k := by
          show upd (σ 30) m _ k = _
          rw [upd_n hkm]
        have q31 : σ3 31 k = σ 31 k := by
          show upd (σ 31) m _ k = _
          rw [upd_n hkm]
        rw [h32n k hkm, h32n (k + 1) (by omega), q30, q31]
        exact ⟨u1, u2⟩
    obtain ⟨σ', f1, f2⟩ := ih j σ3 (by omega) (by omega) hR
    refine ⟨σ', ?_, f2⟩
    show c_X3_readMonths_33 N _ σ (nI a) _ = _
    unfold c_X3_readMonths_33
    rw [pk_m1, if_neg (nI_pos (by omega)), gd_t (by decide), lt_e, nI_add]
    rw [show nI (a + m) - nI (a + m) / (12:Int32) * (12:Int32) = nI ((a + m) % 12) from pk_rem (by omega) (by decide) (by decide)]
    rw [s1 σ t3 t4 t5, bd_s, gd_t (vi_nI (by omega) (by decide)), nI_tN (by omega), lt_e, s2 (sgu σ 30 m (C26 ((a + m) % 12 * 2 + 0))) t3 t4 t5, bd_s, gd_t (vi_nI (by omega) (by decide)), lt_e]
    refine Eq.trans e1 ?_
    unfold c_X3_readMonths_119
    rw [nI_suc, gd_t (vi_nI (by omega) (by decide)), gd_t (vi_nI (by omega) (by decide)), nI_tN (by omega), nI_tN (by omega), lt_e]
    exact f1
theorem months_ok {N a n : Nat} {σ : Sg} (hN : 70000 ≤ N) (ha : a ≤ 11) (hn0 : 1 ≤ n) (hn : n ≤ 6) (h1 : σ 27 1 = 5) (h2 : σ 27 2 = 3) (h3 : σ 25 1 = 12) (h4 : σ 25 2 = 2) (hp : ∀ q, q < 5 → (σ 28 (q * 3 + 0)).toInt ≤ 1000) : ∃ σ', f_X3_readMonths N σ (nI a) (nI n) = some σ' ∧ RM a n (σ 26) (σ 28) 0 σ' := by
  have hm : (if ((0:Int32)) < ((if nI n < ((6:Int32)) then nI n else ((6:Int32)))) then ((if nI n < ((6:Int32)) then nI n else ((6:Int32)))) else ((0:Int32))) = nI n := by
    obtain h | h | h | h | h | h : n = 1 ∨ n = 2 ∨ n = 3 ∨ n = 4 ∨ n = 5 ∨ n = 6 := by omega
    all_goals (subst h; decide)
  let σ2 := sgu (sgu σ 29 6 (nI n)) 32 n 0
  have hR : RM a n (σ 26) (σ 28) n σ2 := by
    refine ⟨⟨h1, h2, h3, h4, rfl, rfl⟩, rfl, ?_, ?_, fun k k1 k2 => absurd k2 (by omega)⟩
    · show (upd (σ 32) n 0 n).toInt = 0
      rw [upd_s]; rfl
    · show 0 ≤ (upd (σ 32) n 0 n).toInt ∧ (upd (σ 32) n 0 n).toInt ≤ _
      rw [upd_s, Nat.sub_self]
      decide
  obtain ⟨σ', e1, e2⟩ := rm_loop (N := N) hN ha hn hp n N σ2 (Nat.le_refl _) (by omega) hR
  refine ⟨σ', ?_, e2⟩
  unfold f_X3_readMonths c_X3_readMonths_0
  rw [hm, lt_e]
  rw [show sgu σ 29 6 (nI n) 29 6 = nI n by rw [sgu_s, upd_s], gd_t (vi_nI (by omega) (by decide)), nI_tN (by omega), lt_e, lt_e]
  rw [show sgu (sgu σ 29 6 (nI n)) 32 n 0 29 6 = nI n from rfl, show nI n - (1:Int32) = nI n + (-1) from Int32.sub_eq_add_neg ..]
  exact e1
