theorem sold_below {G : Nat → Int32} {i : Nat} {v : Int32} : ∀ p, p ≤ i → sold (upd G i v) p = sold G p
  | 0, _ => rfl
  | p + 1, h => by
    show sold (upd G i v) p + (if upd G i v p = -1 then 0 else 1) = sold G p + (if G p = -1 then 0 else 1)
    rw [sold_below p (by omega), upd_n (by omega)]
theorem sold_put {G : Nat → Int32} {i : Nat} {v : Int32} (h1 : G i = -1) (h2 : v ≠ -1) : ∀ p, i < p → sold (upd G i v) p = sold G p + 1
  | 0, h => absurd h (by omega)
  | p + 1, h => by
    show sold (upd G i v) p + (if upd G i v p = -1 then 0 else 1) = sold G p + (if G p = -1 then 0 else 1) + 1
    by_cases hp : p = i
    · subst hp
      rw [sold_below p (Nat.le_refl _), upd_s, if_neg h2, if_pos h1]
    · rw [sold_put h1 h2 p (by omega), upd_n hp]
      omega
theorem nI_nm1 {k : Nat} (h : k < 2147483648) : nI k ≠ -1 := fun z => by
  have h1 := nI_toInt h
  rw [z] at h1
  have h2 : (-1 : Int32).toInt = -1 := rfl
  omega
def PGr (p : Nat) (σ τ : Sg) : Prop := ∀ i, i < p → R_pi (σ 9) (τ 46) (τ 47) (τ 48) (τ 49) (τ 50) (τ 51) i
def FGr (F : Nat) (σ τ : Sg) : Prop := ∀ i, i < F → σ 16 (i * 3 + 0) = τ 58 i ∧ σ 16 (i * 3 + 1) = τ 59 i ∧ σ 16 (i * 3 + 2) = τ 60 i ∧ rng (τ 58 i) 0 15 ∧ rng (τ 59 i) 0 2000 ∧ rng (τ 60 i) 1 50
theorem sell_loop {N F L p code : Nat} {best : Int32} (hN : 70000 ≤ N) {P : Nat → Nat} {ok : Nat → Nat → Bool} {w : Nat → Int} {V : Nat → Nat → Int} (hF : F ≤ 3) (hL : L ≤ 8) (hp : p ≤ 60) (hcode : code < 65536) (hw : ∀ k, k < L → 0 ≤ w k ∧ w k ≤ 500) : ∀ (d k j c : Nat) (σ τ : Sg) (pay : Int) (left : Nat → Int), k + d = L → d < j → (σ 8 1 = 60 ∧ σ 8 2 = 6 ∧ σ 15 1 = 3 ∧ σ 15 2 = 3 ∧ σ 17 7 = nI L) → (τ 36 54 = nI L ∧ τ 36 41 = nI F ∧ τ 36 55 = nI code) → (∀ j, j < L → σ 22 j = wayv F (code / (F + 1) ^ (L - 1 - j) % (F + 1))) → (∀ k, k < L → P k < p ∧ σ 18 k = nI (P k) ∧ σ 19 k = τ 46 (P k) ∧ τ 67 k = nI (P k) ∧ (τ 46 (P k)).toInt = w k ∧ ∀ j, j < k → P j < P k) → (∀ j, k ≤ j → j < L → τ 51 (P j) = -1) → PGr p σ τ → FGr F σ τ → (∀ q, q < F → (τ 59 q).toInt = left q) → ev (F + 1) (sst F ok w V) sv d k (pay, left) code ≠ -1 → ∃ (c' : Nat) (σ' τ' : Sg), b_X7_sell_19 N j σ (nI c) (nI k) = c_X7_sell_107 N σ' (nI c') ∧ b_X8_sell_9 N j τ best (nI c) (nI k) = c_X8_sell_80 N τ' best (nI c') ∧ PGr p σ' τ' ∧ FGr F σ' τ' ∧ sold (τ' 51) p + c = sold (τ 51) p + c' ∧ Fr [(9, none), (16, none)] σ σ' ∧ Fr [(51, none), (59, none)] τ τ' := by
  intro d
  induction d with
  | zero =>
    intro k j c σ τ pay left hk hj hs ht _ _ _ pg fg _ _
    obtain ⟨j, rfl⟩ : ∃ z, j = z + 1 := ⟨j - 1, by omega⟩
    refine ⟨c, σ, τ, ?_, ?_, pg, fg, rfl, Fr.rf, Fr.rf⟩
    · show c_X7_sell_19 N _ σ (nI c) (nI k) = _
      unfold c_X7_sell_19
      rw [hs.2.2.2.2, if_pos (nI_le (by omega) (by omega))]
    · show c_X8_sell_9 N _ τ best (nI c) (nI k) = _
      unfold c_X8_sell_9
      rw [ht.1, if_pos (nI_le (by omega) (by omega))]
  | succ d ih =>
    intro k j c σ τ pay left hk hj hs ht hway hlot h51 pg fg hl hev
    obtain ⟨j, rfl⟩ : ∃ z, j = z + 1 := ⟨j - 1, by omega⟩
    obtain ⟨s1, s2, s3, s4, s5⟩ := id hs
    obtain ⟨t1, t2, t3⟩ := id ht
    have hdg := digit_ok (N := N) (c := code) hN hF hL (show k < L by omega) hcode t2 t1
    have hwk := hway k (by omega)
    rw [show L - 1 - k = d by omega] at hdg hwk
    have hD : code / (F + 1) ^ d % (F + 1) < F + 1 := Nat.mod_lt _ (by omega)
    generalize hDe : code / (F + 1) ^ d % (F + 1) = D at hdg hwk hD
    have hvk : vi (nI k) 8 = true := vi_nI (by omega) (by decide)
    have htk : (nI k).toNatClampNeg = k := nI_tN (by omega)
    have hge : ¬ nI L ≤ nI k := nI_ge (by omega) (by omega)
    by_cases hDF : D = F
    · subst hDF
      rw [ev_some (s' := (pay, left)) (by rw [hDe]; exact sst_F)] at hev
      obtain ⟨c', σ', τ', e1, e2, e3, e4, e5, e6, e7⟩ := ih (k + 1) j c σ τ pay left (by omega) (by omega) hs ht hway hlot (fun j h1 h2 => h51 j (by omega) h2) pg fg hl hev
      refine ⟨c', σ', τ', ?_, ?_, e3, e4, e5, e6, e7⟩
      · show c_X7_sell_19 N _ σ (nI c) (nI k) = _
        unfold c_X7_sell_19
        rw [s5, if_neg hge, gd_t hvk, htk, lt_e, hwk, if_pos (by unfold wayv; rw [if_pos rfl])]
        unfold c_X7_sell_101
        rw [nI_suc]
        exact e1
      · show c_X8_sell_9 N _ τ best (nI c) (nI k) = _
        unfold c_X8_sell_9
        rw [t1, if_neg hge, t3, hdg, bd_s, t2, if_pos (nI_le (Nat.le_refl _) (by omega))]
        unfold c_X8_sell_74
        rw [nI_suc]
        exact e2
    by_cases hok : ok D k = true ∧ w k ≤ left D
    case neg =>
      rw [ev_none (by rw [hDe]; exact sst_f (by omega) hok)] at hev
      exact absurd rfl hev
    rw [ev_some (by rw [hDe]; exact sst_t (by omega) hok)] at hev
    obtain ⟨p1, p2, p3, p4, p5, p6⟩ := hlot k (by omega)
    obtain ⟨y1, y2, y3, y4, y5, y6⟩ := fg D (by omega)
    have hway1 : wayv F D = nI D := by unfold wayv; rw [if_neg hDF]
    have hlD := hl D (by omega)
    obtain ⟨w0, w1⟩ := hw k (by omega)
    let nv := τ 59 D - τ 46 (P k)
    have hnv : nv.toInt = left D - w k := by
      have h1 := y5.1
      have h2 := y5.2
      show (τ 59 D - τ 46 (P k)).toInt = _
      rw [i32_sub (by omega) (by omega), hlD, p5]
    let σ1 := sgu (sgu σ 16 (D * 3 + 1) nv) 9 (P k * 6 + 5) (nI D)
    let τ1 := sgu (sgu τ 51 (P k) (nI D)) 59 D nv
    have pg1 : PGr p σ1 τ1 := by
      intro i hi
      obtain ⟨z0, z1, z2, z3, z4, z5, z6, z7⟩ := pg i hi
      have hc : ∀ f, σ1 9 (i * 6 + f) = if i * 6 + f = P k * 6 + 5 then nI D else σ 9 (i * 6 + f) := fun _ => rfl
      have hg : τ1 51 i = if i = P k then nI D else τ 51 i := rfl
      refine ⟨?_, ?_, ?_, ?_, ?_, ?_, z6, z7⟩
      · rw [hc, if_neg (by omega)]; exact z0
      · rw [hc, if_neg (by omega)]; exact z1
      · rw [hc, if_neg (by omega)]; exact z2
      · rw [hc, if_neg (by omega)]; exact z3
      · rw [hc, if_neg (by omega)]; exact z4
      · rw [hc, hg]
        by_cases hi : i = P k
        · rw [if_pos (by omega), if_pos hi]
        · rw [if_neg (by omega), if_neg hi]; exact z5
    have fg1 : FGr F σ1 τ1 := by
      intro i hi
      obtain ⟨z0, z1, z2, z3, z4, z5⟩ := fg i hi
      have hc : ∀ f, σ1 16 (i * 3 + f) = if i * 3 + f = D * 3 + 1 then nv else σ 16 (i * 3 + f) := fun _ => rfl
      have hg : τ1 59 i = if i = D then nv else τ 59 i := rfl
      refine ⟨?_, ?_, ?_, z3, ?_, z5⟩
      · rw [hc, if_neg (by omega)]; exact z0
      · rw [hc, hg]
        by_cases hi : i = D
        · rw [if_pos (by omega), if_pos hi]
        · rw [if_neg (by omega), if_neg hi]; exact z1
      · rw [hc, if_neg (by omega)]; exact z2
      · rw [hg]
        by_cases hi : i = D
        · rw [if_pos hi]
          have h1 := y5.2
          have h2 := hok.2
          exact ⟨by omega, by omega⟩
        · rw [if_neg hi]; exact z4
    have fσ : Fr [(9, none), (16, none)] σ σ1 := (Fr.rf.put rfl (Or.inl (by simp))).put rfl (Or.inl (by simp))
    have fτ : Fr [(51, none), (59, none)] τ τ1 := (Fr.rf.put rfl (Or.inl (by simp))).put rfl (Or.inl (by simp))
    obtain ⟨c', σ', τ', e1, e2, e3, e4, e5, e6, e7⟩ := ih (k + 1) j (c + 1) σ1 τ1 (pay + V k D) (fun q => if q = D then left q - w k else left q) (by omega) (by omega) hs ht hway hlot (fun j h1 h2 => by
      have hne : P j ≠ P k := by
        have := (hlot j h2).2.2.2.2.2 k (by omega)
        omega
      show (if P j = P k then nI D else τ 51 (P j)) = -1
      rw [if_neg hne]
      exact h51 j (by omega) h2) pg1 fg1 (fun q hq => by
      show (if q = D then nv else τ 59 q).toInt = (if q = D then left q - w k else left q)
      by_cases hqD : q = D
      · rw [if_pos hqD, if_pos hqD, hqD]; exact hnv
      · rw [if_neg hqD, if_neg hqD]; exact hl q hq) hev
    have hsold : sold (τ1 51) p = sold (τ 51) p + 1 := sold_put (h51 k (Nat.le_refl _) (by omega)) (nI_nm1 (by omega)) p p1
    refine ⟨c', σ', τ', ?_, ?_, e3, e4, by omega, fσ.tr e6, fτ.tr e7⟩
    · show c_X7_sell_19 N _ σ (nI c) (nI k) = _
      unfold c_X7_sell_19
      rw [s5, if_neg hge, gd_t hvk, htk, lt_e, hwk, hway1, if_neg (nI_nm1 (by omega)), show f_X6_get 15 9 σ (nI D) (1:Int32) = some (σ 16 (D * 3 + 1), σ) from fg_get s3 s4 (i := D) (f := 1) (by omega) rfl rfl (by decide), bd_s, gd_t hvk, y2, p3, show f_X6_set 15 9 σ (nI D) (1:Int32) (τ 59 D - τ 46 (P k)) = some (sgu σ 16 (D * 3 + 1) (τ 59 D - τ 46 (P k))) from fg_set s3 s4 (i := D) (f := 1) (by omega) rfl rfl (by decide), bdv_s, gd_t hvk]
      rw [show sgu σ 16 (D * 3 + 1) (τ 59 D - τ 46 (P k)) 18 k = nI (P k) from p2]
      refine G_bdv (σ := σ1) (pg_set (σ := sgu σ 16 (D * 3 + 1) (τ 59 D - τ 46 (P k))) s1 s2 (i := P k) (f := 5) (by omega) rfl rfl (by decide)) ?_
      unfold c_X7_sell_101
      rw [nI_suc, nI_suc]
      exact e1
    · show c_X8_sell_9 N _ τ best (nI c) (nI k) = _
      unfold c_X8_sell_9
      have hvD : vi (nI D) 3 = true := vi_nI (by omega) (by decide)
      have htD : (nI D).toNatClampNeg = D := nI_tN (by omega)
      have hvP : vi (nI (P k)) 60 = true := vi_nI (by omega) (by decide)
      have htP : (nI (P k)).toNatClampNeg = P k := nI_tN (by omega)
      rw [t1, if_neg hge, t3, hdg, bd_s, t2, if_neg (nI_ge (by omega) (by omega)), gd_t hvk, htk, p4, gd_t hvP, htP, lt_e, gd_t hvD, gd_t hvk, show sgu τ 51 (P k) (nI D) 67 k = nI (P k) from p4, gd_t hvP, gd_t hvD, htP, htD, lt_e]
      unfold c_X8_sell_74
      rw [nI_suc, nI_suc]
      exact e2
theorem st_sell {N : Nat} (hN : 70000 ≤ N) : StI (fun σ => f_X7_sell N σ) (fun σ => f_X8_sell N σ) := by
  intro σ0 τ0 R0
  obtain ⟨F, L, p, code, P, ok, w, V, Wn, best, σ, τ, hx, hy, h8, h7, h55, hcode, hway, hLT, ms, ns, hev, -, -, hp, R, h41, h27⟩ := sale_ok hN R0
  obtain ⟨r1, r2, r3, r4, r5, r6, r7, r8, r9, r10, r11⟩ := id R
  obtain ⟨q1, q2, q3, p', hp', u1, u2, u3, u4⟩ := id r5
  obtain ⟨g1, g2, F', hF', g3, g4, g5⟩ := id r8
  have hpp : p' = p := nI_inj (by omega) (by omega) (u2.symm.trans h27)
  subst hpp
  have hFF : F' = F := nI_inj (by omega) (by have := ns.1; omega) (g4.symm.trans h41)
  subst hFF
  have fm0 : Fr _ τ0 τ := fr_X8_findSale hy
  obtain ⟨c, σ1, τ1, e1, e2, e3, e4, e5, e6, e7⟩ := sell_loop (N := N) (best := best) hN ns.1 ns.2.1 hp hcode ns.2.2.1 L 0 N 0 σ τ 0 Wn (by omega) (by have := ns.2.1; omega) ⟨q1, q2, g1, g2, h7⟩ ⟨ms.1, ms.2.1, h55⟩ hway (fun k hk => by
    obtain ⟨z1, z2, z3, z4, z5, z6, z7⟩ := hLT k hk
    rw [fm0.cell 46 (by decide)]
    exact ⟨z1, z2, z3, z5, by rw [← fm0.cell 46 (by decide)]; exact (ms.2.2.1 k hk).2.2.1, z7⟩) (fun j _ hj => by rw [fm0.cell 51 (by decide)]; exact (hLT j hj).2.2.2.2.2.1) u4 g5 ms.2.2.2 hev
  let σ2 := sgu (sgu σ1 0 13 (σ1 0 13 + nI c)) 0 14 (σ1 0 14 + σ1 17 8)
  let τ2 := sgu τ1 36 45 (τ1 36 45 + best)
  refine ⟨nI c, σ2, τ2, ?_, ?_, ?_⟩
  · show f_X7_sell N σ0 = _
    unfold f_X7_sell c_X7_sell_0
    refine G_bdv hx ?_
    exact e1.trans rfl
  · show f_X8_sell N τ0 = _
    unfold f_X8_sell c_X8_sell_0
    refine G_bd hy ?_
    exact e2.trans rfl
  · have fσ : Fr [(0, some 13), (0, some 14), (9, none), (16, none)] σ σ2 := ((e6.mo (by decide)).put rfl (Or.inr (by simp))).put rfl (Or.inr (by simp))
    have fτ : Fr [(36, some 45), (51, none), (59, none)] τ τ2 := (e7.mo (by decide)).put rfl (Or.inr (by simp))
    have h36 : ∀ k, k ≠ 45 → τ2 36 k = τ 36 k := fun k hk => fτ 36 k (by simp) (by simp; omega)
    have a13 : σ2 0 13 = σ 0 13 + nI c := by
      show σ1 0 13 + nI c = _
      rw [e6.cell 0 (by decide)]
    have a14 : σ2 0 14 = σ 0 14 + best := by
      show σ1 0 14 + σ1 17 8 = _
      rw [e6.cell 0 (by decide), e6.cell 17 (by decide), h8]
    have b45 : τ2 36 45 = τ 36 45 + best := by
      show τ1 36 45 + best = _
      rw [e7.cell 36 (by decide)]
    have t51 : τ2 51 = τ1 51 := rfl
    have t59 : τ2 59 = τ1 59 := rfl
    have s9 : σ2 9 = σ1 9 := rfl
    have s16 : σ2 16 = σ1 16 := rfl
    unfold Rel
    rw [fσ.cell 1 (by decide), fσ.cell 2 (by decide), fσ.cell 3 (by decide), fσ.cell 4 (by decide), fσ.cell 5 (by decide), fσ.cell 6 (by decide), fσ.cell 7 (by decide), fσ.cell 8 (by decide), fσ.cell 11 (by decide), fσ.cell 12 (by decide), fσ.cell 13 (by decide), fσ.cell 14 (by decide), fσ.cell 15 (by decide), fσ.cell 25 (by decide), fσ.cell 26 (by decide), fσ.cell 27 (by decide), fσ.cell 28 (by decide), fσ.cell 29 (by decide), fσ.cell 35 (by decide)]
    rw [fτ.cell 37 (by decide), fτ.cell 38 (by decide), fτ.cell 39 (by decide), fτ.cell 40 (by decide), fτ.cell 41 (by decide), fτ.cell 42 (by decide), fτ.cell 43 (by decide), fτ.cell 44 (by decide), fτ.cell 45 (by decide), fτ.cell 52 (by decide), fτ.cell 53 (by decide), fτ.cell 54 (by decide), fτ.cell 55 (by decide), fτ.cell 56 (by decide), fτ.cell 57 (by decide), fτ.cell 61 (by decide), fτ.cell 62 (by decide), fτ.cell 63 (by decide), fτ.cell 64 (by decide), fτ.cell 65 (by decide), fτ.cell 66 (by decide)]
    rw [h36 2 (by decide), h36 3 (by decide), h36 27 (by decide), h36 36 (by decide), h36 41 (by decide), h36 52 (by decide), a13, a14, b45]
    refine ⟨r1, r2, r3, ?_, ⟨q1, q2, by rw [q3], p', hp, u1, u2, ?_, ?_⟩, r6, r7, ⟨g1, g2, F', ns.1, g3, g4, ?_⟩, r9, r10, r11⟩
    · unfold R_sc at r4 ⊢
      simp only [h36 _ (show 11 ≠ 45 by decide), h36 _ (show 12 ≠ 45 by decide), h36 _ (show 13 ≠ 45 by decide), h36 _ (show 14 ≠ 45 by decide), h36 _ (show 15 ≠ 45 by decide), h36 _ (show 16 ≠ 45 by decide), h36 _ (show 17 ≠ 45 by decide), h36 _ (show 18 ≠ 45 by decide), h36 _ (show 19 ≠ 45 by decide), h36 _ (show 20 ≠ 45 by decide), h36 _ (show 21 ≠ 45 by decide), h36 _ (show 22 ≠ 45 by decide), h36 _ (show 23 ≠ 45 by decide), h36 _ (show 24 ≠ 45 by decide), h36 _ (show 25 ≠ 45 by decide), h36 _ (show 26 ≠ 45 by decide)]
      exact r4
    · rw [u3, nI_add, t51, ← e5, Nat.add_zero]
    · exact e3
    · exact e4
