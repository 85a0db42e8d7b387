theorem Rel.cong2 {σ τ σ' τ' : Sg} (h : Rel σ τ) (h1 : ∀ q, q < 17 ∨ 25 ≤ q → σ' q = σ q) (h2 : ∀ q, 36 < q → q < 67 → τ' q = τ q) (h3 : ∀ k, k < 53 → τ' 36 k = τ 36 k) : Rel σ' τ' := by
  unfold Rel R_sc at h ⊢
  rw [h1 0 (by decide), h1 1 (by decide), h1 2 (by decide), h1 3 (by decide), h1 4 (by decide), h1 5 (by decide), h1 6 (by decide), h1 7 (by decide), h1 8 (by decide), h1 9 (by decide), h1 11 (by decide), h1 12 (by decide), h1 13 (by decide), h1 14 (by decide), h1 15 (by decide), h1 16 (by decide), h1 25 (by decide), h1 26 (by decide), h1 27 (by decide), h1 28 (by decide), h1 29 (by decide), h1 35 (by decide)]
  rw [h2 37 (by decide) (by decide), h2 38 (by decide) (by decide), h2 39 (by decide) (by decide), h2 40 (by decide) (by decide), h2 41 (by decide) (by decide), h2 42 (by decide) (by decide), h2 43 (by decide) (by decide), h2 44 (by decide) (by decide), h2 45 (by decide) (by decide), h2 46 (by decide) (by decide), h2 47 (by decide) (by decide), h2 48 (by decide) (by decide), h2 49 (by decide) (by decide), h2 50 (by decide) (by decide), h2 51 (by decide) (by decide), h2 52 (by decide) (by decide), h2 53 (by decide) (by decide), h2 54 (by decide) (by decide), h2 55 (by decide) (by decide), h2 56 (by decide) (by decide), h2 57 (by decide) (by decide), h2 58 (by decide) (by decide), h2 59 (by decide) (by decide), h2 60 (by decide) (by decide), h2 61 (by decide) (by decide), h2 62 (by decide) (by decide), h2 63 (by decide) (by decide), h2 64 (by decide) (by decide), h2 65 (by decide) (by decide), h2 66 (by decide) (by decide)]
  rw [h3 2 (by decide), h3 3 (by decide), h3 11 (by decide), h3 12 (by decide), h3 13 (by decide), h3 14 (by decide), h3 15 (by decide), h3 16 (by decide), h3 17 (by decide), h3 18 (by decide), h3 19 (by decide), h3 20 (by decide), h3 21 (by decide), h3 22 (by decide), h3 23 (by decide), h3 24 (by decide), h3 25 (by decide), h3 26 (by decide), h3 27 (by decide), h3 36 (by decide), h3 41 (by decide), h3 45 (by decide), h3 52 (by decide)]
  exact h
theorem pow4 {F L : Nat} (hF : F ≤ 3) (hL : L ≤ 8) : (F + 1) ^ L ≤ 65536 := by
  have h1 : (F + 1) ^ L ≤ 4 ^ L := Nat.pow_le_pow_left (by omega) L
  have h2 : 4 ^ L ≤ 4 ^ 8 := Nat.pow_le_pow_right (by decide) hL
  omega
/-- what both sides know after the search -/
theorem sale_ok {N : Nat} (hN : 70000 ≤ N) {σ τ : Sg} (R : Rel σ τ) : ∃ (F L p code : Nat) (P : Nat → Nat) (ok : Nat → Nat → Bool) (w : Nat → Int) (V : Nat → Nat → Int) (Wn : Nat → Int) (r : Int32) (σ' τ' : Sg), f_X4_settle N σ = some σ' ∧ f_X8_findSale N τ = some (r, τ') ∧ σ' 17 8 = r ∧ σ' 17 7 = nI L ∧ τ' 36 55 = nI code ∧ code < 65536 ∧ (∀ j, j < L → σ' 22 j = wayv F (code / (F + 1) ^ (L - 1 - j) % (F + 1))) ∧ LT (τ 46) (τ 47) (τ 51) L p P σ' τ' ∧ MS F L P ok w V Wn τ' ∧ NS F L w V Wn ∧ ev (F + 1) (sst F ok w V) sv L 0 (0, Wn) code ≠ -1 ∧ τ 36 41 = nI F ∧ τ 36 27 = nI p ∧ p ≤ 60 ∧ Rel σ' τ' ∧ τ' 36 41 = nI F ∧ τ' 36 27 = nI p := by
  obtain ⟨r1, r2, r3, r4, r5, r6, r7, r8, r9, r10, r11⟩ := id R
  obtain ⟨q1, q2, q3, p, hp, u1, u2, u3, u4⟩ := id r5
  obtain ⟨g1, g2, F, hF, g3, g4, g5⟩ := id r8
  -- the lots
  obtain ⟨L, P, σ1, τ1, e1, e2, e3, e4, e5, e6, e7⟩ := pigs_loop (N := N) (p := p) (F := F) hp (E8 := σ 8) (C9 := σ 9) (W := τ 46) (S := τ 47) (G := τ 51) q1 q2 u1 (fun i hi => ⟨(u4 i hi).1, (u4 i hi).2.1, (u4 i hi).2.2.2.2.2.1⟩) p 0 0 N (sgu σ 17 7 0) (sgu τ 36 54 0) (fun _ => 0) (by omega) (by omega) (by omega) rfl rfl rfl u2 g4 rfl rfl (fun k hk => absurd hk (by omega))
  have hx1 : f_X4_readPigs N σ = some σ1 := e1
  have f1 := fr_X4_readPigs hx1
  have s15 : σ1 15 = σ 15 := f1.cell 15 (by decide)
  have s16 : σ1 16 = σ 16 := f1.cell 16 (by decide)
  obtain ⟨σ2, w1, w2, -, w3⟩ := wants_loop (N := N) 3 0 N σ1 (by omega) (by omega) (by rw [s15]; exact g1) (by rw [s15]; exact g2)
  have t46 : τ1 46 = τ 46 := e7.cell 46 (by decide)
  have t47 : τ1 47 = τ 47 := e7.cell 47 (by decide)
  have t58 : τ1 58 = τ 58 := e7.cell 58 (by decide)
  have t59 : τ1 59 = τ 59 := e7.cell 59 (by decide)
  have t60 : τ1 60 = τ 60 := e7.cell 60 (by decide)
  have t41 : τ1 36 41 = nI F := (e7 36 41 (by decide) (by decide)).trans g4
  let ok : Nat → Nat → Bool := fun q k => !decide ((((τ 58 q) >>> (τ 47 (P k) &&& 31)) &&& (1:Int32)) = 0)
  let w : Nat → Int := fun k => (τ 46 (P k)).toInt
  let V : Nat → Nat → Int := fun k q => (τ 46 (P k)).toInt * (τ 60 q).toInt
  let Wn : Nat → Int := fun q => (τ 59 q).toInt
  have hokf : ∀ q k, ok q k = false ↔ (((τ 58 q) >>> (τ 47 (P k) &&& 31)) &&& (1:Int32)) = 0 := by
    intro q k
    show (!decide ((((τ 58 q) >>> (τ 47 (P k) &&& 31)) &&& (1:Int32)) = 0)) = false ↔ _
    simp
  have hrw : ∀ k, k < L → 0 ≤ w k ∧ w k ≤ 500 := fun k hk => (u4 (P k) (e6 k hk).1).2.2.2.2.2.2.1
  have hrp : ∀ q, q < F → 1 ≤ (τ 60 q).toInt ∧ (τ 60 q).toInt ≤ 50 := fun q hq => (g5 q hq).2.2.2.2.2
  have hrV : ∀ k q, k < L → q < F → 0 ≤ V k q ∧ V k q ≤ 25000 := by
    intro k q hk hq
    obtain ⟨a, b⟩ := hrw k hk
    obtain ⟨c, d⟩ := hrp q hq
    exact ⟨Int.mul_nonneg a (by omega), Int.mul_le_mul b d (by omega) (by decide)⟩
  have hVm : ∀ k q, k < L → q < F → (τ 46 (P k) * τ 60 q).toInt = V k q := by
    intro k q hk hq
    obtain ⟨a, b⟩ := hrV k q hk hq
    exact i32_mul (by show -2147483648 ≤ V k q; omega) (by show V k q < 2147483648; omega)
  have ns : NS F L w V Wn := ⟨hF, e3, hrw, hrV, fun q hq => (g5 q hq).2.2.2.2.1⟩
  have ms1 : MS F L P ok w V Wn τ1 := by
    refine ⟨e5, t41, fun k hk => ?_, fun q hq => by rw [t59]⟩
    obtain ⟨z1, z2, z3, z4, z5, z6, z7⟩ := e6 k hk
    rw [t46, t47, t58, t60]
    exact ⟨z5, by omega, rfl, fun q hq => ⟨(hokf q k).symm, hVm k q hk hq⟩⟩
  have s17 : σ2 17 7 = nI L := (w2 17 7 (by decide) (by decide)).trans e4
  have gs2 : GS F L ok w V σ2 := by
    have x15 : σ2 15 = σ 15 := (w2.cell 15 (by decide)).trans s15
    have x16 : σ2 16 = σ 16 := (w2.cell 16 (by decide)).trans s16
    have x19 : σ2 19 = σ1 19 := w2.cell 19 (by decide)
    have x20 : σ2 20 = σ1 20 := w2.cell 20 (by decide)
    refine ⟨by rw [x15]; exact ⟨g1, g2, g3⟩, s17, fun k hk => ?_⟩
    obtain ⟨z1, z2, z3, z4, z5, z6, z7⟩ := e6 k hk
    rw [x16, x19, x20, z3, z4]
    refine ⟨rfl, fun q hq => ?_⟩
    obtain ⟨y1, y2, y3, y4, y5, y6⟩ := g5 q hq
    rw [y1, y3]
    refine ⟨?_, hVm k q hk hq⟩
    rw [hokf]
    obtain ⟨t, ht, et, -⟩ := i32_nat (x := τ 58 q) (n := 16) y4.1 (by have := y4.2; omega)
    have hS := (u4 (P k) z1).2.2.2.2.2.2.2
    obtain ⟨u, hu, eu, -⟩ := i32_nat (x := τ 47 (P k)) (n := 4) hS.1 (by have := hS.2; omega)
    rw [et, eu]
    exact bit_ok t ht u hu
  have h16p : ∀ q, q < F → 0 ≤ (σ2 16 (q * 3 + 2)).toInt ∧ (σ2 16 (q * 3 + 2)).toInt ≤ 50 := by
    intro q hq
    have x16 : σ2 16 = σ 16 := (w2.cell 16 (by decide)).trans s16
    rw [x16, (g5 q hq).2.2.1]
    have := hrp q hq
    omega
  obtain ⟨σ3, h1, h2, h3⟩ := hopes_ok (N := N) hN hF e3 hrw gs2 h16p
  have h24 : ∀ q, q < F → σ2 24 q = τ 59 q := by
    intro q hq
    rw [w3 q (by omega) (by omega), s16]
    exact (g5 q hq).2.1
  have hs3 : HS F L ok w V Wn (fun k => (σ3 23 k).toInt) := by
    refine ⟨h3.1, fun k hk => ?_⟩
    obtain ⟨a, b, c, d⟩ := h3.2 k hk
    refine ⟨a, b, c, fun q hq o1 o2 => d q hq o1 ?_⟩
    show w k ≤ (σ2 24 q).toInt
    rw [h24 q hq]
    exact o2
  have gs3 : GS F L ok w V σ3 := gs2.fr (h2.mo (by decide))
  have f4 : Fr [(17, some 8), (21, none), (22, none), (23, none), (24, none)] σ3 (sgu σ3 17 8 (-1)) := Fr.rf.put rfl (Or.inr (by simp))
  obtain ⟨σ4, k1, k2, -, -⟩ := place_ok (N := N) hN ns hs3 (C23 := σ3 23) (fun _ _ => rfl) L 0 12 0 (sgu σ3 17 8 (-1)) 0 Wn (-1, 0) (by omega) (by omega) (gs3.fr f4) rfl (by decide) (by decide) (fun q hq => by
    have : sgu σ3 17 8 (-1) 24 q = τ 59 q := by
      show σ3 24 q = _
      rw [h2.cell 24 (by decide)]
      exact h24 q hq
    rw [this]
    exact ⟨rfl, (ns.2.2.2.2 q hq).1, Int.le_refl _⟩) (by decide) ⟨rfl, fun z => absurd rfl z⟩ (fun j hj => absurd hj (by omega))
  have hx : f_X4_settle N σ = some σ4 := by
    unfold f_X4_settle c_X4_settle_0
    refine G_bdv hx1 ?_
    refine w1.trans ?_
    unfold c_X4_settle_30
    exact G_bdv h1 (G_lt (G_bdv k1 rfl))
  rw [Nat.zero_mul] at k2
  have hA := pow4 hF e3
  obtain ⟨r, τ2, m1, m2, m3, m4⟩ := bests_loop (A := (F + 1) ^ L) hN ns hA ((F + 1) ^ L) 0 N τ1 (-1) (-1, 0) (by omega) (by omega) ms1 rfl (fun z => absurd rfl z)
  have hy : f_X8_findSale N τ = some (r, τ2) := by
    unfold f_X8_findSale c_X8_findSale_0
    rw [lt_e]
    refine e2.trans ?_
    exact m1
  have k2' : FS F L σ4 (scan (ev (F + 1) (sst F ok w V) sv L 0 (0, Wn)) 0 ((F + 1) ^ L) (-1, 0)) := k2
  have hge : 0 ≤ (scan (ev (F + 1) (sst F ok w V) sv L 0 (0, Wn)) 0 ((F + 1) ^ L) (-1, 0)).1 := by
    obtain ⟨x, x1, x2⟩ := none_code (F := F) (ok := ok) (w := w) (V := V) L 0 (0, Wn) (Int.le_refl _)
    have := x2 0
    rw [Nat.zero_mul, Nat.zero_add] at this
    exact Int.le_trans this (scan_ub _ _ _ x (by omega) (by omega))
  have hmem := scan_mem (f := ev (F + 1) (sst F ok w V) sv L 0 (0, Wn)) ((F + 1) ^ L) 0 (-1, 0)
  generalize scan (ev (F + 1) (sst F ok w V) sv L 0 (0, Wn)) 0 ((F + 1) ^ L) (-1, 0) = acc at k2' m2 m3 hge hmem
  obtain h0 | ⟨x, x1, x2, x3⟩ := hmem
  · rw [h0] at hge
    exact absurd hge (by decide)
  have hne : acc.1 ≠ -1 := by omega
  have fx : Fr _ σ σ4 := fr_X4_settle hx
  have fm : Fr _ τ τ2 := fr_X8_findSale hy
  have c2 : acc.2 = x := by rw [x3]
  have c1 : acc.1 = ev (F + 1) (sst F ok w V) sv L 0 (0, Wn) x := by rw [x3]
  have hR : Rel σ4 τ2 := R.cong2 (fun q hq => funext fun k => fx q k (by simp; omega) (by simp; omega)) (fun q a b => funext fun k => fm q k (by simp; omega) (by simp; omega)) (fun k hk => fm 36 k (by simp) (by simp; omega))
  have fp4 := fr_X4_place k1
  have hLT : LT (τ 46) (τ 47) (τ 51) L p P σ4 τ2 := by
    have a18 : σ4 18 = σ1 18 := by rw [fp4.cell 18 (by decide)]; show σ3 18 = _; rw [h2.cell 18 (by decide), w2.cell 18 (by decide)]
    have a19 : σ4 19 = σ1 19 := by rw [fp4.cell 19 (by decide)]; show σ3 19 = _; rw [h2.cell 19 (by decide), w2.cell 19 (by decide)]
    have a20 : σ4 20 = σ1 20 := by rw [fp4.cell 20 (by decide)]; show σ3 20 = _; rw [h2.cell 20 (by decide), w2.cell 20 (by decide)]
    have a67 : τ2 67 = τ1 67 := m4.cell 67 (by decide)
    unfold LT at e6 ⊢
    rw [a18, a19, a20, a67]
    exact e6
  have h17 : σ4 17 7 = nI L := by
    rw [fp4 17 7 (by decide) (by decide)]
    exact gs3.2.1
  refine ⟨F, L, p, x, P, ok, w, V, Wn, r, σ4, τ2, hx, hy, i32_eq.mpr (k2'.1.trans m2.symm), h17, by rw [m3 hne, c2], by omega, fun j hj => by rw [k2'.2 hne j hj, c2], hLT, ms1.fr m4, ns, by rw [← c1]; exact hne, g4, u2, hp, hR, ?_, ?_⟩
  · rw [fm 36 41 (by decide) (by decide)]; exact g4
  · rw [fm 36 27 (by decide) (by decide)]; exact u2
theorem st_sale {N : Nat} (hN : 70000 ≤ N) : StI (fun σ => f_X7_sale N σ) (fun σ => f_X8_sale N σ) := by
  intro σ τ R
  obtain ⟨F, L, p, code, P, ok, w, V, Wn, r, σ', τ', hx, hy, h8, -, -, -, -, -, -, -, -, -, -, -, hR, -, -⟩ := sale_ok hN R
  refine ⟨r, σ', τ', ?_, ?_, hR⟩
  · show f_X7_sale N σ = _
    unfold f_X7_sale c_X7_sale_0
    refine G_bdv hx ?_
    rw [h8]
  · show f_X8_sale N τ = _
    unfold f_X8_sale c_X8_sale_0
    exact G_bd hy rfl
