theorem hope_loop {N F L k : Nat} {ok : Nat → Nat → Bool} {w : Nat → Int} {V : Nat → Nat → Int} {σ : Sg} {K : Sg → Int32 → Option Sg} (gs : GS F L ok w V σ) (hF : F ≤ 3) (hL : L ≤ 8) (hk : k < L) (hp : ∀ q, q < F → (σ 16 (q * 3 + 2)).toInt ≤ 50) : ∀ (d q j : Nat) (acc : Int32), q + d = F → d < j → acc.toInt ≤ 50 → ∃ M, b_X4_readHopes_26 N K j σ (nI k) acc (nI q) = c_X4_readHopes_64 N K σ (nI k) M ∧ acc.toInt ≤ M.toInt ∧ M.toInt ≤ 50 ∧ ∀ x : Nat, q ≤ x → x < F → ok x k = true → w k ≤ (σ 24 x).toInt → (σ 16 (x * 3 + 2)).toInt ≤ M.toInt := by
  obtain ⟨⟨p1, p2, p3⟩, p4, p5⟩ := id gs
  intro d
  induction d with
  | zero =>
    intro q j acc h hj ha
    obtain ⟨j, rfl⟩ : ∃ z, j = z + 1 := ⟨j - 1, by omega⟩
    refine ⟨acc, ?_, Int.le_refl _, ha, fun x h1 h2 => absurd h2 (by omega)⟩
    show c_X4_readHopes_26 N K _ σ (nI k) acc (nI q) = _
    unfold c_X4_readHopes_26
    rw [p3, if_pos (nI_le (by omega) (by omega))]
  | succ d ih =>
    intro q j acc h hj ha
    obtain ⟨j, rfl⟩ : ∃ z, j = z + 1 := ⟨j - 1, by omega⟩
    have hca := can_ok gs hF hL (q := q) (k := k) (by omega) hk
    have hstart : b_X4_readHopes_26 N K (j + 1) σ (nI k) acc (nI q) = c_X4_readHopes_26 N K (b_X4_readHopes_26 N K j) σ (nI k) acc (nI q) := rfl
    rw [hstart]
    unfold c_X4_readHopes_26
    rw [p3, if_neg (nI_ge (by omega) (by omega)), hca, bd_s]
    by_cases hok : ok q k = true ∧ w k ≤ (σ 24 q).toInt
    · rw [if_pos hok, if_neg (by decide), show f_X6_get 15 9 σ (nI q) (2:Int32) = some (σ 16 (q * 3 + 2), σ) from fg_get p1 p2 (i := q) (f := 2) (by omega) rfl rfl (by decide), bd_s, lt_e]
      obtain ⟨M, e1, e2, e3, e4⟩ := ih (q + 1) j (if acc < σ 16 (q * 3 + 2) then σ 16 (q * 3 + 2) else acc) (by omega) (by omega) (by have := hp q (by omega); split <;> omega)
      have e5 : acc.toInt ≤ M.toInt ∧ (σ 16 (q * 3 + 2)).toInt ≤ M.toInt := by
        split at e2
        · next hx => rw [i32_lt] at hx; omega
        · next hx => rw [i32_lt] at hx; omega
      refine ⟨M, ?_, e5.1, e3, fun x h1 h2 h3 h4 => ?_⟩
      · unfold c_X4_readHopes_58
        rw [nI_suc]
        exact e1
      · by_cases hq : x = q
        · subst hq; exact e5.2
        · exact e4 x (by omega) h2 h3 h4
    · rw [if_neg hok, if_pos rfl]
      obtain ⟨M, e1, e2, e3, e4⟩ := ih (q + 1) j acc (by omega) (by omega) ha
      refine ⟨M, ?_, e2, e3, fun x h1 h2 h3 h4 => ?_⟩
      · unfold c_X4_readHopes_58
        rw [nI_suc]
        exact e1
      · by_cases hq : x = q
        · subst hq; exact absurd ⟨h3, h4⟩ hok
        · exact e4 x (by omega) h2 h3 h4
/-- the hopes from lot m on -/
def HR (F L : Nat) (ok : Nat → Nat → Bool) (w : Nat → Int) (V : Nat → Nat → Int) (m : Nat) (σ : Sg) : Prop := (σ 23 L).toInt = 0 ∧ (0 ≤ (σ 23 m).toInt ∧ (σ 23 m).toInt ≤ 25000 * ((L - m : Nat) : Int)) ∧ ∀ k, m ≤ k → k < L → 0 ≤ (σ 23 (k + 1)).toInt ∧ (σ 23 (k + 1)).toInt ≤ (σ 23 k).toInt ∧ (σ 23 k).toInt ≤ (σ 23 (k + 1)).toInt + 25000 ∧ ∀ q, q < F → ok q k = true → w k ≤ (σ 24 q).toInt → (σ 23 (k + 1)).toInt + V k q ≤ (σ 23 k).toInt
theorem hopes_loop {N F L : Nat} (hN : 70000 ≤ N) {ok : Nat → Nat → Bool} {w : Nat → Int} {V : Nat → Nat → Int} (hF : F ≤ 3) (hL : L ≤ 8) (hw : ∀ k, k < L → 0 ≤ w k ∧ w k ≤ 500) : ∀ (m j : Nat) (σ : Sg), m ≤ L → m < j → GS F L ok w V σ → (∀ q, q < F → 0 ≤ (σ 16 (q * 3 + 2)).toInt ∧ (σ 16 (q * 3 + 2)).toInt ≤ 50) → HR F L ok w V m σ → ∃ σ', b_X4_readHopes_17 N j σ (nI m + (-1)) = some σ' ∧ Fr [(23, none)] σ σ' ∧ HR F L ok w V 0 σ' := by
  intro m
  induction m with
  | zero =>
    intro j σ hm hj gs hp h
    obtain ⟨j, rfl⟩ : ∃ z, j = z + 1 := ⟨j - 1, by omega⟩
    refine ⟨σ, ?_, Fr.rf, h⟩
    show c_X4_readHopes_17 N _ σ _ = _
    unfold c_X4_readHopes_17
    rw [if_pos (by decide)]
  | succ m ih =>
    intro j σ hm hj gs hp h
    obtain ⟨j, rfl⟩ : ∃ z, j = z + 1 := ⟨j - 1, by omega⟩
    obtain ⟨g2, g3, g4⟩ := h
    obtain ⟨M, e1, e2, e3, e4⟩ := hope_loop (N := N) (K := b_X4_readHopes_17 N j) gs hF hL (show m < L by omega) (fun q hq => (hp q hq).2) F 0 N 0 (by omega) (by omega) (by decide)
    have hM0 : (0:Int) ≤ M.toInt := e2
    obtain ⟨w0, w1⟩ := hw m (by omega)
    have hwm : (σ 19 m).toInt = w m := (gs.2.2 m (by omega)).1
    have hb1 : 0 ≤ M.toInt * w m := Int.mul_nonneg hM0 w0
    have hb2 : M.toInt * w m ≤ 50 * 500 := Int.mul_le_mul e3 w1 w0 (by decide)
    have hmul : (M * σ 19 m).toInt = M.toInt * w m := by rw [i32_mul (by rw [hwm]; omega) (by rw [hwm]; omega), hwm]
    have hsum : (σ 23 (m + 1) + M * σ 19 m).toInt = (σ 23 (m + 1)).toInt + M.toInt * w m := by rw [i32_add (by omega) (by omega), hmul]
    let σ3 := sgu σ 23 m (σ 23 (m + 1) + M * σ 19 m)
    have h32m : σ3 23 m = σ 23 (m + 1) + M * σ 19 m := by
      show upd (σ 23) m _ m = _
      rw [upd_s]
    have h32n : ∀ k, k ≠ m → σ3 23 k = σ 23 k := by
      intro k hk
      show upd (σ 23) m _ k = _
      rw [upd_n hk]
    have f3 : Fr [(23, none)] σ σ3 := Fr.rf.put rfl (Or.inl (by simp))
    have hR : HR F L ok w V m σ3 := by
      refine ⟨by rw [h32n L (by omega)]; exact g2, by rw [h32m, hsum]; omega, fun k k1 k2 => ?_⟩
      by_cases hkm : k = m
      · subst hkm
        rw [h32m, h32n (k + 1) (by omega), hsum]
        refine ⟨g3.1, by omega, by omega, fun q q1 q2 q3 => ?_⟩
        have h5 := e4 q (by omega) q1 q2 q3
        have h6 := ((gs.2.2 k (by omega)).2 q q1).2
        obtain ⟨y0, y1⟩ := hp q q1
        have h7 : w k * (σ 16 (q * 3 + 2)).toInt ≤ 500 * 50 := Int.mul_le_mul w1 y1 y0 (by decide)
        have h8 : 0 ≤ w k * (σ 16 (q * 3 + 2)).toInt := Int.mul_nonneg w0 y0
        rw [i32_mul (by rw [hwm]; omega) (by rw [hwm]; omega), hwm] at h6
        have h9 : w k * (σ 16 (q * 3 + 2)).toInt ≤ w k * M.toInt := Int.mul_le_mul_of_nonneg_left h5 w0
        rw [Int.mul_comm (w k) M.toInt] at h9
        omega
      · obtain ⟨u1, u2⟩ := g4 k (by omega) k2
        rw [h32n k hkm, h32n (k + 1) (by omega)]
        exact ⟨u1, u2⟩
    obtain ⟨σ', f1, f4, f2⟩ := ih j σ3 (by omega) (by omega) (gs.fr (f3.mo (by decide))) hp hR
    refine ⟨σ', ?_, f3.tr f4, f2⟩
    show c_X4_readHopes_17 N _ σ _ = _
    unfold c_X4_readHopes_17
    rw [pk_m1, if_neg (nI_pos (by omega))]
    refine Eq.trans e1 ?_
    unfold c_X4_readHopes_64
    rw [nI_suc, gd_t (vi_nI (by omega) (by decide)), gd_t (vi_nI (by omega) (by decide)), gd_t (vi_nI (by omega) (by decide)), nI_tN (by omega), nI_tN (by omega), lt_e]
    exact f1
theorem hopes_ok {N F L : Nat} (hN : 70000 ≤ N) {ok : Nat → Nat → Bool} {w : Nat → Int} {V : Nat → Nat → Int} (hF : F ≤ 3) (hL : L ≤ 8) (hw : ∀ k, k < L → 0 ≤ w k ∧ w k ≤ 500) {σ : Sg} (gs : GS F L ok w V σ) (hp : ∀ q, q < F → 0 ≤ (σ 16 (q * 3 + 2)).toInt ∧ (σ 16 (q * 3 + 2)).toInt ≤ 50) : ∃ σ', f_X4_readHopes N σ = some σ' ∧ Fr [(23, none)] σ σ' ∧ HS F L ok w V (fun q => (σ 24 q).toInt) (fun k => (σ' 23 k).toInt) := by
  have h7 := gs.2.1
  have f0 : Fr [(23, none)] σ (sgu σ 23 L 0) := Fr.rf.put rfl (Or.inl (by simp))
  have h0 : sgu σ 23 L 0 23 L = 0 := by rw [sgu_s, upd_s]
  obtain ⟨σ', e1, e2, e3⟩ := hopes_loop (N := N) hN hF hL hw L N (sgu σ 23 L 0) (Nat.le_refl _) (by omega) (gs.fr (f0.mo (by decide))) hp ⟨by rw [h0]; rfl, by rw [h0, Nat.sub_self]; decide, fun k h1 h2 => absurd h2 (by omega)⟩
  refine ⟨σ', ?_, f0.tr e2, e3.1, fun k hk => ?_⟩
  · unfold f_X4_readHopes c_X4_readHopes_0
    rw [h7, gd_t (vi_nI (by omega) (by decide)), nI_tN (by omega), lt_e, lt_e, show sgu σ 23 L 0 17 7 = nI L from h7, show nI L - (1:Int32) = nI L + (-1) from Int32.sub_eq_add_neg ..]
    exact e1
  · have h24 : σ' 24 = σ 24 := (f0.tr e2).cell 24 (by decide)
    have := e3.2.2 k (Nat.zero_le _) hk
    rw [h24] at this
    exact this
theorem wants_loop {N : Nat} : ∀ (d q j : Nat) (σ : Sg), q + d = 3 → d < j → σ 15 1 = 3 → σ 15 2 = 3 → ∃ σ', b_X4_settle_7 N j σ (nI q) = c_X4_settle_30 N σ' ∧ Fr [(24, none)] σ σ' ∧ (∀ x, x < q → σ' 24 x = σ 24 x) ∧ ∀ x, q ≤ x → x < 3 → σ' 24 x = σ 16 (x * 3 + 1) := by
  intro d
  induction d with
  | zero =>
    intro q j σ hq hj h1 h2
    obtain ⟨j, rfl⟩ : ∃ z, j = z + 1 := ⟨j - 1, by omega⟩
    refine ⟨σ, ?_, Fr.rf, fun _ _ => rfl, fun x h1 h2 => absurd h2 (by omega)⟩
    show c_X4_settle_7 N _ σ (nI q) = _
    unfold c_X4_settle_7
    rw [if_pos (show (3:Int32) ≤ nI q from nI_le (a := 3) (by omega) (by omega))]
  | succ d ih =>
    intro q j σ hq hj h1 h2
    obtain ⟨j, rfl⟩ : ∃ z, j = z + 1 := ⟨j - 1, by omega⟩
    obtain ⟨σ', e1, e2, e3, e4⟩ := ih (q + 1) j (sgu σ 24 q (σ 16 (q * 3 + 1))) (by omega) (by omega) h1 h2
    refine ⟨σ', ?_, (Fr.rf.put (c := sgu σ 24 q (σ 16 (q * 3 + 1))) rfl (Or.inl (by simp))).tr e2, fun x hx => (e3 x (by omega)).trans (by rw [sgu_s, upd_n (by omega)]), fun x x1 x2 => ?_⟩
    · show c_X4_settle_7 N _ σ (nI q) = _
      unfold c_X4_settle_7
      rw [if_neg (show ¬ (3:Int32) ≤ nI q from nI_ge (b := 3) (by omega) (by omega)), show f_X6_get 15 9 σ (nI q) (1:Int32) = some (σ 16 (q * 3 + 1), σ) from fg_get h1 h2 (i := q) (f := 1) (by omega) rfl rfl (by decide), bd_s, gd_t (vi_nI (by omega) (by decide)), nI_tN (by omega), lt_e, nI_suc]
      exact e1
    · by_cases hx : x = q
      · subst hx
        rw [e3 x (by omega), sgu_s, upd_s]
      · rw [e4 x (by omega) x2]
        rfl
/-- the lots offered -/
def LT (W S G : Nat → Int32) (L i : Nat) (P : Nat → Nat) (σ τ : Sg) : Prop := ∀ k, k < L → P k < i ∧ σ 18 k = nI (P k) ∧ σ 19 k = W (P k) ∧ σ 20 k = 1 <<< (S (P k) &&& 31) ∧ τ 67 k = nI (P k) ∧ G (P k) = -1 ∧ ∀ j, j < k → P j < P k
theorem pigs_loop {N p F : Nat} (hp : p ≤ 60) {E8 C9 W S G : Nat → Int32} (h81 : E8 1 = 60) (h82 : E8 2 = 6) (h83 : E8 3 = nI p) (hC : ∀ i, i < p → C9 (i * 6 + 0) = W i ∧ C9 (i * 6 + 1) = S i ∧ C9 (i * 6 + 5) = G i) : ∀ (d i L j : Nat) (σ τ : Sg) (P : Nat → Nat), i + d = p → d < j → L ≤ 8 → σ 8 = E8 → σ 9 = C9 → σ 17 7 = nI L → τ 36 27 = nI p → τ 36 41 = nI F → τ 51 = G → τ 36 54 = nI L → LT W S G L i P σ τ → ∃ (L' : Nat) (P' : Nat → Nat) (σ' τ' : Sg), b_X4_readPigs_7 N j σ (nI i) = some σ' ∧ b_X8_findSale_9 N j τ (nI ((F + 1) ^ L)) (nI i) = c_X8_findSale_71 N τ' (nI ((F + 1) ^ L')) ∧ L' ≤ 8 ∧ σ' 17 7 = nI L' ∧ τ' 36 54 = nI L' ∧ LT W S G L' p P' σ' τ' ∧ Fr [(36, some 54), (67, none)] τ τ' := by
  intro d
  induction d with
  | zero =>
    intro i L j σ τ P hi hj hL s8 s9 s7 t27 t41 t51 t54 hT
    obtain ⟨j, rfl⟩ : ∃ z, j = z + 1 := ⟨j - 1, by omega⟩
    have : i = p := by omega
    subst this
    refine ⟨L, P, σ, τ, ?_, ?_, hL, s7, t54, hT, Fr.rf⟩
    · show c_X4_readPigs_7 N _ σ (nI i) = _
      unfold c_X4_readPigs_7
      rw [s8, h83, if_pos (nI_le (Nat.le_refl _) (by omega))]
    · show c_X8_findSale_9 N _ τ _ (nI i) = _
      unfold c_X8_findSale_9
      rw [t27, if_pos (nI_le (Nat.le_refl _) (by omega))]
  | succ d ih =>
    intro i L j σ τ P hi hj hL s8 s9 s7 t27 t41 t51 t54 hT
    obtain ⟨j, rfl⟩ : ∃ z, j = z + 1 := ⟨j - 1, by omega⟩
    have hge : ¬ nI p ≤ nI i := nI_ge (by omega) (by omega)
    by_cases hL8 : L = 8
    · subst hL8
      refine ⟨8, P, σ, τ, ?_, ?_, hL, s7, t54, fun k hk => ⟨by have := (hT k hk).1; omega, (hT k hk).2⟩, Fr.rf⟩
      · show c_X4_readPigs_7 N _ σ (nI i) = _
        unfold c_X4_readPigs_7
        rw [s8, h83, if_neg hge, s7, if_pos (by decide)]
      · show c_X8_findSale_9 N _ τ _ (nI i) = _
        unfold c_X8_findSale_9
        rw [t27, if_neg hge, t54, if_pos (by decide)]
    have hge8 : ¬ (8:Int32) ≤ nI L := nI_ge (b := 8) (by omega) (by omega)
    have hvL : vi (nI L) 8 = true := vi_nI (by omega) (by decide)
    have htL : (nI L).toNatClampNeg = L := nI_tN (by omega)
    have hvi : vi (nI i) 60 = true := vi_nI (by omega) (by decide)
    have hti : (nI i).toNatClampNeg = i := nI_tN (by omega)
    obtain ⟨c0, c1, c5⟩ := hC i (by omega)
    have g5 : f_X6_get 8 360 σ (nI i) (5:Int32) = some (G i, σ) := by
      rw [← c5, ← s9]
      exact pg_get (by rw [s8]; exact h81) (by rw [s8]; exact h82) (i := i) (f := 5) (by omega) rfl rfl (by decide)
    have gg : ∀ (s : Sg) (f : Nat) (v : Int32), s 8 = E8 → s 9 = C9 → v = nI f → f < 6 → f_X6_get 8 360 s (nI i) v = some (C9 (i * 6 + f), s) := by
      intro s f v e8 e9 hv hf
      rw [← e9]
      exact pg_get (by rw [e8]; exact h81) (by rw [e8]; exact h82) (i := i) (f := f) (by omega) rfl hv hf
    by_cases hG : G i = -1
    · let σ1 := sgu (sgu (sgu (sgu σ 18 L (nI i)) 19 L (W i)) 20 L (1 <<< (S i &&& 31))) 17 7 (nI (L + 1))
      let τ1 := sgu (sgu τ 67 L (nI i)) 36 54 (nI (L + 1))
      have ft : Fr [(36, some 54), (67, none)] τ τ1 := (Fr.rf.put rfl (Or.inl (by simp))).put rfl (Or.inr (by simp))
      have hT1 : LT W S G (L + 1) (i + 1) (fun k => if k = L then i else P k) σ1 τ1 := by
        intro k hk
        have a18 : σ1 18 k = if k = L then nI i else σ 18 k := rfl
        have a19 : σ1 19 k = if k = L then W i else σ 19 k := rfl
        have a20 : σ1 20 k = if k = L then 1 <<< (S i &&& 31) else σ 20 k := rfl
        have a67 : τ1 67 k = if k = L then nI i else τ 67 k := rfl
        rw [a18, a19, a20, a67]
        by_cases hkL : k = L
        · simp only [if_pos hkL]
          refine ⟨by omega, trivial, trivial, trivial, trivial, hG, fun j hj => ?_⟩
          rw [if_neg (by omega)]
          exact (hT j (by omega)).1
        · simp only [if_neg hkL]
          obtain ⟨z1, z2, z3, z4, z5, z6, z7⟩ := hT k (by omega)
          refine ⟨by omega, z2, z3, z4, z5, z6, fun j hj => ?_⟩
          rw [if_neg (by omega)]
          exact z7 j hj
      obtain ⟨L', P', σ', τ', e1, e2, e3, e4, e5, e6, e7⟩ := ih (i + 1) (L + 1) j σ1 τ1 _ (by omega) (by omega) (by omega) s8 s9 rfl t27 t41 t51 rfl hT1
      refine ⟨L', P', σ', τ', ?_, ?_, e3, e4, e5, e6, ft.tr e7⟩
      · show c_X4_readPigs_7 N _ σ (nI i) = _
        unfold c_X4_readPigs_7
        rw [s8, h83, if_neg hge, s7, if_neg hge8, g5, bd_s, if_pos hG, s7, gd_t hvL, htL, lt_e]
        refine G_bd (r := W i) (σ := sgu σ 18 L (nI i)) (by rw [← c0]; exact gg _ 0 _ s8 s9 rfl (by decide)) ?_
        rw [show sgu σ 18 L (nI i) 17 7 = nI L from s7, gd_t hvL, htL, lt_e]
        refine G_bd (r := S i) (σ := sgu (sgu σ 18 L (nI i)) 19 L (W i)) (by rw [← c1]; exact gg _ 1 _ s8 s9 rfl (by decide)) ?_
        rw [show sgu (sgu σ 18 L (nI i)) 19 L (W i) 17 7 = nI L from s7, gd_t hvL, htL, lt_e]
        rw [show sgu (sgu (sgu σ 18 L (nI i)) 19 L (W i)) 20 L (1 <<< (S i &&& 31)) 17 7 = nI L from s7, nI_suc, lt_e]
        unfold c_X4_readPigs_89
        rw [nI_suc]
        exact e1
      · show c_X8_findSale_9 N _ τ _ (nI i) = _
        unfold c_X8_findSale_9
        rw [t27, if_neg hge, t54, if_neg hge8, gd_t hvi, hti, t51, if_pos hG, gd_t hvL, htL, lt_e, show sgu τ 67 L (nI i) 36 54 = nI L from t54, nI_suc, lt_e, show sgu (sgu τ 67 L (nI i)) 36 54 (nI (L + 1)) 36 41 = nI F from t41, nI_suc, pk_mul, lt_e, ← Nat.pow_succ]
        unfold c_X8_findSale_65
        rw [nI_suc]
        exact e2
    · obtain ⟨L', P', σ', τ', e1, e2, e3, e4, e5, e6, e7⟩ := ih (i + 1) L j σ τ P (by omega) (by omega) hL s8 s9 s7 t27 t41 t51 t54 (fun k hk => ⟨by have := (hT k hk).1; omega, (hT k hk).2⟩)
      refine ⟨L', P', σ', τ', ?_, ?_, e3, e4, e5, e6, e7⟩
      · show c_X4_readPigs_7 N _ σ (nI i) = _
        unfold c_X4_readPigs_7
        rw [s8, h83, if_neg hge, s7, if_neg hge8, g5, bd_s, if_neg hG]
        unfold c_X4_readPigs_89
        rw [nI_suc]
        exact e1
      · show c_X8_findSale_9 N _ τ _ (nI i) = _
        unfold c_X8_findSale_9
        rw [t27, if_neg hge, t54, if_neg hge8, gd_t hvi, hti, t51, if_neg hG]
        unfold c_X8_findSale_65
        rw [nI_suc]
        exact e2
theorem bit_ok : ∀ t, t < 16 → ∀ u, u < 4 → ((nI t &&& ((1:Int32) <<< (nI u &&& 31))) = 0 ↔ ((nI t >>> (nI u &&& 31)) &&& (1:Int32)) = 0) := by decide +kernel
