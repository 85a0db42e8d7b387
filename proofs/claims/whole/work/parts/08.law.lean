theorem rel0 : Rel sg0 sg0 := by
  have a1 : ∀ k, k < 6 → sg0 1 k = sg0 37 k := by decide +kernel
  have a2 : ∀ k, k < 4 → sg0 2 k = sg0 38 k ∧ (10 ≤ (sg0 2 k).toInt ∧ (sg0 2 k).toInt ≤ 60) := by decide +kernel
  have a3 : sg0 3 1 = nI 0 ∧ sg0 4 1 = 400 ∧ sg0 4 2 = 7 ∧ sg0 4 3 = nI 0 ∧ sg0 36 2 = nI 0 ∧ sg0 36 3 = nI 0 := by decide +kernel
  have a4 : (sg0 6 0 = sg0 36 15 ∧ sg0 6 1 = sg0 36 12 ∧ sg0 6 2 = sg0 36 22 ∧ sg0 6 3 = sg0 36 21 ∧ sg0 6 4 = sg0 36 25 ∧ sg0 6 5 = sg0 36 26 ∧ sg0 6 6 = sg0 36 24) ∧ (sg0 7 0 = sg0 36 11 ∧ sg0 7 1 = sg0 36 14 ∧ sg0 7 2 = sg0 36 16 ∧ sg0 7 4 = sg0 36 17 ∧ sg0 7 5 = sg0 36 13 ∧ sg0 7 6 = sg0 36 18 ∧ sg0 7 7 = sg0 36 19 ∧ sg0 7 8 = sg0 36 20 ∧ sg0 7 9 = sg0 36 23) := by decide +kernel
  have a5 : (0 ≤ (sg0 36 11).toInt ∧ (sg0 36 11).toInt ≤ 20) ∧ (0 ≤ (sg0 36 15).toInt ∧ (sg0 36 15).toInt ≤ 500) ∧ (1 ≤ (sg0 36 12).toInt ∧ (sg0 36 12).toInt ≤ 500) ∧ (sg0 36 25 = -1 ↔ sg0 36 24 = -1) ∧ (-1 ≤ (sg0 36 24).toInt ∧ (sg0 36 24).toInt ≤ 3) ∧ (sg0 36 15 ≠ 0 → sg0 36 24 ≠ -1) := by decide +kernel
  have a6 : sg0 8 1 = 60 ∧ sg0 8 2 = 6 ∧ sg0 0 14 = sg0 36 45 ∧ sg0 8 3 = nI 0 ∧ sg0 36 27 = nI 0 ∧ sg0 0 13 = nI 0 := by decide +kernel
  have a7 : ∀ k, k < 3 → sg0 11 k = sg0 52 k ∧ sg0 12 k = sg0 53 k := by decide +kernel
  have a8 : sg0 13 1 = 8 ∧ sg0 13 2 = 4 ∧ sg0 13 3 = nI 0 ∧ sg0 36 36 = nI 0 := by decide +kernel
  have a9 : sg0 15 1 = 3 ∧ sg0 15 2 = 3 ∧ sg0 15 3 = nI 0 ∧ sg0 36 41 = nI 0 := by decide +kernel
  have b1 : sg0 25 1 = 12 ∧ sg0 25 2 = 2 ∧ ∀ i, i < 12 → sg0 26 (i * 2 + 0) = sg0 61 i ∧ sg0 26 (i * 2 + 1) = sg0 62 i ∧ (0 ≤ (sg0 61 i).toInt ∧ (sg0 61 i).toInt ≤ 4) ∧ (0 ≤ (sg0 62 i).toInt ∧ (sg0 62 i).toInt ≤ 1000) := by decide +kernel
  have b2 : sg0 27 1 = 5 ∧ sg0 27 2 = 3 ∧ ∀ i, i < 5 → sg0 28 (i * 3 + 0) = sg0 63 i ∧ sg0 28 (i * 3 + 1) = sg0 64 i ∧ sg0 28 (i * 3 + 2) = sg0 65 i ∧ (0 ≤ (sg0 63 i).toInt ∧ (sg0 63 i).toInt ≤ 1000) ∧ (0 ≤ (sg0 64 i).toInt ∧ (sg0 64 i).toInt ≤ 1000) ∧ (0 ≤ (sg0 65 i).toInt ∧ (sg0 65 i).toInt ≤ 1000) := by decide +kernel
  have b3 : sg0 29 8 = nI 0 ∧ sg0 36 52 = nI 0 := by decide +kernel
  obtain ⟨c1, c2, c3, c4, c5, c6⟩ := a3
  obtain ⟨d1, d2, d3, d4, d5, d6⟩ := a6
  obtain ⟨e1, e2, e3, e4⟩ := a8
  obtain ⟨f1, f2, f3, f4⟩ := a9
  exact ⟨a1, a2, ⟨c2, c3, 0, 0, Nat.le_refl _, by decide, by decide, c1, c4, c5, c6, fun i hi => absurd hi (by omega)⟩, ⟨a4.1, a4.2, a5⟩, ⟨d1, d2, d3, 0, by decide, d4, d5, d6, fun i hi => absurd hi (by omega)⟩, a7, ⟨e1, e2, 0, by decide, e3, e4, fun i hi => absurd hi (by omega)⟩, ⟨f1, f2, 0, by decide, f3, f4, fun i hi => absurd hi (by omega)⟩, b1, b2, ⟨0, by decide, b3.1, b3.2, fun i hi => absurd hi (by omega)⟩⟩
theorem lcmp_self (r : Int64) : lg_cmp r r = 0 := by
  unfold lg_cmp
  rw [if_neg (Int64.lt_irrefl), if_pos rfl]
/-- a step of the law goes on from a related state -/
def LwP (K : Sg → Option (Int32 × Sg)) (o : Option (Int32 × Sg)) : Prop := ∃ s, Rel s s ∧ o = K s
theorem lwp_ite {K : Sg → Option (Int32 × Sg)} {c : Prop} [Decidable c] {x y : Option (Int32 × Sg)} (h1 : c → LwP K x) (h2 : ¬ c → LwP K y) : LwP K (if c then x else y) := by
  by_cases h : c
  · rw [if_pos h]; exact h1 h
  · rw [if_neg h]; exact h2 h
theorem lwp_it {K : Sg → Option (Int32 × Sg)} {c : Prop} [Decidable c] {x y : Option (Int32 × Sg)} (h : c) (h1 : LwP K x) : LwP K (if c then x else y) := by
  rw [if_pos h]; exact h1
theorem lwp_if {K : Sg → Option (Int32 × Sg)} {c : Prop} [Decidable c] {x y : Option (Int32 × Sg)} (h : ¬ c) (h1 : LwP K y) : LwP K (if c then x else y) := by
  rw [if_neg h]; exact h1
theorem lwp_gd {K : Sg → Option (Int32 × Sg)} {b : Bool} {x : Option (Int32 × Sg)} (h : b = true) (h1 : LwP K x) : LwP K (gd b x) := by
  rw [gd_t h]; exact h1
theorem lwp_bd {K : Sg → Option (Int32 × Sg)} {fc : Option (Int32 × Sg)} {f : Int32 → Sg → Option (Int32 × Sg)} {r : Int32} {σ : Sg} (h : fc = some (r, σ)) (k : LwP K (f r σ)) : LwP K (bd fc f) := by
  rw [h]; exact k
theorem lwp_bdl {K : Sg → Option (Int32 × Sg)} {fc : Option (Int64 × Sg)} {f : Int64 → Sg → Option (Int32 × Sg)} {r : Int64} {σ : Sg} (h : fc = some (r, σ)) (k : LwP K (f r σ)) : LwP K (bdl fc f) := by
  rw [h]; exact k
theorem lwp_lt {K : Sg → Option (Int32 × Sg)} {α : Type} {x : α} {f : α → Option (Int32 × Sg)} (k : LwP K (f x)) : LwP K (lt_ x f) := k
theorem law_step {N L i : Nat} {xs : Nat → Int32} {K : Sg → Int32 → Option (Int32 × Sg)} (hN : 70000 ≤ N) (hL : L ≤ 2560) (hi : i + 5 ≤ L) (s : Sg) (R : Rel s s) : LwP (fun s => K s (nI (i + 5))) (c_L_law_18 N L xs K s (nI i)) := by
  have h0 : vi (nI i) L = true := vi_nI (by omega) (by omega)
  have h1 : vi (nI i + (1:Int32)) L = true := by rw [nI_suc]; exact vi_nI (by omega) (by omega)
  have h2 : vi (nI i + (2:Int32)) L = true := by rw [show nI i + (2:Int32) = nI (i + 2) from nI_add i 2]; exact vi_nI (by omega) (by omega)
  have h3 : vi (nI i + (3:Int32)) L = true := by rw [show nI i + (3:Int32) = nI (i + 3) from nI_add i 3]; exact vi_nI (by omega) (by omega)
  have h4 : vi (nI i + (4:Int32)) L = true := by rw [show nI i + (4:Int32) = nI (i + 4) from nI_add i 4]; exact vi_nI (by omega) (by omega)
  have hend : ∀ s2, Rel s2 s2 → LwP (fun s => K s (nI (i + 5))) (c_L_law_910 N L xs K s2 (nI i)) := by
    intro s2 R2
    refine ⟨s2, R2, ?_⟩
    unfold c_L_law_910
    rw [show nI i + (5:Int32) = nI (i + 5) from nI_add i 5]
  have hx : ¬ (Int32.ofNat L - (5:Int32)) < nI i := by
    rw [i32_lt, show (Int32.ofNat L - (5:Int32)).toInt = (L : Int) - 5 from pk_sub_toInt (a := L) (b := 5) (by omega) (by decide), nI_toInt (by omega)]
    omega
  unfold c_L_law_18
  refine lwp_if hx (lwp_gd h0 (lwp_lt ?_))
  refine lwp_ite (fun _ => ?_) (fun _ => ?_)
  · obtain ⟨r, s1, s2, e1, e2, R2⟩ := (st_buy (xs (nI i + (1:Int32)).toNatClampNeg) (xs (nI i + (2:Int32)).toNatClampNeg)).law (fun σ o h => (fr_X7_buy h).hi (by decide)) (fun σ o h => (fr_X8_buy h).lo (by decide)) s R
    exact lwp_gd h1 (lwp_gd h2 ((lwp_bd e1 (lwp_gd h1 (lwp_gd h2 ((lwp_bd e2 (lwp_it rfl (hend _ R2)))))))))
  refine lwp_ite (fun _ => ?_) (fun _ => ?_)
  · obtain ⟨r, s1, s2, e1, e2, R2⟩ := (st_rich (xs (nI i + (1:Int32)).toNatClampNeg) (xs (nI i + (2:Int32)).toNatClampNeg)).law (fun σ o h => (fr_X7_rich h).hi (by decide)) (fun σ o h => (fr_X8_rich h).lo (by decide)) s R
    exact lwp_gd h1 (lwp_gd h2 ((lwp_bd e1 (lwp_gd h1 (lwp_gd h2 ((lwp_bd e2 (lwp_it rfl (hend _ R2)))))))))
  refine lwp_ite (fun _ => ?_) (fun _ => ?_)
  · obtain ⟨r, s1, s2, e1, e2, R2⟩ := (st_charge (xs (nI i + (1:Int32)).toNatClampNeg) (xs (nI i + (2:Int32)).toNatClampNeg) (xs (nI i + (3:Int32)).toNatClampNeg) (xs (nI i + (4:Int32)).toNatClampNeg)).law (fun σ o h => (fr_X7_charge h).hi (by decide)) (fun σ o h => (fr_X8_charge h).lo (by decide)) s R
    exact lwp_gd h1 (lwp_gd h2 (lwp_gd h3 (lwp_gd h4 ((lwp_bd e1 (lwp_gd h1 (lwp_gd h2 (lwp_gd h3 (lwp_gd h4 ((lwp_bd e2 (lwp_it rfl (hend _ R2)))))))))))))
  refine lwp_ite (fun _ => ?_) (fun _ => ?_)
  · obtain ⟨r, s1, s2, e1, e2, R2⟩ := (st_chargeAt (xs (nI i + (1:Int32)).toNatClampNeg) (xs (nI i + (2:Int32)).toNatClampNeg)).law (fun σ o h => (fr_X7_chargeAt h).hi (by decide)) (fun σ o h => (fr_X8_chargeAt h).lo (by decide)) s R
    exact lwp_gd h1 (lwp_gd h2 ((lwp_bd e1 (lwp_gd h1 (lwp_gd h2 ((lwp_bd e2 (lwp_it rfl (hend _ R2)))))))))
  refine lwp_ite (fun _ => ?_) (fun _ => ?_)
  · obtain ⟨r, s1, s2, e1, e2, R2⟩ := (st_when hN (xs (nI i + (1:Int32)).toNatClampNeg)).law (fun σ o h => (fr_X7_when h).hi (by decide)) (fun σ o h => (fr_X8_when h).lo (by decide)) s R
    exact lwp_gd h1 ((lwp_bd e1 (lwp_gd h1 ((lwp_bd e2 (lwp_it rfl (hend _ R2)))))))
  refine lwp_ite (fun _ => ?_) (fun _ => ?_)
  · obtain ⟨r, s1, s2, e1, e2, R2⟩ := (st_blast (xs (nI i + (1:Int32)).toNatClampNeg)).law (fun σ o h => (fr_X7_blast h).hi (by decide)) (fun σ o h => (fr_X8_blast h).lo (by decide)) s R
    exact lwp_gd h1 ((lwp_bd e1 (lwp_gd h1 ((lwp_bd e2 (lwp_it rfl (hend _ R2)))))))
  refine lwp_ite (fun _ => ?_) (fun _ => ?_)
  · obtain ⟨r, s1, s2, e1, e2, R2⟩ := (st_hearth (xs (nI i + (1:Int32)).toNatClampNeg) (xs (nI i + (2:Int32)).toNatClampNeg)).law (fun σ o h => (fr_X7_hearth h).hi (by decide)) (fun σ o h => (fr_X8_hearth h).lo (by decide)) s R
    exact lwp_gd h1 (lwp_gd h2 ((lwp_bd e1 (lwp_gd h1 (lwp_gd h2 ((lwp_bd e2 (lwp_it rfl (hend _ R2)))))))))
  refine lwp_ite (fun _ => ?_) (fun _ => ?_)
  · obtain ⟨r, s1, s2, e1, e2, R2⟩ := (st_tick hN (xs (nI i + (1:Int32)).toNatClampNeg)).law (fun σ o h => (fr_X7_tick h).hi (by decide)) (fun σ o h => (fr_X8_tick h).lo (by decide)) s R
    exact lwp_gd h1 ((lwp_bd e1 (lwp_gd h1 ((lwp_bd e2 (lwp_it rfl (hend _ R2)))))))
  refine lwp_ite (fun _ => ?_) (fun _ => ?_)
  · obtain ⟨r, s1, s2, e1, e2, R2⟩ := (st_tap).law (fun σ o h => (fr_X7_tap h).hi (by decide)) (fun σ o h => (fr_X8_tap h).lo (by decide)) s R
    exact (lwp_bd e1 ((lwp_bd e2 (lwp_it rfl (hend _ R2)))))
  refine lwp_ite (fun _ => ?_) (fun _ => ?_)
  · obtain ⟨r, s1, s2, e1, e2, R2⟩ := (st_about (xs (nI i + (1:Int32)).toNatClampNeg)).law (fun σ o h => (fr_X7_about h).hi (by decide)) (fun σ o h => (fr_X8_about h).lo (by decide)) s R
    exact lwp_gd h1 ((lwp_bd e1 (lwp_gd h1 ((lwp_bd e2 (lwp_it rfl (hend _ R2)))))))
  refine lwp_ite (fun _ => ?_) (fun _ => ?_)
  · obtain ⟨r, s1, s2, e1, e2, R2⟩ := (st_store (xs (nI i + (1:Int32)).toNatClampNeg)).law (fun σ o h => (fr_X7_store h).hi (by decide)) (fun σ o h => (fr_X8_store h).lo (by decide)) s R
    exact lwp_gd h1 ((lwp_bd e1 (lwp_gd h1 ((lwp_bd e2 (lwp_it rfl (hend _ R2)))))))
  refine lwp_ite (fun _ => ?_) (fun _ => ?_)
  · obtain ⟨r, s1, s2, e1, e2, R2⟩ := (st_pig (xs (nI i + (1:Int32)).toNatClampNeg) (xs (nI i + (2:Int32)).toNatClampNeg)).law (fun σ o h => (fr_X7_pig h).hi (by decide)) (fun σ o h => (fr_X8_pig h).lo (by decide)) s R
    exact lwp_gd h1 (lwp_gd h2 ((lwp_bd e1 (lwp_gd h1 (lwp_gd h2 ((lwp_bd e2 (lwp_it rfl (hend _ R2)))))))))
  refine lwp_ite (fun _ => ?_) (fun _ => ?_)
  · obtain ⟨r, s1, s2, e1, e2, R2⟩ := (st_sign (xs (nI i + (1:Int32)).toNatClampNeg)).law (fun σ o h => (fr_X7_sign h).hi (by decide)) (fun σ o h => (fr_X8_sign h).lo (by decide)) s R
    exact lwp_gd h1 ((lwp_bd e1 (lwp_gd h1 ((lwp_bd e2 (lwp_it rfl (hend _ R2)))))))
  refine lwp_ite (fun _ => ?_) (fun _ => ?_)
  · obtain ⟨r, s1, s2, e1, e2, R2⟩ := (st_lose (xs (nI i + (1:Int32)).toNatClampNeg) (xs (nI i + (2:Int32)).toNatClampNeg)).law (fun σ o h => (fr_X7_lose h).hi (by decide)) (fun σ o h => (fr_X8_lose h).lo (by decide)) s R
    exact lwp_gd h1 (lwp_gd h2 ((lwp_bd e1 (lwp_gd h1 (lwp_gd h2 ((lwp_bd e2 (lwp_it rfl (hend _ R2)))))))))
  refine lwp_ite (fun _ => ?_) (fun _ => ?_)
  · refine lwp_gd h1 (lwp_gd h2 ?_)
    by_cases z : xs (nI i + (2:Int32)).toNatClampNeg = 0
    · obtain ⟨r, s1, s2, e1, e2, R2⟩ := (st_rule (xs (nI i + (1:Int32)).toNatClampNeg) (0:Int32) (xs (nI i + (3:Int32)).toNatClampNeg) (xs (nI i + (4:Int32)).toNatClampNeg) (Or.inl rfl)).law (fun σ o h => (fr_X7_rule h).hi (by decide)) (fun σ o h => (fr_X8_rule h).lo (by decide)) s R
      refine lwp_it z ?_
      unfold c_L_law_569
      refine lwp_gd h3 (lwp_gd h4 (lwp_bd e1 (lwp_gd h1 (lwp_gd h2 (lwp_it z ?_)))))
      unfold c_L_law_601
      exact lwp_gd h3 (lwp_gd h4 (lwp_bd e2 (lwp_it rfl (hend _ R2))))
    · obtain ⟨r, s1, s2, e1, e2, R2⟩ := (st_rule (xs (nI i + (1:Int32)).toNatClampNeg) (1:Int32) (xs (nI i + (3:Int32)).toNatClampNeg) (xs (nI i + (4:Int32)).toNatClampNeg) (Or.inr rfl)).law (fun σ o h => (fr_X7_rule h).hi (by decide)) (fun σ o h => (fr_X8_rule h).lo (by decide)) s R
      refine lwp_if z ?_
      unfold c_L_law_569
      refine lwp_gd h3 (lwp_gd h4 (lwp_bd e1 (lwp_gd h1 (lwp_gd h2 (lwp_if z ?_)))))
      unfold c_L_law_601
      exact lwp_gd h3 (lwp_gd h4 (lwp_bd e2 (lwp_it rfl (hend _ R2))))
  refine lwp_ite (fun _ => ?_) (fun _ => ?_)
  · obtain ⟨r, s1, s2, e1, e2, R2⟩ := (st_unrule).law (fun σ o h => (fr_X7_unrule h).hi (by decide)) (fun σ o h => (fr_X8_unrule h).lo (by decide)) s R
    exact (lwp_bd e1 ((lwp_bd e2 (lwp_it rfl (hend _ R2)))))
  refine lwp_ite (fun _ => ?_) (fun _ => ?_)
  · obtain ⟨r, s1, s2, e1, e2, R2⟩ := (st_forge (xs (nI i + (1:Int32)).toNatClampNeg) (xs (nI i + (2:Int32)).toNatClampNeg) (xs (nI i + (3:Int32)).toNatClampNeg)).law (fun σ o h => (fr_X7_forge h).hi (by decide)) (fun σ o h => (fr_X8_forge h).lo (by decide)) s R
    exact lwp_gd h1 (lwp_gd h2 (lwp_gd h3 ((lwp_bd e1 (lwp_gd h1 (lwp_gd h2 (lwp_gd h3 ((lwp_bd e2 (lwp_it rfl (hend _ R2)))))))))))
  refine lwp_ite (fun _ => ?_) (fun _ => ?_)
  · obtain ⟨r, s1, s2, e1, e2, R2⟩ := (st_sale hN).law (fun σ o h => (fr_X7_sale h).hi (by decide)) (fun σ o h => (fr_X8_sale h).lo (by decide)) s R
    exact (lwp_bd e1 ((lwp_bd e2 (lwp_it rfl (hend _ R2)))))
  refine lwp_ite (fun _ => ?_) (fun _ => ?_)
  · obtain ⟨r, s1, s2, e1, e2, R2⟩ := (st_sell hN).law (fun σ o h => (fr_X7_sell h).hi (by decide)) (fun σ o h => (fr_X8_sell h).lo (by decide)) s R
    exact (lwp_bd e1 ((lwp_bd e2 (lwp_it rfl (hend _ R2)))))
  refine lwp_ite (fun _ => ?_) (fun _ => ?_)
  · obtain ⟨r, s1, s2, e1, e2, R2⟩ := (st_month (xs (nI i + (1:Int32)).toNatClampNeg) (xs (nI i + (2:Int32)).toNatClampNeg) (xs (nI i + (3:Int32)).toNatClampNeg)).law (fun σ o h => (fr_X7_month h).hi (by decide)) (fun σ o h => (fr_X8_month h).lo (by decide)) s R
    exact lwp_gd h1 (lwp_gd h2 (lwp_gd h3 ((lwp_bd e1 (lwp_gd h1 (lwp_gd h2 (lwp_gd h3 ((lwp_bd e2 (lwp_it rfl (hend _ R2)))))))))))
  refine lwp_ite (fun _ => ?_) (fun _ => ?_)
  · obtain ⟨r, s1, s2, e1, e2, R2⟩ := (st_pace (xs (nI i + (1:Int32)).toNatClampNeg) (xs (nI i + (2:Int32)).toNatClampNeg) (xs (nI i + (3:Int32)).toNatClampNeg) (xs (nI i + (4:Int32)).toNatClampNeg)).law (fun σ o h => (fr_X7_pace h).hi (by decide)) (fun σ o h => (fr_X8_pace h).lo (by decide)) s R
    exact lwp_gd h1 (lwp_gd h2 (lwp_gd h3 (lwp_gd h4 ((lwp_bd e1 (lwp_gd h1 (lwp_gd h2 (lwp_gd h3 (lwp_gd h4 ((lwp_bd e2 (lwp_it rfl (hend _ R2)))))))))))))
  refine lwp_ite (fun _ => ?_) (fun _ => ?_)
  · obtain ⟨r, s1, s2, e1, e2, R2⟩ := (st_plan hN (xs (nI i + (1:Int32)).toNatClampNeg) (xs (nI i + (2:Int32)).toNatClampNeg) (xs (nI i + (3:Int32)).toNatClampNeg) (xs (nI i + (4:Int32)).toNatClampNeg)).law (fun σ o h => (fr_X7_plan h).hi (by decide)) (fun σ o h => (fr_X8_plan h).lo (by decide)) s R
    exact lwp_gd h1 (lwp_gd h2 (lwp_gd h3 (lwp_gd h4 ((lwp_bd e1 (lwp_gd h1 (lwp_gd h2 (lwp_gd h3 (lwp_gd h4 ((lwp_bd e2 (lwp_it rfl (hend _ R2)))))))))))))
  refine lwp_ite (fun _ => ?_) (fun _ => ?_)
  · obtain ⟨r, s1, s2, e1, e2, R2⟩ := (st_paceAt (xs (nI i + (1:Int32)).toNatClampNeg)).law (fun σ o h => (fr_X7_paceAt h).hi (by decide)) (fun σ o h => (fr_X8_paceAt h).lo (by decide)) s R
    exact lwp_gd h1 ((lwp_bd e1 (lwp_gd h1 ((lwp_bd e2 (lwp_it rfl (hend _ R2)))))))
  refine lwp_ite (fun _ => ?_) (fun _ => ?_)
  · obtain ⟨r, s1, s2, e1, e2, R2⟩ := (st_count hN (xs (nI i + (1:Int32)).toNatClampNeg)).law (fun σ o h => (fr_X7_count h).hi (by decide)) (fun σ o h => (fr_X8_count h).lo (by decide)) s R
    exact lwp_gd h1 ((lwp_bd e1 (lwp_gd h1 ((lwp_bd e2 (lwp_it rfl (hend _ R2)))))))
  refine lwp_ite (fun _ => ?_) (fun _ => ?_)
  · obtain ⟨r, s1, s2, e1, e2, R2⟩ := (st_digest (N := N) hN).law (fun σ o h => (fr_X7_digest h).hi (by decide)) (fun σ o h => (fr_X8_digest h).lo (by decide)) s R
    exact (lwp_bdl e1 ((lwp_bdl e2 (lwp_it (lcmp_self r) (hend _ R2)))))
  exact hend _ R
theorem law_loop {L : Nat} {xs : Nat → Int32} (hL : L ≤ 2560) : ∀ (j i : Nat) (s : Sg), L + 1 ≤ i + j → 1 ≤ j → i ≤ L → Rel s s → ∃ o : Int32 × Sg, b_L_law_18 NF L xs j s (nI i) = some o ∧ o.1 = 1 := by
  intro j
  induction j with
  | zero => intro i s _ h; exact absurd h (by decide)
  | succ j ih =>
    intro i s hij _ hi R
    by_cases h5 : i + 5 ≤ L
    · obtain ⟨s2, R2, e⟩ := law_step (N := NF) (xs := xs) (K := b_L_law_18 NF L xs j) (by decide) hL h5 s R
      obtain ⟨o, e1, e2⟩ := ih (i + 5) s2 (by omega) (by omega) (by omega) R2
      exact ⟨o, e.trans e1, e2⟩
    · refine ⟨(1, s), ?_, rfl⟩
      show c_L_law_18 NF L xs _ s (nI i) = _
      unfold c_L_law_18
      rw [if_pos (by rw [i32_lt, show (Int32.ofNat L - (5:Int32)).toInt = (L : Int) - 5 from pk_sub_toInt (a := L) (b := 5) (by omega) (by decide), nI_toInt (by omega)]; omega), gd_t bz_1]
theorem law_pure (L : Nat) (xs : Nat → Int32) (hL : L ≤ 2560) : ∃ o : Int32 × Sg, b_L_law_18 NF L xs NF sg0 (0:Int32) = some o ∧ o.1 = 1 := law_loop hL NF 0 sg0 (by show L + 1 ≤ 0 + 100000; omega) (by decide) (Nat.zero_le _) rel0
