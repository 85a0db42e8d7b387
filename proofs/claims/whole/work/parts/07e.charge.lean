def row3 (f : Nat → Int32) (c : Nat) (a0 a1 a2 : Int32) : Nat → Int32 := upd (upd (upd f (c * 3 + 0) a0) (c * 3 + 1) a1) (c * 3 + 2) a2
theorem row3_n {f : Nat → Int32} {c j b : Nat} {a0 a1 a2 : Int32} (h : j ≠ c) (hb : b < 3) : row3 f c a0 a1 a2 (j * 3 + b) = f (j * 3 + b) := by
  unfold row3
  rw [tu_n h, tu_n h, tu_n h] <;> first | exact hb | decide
theorem row3_0 {f : Nat → Int32} {c : Nat} {a0 a1 a2 : Int32} : row3 f c a0 a1 a2 (c * 3 + 0) = a0 := by
  unfold row3
  rw [tu_d, tu_d, upd_s] <;> decide
theorem row3_1 {f : Nat → Int32} {c : Nat} {a0 a1 a2 : Int32} : row3 f c a0 a1 a2 (c * 3 + 1) = a1 := by
  unfold row3
  rw [tu_d, upd_s] <;> decide
theorem row3_2 {f : Nat → Int32} {c : Nat} {a0 a1 a2 : Int32} : row3 f c a0 a1 a2 (c * 3 + 2) = a2 := by
  unfold row3
  rw [upd_s]
def row4 (f : Nat → Int32) (c : Nat) (a0 a1 a2 a3 : Int32) : Nat → Int32 := upd (upd (upd (upd f (c * 4 + 0) a0) (c * 4 + 1) a1) (c * 4 + 2) a2) (c * 4 + 3) a3
theorem row4_n {f : Nat → Int32} {c j b : Nat} {a0 a1 a2 a3 : Int32} (h : j ≠ c) (hb : b < 4) : row4 f c a0 a1 a2 a3 (j * 4 + b) = f (j * 4 + b) := by
  unfold row4
  rw [tu_n h, tu_n h, tu_n h, tu_n h] <;> first | exact hb | decide
theorem row4_0 {f : Nat → Int32} {c : Nat} {a0 a1 a2 a3 : Int32} : row4 f c a0 a1 a2 a3 (c * 4 + 0) = a0 := by
  unfold row4
  rw [tu_d, tu_d, tu_d, upd_s] <;> decide
theorem row4_1 {f : Nat → Int32} {c : Nat} {a0 a1 a2 a3 : Int32} : row4 f c a0 a1 a2 a3 (c * 4 + 1) = a1 := by
  unfold row4
  rw [tu_d, tu_d, upd_s] <;> decide
theorem row4_2 {f : Nat → Int32} {c : Nat} {a0 a1 a2 a3 : Int32} : row4 f c a0 a1 a2 a3 (c * 4 + 2) = a2 := by
  unfold row4
  rw [tu_d, upd_s] <;> decide
theorem row4_3 {f : Nat → Int32} {c : Nat} {a0 a1 a2 a3 : Int32} : row4 f c a0 a1 a2 a3 (c * 4 + 3) = a3 := by
  unfold row4
  rw [upd_s]
def row6 (f : Nat → Int32) (c : Nat) (a0 a1 a2 a3 a4 a5 : Int32) : Nat → Int32 := upd (upd (upd (upd (upd (upd f (c * 6 + 0) a0) (c * 6 + 1) a1) (c * 6 + 2) a2) (c * 6 + 3) a3) (c * 6 + 4) a4) (c * 6 + 5) a5
theorem row6_n {f : Nat → Int32} {c j b : Nat} {a0 a1 a2 a3 a4 a5 : Int32} (h : j ≠ c) (hb : b < 6) : row6 f c a0 a1 a2 a3 a4 a5 (j * 6 + b) = f (j * 6 + b) := by
  unfold row6
  rw [tu_n h, tu_n h, tu_n h, tu_n h, tu_n h, tu_n h] <;> first | exact hb | decide
theorem row6_0 {f : Nat → Int32} {c : Nat} {a0 a1 a2 a3 a4 a5 : Int32} : row6 f c a0 a1 a2 a3 a4 a5 (c * 6 + 0) = a0 := by
  unfold row6
  rw [tu_d, tu_d, tu_d, tu_d, tu_d, upd_s] <;> decide
theorem row6_1 {f : Nat → Int32} {c : Nat} {a0 a1 a2 a3 a4 a5 : Int32} : row6 f c a0 a1 a2 a3 a4 a5 (c * 6 + 1) = a1 := by
  unfold row6
  rw [tu_d, tu_d, tu_d, tu_d, upd_s] <;> decide
theorem row6_2 {f : Nat → Int32} {c : Nat} {a0 a1 a2 a3 a4 a5 : Int32} : row6 f c a0 a1 a2 a3 a4 a5 (c * 6 + 2) = a2 := by
  unfold row6
  rw [tu_d, tu_d, tu_d, upd_s] <;> decide
theorem row6_3 {f : Nat → Int32} {c : Nat} {a0 a1 a2 a3 a4 a5 : Int32} : row6 f c a0 a1 a2 a3 a4 a5 (c * 6 + 3) = a3 := by
  unfold row6
  rw [tu_d, tu_d, upd_s] <;> decide
theorem row6_4 {f : Nat → Int32} {c : Nat} {a0 a1 a2 a3 a4 a5 : Int32} : row6 f c a0 a1 a2 a3 a4 a5 (c * 6 + 4) = a4 := by
  unfold row6
  rw [tu_d, upd_s] <;> decide
theorem row6_5 {f : Nat → Int32} {c : Nat} {a0 a1 a2 a3 a4 a5 : Int32} : row6 f c a0 a1 a2 a3 a4 a5 (c * 6 + 5) = a5 := by
  unfold row6
  rw [upd_s]
def row7 (f : Nat → Int32) (c : Nat) (a0 a1 a2 a3 a4 a5 a6 : Int32) : Nat → Int32 := upd (upd (upd (upd (upd (upd (upd f (c * 7 + 0) a0) (c * 7 + 1) a1) (c * 7 + 2) a2) (c * 7 + 3) a3) (c * 7 + 4) a4) (c * 7 + 5) a5) (c * 7 + 6) a6
theorem row7_n {f : Nat → Int32} {c j b : Nat} {a0 a1 a2 a3 a4 a5 a6 : Int32} (h : j ≠ c) (hb : b < 7) : row7 f c a0 a1 a2 a3 a4 a5 a6 (j * 7 + b) = f (j * 7 + b) := by
  unfold row7
  rw [tu_n h, tu_n h, tu_n h, tu_n h, tu_n h, tu_n h, tu_n h] <;> first | exact hb | decide
theorem row7_0 {f : Nat → Int32} {c : Nat} {a0 a1 a2 a3 a4 a5 a6 : Int32} : row7 f c a0 a1 a2 a3 a4 a5 a6 (c * 7 + 0) = a0 := by
  unfold row7
  rw [tu_d, tu_d, tu_d, tu_d, tu_d, tu_d, upd_s] <;> decide
theorem row7_1 {f : Nat → Int32} {c : Nat} {a0 a1 a2 a3 a4 a5 a6 : Int32} : row7 f c a0 a1 a2 a3 a4 a5 a6 (c * 7 + 1) = a1 := by
  unfold row7
  rw [tu_d, tu_d, tu_d, tu_d, tu_d, upd_s] <;> decide
theorem row7_2 {f : Nat → Int32} {c : Nat} {a0 a1 a2 a3 a4 a5 a6 : Int32} : row7 f c a0 a1 a2 a3 a4 a5 a6 (c * 7 + 2) = a2 := by
  unfold row7
  rw [tu_d, tu_d, tu_d, tu_d, upd_s] <;> decide
theorem row7_3 {f : Nat → Int32} {c : Nat} {a0 a1 a2 a3 a4 a5 a6 : Int32} : row7 f c a0 a1 a2 a3 a4 a5 a6 (c * 7 + 3) = a3 := by
  unfold row7
  rw [tu_d, tu_d, tu_d, upd_s] <;> decide
theorem row7_4 {f : Nat → Int32} {c : Nat} {a0 a1 a2 a3 a4 a5 a6 : Int32} : row7 f c a0 a1 a2 a3 a4 a5 a6 (c * 7 + 4) = a4 := by
  unfold row7
  rw [tu_d, tu_d, upd_s] <;> decide
theorem row7_5 {f : Nat → Int32} {c : Nat} {a0 a1 a2 a3 a4 a5 a6 : Int32} : row7 f c a0 a1 a2 a3 a4 a5 a6 (c * 7 + 5) = a5 := by
  unfold row7
  rw [tu_d, upd_s] <;> decide
theorem row7_6 {f : Nat → Int32} {c : Nat} {a0 a1 a2 a3 a4 a5 a6 : Int32} : row7 f c a0 a1 a2 a3 a4 a5 a6 (c * 7 + 6) = a6 := by
  unfold row7
  rw [upd_s]
theorem lay_ok {σ : Sg} {c : Nat} {v1 v2 v3 v4 : Int32} (h1 : σ 4 1 = 400) (h2 : σ 4 2 = 7) (h3 : σ 4 3 = nI c) (hc : c < 400) : f_X0_lay σ v1 v2 v3 v4 = some (nI c, (sgu (sgu (sgu (sgu (sgu (sgu (sgu (sgu σ 4 3 (nI (c + 1))) 5 (c * 7 + 0) 0) 5 (c * 7 + 1) v1) 5 (c * 7 + 2) v3) 5 (c * 7 + 3) v4) 5 (c * 7 + 4) v2) 5 (c * 7 + 5) (-1)) 5 (c * 7 + 6) 0)) := by
  unfold f_X0_lay c_X0_lay_0
  refine G_bd (add_ok (M := 400) h1 h3 hc (by decide)) ?_
  refine G_bdv (ch_set h1 h2 hc rfl rfl (by decide)) ?_
  refine G_bdv (ch_set h1 h2 hc rfl rfl (by decide)) ?_
  refine G_bdv (ch_set h1 h2 hc rfl rfl (by decide)) ?_
  refine G_bdv (ch_set h1 h2 hc rfl rfl (by decide)) ?_
  refine G_bdv (ch_set h1 h2 hc rfl rfl (by decide)) ?_
  refine G_bdv (ch_set h1 h2 hc rfl rfl (by decide)) ?_
  refine G_bdv (ch_set h1 h2 hc rfl rfl (by decide)) ?_
  rfl
def c_mcharge (s : Sg) (k : Nat) (v1 v3 v4 : Int32) : Option (Int32 × Sg) :=
gd (vi ((0:Int32)) 6) (gd (vi ((0:Int32)) 6) (lt_ (sgu s 37 ((0:Int32)).toNatClampNeg ((s 37 ((0:Int32)).toNatClampNeg) - v1)) (fun s9 => gd (vi ((1:Int32)) 6) (gd (vi ((1:Int32)) 6) (lt_ (sgu s9 37 ((1:Int32)).toNatClampNeg ((s9 37 ((1:Int32)).toNatClampNeg) - v4)) (fun s10 => gd (vi (nI (2 + k)) 6) (gd (vi (nI (2 + k)) 6) (lt_ (sgu s10 37 (nI (2 + k)).toNatClampNeg ((s10 37 (nI (2 + k)).toNatClampNeg) - v3)) (fun s11 => gd (vi (s11 36 2) 400) (lt_ (sgu s11 39 (s11 36 2).toNatClampNeg ((0:Int32))) (fun s12 => gd (vi (s12 36 2) 400) (lt_ (sgu s12 40 (s12 36 2).toNatClampNeg v1) (fun s13 => gd (vi (s13 36 2) 400) (lt_ (sgu s13 41 (s13 36 2).toNatClampNeg v3) (fun s14 => gd (vi (s14 36 2) 400) (lt_ (sgu s14 42 (s14 36 2).toNatClampNeg v4) (fun s15 => gd (vi (s15 36 2) 400) (lt_ (sgu s15 43 (s15 36 2).toNatClampNeg (nI k)) (fun s16 => gd (vi (s16 36 2) 400) (lt_ (sgu s16 44 (s16 36 2).toNatClampNeg ((-1:Int32))) (fun s17 => gd (vi (s17 36 2) 400) (lt_ (sgu s17 45 (s17 36 2).toNatClampNeg ((0:Int32))) (fun s18 => lt_ (sgu s18 36 2 ((s18 36 2) + ((1:Int32)))) (fun s19 => some ((s19 36 2) - ((1:Int32)), s19)))))))))))))))))))))))))
theorem st_charge (v1 v2 v3 v4 : Int32) : StI (fun σ => f_X7_charge σ v1 v2 v3 v4) (fun σ => f_X8_charge σ v1 v2 v3 v4) := by
  intro σ τ R
  obtain ⟨r1, r2, r3, r4, r5, r6, r7, r8, r9, r10, r11⟩ := id R
  obtain ⟨q1, q2, c, lo, hlo, hc, hcl, d1, d2, d3, d4, hi⟩ := id r3
  by_cases h1 : wi v1 1 60
  case neg => exact ⟨-2, σ, τ, by simp [f_X7_charge, c_X7_charge_0, wx_f _ h1, bd_s], by simp [f_X8_charge, c_X8_charge_0, wm_f _ h1, bd_s], R⟩
  by_cases h2 : wi v2 0 3
  case neg => exact ⟨-2, σ, τ, by simp [f_X7_charge, c_X7_charge_0, wx_t _ h1, wx_f _ h2, bd_s], by simp [f_X8_charge, c_X8_charge_0, wm_t _ h1, wm_f _ h2, bd_s], R⟩
  by_cases h3 : wi v3 0 60
  case neg => exact ⟨-2, σ, τ, by simp [f_X7_charge, c_X7_charge_0, wx_t _ h1, wx_t _ h2, wx_f _ h3, bd_s], by simp [f_X8_charge, c_X8_charge_0, wm_t _ h1, wm_t _ h2, wm_f _ h3, bd_s], R⟩
  by_cases h4 : wi v4 0 30
  case neg => exact ⟨-2, σ, τ, by simp [f_X7_charge, c_X7_charge_0, wx_t _ h1, wx_t _ h2, wx_t _ h3, wx_f _ h4, bd_s], by simp [f_X8_charge, c_X8_charge_0, wm_t _ h1, wm_t _ h2, wm_t _ h3, wm_f _ h4, bd_s], R⟩
  obtain ⟨k, hk, rfl, -⟩ := wi_nat (n := 4) h2 (by decide)
  have hk2 : (2 : Int32) + nI k = nI (2 + k) := by show nI 2 + nI k = _; rw [nI_add]
  have hv0 : vi (0 : Int32) 6 = true := by decide
  have hv1 : vi (1 : Int32) 6 = true := by decide
  have hv2 : vi (nI (2 + k)) 6 = true := vi_nI (by omega) (by decide)
  have ht0 : (0 : Int32).toNatClampNeg = 0 := by decide
  have ht1 : (1 : Int32).toNatClampNeg = 1 := by decide
  have ht2 : (nI (2 + k)).toNatClampNeg = 2 + k := nI_tN (by omega)
  have e0 := r1 0 (by decide)
  have e1 := r1 1 (by decide)
  have e2 := r1 (2 + k) (by omega)
  by_cases g1 : σ 1 0 < v1
  · have g1' : τ 37 0 < v1 := by rw [← e0]; exact g1
    exact ⟨-3, σ, τ, by simp [f_X7_charge, c_X7_charge_0, wx_t _ h1, wx_t _ h2, wx_t _ h3, wx_t _ h4, bd_s, lt_e, gd_t hv0, ht0, g1], by simp [f_X8_charge, c_X8_charge_0, wm_t _ h1, wm_t _ h2, wm_t _ h3, wm_t _ h4, bd_s, gd_t hv0, ht0, g1'], R⟩
  have g1' : ¬ τ 37 0 < v1 := by rw [← e0]; exact g1
  by_cases g2 : σ 1 (2 + k) < v3
  · have g2' : ¬ v3 ≤ τ 37 (2 + k) := by rw [← e2]; rw [i32_lt] at g2; rw [i32_le]; omega
    refine ⟨-3, σ, τ, by simp [f_X7_charge, c_X7_charge_0, wx_t _ h1, wx_t _ h2, wx_t _ h3, wx_t _ h4, bd_s, lt_e, gd_t hv0, ht0, g1, hk2, gd_t hv2, ht2, g2], ?_, R⟩
    show f_X8_charge τ v1 (nI k) v3 v4 = _
    unfold f_X8_charge c_X8_charge_0
    rw [wm_t _ h1, bd_s, if_neg (by decide), wm_t _ h2, bd_s, if_neg (by decide), wm_t _ h3, bd_s, if_neg (by decide), wm_t _ h4, bd_s, if_neg (by decide), gd_t hv0, ht0, if_neg g1', gd_t hv1, ht1]
    by_cases g3 : τ 37 1 < v4
    · rw [if_pos g3]
    · rw [if_neg g3, hk2, gd_t hv2, ht2, if_neg g2']
  have g2' : v3 ≤ τ 37 (2 + k) := by rw [← e2]; rw [i32_lt] at g2; rw [i32_le]; omega
  by_cases g3 : v4 ≤ σ 1 1
  case neg =>
    have g3' : τ 37 1 < v4 := by rw [← e1]; rw [i32_le] at g3; rw [i32_lt]; omega
    exact ⟨-3, σ, τ, by simp [f_X7_charge, c_X7_charge_0, wx_t _ h1, wx_t _ h2, wx_t _ h3, wx_t _ h4, bd_s, lt_e, gd_t hv0, ht0, g1, hk2, gd_t hv2, ht2, g2, gd_t hv1, ht1, g3], by simp [f_X8_charge, c_X8_charge_0, wm_t _ h1, wm_t _ h2, wm_t _ h3, wm_t _ h4, bd_s, gd_t hv0, ht0, g1', gd_t hv1, ht1, g3'], R⟩
  have g3' : ¬ τ 37 1 < v4 := by rw [← e1]; rw [i32_le] at g3; rw [i32_lt]; omega
  have hsz : f_X0_size σ = some (nI (c - lo), σ) := by
    unfold f_X0_size c_X0_size_0
    rw [d1, d2, pk_sub hlo]
  have hx0 : f_X7_charge σ v1 (nI k) v3 v4 = bd (f_X0_size σ) (fun r11 s10 => if (12:Int32) ≤ r11 then some ((-4:Int32), s10) else bd (f_X6_isFull 4 2800 s10) (fun r13 s12 => if r13 = 0 then gd (vi (0:Int32) 6) (gd (vi (0:Int32) 6) (lt_ (sgu s12 1 (0:Int32).toNatClampNeg ((s12 1 (0:Int32).toNatClampNeg) - v1)) (fun s14 => gd (vi (nI (2 + k)) 6) (gd (vi (nI (2 + k)) 6) (lt_ (sgu s14 1 (nI (2 + k)).toNatClampNeg ((s14 1 (nI (2 + k)).toNatClampNeg) - v3)) (fun s15 => gd (vi (1:Int32) 6) (gd (vi (1:Int32) 6) (lt_ (sgu s15 1 (1:Int32).toNatClampNeg ((s15 1 (1:Int32).toNatClampNeg) - v4)) (fun s16 => bd (f_X0_lay s16 v1 (nI k) v3 v4) (fun r18 s17 => some (r18, s17))))))))))) else some ((-4:Int32), s12))) := by
    unfold f_X7_charge c_X7_charge_0
    rw [wx_t _ h1, bd_s, if_neg (by decide), wx_t _ h2, bd_s, if_neg (by decide), wx_t _ h3, bd_s, if_neg (by decide), wx_t _ h4, bd_s, if_neg (by decide), lt_e, hk2, gd_t hv0, ht0, if_neg g1, gd_t hv2, ht2, if_neg g2, gd_t hv1, ht1, if_pos g3]
  have hcl2 : (nI c - nI lo : Int32) = nI (c - lo) := pk_sub hlo
  have hm0 : f_X8_charge τ v1 (nI k) v3 v4 = if ((τ 36 2) - (τ 36 3)) = (12:Int32) then some ((-4:Int32), τ) else if (τ 36 2) = (400:Int32) then some ((-4:Int32), τ) else c_mcharge τ k v1 v3 v4 := by
    unfold f_X8_charge c_X8_charge_0 c_mcharge
    rw [wm_t _ h1, bd_s, if_neg (by decide), wm_t _ h2, bd_s, if_neg (by decide), wm_t _ h3, bd_s, if_neg (by decide), wm_t _ h4, bd_s, if_neg (by decide), gd_t hv0, ht0, if_neg g1', gd_t hv1, ht1, if_neg g3', hk2, gd_t hv2, ht2, if_pos g2']
  by_cases g4 : 12 ≤ c - lo
  · refine ⟨-4, σ, τ, ?_, ?_, R⟩
    · show f_X7_charge σ v1 (nI k) v3 v4 = _
      rw [hx0, hsz, bd_s, if_pos (show (12:Int32) ≤ nI (c - lo) from nI_le (a := 12) g4 (by omega))]
    · show f_X8_charge τ v1 (nI k) v3 v4 = _
      rw [hm0, d3, d4, hcl2, if_pos (show nI (c - lo) = (12:Int32) from by rw [show c - lo = 12 by omega]; rfl)]
  have n4 : ¬ (12 : Int32) ≤ nI (c - lo) := nI_ge (a := c - lo) (b := 12) (by omega) (by decide)
  have n5 : ¬ nI (c - lo) = (12 : Int32) := fun z => g4 (by have := (nI_eq (a := c - lo) (b := 12) (by omega) (by decide)).mp z; omega)
  by_cases g5 : c = 400
  · refine ⟨-4, σ, τ, ?_, ?_, R⟩
    · show f_X7_charge σ v1 (nI k) v3 v4 = _
      rw [hx0, hsz, bd_s, if_neg n4, full_t (M := 400) (r := c) q1 d2 (by omega) (by omega), bd_s, if_neg (by decide)]
    · show f_X8_charge τ v1 (nI k) v3 v4 = _
      rw [hm0, d3, d4, hcl2, if_neg n5, if_pos (show nI c = (400:Int32) from by rw [g5]; rfl)]
  have n6 : ¬ nI c = (400 : Int32) := fun z => g5 ((nI_eq (a := c) (b := 400) (by omega) (by decide)).mp z)
  have hc4 : c < 400 := by omega
  have hvc : vi (nI c) 400 = true := vi_nI hc4 (by decide)
  have htc : (nI c).toNatClampNeg = c := nI_tN (by omega)
  have hx : f_X7_charge σ v1 (nI k) v3 v4 = some (nI c, (sgu (sgu (sgu (sgu (sgu (sgu (sgu (sgu (sgu (sgu (sgu σ 1 0 (σ 1 0 - v1)) 1 (2 + k) (σ 1 (2 + k) - v3)) 1 1 (σ 1 1 - v4)) 4 3 (nI (c + 1))) 5 (c * 7 + 0) 0) 5 (c * 7 + 1) v1) 5 (c * 7 + 2) v3) 5 (c * 7 + 3) v4) 5 (c * 7 + 4) (nI k)) 5 (c * 7 + 5) (-1)) 5 (c * 7 + 6) 0)) := by
    rw [hx0, hsz, bd_s, if_neg n4, full_f (M := 400) (r := c) q1 d2 hc4 (by omega), bd_s, if_pos rfl, ht0, ht1, ht2, gd_t hv0, gd_t hv0, lt_e, gd_t hv2, gd_t hv2, lt_e, gd_t hv1, gd_t hv1, lt_e]
    have a1 : sgu σ 1 0 (σ 1 0 - v1) 1 (2 + k) = σ 1 (2 + k) := by rw [sgu_s, upd_n (by omega)]
    have a2 : sgu (sgu σ 1 0 (σ 1 0 - v1)) 1 (2 + k) (σ 1 (2 + k) - v3) 1 1 = σ 1 1 := by rw [sgu_s, upd_n (by omega), sgu_s, upd_n (by decide)]
    rw [a1, a2]
    exact G_bd (lay_ok q1 q2 d2 hc4) rfl
  have hm : f_X8_charge τ v1 (nI k) v3 v4 = some (nI c, (sgu (sgu (sgu (sgu (sgu (sgu (sgu (sgu (sgu (sgu (sgu τ 37 0 (τ 37 0 - v1)) 37 1 (τ 37 1 - v4)) 37 (2 + k) (τ 37 (2 + k) - v3)) 39 c 0) 40 c v1) 41 c v3) 42 c v4) 43 c (nI k)) 44 c (-1)) 45 c 0) 36 2 (nI (c + 1)))) := by
    rw [hm0, d3, d4, hcl2, if_neg n5, if_neg n6]
    unfold c_mcharge
    have a1 : sgu (sgu τ 37 0 (τ 37 0 - v1)) 37 1 (τ 37 1 - v4) 37 (2 + k) = τ 37 (2 + k) := by rw [sgu_s, upd_n (by omega), sgu_s, upd_n (by omega)]
    refine G_gd hv0 (G_gd hv0 (G_lt (G_gd hv1 (G_gd hv1 (G_lt (G_gd hv2 (G_gd hv2 (G_lt ?_))))))))
    rw [ht0, ht1, ht2]
    show gd (vi (τ 36 2) 400) (lt_ (sgu (sgu (sgu (sgu τ 37 0 (τ 37 0 - v1)) 37 1 (τ 37 1 - v4)) 37 (2 + k) (sgu (sgu τ 37 0 (τ 37 0 - v1)) 37 1 (τ 37 1 - v4) 37 (2 + k) - v3)) 39 (τ 36 2).toNatClampNeg 0) _) = _
    rw [a1, d3, htc]
    refine G_gd hvc (G_lt ?_)
    show gd (vi (τ 36 2) 400) (lt_ (sgu _ 40 (τ 36 2).toNatClampNeg v1) _) = _
    rw [d3, htc]
    refine G_gd hvc (G_lt ?_)
    show gd (vi (τ 36 2) 400) (lt_ (sgu _ 41 (τ 36 2).toNatClampNeg v3) _) = _
    rw [d3, htc]
    refine G_gd hvc (G_lt ?_)
    show gd (vi (τ 36 2) 400) (lt_ (sgu _ 42 (τ 36 2).toNatClampNeg v4) _) = _
    rw [d3, htc]
    refine G_gd hvc (G_lt ?_)
    show gd (vi (τ 36 2) 400) (lt_ (sgu _ 43 (τ 36 2).toNatClampNeg (nI k)) _) = _
    rw [d3, htc]
    refine G_gd hvc (G_lt ?_)
    show gd (vi (τ 36 2) 400) (lt_ (sgu _ 44 (τ 36 2).toNatClampNeg (-1)) _) = _
    rw [d3, htc]
    refine G_gd hvc (G_lt ?_)
    show gd (vi (τ 36 2) 400) (lt_ (sgu _ 45 (τ 36 2).toNatClampNeg 0) _) = _
    rw [d3, htc]
    refine G_gd hvc (G_lt ?_)
    show lt_ (sgu _ 36 2 (τ 36 2 + 1)) _ = _
    rw [d3, nI_1]
    refine G_lt ?_
    show some (nI (c + 1) - 1, _) = _
    rw [nI_pred]
  refine ⟨nI c, _, _, hx, hm, ?_, r2, ⟨q1, q2, c + 1, lo, by omega, by omega, by omega, d1, rfl, rfl, d4, ?_⟩, r4, r5, r6, r7, r8, r9, r10, r11⟩
  · intro j hj
    show upd (upd (upd (σ 1) 0 (σ 1 0 - v1)) (2 + k) (σ 1 (2 + k) - v3)) 1 (σ 1 1 - v4) j = upd (upd (upd (τ 37) 0 (τ 37 0 - v1)) 1 (τ 37 1 - v4)) (2 + k) (τ 37 (2 + k) - v3) j
    have ej := r1 j hj
    by_cases j1 : j = 1
    · subst j1
      rw [upd_s, upd_n (by omega), upd_s, e1]
    · by_cases j2 : j = 2 + k
      · rw [upd_n j1, j2, upd_s, upd_s, e2]
      · by_cases j0 : j = 0
        · subst j0
          rw [upd_n j1, upd_n j2, upd_s, upd_n j2, upd_n j1, upd_s, e0]
        · rw [upd_n j1, upd_n j2, upd_n j0, upd_n j2, upd_n j1, upd_n j0]
          exact ej
  · intro i hi2
    show R_ci lo (row7 (σ 5) c 0 v1 v3 v4 (nI k) (-1) 0) (upd (τ 39) c 0) (upd (τ 40) c v1) (upd (τ 41) c v3) (upd (τ 42) c v4) (upd (τ 43) c (nI k)) (upd (τ 44) c (-1)) (upd (τ 45) c 0) i
    by_cases hic : i = c
    · subst hic
      unfold R_ci
      rw [row7_0, row7_1, row7_2, row7_3, row7_4, row7_5, row7_6, upd_s, upd_s, upd_s, upd_s, upd_s, upd_s, upd_s]
      have hk3 := nI_toInt (n := k) (by omega)
      have w1 := wi_iff.mp h1
      refine ⟨rfl, rfl, rfl, rfl, rfl, rfl, rfl, ⟨fun _ => hlo, fun _ => rfl⟩, ⟨?_, w1.2⟩, wi_iff.mp h3, wi_iff.mp h4, ⟨by omega, by omega⟩⟩
      exact Int.le_trans (by decide) w1.1
    · have e := hi i (by omega)
      unfold R_ci at e ⊢
      rw [row7_n hic (by decide), row7_n hic (by decide), row7_n hic (by decide), row7_n hic (by decide), row7_n hic (by decide), row7_n hic (by decide), row7_n hic (by decide), upd_n hic, upd_n hic, upd_n hic, upd_n hic, upd_n hic, upd_n hic, upd_n hic]
      exact e
