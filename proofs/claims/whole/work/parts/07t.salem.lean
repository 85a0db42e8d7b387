theorem scan_ub {f : Nat → Int} : ∀ (n c : Nat) (acc : Int × Nat) (x : Nat), c ≤ x → x < c + n → f x ≤ (scan f c n acc).1
  | 0, c, _, x, h1, h2 => absurd h2 (by omega)
  | n + 1, c, acc, x, h1, h2 => by
    show f x ≤ (scan f (c + 1) n _).1
    by_cases hx : x = c
    · subst hx
      refine Int.le_trans ?_ (scan_ge n (x + 1) _)
      split
      · exact Int.le_refl _
      · next h => omega
    · exact scan_ub n (c + 1) _ x (by omega) (by omega)
theorem scan_mem {f : Nat → Int} : ∀ (n c : Nat) (acc : Int × Nat), scan f c n acc = acc ∨ ∃ x, c ≤ x ∧ x < c + n ∧ scan f c n acc = (f x, x)
  | 0, _, _ => Or.inl rfl
  | n + 1, c, acc => by
    show scan f (c + 1) n _ = acc ∨ ∃ x, c ≤ x ∧ x < c + (n + 1) ∧ scan f (c + 1) n _ = (f x, x)
    obtain h | ⟨x, h1, h2, h3⟩ := scan_mem (f := f) n (c + 1) (if acc.1 < f c then (f c, c) else acc)
    · rw [h]
      split
      · exact Or.inr ⟨c, Nat.le_refl _, by omega, rfl⟩
      · exact Or.inl rfl
    · exact Or.inr ⟨x, by omega, by omega, h3⟩
theorem none_code {F : Nat} {ok : Nat → Nat → Bool} {w : Nat → Int} {V : Nat → Nat → Int} : ∀ (d k : Nat) (s : Int × (Nat → Int)), 0 ≤ s.1 → ∃ x, x < (F + 1) ^ d ∧ ∀ h, 0 ≤ ev (F + 1) (sst F ok w V) sv d k s (h * (F + 1) ^ d + x) := by
  intro d
  induction d with
  | zero => intro k s hs; exact ⟨0, Nat.pow_pos (by omega), fun h => hs⟩
  | succ d ih =>
    intro k s hs
    obtain ⟨x, h1, h2⟩ := ih (k + 1) s hs
    have e : ∀ h, h * (F + 1) ^ (d + 1) + (F * (F + 1) ^ d + x) = (h * (F + 1) + F) * (F + 1) ^ d + x := by
      intro h
      rw [dig_le]
      omega
    refine ⟨F * (F + 1) ^ d + x, ?_, fun h => ?_⟩
    · have := dig_le 0 (F + 1) d (F + 1)
      have h3 : (F + 1) ^ (d + 1) = F * (F + 1) ^ d + (F + 1) ^ d := by rw [Nat.pow_succ, Nat.mul_comm, Nat.add_mul, Nat.one_mul]
      omega
    · rw [e h, ev_some (s' := s)]
      · exact h2 _
      · rw [dig_of (b := h * (F + 1) + F) (by omega) (by omega) (by omega), dig_mod (by omega)]
        exact sst_F
/-- what the model's sale rows hold -/
def MS (F L : Nat) (P : Nat → Nat) (ok : Nat → Nat → Bool) (w : Nat → Int) (V : Nat → Nat → Int) (Wn : Nat → Int) (τ : Sg) : Prop := τ 36 54 = nI L ∧ τ 36 41 = nI F ∧ (∀ k, k < L → τ 67 k = nI (P k) ∧ P k < 60 ∧ (τ 46 (P k)).toInt = w k ∧ ∀ q, q < F → ((((τ 58 q) >>> (τ 47 (P k) &&& 31)) &&& (1:Int32)) = 0 ↔ ok q k = false) ∧ (τ 46 (P k) * τ 60 q).toInt = V k q) ∧ ∀ q, q < F → (τ 59 q).toInt = Wn q
theorem MS.fr {F L : Nat} {P : Nat → Nat} {ok : Nat → Nat → Bool} {w : Nat → Int} {V : Nat → Nat → Int} {Wn : Nat → Int} {τ τ' : Sg} (h : MS F L P ok w V Wn τ) (f : Fr [(36, some 55), (68, none)] τ τ') : MS F L P ok w V Wn τ' := by
  unfold MS at h ⊢
  rw [f.cell 67 (by decide), f.cell 46 (by decide), f.cell 58 (by decide), f.cell 47 (by decide), f.cell 60 (by decide), f.cell 59 (by decide), f 36 54 (by decide) (by decide), f 36 41 (by decide) (by decide)]
  exact h
theorem nF0 {F : Nat} (hF : F ≤ 3) : (!decide (nI F + (1:Int32) = 0)) = true := by
  obtain h | h | h | h : F = 0 ∨ F = 1 ∨ F = 2 ∨ F = 3 := by omega
  all_goals (subst h; decide)
theorem digit_loop {N F k : Nat} {τ : Sg} (hF : F ≤ 3) (hk : k ≤ 8) (h41 : τ 36 41 = nI F) : ∀ (t j c : Nat), t ≤ 8 → t < j → c < 65536 → b_X8_digit_10 N j τ (nI k) (nI c) (nI (k + t)) = some (nI (c / (F + 1) ^ t % (F + 1)), τ) := by
  intro t
  induction t with
  | zero =>
    intro j c ht hj hc
    obtain ⟨j, rfl⟩ : ∃ z, j = z + 1 := ⟨j - 1, by omega⟩
    show c_X8_digit_10 N _ τ (nI k) (nI c) (nI k) = _
    unfold c_X8_digit_10
    rw [if_pos (nI_le (Nat.le_refl _) (by omega))]
    unfold c_X8_digit_31
    rw [h41, gd_t (nF0 hF), nI_suc, pk_rem (by omega) (by omega) (by omega), Nat.pow_zero, Nat.div_one]
  | succ t ih =>
    intro j c ht hj hc
    obtain ⟨j, rfl⟩ : ∃ z, j = z + 1 := ⟨j - 1, by omega⟩
    show c_X8_digit_10 N _ τ (nI k) (nI c) (nI (k + t + 1)) = _
    unfold c_X8_digit_10
    rw [if_neg (nI_ge (by omega) (by omega)), h41, gd_t (nF0 hF), nI_suc, pk_div (by omega) (by omega) (by omega), lt_e, pk_m1]
    rw [ih j (c / (F + 1)) (by omega) (by omega) (Nat.lt_of_le_of_lt (Nat.div_le_self _ _) hc), Nat.div_div_eq_div_mul, Nat.pow_succ, Nat.mul_comm]
theorem digit_ok {N F L k c : Nat} {τ : Sg} (hN : 70000 ≤ N) (hF : F ≤ 3) (hL : L ≤ 8) (hk : k < L) (hc : c < 65536) (h41 : τ 36 41 = nI F) (h54 : τ 36 54 = nI L) : f_X8_digit N τ (nI c) (nI k) = some (nI (c / (F + 1) ^ (L - 1 - k) % (F + 1)), τ) := by
  unfold f_X8_digit c_X8_digit_0
  have := digit_loop (N := N) (F := F) (k := k) (τ := τ) hF (by omega) h41 (L - 1 - k) N c (by omega) (by omega) hc
  rw [show k + (L - 1 - k) = L - 1 by omega] at this
  rw [lt_e, h54, show nI L - (1:Int32) = nI (L - 1) from pk_sub (b := 1) (by omega)]
  exact this
theorem pay_loop {N F L : Nat} (hN : 70000 ≤ N) {P : Nat → Nat} {ok : Nat → Nat → Bool} {w : Nat → Int} {V : Nat → Nat → Int} {Wn : Nat → Int} (ns : NS F L w V Wn) (code : Nat) (hcode : code < 65536) : ∀ (d k j : Nat) (τ : Sg) (pay : Int32) (left : Nat → Int), k + d = L → d < j → MS F L P ok w V Wn τ → 0 ≤ pay.toInt → pay.toInt ≤ 25000 * k → (∀ q, q < F → (τ 68 q).toInt = left q ∧ 0 ≤ left q ∧ left q ≤ 2000) → ∃ r τ', b_X8_payOf_32 N j τ (nI code) pay (nI k) = some (r, τ') ∧ r.toInt = ev (F + 1) (sst F ok w V) sv d k (pay.toInt, left) code := by
  obtain ⟨hF, hL, nw, nV, nW⟩ := id ns
  intro d
  induction d with
  | zero =>
    intro k j τ pay left hk hj ms hp0 hp1 hl
    obtain ⟨j, rfl⟩ : ∃ z, j = z + 1 := ⟨j - 1, by omega⟩
    refine ⟨pay, τ, ?_, rfl⟩
    show c_X8_payOf_32 N _ τ (nI code) pay (nI k) = _
    unfold c_X8_payOf_32
    rw [ms.1, if_pos (nI_le (by omega) (by omega))]
  | succ d ih =>
    intro k j τ pay left hk hj ms hp0 hp1 hl
    obtain ⟨j, rfl⟩ : ∃ z, j = z + 1 := ⟨j - 1, by omega⟩
    obtain ⟨m1, m2, m3, m4⟩ := id ms
    obtain ⟨a1, a2, a3, a4⟩ := m3 k (by omega)
    have hdg := digit_ok (N := N) (c := code) hN hF hL (show k < L by omega) hcode m2 m1
    rw [show L - 1 - k = d by omega] at hdg
    have hp : code / (F + 1) ^ d % (F + 1) < F + 1 := Nat.mod_lt _ (by omega)
    generalize hpe : code / (F + 1) ^ d % (F + 1) = p at hdg hp
    have hvk : vi (nI k) 8 = true := vi_nI (by omega) (by decide)
    have htk : (nI k).toNatClampNeg = k := nI_tN (by omega)
    have hstart : b_X8_payOf_32 N (j + 1) τ (nI code) pay (nI k) = c_X8_payOf_32 N (b_X8_payOf_32 N j) τ (nI code) pay (nI k) := rfl
    rw [hstart]
    unfold c_X8_payOf_32
    rw [m1, if_neg (nI_ge (by omega) (by omega)), hdg, bd_s, m2]
    by_cases hpF : p = F
    · subst hpF
      rw [if_pos (nI_le (Nat.le_refl _) (by omega)), ev_some (s' := (pay.toInt, left)) (by rw [hpe]; exact sst_F)]
      unfold c_X8_payOf_139
      rw [nI_suc]
      exact ih (k + 1) j τ pay left (by omega) (by omega) ms hp0 (by omega) hl
    have hvp : vi (nI p) 3 = true := vi_nI (by omega) (by decide)
    have htp : (nI p).toNatClampNeg = p := nI_tN (by omega)
    have hvP : vi (nI (P k)) 60 = true := vi_nI a2 (by decide)
    have htP : (nI (P k)).toNatClampNeg = P k := nI_tN (by omega)
    obtain ⟨b1, b2⟩ := a4 p (by omega)
    obtain ⟨l1, l2, l3⟩ := hl p (by omega)
    obtain ⟨w0, w1⟩ := nw k (by omega)
    obtain ⟨v0, v1⟩ := nV k p (by omega) (by omega)
    rw [if_neg (nI_ge (by omega) (by omega)), gd_t hvk, htk, lt_e, a1, gd_t hvp, gd_t hvP, htp, htP]
    by_cases hok : ok p k = true ∧ w k ≤ left p
    · rw [if_neg (fun z => by rw [b1.mp z] at hok; exact absurd hok.1 (by decide)), gd_t hvp, gd_t hvP, if_pos (by rw [i32_le, a3, l1]; exact hok.2), gd_t hvp, gd_t hvP, gd_t hvp, lt_e, gd_t hvP, gd_t hvp, lt_e, ev_some (by rw [hpe]; exact sst_t (by omega) hok)]
      let τ1 := sgu τ 68 p (τ 68 p - τ 46 (P k))
      have f1 : Fr [(36, some 55), (68, none)] τ τ1 := Fr.rf.put rfl (Or.inl (by simp))
      have hsub : (τ 68 p - τ 46 (P k)).toInt = left p - w k := by rw [i32_sub (by omega) (by omega), l1, a3]
      have hpy : (pay + τ 46 (P k) * τ 60 p).toInt = pay.toInt + V k p := by rw [i32_add (by omega) (by omega), b2]
      obtain ⟨r, τ', e1, e2⟩ := ih (k + 1) j τ1 (pay + τ 46 (P k) * τ 60 p) (fun q => if q = p then left q - w k else left q) (by omega) (by omega) (ms.fr f1) (by omega) (by omega) (fun q hq => by
        have e : τ1 68 q = if q = p then τ 68 p - τ 46 (P k) else τ 68 q := rfl
        obtain ⟨z1, z2, z3⟩ := hl q hq
        rw [e]
        by_cases hqp : q = p
        · subst hqp
          simp only [if_pos]
          have := hok.2
          exact ⟨hsub, by omega, by omega⟩
        · simp only [if_neg hqp]
          exact ⟨z1, z2, z3⟩)
      rw [hpy] at e2
      refine ⟨r, τ', ?_, e2⟩
      unfold c_X8_payOf_139
      rw [nI_suc]
      exact e1
    · rw [ev_none (by rw [hpe]; exact sst_f (by omega) hok)]
      by_cases h : ok p k = true
      · rw [if_neg (fun z => by rw [b1.mp z] at h; exact absurd h (by decide)), gd_t hvp, gd_t hvP, if_neg (by rw [i32_le, a3, l1]; exact fun z => hok ⟨h, z⟩)]
        exact ⟨-1, τ, rfl, rfl⟩
      · rw [if_pos (b1.mpr (by simpa using h))]
        exact ⟨-1, τ, rfl, rfl⟩
theorem left_loop {N F : Nat} {code : Int32} (hF : F ≤ 3) : ∀ (d q j : Nat) (τ : Sg), q + d = F → d < j → τ 36 41 = nI F → ∃ τ', b_X8_payOf_2 N j τ code (nI q) = c_X8_payOf_28 N τ' code ∧ Fr [(68, none)] τ τ' ∧ (∀ x, x < q → τ' 68 x = τ 68 x) ∧ ∀ x, q ≤ x → x < F → τ' 68 x = τ 59 x := by
  intro d
  induction d with
  | zero =>
    intro q j τ hq hj h1
    obtain ⟨j, rfl⟩ : ∃ z, j = z + 1 := ⟨j - 1, by omega⟩
    refine ⟨τ, ?_, Fr.rf, fun _ _ => rfl, fun x h1 h2 => absurd h2 (by omega)⟩
    show c_X8_payOf_2 N _ τ code (nI q) = _
    unfold c_X8_payOf_2
    rw [h1, if_pos (nI_le (by omega) (by omega))]
  | succ d ih =>
    intro q j τ hq hj h1
    obtain ⟨j, rfl⟩ : ∃ z, j = z + 1 := ⟨j - 1, by omega⟩
    obtain ⟨τ', e1, e2, e3, e4⟩ := ih (q + 1) j (sgu τ 68 q (τ 59 q)) (by omega) (by omega) h1
    refine ⟨τ', ?_, (Fr.rf.put (c := sgu τ 68 q (τ 59 q)) rfl (Or.inl (by simp))).tr e2, fun x hx => (e3 x (by omega)).trans (by rw [sgu_s, upd_n (by omega)]), fun x x1 x2 => ?_⟩
    · show c_X8_payOf_2 N _ τ code (nI q) = _
      unfold c_X8_payOf_2
      rw [h1, if_neg (nI_ge (by omega) (by omega)), gd_t (vi_nI (by omega) (by decide)), gd_t (vi_nI (by omega) (by decide)), nI_tN (by omega), lt_e, nI_suc]
      exact e1
    · by_cases hx : x = q
      · subst hx
        rw [e3 x (by omega), sgu_s, upd_s]
      · rw [e4 x (by omega) x2]
        rfl
theorem pay_ok {N F L : Nat} (hN : 70000 ≤ N) {P : Nat → Nat} {ok : Nat → Nat → Bool} {w : Nat → Int} {V : Nat → Nat → Int} {Wn : Nat → Int} (ns : NS F L w V Wn) {code : Nat} (hcode : code < 65536) {τ : Sg} (ms : MS F L P ok w V Wn τ) : ∃ r τ', f_X8_payOf N τ (nI code) = some (r, τ') ∧ r.toInt = ev (F + 1) (sst F ok w V) sv L 0 (0, Wn) code ∧ Fr [(36, some 55), (68, none)] τ τ' := by
  have hF := ns.1
  have hL := ns.2.1
  obtain ⟨τ1, e1, e2, -, e3⟩ := left_loop (N := N) (F := F) (code := nI code) hF F 0 N τ (by omega) (by omega) ms.2.1
  have ms1 := ms.fr (e2.mo (by decide))
  obtain ⟨r, τ', g1, g2⟩ := pay_loop hN ns code hcode L 0 N τ1 0 Wn (by omega) (by omega) ms1 (by decide) (by decide) (fun q hq => by
    rw [e3 q (by omega) hq, ms.2.2.2 q hq]
    exact ⟨rfl, ns.2.2.2.2 q hq⟩)
  have hx : f_X8_payOf N τ (nI code) = some (r, τ') := by
    unfold f_X8_payOf c_X8_payOf_0
    exact e1.trans g1
  exact ⟨r, τ', hx, g2, (fr_X8_payOf hx).mo (by decide)⟩
theorem bests_loop {N F L A : Nat} (hN : 70000 ≤ N) {P : Nat → Nat} {ok : Nat → Nat → Bool} {w : Nat → Int} {V : Nat → Nat → Int} {Wn : Nat → Int} (ns : NS F L w V Wn) (hA : A ≤ 65536) : ∀ (d c j : Nat) (τ : Sg) (B : Int32) (acc : Int × Nat), c + d = A → d < j → MS F L P ok w V Wn τ → B.toInt = acc.1 → (acc.1 ≠ -1 → τ 36 55 = nI acc.2) → ∃ r τ', b_X8_findSale_75 N j τ (nI A) B (nI c) = some (r, τ') ∧ r.toInt = (scan (ev (F + 1) (sst F ok w V) sv L 0 (0, Wn)) c d acc).1 ∧ ((scan (ev (F + 1) (sst F ok w V) sv L 0 (0, Wn)) c d acc).1 ≠ -1 → τ' 36 55 = nI (scan (ev (F + 1) (sst F ok w V) sv L 0 (0, Wn)) c d acc).2) ∧ Fr [(36, some 55), (68, none)] τ τ' := by
  intro d
  induction d with
  | zero =>
    intro c j τ B acc hc hj ms hB h55
    obtain ⟨j, rfl⟩ : ∃ z, j = z + 1 := ⟨j - 1, by omega⟩
    refine ⟨B, τ, ?_, hB, h55, Fr.rf⟩
    show c_X8_findSale_75 N _ τ _ B (nI c) = _
    unfold c_X8_findSale_75
    rw [if_pos (nI_le (by omega) (by omega))]
  | succ d ih =>
    intro c j τ B acc hc hj ms hB h55
    obtain ⟨j, rfl⟩ : ∃ z, j = z + 1 := ⟨j - 1, by omega⟩
    obtain ⟨r, τ1, e1, e2, e3⟩ := pay_ok (code := c) hN ns (by omega) ms
    have hx : b_X8_findSale_75 N (j + 1) τ (nI A) B (nI c) = if r ≤ B then b_X8_findSale_75 N j τ1 (nI A) B (nI (c + 1)) else b_X8_findSale_75 N j (sgu τ1 36 55 (nI c)) (nI A) r (nI (c + 1)) := by
      show c_X8_findSale_75 N _ τ _ B (nI c) = _
      unfold c_X8_findSale_75
      rw [if_neg (nI_ge (by omega) (by omega)), e1, bd_s]
      unfold c_X8_findSale_101
      rw [nI_suc, lt_e]
    generalize hf : ev (F + 1) (sst F ok w V) sv L 0 (0, Wn) = f at *
    rw [hx]
    show ∃ (r' : Int32) (τ' : Sg), _ = some (r', τ') ∧ r'.toInt = (scan f (c + 1) d (if acc.1 < f c then (f c, c) else acc)).1 ∧ ((scan f (c + 1) d (if acc.1 < f c then (f c, c) else acc)).1 ≠ -1 → τ' 36 55 = nI (scan f (c + 1) d (if acc.1 < f c then (f c, c) else acc)).2) ∧ _
    by_cases hlt : acc.1 < f c
    · rw [if_pos hlt, if_neg (by rw [i32_le, e2, hB]; omega)]
      have f1 : Fr [(36, some 55), (68, none)] τ (sgu τ1 36 55 (nI c)) := e3.put rfl (Or.inr (by simp))
      obtain ⟨r', τ', g1, g2, g3, g4⟩ := ih (c + 1) j (sgu τ1 36 55 (nI c)) r (f c, c) (by omega) (by omega) (ms.fr f1) e2 (fun _ => by rw [sgu_s, upd_s])
      exact ⟨r', τ', g1, g2, g3, f1.tr g4⟩
    · rw [if_neg hlt, if_pos (by rw [i32_le, e2, hB]; omega)]
      by_cases ha : acc.1 = -1
      · obtain ⟨r', τ', g1, g2, g3, g4⟩ := ih (c + 1) j τ1 B acc (by omega) (by omega) (ms.fr e3) hB (fun z => absurd ha z)
        exact ⟨r', τ', g1, g2, g3, e3.tr g4⟩
      · have h55' : τ1 36 55 = nI acc.2 := by
          have := h55 ha
          rw [← this]
          have fp := fr_X8_payOf e1
          exact fp 36 55 (by decide) (by decide)
        obtain ⟨r', τ', g1, g2, g3, g4⟩ := ih (c + 1) j τ1 B acc (by omega) (by omega) (ms.fr e3) hB (fun _ => h55')
        exact ⟨r', τ', g1, g2, g3, e3.tr g4⟩
