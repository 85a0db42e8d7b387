def sst (F : Nat) (ok : Nat → Nat → Bool) (w : Nat → Int) (V : Nat → Nat → Int) (k : Nat) (s : Int × (Nat → Int)) (p : Nat) : Option (Int × (Nat → Int)) := if p = F then some s else if ok p k = true ∧ w k ≤ s.2 p then some (s.1 + V k p, fun q => if q = p then s.2 q - w k else s.2 q) else none
def sv (s : Int × (Nat → Int)) : Int := s.1
theorem sst_F {F : Nat} {ok : Nat → Nat → Bool} {w : Nat → Int} {V : Nat → Nat → Int} {k : Nat} {s : Int × (Nat → Int)} : sst F ok w V k s F = some s := by
  unfold sst
  rw [if_pos rfl]
theorem sst_t {F : Nat} {ok : Nat → Nat → Bool} {w : Nat → Int} {V : Nat → Nat → Int} {k p : Nat} {s : Int × (Nat → Int)} (hp : p < F) (h : ok p k = true ∧ w k ≤ s.2 p) : sst F ok w V k s p = some (s.1 + V k p, fun q => if q = p then s.2 q - w k else s.2 q) := by
  unfold sst
  rw [if_neg (by omega), if_pos h]
theorem sst_f {F : Nat} {ok : Nat → Nat → Bool} {w : Nat → Int} {V : Nat → Nat → Int} {k p : Nat} {s : Int × (Nat → Int)} (hp : p < F) (h : ¬ (ok p k = true ∧ w k ≤ s.2 p)) : sst F ok w V k s p = none := by
  unfold sst
  rw [if_neg (by omega), if_neg h]
/-- bounds of the sale's numbers -/
def NS (F L : Nat) (w : Nat → Int) (V : Nat → Nat → Int) (Wn : Nat → Int) : Prop := F ≤ 3 ∧ L ≤ 8 ∧ (∀ k, k < L → 0 ≤ w k ∧ w k ≤ 500) ∧ (∀ k q, k < L → q < F → 0 ≤ V k q ∧ V k q ≤ 25000) ∧ ∀ q, q < F → 0 ≤ Wn q ∧ Wn q ≤ 2000
/-- the hopes -/
def HS (F L : Nat) (ok : Nat → Nat → Bool) (w : Nat → Int) (V : Nat → Nat → Int) (Wn H : Nat → Int) : Prop := H L = 0 ∧ ∀ k, k < L → 0 ≤ H (k + 1) ∧ H (k + 1) ≤ H k ∧ H k ≤ H (k + 1) + 25000 ∧ ∀ q, q < F → ok q k = true → w k ≤ Wn q → H (k + 1) + V k q ≤ H k
/-- what the class's sale rows hold -/
def GS (F L : Nat) (ok : Nat → Nat → Bool) (w : Nat → Int) (V : Nat → Nat → Int) (σ : Sg) : Prop := (σ 15 1 = 3 ∧ σ 15 2 = 3 ∧ σ 15 3 = nI F) ∧ σ 17 7 = nI L ∧ ∀ k, k < L → (σ 19 k).toInt = w k ∧ ∀ q, q < F → (σ 16 (q * 3 + 0) &&& σ 20 k = 0 ↔ ok q k = false) ∧ (σ 19 k * σ 16 (q * 3 + 2)).toInt = V k q
theorem GS.fr {F L : Nat} {ok : Nat → Nat → Bool} {w : Nat → Int} {V : Nat → Nat → Int} {σ σ' : Sg} (h : GS F L ok w V σ) (f : Fr [(17, some 8), (21, none), (22, none), (23, none), (24, none)] σ σ') : GS F L ok w V σ' := by
  unfold GS at h ⊢
  rw [f.cell 15 (by decide), f.cell 16 (by decide), f.cell 19 (by decide), f.cell 20 (by decide), f 17 7 (by decide) (by decide)]
  exact h
theorem HS.hb {F L : Nat} {ok : Nat → Nat → Bool} {w : Nat → Int} {V : Nat → Nat → Int} {Wn H : Nat → Int} (h : HS F L ok w V Wn H) : ∀ d k, k + d = L → 0 ≤ H k ∧ H k ≤ 25000 * d := by
  intro d
  induction d with
  | zero =>
    intro k hk
    have : k = L := by omega
    subst this
    rw [h.1]
    omega
  | succ d ih =>
    intro k hk
    have h1 := ih (k + 1) (by omega)
    obtain ⟨a, b, c, -⟩ := h.2 k (by omega)
    omega
theorem ev_ubs {F L : Nat} {ok : Nat → Nat → Bool} {w : Nat → Int} {V : Nat → Nat → Int} {Wn H : Nat → Int} (ns : NS F L w V Wn) (h : HS F L ok w V Wn H) : ∀ (d k : Nat) (s : Int × (Nat → Int)) (c : Nat), k + d = L → 0 ≤ s.1 → (∀ q, q < F → s.2 q ≤ Wn q) → ev (F + 1) (sst F ok w V) sv d k s c ≤ s.1 + H k := by
  intro d
  induction d with
  | zero =>
    intro k s c hk hs _
    have : k = L := by omega
    subst this
    show s.1 ≤ _
    rw [h.1]
    omega
  | succ d ih =>
    intro k s c hk hs hl
    have hH := h.hb (d + 1) k hk
    obtain ⟨a1, a2, a3, a4⟩ := h.2 k (by omega)
    have hp : c / (F + 1) ^ d % (F + 1) < F + 1 := Nat.mod_lt _ (by omega)
    by_cases hpF : c / (F + 1) ^ d % (F + 1) = F
    · rw [ev_some (s' := s) (by rw [hpF]; exact sst_F)]
      have := ih (k + 1) s c (by omega) hs hl
      omega
    · generalize hpe : c / (F + 1) ^ d % (F + 1) = p at hp hpF
      by_cases hok : ok p k = true ∧ w k ≤ s.2 p
      · rw [ev_some (by rw [hpe]; exact sst_t (by omega) hok)]
        have hw := ns.2.2.1 k (by omega)
        have hV := ns.2.2.2.1 k p (by omega) (by omega)
        have := ih (k + 1) (s.1 + V k p, fun q => if q = p then s.2 q - w k else s.2 q) c (by omega) (by show 0 ≤ s.1 + _; omega) (fun q hq => by
          have := hl q hq
          show (if q = p then s.2 q - w k else s.2 q) ≤ _
          split <;> omega)
        have h2 := a4 p (by omega) hok.1 (Int.le_trans hok.2 (hl p (by omega)))
        have h3 : ev (F + 1) (sst F ok w V) sv d (k + 1) (s.1 + V k p, fun q => if q = p then s.2 q - w k else s.2 q) c ≤ s.1 + V k p + H (k + 1) := this
        omega
      · rw [ev_none (by rw [hpe]; exact sst_f (by omega) hok)]
        omega
theorem can_ok {F L : Nat} {ok : Nat → Nat → Bool} {w : Nat → Int} {V : Nat → Nat → Int} {σ : Sg} (gs : GS F L ok w V σ) (hF : F ≤ 3) (hL : L ≤ 8) {q k : Nat} (hq : q < F) (hk : k < L) : f_X4_canTake σ (nI q) (nI k) = some (if ok q k = true ∧ w k ≤ (σ 24 q).toInt then 1 else 0, σ) := by
  obtain ⟨⟨a1, a2, a3⟩, b, c⟩ := gs
  obtain ⟨c1, c2⟩ := c k hk
  obtain ⟨c3, -⟩ := c2 q hq
  unfold f_X4_canTake c_X4_canTake_0
  rw [show f_X6_get 15 9 σ (nI q) (0:Int32) = some (σ 16 (q * 3 + 0), σ) from fg_get a1 a2 (by omega) rfl rfl (by decide), bd_s, gd_t (vi_nI (by omega) (by decide)), nI_tN (by omega)]
  by_cases h : ok q k = true
  · rw [if_neg (fun z => by rw [c3.mp z] at h; exact absurd h (by decide))]
    unfold c_X4_canTake_21
    rw [if_neg (by decide), gd_t (vi_nI (by omega) (by decide)), gd_t (vi_nI (by omega) (by decide)), nI_tN (by omega), nI_tN (by omega)]
    by_cases h2 : w k ≤ (σ 24 q).toInt
    · rw [if_neg (by rw [i32_lt, c1]; omega), if_pos ⟨h, h2⟩, gd_t bz_1]
    · rw [if_pos (by rw [i32_lt, c1]; omega), if_neg (fun z => h2 z.2), gd_t bz_0]
  · rw [if_pos (c3.mpr (by simpa using h))]
    unfold c_X4_canTake_21
    rw [if_pos rfl, if_neg (fun z => h z.1), gd_t bz_0]
def wayv (F c : Nat) : Int32 := if c = F then -1 else nI c
def FS (F L : Nat) (σ : Sg) (acc : Int × Nat) : Prop := (σ 17 8).toInt = acc.1 ∧ (acc.1 ≠ -1 → ∀ j, j < L → σ 22 j = wayv F (acc.2 / (F + 1) ^ (L - 1 - j) % (F + 1)))
theorem copy_best {N L : Nat} {Z : Sg → Int32 → Int32 → Option Sg} (hL : L ≤ 8) : ∀ (d i j : Nat) (σ : Sg), i + d = L → d < j → σ 17 7 = nI L → ∃ σ', b_X4_place_38 N Z j σ (nI i) = some σ' ∧ σ' 17 = σ 17 ∧ σ' 21 = σ 21 ∧ σ' 24 = σ 24 ∧ (∀ k, k < i → σ' 22 k = σ 22 k) ∧ ∀ k, i ≤ k → k < L → σ' 22 k = σ 21 k := by
  intro d
  induction d with
  | zero =>
    intro i j σ hi hj h6
    obtain ⟨j, rfl⟩ : ∃ z, j = z + 1 := ⟨j - 1, by omega⟩
    refine ⟨σ, ?_, rfl, rfl, rfl, fun _ _ => rfl, fun k h1 h2 => absurd h2 (by omega)⟩
    show c_X4_place_38 N Z _ σ (nI i) = _
    unfold c_X4_place_38
    rw [h6, if_pos (nI_le (by omega) (by omega))]
  | succ d ih =>
    intro i j σ hi hj h6
    obtain ⟨j, rfl⟩ : ∃ z, j = z + 1 := ⟨j - 1, by omega⟩
    obtain ⟨σ', e1, e2, e3, e6, e4, e5⟩ := ih (i + 1) j (sgu σ 22 i (σ 21 i)) (by omega) (by omega) h6
    refine ⟨σ', ?_, e2, e3, e6, fun k hk => (e4 k (by omega)).trans (by rw [sgu_s, upd_n (by omega)]), fun k h1 h2 => ?_⟩
    · show c_X4_place_38 N Z _ σ (nI i) = _
      unfold c_X4_place_38
      rw [h6, if_neg (nI_ge (by omega) (by omega)), gd_t (vi_nI (by omega) (by decide)), gd_t (vi_nI (by omega) (by decide)), nI_tN (by omega), lt_e, nI_suc]
      exact e1
    · by_cases hk : k = i
      · subst hk
        rw [e4 k (by omega), sgu_s, upd_s]
      · rw [e5 k (by omega) h2]
        rfl
theorem i32_sac {x y : Int32} : x - y + y = x := by
  rw [Int32.sub_add_cancel]
theorem place_ok {N F L : Nat} (hN : 70000 ≤ N) {ok : Nat → Nat → Bool} {w : Nat → Int} {V : Nat → Nat → Int} {Wn H : Nat → Int} (ns : NS F L w V Wn) (hs : HS F L ok w V Wn H) {C23 : Nat → Int32} (h23 : ∀ k, k ≤ L → (C23 k).toInt = H k) : ∀ (d k dd b : Nat) (σ : Sg) (pay : Int32) (left : Nat → Int) (acc : Int × Nat), k + d = L → d < dd → GS F L ok w V σ → σ 23 = C23 → 0 ≤ pay.toInt → pay.toInt ≤ 25000 * k → (∀ q, q < F → (σ 24 q).toInt = left q ∧ 0 ≤ left q ∧ left q ≤ Wn q) → -1 ≤ acc.1 → FS F L σ acc → (∀ j, j < k → σ 21 j = wayv F (b / (F + 1) ^ (k - 1 - j) % (F + 1))) → ∃ σ', f_X4_place N dd σ (nI k) pay = some σ' ∧ FS F L σ' (scan (ev (F + 1) (sst F ok w V) sv d k (pay.toInt, left)) (b * (F + 1) ^ d) ((F + 1) ^ d) acc) ∧ (∀ q, σ' 24 q = σ 24 q) ∧ ∀ j, j < k → σ' 21 j = σ 21 j := by
  obtain ⟨hF, hL, nw, nV, nW⟩ := id ns
  intro d
  induction d with
  | zero =>
    intro k dd b σ pay left acc hk hdd gs hC hp0 hp1 hl ha fs hway
    obtain ⟨dd, rfl⟩ : ∃ z, dd = z + 1 := ⟨dd - 1, by omega⟩
    have hkL : k = L := by omega
    subst hkL
    obtain ⟨⟨p1, p2, p3⟩, p4, p5⟩ := id gs
    have hH : (σ 23 k).toInt = 0 := by rw [hC, h23 k (Nat.le_refl _)]; exact hs.1
    have hsum : (pay + σ 23 k).toInt = pay.toInt := by rw [i32_add (by omega) (by omega), hH, Int.add_zero]
    have hcond : σ 17 8 < pay + σ 23 k ↔ acc.1 < pay.toInt := by rw [i32_lt, hsum, fs.1]
    have hx : f_X4_place N (dd + 1) σ (nI k) pay = if (σ 17 8) < (pay + (σ 23 k)) then b_X4_place_38 N (f_X4_place N dd) N (sgu σ 17 8 pay) (nI 0) else some σ := by
      show c_X4_place_0 N (f_X4_place N dd) σ (nI k) pay = _
      unfold c_X4_place_0
      rw [if_neg (show ¬ (8:Int32) < nI k from nI_nlt (a := 8) (by omega) (by omega)), gd_t (vi_nI (by omega) (by decide)), nI_tN (by omega), p4, if_neg (nI_nlt (Nat.le_refl _) (by omega)), lt_e]
      rfl
    have hsc : scan (ev (F + 1) (sst F ok w V) sv 0 k (pay.toInt, left)) (b * (F + 1) ^ 0) ((F + 1) ^ 0) acc = if acc.1 < pay.toInt then (pay.toInt, b) else acc := by
      rw [Nat.pow_zero, Nat.mul_one]
      rfl
    rw [hsc]
    by_cases hlt : acc.1 < pay.toInt
    · obtain ⟨σ', e1, e2, e3, e6, e4, e5⟩ := copy_best (N := N) (Z := f_X4_place N dd) hL k 0 N (sgu σ 17 8 pay) (by omega) (by omega) p4
      refine ⟨σ', by rw [hx, if_pos (hcond.mpr hlt)]; exact e1, ?_, fun q => by rw [e6]; rfl, fun j _ => by rw [e3]; rfl⟩
      rw [if_pos hlt]
      refine ⟨by rw [e2]; rfl, fun _ j hj => ?_⟩
      rw [e5 j (by omega) hj]
      exact hway j hj
    · exact ⟨σ, by rw [hx, if_neg (fun z => hlt (hcond.mp z))], by rw [if_neg hlt]; exact fs, fun _ => rfl, fun _ _ => rfl⟩
  | succ d ih =>
    intro k dd b σ pay left acc hk hdd gs hC hp0 hp1 hl ha fs hway
    obtain ⟨dd, rfl⟩ : ∃ z, dd = z + 1 := ⟨dd - 1, by omega⟩
    obtain ⟨⟨p1, p2, p3⟩, p4, p5⟩ := id gs
    have hHb := hs.hb (d + 1) k hk
    have hH : (σ 23 k).toInt = H k := by rw [hC]; exact h23 k (by omega)
    have hsum : (pay + σ 23 k).toInt = pay.toInt + H k := by rw [i32_add (by omega) (by omega), hH]
    have hcond : σ 17 8 < pay + σ 23 k ↔ acc.1 < pay.toInt + H k := by rw [i32_lt, hsum, fs.1]
    have hti : (nI k).toNatClampNeg = k := nI_tN (by omega)
    have hvi : vi (nI k) 8 = true := vi_nI (by omega) (by decide)
    have hx : f_X4_place N (dd + 1) σ (nI k) pay = if (σ 17 8) < (pay + (σ 23 k)) then b_X4_place_79 N (f_X4_place N dd) N σ (nI k) pay (σ 19 k) (nI 0) else some σ := by
      show c_X4_place_0 N (f_X4_place N dd) σ (nI k) pay = _
      unfold c_X4_place_0
      rw [if_neg (show ¬ (8:Int32) < nI k from nI_nlt (a := 8) (by omega) (by omega)), gd_t (vi_nI (by omega) (by decide)), hti, p4, if_pos (nI_lt (by omega) (by omega)), gd_t hvi, lt_e]
      rfl
    by_cases hlt : acc.1 < pay.toInt + H k
    case neg =>
      refine ⟨σ, by rw [hx, if_neg (fun z => hlt (hcond.mp z))], ?_, fun _ => rfl, fun _ _ => rfl⟩
      rw [scan_skip _ _ _ (fun x _ _ => Int.le_trans (ev_ubs ns hs (d + 1) k (pay.toInt, left) x hk hp0 (fun q hq => (hl q hq).2.2)) (by show pay.toInt + H k ≤ acc.1; omega))]
      exact fs
    rw [hx, if_pos (hcond.mpr hlt), scan_node]
    obtain ⟨nw0, nw1⟩ := nw k (by omega)
    have wayq : ∀ (p : Nat) (σ : Sg) (v : Int32), p < F + 1 → v = wayv F p → (∀ j, j < k → σ 21 j = wayv F (b / (F + 1) ^ (k - 1 - j) % (F + 1))) → ∀ j, j < k + 1 → sgu σ 21 k v 21 j = wayv F ((b * (F + 1) + p) / (F + 1) ^ (k + 1 - 1 - j) % (F + 1)) := by
      intro p σ v hp hv hway j hj
      rw [sgu_s]
      by_cases hji : j = k
      · subst hji
        rw [upd_s, show j + 1 - 1 - j = 0 by omega, Nat.pow_zero, Nat.div_one, dig_mod hp, hv]
      · have hdv : (b * (F + 1) + p) / (F + 1) = b := by
          rw [Nat.mul_comm, Nat.mul_add_div (by omega), Nat.div_eq_of_lt hp, Nat.add_zero]
        rw [upd_n hji, hway j (by omega), show k + 1 - 1 - j = (k - 1 - j) + 1 by omega, Nat.pow_succ, Nat.mul_comm ((F + 1) ^ _) (F + 1), ← Nat.div_div_eq_div_mul, hdv]
    have key : ∀ (r p j : Nat) (σ : Sg) (acc : Int × Nat), p + r = F → r < j → GS F L ok w V σ → σ 23 = C23 → (∀ q, q < F → (σ 24 q).toInt = left q ∧ 0 ≤ left q ∧ left q ≤ Wn q) → -1 ≤ acc.1 → FS F L σ acc → (∀ j, j < k → σ 21 j = wayv F (b / (F + 1) ^ (k - 1 - j) % (F + 1))) → ∃ σ', b_X4_place_79 N (f_X4_place N dd) j σ (nI k) pay (σ 19 k) (nI p) = some σ' ∧ FS F L σ' (scan (ev (F + 1) (sst F ok w V) sv (d + 1) k (pay.toInt, left)) ((b * (F + 1) + p) * (F + 1) ^ d) ((r + 1) * (F + 1) ^ d) acc) ∧ (∀ q, σ' 24 q = σ 24 q) ∧ ∀ j, j < k → σ' 21 j = σ 21 j := by
      intro r
      induction r with
      | zero =>
        intro p j σ acc hp hj gs hC hl ha fs hway
        obtain ⟨j, rfl⟩ : ∃ z, j = z + 1 := ⟨j - 1, by omega⟩
        have hpF : p = F := by omega
        subst hpF
        obtain ⟨⟨p1, p2, p3⟩, p4, p5⟩ := id gs
        have f0 : Fr [(17, some 8), (21, none), (22, none), (23, none), (24, none)] σ (sgu σ 21 k (-1)) := Fr.rf.put rfl (Or.inl (by simp))
        obtain ⟨σ1, e1, e2, e3, e4⟩ := ih (k + 1) dd (b * (p + 1) + p) (sgu σ 21 k (-1)) pay left acc (by omega) (by omega) (gs.fr f0) hC hp0 (by omega) hl ha fs (wayq p σ (-1) (by omega) (by unfold wayv; rw [if_pos rfl]) hway)
        refine ⟨σ1, ?_, ?_, e3, fun j hj => ?_⟩
        · show c_X4_place_79 N (f_X4_place N dd) _ σ (nI k) pay _ (nI p) = _
          unfold c_X4_place_79
          rw [p3, if_pos (nI_le (Nat.le_refl _) (by omega))]
          unfold c_X4_place_166
          rw [gd_t hvi, hti, lt_e, nI_suc]
          exact G_bdv e1 rfl
        · rw [scan_from (by omega) ha, sst_F, Nat.zero_mul]
          exact e2
        · rw [e4 j (by omega), sgu_s, upd_n (by omega)]
      | succ r ihr =>
        intro p j σ acc hp hj gs hC hl ha fs hway
        obtain ⟨j, rfl⟩ : ∃ z, j = z + 1 := ⟨j - 1, by omega⟩
        obtain ⟨⟨p1, p2, p3⟩, p4, p5⟩ := id gs
        obtain ⟨w1, w2⟩ := p5 k (by omega)
        obtain ⟨w3, w4⟩ := w2 p (by omega)
        obtain ⟨l1, l2, l3⟩ := hl p (by omega)
        have hca := can_ok gs hF hL (q := p) (k := k) (by omega) (by omega)
        rw [l1] at hca
        have hvp : vi (nI p) 3 = true := vi_nI (by omega) (by decide)
        have htp : (nI p).toNatClampNeg = p := nI_tN (by omega)
        have hstart : b_X4_place_79 N (f_X4_place N dd) (j + 1) σ (nI k) pay (σ 19 k) (nI p) = c_X4_place_79 N (f_X4_place N dd) (b_X4_place_79 N (f_X4_place N dd) j) σ (nI k) pay (σ 19 k) (nI p) := rfl
        rw [scan_from (by omega) ha, hstart]
        unfold c_X4_place_79
        rw [p3, if_neg (nI_ge (by omega) (by omega)), if_neg (show ¬ (3:Int32) ≤ nI p from nI_ge (b := 3) (by omega) (by omega)), hca, bd_s]
        by_cases hok : ok p k = true ∧ w k ≤ left p
        · rw [sst_t (by omega) hok, if_pos hok, if_neg (by decide), gd_t hvi, hti, lt_e, gd_t hvp, gd_t hvp, htp, lt_e]
          obtain ⟨v0, v1⟩ := nV k p (by omega) (by omega)
          let σ1 := sgu (sgu σ 21 k (nI p)) 24 p (σ 24 p - σ 19 k)
          have f1 : Fr [(17, some 8), (21, none), (22, none), (23, none), (24, none)] σ σ1 := (Fr.rf.put rfl (Or.inl (by simp))).put rfl (Or.inl (by simp))
          have hWp := nW p (by omega)
          have hsub : (σ 24 p - σ 19 k).toInt = left p - w k := by rw [i32_sub (by omega) (by omega), l1, w1]
          have hpy : (pay + σ 19 k * σ 16 (p * 3 + 2)).toInt = pay.toInt + V k p := by rw [i32_add (by omega) (by omega), w4]
          have hl1 : ∀ q, q < F → (σ1 24 q).toInt = (if q = p then left q - w k else left q) ∧ 0 ≤ (if q = p then left q - w k else left q) ∧ (if q = p then left q - w k else left q) ≤ Wn q := by
            intro q hq
            have e : σ1 24 q = if q = p then σ 24 p - σ 19 k else σ 24 q := rfl
            obtain ⟨z1, z2, z3⟩ := hl q hq
            rw [e]
            by_cases hqp : q = p
            · subst hqp
              rw [if_pos rfl, if_pos rfl]
              have := hok.2
              exact ⟨hsub, by omega, by omega⟩
            · rw [if_neg hqp, if_neg hqp]
              exact ⟨z1, z2, z3⟩
          obtain ⟨σ2, e1, e2, e3, e4⟩ := ih (k + 1) dd (b * (F + 1) + p) σ1 (pay + σ 19 k * σ 16 (p * 3 + 2)) (fun q => if q = p then left q - w k else left q) acc (by omega) (by omega) (gs.fr f1) hC (by omega) (by omega) hl1 ha fs (wayq p σ (nI p) (by omega) (by unfold wayv; rw [if_neg (by omega)]) hway)
          rw [hpy] at e2
          have f2 : Fr [(17, some 8), (21, none), (22, none), (23, none), (24, none)] σ1 σ2 := (fr_X4_place e1).mo (by decide)
          let σ3 := sgu σ2 24 p (σ2 24 p + σ 19 k)
          have f3 : Fr [(17, some 8), (21, none), (22, none), (23, none), (24, none)] σ σ3 := (f1.tr f2).put rfl (Or.inl (by simp))
          have h24 : ∀ q, σ3 24 q = σ 24 q := by
            intro q
            show upd (σ2 24) p _ q = _
            by_cases hqp : q = p
            · subst hqp
              rw [upd_s, e3 q, show σ1 24 q = σ 24 q - σ 19 k by show upd (σ 24) q _ q = _; rw [upd_s], i32_sac]
            · rw [upd_n hqp, e3 q]
              show upd (σ 24) p _ q = _
              rw [upd_n hqp]
          have h21 : ∀ j, j < k → σ3 21 j = σ 21 j := by
            intro j hj
            show σ2 21 j = _
            rw [e4 j (by omega)]
            show upd (σ 21) k _ j = _
            rw [upd_n (by omega)]
          have h23' : σ3 23 = C23 := by
            show σ2 23 = C23
            rw [(fr_X4_place e1).cell 23 (by decide)]
            exact hC
          have h19 : σ3 19 = σ 19 := f3.cell 19 (by decide)
          obtain ⟨σ4, g1, g2, g3, g4⟩ := ihr (p + 1) j σ3 _ (by omega) (by omega) (gs.fr f3) h23' (fun q hq => by rw [h24 q]; exact hl q hq) (Int.le_trans ha (scan_ge _ _ _)) (show FS F L σ3 _ from e2) (fun j hj => (h21 j hj).trans (hway j hj))
          rw [h19] at g1
          refine ⟨σ4, ?_, g2, fun q => (g3 q).trans (h24 q), fun j hj => (g4 j hj).trans (h21 j hj)⟩
          refine G_bd (r := σ 16 (p * 3 + 2)) (σ := σ1) (fg_get (σ := σ1) p1 p2 (i := p) (f := 2) (by omega) rfl rfl (by decide)) ?_
          rw [nI_suc]
          refine G_bdv e1 ?_
          rw [gd_t hvp, gd_t hvp, lt_e]
          unfold c_X4_place_160
          rw [nI_suc]
          exact g1
        · rw [sst_f (by omega) hok, if_neg hok, if_pos rfl]
          obtain ⟨σ2, g1, g2, g3, g4⟩ := ihr (p + 1) j σ acc (by omega) (by omega) gs hC hl ha fs hway
          refine ⟨σ2, ?_, g2, g3, g4⟩
          unfold c_X4_place_160
          rw [nI_suc]
          exact g1
    exact key F 0 N σ acc (by omega) (by omega) gs hC hl ha fs hway
