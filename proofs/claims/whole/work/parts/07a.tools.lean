def rng (x : Int32) (a b : Int) : Prop := a ≤ x.toInt ∧ x.toInt ≤ b
theorem gd_t {α : Type} {b : Bool} {x : Option α} (h : b = true) : gd b x = x := by rw [gd, if_pos h]
theorem bd_s {β : Type} {r : Int32} {σ : Sg} {k : Int32 → Sg → Option β} : bd (some (r, σ)) k = k r σ := rfl
theorem bdl_s {β : Type} {r : Int64} {σ : Sg} {k : Int64 → Sg → Option β} : bdl (some (r, σ)) k = k r σ := rfl
theorem bdv_s {β : Type} {σ : Sg} {k : Sg → Option β} : bdv (some σ) k = k σ := rfl
theorem lt_e {α β : Type} {x : α} {k : α → Option β} : lt_ x k = k x := rfl
theorem bz_0 : bz 0 = true := by decide
theorem bz_1 : bz 1 = true := by decide
theorem sgu_s {σ : Sg} {q k : Nat} {v : Int32} : sgu σ q k v q = upd (σ q) k v := by
  show (if q = q then upd (σ q) k v else σ q) = _
  rw [if_pos rfl]
theorem sgu_n {σ : Sg} {q k x : Nat} {v : Int32} (h : x ≠ q) : sgu σ q k v x = σ x := by
  show (if x = q then upd (σ q) k v else σ x) = _
  rw [if_neg h]
theorem upd_s {f : Nat → Int32} {k : Nat} {v : Int32} : upd f k v k = v := by
  show (if k = k then v else f k) = v
  rw [if_pos rfl]
theorem upd_n {f : Nat → Int32} {k j : Nat} {v : Int32} (h : j ≠ k) : upd f k v j = f j := by
  show (if j = k then v else f j) = f j
  rw [if_neg h]
def wi (v a b : Int32) : Prop := ¬ v < a ∧ ¬ b < v
theorem wx_t {v a b : Int32} (s : Sg) (h : wi v a b) : f_X7_within s v a b = some (1, s) := by
  unfold f_X7_within c_X7_within_0
  rw [if_neg h.1, if_neg h.2, gd_t bz_1]
theorem wx_f {v a b : Int32} (s : Sg) (h : ¬ wi v a b) : f_X7_within s v a b = some (0, s) := by
  unfold f_X7_within c_X7_within_0
  by_cases h1 : v < a
  · rw [if_pos h1, gd_t bz_0]
  · by_cases h2 : b < v
    · rw [if_neg h1, if_pos h2, gd_t bz_0]
    · exact absurd ⟨h1, h2⟩ h
theorem wm_t {v a b : Int32} (s : Sg) (h : wi v a b) : f_X8_in s v a b = some (1, s) := by
  unfold f_X8_in c_X8_in_0
  rw [if_neg h.1, if_neg h.2, gd_t bz_1]
theorem wm_f {v a b : Int32} (s : Sg) (h : ¬ wi v a b) : f_X8_in s v a b = some (0, s) := by
  unfold f_X8_in c_X8_in_0
  by_cases h1 : v < a
  · rw [if_pos h1, gd_t bz_0]
  · by_cases h2 : b < v
    · rw [if_neg h1, if_pos h2, gd_t bz_0]
    · exact absurd ⟨h1, h2⟩ h
theorem i32_lt {x y : Int32} : x < y ↔ x.toInt < y.toInt := Int32.lt_iff_toInt_lt
theorem i32_le {x y : Int32} : x ≤ y ↔ x.toInt ≤ y.toInt := Int32.le_iff_toInt_le
theorem i32_eq {x y : Int32} : x = y ↔ x.toInt = y.toInt := Int32.toInt_inj.symm
theorem wi_iff {v a b : Int32} : wi v a b ↔ a.toInt ≤ v.toInt ∧ v.toInt ≤ b.toInt := by
  unfold wi
  rw [i32_lt, i32_lt]
  omega
theorem i32_add {x y : Int32} (h1 : -2147483648 ≤ x.toInt + y.toInt) (h2 : x.toInt + y.toInt < 2147483648) : (x + y).toInt = x.toInt + y.toInt := by
  rw [Int32.toInt_add]
  exact Int.bmod_eq_of_le (by omega) (by omega)
theorem i32_sub {x y : Int32} (h1 : -2147483648 ≤ x.toInt - y.toInt) (h2 : x.toInt - y.toInt < 2147483648) : (x - y).toInt = x.toInt - y.toInt := by
  rw [Int32.toInt_sub]
  exact Int.bmod_eq_of_le (by omega) (by omega)
theorem i32_mul {x y : Int32} (h1 : -2147483648 ≤ x.toInt * y.toInt) (h2 : x.toInt * y.toInt < 2147483648) : (x * y).toInt = x.toInt * y.toInt := by
  rw [Int32.toInt_mul]
  exact Int.bmod_eq_of_le (by omega) (by omega)
theorem i32_nat {x : Int32} {n : Nat} (h0 : 0 ≤ x.toInt) (h : x.toInt < n) : ∃ k : Nat, k < n ∧ x = nI k ∧ x.toInt = k := by
  obtain ⟨k, hk, rfl⟩ := nI_of (x := x) (by rw [i32_lt]; show ¬ x.toInt < 0; omega)
  have := nI_toInt hk
  exact ⟨k, by omega, rfl, this⟩
theorem wi_nat {v b : Int32} {n : Nat} (h : wi v 0 b) (hb : b.toInt + 1 = n) : ∃ k : Nat, k < n ∧ v = nI k ∧ v.toInt = k := by
  rw [wi_iff] at h
  exact i32_nat h.1 (by omega)
theorem vi_nI {k n : Nat} (h : k < n) (hn : n < 2147483648) : vi (nI k) n = true := by
  unfold vi
  have h1 := nI_pos (n := k) (by omega)
  have h2 := nI_clamp (n := k) (by omega)
  simp [h1, h2]
  omega
theorem nI_tN {k : Nat} (h : k < 2147483648) : (nI k).toNatClampNeg = k := nI_clamp h
theorem get_ok {σ : Sg} {t n M W i f : Nat} (hM : σ t 1 = nI M) (hW : σ t 2 = nI W) (hn : M * W ≤ n) (hn2 : n < 2147483648) (hi : i < M) (hf : f < W) : f_X6_get t n σ (nI i) (nI f) = some (σ (t + 1) (i * W + f), σ) := by
  have hlt : i * W + f < M * W := by
    have h1 : (i + 1) * W ≤ M * W := Nat.mul_le_mul_right W hi
    rw [Nat.add_mul, Nat.one_mul] at h1
    omega
  have hM2 : M < 2147483648 := Nat.lt_of_le_of_lt (Nat.le_trans (Nat.le_mul_of_pos_right M (by omega)) hn) hn2
  have hW2 : W < 2147483648 := Nat.lt_of_le_of_lt (Nat.le_trans (Nat.le_mul_of_pos_left W (by omega)) hn) hn2
  have hx : nI i * nI W + nI f = nI (i * W + f) := by rw [pk_mul, nI_add]
  have hh : f_X6_has t n σ (nI i) (nI f) = some (1, σ) := by
    unfold f_X6_has c_X6_has_0
    rw [hM, hW, if_neg (nI_pos (by omega)), if_neg (nI_ge hi (by omega)), if_neg (nI_pos (by omega)), if_neg (nI_ge hf (by omega)), gd_t bz_1]
  unfold f_X6_get c_X6_get_0
  rw [hh, bd_s, if_neg (by decide), hW, hx, gd_t (vi_nI (by omega) hn2), nI_tN (by omega)]
theorem set_ok {σ : Sg} {t n M W i f : Nat} {v : Int32} (hM : σ t 1 = nI M) (hW : σ t 2 = nI W) (hn : M * W ≤ n) (hn2 : n < 2147483648) (hi : i < M) (hf : f < W) : f_X6_set t n σ (nI i) (nI f) v = some (sgu σ (t + 1) (i * W + f) v) := by
  have hlt : i * W + f < M * W := by
    have h1 : (i + 1) * W ≤ M * W := Nat.mul_le_mul_right W hi
    rw [Nat.add_mul, Nat.one_mul] at h1
    omega
  have hM2 : M < 2147483648 := Nat.lt_of_le_of_lt (Nat.le_trans (Nat.le_mul_of_pos_right M (by omega)) hn) hn2
  have hW2 : W < 2147483648 := Nat.lt_of_le_of_lt (Nat.le_trans (Nat.le_mul_of_pos_left W (by omega)) hn) hn2
  have hx : nI i * nI W + nI f = nI (i * W + f) := by rw [pk_mul, nI_add]
  have hh : f_X6_has t n σ (nI i) (nI f) = some (1, σ) := by
    unfold f_X6_has c_X6_has_0
    rw [hM, hW, if_neg (nI_pos (by omega)), if_neg (nI_ge hi (by omega)), if_neg (nI_pos (by omega)), if_neg (nI_ge hf (by omega)), gd_t bz_1]
  unfold f_X6_set c_X6_set_0
  rw [hh, bd_s, if_neg (by decide), hW, hx, gd_t (vi_nI (by omega) hn2), nI_tN (by omega), lt_e]
theorem full_t {σ : Sg} {t n M r : Nat} (hM : σ t 1 = nI M) (hr : σ t 3 = nI r) (h : M ≤ r) (hr2 : r < 2147483648) : f_X6_isFull t n σ = some (1, σ) := by
  unfold f_X6_isFull c_X6_isFull_0
  rw [hM, hr, if_neg (nI_nlt h hr2), gd_t bz_1]
theorem full_f {σ : Sg} {t n M r : Nat} (hM : σ t 1 = nI M) (hr : σ t 3 = nI r) (h : r < M) (hr2 : M < 2147483648) : f_X6_isFull t n σ = some (0, σ) := by
  unfold f_X6_isFull c_X6_isFull_0
  rw [hM, hr, if_pos (nI_lt h hr2), gd_t bz_0]
theorem add_ok {σ : Sg} {t n M r : Nat} (hM : σ t 1 = nI M) (hr : σ t 3 = nI r) (h : r < M) (hr2 : M < 2147483648) : f_X6_add t n σ = some (nI r, sgu σ t 3 (nI (r + 1))) := by
  unfold f_X6_add c_X6_add_0
  rw [full_f hM hr h hr2, bd_s, if_pos rfl, hr, lt_e]
  show lt_ (sgu σ t 3 (nI r + 1)) _ = _
  rw [nI_1, lt_e]
