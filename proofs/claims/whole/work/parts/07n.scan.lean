def scan (f : Nat → Int) : Nat → Nat → Int × Nat → Int × Nat
  | _, 0, acc => acc
  | c, n + 1, acc => scan f (c + 1) n (if acc.1 < f c then (f c, c) else acc)
theorem scan_add (f : Nat → Int) : ∀ (a b c : Nat) (acc : Int × Nat), scan f c (a + b) acc = scan f (c + a) b (scan f c a acc)
  | 0, b, c, acc => by rw [Nat.zero_add, Nat.add_zero]; rfl
  | a + 1, b, c, acc => by
    rw [show a + 1 + b = (a + b) + 1 by omega]
    show scan f (c + 1) (a + b) _ = scan f (c + (a + 1)) b (scan f (c + 1) a _)
    rw [scan_add f a b (c + 1), show c + 1 + a = c + (a + 1) by omega]
theorem scan_skip {f : Nat → Int} : ∀ (n c : Nat) (acc : Int × Nat), (∀ x, c ≤ x → x < c + n → f x ≤ acc.1) → scan f c n acc = acc
  | 0, _, _, _ => rfl
  | n + 1, c, acc, h => by
    show scan f (c + 1) n _ = acc
    have h0 := h c (Nat.le_refl _) (by omega)
    rw [if_neg (by omega)]
    exact scan_skip n (c + 1) acc (fun x h1 h2 => h x (by omega) (by omega))
theorem scan_congr {f g : Nat → Int} : ∀ (n c : Nat) (acc : Int × Nat), (∀ x, c ≤ x → x < c + n → f x = g x) → scan f c n acc = scan g c n acc
  | 0, _, _, _ => rfl
  | n + 1, c, acc, h => by
    show scan f (c + 1) n _ = scan g (c + 1) n _
    rw [h c (Nat.le_refl _) (by omega)]
    exact scan_congr n (c + 1) _ (fun x h1 h2 => h x (by omega) (by omega))
theorem scan_ge {f : Nat → Int} : ∀ (n c : Nat) (acc : Int × Nat), acc.1 ≤ (scan f c n acc).1
  | 0, _, _ => Int.le_refl _
  | n + 1, c, acc => by
    show acc.1 ≤ (scan f (c + 1) n _).1
    refine Int.le_trans ?_ (scan_ge n (c + 1) _)
    split
    · next h => exact Int.le_of_lt h
    · exact Int.le_refl _
theorem scan_le {f : Nat → Int} {M : Int} : ∀ (n c : Nat) (acc : Int × Nat), acc.1 ≤ M → (∀ x, c ≤ x → x < c + n → f x ≤ M) → (scan f c n acc).1 ≤ M
  | 0, _, _, h, _ => h
  | n + 1, c, acc, h, hf => by
    show (scan f (c + 1) n _).1 ≤ M
    refine scan_le n (c + 1) _ ?_ (fun x h1 h2 => hf x (by omega) (by omega))
    split
    · exact hf c (Nat.le_refl _) (by omega)
    · exact h
theorem scan_lt {f : Nat → Int} {M : Nat} : ∀ (n c : Nat) (acc : Int × Nat), acc.2 < M → c + n ≤ M → (scan f c n acc).2 < M
  | 0, _, _, h, _ => h
  | n + 1, c, acc, h, hf => by
    show (scan f (c + 1) n _).2 < M
    refine scan_lt n (c + 1) _ ?_ (by omega)
    split
    · show c < M; omega
    · exact h
def ev {S : Type} (B : Nat) (step : Nat → S → Nat → Option S) (val : S → Int) : Nat → Nat → S → Nat → Int
  | 0, _, s, _ => val s
  | d + 1, k, s, c => match step k s (c / B ^ d % B) with
    | none => -1
    | some s' => ev B step val d (k + 1) s' c
theorem ev_none {S : Type} {B : Nat} {step : Nat → S → Nat → Option S} {val : S → Int} {d k c : Nat} {s : S} (h : step k s (c / B ^ d % B) = none) : ev B step val (d + 1) k s c = -1 := by
  show (match step k s (c / B ^ d % B) with
    | none => -1
    | some s' => ev B step val d (k + 1) s' c) = -1
  rw [h]
theorem ev_some {S : Type} {B : Nat} {step : Nat → S → Nat → Option S} {val : S → Int} {d k c : Nat} {s s' : S} (h : step k s (c / B ^ d % B) = some s') : ev B step val (d + 1) k s c = ev B step val d (k + 1) s' c := by
  show (match step k s (c / B ^ d % B) with
    | none => -1
    | some s' => ev B step val d (k + 1) s' c) = _
  rw [h]
theorem dig_of {B d b c : Nat} (hB : 0 < B) (h1 : b * B ^ d ≤ c) (h2 : c < b * B ^ d + B ^ d) : c / B ^ d = b := by
  have hp : 0 < B ^ d := Nat.pow_pos hB
  apply Nat.div_eq_of_lt_le
  · exact h1
  · rw [Nat.add_mul, Nat.one_mul]; exact h2
theorem dig_mod {B b p : Nat} (hp : p < B) : (b * B + p) % B = p := by
  rw [Nat.mul_comm, Nat.mul_add_mod, Nat.mod_eq_of_lt hp]
/-- the scan of a child's block -/
theorem scan_child {S : Type} {B : Nat} {step : Nat → S → Nat → Option S} {val : S → Int} {d k b p : Nat} {s : S} {acc : Int × Nat} (hp : p < B) (ha : -1 ≤ acc.1) : scan (ev B step val (d + 1) k s) ((b * B + p) * B ^ d) (B ^ d) acc = match step k s p with
    | none => acc
    | some s' => scan (ev B step val d (k + 1) s') ((b * B + p) * B ^ d) (B ^ d) acc := by
  have hB : 0 < B := by omega
  have hd : ∀ x, (b * B + p) * B ^ d ≤ x → x < (b * B + p) * B ^ d + B ^ d → x / B ^ d % B = p := by
    intro x h1 h2
    rw [dig_of hB h1 h2, dig_mod hp]
  cases hs : step k s p with
  | none =>
    refine scan_skip _ _ _ (fun x h1 h2 => ?_)
    rw [ev_none (by rw [hd x h1 h2]; exact hs)]
    exact ha
  | some s' =>
    refine scan_congr _ _ _ (fun x h1 h2 => ?_)
    exact ev_some (by rw [hd x h1 h2]; exact hs)
theorem dig_le (b B d p : Nat) : (b * B + p) * B ^ d = b * B ^ (d + 1) + p * B ^ d := by
  rw [Nat.add_mul, Nat.mul_assoc, Nat.pow_succ, Nat.mul_comm (B ^ d) B]
/-- the scan of a node's block from child p on -/
theorem scan_from {S : Type} {B : Nat} {step : Nat → S → Nat → Option S} {val : S → Int} {d k b p r : Nat} {s : S} {acc : Int × Nat} (hpr : p + (r + 1) = B) (ha : -1 ≤ acc.1) : scan (ev B step val (d + 1) k s) ((b * B + p) * B ^ d) ((r + 1) * B ^ d) acc = scan (ev B step val (d + 1) k s) ((b * B + (p + 1)) * B ^ d) (r * B ^ d) (match step k s p with
    | none => acc
    | some s' => scan (ev B step val d (k + 1) s') ((b * B + p) * B ^ d) (B ^ d) acc) := by
  rw [← scan_child (by omega) ha, show (r + 1) * B ^ d = B ^ d + r * B ^ d by rw [Nat.add_mul, Nat.one_mul, Nat.add_comm], scan_add]
  rw [show (b * B + p) * B ^ d + B ^ d = (b * B + (p + 1)) * B ^ d by rw [show b * B + (p + 1) = (b * B + p) + 1 by omega, Nat.add_mul (b * B + p) 1, Nat.one_mul]]
theorem scan_node {S : Type} {B : Nat} {step : Nat → S → Nat → Option S} {val : S → Int} {d k b : Nat} {s : S} {acc : Int × Nat} : scan (ev B step val (d + 1) k s) (b * B ^ (d + 1)) (B ^ (d + 1)) acc = scan (ev B step val (d + 1) k s) ((b * B + 0) * B ^ d) (B * B ^ d) acc := by
  rw [show (b * B + 0) * B ^ d = b * (B * B ^ d) by rw [Nat.add_zero, Nat.mul_assoc], Nat.pow_succ, Nat.mul_comm (B ^ d) B]
