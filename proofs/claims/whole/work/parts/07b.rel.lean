theorem G_bd {β : Type} {fc : Option (Int32 × Sg)} {f : Int32 → Sg → Option β} {r : Int32} {σ : Sg} {o : β} (h : fc = some (r, σ)) (k : f r σ = some o) : bd fc f = some o := by rw [h]; exact k
theorem G_bdl {β : Type} {fc : Option (Int64 × Sg)} {f : Int64 → Sg → Option β} {r : Int64} {σ : Sg} {o : β} (h : fc = some (r, σ)) (k : f r σ = some o) : bdl fc f = some o := by rw [h]; exact k
theorem G_bdv {β : Type} {fc : Option Sg} {f : Sg → Option β} {σ : Sg} {o : β} (h : fc = some σ) (k : f σ = some o) : bdv fc f = some o := by rw [h]; exact k
theorem G_lt {α β : Type} {x : α} {f : α → Option β} {o : β} (k : f x = some o) : lt_ x f = some o := k
theorem G_gd {β : Type} {b : Bool} {x : Option β} {o : β} (h : b = true) (k : x = some o) : gd b x = some o := by rw [gd_t h]; exact k
theorem G_it {β : Type} {c : Prop} [Decidable c] {x y : Option β} {o : β} (h : c) (k : x = some o) : (if c then x else y) = some o := by rw [if_pos h]; exact k
theorem G_if {β : Type} {c : Prop} [Decidable c] {x y : Option β} {o : β} (h : ¬ c) (k : y = some o) : (if c then x else y) = some o := by rw [if_neg h]; exact k
theorem ch_get {σ : Sg} {u v : Int32} {i f : Nat} (h1 : σ 4 1 = 400) (h2 : σ 4 2 = 7) (hi : i < 400) (hu : u = nI i) (hv : v = nI f) (hf : f < 7) : f_X6_get 4 2800 σ u v = some (σ 5 (i * 7 + f), σ) := by rw [hu, hv]; exact get_ok (M := 400) (W := 7) h1 h2 (by decide) (by decide) hi hf
theorem ch_set {σ : Sg} {u v w : Int32} {i f : Nat} (h1 : σ 4 1 = 400) (h2 : σ 4 2 = 7) (hi : i < 400) (hu : u = nI i) (hv : v = nI f) (hf : f < 7) : f_X6_set 4 2800 σ u v w = some (sgu σ 5 (i * 7 + f) w) := by rw [hu, hv]; exact set_ok (M := 400) (W := 7) h1 h2 (by decide) (by decide) hi hf
theorem pg_get {σ : Sg} {u v : Int32} {i f : Nat} (h1 : σ 8 1 = 60) (h2 : σ 8 2 = 6) (hi : i < 60) (hu : u = nI i) (hv : v = nI f) (hf : f < 6) : f_X6_get 8 360 σ u v = some (σ 9 (i * 6 + f), σ) := by rw [hu, hv]; exact get_ok (M := 60) (W := 6) h1 h2 (by decide) (by decide) hi hf
theorem pg_set {σ : Sg} {u v w : Int32} {i f : Nat} (h1 : σ 8 1 = 60) (h2 : σ 8 2 = 6) (hi : i < 60) (hu : u = nI i) (hv : v = nI f) (hf : f < 6) : f_X6_set 8 360 σ u v w = some (sgu σ 9 (i * 6 + f) w) := by rw [hu, hv]; exact set_ok (M := 60) (W := 6) h1 h2 (by decide) (by decide) hi hf
theorem ru_get {σ : Sg} {u v : Int32} {i f : Nat} (h1 : σ 13 1 = 8) (h2 : σ 13 2 = 4) (hi : i < 8) (hu : u = nI i) (hv : v = nI f) (hf : f < 4) : f_X6_get 13 32 σ u v = some (σ 14 (i * 4 + f), σ) := by rw [hu, hv]; exact get_ok (M := 8) (W := 4) h1 h2 (by decide) (by decide) hi hf
theorem ru_set {σ : Sg} {u v w : Int32} {i f : Nat} (h1 : σ 13 1 = 8) (h2 : σ 13 2 = 4) (hi : i < 8) (hu : u = nI i) (hv : v = nI f) (hf : f < 4) : f_X6_set 13 32 σ u v w = some (sgu σ 14 (i * 4 + f) w) := by rw [hu, hv]; exact set_ok (M := 8) (W := 4) h1 h2 (by decide) (by decide) hi hf
theorem fg_get {σ : Sg} {u v : Int32} {i f : Nat} (h1 : σ 15 1 = 3) (h2 : σ 15 2 = 3) (hi : i < 3) (hu : u = nI i) (hv : v = nI f) (hf : f < 3) : f_X6_get 15 9 σ u v = some (σ 16 (i * 3 + f), σ) := by rw [hu, hv]; exact get_ok (M := 3) (W := 3) h1 h2 (by decide) (by decide) hi hf
theorem fg_set {σ : Sg} {u v w : Int32} {i f : Nat} (h1 : σ 15 1 = 3) (h2 : σ 15 2 = 3) (hi : i < 3) (hu : u = nI i) (hv : v = nI f) (hf : f < 3) : f_X6_set 15 9 σ u v w = some (sgu σ 16 (i * 3 + f) w) := by rw [hu, hv]; exact set_ok (M := 3) (W := 3) h1 h2 (by decide) (by decide) hi hf
theorem mo_get {σ : Sg} {u v : Int32} {i f : Nat} (h1 : σ 25 1 = 12) (h2 : σ 25 2 = 2) (hi : i < 12) (hu : u = nI i) (hv : v = nI f) (hf : f < 2) : f_X6_get 25 24 σ u v = some (σ 26 (i * 2 + f), σ) := by rw [hu, hv]; exact get_ok (M := 12) (W := 2) h1 h2 (by decide) (by decide) hi hf
theorem mo_set {σ : Sg} {u v w : Int32} {i f : Nat} (h1 : σ 25 1 = 12) (h2 : σ 25 2 = 2) (hi : i < 12) (hu : u = nI i) (hv : v = nI f) (hf : f < 2) : f_X6_set 25 24 σ u v w = some (sgu σ 26 (i * 2 + f) w) := by rw [hu, hv]; exact set_ok (M := 12) (W := 2) h1 h2 (by decide) (by decide) hi hf
theorem pc_get {σ : Sg} {u v : Int32} {i f : Nat} (h1 : σ 27 1 = 5) (h2 : σ 27 2 = 3) (hi : i < 5) (hu : u = nI i) (hv : v = nI f) (hf : f < 3) : f_X6_get 27 15 σ u v = some (σ 28 (i * 3 + f), σ) := by rw [hu, hv]; exact get_ok (M := 5) (W := 3) h1 h2 (by decide) (by decide) hi hf
theorem pc_set {σ : Sg} {u v w : Int32} {i f : Nat} (h1 : σ 27 1 = 5) (h2 : σ 27 2 = 3) (hi : i < 5) (hu : u = nI i) (hv : v = nI f) (hf : f < 3) : f_X6_set 27 15 σ u v w = some (sgu σ 28 (i * 3 + f) w) := by rw [hu, hv]; exact set_ok (M := 5) (W := 3) h1 h2 (by decide) (by decide) hi hf
def R_st (a b : Nat → Int32) : Prop := ∀ k, k < 6 → a k = b k
def R_ri (a b : Nat → Int32) : Prop := ∀ k, k < 4 → a k = b k ∧ rng (a k) 10 60
def R_ci (lo : Nat) (C A B O F K S I : Nat → Int32) (i : Nat) : Prop := C (i * 7 + 0) = A i ∧ C (i * 7 + 1) = B i ∧ C (i * 7 + 2) = O i ∧ C (i * 7 + 3) = F i ∧ C (i * 7 + 4) = K i ∧ C (i * 7 + 5) = S i ∧ C (i * 7 + 6) = I i ∧ (A i = 0 ↔ lo ≤ i) ∧ rng (B i) 0 60 ∧ rng (O i) 0 60 ∧ rng (F i) 0 30 ∧ rng (K i) 0 3
def R_ch (lx M W rows : Int32) (C : Nat → Int32) (cm lm : Int32) (A B O F K S I : Nat → Int32) : Prop := M = 400 ∧ W = 7 ∧ ∃ c lo : Nat, lo ≤ c ∧ c ≤ 400 ∧ c ≤ lo + 12 ∧ lx = nI lo ∧ rows = nI c ∧ cm = nI c ∧ lm = nI lo ∧ ∀ i, i < c → R_ci lo C A B O F K S I i
def R_sc (h f m : Nat → Int32) : Prop := (h 0 = m 15 ∧ h 1 = m 12 ∧ h 2 = m 22 ∧ h 3 = m 21 ∧ h 4 = m 25 ∧ h 5 = m 26 ∧ h 6 = m 24) ∧ (f 0 = m 11 ∧ f 1 = m 14 ∧ f 2 = m 16 ∧ f 4 = m 17 ∧ f 5 = m 13 ∧ f 6 = m 18 ∧ f 7 = m 19 ∧ f 8 = m 20 ∧ f 9 = m 23) ∧ rng (m 11) 0 20 ∧ rng (m 15) 0 500 ∧ rng (m 12) 1 500 ∧ (m 25 = -1 ↔ m 24 = -1) ∧ rng (m 24) (-1) 3 ∧ (m 15 ≠ 0 → m 24 ≠ -1)
def sold (G : Nat → Int32) : Nat → Nat
  | 0 => 0
  | n + 1 => sold G n + if G n = -1 then 0 else 1
def R_pi (C W S F L H G : Nat → Int32) (i : Nat) : Prop := C (i * 6 + 0) = W i ∧ C (i * 6 + 1) = S i ∧ C (i * 6 + 2) = F i ∧ C (i * 6 + 3) = L i ∧ C (i * 6 + 4) = H i ∧ C (i * 6 + 5) = G i ∧ rng (W i) 0 500 ∧ rng (S i) 0 3
def R_pg (sx px M Wd rows : Int32) (C : Nat → Int32) (pm pd : Int32) (W S F L H G : Nat → Int32) : Prop := M = 60 ∧ Wd = 6 ∧ px = pd ∧ ∃ p : Nat, p ≤ 60 ∧ rows = nI p ∧ pm = nI p ∧ sx = nI (sold G p) ∧ ∀ i, i < p → R_pi C W S F L H G i
def R_sg (a b c d : Nat → Int32) : Prop := ∀ k, k < 3 → a k = c k ∧ b k = d k
def R_ru (M W rows : Int32) (C : Nat → Int32) (rm : Int32) (S A L T : Nat → Int32) : Prop := M = 8 ∧ W = 4 ∧ ∃ r : Nat, r ≤ 8 ∧ rows = nI r ∧ rm = nI r ∧ ∀ i, i < r → C (i * 4 + 0) = S i ∧ C (i * 4 + 1) = A i ∧ C (i * 4 + 2) = L i ∧ C (i * 4 + 3) = T i ∧ rng (S i) 0 2 ∧ rng (A i) 0 1
def R_fg (M W rows : Int32) (C : Nat → Int32) (fm : Int32) (T W2 P : Nat → Int32) : Prop := M = 3 ∧ W = 3 ∧ ∃ n : Nat, n ≤ 3 ∧ rows = nI n ∧ fm = nI n ∧ ∀ i, i < n → C (i * 3 + 0) = T i ∧ C (i * 3 + 1) = W2 i ∧ C (i * 3 + 2) = P i ∧ rng (T i) 0 15 ∧ rng (W2 i) 0 2000 ∧ rng (P i) 1 50
def R_mo (M W : Int32) (C A B : Nat → Int32) : Prop := M = 12 ∧ W = 2 ∧ ∀ i, i < 12 → C (i * 2 + 0) = A i ∧ C (i * 2 + 1) = B i ∧ rng (A i) 0 4 ∧ rng (B i) 0 1000
def R_pc (M W : Int32) (C A B D : Nat → Int32) : Prop := M = 5 ∧ W = 3 ∧ ∀ i, i < 5 → C (i * 3 + 0) = A i ∧ C (i * 3 + 1) = B i ∧ C (i * 3 + 2) = D i ∧ rng (A i) 0 1000 ∧ rng (B i) 0 1000 ∧ rng (D i) 0 1000
def R_pl (n : Int32) (B : Nat → Int32) (m : Int32) (P : Nat → Int32) : Prop := ∃ k : Nat, k ≤ 6 ∧ n = nI k ∧ m = nI k ∧ ∀ i, i < k → B i = P i
def Rel (σ τ : Sg) : Prop := R_st (σ 1) (τ 37) ∧ R_ri (σ 2) (τ 38) ∧ R_ch (σ 3 1) (σ 4 1) (σ 4 2) (σ 4 3) (σ 5) (τ 36 2) (τ 36 3) (τ 39) (τ 40) (τ 41) (τ 42) (τ 43) (τ 44) (τ 45) ∧ R_sc (σ 6) (σ 7) (τ 36) ∧ R_pg (σ 0 13) (σ 0 14) (σ 8 1) (σ 8 2) (σ 8 3) (σ 9) (τ 36 27) (τ 36 45) (τ 46) (τ 47) (τ 48) (τ 49) (τ 50) (τ 51) ∧ R_sg (σ 11) (σ 12) (τ 52) (τ 53) ∧ R_ru (σ 13 1) (σ 13 2) (σ 13 3) (σ 14) (τ 36 36) (τ 54) (τ 55) (τ 56) (τ 57) ∧ R_fg (σ 15 1) (σ 15 2) (σ 15 3) (σ 16) (τ 36 41) (τ 58) (τ 59) (τ 60) ∧ R_mo (σ 25 1) (σ 25 2) (σ 26) (τ 61) (τ 62) ∧ R_pc (σ 27 1) (σ 27 2) (σ 28) (τ 63) (τ 64) (τ 65) ∧ R_pl (σ 29 8) (σ 35) (τ 36 52) (τ 66)
theorem Rel.cong {σ τ σ' τ' : Sg} (h : Rel σ τ) (h1 : ∀ q, q < 36 → σ' q = σ q) (h2 : ∀ q, 36 ≤ q → τ' q = τ q) : Rel σ' τ' := by
  unfold Rel at h ⊢
  rw [h1 0 (by decide), h1 1 (by decide), h1 2 (by decide), h1 3 (by decide), h1 4 (by decide), h1 5 (by decide), h1 6 (by decide), h1 7 (by decide), h1 8 (by decide), h1 9 (by decide), h1 11 (by decide), h1 12 (by decide), h1 13 (by decide), h1 14 (by decide), h1 15 (by decide), h1 16 (by decide), h1 25 (by decide), h1 26 (by decide), h1 27 (by decide), h1 28 (by decide), h1 29 (by decide), h1 35 (by decide)]
  rw [h2 36 (by decide), h2 37 (by decide), h2 38 (by decide), h2 39 (by decide), h2 40 (by decide), h2 41 (by decide), h2 42 (by decide), h2 43 (by decide), h2 44 (by decide), h2 45 (by decide), h2 46 (by decide), h2 47 (by decide), h2 48 (by decide), h2 49 (by decide), h2 50 (by decide), h2 51 (by decide), h2 52 (by decide), h2 53 (by decide), h2 54 (by decide), h2 55 (by decide), h2 56 (by decide), h2 57 (by decide), h2 58 (by decide), h2 59 (by decide), h2 60 (by decide), h2 61 (by decide), h2 62 (by decide), h2 63 (by decide), h2 64 (by decide), h2 65 (by decide), h2 66 (by decide)]
  exact h
def StI (fx fm : Sg → Option (Int32 × Sg)) : Prop := ∀ σ τ, Rel σ τ → ∃ r σ' τ', fx σ = some (r, σ') ∧ fm τ = some (r, τ') ∧ Rel σ' τ'
def StL (fx fm : Sg → Option (Int64 × Sg)) : Prop := ∀ σ τ, Rel σ τ → ∃ r σ' τ', fx σ = some (r, σ') ∧ fm τ = some (r, τ') ∧ Rel σ' τ'
theorem Fr.hi {ws : List (Nat × Option Nat)} {a b : Sg} (h : Fr ws a b) (hw : ws.all (fun z => decide (z.1 < 36)) = true) : ∀ q, 36 ≤ q → b q = a q := by
  intro q hq
  refine h.cell q (List.all_eq_true.mpr (fun z hz => ?_))
  have := List.all_eq_true.mp hw z hz
  simp at this ⊢
  omega
theorem Fr.lo {ws : List (Nat × Option Nat)} {a b : Sg} (h : Fr ws a b) (hw : ws.all (fun z => decide (36 ≤ z.1)) = true) : ∀ q, q < 36 → b q = a q := by
  intro q hq
  refine h.cell q (List.all_eq_true.mpr (fun z hz => ?_))
  have := List.all_eq_true.mp hw z hz
  simp at this ⊢
  omega
theorem StI.law {fx fm : Sg → Option (Int32 × Sg)} (h : StI fx fm) (hx : ∀ σ o, fx σ = some o → ∀ q, 36 ≤ q → o.2 q = σ q) (hm : ∀ σ o, fm σ = some o → ∀ q, q < 36 → o.2 q = σ q) (σ : Sg) (R : Rel σ σ) : ∃ r σ' τ', fx σ = some (r, σ') ∧ fm σ' = some (r, τ') ∧ Rel τ' τ' := by
  obtain ⟨r, σ', -, e1, -, -⟩ := h σ σ R
  have h1 := hx σ _ e1
  obtain ⟨r2, σ2, τ2, e2, e3, R2⟩ := h σ σ' (R.cong (fun _ _ => rfl) h1)
  have e := Option.some.inj (e1.symm.trans e2)
  cases e
  exact ⟨r, σ', τ2, e1, e3, R2.cong (hm _ _ e3) (fun _ _ => rfl)⟩
theorem StL.law {fx fm : Sg → Option (Int64 × Sg)} (h : StL fx fm) (hx : ∀ σ o, fx σ = some o → ∀ q, 36 ≤ q → o.2 q = σ q) (hm : ∀ σ o, fm σ = some o → ∀ q, q < 36 → o.2 q = σ q) (σ : Sg) (R : Rel σ σ) : ∃ r σ' τ', fx σ = some (r, σ') ∧ fm σ' = some (r, τ') ∧ Rel τ' τ' := by
  obtain ⟨r, σ', -, e1, -, -⟩ := h σ σ R
  have h1 := hx σ _ e1
  obtain ⟨r2, σ2, τ2, e2, e3, R2⟩ := h σ σ' (R.cong (fun _ _ => rfl) h1)
  have e := Option.some.inj (e1.symm.trans e2)
  cases e
  exact ⟨r, σ', τ2, e1, e3, R2.cong (hm _ _ e3) (fun _ _ => rfl)⟩
