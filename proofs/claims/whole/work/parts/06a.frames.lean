def Fr (ws : List (Nat × Option Nat)) (σ σ' : Sg) : Prop := ∀ q k, (q, none) ∉ ws → (q, some k) ∉ ws → σ' q k = σ q k
theorem Fr.rf {ws : List (Nat × Option Nat)} {σ : Sg} : Fr ws σ σ := fun _ _ _ _ => rfl
theorem Fr.tr {ws : List (Nat × Option Nat)} {a b c : Sg} (h1 : Fr ws a b) (h2 : Fr ws b c) : Fr ws a c := fun q k x y => (h2 q k x y).trans (h1 q k x y)
theorem Fr.mo {ws ws' : List (Nat × Option Nat)} {a b : Sg} (h : Fr ws a b) (hs : ∀ q, q ∈ ws → q ∈ ws') : Fr ws' a b := fun q k x y => h q k (fun z => x (hs _ z)) (fun z => y (hs _ z))
theorem Fr.put {ws : List (Nat × Option Nat)} {a b c : Sg} {q k : Nat} {v : Int32} (h : Fr ws a b) (e : c = sgu b q k v) (hq : (q, none) ∈ ws ∨ (q, some k) ∈ ws) : Fr ws a c := by
  intro x y h1 h2
  rw [e]
  show (if x = q then upd (b q) k v else b x) y = a x y
  by_cases hx : x = q
  · rw [if_pos hx]
    subst hx
    rcases hq with hq | hq
    · exact absurd hq h1
    · show (if y = k then v else b x y) = _
      rw [if_neg (fun z => h2 (by rw [z]; exact hq))]
      exact h x y h1 h2
  · rw [if_neg hx]
    exact h x y h1 h2
theorem Fr.cell {ws : List (Nat × Option Nat)} {a b : Sg} (h : Fr ws a b) (q : Nat) (hq : ws.all (fun z => !(z.1 == q)) = true) : b q = a q := by
  have hn : ∀ x, (q, x) ∉ ws := by
    intro x hx
    have := List.all_eq_true.mp hq _ hx
    simp at this
  exact funext (fun k => h q k (hn _) (hn _))
theorem lt_some {α β : Type} {x : α} {k : α → Option β} {r : β} (h : lt_ x k = some r) : ∃ y, y = x ∧ k y = some r := ⟨x, rfl, h⟩
theorem ite_or {α : Type} {c : Prop} [Decidable c] {x y : Option α} {r : α} (h : (if c then x else y) = some r) : x = some r ∨ y = some r := by
  by_cases hc : c
  · rw [if_pos hc] at h
    exact Or.inl h
  · rw [if_neg hc] at h
    exact Or.inr h
theorem fr_X6_isFull_0 {t n : Nat} {o : Int32 × Sg} (s : Sg) (hf : c_X6_isFull_0 t n s = some o) : Fr [] s o.2 := by
  unfold c_X6_isFull_0 at hf
  have e : Fr [] s s := Fr.rf
  rcases ite_or hf with hf | hf
  · have hf := (gd_some hf).2
    cases hf
    exact e
  · have hf := (gd_some hf).2
    cases hf
    exact e
theorem fr_X6_isFull {t n : Nat} {s : Sg} {o : Int32 × Sg} (hf : f_X6_isFull t n s = some o) : Fr [] s o.2 := fr_X6_isFull_0 s hf
theorem fr_X6_add_0 {t n : Nat} {o : Int32 × Sg} (s : Sg) (hf : c_X6_add_0 t n s = some o) : Fr [(t, some 3)] s o.2 := by
  unfold c_X6_add_0 at hf
  have e : Fr [(t, some 3)] s s := Fr.rf
  obtain ⟨r2, s1, h9, hf⟩ := bd_some hf
  have e := e.tr ((fr_X6_isFull h9).mo (by simp))
  rcases ite_or hf with hf | hf
  · obtain ⟨x3, -, hf⟩ := lt_some hf
    obtain ⟨s4, h9, hf⟩ := lt_some hf
    have e := e.put h9 (Or.inr (by simp))
    cases hf
    exact e
  · cases hf
    exact e
theorem fr_X6_add {t n : Nat} {s : Sg} {o : Int32 × Sg} (hf : f_X6_add t n s = some o) : Fr [(t, some 3)] s o.2 := fr_X6_add_0 s hf
theorem fr_X6_has_0 {t n : Nat} {o : Int32 × Sg} (s : Sg) (v1 : Int32) (v2 : Int32) (hf : c_X6_has_0 t n s v1 v2 = some o) : Fr [] s o.2 := by
  unfold c_X6_has_0 at hf
  have e : Fr [] s s := Fr.rf
  rcases ite_or hf with hf | hf
  · have hf := (gd_some hf).2
    cases hf
    exact e
  · rcases ite_or hf with hf | hf
    · have hf := (gd_some hf).2
      cases hf
      exact e
    · rcases ite_or hf with hf | hf
      · have hf := (gd_some hf).2
        cases hf
        exact e
      · rcases ite_or hf with hf | hf
        · have hf := (gd_some hf).2
          cases hf
          exact e
        · have hf := (gd_some hf).2
          cases hf
          exact e
theorem fr_X6_has {t n : Nat} {s : Sg} {v1 : Int32} {v2 : Int32} {o : Int32 × Sg} (hf : f_X6_has t n s v1 v2 = some o) : Fr [] s o.2 := fr_X6_has_0 s v1 v2 hf
theorem fr_X6_get_0 {t n : Nat} {o : Int32 × Sg} (s : Sg) (v1 : Int32) (v2 : Int32) (hf : c_X6_get_0 t n s v1 v2 = some o) : Fr [] s o.2 := by
  unfold c_X6_get_0 at hf
  have e : Fr [] s s := Fr.rf
  obtain ⟨r2, s1, h9, hf⟩ := bd_some hf
  have e := e.tr ((fr_X6_has h9).mo (by simp))
  rcases ite_or hf with hf | hf
  · cases hf
    exact e
  · have hf := (gd_some hf).2
    cases hf
    exact e
theorem fr_X6_get {t n : Nat} {s : Sg} {v1 : Int32} {v2 : Int32} {o : Int32 × Sg} (hf : f_X6_get t n s v1 v2 = some o) : Fr [] s o.2 := fr_X6_get_0 s v1 v2 hf
theorem fr_X6_set_0 {t n : Nat} {o : Sg} (s : Sg) (v1 : Int32) (v2 : Int32) (v3 : Int32) (hf : c_X6_set_0 t n s v1 v2 v3 = some o) : Fr [(t + 1, none)] s o := by
  unfold c_X6_set_0 at hf
  have e : Fr [(t + 1, none)] s s := Fr.rf
  obtain ⟨r2, s1, h9, hf⟩ := bd_some hf
  have e := e.tr ((fr_X6_has h9).mo (by simp))
  rcases ite_or hf with hf | hf
  · cases hf
    exact e
  · have hf := (gd_some hf).2
    obtain ⟨s3, h9, hf⟩ := lt_some hf
    have e := e.put h9 (Or.inl (by simp))
    cases hf
    exact e
theorem fr_X6_set {t n : Nat} {s : Sg} {v1 : Int32} {v2 : Int32} {v3 : Int32} {o : Sg} (hf : f_X6_set t n s v1 v2 v3 = some o) : Fr [(t + 1, none)] s o := fr_X6_set_0 s v1 v2 v3 hf
theorem fr_X6_mixInto_13 {t n : Nat} {N : Nat} {o : Int64 × Sg} {K13 : Sg → Int64 → Int32 → Int32 → Option (Int64 × Sg)} (gK13 : ∀ (s : Sg) (v1 : Int64) (v3 : Int32) (v4 : Int32), K13 s v1 v3 v4 = some o → Fr [] s o.2) (s : Sg) (v1 : Int64) (v3 : Int32) (v4 : Int32) (hf : c_X6_mixInto_13 t n N K13 s v1 v3 v4 = some o) : Fr [] s o.2 := by
  unfold c_X6_mixInto_13 at hf
  have e : Fr [] s s := Fr.rf
  rcases ite_or hf with hf | hf
  · cases hf
    exact e
  · rcases ite_or hf with hf | hf
    · cases hf
      exact e
    · have hf := (gd_some hf).2
      obtain ⟨x1, -, hf⟩ := lt_some hf
      exact e.tr (gK13 _ _ _ _ hf)
theorem fh_X6_mixInto_13 {t n : Nat} {N : Nat} {o : Int64 × Sg} : ∀ (j : Nat) (s : Sg) (v1 : Int64) (v3 : Int32) (v4 : Int32), b_X6_mixInto_13 t n N j s v1 v3 v4 = some o → Fr [] s o.2 := by
  intro j
  induction j with
  | zero => intro s v1 v3 v4 hf; cases (show none = some o from hf)
  | succ j ih => intro s v1 v3 v4 hf; exact fr_X6_mixInto_13 ih s v1 v3 v4 hf
theorem fr_X6_mixInto_0 {t n : Nat} {N : Nat} {o : Int64 × Sg} (s : Sg) (v1 : Int64) (hf : c_X6_mixInto_0 t n N s v1 = some o) : Fr [] s o.2 := by
  unfold c_X6_mixInto_0 at hf
  have e : Fr [] s s := Fr.rf
  obtain ⟨x1, -, hf⟩ := lt_some hf
  exact e.tr (fh_X6_mixInto_13 _ _ _ _ _ hf)
theorem fr_X6_mixInto {t n : Nat} {N : Nat} {s : Sg} {v1 : Int64} {o : Int64 × Sg} (hf : f_X6_mixInto t n N s v1 = some o) : Fr [] s o.2 := fr_X6_mixInto_0 s v1 hf
theorem fr_X0_size_0 {o : Int32 × Sg} (s : Sg) (hf : c_X0_size_0 s = some o) : Fr [] s o.2 := by
  unfold c_X0_size_0 at hf
  have e : Fr [] s s := Fr.rf
  cases hf
  exact e
theorem fr_X0_size {s : Sg} {o : Int32 × Sg} (hf : f_X0_size s = some o) : Fr [] s o.2 := fr_X0_size_0 s hf
theorem fr_X0_lay_0 {o : Int32 × Sg} (s : Sg) (v1 : Int32) (v2 : Int32) (v3 : Int32) (v4 : Int32) (hf : c_X0_lay_0 s v1 v2 v3 v4 = some o) : Fr [(4, some 3), (5, none)] s o.2 := by
  unfold c_X0_lay_0 at hf
  have e : Fr [(4, some 3), (5, none)] s s := Fr.rf
  obtain ⟨r2, s1, h9, hf⟩ := bd_some hf
  have e := e.tr ((fr_X6_add h9).mo (by simp))
  obtain ⟨s3, h9, hf⟩ := bdv_some hf
  have e := e.tr ((fr_X6_set h9).mo (by simp))
  obtain ⟨s5, h9, hf⟩ := bdv_some hf
  have e := e.tr ((fr_X6_set h9).mo (by simp))
  obtain ⟨s7, h9, hf⟩ := bdv_some hf
  have e := e.tr ((fr_X6_set h9).mo (by simp))
  obtain ⟨s9, h9, hf⟩ := bdv_some hf
  have e := e.tr ((fr_X6_set h9).mo (by simp))
  obtain ⟨s11, h9, hf⟩ := bdv_some hf
  have e := e.tr ((fr_X6_set h9).mo (by simp))
  obtain ⟨s13, h9, hf⟩ := bdv_some hf
  have e := e.tr ((fr_X6_set h9).mo (by simp))
  obtain ⟨s15, h9, hf⟩ := bdv_some hf
  have e := e.tr ((fr_X6_set h9).mo (by simp))
  cases hf
  exact e
theorem fr_X0_lay {s : Sg} {v1 : Int32} {v2 : Int32} {v3 : Int32} {v4 : Int32} {o : Int32 × Sg} (hf : f_X0_lay s v1 v2 v3 v4 = some o) : Fr [(4, some 3), (5, none)] s o.2 := fr_X0_lay_0 s v1 v2 v3 v4 hf
theorem fr_X0_coalDownFrom_7 {N : Nat} {o : Int32 × Sg} {K7 : Sg → Int32 → Int32 → Int32 → Option (Int32 × Sg)} (gK7 : ∀ (s : Sg) (v1 : Int32) (v2 : Int32) (v3 : Int32), K7 s v1 v2 v3 = some o → Fr [] s o.2) (s : Sg) (v1 : Int32) (v2 : Int32) (v3 : Int32) (hf : c_X0_coalDownFrom_7 N K7 s v1 v2 v3 = some o) : Fr [] s o.2 := by
  unfold c_X0_coalDownFrom_7 at hf
  have e : Fr [] s s := Fr.rf
  rcases ite_or hf with hf | hf
  · cases hf
    exact e
  · rcases ite_or hf with hf | hf
    · cases hf
      exact e
    · obtain ⟨r2, s1, h9, hf⟩ := bd_some hf
      have e := e.tr ((fr_X6_get h9).mo (by simp))
      obtain ⟨x3, -, hf⟩ := lt_some hf
      exact e.tr (gK7 _ _ _ _ hf)
theorem fh_X0_coalDownFrom_7 {N : Nat} {o : Int32 × Sg} : ∀ (j : Nat) (s : Sg) (v1 : Int32) (v2 : Int32) (v3 : Int32), b_X0_coalDownFrom_7 N j s v1 v2 v3 = some o → Fr [] s o.2 := by
  intro j
  induction j with
  | zero => intro s v1 v2 v3 hf; cases (show none = some o from hf)
  | succ j ih => intro s v1 v2 v3 hf; exact fr_X0_coalDownFrom_7 ih s v1 v2 v3 hf
theorem fr_X0_coalDownFrom_0 {N : Nat} {o : Int32 × Sg} (s : Sg) (v1 : Int32) (hf : c_X0_coalDownFrom_0 N s v1 = some o) : Fr [] s o.2 := by
  unfold c_X0_coalDownFrom_0 at hf
  have e : Fr [] s s := Fr.rf
  obtain ⟨x1, -, hf⟩ := lt_some hf
  exact e.tr (fh_X0_coalDownFrom_7 _ _ _ _ _ hf)
theorem fr_X0_coalDownFrom {N : Nat} {s : Sg} {v1 : Int32} {o : Int32 × Sg} (hf : f_X0_coalDownFrom N s v1 = some o) : Fr [] s o.2 := fr_X0_coalDownFrom_0 s v1 hf
theorem fr_X0_burn_7 {N : Nat} {o : Int32 × Sg} {K7 : Sg → Int32 → Int32 → Int32 → Option (Int32 × Sg)} (gK7 : ∀ (s : Sg) (v1 : Int32) (v2 : Int32) (v3 : Int32), K7 s v1 v2 v3 = some o → Fr [(5, none)] s o.2) (s : Sg) (v1 : Int32) (v2 : Int32) (v3 : Int32) (hf : c_X0_burn_7 N K7 s v1 v2 v3 = some o) : Fr [(5, none)] s o.2 := by
  unfold c_X0_burn_7 at hf
  have e : Fr [(5, none)] s s := Fr.rf
  rcases ite_or hf with hf | hf
  · cases hf
    exact e
  · rcases ite_or hf with hf | hf
    · cases hf
      exact e
    · obtain ⟨r2, s1, h9, hf⟩ := bd_some hf
      have e := e.tr ((fr_X6_get h9).mo (by simp))
      obtain ⟨x3, -, hf⟩ := lt_some hf
      obtain ⟨s4, h9, hf⟩ := bdv_some hf
      have e := e.tr ((fr_X6_set h9).mo (by simp))
      obtain ⟨x6, -, hf⟩ := lt_some hf
      exact e.tr (gK7 _ _ _ _ hf)
theorem fh_X0_burn_7 {N : Nat} {o : Int32 × Sg} : ∀ (j : Nat) (s : Sg) (v1 : Int32) (v2 : Int32) (v3 : Int32), b_X0_burn_7 N j s v1 v2 v3 = some o → Fr [(5, none)] s o.2 := by
  intro j
  induction j with
  | zero => intro s v1 v2 v3 hf; cases (show none = some o from hf)
  | succ j ih => intro s v1 v2 v3 hf; exact fr_X0_burn_7 ih s v1 v2 v3 hf
theorem fr_X0_burn_0 {N : Nat} {o : Int32 × Sg} (s : Sg) (v1 : Int32) (hf : c_X0_burn_0 N s v1 = some o) : Fr [(5, none)] s o.2 := by
  unfold c_X0_burn_0 at hf
  have e : Fr [(5, none)] s s := Fr.rf
  obtain ⟨x1, -, hf⟩ := lt_some hf
  exact e.tr (fh_X0_burn_7 _ _ _ _ _ hf)
theorem fr_X0_burn {N : Nat} {s : Sg} {v1 : Int32} {o : Int32 × Sg} (hf : f_X0_burn N s v1 = some o) : Fr [(5, none)] s o.2 := fr_X0_burn_0 s v1 hf
theorem fr_X0_lowestIsBurned_0 {o : Int32 × Sg} (s : Sg) (hf : c_X0_lowestIsBurned_0 s = some o) : Fr [] s o.2 := by
  unfold c_X0_lowestIsBurned_0 at hf
  have e : Fr [] s s := Fr.rf
  rcases ite_or hf with hf | hf
  · have hf := (gd_some hf).2
    cases hf
    exact e
  · obtain ⟨r2, s1, h9, hf⟩ := bd_some hf
    have e := e.tr ((fr_X6_get h9).mo (by simp))
    rcases ite_or hf with hf | hf
    · have hf := (gd_some hf).2
      cases hf
      exact e
    · have hf := (gd_some hf).2
      cases hf
      exact e
theorem fr_X0_lowestIsBurned {s : Sg} {o : Int32 × Sg} (hf : f_X0_lowestIsBurned s = some o) : Fr [] s o.2 := fr_X0_lowestIsBurned_0 s hf
theorem fr_X2_pour_41 {o : Sg} (s : Sg) (v1 : Int32) (u1 : Int32) (hf : c_X2_pour_41 s v1 u1 = some o) : Fr [(6, some 0), (6, some 2), (6, some 4), (6, some 5), (6, some 6)] s o := by
  unfold c_X2_pour_41 at hf
  have e : Fr [(6, some 0), (6, some 2), (6, some 4), (6, some 5), (6, some 6)] s s := Fr.rf
  obtain ⟨s1, h9, hf⟩ := lt_some hf
  have e := e.put h9 (Or.inr (by simp))
  rcases ite_or hf with hf | hf
  · obtain ⟨s3, h9, hf⟩ := lt_some hf
    have e := e.put h9 (Or.inr (by simp))
    obtain ⟨s4, h9, hf⟩ := lt_some hf
    have e := e.put h9 (Or.inr (by simp))
    cases hf
    exact e
  · obtain ⟨s2, h9, hf⟩ := lt_some hf
    have e := e.put h9 (Or.inr (by simp))
    cases hf
    exact e
theorem fr_X2_pour_0 {o : Sg} (s : Sg) (v1 : Int32) (v2 : Int32) (v3 : Int32) (hf : c_X2_pour_0 s v1 v2 v3 = some o) : Fr [(6, some 0), (6, some 2), (6, some 4), (6, some 5), (6, some 6)] s o := by
  unfold c_X2_pour_0 at hf
  have e : Fr [(6, some 0), (6, some 2), (6, some 4), (6, some 5), (6, some 6)] s s := Fr.rf
  obtain ⟨s1, h9, hf⟩ := lt_some hf
  have e := e.put h9 (Or.inr (by simp))
  obtain ⟨s2, h9, hf⟩ := lt_some hf
  have e := e.put h9 (Or.inr (by simp))
  rcases ite_or hf with hf | hf
  · exact e.tr (fr_X2_pour_41 _ _ _ hf)
  · exact e.tr (fr_X2_pour_41 _ _ _ hf)
theorem fr_X2_pour {s : Sg} {v1 : Int32} {v2 : Int32} {v3 : Int32} {o : Sg} (hf : f_X2_pour s v1 v2 v3 = some o) : Fr [(6, some 0), (6, some 2), (6, some 4), (6, some 5), (6, some 6)] s o := fr_X2_pour_0 s v1 v2 v3 hf
theorem fr_X2_spill_0 {o : Int32 × Sg} (s : Sg) (hf : c_X2_spill_0 s = some o) : Fr [(6, some 0), (6, some 3)] s o.2 := by
  unfold c_X2_spill_0 at hf
  have e : Fr [(6, some 0), (6, some 3)] s s := Fr.rf
  obtain ⟨x1, -, hf⟩ := lt_some hf
  obtain ⟨s2, h9, hf⟩ := lt_some hf
  have e := e.put h9 (Or.inr (by simp))
  obtain ⟨s3, h9, hf⟩ := lt_some hf
  have e := e.put h9 (Or.inr (by simp))
  cases hf
  exact e
theorem fr_X2_spill {s : Sg} {o : Int32 × Sg} (hf : f_X2_spill s = some o) : Fr [(6, some 0), (6, some 3)] s o.2 := fr_X2_spill_0 s hf
theorem fr_X2_empty_0 {o : Sg} (s : Sg) (hf : c_X2_empty_0 s = some o) : Fr [(6, some 0), (6, some 4), (6, some 5), (6, some 6)] s o := by
  unfold c_X2_empty_0 at hf
  have e : Fr [(6, some 0), (6, some 4), (6, some 5), (6, some 6)] s s := Fr.rf
  obtain ⟨s1, h9, hf⟩ := lt_some hf
  have e := e.put h9 (Or.inr (by simp))
  obtain ⟨s2, h9, hf⟩ := lt_some hf
  have e := e.put h9 (Or.inr (by simp))
  obtain ⟨s3, h9, hf⟩ := lt_some hf
  have e := e.put h9 (Or.inr (by simp))
  obtain ⟨s4, h9, hf⟩ := lt_some hf
  have e := e.put h9 (Or.inr (by simp))
  cases hf
  exact e
theorem fr_X2_empty {s : Sg} {o : Sg} (hf : f_X2_empty s = some o) : Fr [(6, some 0), (6, some 4), (6, some 5), (6, some 6)] s o := fr_X2_empty_0 s hf
theorem fr_X1_sortOf_25 {o : Int32 × Sg} (s : Sg) (v3 : Int32) (hf : c_X1_sortOf_25 s v3 = some o) : Fr [] s o.2 := by
  unfold c_X1_sortOf_25 at hf
  have e : Fr [] s s := Fr.rf
  rcases ite_or hf with hf | hf
  · cases hf
    exact e
  · cases hf
    exact e
theorem fr_X1_sortOf_12 {o : Int32 × Sg} (s : Sg) (v3 : Int32) (hf : c_X1_sortOf_12 s v3 = some o) : Fr [] s o.2 := by
  unfold c_X1_sortOf_12 at hf
  have e : Fr [] s s := Fr.rf
  rcases ite_or hf with hf | hf
  · exact e.tr (fr_X1_sortOf_25 _ _ hf)
  · exact e.tr (fr_X1_sortOf_25 _ _ hf)
theorem fr_X1_sortOf_0 {o : Int32 × Sg} (s : Sg) (v1 : Int32) (v2 : Int32) (hf : c_X1_sortOf_0 s v1 v2 = some o) : Fr [] s o.2 := by
  unfold c_X1_sortOf_0 at hf
  have e : Fr [] s s := Fr.rf
  rcases ite_or hf with hf | hf
  · exact e.tr (fr_X1_sortOf_12 _ _ hf)
  · exact e.tr (fr_X1_sortOf_12 _ _ hf)
theorem fr_X1_sortOf {s : Sg} {v1 : Int32} {v2 : Int32} {o : Int32 × Sg} (hf : f_X1_sortOf s v1 v2 = some o) : Fr [] s o.2 := fr_X1_sortOf_0 s v1 v2 hf
theorem fr_X1_bringDown_49 {o : Sg} (s : Sg) (v2 : Int32) (v5 : Int32) (v6 : Int32) (hf : c_X1_bringDown_49 s v2 v5 v6 = some o) : Fr [(5, none), (6, some 0), (6, some 2), (6, some 4), (6, some 5), (6, some 6), (7, some 1), (7, some 3), (7, some 8)] s o := by
  unfold c_X1_bringDown_49 at hf
  have e : Fr [(5, none), (6, some 0), (6, some 2), (6, some 4), (6, some 5), (6, some 6), (7, some 1), (7, some 3), (7, some 8)] s s := Fr.rf
  obtain ⟨s1, h9, hf⟩ := bdv_some hf
  have e := e.tr ((fr_X6_set h9).mo (by simp))
  obtain ⟨s3, h9, hf⟩ := lt_some hf
  have e := e.put h9 (Or.inr (by simp))
  obtain ⟨s4, h9, hf⟩ := lt_some hf
  have e := e.put h9 (Or.inr (by simp))
  cases hf
  exact e
theorem fr_X1_bringDown_0 {o : Sg} (s : Sg) (v2 : Int32) (hf : c_X1_bringDown_0 s v2 = some o) : Fr [(5, none), (6, some 0), (6, some 2), (6, some 4), (6, some 5), (6, some 6), (7, some 1), (7, some 3), (7, some 8)] s o := by
  unfold c_X1_bringDown_0 at hf
  have e : Fr [(5, none), (6, some 0), (6, some 2), (6, some 4), (6, some 5), (6, some 6), (7, some 1), (7, some 3), (7, some 8)] s s := Fr.rf
  obtain ⟨r2, s1, h9, hf⟩ := bd_some hf
  have e := e.tr ((fr_X6_get h9).mo (by simp))
  obtain ⟨r4, s3, h9, hf⟩ := bd_some hf
  have e := e.tr ((fr_X6_get h9).mo (by simp))
  obtain ⟨r6, s5, h9, hf⟩ := bd_some hf
  have e := e.tr ((fr_X6_get h9).mo (by simp))
  rcases ite_or hf with hf | hf
  · exact e.tr (fr_X1_bringDown_49 _ _ _ _ hf)
  · rcases ite_or hf with hf | hf
    · exact e.tr (fr_X1_bringDown_49 _ _ _ _ hf)
    · rcases ite_or hf with hf | hf
      · have hf := (gd_some hf).2
        have hf := (gd_some hf).2
        obtain ⟨x7, -, hf⟩ := lt_some hf
        obtain ⟨r9, s8, h9, hf⟩ := bd_some hf
        have e := e.tr ((fr_X1_sortOf h9).mo (by simp))
        obtain ⟨s10, h9, hf⟩ := bdv_some hf
        have e := e.tr ((fr_X6_set h9).mo (by simp))
        obtain ⟨s12, h9, hf⟩ := bdv_some hf
        have e := e.tr ((fr_X6_set h9).mo (by simp))
        obtain ⟨s14, h9, hf⟩ := bdv_some hf
        have e := e.tr ((fr_X6_set h9).mo (by simp))
        obtain ⟨s16, h9, hf⟩ := bdv_some hf
        have e := e.tr ((fr_X2_pour h9).mo (by simp))
        obtain ⟨s18, h9, hf⟩ := lt_some hf
        have e := e.put h9 (Or.inr (by simp))
        obtain ⟨s19, h9, hf⟩ := lt_some hf
        have e := e.put h9 (Or.inr (by simp))
        cases hf
        exact e
      · exact e.tr (fr_X1_bringDown_49 _ _ _ _ hf)
theorem fr_X1_bringDown {s : Sg} {v2 : Int32} {o : Sg} (hf : f_X1_bringDown s v2 = some o) : Fr [(5, none), (6, some 0), (6, some 2), (6, some 4), (6, some 5), (6, some 6), (7, some 1), (7, some 3), (7, some 8)] s o := fr_X1_bringDown_0 s v2 hf
theorem fr_X1_blow_73 {N : Nat} {o : Sg} (s : Sg) (v4 : Int32) (hf : c_X1_blow_73 N s v4 = some o) : Fr [(3, some 1), (5, none), (6, some 0), (6, some 2), (6, some 3), (6, some 4), (6, some 5), (6, some 6), (7, some 1), (7, some 2), (7, some 3), (7, some 4), (7, some 6), (7, some 7), (7, some 8), (7, some 9)] s o := by
  unfold c_X1_blow_73 at hf
  have e : Fr [(3, some 1), (5, none), (6, some 0), (6, some 2), (6, some 3), (6, some 4), (6, some 5), (6, some 6), (7, some 1), (7, some 2), (7, some 3), (7, some 4), (7, some 6), (7, some 7), (7, some 8), (7, some 9)] s s := Fr.rf
  obtain ⟨s1, h9, hf⟩ := lt_some hf
  have e := e.put h9 (Or.inr (by simp))
  obtain ⟨r3, s2, h9, hf⟩ := bd_some hf
  have e := e.tr ((fr_X2_spill h9).mo (by simp))
  obtain ⟨s4, h9, hf⟩ := lt_some hf
  have e := e.put h9 (Or.inr (by simp))
  obtain ⟨s5, h9, hf⟩ := lt_some hf
  have e := e.put h9 (Or.inr (by simp))
  have hf := (gd_some hf).2
  obtain ⟨s6, h9, hf⟩ := lt_some hf
  have e := e.put h9 (Or.inr (by simp))
  obtain ⟨s7, h9, hf⟩ := lt_some hf
  have e := e.put h9 (Or.inr (by simp))
  rcases ite_or hf with hf | hf
  · have hf := (gd_some hf).2
    obtain ⟨s8, h9, hf⟩ := lt_some hf
    have e := e.put h9 (Or.inr (by simp))
    cases hf
    exact e
  · have hf := (gd_some hf).2
    obtain ⟨s9, h9, hf⟩ := lt_some hf
    have e := e.put h9 (Or.inr (by simp))
    cases hf
    exact e
theorem fr_X1_blow_29 {N : Nat} {o : Sg} {K29 : Sg → Int32 → Int32 → Option (Sg)} (gK29 : ∀ (s : Sg) (v4 : Int32) (v5 : Int32), K29 s v4 v5 = some o → Fr [(3, some 1), (5, none), (6, some 0), (6, some 2), (6, some 3), (6, some 4), (6, some 5), (6, some 6), (7, some 1), (7, some 2), (7, some 3), (7, some 4), (7, some 6), (7, some 7), (7, some 8), (7, some 9)] s o) (s : Sg) (v4 : Int32) (v5 : Int32) (hf : c_X1_blow_29 N K29 s v4 v5 = some o) : Fr [(3, some 1), (5, none), (6, some 0), (6, some 2), (6, some 3), (6, some 4), (6, some 5), (6, some 6), (7, some 1), (7, some 2), (7, some 3), (7, some 4), (7, some 6), (7, some 7), (7, some 8), (7, some 9)] s o := by
  unfold c_X1_blow_29 at hf
  have e : Fr [(3, some 1), (5, none), (6, some 0), (6, some 2), (6, some 3), (6, some 4), (6, some 5), (6, some 6), (7, some 1), (7, some 2), (7, some 3), (7, some 4), (7, some 6), (7, some 7), (7, some 8), (7, some 9)] s s := Fr.rf
  rcases ite_or hf with hf | hf
  · exact e.tr (fr_X1_blow_73 _ _ hf)
  · obtain ⟨r2, s1, h9, hf⟩ := bd_some hf
    have e := e.tr ((fr_X0_lowestIsBurned h9).mo (by simp))
    rcases ite_or hf with hf | hf
    · exact e.tr (fr_X1_blow_73 _ _ hf)
    · obtain ⟨s3, h9, hf⟩ := bdv_some hf
      have e := e.tr ((fr_X1_bringDown h9).mo (by simp))
      obtain ⟨s5, h9, hf⟩ := lt_some hf
      have e := e.put h9 (Or.inr (by simp))
      exact e.tr (gK29 _ _ _ hf)
theorem fh_X1_blow_29 {N : Nat} {o : Sg} : ∀ (j : Nat) (s : Sg) (v4 : Int32) (v5 : Int32), b_X1_blow_29 N j s v4 v5 = some o → Fr [(3, some 1), (5, none), (6, some 0), (6, some 2), (6, some 3), (6, some 4), (6, some 5), (6, some 6), (7, some 1), (7, some 2), (7, some 3), (7, some 4), (7, some 6), (7, some 7), (7, some 8), (7, some 9)] s o := by
  intro j
  induction j with
  | zero => intro s v4 v5 hf; cases (show none = some o from hf)
  | succ j ih => intro s v4 v5 hf; exact fr_X1_blow_29 ih s v4 v5 hf
theorem fr_X1_blow_0 {N : Nat} {o : Sg} (s : Sg) (hf : c_X1_blow_0 N s = some o) : Fr [(3, some 1), (5, none), (6, some 0), (6, some 2), (6, some 3), (6, some 4), (6, some 5), (6, some 6), (7, some 1), (7, some 2), (7, some 3), (7, some 4), (7, some 6), (7, some 7), (7, some 8), (7, some 9)] s o := by
  unfold c_X1_blow_0 at hf
  have e : Fr [(3, some 1), (5, none), (6, some 0), (6, some 2), (6, some 3), (6, some 4), (6, some 5), (6, some 6), (7, some 1), (7, some 2), (7, some 3), (7, some 4), (7, some 6), (7, some 7), (7, some 8), (7, some 9)] s s := Fr.rf
  obtain ⟨s1, h9, hf⟩ := lt_some hf
  have e := e.put h9 (Or.inr (by simp))
  obtain ⟨r3, s2, h9, hf⟩ := bd_some hf
  have e := e.tr ((fr_X0_burn h9).mo (by simp))
  obtain ⟨s4, h9, hf⟩ := lt_some hf
  have e := e.put h9 (Or.inr (by simp))
  exact e.tr (fh_X1_blow_29 _ _ _ _ hf)
theorem fr_X1_blow {N : Nat} {s : Sg} {o : Sg} (hf : f_X1_blow N s = some o) : Fr [(3, some 1), (5, none), (6, some 0), (6, some 2), (6, some 3), (6, some 4), (6, some 5), (6, some 6), (7, some 1), (7, some 2), (7, some 3), (7, some 4), (7, some 6), (7, some 7), (7, some 8), (7, some 9)] s o := fr_X1_blow_0 s hf
theorem fr_X5_look_62 {N : Nat} {o : Sg} {K24 : Sg → Int32 → Option (Sg)} (gK24 : ∀ (s : Sg) (v4 : Int32), K24 s v4 = some o → Fr [(11, none), (12, none)] s o) (s : Sg) (v4 : Int32) (hf : c_X5_look_62 N K24 s v4 = some o) : Fr [(11, none), (12, none)] s o := by
  unfold c_X5_look_62 at hf
  have e : Fr [(11, none), (12, none)] s s := Fr.rf
  exact e.tr (gK24 _ _ hf)
theorem fr_X5_look_24 {N : Nat} {o : Sg} {K24 : Sg → Int32 → Option (Sg)} (gK24 : ∀ (s : Sg) (v4 : Int32), K24 s v4 = some o → Fr [(11, none), (12, none)] s o) (s : Sg) (v4 : Int32) (hf : c_X5_look_24 N K24 s v4 = some o) : Fr [(11, none), (12, none)] s o := by
  unfold c_X5_look_24 at hf
  have e : Fr [(11, none), (12, none)] s s := Fr.rf
  rcases ite_or hf with hf | hf
  · cases hf
    exact e
  · have hf := (gd_some hf).2
    rcases ite_or hf with hf | hf
    · have hf := (gd_some hf).2
      obtain ⟨s1, h9, hf⟩ := lt_some hf
      have e := e.put h9 (Or.inl (by simp))
      have hf := (gd_some hf).2
      have hf := (gd_some hf).2
      obtain ⟨s2, h9, hf⟩ := lt_some hf
      have e := e.put h9 (Or.inl (by simp))
      exact e.tr (fr_X5_look_62 gK24 _ _ hf)
    · exact e.tr (fr_X5_look_62 gK24 _ _ hf)
theorem fh_X5_look_24 {N : Nat} {o : Sg} : ∀ (j : Nat) (s : Sg) (v4 : Int32), b_X5_look_24 N j s v4 = some o → Fr [(11, none), (12, none)] s o := by
  intro j
  induction j with
  | zero => intro s v4 hf; cases (show none = some o from hf)
  | succ j ih => intro s v4 hf; exact fr_X5_look_24 ih s v4 hf
theorem fr_X5_look_0 {N : Nat} {o : Sg} (s : Sg) (v1 : Int32) (v2 : Int32) (v3 : Int32) (hf : c_X5_look_0 N s v1 v2 v3 = some o) : Fr [(11, none), (12, none)] s o := by
  unfold c_X5_look_0 at hf
  have e : Fr [(11, none), (12, none)] s s := Fr.rf
  have hf := (gd_some hf).2
  obtain ⟨s1, h9, hf⟩ := lt_some hf
  have e := e.put h9 (Or.inl (by simp))
  have hf := (gd_some hf).2
  obtain ⟨s2, h9, hf⟩ := lt_some hf
  have e := e.put h9 (Or.inl (by simp))
  have hf := (gd_some hf).2
  obtain ⟨s3, h9, hf⟩ := lt_some hf
  have e := e.put h9 (Or.inl (by simp))
  exact e.tr (fh_X5_look_24 _ _ _ hf)
theorem fr_X5_look {N : Nat} {s : Sg} {v1 : Int32} {v2 : Int32} {v3 : Int32} {o : Sg} (hf : f_X5_look N s v1 v2 v3 = some o) : Fr [(11, none), (12, none)] s o := fr_X5_look_0 s v1 v2 v3 hf
theorem fr_X4_readPigs_89 {N : Nat} {o : Sg} {K7 : Sg → Int32 → Option (Sg)} (gK7 : ∀ (s : Sg) (v2 : Int32), K7 s v2 = some o → Fr [(17, some 7), (18, none), (19, none), (20, none)] s o) (s : Sg) (v2 : Int32) (hf : c_X4_readPigs_89 N K7 s v2 = some o) : Fr [(17, some 7), (18, none), (19, none), (20, none)] s o := by
  unfold c_X4_readPigs_89 at hf
  have e : Fr [(17, some 7), (18, none), (19, none), (20, none)] s s := Fr.rf
  exact e.tr (gK7 _ _ hf)
theorem fr_X4_readPigs_7 {N : Nat} {o : Sg} {K7 : Sg → Int32 → Option (Sg)} (gK7 : ∀ (s : Sg) (v2 : Int32), K7 s v2 = some o → Fr [(17, some 7), (18, none), (19, none), (20, none)] s o) (s : Sg) (v2 : Int32) (hf : c_X4_readPigs_7 N K7 s v2 = some o) : Fr [(17, some 7), (18, none), (19, none), (20, none)] s o := by
  unfold c_X4_readPigs_7 at hf
  have e : Fr [(17, some 7), (18, none), (19, none), (20, none)] s s := Fr.rf
  rcases ite_or hf with hf | hf
  · cases hf
    exact e
  · rcases ite_or hf with hf | hf
    · cases hf
      exact e
    · obtain ⟨r2, s1, h9, hf⟩ := bd_some hf
      have e := e.tr ((fr_X6_get h9).mo (by simp))
      rcases ite_or hf with hf | hf
      · have hf := (gd_some hf).2
        obtain ⟨s3, h9, hf⟩ := lt_some hf
        have e := e.put h9 (Or.inl (by simp))
        obtain ⟨r5, s4, h9, hf⟩ := bd_some hf
        have e := e.tr ((fr_X6_get h9).mo (by simp))
        have hf := (gd_some hf).2
        obtain ⟨s6, h9, hf⟩ := lt_some hf
        have e := e.put h9 (Or.inl (by simp))
        obtain ⟨r8, s7, h9, hf⟩ := bd_some hf
        have e := e.tr ((fr_X6_get h9).mo (by simp))
        have hf := (gd_some hf).2
        obtain ⟨s9, h9, hf⟩ := lt_some hf
        have e := e.put h9 (Or.inl (by simp))
        obtain ⟨s10, h9, hf⟩ := lt_some hf
        have e := e.put h9 (Or.inr (by simp))
        exact e.tr (fr_X4_readPigs_89 gK7 _ _ hf)
      · exact e.tr (fr_X4_readPigs_89 gK7 _ _ hf)
theorem fh_X4_readPigs_7 {N : Nat} {o : Sg} : ∀ (j : Nat) (s : Sg) (v2 : Int32), b_X4_readPigs_7 N j s v2 = some o → Fr [(17, some 7), (18, none), (19, none), (20, none)] s o := by
  intro j
  induction j with
  | zero => intro s v2 hf; cases (show none = some o from hf)
  | succ j ih => intro s v2 hf; exact fr_X4_readPigs_7 ih s v2 hf
theorem fr_X4_readPigs_0 {N : Nat} {o : Sg} (s : Sg) (hf : c_X4_readPigs_0 N s = some o) : Fr [(17, some 7), (18, none), (19, none), (20, none)] s o := by
  unfold c_X4_readPigs_0 at hf
  have e : Fr [(17, some 7), (18, none), (19, none), (20, none)] s s := Fr.rf
  obtain ⟨s1, h9, hf⟩ := lt_some hf
  have e := e.put h9 (Or.inr (by simp))
  exact e.tr (fh_X4_readPigs_7 _ _ _ hf)
theorem fr_X4_readPigs {N : Nat} {s : Sg} {o : Sg} (hf : f_X4_readPigs N s = some o) : Fr [(17, some 7), (18, none), (19, none), (20, none)] s o := fr_X4_readPigs_0 s hf
theorem fr_X4_canTake_21 {o : Int32 × Sg} (s : Sg) (v2 : Int32) (v3 : Int32) (u0 : Int32) (hf : c_X4_canTake_21 s v2 v3 u0 = some o) : Fr [] s o.2 := by
  unfold c_X4_canTake_21 at hf
  have e : Fr [] s s := Fr.rf
  rcases ite_or hf with hf | hf
  · have hf := (gd_some hf).2
    cases hf
    exact e
  · have hf := (gd_some hf).2
    have hf := (gd_some hf).2
    rcases ite_or hf with hf | hf
    · have hf := (gd_some hf).2
      cases hf
      exact e
    · have hf := (gd_some hf).2
      cases hf
      exact e
theorem fr_X4_canTake_0 {o : Int32 × Sg} (s : Sg) (v2 : Int32) (v3 : Int32) (hf : c_X4_canTake_0 s v2 v3 = some o) : Fr [] s o.2 := by
  unfold c_X4_canTake_0 at hf
  have e : Fr [] s s := Fr.rf
  obtain ⟨r2, s1, h9, hf⟩ := bd_some hf
  have e := e.tr ((fr_X6_get h9).mo (by simp))
  have hf := (gd_some hf).2
  rcases ite_or hf with hf | hf
  · exact e.tr (fr_X4_canTake_21 _ _ _ _ hf)
  · exact e.tr (fr_X4_canTake_21 _ _ _ _ hf)
theorem fr_X4_canTake {s : Sg} {v2 : Int32} {v3 : Int32} {o : Int32 × Sg} (hf : f_X4_canTake s v2 v3 = some o) : Fr [] s o.2 := fr_X4_canTake_0 s v2 v3 hf
theorem fr_X4_readHopes_64 {N : Nat} {o : Sg} {K17 : Sg → Int32 → Option (Sg)} (gK17 : ∀ (s : Sg) (v2 : Int32), K17 s v2 = some o → Fr [(23, none)] s o) (s : Sg) (v2 : Int32) (v3 : Int32) (hf : c_X4_readHopes_64 N K17 s v2 v3 = some o) : Fr [(23, none)] s o := by
  unfold c_X4_readHopes_64 at hf
  have e : Fr [(23, none)] s s := Fr.rf
  have hf := (gd_some hf).2
  have hf := (gd_some hf).2
  have hf := (gd_some hf).2
  obtain ⟨s1, h9, hf⟩ := lt_some hf
  have e := e.put h9 (Or.inl (by simp))
  exact e.tr (gK17 _ _ hf)
theorem fr_X4_readHopes_58 {N : Nat} {o : Sg} {K17 : Sg → Int32 → Option (Sg)} (gK17 : ∀ (s : Sg) (v2 : Int32), K17 s v2 = some o → Fr [(23, none)] s o) {K26 : Sg → Int32 → Int32 → Int32 → Option (Sg)} (gK26 : ∀ (s : Sg) (v2 : Int32) (v3 : Int32) (v4 : Int32), K26 s v2 v3 v4 = some o → Fr [(23, none)] s o) (s : Sg) (v2 : Int32) (v3 : Int32) (v4 : Int32) (hf : c_X4_readHopes_58 N K17 K26 s v2 v3 v4 = some o) : Fr [(23, none)] s o := by
  unfold c_X4_readHopes_58 at hf
  have e : Fr [(23, none)] s s := Fr.rf
  exact e.tr (gK26 _ _ _ _ hf)
theorem fr_X4_readHopes_26 {N : Nat} {o : Sg} {K17 : Sg → Int32 → Option (Sg)} (gK17 : ∀ (s : Sg) (v2 : Int32), K17 s v2 = some o → Fr [(23, none)] s o) {K26 : Sg → Int32 → Int32 → Int32 → Option (Sg)} (gK26 : ∀ (s : Sg) (v2 : Int32) (v3 : Int32) (v4 : Int32), K26 s v2 v3 v4 = some o → Fr [(23, none)] s o) (s : Sg) (v2 : Int32) (v3 : Int32) (v4 : Int32) (hf : c_X4_readHopes_26 N K17 K26 s v2 v3 v4 = some o) : Fr [(23, none)] s o := by
  unfold c_X4_readHopes_26 at hf
  have e : Fr [(23, none)] s s := Fr.rf
  rcases ite_or hf with hf | hf
  · exact e.tr (fr_X4_readHopes_64 gK17 _ _ _ hf)
  · obtain ⟨r2, s1, h9, hf⟩ := bd_some hf
    have e := e.tr ((fr_X4_canTake h9).mo (by simp))
    rcases ite_or hf with hf | hf
    · exact e.tr (fr_X4_readHopes_58 gK17 gK26 _ _ _ _ hf)
    · obtain ⟨r4, s3, h9, hf⟩ := bd_some hf
      have e := e.tr ((fr_X6_get h9).mo (by simp))
      obtain ⟨x5, -, hf⟩ := lt_some hf
      exact e.tr (fr_X4_readHopes_58 gK17 gK26 _ _ _ _ hf)
theorem fh_X4_readHopes_26 {N : Nat} {o : Sg} {K17 : Sg → Int32 → Option (Sg)} (gK17 : ∀ (s : Sg) (v2 : Int32), K17 s v2 = some o → Fr [(23, none)] s o) : ∀ (j : Nat) (s : Sg) (v2 : Int32) (v3 : Int32) (v4 : Int32), b_X4_readHopes_26 N K17 j s v2 v3 v4 = some o → Fr [(23, none)] s o := by
  intro j
  induction j with
  | zero => intro s v2 v3 v4 hf; cases (show none = some o from hf)
  | succ j ih => intro s v2 v3 v4 hf; exact fr_X4_readHopes_26 gK17 ih s v2 v3 v4 hf
theorem fr_X4_readHopes_17 {N : Nat} {o : Sg} {K17 : Sg → Int32 → Option (Sg)} (gK17 : ∀ (s : Sg) (v2 : Int32), K17 s v2 = some o → Fr [(23, none)] s o) (s : Sg) (v2 : Int32) (hf : c_X4_readHopes_17 N K17 s v2 = some o) : Fr [(23, none)] s o := by
  unfold c_X4_readHopes_17 at hf
  have e : Fr [(23, none)] s s := Fr.rf
  rcases ite_or hf with hf | hf
  · cases hf
    exact e
  · exact e.tr (fh_X4_readHopes_26 gK17 _ _ _ _ _ hf)
theorem fh_X4_readHopes_17 {N : Nat} {o : Sg} : ∀ (j : Nat) (s : Sg) (v2 : Int32), b_X4_readHopes_17 N j s v2 = some o → Fr [(23, none)] s o := by
  intro j
  induction j with
  | zero => intro s v2 hf; cases (show none = some o from hf)
  | succ j ih => intro s v2 hf; exact fr_X4_readHopes_17 ih s v2 hf
theorem fr_X4_readHopes_0 {N : Nat} {o : Sg} (s : Sg) (hf : c_X4_readHopes_0 N s = some o) : Fr [(23, none)] s o := by
  unfold c_X4_readHopes_0 at hf
  have e : Fr [(23, none)] s s := Fr.rf
  have hf := (gd_some hf).2
  obtain ⟨s1, h9, hf⟩ := lt_some hf
  have e := e.put h9 (Or.inl (by simp))
  obtain ⟨x2, -, hf⟩ := lt_some hf
  exact e.tr (fh_X4_readHopes_17 _ _ _ hf)
theorem fr_X4_readHopes {N : Nat} {s : Sg} {o : Sg} (hf : f_X4_readHopes N s = some o) : Fr [(23, none)] s o := fr_X4_readHopes_0 s hf
theorem fr_X4_place_166 {N : Nat} {o : Sg} {Z : Sg → Int32 → Int32 → Option (Sg)} (gZ : ∀ (s : Sg) (v2 : Int32) (v3 : Int32) (o : Sg), Z s v2 v3 = some o → Fr [(17, some 8), (21, none), (22, none), (24, none)] s o) (s : Sg) (v2 : Int32) (v3 : Int32) (hf : c_X4_place_166 N Z s v2 v3 = some o) : Fr [(17, some 8), (21, none), (22, none), (24, none)] s o := by
  unfold c_X4_place_166 at hf
  have e : Fr [(17, some 8), (21, none), (22, none), (24, none)] s s := Fr.rf
  have hf := (gd_some hf).2
  obtain ⟨s1, h9, hf⟩ := lt_some hf
  have e := e.put h9 (Or.inl (by simp))
  obtain ⟨s2, h9, hf⟩ := bdv_some hf
  have e := e.tr (gZ _ _ _ _ h9)
  cases hf
  exact e
theorem fr_X4_place_160 {N : Nat} {o : Sg} {Z : Sg → Int32 → Int32 → Option (Sg)} (gZ : ∀ (s : Sg) (v2 : Int32) (v3 : Int32) (o : Sg), Z s v2 v3 = some o → Fr [(17, some 8), (21, none), (22, none), (24, none)] s o) {K79 : Sg → Int32 → Int32 → Int32 → Int32 → Option (Sg)} (gK79 : ∀ (s : Sg) (v2 : Int32) (v3 : Int32) (v4 : Int32) (v5 : Int32), K79 s v2 v3 v4 v5 = some o → Fr [(17, some 8), (21, none), (22, none), (24, none)] s o) (s : Sg) (v2 : Int32) (v3 : Int32) (v4 : Int32) (v5 : Int32) (hf : c_X4_place_160 N Z K79 s v2 v3 v4 v5 = some o) : Fr [(17, some 8), (21, none), (22, none), (24, none)] s o := by
  unfold c_X4_place_160 at hf
  have e : Fr [(17, some 8), (21, none), (22, none), (24, none)] s s := Fr.rf
  exact e.tr (gK79 _ _ _ _ _ hf)
theorem fr_X4_place_79 {N : Nat} {o : Sg} {Z : Sg → Int32 → Int32 → Option (Sg)} (gZ : ∀ (s : Sg) (v2 : Int32) (v3 : Int32) (o : Sg), Z s v2 v3 = some o → Fr [(17, some 8), (21, none), (22, none), (24, none)] s o) {K79 : Sg → Int32 → Int32 → Int32 → Int32 → Option (Sg)} (gK79 : ∀ (s : Sg) (v2 : Int32) (v3 : Int32) (v4 : Int32) (v5 : Int32), K79 s v2 v3 v4 v5 = some o → Fr [(17, some 8), (21, none), (22, none), (24, none)] s o) (s : Sg) (v2 : Int32) (v3 : Int32) (v4 : Int32) (v5 : Int32) (hf : c_X4_place_79 N Z K79 s v2 v3 v4 v5 = some o) : Fr [(17, some 8), (21, none), (22, none), (24, none)] s o := by
  unfold c_X4_place_79 at hf
  have e : Fr [(17, some 8), (21, none), (22, none), (24, none)] s s := Fr.rf
  rcases ite_or hf with hf | hf
  · exact e.tr (fr_X4_place_166 gZ _ _ _ hf)
  · rcases ite_or hf with hf | hf
    · exact e.tr (fr_X4_place_166 gZ _ _ _ hf)
    · obtain ⟨r2, s1, h9, hf⟩ := bd_some hf
      have e := e.tr ((fr_X4_canTake h9).mo (by simp))
      rcases ite_or hf with hf | hf
      · exact e.tr (fr_X4_place_160 gZ gK79 _ _ _ _ _ hf)
      · have hf := (gd_some hf).2
        obtain ⟨s3, h9, hf⟩ := lt_some hf
        have e := e.put h9 (Or.inl (by simp))
        have hf := (gd_some hf).2
        have hf := (gd_some hf).2
        obtain ⟨s4, h9, hf⟩ := lt_some hf
        have e := e.put h9 (Or.inl (by simp))
        obtain ⟨r6, s5, h9, hf⟩ := bd_some hf
        have e := e.tr ((fr_X6_get h9).mo (by simp))
        obtain ⟨s7, h9, hf⟩ := bdv_some hf
        have e := e.tr (gZ _ _ _ _ h9)
        have hf := (gd_some hf).2
        have hf := (gd_some hf).2
        obtain ⟨s9, h9, hf⟩ := lt_some hf
        have e := e.put h9 (Or.inl (by simp))
        exact e.tr (fr_X4_place_160 gZ gK79 _ _ _ _ _ hf)
theorem fh_X4_place_79 {N : Nat} {o : Sg} {Z : Sg → Int32 → Int32 → Option (Sg)} (gZ : ∀ (s : Sg) (v2 : Int32) (v3 : Int32) (o : Sg), Z s v2 v3 = some o → Fr [(17, some 8), (21, none), (22, none), (24, none)] s o) : ∀ (j : Nat) (s : Sg) (v2 : Int32) (v3 : Int32) (v4 : Int32) (v5 : Int32), b_X4_place_79 N Z j s v2 v3 v4 v5 = some o → Fr [(17, some 8), (21, none), (22, none), (24, none)] s o := by
  intro j
  induction j with
  | zero => intro s v2 v3 v4 v5 hf; cases (show none = some o from hf)
  | succ j ih => intro s v2 v3 v4 v5 hf; exact fr_X4_place_79 gZ ih s v2 v3 v4 v5 hf
theorem fr_X4_place_38 {N : Nat} {o : Sg} {Z : Sg → Int32 → Int32 → Option (Sg)} (gZ : ∀ (s : Sg) (v2 : Int32) (v3 : Int32) (o : Sg), Z s v2 v3 = some o → Fr [(17, some 8), (21, none), (22, none), (24, none)] s o) {K38 : Sg → Int32 → Option (Sg)} (gK38 : ∀ (s : Sg) (v4 : Int32), K38 s v4 = some o → Fr [(17, some 8), (21, none), (22, none), (24, none)] s o) (s : Sg) (v4 : Int32) (hf : c_X4_place_38 N Z K38 s v4 = some o) : Fr [(17, some 8), (21, none), (22, none), (24, none)] s o := by
  unfold c_X4_place_38 at hf
  have e : Fr [(17, some 8), (21, none), (22, none), (24, none)] s s := Fr.rf
  rcases ite_or hf with hf | hf
  · cases hf
    exact e
  · have hf := (gd_some hf).2
    have hf := (gd_some hf).2
    obtain ⟨s1, h9, hf⟩ := lt_some hf
    have e := e.put h9 (Or.inl (by simp))
    exact e.tr (gK38 _ _ hf)
theorem fh_X4_place_38 {N : Nat} {o : Sg} {Z : Sg → Int32 → Int32 → Option (Sg)} (gZ : ∀ (s : Sg) (v2 : Int32) (v3 : Int32) (o : Sg), Z s v2 v3 = some o → Fr [(17, some 8), (21, none), (22, none), (24, none)] s o) : ∀ (j : Nat) (s : Sg) (v4 : Int32), b_X4_place_38 N Z j s v4 = some o → Fr [(17, some 8), (21, none), (22, none), (24, none)] s o := by
  intro j
  induction j with
  | zero => intro s v4 hf; cases (show none = some o from hf)
  | succ j ih => intro s v4 hf; exact fr_X4_place_38 gZ ih s v4 hf
theorem fr_X4_place_0 {N : Nat} {o : Sg} {Z : Sg → Int32 → Int32 → Option (Sg)} (gZ : ∀ (s : Sg) (v2 : Int32) (v3 : Int32) (o : Sg), Z s v2 v3 = some o → Fr [(17, some 8), (21, none), (22, none), (24, none)] s o) (s : Sg) (v2 : Int32) (v3 : Int32) (hf : c_X4_place_0 N Z s v2 v3 = some o) : Fr [(17, some 8), (21, none), (22, none), (24, none)] s o := by
  unfold c_X4_place_0 at hf
  have e : Fr [(17, some 8), (21, none), (22, none), (24, none)] s s := Fr.rf
  rcases ite_or hf with hf | hf
  · cases hf
    exact e
  · have hf := (gd_some hf).2
    rcases ite_or hf with hf | hf
    · rcases ite_or hf with hf | hf
      · have hf := (gd_some hf).2
        obtain ⟨x1, -, hf⟩ := lt_some hf
        exact e.tr (fh_X4_place_79 gZ _ _ _ _ _ _ hf)
      · obtain ⟨s2, h9, hf⟩ := lt_some hf
        have e := e.put h9 (Or.inr (by simp))
        exact e.tr (fh_X4_place_38 gZ _ _ _ hf)
    · cases hf
      exact e
theorem fr0_X4_place {N : Nat} : ∀ (j : Nat) (s : Sg) (v2 : Int32) (v3 : Int32) (o : Sg), f_X4_place N j s v2 v3 = some o → Fr [(17, some 8), (21, none), (22, none), (24, none)] s o := by
  intro j
  induction j with
  | zero => intro s v2 v3 o hf; cases (show none = some o from hf)
  | succ j ih => intro s v2 v3 o hf; exact fr_X4_place_0 ih s v2 v3 hf
theorem fr_X4_place {N : Nat} {j : Nat} {s : Sg} {v2 : Int32} {v3 : Int32} {o : Sg} (hf : f_X4_place N j s v2 v3 = some o) : Fr [(17, some 8), (21, none), (22, none), (24, none)] s o := fr0_X4_place j s v2 v3 o hf
theorem fr_X4_settle_30 {N : Nat} {o : Sg} (s : Sg) (hf : c_X4_settle_30 N s = some o) : Fr [(17, some 7), (17, some 8), (18, none), (19, none), (20, none), (21, none), (22, none), (23, none), (24, none)] s o := by
  unfold c_X4_settle_30 at hf
  have e : Fr [(17, some 7), (17, some 8), (18, none), (19, none), (20, none), (21, none), (22, none), (23, none), (24, none)] s s := Fr.rf
  obtain ⟨s1, h9, hf⟩ := bdv_some hf
  have e := e.tr ((fr_X4_readHopes h9).mo (by simp))
  obtain ⟨s3, h9, hf⟩ := lt_some hf
  have e := e.put h9 (Or.inr (by simp))
  obtain ⟨s4, h9, hf⟩ := bdv_some hf
  have e := e.tr ((fr_X4_place h9).mo (by simp))
  cases hf
  exact e
theorem fr_X4_settle_7 {N : Nat} {o : Sg} {K7 : Sg → Int32 → Option (Sg)} (gK7 : ∀ (s : Sg) (v3 : Int32), K7 s v3 = some o → Fr [(17, some 7), (17, some 8), (18, none), (19, none), (20, none), (21, none), (22, none), (23, none), (24, none)] s o) (s : Sg) (v3 : Int32) (hf : c_X4_settle_7 N K7 s v3 = some o) : Fr [(17, some 7), (17, some 8), (18, none), (19, none), (20, none), (21, none), (22, none), (23, none), (24, none)] s o := by
  unfold c_X4_settle_7 at hf
  have e : Fr [(17, some 7), (17, some 8), (18, none), (19, none), (20, none), (21, none), (22, none), (23, none), (24, none)] s s := Fr.rf
  rcases ite_or hf with hf | hf
  · exact e.tr (fr_X4_settle_30 _ hf)
  · obtain ⟨r2, s1, h9, hf⟩ := bd_some hf
    have e := e.tr ((fr_X6_get h9).mo (by simp))
    have hf := (gd_some hf).2
    obtain ⟨s3, h9, hf⟩ := lt_some hf
    have e := e.put h9 (Or.inl (by simp))
    exact e.tr (gK7 _ _ hf)
theorem fh_X4_settle_7 {N : Nat} {o : Sg} : ∀ (j : Nat) (s : Sg) (v3 : Int32), b_X4_settle_7 N j s v3 = some o → Fr [(17, some 7), (17, some 8), (18, none), (19, none), (20, none), (21, none), (22, none), (23, none), (24, none)] s o := by
  intro j
  induction j with
  | zero => intro s v3 hf; cases (show none = some o from hf)
  | succ j ih => intro s v3 hf; exact fr_X4_settle_7 ih s v3 hf
theorem fr_X4_settle_0 {N : Nat} {o : Sg} (s : Sg) (hf : c_X4_settle_0 N s = some o) : Fr [(17, some 7), (17, some 8), (18, none), (19, none), (20, none), (21, none), (22, none), (23, none), (24, none)] s o := by
  unfold c_X4_settle_0 at hf
  have e : Fr [(17, some 7), (17, some 8), (18, none), (19, none), (20, none), (21, none), (22, none), (23, none), (24, none)] s s := Fr.rf
  obtain ⟨s1, h9, hf⟩ := bdv_some hf
  have e := e.tr ((fr_X4_readPigs h9).mo (by simp))
  exact e.tr (fh_X4_settle_7 _ _ _ hf)
theorem fr_X4_settle {N : Nat} {s : Sg} {o : Sg} (hf : f_X4_settle N s = some o) : Fr [(17, some 7), (17, some 8), (18, none), (19, none), (20, none), (21, none), (22, none), (23, none), (24, none)] s o := fr_X4_settle_0 s hf
theorem fr_X3_readMonths_119 {N : Nat} {o : Sg} {K33 : Sg → Int32 → Int32 → Option (Sg)} (gK33 : ∀ (s : Sg) (v3 : Int32) (v5 : Int32), K33 s v3 v5 = some o → Fr [(29, some 6), (30, none), (31, none), (32, none)] s o) (s : Sg) (v3 : Int32) (v5 : Int32) (v7 : Int32) (hf : c_X3_readMonths_119 N K33 s v3 v5 v7 = some o) : Fr [(29, some 6), (30, none), (31, none), (32, none)] s o := by
  unfold c_X3_readMonths_119 at hf
  have e : Fr [(29, some 6), (30, none), (31, none), (32, none)] s s := Fr.rf
  have hf := (gd_some hf).2
  have hf := (gd_some hf).2
  obtain ⟨s1, h9, hf⟩ := lt_some hf
  have e := e.put h9 (Or.inl (by simp))
  exact e.tr (gK33 _ _ _ hf)
theorem fr_X3_readMonths_81 {N : Nat} {o : Sg} {K33 : Sg → Int32 → Int32 → Option (Sg)} (gK33 : ∀ (s : Sg) (v3 : Int32) (v5 : Int32), K33 s v3 v5 = some o → Fr [(29, some 6), (30, none), (31, none), (32, none)] s o) {K81 : Sg → Int32 → Int32 → Int32 → Int32 → Option (Sg)} (gK81 : ∀ (s : Sg) (v3 : Int32) (v5 : Int32) (v7 : Int32) (v8 : Int32), K81 s v3 v5 v7 v8 = some o → Fr [(29, some 6), (30, none), (31, none), (32, none)] s o) (s : Sg) (v3 : Int32) (v5 : Int32) (v7 : Int32) (v8 : Int32) (hf : c_X3_readMonths_81 N K33 K81 s v3 v5 v7 v8 = some o) : Fr [(29, some 6), (30, none), (31, none), (32, none)] s o := by
  unfold c_X3_readMonths_81 at hf
  have e : Fr [(29, some 6), (30, none), (31, none), (32, none)] s s := Fr.rf
  rcases ite_or hf with hf | hf
  · exact e.tr (fr_X3_readMonths_119 gK33 _ _ _ _ hf)
  · have hf := (gd_some hf).2
    rcases ite_or hf with hf | hf
    · exact e.tr (fr_X3_readMonths_119 gK33 _ _ _ _ hf)
    · obtain ⟨r2, s1, h9, hf⟩ := bd_some hf
      have e := e.tr ((fr_X6_get h9).mo (by simp))
      obtain ⟨x3, -, hf⟩ := lt_some hf
      exact e.tr (gK81 _ _ _ _ _ hf)
theorem fh_X3_readMonths_81 {N : Nat} {o : Sg} {K33 : Sg → Int32 → Int32 → Option (Sg)} (gK33 : ∀ (s : Sg) (v3 : Int32) (v5 : Int32), K33 s v3 v5 = some o → Fr [(29, some 6), (30, none), (31, none), (32, none)] s o) : ∀ (j : Nat) (s : Sg) (v3 : Int32) (v5 : Int32) (v7 : Int32) (v8 : Int32), b_X3_readMonths_81 N K33 j s v3 v5 v7 v8 = some o → Fr [(29, some 6), (30, none), (31, none), (32, none)] s o := by
  intro j
  induction j with
  | zero => intro s v3 v5 v7 v8 hf; cases (show none = some o from hf)
  | succ j ih => intro s v3 v5 v7 v8 hf; exact fr_X3_readMonths_81 gK33 ih s v3 v5 v7 v8 hf
theorem fr_X3_readMonths_33 {N : Nat} {o : Sg} {K33 : Sg → Int32 → Int32 → Option (Sg)} (gK33 : ∀ (s : Sg) (v3 : Int32) (v5 : Int32), K33 s v3 v5 = some o → Fr [(29, some 6), (30, none), (31, none), (32, none)] s o) (s : Sg) (v3 : Int32) (v5 : Int32) (hf : c_X3_readMonths_33 N K33 s v3 v5 = some o) : Fr [(29, some 6), (30, none), (31, none), (32, none)] s o := by
  unfold c_X3_readMonths_33 at hf
  have e : Fr [(29, some 6), (30, none), (31, none), (32, none)] s s := Fr.rf
  rcases ite_or hf with hf | hf
  · cases hf
    exact e
  · have hf := (gd_some hf).2
    obtain ⟨x1, -, hf⟩ := lt_some hf
    obtain ⟨r3, s2, h9, hf⟩ := bd_some hf
    have e := e.tr ((fr_X6_get h9).mo (by simp))
    have hf := (gd_some hf).2
    obtain ⟨s4, h9, hf⟩ := lt_some hf
    have e := e.put h9 (Or.inl (by simp))
    obtain ⟨r6, s5, h9, hf⟩ := bd_some hf
    have e := e.tr ((fr_X6_get h9).mo (by simp))
    have hf := (gd_some hf).2
    obtain ⟨s7, h9, hf⟩ := lt_some hf
    have e := e.put h9 (Or.inl (by simp))
    exact e.tr (fh_X3_readMonths_81 gK33 _ _ _ _ _ _ hf)
theorem fh_X3_readMonths_33 {N : Nat} {o : Sg} : ∀ (j : Nat) (s : Sg) (v3 : Int32) (v5 : Int32), b_X3_readMonths_33 N j s v3 v5 = some o → Fr [(29, some 6), (30, none), (31, none), (32, none)] s o := by
  intro j
  induction j with
  | zero => intro s v3 v5 hf; cases (show none = some o from hf)
  | succ j ih => intro s v3 v5 hf; exact fr_X3_readMonths_33 ih s v3 v5 hf
theorem fr_X3_readMonths_0 {N : Nat} {o : Sg} (s : Sg) (v3 : Int32) (v4 : Int32) (hf : c_X3_readMonths_0 N s v3 v4 = some o) : Fr [(29, some 6), (30, none), (31, none), (32, none)] s o := by
  unfold c_X3_readMonths_0 at hf
  have e : Fr [(29, some 6), (30, none), (31, none), (32, none)] s s := Fr.rf
  obtain ⟨s1, h9, hf⟩ := lt_some hf
  have e := e.put h9 (Or.inr (by simp))
  have hf := (gd_some hf).2
  obtain ⟨s2, h9, hf⟩ := lt_some hf
  have e := e.put h9 (Or.inl (by simp))
  obtain ⟨x3, -, hf⟩ := lt_some hf
  exact e.tr (fh_X3_readMonths_33 _ _ _ _ hf)
theorem fr_X3_readMonths {N : Nat} {s : Sg} {v3 : Int32} {v4 : Int32} {o : Sg} (hf : f_X3_readMonths N s v3 v4 = some o) : Fr [(29, some 6), (30, none), (31, none), (32, none)] s o := fr_X3_readMonths_0 s v3 v4 hf
theorem fr_X3_goOn_165 {N : Nat} {o : Sg} {Z : Sg → Int32 → Int32 → Int32 → Int32 → Option (Sg)} (gZ : ∀ (s : Sg) (v2 : Int32) (v3 : Int32) (v4 : Int32) (v5 : Int32) (o : Sg), Z s v2 v3 v4 v5 = some o → Fr [(29, some 7), (33, none), (34, none)] s o) {K82 : Sg → Int32 → Int32 → Int32 → Int32 → Int32 → Option (Sg)} (gK82 : ∀ (s : Sg) (v2 : Int32) (v3 : Int32) (v4 : Int32) (v6 : Int32) (v7 : Int32), K82 s v2 v3 v4 v6 v7 = some o → Fr [(29, some 7), (33, none), (34, none)] s o) (s : Sg) (v2 : Int32) (v3 : Int32) (v4 : Int32) (v6 : Int32) (v7 : Int32) (hf : c_X3_goOn_165 N Z K82 s v2 v3 v4 v6 v7 = some o) : Fr [(29, some 7), (33, none), (34, none)] s o := by
  unfold c_X3_goOn_165 at hf
  have e : Fr [(29, some 7), (33, none), (34, none)] s s := Fr.rf
  exact e.tr (gK82 _ _ _ _ _ _ hf)
theorem fr_X3_goOn_82 {N : Nat} {o : Sg} {Z : Sg → Int32 → Int32 → Int32 → Int32 → Option (Sg)} (gZ : ∀ (s : Sg) (v2 : Int32) (v3 : Int32) (v4 : Int32) (v5 : Int32) (o : Sg), Z s v2 v3 v4 v5 = some o → Fr [(29, some 7), (33, none), (34, none)] s o) {K82 : Sg → Int32 → Int32 → Int32 → Int32 → Int32 → Option (Sg)} (gK82 : ∀ (s : Sg) (v2 : Int32) (v3 : Int32) (v4 : Int32) (v6 : Int32) (v7 : Int32), K82 s v2 v3 v4 v6 v7 = some o → Fr [(29, some 7), (33, none), (34, none)] s o) (s : Sg) (v2 : Int32) (v3 : Int32) (v4 : Int32) (v6 : Int32) (v7 : Int32) (hf : c_X3_goOn_82 N Z K82 s v2 v3 v4 v6 v7 = some o) : Fr [(29, some 7), (33, none), (34, none)] s o := by
  unfold c_X3_goOn_82 at hf
  have e : Fr [(29, some 7), (33, none), (34, none)] s s := Fr.rf
  rcases ite_or hf with hf | hf
  · cases hf
    exact e
  · have hf := (gd_some hf).2
    rcases ite_or hf with hf | hf
    · cases hf
      exact e
    · obtain ⟨r2, s1, h9, hf⟩ := bd_some hf
      have e := e.tr ((fr_X6_get h9).mo (by simp))
      obtain ⟨x3, -, hf⟩ := lt_some hf
      obtain ⟨r5, s4, h9, hf⟩ := bd_some hf
      have e := e.tr ((fr_X6_get h9).mo (by simp))
      obtain ⟨x6, -, hf⟩ := lt_some hf
      rcases ite_or hf with hf | hf
      · exact e.tr (fr_X3_goOn_165 gZ gK82 _ _ _ _ _ _ hf)
      · rcases ite_or hf with hf | hf
        · have hf := (gd_some hf).2
          obtain ⟨s7, h9, hf⟩ := lt_some hf
          have e := e.put h9 (Or.inl (by simp))
          obtain ⟨r9, s8, h9, hf⟩ := bd_some hf
          have e := e.tr ((fr_X6_get h9).mo (by simp))
          obtain ⟨s10, h9, hf⟩ := bdv_some hf
          have e := e.tr (gZ _ _ _ _ _ _ h9)
          exact e.tr (fr_X3_goOn_165 gZ gK82 _ _ _ _ _ _ hf)
        · exact e.tr (fr_X3_goOn_165 gZ gK82 _ _ _ _ _ _ hf)
theorem fh_X3_goOn_82 {N : Nat} {o : Sg} {Z : Sg → Int32 → Int32 → Int32 → Int32 → Option (Sg)} (gZ : ∀ (s : Sg) (v2 : Int32) (v3 : Int32) (v4 : Int32) (v5 : Int32) (o : Sg), Z s v2 v3 v4 v5 = some o → Fr [(29, some 7), (33, none), (34, none)] s o) : ∀ (j : Nat) (s : Sg) (v2 : Int32) (v3 : Int32) (v4 : Int32) (v6 : Int32) (v7 : Int32), b_X3_goOn_82 N Z j s v2 v3 v4 v6 v7 = some o → Fr [(29, some 7), (33, none), (34, none)] s o := by
  intro j
  induction j with
  | zero => intro s v2 v3 v4 v6 v7 hf; cases (show none = some o from hf)
  | succ j ih => intro s v2 v3 v4 v6 v7 hf; exact fr_X3_goOn_82 gZ ih s v2 v3 v4 v6 v7 hf
theorem fr_X3_goOn_38 {N : Nat} {o : Sg} {Z : Sg → Int32 → Int32 → Int32 → Int32 → Option (Sg)} (gZ : ∀ (s : Sg) (v2 : Int32) (v3 : Int32) (v4 : Int32) (v5 : Int32) (o : Sg), Z s v2 v3 v4 v5 = some o → Fr [(29, some 7), (33, none), (34, none)] s o) {K38 : Sg → Int32 → Option (Sg)} (gK38 : ∀ (s : Sg) (v6 : Int32), K38 s v6 = some o → Fr [(29, some 7), (33, none), (34, none)] s o) (s : Sg) (v6 : Int32) (hf : c_X3_goOn_38 N Z K38 s v6 = some o) : Fr [(29, some 7), (33, none), (34, none)] s o := by
  unfold c_X3_goOn_38 at hf
  have e : Fr [(29, some 7), (33, none), (34, none)] s s := Fr.rf
  rcases ite_or hf with hf | hf
  · cases hf
    exact e
  · have hf := (gd_some hf).2
    have hf := (gd_some hf).2
    obtain ⟨s1, h9, hf⟩ := lt_some hf
    have e := e.put h9 (Or.inl (by simp))
    exact e.tr (gK38 _ _ hf)
theorem fh_X3_goOn_38 {N : Nat} {o : Sg} {Z : Sg → Int32 → Int32 → Int32 → Int32 → Option (Sg)} (gZ : ∀ (s : Sg) (v2 : Int32) (v3 : Int32) (v4 : Int32) (v5 : Int32) (o : Sg), Z s v2 v3 v4 v5 = some o → Fr [(29, some 7), (33, none), (34, none)] s o) : ∀ (j : Nat) (s : Sg) (v6 : Int32), b_X3_goOn_38 N Z j s v6 = some o → Fr [(29, some 7), (33, none), (34, none)] s o := by
  intro j
  induction j with
  | zero => intro s v6 hf; cases (show none = some o from hf)
  | succ j ih => intro s v6 hf; exact fr_X3_goOn_38 gZ ih s v6 hf
theorem fr_X3_goOn_0 {N : Nat} {o : Sg} {Z : Sg → Int32 → Int32 → Int32 → Int32 → Option (Sg)} (gZ : ∀ (s : Sg) (v2 : Int32) (v3 : Int32) (v4 : Int32) (v5 : Int32) (o : Sg), Z s v2 v3 v4 v5 = some o → Fr [(29, some 7), (33, none), (34, none)] s o) (s : Sg) (v2 : Int32) (v3 : Int32) (v4 : Int32) (v5 : Int32) (hf : c_X3_goOn_0 N Z s v2 v3 v4 v5 = some o) : Fr [(29, some 7), (33, none), (34, none)] s o := by
  unfold c_X3_goOn_0 at hf
  have e : Fr [(29, some 7), (33, none), (34, none)] s s := Fr.rf
  rcases ite_or hf with hf | hf
  · cases hf
    exact e
  · have hf := (gd_some hf).2
    rcases ite_or hf with hf | hf
    · rcases ite_or hf with hf | hf
      · have hf := (gd_some hf).2
        obtain ⟨x1, -, hf⟩ := lt_some hf
        exact e.tr (fh_X3_goOn_82 gZ _ _ _ _ _ _ _ hf)
      · obtain ⟨s2, h9, hf⟩ := lt_some hf
        have e := e.put h9 (Or.inr (by simp))
        exact e.tr (fh_X3_goOn_38 gZ _ _ _ hf)
    · cases hf
      exact e
theorem fr0_X3_goOn {N : Nat} : ∀ (j : Nat) (s : Sg) (v2 : Int32) (v3 : Int32) (v4 : Int32) (v5 : Int32) (o : Sg), f_X3_goOn N j s v2 v3 v4 v5 = some o → Fr [(29, some 7), (33, none), (34, none)] s o := by
  intro j
  induction j with
  | zero => intro s v2 v3 v4 v5 o hf; cases (show none = some o from hf)
  | succ j ih => intro s v2 v3 v4 v5 o hf; exact fr_X3_goOn_0 ih s v2 v3 v4 v5 hf
theorem fr_X3_goOn {N : Nat} {j : Nat} {s : Sg} {v2 : Int32} {v3 : Int32} {v4 : Int32} {v5 : Int32} {o : Sg} (hf : f_X3_goOn N j s v2 v3 v4 v5 = some o) : Fr [(29, some 7), (33, none), (34, none)] s o := fr0_X3_goOn j s v2 v3 v4 v5 o hf
theorem fr_X3_settle_35 {N : Nat} {o : Int32 × Sg} {K35 : Sg → Int32 → Option (Int32 × Sg)} (gK35 : ∀ (s : Sg) (v4 : Int32), K35 s v4 = some o → Fr [(29, some 7), (29, some 8), (33, none), (34, none), (35, none)] s o.2) (s : Sg) (v4 : Int32) (hf : c_X3_settle_35 N K35 s v4 = some o) : Fr [(29, some 7), (29, some 8), (33, none), (34, none), (35, none)] s o.2 := by
  unfold c_X3_settle_35 at hf
  have e : Fr [(29, some 7), (29, some 8), (33, none), (34, none), (35, none)] s s := Fr.rf
  rcases ite_or hf with hf | hf
  · cases hf
    exact e
  · have hf := (gd_some hf).2
    have hf := (gd_some hf).2
    obtain ⟨s1, h9, hf⟩ := lt_some hf
    have e := e.put h9 (Or.inl (by simp))
    exact e.tr (gK35 _ _ hf)
theorem fh_X3_settle_35 {N : Nat} {o : Int32 × Sg} : ∀ (j : Nat) (s : Sg) (v4 : Int32), b_X3_settle_35 N j s v4 = some o → Fr [(29, some 7), (29, some 8), (33, none), (34, none), (35, none)] s o.2 := by
  intro j
  induction j with
  | zero => intro s v4 hf; cases (show none = some o from hf)
  | succ j ih => intro s v4 hf; exact fr_X3_settle_35 ih s v4 hf
theorem fr_X3_settle_0 {N : Nat} {o : Int32 × Sg} (s : Sg) (v2 : Int32) (v3 : Int32) (hf : c_X3_settle_0 N s v2 v3 = some o) : Fr [(29, some 7), (29, some 8), (33, none), (34, none), (35, none)] s o.2 := by
  unfold c_X3_settle_0 at hf
  have e : Fr [(29, some 7), (29, some 8), (33, none), (34, none), (35, none)] s s := Fr.rf
  obtain ⟨s1, h9, hf⟩ := lt_some hf
  have e := e.put h9 (Or.inr (by simp))
  obtain ⟨s2, h9, hf⟩ := bdv_some hf
  have e := e.tr ((fr_X3_goOn h9).mo (by simp))
  rcases ite_or hf with hf | hf
  · cases hf
    exact e
  · obtain ⟨s4, h9, hf⟩ := lt_some hf
    have e := e.put h9 (Or.inr (by simp))
    exact e.tr (fh_X3_settle_35 _ _ _ hf)
theorem fr_X3_settle {N : Nat} {s : Sg} {v2 : Int32} {v3 : Int32} {o : Int32 × Sg} (hf : f_X3_settle N s v2 v3 = some o) : Fr [(29, some 7), (29, some 8), (33, none), (34, none), (35, none)] s o.2 := fr_X3_settle_0 s v2 v3 hf
theorem fr_X7_within_0 {o : Int32 × Sg} (s : Sg) (v0 : Int32) (v1 : Int32) (v2 : Int32) (hf : c_X7_within_0 s v0 v1 v2 = some o) : Fr [] s o.2 := by
  unfold c_X7_within_0 at hf
  have e : Fr [] s s := Fr.rf
  rcases ite_or hf with hf | hf
  · have hf := (gd_some hf).2
    cases hf
    exact e
  · rcases ite_or hf with hf | hf
    · have hf := (gd_some hf).2
      cases hf
      exact e
    · have hf := (gd_some hf).2
      cases hf
      exact e
theorem fr_X7_within {s : Sg} {v0 : Int32} {v1 : Int32} {v2 : Int32} {o : Int32 × Sg} (hf : f_X7_within s v0 v1 v2 = some o) : Fr [] s o.2 := fr_X7_within_0 s v0 v1 v2 hf
theorem fr_X7_buy_0 {o : Int32 × Sg} (s : Sg) (v1 : Int32) (v2 : Int32) (hf : c_X7_buy_0 s v1 v2 = some o) : Fr [(1, none)] s o.2 := by
  unfold c_X7_buy_0 at hf
  have e : Fr [(1, none)] s s := Fr.rf
  obtain ⟨r2, s1, h9, hf⟩ := bd_some hf
  have e := e.tr ((fr_X7_within h9).mo (by simp))
  rcases ite_or hf with hf | hf
  · cases hf
    exact e
  · obtain ⟨r4, s3, h9, hf⟩ := bd_some hf
    have e := e.tr ((fr_X7_within h9).mo (by simp))
    rcases ite_or hf with hf | hf
    · cases hf
      exact e
    · have hf := (gd_some hf).2
      rcases ite_or hf with hf | hf
      · have hf := (gd_some hf).2
        have hf := (gd_some hf).2
        obtain ⟨s5, h9, hf⟩ := lt_some hf
        have e := e.put h9 (Or.inl (by simp))
        have hf := (gd_some hf).2
        cases hf
        exact e
      · cases hf
        exact e
theorem fr_X7_buy {s : Sg} {v1 : Int32} {v2 : Int32} {o : Int32 × Sg} (hf : f_X7_buy s v1 v2 = some o) : Fr [(1, none)] s o.2 := fr_X7_buy_0 s v1 v2 hf
theorem fr_X7_rich_0 {o : Int32 × Sg} (s : Sg) (v1 : Int32) (v2 : Int32) (hf : c_X7_rich_0 s v1 v2 = some o) : Fr [(2, none)] s o.2 := by
  unfold c_X7_rich_0 at hf
  have e : Fr [(2, none)] s s := Fr.rf
  obtain ⟨r2, s1, h9, hf⟩ := bd_some hf
  have e := e.tr ((fr_X7_within h9).mo (by simp))
  rcases ite_or hf with hf | hf
  · cases hf
    exact e
  · obtain ⟨r4, s3, h9, hf⟩ := bd_some hf
    have e := e.tr ((fr_X7_within h9).mo (by simp))
    rcases ite_or hf with hf | hf
    · cases hf
      exact e
    · have hf := (gd_some hf).2
      obtain ⟨x5, -, hf⟩ := lt_some hf
      have hf := (gd_some hf).2
      obtain ⟨s6, h9, hf⟩ := lt_some hf
      have e := e.put h9 (Or.inl (by simp))
      cases hf
      exact e
theorem fr_X7_rich {s : Sg} {v1 : Int32} {v2 : Int32} {o : Int32 × Sg} (hf : f_X7_rich s v1 v2 = some o) : Fr [(2, none)] s o.2 := fr_X7_rich_0 s v1 v2 hf
theorem fr_X7_charge_0 {o : Int32 × Sg} (s : Sg) (v1 : Int32) (v2 : Int32) (v3 : Int32) (v4 : Int32) (hf : c_X7_charge_0 s v1 v2 v3 v4 = some o) : Fr [(1, none), (4, some 3), (5, none)] s o.2 := by
  unfold c_X7_charge_0 at hf
  have e : Fr [(1, none), (4, some 3), (5, none)] s s := Fr.rf
  obtain ⟨r2, s1, h9, hf⟩ := bd_some hf
  have e := e.tr ((fr_X7_within h9).mo (by simp))
  rcases ite_or hf with hf | hf
  · cases hf
    exact e
  · obtain ⟨r4, s3, h9, hf⟩ := bd_some hf
    have e := e.tr ((fr_X7_within h9).mo (by simp))
    rcases ite_or hf with hf | hf
    · cases hf
      exact e
    · obtain ⟨r6, s5, h9, hf⟩ := bd_some hf
      have e := e.tr ((fr_X7_within h9).mo (by simp))
      rcases ite_or hf with hf | hf
      · cases hf
        exact e
      · obtain ⟨r8, s7, h9, hf⟩ := bd_some hf
        have e := e.tr ((fr_X7_within h9).mo (by simp))
        rcases ite_or hf with hf | hf
        · cases hf
          exact e
        · obtain ⟨x9, -, hf⟩ := lt_some hf
          have hf := (gd_some hf).2
          rcases ite_or hf with hf | hf
          · cases hf
            exact e
          · have hf := (gd_some hf).2
            rcases ite_or hf with hf | hf
            · cases hf
              exact e
            · have hf := (gd_some hf).2
              rcases ite_or hf with hf | hf
              · obtain ⟨r11, s10, h9, hf⟩ := bd_some hf
                have e := e.tr ((fr_X0_size h9).mo (by simp))
                rcases ite_or hf with hf | hf
                · cases hf
                  exact e
                · obtain ⟨r13, s12, h9, hf⟩ := bd_some hf
                  have e := e.tr ((fr_X6_isFull h9).mo (by simp))
                  rcases ite_or hf with hf | hf
                  · have hf := (gd_some hf).2
                    have hf := (gd_some hf).2
                    obtain ⟨s14, h9, hf⟩ := lt_some hf
                    have e := e.put h9 (Or.inl (by simp))
                    have hf := (gd_some hf).2
                    have hf := (gd_some hf).2
                    obtain ⟨s15, h9, hf⟩ := lt_some hf
                    have e := e.put h9 (Or.inl (by simp))
                    have hf := (gd_some hf).2
                    have hf := (gd_some hf).2
                    obtain ⟨s16, h9, hf⟩ := lt_some hf
                    have e := e.put h9 (Or.inl (by simp))
                    obtain ⟨r18, s17, h9, hf⟩ := bd_some hf
                    have e := e.tr ((fr_X0_lay h9).mo (by simp))
                    cases hf
                    exact e
                  · cases hf
                    exact e
              · cases hf
                exact e
theorem fr_X7_charge {s : Sg} {v1 : Int32} {v2 : Int32} {v3 : Int32} {v4 : Int32} {o : Int32 × Sg} (hf : f_X7_charge s v1 v2 v3 v4 = some o) : Fr [(1, none), (4, some 3), (5, none)] s o.2 := fr_X7_charge_0 s v1 v2 v3 v4 hf
theorem fr_X7_chargeAt_0 {o : Int32 × Sg} (s : Sg) (v1 : Int32) (v2 : Int32) (hf : c_X7_chargeAt_0 s v1 v2 = some o) : Fr [] s o.2 := by
  unfold c_X7_chargeAt_0 at hf
  have e : Fr [] s s := Fr.rf
  rcases ite_or hf with hf | hf
  · cases hf
    exact e
  · obtain ⟨r2, s1, h9, hf⟩ := bd_some hf
    have e := e.tr ((fr_X7_within h9).mo (by simp))
    rcases ite_or hf with hf | hf
    · cases hf
      exact e
    · rcases ite_or hf with hf | hf
      · obtain ⟨r4, s3, h9, hf⟩ := bd_some hf
        have e := e.tr ((fr_X6_get h9).mo (by simp))
        cases hf
        exact e
      · cases hf
        exact e
theorem fr_X7_chargeAt {s : Sg} {v1 : Int32} {v2 : Int32} {o : Int32 × Sg} (hf : f_X7_chargeAt s v1 v2 = some o) : Fr [] s o.2 := fr_X7_chargeAt_0 s v1 v2 hf
theorem fr_X7_when_0 {N : Nat} {o : Int32 × Sg} (s : Sg) (v1 : Int32) (hf : c_X7_when_0 N s v1 = some o) : Fr [] s o.2 := by
  unfold c_X7_when_0 at hf
  have e : Fr [] s s := Fr.rf
  obtain ⟨r2, s1, h9, hf⟩ := bd_some hf
  have e := e.tr ((fr_X7_within h9).mo (by simp))
  rcases ite_or hf with hf | hf
  · cases hf
    exact e
  · obtain ⟨x3, -, hf⟩ := lt_some hf
    rcases ite_or hf with hf | hf
    · cases hf
      exact e
    · rcases ite_or hf with hf | hf
      · obtain ⟨r5, s4, h9, hf⟩ := bd_some hf
        have e := e.tr ((fr_X0_coalDownFrom h9).mo (by simp))
        have hf := (gd_some hf).2
        cases hf
        exact e
      · cases hf
        exact e
theorem fr_X7_when {N : Nat} {s : Sg} {v1 : Int32} {o : Int32 × Sg} (hf : f_X7_when N s v1 = some o) : Fr [] s o.2 := fr_X7_when_0 s v1 hf
theorem fr_X7_blast_0 {o : Int32 × Sg} (s : Sg) (v1 : Int32) (hf : c_X7_blast_0 s v1 = some o) : Fr [(7, some 0)] s o.2 := by
  unfold c_X7_blast_0 at hf
  have e : Fr [(7, some 0)] s s := Fr.rf
  obtain ⟨r2, s1, h9, hf⟩ := bd_some hf
  have e := e.tr ((fr_X7_within h9).mo (by simp))
  rcases ite_or hf with hf | hf
  · cases hf
    exact e
  · obtain ⟨x3, -, hf⟩ := lt_some hf
    obtain ⟨s4, h9, hf⟩ := lt_some hf
    have e := e.put h9 (Or.inr (by simp))
    cases hf
    exact e
theorem fr_X7_blast {s : Sg} {v1 : Int32} {o : Int32 × Sg} (hf : f_X7_blast s v1 = some o) : Fr [(7, some 0)] s o.2 := fr_X7_blast_0 s v1 hf
theorem fr_X7_hearth_0 {o : Int32 × Sg} (s : Sg) (v1 : Int32) (v2 : Int32) (hf : c_X7_hearth_0 s v1 v2 = some o) : Fr [(6, some 1), (7, some 5)] s o.2 := by
  unfold c_X7_hearth_0 at hf
  have e : Fr [(6, some 1), (7, some 5)] s s := Fr.rf
  obtain ⟨r2, s1, h9, hf⟩ := bd_some hf
  have e := e.tr ((fr_X7_within h9).mo (by simp))
  rcases ite_or hf with hf | hf
  · cases hf
    exact e
  · obtain ⟨r4, s3, h9, hf⟩ := bd_some hf
    have e := e.tr ((fr_X7_within h9).mo (by simp))
    rcases ite_or hf with hf | hf
    · cases hf
      exact e
    · obtain ⟨s5, h9, hf⟩ := lt_some hf
      have e := e.put h9 (Or.inr (by simp))
      obtain ⟨s6, h9, hf⟩ := lt_some hf
      have e := e.put h9 (Or.inr (by simp))
      cases hf
      exact e
theorem fr_X7_hearth {s : Sg} {v1 : Int32} {v2 : Int32} {o : Int32 × Sg} (hf : f_X7_hearth s v1 v2 = some o) : Fr [(6, some 1), (7, some 5)] s o.2 := fr_X7_hearth_0 s v1 v2 hf
theorem fr_X7_isCalledFor_0 {o : Int32 × Sg} (s : Sg) (v1 : Int32) (hf : c_X7_isCalledFor_0 s v1 = some o) : Fr [] s o.2 := by
  unfold c_X7_isCalledFor_0 at hf
  have e : Fr [] s s := Fr.rf
  obtain ⟨r2, s1, h9, hf⟩ := bd_some hf
  have e := e.tr ((fr_X6_get h9).mo (by simp))
  obtain ⟨r4, s3, h9, hf⟩ := bd_some hf
  have e := e.tr ((fr_X7_within h9).mo (by simp))
  rcases ite_or hf with hf | hf
  · have hf := (gd_some hf).2
    cases hf
    exact e
  · have hf := (gd_some hf).2
    obtain ⟨x5, -, hf⟩ := lt_some hf
    rcases ite_or hf with hf | hf
    · have hf := (gd_some hf).2
      cases hf
      exact e
    · obtain ⟨r7, s6, h9, hf⟩ := bd_some hf
      have e := e.tr ((fr_X6_get h9).mo (by simp))
      obtain ⟨r9, s8, h9, hf⟩ := bd_some hf
      have e := e.tr ((fr_X6_get h9).mo (by simp))
      rcases ite_or hf with hf | hf
      · rcases ite_or hf with hf | hf
        · have hf := (gd_some hf).2
          cases hf
          exact e
        · have hf := (gd_some hf).2
          cases hf
          exact e
      · rcases ite_or hf with hf | hf
        · have hf := (gd_some hf).2
          cases hf
          exact e
        · have hf := (gd_some hf).2
          cases hf
          exact e
theorem fr_X7_isCalledFor {s : Sg} {v1 : Int32} {o : Int32 × Sg} (hf : f_X7_isCalledFor s v1 = some o) : Fr [] s o.2 := fr_X7_isCalledFor_0 s v1 hf
theorem fr_X7_castPig_0 {o : Int32 × Sg} (s : Sg) (hf : c_X7_castPig_0 s = some o) : Fr [(6, some 0), (6, some 4), (6, some 5), (6, some 6), (8, some 3), (9, none)] s o.2 := by
  unfold c_X7_castPig_0 at hf
  have e : Fr [(6, some 0), (6, some 4), (6, some 5), (6, some 6), (8, some 3), (9, none)] s s := Fr.rf
  rcases ite_or hf with hf | hf
  · obtain ⟨r2, s1, h9, hf⟩ := bd_some hf
    have e := e.tr ((fr_X6_isFull h9).mo (by simp))
    rcases ite_or hf with hf | hf
    · obtain ⟨r4, s3, h9, hf⟩ := bd_some hf
      have e := e.tr ((fr_X6_add h9).mo (by simp))
      obtain ⟨s5, h9, hf⟩ := bdv_some hf
      have e := e.tr ((fr_X6_set h9).mo (by simp))
      obtain ⟨s7, h9, hf⟩ := bdv_some hf
      have e := e.tr ((fr_X6_set h9).mo (by simp))
      obtain ⟨s9, h9, hf⟩ := bdv_some hf
      have e := e.tr ((fr_X6_set h9).mo (by simp))
      obtain ⟨s11, h9, hf⟩ := bdv_some hf
      have e := e.tr ((fr_X6_set h9).mo (by simp))
      obtain ⟨s13, h9, hf⟩ := bdv_some hf
      have e := e.tr ((fr_X6_set h9).mo (by simp))
      obtain ⟨s15, h9, hf⟩ := bdv_some hf
      have e := e.tr ((fr_X6_set h9).mo (by simp))
      obtain ⟨s17, h9, hf⟩ := bdv_some hf
      have e := e.tr ((fr_X2_empty h9).mo (by simp))
      cases hf
      exact e
    · cases hf
      exact e
  · cases hf
    exact e
theorem fr_X7_castPig {s : Sg} {o : Int32 × Sg} (hf : f_X7_castPig s = some o) : Fr [(6, some 0), (6, some 4), (6, some 5), (6, some 6), (8, some 3), (9, none)] s o.2 := fr_X7_castPig_0 s hf
theorem fr_X7_followRules_95 {N : Nat} {o : Sg} {K2 : Sg → Int32 → Option (Sg)} (gK2 : ∀ (s : Sg) (v1 : Int32), K2 s v1 = some o → Fr [(6, some 0), (6, some 4), (6, some 5), (6, some 6), (7, some 0), (8, some 3), (9, none)] s o) (s : Sg) (v1 : Int32) (hf : c_X7_followRules_95 N K2 s v1 = some o) : Fr [(6, some 0), (6, some 4), (6, some 5), (6, some 6), (7, some 0), (8, some 3), (9, none)] s o := by
  unfold c_X7_followRules_95 at hf
  have e : Fr [(6, some 0), (6, some 4), (6, some 5), (6, some 6), (7, some 0), (8, some 3), (9, none)] s s := Fr.rf
  exact e.tr (gK2 _ _ hf)
theorem fr_X7_followRules_2 {N : Nat} {o : Sg} {K2 : Sg → Int32 → Option (Sg)} (gK2 : ∀ (s : Sg) (v1 : Int32), K2 s v1 = some o → Fr [(6, some 0), (6, some 4), (6, some 5), (6, some 6), (7, some 0), (8, some 3), (9, none)] s o) (s : Sg) (v1 : Int32) (hf : c_X7_followRules_2 N K2 s v1 = some o) : Fr [(6, some 0), (6, some 4), (6, some 5), (6, some 6), (7, some 0), (8, some 3), (9, none)] s o := by
  unfold c_X7_followRules_2 at hf
  have e : Fr [(6, some 0), (6, some 4), (6, some 5), (6, some 6), (7, some 0), (8, some 3), (9, none)] s s := Fr.rf
  rcases ite_or hf with hf | hf
  · cases hf
    exact e
  · obtain ⟨r2, s1, h9, hf⟩ := bd_some hf
    have e := e.tr ((fr_X7_isCalledFor h9).mo (by simp))
    rcases ite_or hf with hf | hf
    · exact e.tr (fr_X7_followRules_95 gK2 _ _ hf)
    · obtain ⟨r4, s3, h9, hf⟩ := bd_some hf
      have e := e.tr ((fr_X6_get h9).mo (by simp))
      rcases ite_or hf with hf | hf
      · obtain ⟨s8, h9, hf⟩ := lt_some hf
        have e := e.put h9 (Or.inr (by simp))
        exact e.tr (fr_X7_followRules_95 gK2 _ _ hf)
      · rcases ite_or hf with hf | hf
        · obtain ⟨s7, h9, hf⟩ := lt_some hf
          have e := e.put h9 (Or.inr (by simp))
          exact e.tr (fr_X7_followRules_95 gK2 _ _ hf)
        · obtain ⟨r6, s5, h9, hf⟩ := bd_some hf
          have e := e.tr ((fr_X7_castPig h9).mo (by simp))
          exact e.tr (fr_X7_followRules_95 gK2 _ _ hf)
theorem fh_X7_followRules_2 {N : Nat} {o : Sg} : ∀ (j : Nat) (s : Sg) (v1 : Int32), b_X7_followRules_2 N j s v1 = some o → Fr [(6, some 0), (6, some 4), (6, some 5), (6, some 6), (7, some 0), (8, some 3), (9, none)] s o := by
  intro j
  induction j with
  | zero => intro s v1 hf; cases (show none = some o from hf)
  | succ j ih => intro s v1 hf; exact fr_X7_followRules_2 ih s v1 hf
theorem fr_X7_followRules_0 {N : Nat} {o : Sg} (s : Sg) (hf : c_X7_followRules_0 N s = some o) : Fr [(6, some 0), (6, some 4), (6, some 5), (6, some 6), (7, some 0), (8, some 3), (9, none)] s o := by
  unfold c_X7_followRules_0 at hf
  have e : Fr [(6, some 0), (6, some 4), (6, some 5), (6, some 6), (7, some 0), (8, some 3), (9, none)] s s := Fr.rf
  exact e.tr (fh_X7_followRules_2 _ _ _ hf)
theorem fr_X7_followRules {N : Nat} {s : Sg} {o : Sg} (hf : f_X7_followRules N s = some o) : Fr [(6, some 0), (6, some 4), (6, some 5), (6, some 6), (7, some 0), (8, some 3), (9, none)] s o := fr_X7_followRules_0 s hf
theorem fr_X7_tick_48 {N : Nat} {o : Int32 × Sg} {K48 : Sg → Int32 → Int32 → Int32 → Option (Int32 × Sg)} (gK48 : ∀ (s : Sg) (v1 : Int32) (v2 : Int32) (v3 : Int32), K48 s v1 v2 v3 = some o → Fr [(3, some 1), (5, none), (6, some 0), (6, some 2), (6, some 3), (6, some 4), (6, some 5), (6, some 6), (7, some 0), (7, some 1), (7, some 2), (7, some 3), (7, some 4), (7, some 6), (7, some 7), (7, some 8), (7, some 9), (8, some 3), (9, none), (11, none), (12, none)] s o.2) (s : Sg) (v1 : Int32) (v2 : Int32) (v3 : Int32) (hf : c_X7_tick_48 N K48 s v1 v2 v3 = some o) : Fr [(3, some 1), (5, none), (6, some 0), (6, some 2), (6, some 3), (6, some 4), (6, some 5), (6, some 6), (7, some 0), (7, some 1), (7, some 2), (7, some 3), (7, some 4), (7, some 6), (7, some 7), (7, some 8), (7, some 9), (8, some 3), (9, none), (11, none), (12, none)] s o.2 := by
  unfold c_X7_tick_48 at hf
  have e : Fr [(3, some 1), (5, none), (6, some 0), (6, some 2), (6, some 3), (6, some 4), (6, some 5), (6, some 6), (7, some 0), (7, some 1), (7, some 2), (7, some 3), (7, some 4), (7, some 6), (7, some 7), (7, some 8), (7, some 9), (8, some 3), (9, none), (11, none), (12, none)] s s := Fr.rf
  rcases ite_or hf with hf | hf
  · cases hf
    exact e
  · rcases ite_or hf with hf | hf
    · obtain ⟨s1, h9, hf⟩ := bdv_some hf
      have e := e.tr ((fr_X7_followRules h9).mo (by simp))
      obtain ⟨s3, h9, hf⟩ := bdv_some hf
      have e := e.tr ((fr_X1_blow h9).mo (by simp))
      have hf := (gd_some hf).2
      obtain ⟨s5, h9, hf⟩ := bdv_some hf
      have e := e.tr ((fr_X5_look h9).mo (by simp))
      exact e.tr (gK48 _ _ _ _ hf)
    · cases hf
      exact e
theorem fh_X7_tick_48 {N : Nat} {o : Int32 × Sg} : ∀ (j : Nat) (s : Sg) (v1 : Int32) (v2 : Int32) (v3 : Int32), b_X7_tick_48 N j s v1 v2 v3 = some o → Fr [(3, some 1), (5, none), (6, some 0), (6, some 2), (6, some 3), (6, some 4), (6, some 5), (6, some 6), (7, some 0), (7, some 1), (7, some 2), (7, some 3), (7, some 4), (7, some 6), (7, some 7), (7, some 8), (7, some 9), (8, some 3), (9, none), (11, none), (12, none)] s o.2 := by
  intro j
  induction j with
  | zero => intro s v1 v2 v3 hf; cases (show none = some o from hf)
  | succ j ih => intro s v1 v2 v3 hf; exact fr_X7_tick_48 ih s v1 v2 v3 hf
theorem fr_X7_tick_0 {N : Nat} {o : Int32 × Sg} (s : Sg) (v1 : Int32) (hf : c_X7_tick_0 N s v1 = some o) : Fr [(3, some 1), (5, none), (6, some 0), (6, some 2), (6, some 3), (6, some 4), (6, some 5), (6, some 6), (7, some 0), (7, some 1), (7, some 2), (7, some 3), (7, some 4), (7, some 6), (7, some 7), (7, some 8), (7, some 9), (8, some 3), (9, none), (11, none), (12, none)] s o.2 := by
  unfold c_X7_tick_0 at hf
  have e : Fr [(3, some 1), (5, none), (6, some 0), (6, some 2), (6, some 3), (6, some 4), (6, some 5), (6, some 6), (7, some 0), (7, some 1), (7, some 2), (7, some 3), (7, some 4), (7, some 6), (7, some 7), (7, some 8), (7, some 9), (8, some 3), (9, none), (11, none), (12, none)] s s := Fr.rf
  obtain ⟨r2, s1, h9, hf⟩ := bd_some hf
  have e := e.tr ((fr_X7_within h9).mo (by simp))
  rcases ite_or hf with hf | hf
  · cases hf
    exact e
  · rcases ite_or hf with hf | hf
    · rcases ite_or hf with hf | hf
      · exact e.tr (fh_X7_tick_48 _ _ _ _ _ hf)
      · cases hf
        exact e
    · cases hf
      exact e
theorem fr_X7_tick {N : Nat} {s : Sg} {v1 : Int32} {o : Int32 × Sg} (hf : f_X7_tick N s v1 = some o) : Fr [(3, some 1), (5, none), (6, some 0), (6, some 2), (6, some 3), (6, some 4), (6, some 5), (6, some 6), (7, some 0), (7, some 1), (7, some 2), (7, some 3), (7, some 4), (7, some 6), (7, some 7), (7, some 8), (7, some 9), (8, some 3), (9, none), (11, none), (12, none)] s o.2 := fr_X7_tick_0 s v1 hf
theorem fr_X7_tap_0 {o : Int32 × Sg} (s : Sg) (hf : c_X7_tap_0 s = some o) : Fr [(6, some 0), (6, some 4), (6, some 5), (6, some 6), (8, some 3), (9, none)] s o.2 := by
  unfold c_X7_tap_0 at hf
  have e : Fr [(6, some 0), (6, some 4), (6, some 5), (6, some 6), (8, some 3), (9, none)] s s := Fr.rf
  obtain ⟨r2, s1, h9, hf⟩ := bd_some hf
  have e := e.tr ((fr_X7_castPig h9).mo (by simp))
  cases hf
  exact e
theorem fr_X7_tap {s : Sg} {o : Int32 × Sg} (hf : f_X7_tap s = some o) : Fr [(6, some 0), (6, some 4), (6, some 5), (6, some 6), (8, some 3), (9, none)] s o.2 := fr_X7_tap_0 s hf
theorem fr_X7_about_0 {o : Int32 × Sg} (s : Sg) (v1 : Int32) (hf : c_X7_about_0 s v1 = some o) : Fr [] s o.2 := by
  unfold c_X7_about_0 at hf
  have e : Fr [] s s := Fr.rf
  rcases ite_or hf with hf | hf
  · cases hf
    exact e
  rcases ite_or hf with hf | hf
  · cases hf
    exact e
  rcases ite_or hf with hf | hf
  · cases hf
    exact e
  rcases ite_or hf with hf | hf
  · cases hf
    exact e
  rcases ite_or hf with hf | hf
  · cases hf
    exact e
  rcases ite_or hf with hf | hf
  · obtain ⟨r2, s1, h9, hf⟩ := bd_some hf
    have e := e.tr ((fr_X0_size h9).mo (by simp))
    cases hf
    exact e
  rcases ite_or hf with hf | hf
  · cases hf
    exact e
  rcases ite_or hf with hf | hf
  · cases hf
    exact e
  rcases ite_or hf with hf | hf
  · cases hf
    exact e
  rcases ite_or hf with hf | hf
  · rcases ite_or hf with hf | hf
    · cases hf
      exact e
    · cases hf
      exact e
  rcases ite_or hf with hf | hf
  · cases hf
    exact e
  rcases ite_or hf with hf | hf
  · cases hf
    exact e
  cases hf
  exact e
theorem fr_X7_about {s : Sg} {v1 : Int32} {o : Int32 × Sg} (hf : f_X7_about s v1 = some o) : Fr [] s o.2 := fr_X7_about_0 s v1 hf
theorem fr_X7_store_0 {o : Int32 × Sg} (s : Sg) (v1 : Int32) (hf : c_X7_store_0 s v1 = some o) : Fr [] s o.2 := by
  unfold c_X7_store_0 at hf
  have e : Fr [] s s := Fr.rf
  obtain ⟨r2, s1, h9, hf⟩ := bd_some hf
  have e := e.tr ((fr_X7_within h9).mo (by simp))
  rcases ite_or hf with hf | hf
  · cases hf
    exact e
  · have hf := (gd_some hf).2
    cases hf
    exact e
theorem fr_X7_store {s : Sg} {v1 : Int32} {o : Int32 × Sg} (hf : f_X7_store s v1 = some o) : Fr [] s o.2 := fr_X7_store_0 s v1 hf
theorem fr_X7_pig_0 {o : Int32 × Sg} (s : Sg) (v1 : Int32) (v2 : Int32) (hf : c_X7_pig_0 s v1 v2 = some o) : Fr [] s o.2 := by
  unfold c_X7_pig_0 at hf
  have e : Fr [] s s := Fr.rf
  rcases ite_or hf with hf | hf
  · cases hf
    exact e
  · obtain ⟨r2, s1, h9, hf⟩ := bd_some hf
    have e := e.tr ((fr_X7_within h9).mo (by simp))
    rcases ite_or hf with hf | hf
    · cases hf
      exact e
    · rcases ite_or hf with hf | hf
      · obtain ⟨r4, s3, h9, hf⟩ := bd_some hf
        have e := e.tr ((fr_X6_get h9).mo (by simp))
        cases hf
        exact e
      · cases hf
        exact e
theorem fr_X7_pig {s : Sg} {v1 : Int32} {v2 : Int32} {o : Int32 × Sg} (hf : f_X7_pig s v1 v2 = some o) : Fr [] s o.2 := fr_X7_pig_0 s v1 v2 hf
theorem fr_X7_sign_0 {o : Int32 × Sg} (s : Sg) (v1 : Int32) (hf : c_X7_sign_0 s v1 = some o) : Fr [] s o.2 := by
  unfold c_X7_sign_0 at hf
  have e : Fr [] s s := Fr.rf
  obtain ⟨r2, s1, h9, hf⟩ := bd_some hf
  have e := e.tr ((fr_X7_within h9).mo (by simp))
  rcases ite_or hf with hf | hf
  · cases hf
    exact e
  · have hf := (gd_some hf).2
    cases hf
    exact e
theorem fr_X7_sign {s : Sg} {v1 : Int32} {o : Int32 × Sg} (hf : f_X7_sign s v1 = some o) : Fr [] s o.2 := fr_X7_sign_0 s v1 hf
theorem fr_X7_lose_0 {o : Int32 × Sg} (s : Sg) (v1 : Int32) (v2 : Int32) (hf : c_X7_lose_0 s v1 v2 = some o) : Fr [(12, none)] s o.2 := by
  unfold c_X7_lose_0 at hf
  have e : Fr [(12, none)] s s := Fr.rf
  obtain ⟨r2, s1, h9, hf⟩ := bd_some hf
  have e := e.tr ((fr_X7_within h9).mo (by simp))
  rcases ite_or hf with hf | hf
  · cases hf
    exact e
  · obtain ⟨r4, s3, h9, hf⟩ := bd_some hf
    have e := e.tr ((fr_X7_within h9).mo (by simp))
    rcases ite_or hf with hf | hf
    · cases hf
      exact e
    · have hf := (gd_some hf).2
      obtain ⟨s5, h9, hf⟩ := lt_some hf
      have e := e.put h9 (Or.inl (by simp))
      cases hf
      exact e
theorem fr_X7_lose {s : Sg} {v1 : Int32} {v2 : Int32} {o : Int32 × Sg} (hf : f_X7_lose s v1 v2 = some o) : Fr [(12, none)] s o.2 := fr_X7_lose_0 s v1 v2 hf
theorem fr_X7_rule_85 {o : Int32 × Sg} (s : Sg) (v3 : Int32) (v4 : Int32) (v5 : Int32) (u1 : Int32) (u2 : Int32) (u3 : Int32) (hf : c_X7_rule_85 s v3 v4 v5 u1 u2 u3 = some o) : Fr [(13, some 3), (14, none)] s o.2 := by
  unfold c_X7_rule_85 at hf
  have e : Fr [(13, some 3), (14, none)] s s := Fr.rf
  obtain ⟨s1, h9, hf⟩ := bdv_some hf
  have e := e.tr ((fr_X6_set h9).mo (by simp))
  obtain ⟨s3, h9, hf⟩ := bdv_some hf
  have e := e.tr ((fr_X6_set h9).mo (by simp))
  obtain ⟨s5, h9, hf⟩ := bdv_some hf
  have e := e.tr ((fr_X6_set h9).mo (by simp))
  cases hf
  exact e
theorem fr_X7_rule_0 {o : Int32 × Sg} (s : Sg) (v1 : Int32) (v2 : Int32) (v3 : Int32) (v4 : Int32) (hf : c_X7_rule_0 s v1 v2 v3 v4 = some o) : Fr [(13, some 3), (14, none)] s o.2 := by
  unfold c_X7_rule_0 at hf
  have e : Fr [(13, some 3), (14, none)] s s := Fr.rf
  obtain ⟨r2, s1, h9, hf⟩ := bd_some hf
  have e := e.tr ((fr_X7_within h9).mo (by simp))
  rcases ite_or hf with hf | hf
  · cases hf
    exact e
  · obtain ⟨r4, s3, h9, hf⟩ := bd_some hf
    have e := e.tr ((fr_X7_within h9).mo (by simp))
    rcases ite_or hf with hf | hf
    · cases hf
      exact e
    · obtain ⟨r6, s5, h9, hf⟩ := bd_some hf
      have e := e.tr ((fr_X7_within h9).mo (by simp))
      rcases ite_or hf with hf | hf
      · cases hf
        exact e
      · obtain ⟨r8, s7, h9, hf⟩ := bd_some hf
        have e := e.tr ((fr_X6_isFull h9).mo (by simp))
        rcases ite_or hf with hf | hf
        · obtain ⟨r10, s9, h9, hf⟩ := bd_some hf
          have e := e.tr ((fr_X6_add h9).mo (by simp))
          obtain ⟨s11, h9, hf⟩ := bdv_some hf
          have e := e.tr ((fr_X6_set h9).mo (by simp))
          rcases ite_or hf with hf | hf
          · exact e.tr (fr_X7_rule_85 _ _ _ _ _ _ _ hf)
          · exact e.tr (fr_X7_rule_85 _ _ _ _ _ _ _ hf)
        · cases hf
          exact e
theorem fr_X7_rule {s : Sg} {v1 : Int32} {v2 : Int32} {v3 : Int32} {v4 : Int32} {o : Int32 × Sg} (hf : f_X7_rule s v1 v2 v3 v4 = some o) : Fr [(13, some 3), (14, none)] s o.2 := fr_X7_rule_0 s v1 v2 v3 v4 hf
theorem fr_X7_unrule_0 {o : Int32 × Sg} (s : Sg) (hf : c_X7_unrule_0 s = some o) : Fr [(13, some 3)] s o.2 := by
  unfold c_X7_unrule_0 at hf
  have e : Fr [(13, some 3)] s s := Fr.rf
  obtain ⟨x1, -, hf⟩ := lt_some hf
  obtain ⟨s2, h9, hf⟩ := lt_some hf
  have e := e.put h9 (Or.inr (by simp))
  cases hf
  exact e
theorem fr_X7_unrule {s : Sg} {o : Int32 × Sg} (hf : f_X7_unrule s = some o) : Fr [(13, some 3)] s o.2 := fr_X7_unrule_0 s hf
theorem fr_X7_forge_0 {o : Int32 × Sg} (s : Sg) (v1 : Int32) (v2 : Int32) (v3 : Int32) (hf : c_X7_forge_0 s v1 v2 v3 = some o) : Fr [(15, some 3), (16, none)] s o.2 := by
  unfold c_X7_forge_0 at hf
  have e : Fr [(15, some 3), (16, none)] s s := Fr.rf
  obtain ⟨r2, s1, h9, hf⟩ := bd_some hf
  have e := e.tr ((fr_X7_within h9).mo (by simp))
  rcases ite_or hf with hf | hf
  · cases hf
    exact e
  · obtain ⟨r4, s3, h9, hf⟩ := bd_some hf
    have e := e.tr ((fr_X7_within h9).mo (by simp))
    rcases ite_or hf with hf | hf
    · cases hf
      exact e
    · obtain ⟨r6, s5, h9, hf⟩ := bd_some hf
      have e := e.tr ((fr_X7_within h9).mo (by simp))
      rcases ite_or hf with hf | hf
      · cases hf
        exact e
      · obtain ⟨r8, s7, h9, hf⟩ := bd_some hf
        have e := e.tr ((fr_X6_isFull h9).mo (by simp))
        rcases ite_or hf with hf | hf
        · obtain ⟨r10, s9, h9, hf⟩ := bd_some hf
          have e := e.tr ((fr_X6_add h9).mo (by simp))
          obtain ⟨s11, h9, hf⟩ := bdv_some hf
          have e := e.tr ((fr_X6_set h9).mo (by simp))
          obtain ⟨s13, h9, hf⟩ := bdv_some hf
          have e := e.tr ((fr_X6_set h9).mo (by simp))
          obtain ⟨s15, h9, hf⟩ := bdv_some hf
          have e := e.tr ((fr_X6_set h9).mo (by simp))
          cases hf
          exact e
        · cases hf
          exact e
theorem fr_X7_forge {s : Sg} {v1 : Int32} {v2 : Int32} {v3 : Int32} {o : Int32 × Sg} (hf : f_X7_forge s v1 v2 v3 = some o) : Fr [(15, some 3), (16, none)] s o.2 := fr_X7_forge_0 s v1 v2 v3 hf
theorem fr_X7_sale_0 {N : Nat} {o : Int32 × Sg} (s : Sg) (hf : c_X7_sale_0 N s = some o) : Fr [(17, some 7), (17, some 8), (18, none), (19, none), (20, none), (21, none), (22, none), (23, none), (24, none)] s o.2 := by
  unfold c_X7_sale_0 at hf
  have e : Fr [(17, some 7), (17, some 8), (18, none), (19, none), (20, none), (21, none), (22, none), (23, none), (24, none)] s s := Fr.rf
  obtain ⟨s1, h9, hf⟩ := bdv_some hf
  have e := e.tr ((fr_X4_settle h9).mo (by simp))
  cases hf
  exact e
theorem fr_X7_sale {N : Nat} {s : Sg} {o : Int32 × Sg} (hf : f_X7_sale N s = some o) : Fr [(17, some 7), (17, some 8), (18, none), (19, none), (20, none), (21, none), (22, none), (23, none), (24, none)] s o.2 := fr_X7_sale_0 s hf
theorem fr_X7_sell_107 {N : Nat} {o : Int32 × Sg} (s : Sg) (v1 : Int32) (hf : c_X7_sell_107 N s v1 = some o) : Fr [(0, some 13), (0, some 14), (9, none), (16, none), (17, some 7), (17, some 8), (18, none), (19, none), (20, none), (21, none), (22, none), (23, none), (24, none)] s o.2 := by
  unfold c_X7_sell_107 at hf
  have e : Fr [(0, some 13), (0, some 14), (9, none), (16, none), (17, some 7), (17, some 8), (18, none), (19, none), (20, none), (21, none), (22, none), (23, none), (24, none)] s s := Fr.rf
  obtain ⟨s1, h9, hf⟩ := lt_some hf
  have e := e.put h9 (Or.inr (by simp))
  obtain ⟨s2, h9, hf⟩ := lt_some hf
  have e := e.put h9 (Or.inr (by simp))
  cases hf
  exact e
theorem fr_X7_sell_101 {N : Nat} {o : Int32 × Sg} {K19 : Sg → Int32 → Int32 → Option (Int32 × Sg)} (gK19 : ∀ (s : Sg) (v1 : Int32) (v2 : Int32), K19 s v1 v2 = some o → Fr [(0, some 13), (0, some 14), (9, none), (16, none), (17, some 7), (17, some 8), (18, none), (19, none), (20, none), (21, none), (22, none), (23, none), (24, none)] s o.2) (s : Sg) (v1 : Int32) (v2 : Int32) (hf : c_X7_sell_101 N K19 s v1 v2 = some o) : Fr [(0, some 13), (0, some 14), (9, none), (16, none), (17, some 7), (17, some 8), (18, none), (19, none), (20, none), (21, none), (22, none), (23, none), (24, none)] s o.2 := by
  unfold c_X7_sell_101 at hf
  have e : Fr [(0, some 13), (0, some 14), (9, none), (16, none), (17, some 7), (17, some 8), (18, none), (19, none), (20, none), (21, none), (22, none), (23, none), (24, none)] s s := Fr.rf
  exact e.tr (gK19 _ _ _ hf)
theorem fr_X7_sell_19 {N : Nat} {o : Int32 × Sg} {K19 : Sg → Int32 → Int32 → Option (Int32 × Sg)} (gK19 : ∀ (s : Sg) (v1 : Int32) (v2 : Int32), K19 s v1 v2 = some o → Fr [(0, some 13), (0, some 14), (9, none), (16, none), (17, some 7), (17, some 8), (18, none), (19, none), (20, none), (21, none), (22, none), (23, none), (24, none)] s o.2) (s : Sg) (v1 : Int32) (v2 : Int32) (hf : c_X7_sell_19 N K19 s v1 v2 = some o) : Fr [(0, some 13), (0, some 14), (9, none), (16, none), (17, some 7), (17, some 8), (18, none), (19, none), (20, none), (21, none), (22, none), (23, none), (24, none)] s o.2 := by
  unfold c_X7_sell_19 at hf
  have e : Fr [(0, some 13), (0, some 14), (9, none), (16, none), (17, some 7), (17, some 8), (18, none), (19, none), (20, none), (21, none), (22, none), (23, none), (24, none)] s s := Fr.rf
  rcases ite_or hf with hf | hf
  · exact e.tr (fr_X7_sell_107 _ _ hf)
  · have hf := (gd_some hf).2
    obtain ⟨x1, -, hf⟩ := lt_some hf
    rcases ite_or hf with hf | hf
    · exact e.tr (fr_X7_sell_101 gK19 _ _ _ hf)
    · obtain ⟨r3, s2, h9, hf⟩ := bd_some hf
      have e := e.tr ((fr_X6_get h9).mo (by simp))
      have hf := (gd_some hf).2
      obtain ⟨s4, h9, hf⟩ := bdv_some hf
      have e := e.tr ((fr_X6_set h9).mo (by simp))
      have hf := (gd_some hf).2
      obtain ⟨s6, h9, hf⟩ := bdv_some hf
      have e := e.tr ((fr_X6_set h9).mo (by simp))
      exact e.tr (fr_X7_sell_101 gK19 _ _ _ hf)
theorem fh_X7_sell_19 {N : Nat} {o : Int32 × Sg} : ∀ (j : Nat) (s : Sg) (v1 : Int32) (v2 : Int32), b_X7_sell_19 N j s v1 v2 = some o → Fr [(0, some 13), (0, some 14), (9, none), (16, none), (17, some 7), (17, some 8), (18, none), (19, none), (20, none), (21, none), (22, none), (23, none), (24, none)] s o.2 := by
  intro j
  induction j with
  | zero => intro s v1 v2 hf; cases (show none = some o from hf)
  | succ j ih => intro s v1 v2 hf; exact fr_X7_sell_19 ih s v1 v2 hf
theorem fr_X7_sell_0 {N : Nat} {o : Int32 × Sg} (s : Sg) (hf : c_X7_sell_0 N s = some o) : Fr [(0, some 13), (0, some 14), (9, none), (16, none), (17, some 7), (17, some 8), (18, none), (19, none), (20, none), (21, none), (22, none), (23, none), (24, none)] s o.2 := by
  unfold c_X7_sell_0 at hf
  have e : Fr [(0, some 13), (0, some 14), (9, none), (16, none), (17, some 7), (17, some 8), (18, none), (19, none), (20, none), (21, none), (22, none), (23, none), (24, none)] s s := Fr.rf
  obtain ⟨s1, h9, hf⟩ := bdv_some hf
  have e := e.tr ((fr_X4_settle h9).mo (by simp))
  exact e.tr (fh_X7_sell_19 _ _ _ _ hf)
theorem fr_X7_sell {N : Nat} {s : Sg} {o : Int32 × Sg} (hf : f_X7_sell N s = some o) : Fr [(0, some 13), (0, some 14), (9, none), (16, none), (17, some 7), (17, some 8), (18, none), (19, none), (20, none), (21, none), (22, none), (23, none), (24, none)] s o.2 := fr_X7_sell_0 s hf
theorem fr_X7_month_0 {o : Int32 × Sg} (s : Sg) (v1 : Int32) (v2 : Int32) (v3 : Int32) (hf : c_X7_month_0 s v1 v2 v3 = some o) : Fr [(26, none)] s o.2 := by
  unfold c_X7_month_0 at hf
  have e : Fr [(26, none)] s s := Fr.rf
  obtain ⟨r2, s1, h9, hf⟩ := bd_some hf
  have e := e.tr ((fr_X7_within h9).mo (by simp))
  rcases ite_or hf with hf | hf
  · cases hf
    exact e
  · obtain ⟨r4, s3, h9, hf⟩ := bd_some hf
    have e := e.tr ((fr_X7_within h9).mo (by simp))
    rcases ite_or hf with hf | hf
    · cases hf
      exact e
    · obtain ⟨r6, s5, h9, hf⟩ := bd_some hf
      have e := e.tr ((fr_X7_within h9).mo (by simp))
      rcases ite_or hf with hf | hf
      · cases hf
        exact e
      · obtain ⟨s7, h9, hf⟩ := bdv_some hf
        have e := e.tr ((fr_X6_set h9).mo (by simp))
        obtain ⟨s9, h9, hf⟩ := bdv_some hf
        have e := e.tr ((fr_X6_set h9).mo (by simp))
        cases hf
        exact e
theorem fr_X7_month {s : Sg} {v1 : Int32} {v2 : Int32} {v3 : Int32} {o : Int32 × Sg} (hf : f_X7_month s v1 v2 v3 = some o) : Fr [(26, none)] s o.2 := fr_X7_month_0 s v1 v2 v3 hf
theorem fr_X7_pace_0 {o : Int32 × Sg} (s : Sg) (v1 : Int32) (v2 : Int32) (v3 : Int32) (v4 : Int32) (hf : c_X7_pace_0 s v1 v2 v3 v4 = some o) : Fr [(28, none)] s o.2 := by
  unfold c_X7_pace_0 at hf
  have e : Fr [(28, none)] s s := Fr.rf
  obtain ⟨r2, s1, h9, hf⟩ := bd_some hf
  have e := e.tr ((fr_X7_within h9).mo (by simp))
  rcases ite_or hf with hf | hf
  · cases hf
    exact e
  · obtain ⟨r4, s3, h9, hf⟩ := bd_some hf
    have e := e.tr ((fr_X7_within h9).mo (by simp))
    rcases ite_or hf with hf | hf
    · cases hf
      exact e
    · obtain ⟨r6, s5, h9, hf⟩ := bd_some hf
      have e := e.tr ((fr_X7_within h9).mo (by simp))
      rcases ite_or hf with hf | hf
      · cases hf
        exact e
      · obtain ⟨r8, s7, h9, hf⟩ := bd_some hf
        have e := e.tr ((fr_X7_within h9).mo (by simp))
        rcases ite_or hf with hf | hf
        · cases hf
          exact e
        · obtain ⟨s9, h9, hf⟩ := bdv_some hf
          have e := e.tr ((fr_X6_set h9).mo (by simp))
          obtain ⟨s11, h9, hf⟩ := bdv_some hf
          have e := e.tr ((fr_X6_set h9).mo (by simp))
          obtain ⟨s13, h9, hf⟩ := bdv_some hf
          have e := e.tr ((fr_X6_set h9).mo (by simp))
          cases hf
          exact e
theorem fr_X7_pace {s : Sg} {v1 : Int32} {v2 : Int32} {v3 : Int32} {v4 : Int32} {o : Int32 × Sg} (hf : f_X7_pace s v1 v2 v3 v4 = some o) : Fr [(28, none)] s o.2 := fr_X7_pace_0 s v1 v2 v3 v4 hf
theorem fr_X7_plan_0 {N : Nat} {o : Int32 × Sg} (s : Sg) (v1 : Int32) (v2 : Int32) (v3 : Int32) (v4 : Int32) (hf : c_X7_plan_0 N s v1 v2 v3 v4 = some o) : Fr [(29, some 6), (29, some 7), (29, some 8), (30, none), (31, none), (32, none), (33, none), (34, none), (35, none)] s o.2 := by
  unfold c_X7_plan_0 at hf
  have e : Fr [(29, some 6), (29, some 7), (29, some 8), (30, none), (31, none), (32, none), (33, none), (34, none), (35, none)] s s := Fr.rf
  obtain ⟨r2, s1, h9, hf⟩ := bd_some hf
  have e := e.tr ((fr_X7_within h9).mo (by simp))
  rcases ite_or hf with hf | hf
  · cases hf
    exact e
  · obtain ⟨r4, s3, h9, hf⟩ := bd_some hf
    have e := e.tr ((fr_X7_within h9).mo (by simp))
    rcases ite_or hf with hf | hf
    · cases hf
      exact e
    · obtain ⟨r6, s5, h9, hf⟩ := bd_some hf
      have e := e.tr ((fr_X7_within h9).mo (by simp))
      rcases ite_or hf with hf | hf
      · cases hf
        exact e
      · obtain ⟨r8, s7, h9, hf⟩ := bd_some hf
        have e := e.tr ((fr_X7_within h9).mo (by simp))
        rcases ite_or hf with hf | hf
        · cases hf
          exact e
        · obtain ⟨s9, h9, hf⟩ := bdv_some hf
          have e := e.tr ((fr_X3_readMonths h9).mo (by simp))
          obtain ⟨r12, s11, h9, hf⟩ := bd_some hf
          have e := e.tr ((fr_X3_settle h9).mo (by simp))
          cases hf
          exact e
theorem fr_X7_plan {N : Nat} {s : Sg} {v1 : Int32} {v2 : Int32} {v3 : Int32} {v4 : Int32} {o : Int32 × Sg} (hf : f_X7_plan N s v1 v2 v3 v4 = some o) : Fr [(29, some 6), (29, some 7), (29, some 8), (30, none), (31, none), (32, none), (33, none), (34, none), (35, none)] s o.2 := fr_X7_plan_0 s v1 v2 v3 v4 hf
theorem fr_X7_paceAt_0 {o : Int32 × Sg} (s : Sg) (v1 : Int32) (hf : c_X7_paceAt_0 s v1 = some o) : Fr [] s o.2 := by
  unfold c_X7_paceAt_0 at hf
  have e : Fr [] s s := Fr.rf
  obtain ⟨r2, s1, h9, hf⟩ := bd_some hf
  have e := e.tr ((fr_X7_within h9).mo (by simp))
  rcases ite_or hf with hf | hf
  · cases hf
    exact e
  · have hf := (gd_some hf).2
    cases hf
    exact e
theorem fr_X7_paceAt {s : Sg} {v1 : Int32} {o : Int32 × Sg} (hf : f_X7_paceAt s v1 = some o) : Fr [] s o.2 := fr_X7_paceAt_0 s v1 hf
theorem fr_X7_count_0 {o : Int32 × Sg} (s : Sg) (v1 : Int32) (hf : c_X7_count_0 s v1 = some o) : Fr [] s o.2 := by
  unfold c_X7_count_0 at hf
  have e : Fr [] s s := Fr.rf
  rcases ite_or hf with hf | hf
  · cases hf
    exact e
  rcases ite_or hf with hf | hf
  · cases hf
    exact e
  rcases ite_or hf with hf | hf
  · cases hf
    exact e
  rcases ite_or hf with hf | hf
  · cases hf
    exact e
  rcases ite_or hf with hf | hf
  · cases hf
    exact e
  rcases ite_or hf with hf | hf
  · cases hf
    exact e
  cases hf
  exact e
theorem fr_X7_count {s : Sg} {v1 : Int32} {o : Int32 × Sg} (hf : f_X7_count s v1 = some o) : Fr [] s o.2 := fr_X7_count_0 s v1 hf
theorem fr_X7_digest_109 {N : Nat} {o : Int64 × Sg} {K109 : Sg → Int64 → Int32 → Option (Int64 × Sg)} (gK109 : ∀ (s : Sg) (v1 : Int64) (v3 : Int32), K109 s v1 v3 = some o → Fr [] s o.2) (s : Sg) (v1 : Int64) (v3 : Int32) (hf : c_X7_digest_109 N K109 s v1 v3 = some o) : Fr [] s o.2 := by
  unfold c_X7_digest_109 at hf
  have e : Fr [] s s := Fr.rf
  rcases ite_or hf with hf | hf
  · cases hf
    exact e
  · have hf := (gd_some hf).2
    obtain ⟨x1, -, hf⟩ := lt_some hf
    exact e.tr (gK109 _ _ _ hf)
theorem fh_X7_digest_109 {N : Nat} {o : Int64 × Sg} : ∀ (j : Nat) (s : Sg) (v1 : Int64) (v3 : Int32), b_X7_digest_109 N j s v1 v3 = some o → Fr [] s o.2 := by
  intro j
  induction j with
  | zero => intro s v1 v3 hf; cases (show none = some o from hf)
  | succ j ih => intro s v1 v3 hf; exact fr_X7_digest_109 ih s v1 v3 hf
theorem fr_X7_digest_86 {N : Nat} {o : Int64 × Sg} (s : Sg) (v1 : Int64) (hf : c_X7_digest_86 N s v1 = some o) : Fr [] s o.2 := by
  unfold c_X7_digest_86 at hf
  have e : Fr [] s s := Fr.rf
  obtain ⟨r2, s1, h9, hf⟩ := bdl_some hf
  have e := e.tr ((fr_X6_mixInto h9).mo (by simp))
  obtain ⟨r4, s3, h9, hf⟩ := bdl_some hf
  have e := e.tr ((fr_X6_mixInto h9).mo (by simp))
  exact e.tr (fh_X7_digest_109 _ _ _ _ hf)
theorem fr_X7_digest_60 {N : Nat} {o : Int64 × Sg} {K60 : Sg → Int64 → Int32 → Option (Int64 × Sg)} (gK60 : ∀ (s : Sg) (v1 : Int64) (v3 : Int32), K60 s v1 v3 = some o → Fr [] s o.2) (s : Sg) (v1 : Int64) (v3 : Int32) (hf : c_X7_digest_60 N K60 s v1 v3 = some o) : Fr [] s o.2 := by
  unfold c_X7_digest_60 at hf
  have e : Fr [] s s := Fr.rf
  rcases ite_or hf with hf | hf
  · exact e.tr (fr_X7_digest_86 _ _ hf)
  · have hf := (gd_some hf).2
    obtain ⟨x1, -, hf⟩ := lt_some hf
    exact e.tr (gK60 _ _ _ hf)
theorem fh_X7_digest_60 {N : Nat} {o : Int64 × Sg} : ∀ (j : Nat) (s : Sg) (v1 : Int64) (v3 : Int32), b_X7_digest_60 N j s v1 v3 = some o → Fr [] s o.2 := by
  intro j
  induction j with
  | zero => intro s v1 v3 hf; cases (show none = some o from hf)
  | succ j ih => intro s v1 v3 hf; exact fr_X7_digest_60 ih s v1 v3 hf
theorem fr_X7_digest_58 {N : Nat} {o : Int64 × Sg} (s : Sg) (v1 : Int64) (hf : c_X7_digest_58 N s v1 = some o) : Fr [] s o.2 := by
  unfold c_X7_digest_58 at hf
  have e : Fr [] s s := Fr.rf
  exact e.tr (fh_X7_digest_60 _ _ _ _ hf)
theorem fr_X7_digest_33 {N : Nat} {o : Int64 × Sg} {K33 : Sg → Int64 → Int32 → Option (Int64 × Sg)} (gK33 : ∀ (s : Sg) (v1 : Int64) (v3 : Int32), K33 s v1 v3 = some o → Fr [] s o.2) (s : Sg) (v1 : Int64) (v3 : Int32) (hf : c_X7_digest_33 N K33 s v1 v3 = some o) : Fr [] s o.2 := by
  unfold c_X7_digest_33 at hf
  have e : Fr [] s s := Fr.rf
  rcases ite_or hf with hf | hf
  · exact e.tr (fr_X7_digest_58 _ _ hf)
  · obtain ⟨r2, s1, h9, hf⟩ := bd_some hf
    have e := e.tr ((fr_X7_about h9).mo (by simp))
    obtain ⟨x3, -, hf⟩ := lt_some hf
    exact e.tr (gK33 _ _ _ hf)
theorem fh_X7_digest_33 {N : Nat} {o : Int64 × Sg} : ∀ (j : Nat) (s : Sg) (v1 : Int64) (v3 : Int32), b_X7_digest_33 N j s v1 v3 = some o → Fr [] s o.2 := by
  intro j
  induction j with
  | zero => intro s v1 v3 hf; cases (show none = some o from hf)
  | succ j ih => intro s v1 v3 hf; exact fr_X7_digest_33 ih s v1 v3 hf
theorem fr_X7_digest_31 {N : Nat} {o : Int64 × Sg} (s : Sg) (v1 : Int64) (hf : c_X7_digest_31 N s v1 = some o) : Fr [] s o.2 := by
  unfold c_X7_digest_31 at hf
  have e : Fr [] s s := Fr.rf
  exact e.tr (fh_X7_digest_33 _ _ _ _ hf)
theorem fr_X7_digest_6 {N : Nat} {o : Int64 × Sg} {K6 : Sg → Int64 → Int32 → Option (Int64 × Sg)} (gK6 : ∀ (s : Sg) (v1 : Int64) (v3 : Int32), K6 s v1 v3 = some o → Fr [] s o.2) (s : Sg) (v1 : Int64) (v3 : Int32) (hf : c_X7_digest_6 N K6 s v1 v3 = some o) : Fr [] s o.2 := by
  unfold c_X7_digest_6 at hf
  have e : Fr [] s s := Fr.rf
  rcases ite_or hf with hf | hf
  · exact e.tr (fr_X7_digest_31 _ _ hf)
  · obtain ⟨r2, s1, h9, hf⟩ := bd_some hf
    have e := e.tr ((fr_X7_count h9).mo (by simp))
    obtain ⟨x3, -, hf⟩ := lt_some hf
    exact e.tr (gK6 _ _ _ hf)
theorem fh_X7_digest_6 {N : Nat} {o : Int64 × Sg} : ∀ (j : Nat) (s : Sg) (v1 : Int64) (v3 : Int32), b_X7_digest_6 N j s v1 v3 = some o → Fr [] s o.2 := by
  intro j
  induction j with
  | zero => intro s v1 v3 hf; cases (show none = some o from hf)
  | succ j ih => intro s v1 v3 hf; exact fr_X7_digest_6 ih s v1 v3 hf
theorem fr_X7_digest_0 {N : Nat} {o : Int64 × Sg} (s : Sg) (hf : c_X7_digest_0 N s = some o) : Fr [] s o.2 := by
  unfold c_X7_digest_0 at hf
  have e : Fr [] s s := Fr.rf
  exact e.tr (fh_X7_digest_6 _ _ _ _ hf)
theorem fr_X7_digest {N : Nat} {s : Sg} {o : Int64 × Sg} (hf : f_X7_digest N s = some o) : Fr [] s o.2 := fr_X7_digest_0 s hf
theorem fr_X8_in_0 {o : Int32 × Sg} (s : Sg) (v0 : Int32) (v1 : Int32) (v2 : Int32) (hf : c_X8_in_0 s v0 v1 v2 = some o) : Fr [] s o.2 := by
  unfold c_X8_in_0 at hf
  have e : Fr [] s s := Fr.rf
  rcases ite_or hf with hf | hf
  · have hf := (gd_some hf).2
    cases hf
    exact e
  · rcases ite_or hf with hf | hf
    · have hf := (gd_some hf).2
      cases hf
      exact e
    · have hf := (gd_some hf).2
      cases hf
      exact e
theorem fr_X8_in {s : Sg} {v0 : Int32} {v1 : Int32} {v2 : Int32} {o : Int32 × Sg} (hf : f_X8_in s v0 v1 v2 = some o) : Fr [] s o.2 := fr_X8_in_0 s v0 v1 v2 hf
theorem fr_X8_buy_0 {o : Int32 × Sg} (s : Sg) (v1 : Int32) (v2 : Int32) (hf : c_X8_buy_0 s v1 v2 = some o) : Fr [(37, none)] s o.2 := by
  unfold c_X8_buy_0 at hf
  have e : Fr [(37, none)] s s := Fr.rf
  obtain ⟨r2, s1, h9, hf⟩ := bd_some hf
  have e := e.tr ((fr_X8_in h9).mo (by simp))
  rcases ite_or hf with hf | hf
  · cases hf
    exact e
  · obtain ⟨r4, s3, h9, hf⟩ := bd_some hf
    have e := e.tr ((fr_X8_in h9).mo (by simp))
    rcases ite_or hf with hf | hf
    · cases hf
      exact e
    · have hf := (gd_some hf).2
      rcases ite_or hf with hf | hf
      · have hf := (gd_some hf).2
        have hf := (gd_some hf).2
        obtain ⟨s5, h9, hf⟩ := lt_some hf
        have e := e.put h9 (Or.inl (by simp))
        have hf := (gd_some hf).2
        cases hf
        exact e
      · cases hf
        exact e
theorem fr_X8_buy {s : Sg} {v1 : Int32} {v2 : Int32} {o : Int32 × Sg} (hf : f_X8_buy s v1 v2 = some o) : Fr [(37, none)] s o.2 := fr_X8_buy_0 s v1 v2 hf
theorem fr_X8_store_0 {o : Int32 × Sg} (s : Sg) (v1 : Int32) (hf : c_X8_store_0 s v1 = some o) : Fr [] s o.2 := by
  unfold c_X8_store_0 at hf
  have e : Fr [] s s := Fr.rf
  obtain ⟨r2, s1, h9, hf⟩ := bd_some hf
  have e := e.tr ((fr_X8_in h9).mo (by simp))
  rcases ite_or hf with hf | hf
  · cases hf
    exact e
  · have hf := (gd_some hf).2
    cases hf
    exact e
theorem fr_X8_store {s : Sg} {v1 : Int32} {o : Int32 × Sg} (hf : f_X8_store s v1 = some o) : Fr [] s o.2 := fr_X8_store_0 s v1 hf
theorem fr_X8_rich_0 {o : Int32 × Sg} (s : Sg) (v1 : Int32) (v2 : Int32) (hf : c_X8_rich_0 s v1 v2 = some o) : Fr [(38, none)] s o.2 := by
  unfold c_X8_rich_0 at hf
  have e : Fr [(38, none)] s s := Fr.rf
  obtain ⟨r2, s1, h9, hf⟩ := bd_some hf
  have e := e.tr ((fr_X8_in h9).mo (by simp))
  rcases ite_or hf with hf | hf
  · cases hf
    exact e
  · obtain ⟨r4, s3, h9, hf⟩ := bd_some hf
    have e := e.tr ((fr_X8_in h9).mo (by simp))
    rcases ite_or hf with hf | hf
    · cases hf
      exact e
    · have hf := (gd_some hf).2
      obtain ⟨x5, -, hf⟩ := lt_some hf
      have hf := (gd_some hf).2
      obtain ⟨s6, h9, hf⟩ := lt_some hf
      have e := e.put h9 (Or.inl (by simp))
      cases hf
      exact e
theorem fr_X8_rich {s : Sg} {v1 : Int32} {v2 : Int32} {o : Int32 × Sg} (hf : f_X8_rich s v1 v2 = some o) : Fr [(38, none)] s o.2 := fr_X8_rich_0 s v1 v2 hf
theorem fr_X8_charge_0 {o : Int32 × Sg} (s : Sg) (v1 : Int32) (v2 : Int32) (v3 : Int32) (v4 : Int32) (hf : c_X8_charge_0 s v1 v2 v3 v4 = some o) : Fr [(36, some 2), (37, none), (39, none), (40, none), (41, none), (42, none), (43, none), (44, none), (45, none)] s o.2 := by
  unfold c_X8_charge_0 at hf
  have e : Fr [(36, some 2), (37, none), (39, none), (40, none), (41, none), (42, none), (43, none), (44, none), (45, none)] s s := Fr.rf
  obtain ⟨r2, s1, h9, hf⟩ := bd_some hf
  have e := e.tr ((fr_X8_in h9).mo (by simp))
  rcases ite_or hf with hf | hf
  · cases hf
    exact e
  · obtain ⟨r4, s3, h9, hf⟩ := bd_some hf
    have e := e.tr ((fr_X8_in h9).mo (by simp))
    rcases ite_or hf with hf | hf
    · cases hf
      exact e
    · obtain ⟨r6, s5, h9, hf⟩ := bd_some hf
      have e := e.tr ((fr_X8_in h9).mo (by simp))
      rcases ite_or hf with hf | hf
      · cases hf
        exact e
      · obtain ⟨r8, s7, h9, hf⟩ := bd_some hf
        have e := e.tr ((fr_X8_in h9).mo (by simp))
        rcases ite_or hf with hf | hf
        · cases hf
          exact e
        · have hf := (gd_some hf).2
          rcases ite_or hf with hf | hf
          · cases hf
            exact e
          · have hf := (gd_some hf).2
            rcases ite_or hf with hf | hf
            · cases hf
              exact e
            · have hf := (gd_some hf).2
              rcases ite_or hf with hf | hf
              · rcases ite_or hf with hf | hf
                · cases hf
                  exact e
                · rcases ite_or hf with hf | hf
                  · cases hf
                    exact e
                  · have hf := (gd_some hf).2
                    have hf := (gd_some hf).2
                    obtain ⟨s9, h9, hf⟩ := lt_some hf
                    have e := e.put h9 (Or.inl (by simp))
                    have hf := (gd_some hf).2
                    have hf := (gd_some hf).2
                    obtain ⟨s10, h9, hf⟩ := lt_some hf
                    have e := e.put h9 (Or.inl (by simp))
                    have hf := (gd_some hf).2
                    have hf := (gd_some hf).2
                    obtain ⟨s11, h9, hf⟩ := lt_some hf
                    have e := e.put h9 (Or.inl (by simp))
                    have hf := (gd_some hf).2
                    obtain ⟨s12, h9, hf⟩ := lt_some hf
                    have e := e.put h9 (Or.inl (by simp))
                    have hf := (gd_some hf).2
                    obtain ⟨s13, h9, hf⟩ := lt_some hf
                    have e := e.put h9 (Or.inl (by simp))
                    have hf := (gd_some hf).2
                    obtain ⟨s14, h9, hf⟩ := lt_some hf
                    have e := e.put h9 (Or.inl (by simp))
                    have hf := (gd_some hf).2
                    obtain ⟨s15, h9, hf⟩ := lt_some hf
                    have e := e.put h9 (Or.inl (by simp))
                    have hf := (gd_some hf).2
                    obtain ⟨s16, h9, hf⟩ := lt_some hf
                    have e := e.put h9 (Or.inl (by simp))
                    have hf := (gd_some hf).2
                    obtain ⟨s17, h9, hf⟩ := lt_some hf
                    have e := e.put h9 (Or.inl (by simp))
                    have hf := (gd_some hf).2
                    obtain ⟨s18, h9, hf⟩ := lt_some hf
                    have e := e.put h9 (Or.inl (by simp))
                    obtain ⟨s19, h9, hf⟩ := lt_some hf
                    have e := e.put h9 (Or.inr (by simp))
                    cases hf
                    exact e
              · cases hf
                exact e
theorem fr_X8_charge {s : Sg} {v1 : Int32} {v2 : Int32} {v3 : Int32} {v4 : Int32} {o : Int32 × Sg} (hf : f_X8_charge s v1 v2 v3 v4 = some o) : Fr [(36, some 2), (37, none), (39, none), (40, none), (41, none), (42, none), (43, none), (44, none), (45, none)] s o.2 := fr_X8_charge_0 s v1 v2 v3 v4 hf
theorem fr_X8_chargeAt_0 {o : Int32 × Sg} (s : Sg) (v1 : Int32) (v2 : Int32) (hf : c_X8_chargeAt_0 s v1 v2 = some o) : Fr [] s o.2 := by
  unfold c_X8_chargeAt_0 at hf
  have e : Fr [] s s := Fr.rf
  rcases ite_or hf with hf | hf
  · cases hf
    exact e
  · obtain ⟨r2, s1, h9, hf⟩ := bd_some hf
    have e := e.tr ((fr_X8_in h9).mo (by simp))
    rcases ite_or hf with hf | hf
    · cases hf
      exact e
    · rcases ite_or hf with hf | hf
      · rcases ite_or hf with hf | hf
        · have hf := (gd_some hf).2
          cases hf
          exact e
        rcases ite_or hf with hf | hf
        · have hf := (gd_some hf).2
          cases hf
          exact e
        rcases ite_or hf with hf | hf
        · have hf := (gd_some hf).2
          cases hf
          exact e
        rcases ite_or hf with hf | hf
        · have hf := (gd_some hf).2
          cases hf
          exact e
        rcases ite_or hf with hf | hf
        · have hf := (gd_some hf).2
          cases hf
          exact e
        rcases ite_or hf with hf | hf
        · have hf := (gd_some hf).2
          cases hf
          exact e
        have hf := (gd_some hf).2
        cases hf
        exact e
      · cases hf
        exact e
theorem fr_X8_chargeAt {s : Sg} {v1 : Int32} {v2 : Int32} {o : Int32 × Sg} (hf : f_X8_chargeAt s v1 v2 = some o) : Fr [] s o.2 := fr_X8_chargeAt_0 s v1 v2 hf
theorem fr_X8_when_62 {N : Nat} {o : Int32 × Sg} (s : Sg) (v2 : Int32) (hf : c_X8_when_62 N s v2 = some o) : Fr [] s o.2 := by
  unfold c_X8_when_62 at hf
  have e : Fr [] s s := Fr.rf
  have hf := (gd_some hf).2
  cases hf
  exact e
theorem fr_X8_when_42 {N : Nat} {o : Int32 × Sg} {K42 : Sg → Int32 → Int32 → Int32 → Option (Int32 × Sg)} (gK42 : ∀ (s : Sg) (v1 : Int32) (v2 : Int32) (v3 : Int32), K42 s v1 v2 v3 = some o → Fr [] s o.2) (s : Sg) (v1 : Int32) (v2 : Int32) (v3 : Int32) (hf : c_X8_when_42 N K42 s v1 v2 v3 = some o) : Fr [] s o.2 := by
  unfold c_X8_when_42 at hf
  have e : Fr [] s s := Fr.rf
  rcases ite_or hf with hf | hf
  · exact e.tr (fr_X8_when_62 _ _ hf)
  · have hf := (gd_some hf).2
    obtain ⟨x1, -, hf⟩ := lt_some hf
    exact e.tr (gK42 _ _ _ _ hf)
theorem fh_X8_when_42 {N : Nat} {o : Int32 × Sg} : ∀ (j : Nat) (s : Sg) (v1 : Int32) (v2 : Int32) (v3 : Int32), b_X8_when_42 N j s v1 v2 v3 = some o → Fr [] s o.2 := by
  intro j
  induction j with
  | zero => intro s v1 v2 v3 hf; cases (show none = some o from hf)
  | succ j ih => intro s v1 v2 v3 hf; exact fr_X8_when_42 ih s v1 v2 v3 hf
theorem fr_X8_when_0 {N : Nat} {o : Int32 × Sg} (s : Sg) (v1 : Int32) (hf : c_X8_when_0 N s v1 = some o) : Fr [] s o.2 := by
  unfold c_X8_when_0 at hf
  have e : Fr [] s s := Fr.rf
  obtain ⟨r2, s1, h9, hf⟩ := bd_some hf
  have e := e.tr ((fr_X8_in h9).mo (by simp))
  rcases ite_or hf with hf | hf
  · cases hf
    exact e
  · have hf := (gd_some hf).2
    rcases ite_or hf with hf | hf
    · rcases ite_or hf with hf | hf
      · cases hf
        exact e
      · obtain ⟨x3, -, hf⟩ := lt_some hf
        exact e.tr (fh_X8_when_42 _ _ _ _ _ hf)
    · cases hf
      exact e
theorem fr_X8_when {N : Nat} {s : Sg} {v1 : Int32} {o : Int32 × Sg} (hf : f_X8_when N s v1 = some o) : Fr [] s o.2 := fr_X8_when_0 s v1 hf
theorem fr_X8_blast_0 {o : Int32 × Sg} (s : Sg) (v1 : Int32) (hf : c_X8_blast_0 s v1 = some o) : Fr [(36, some 11)] s o.2 := by
  unfold c_X8_blast_0 at hf
  have e : Fr [(36, some 11)] s s := Fr.rf
  obtain ⟨r2, s1, h9, hf⟩ := bd_some hf
  have e := e.tr ((fr_X8_in h9).mo (by simp))
  rcases ite_or hf with hf | hf
  · cases hf
    exact e
  · obtain ⟨x3, -, hf⟩ := lt_some hf
    obtain ⟨s4, h9, hf⟩ := lt_some hf
    have e := e.put h9 (Or.inr (by simp))
    cases hf
    exact e
theorem fr_X8_blast {s : Sg} {v1 : Int32} {o : Int32 × Sg} (hf : f_X8_blast s v1 = some o) : Fr [(36, some 11)] s o.2 := fr_X8_blast_0 s v1 hf
theorem fr_X8_hearth_0 {o : Int32 × Sg} (s : Sg) (v1 : Int32) (v2 : Int32) (hf : c_X8_hearth_0 s v1 v2 = some o) : Fr [(36, some 12), (36, some 13)] s o.2 := by
  unfold c_X8_hearth_0 at hf
  have e : Fr [(36, some 12), (36, some 13)] s s := Fr.rf
  obtain ⟨r2, s1, h9, hf⟩ := bd_some hf
  have e := e.tr ((fr_X8_in h9).mo (by simp))
  rcases ite_or hf with hf | hf
  · cases hf
    exact e
  · obtain ⟨r4, s3, h9, hf⟩ := bd_some hf
    have e := e.tr ((fr_X8_in h9).mo (by simp))
    rcases ite_or hf with hf | hf
    · cases hf
      exact e
    · obtain ⟨s5, h9, hf⟩ := lt_some hf
      have e := e.put h9 (Or.inr (by simp))
      obtain ⟨s6, h9, hf⟩ := lt_some hf
      have e := e.put h9 (Or.inr (by simp))
      cases hf
      exact e
theorem fr_X8_hearth {s : Sg} {v1 : Int32} {v2 : Int32} {o : Int32 × Sg} (hf : f_X8_hearth s v1 v2 = some o) : Fr [(36, some 12), (36, some 13)] s o.2 := fr_X8_hearth_0 s v1 v2 hf
theorem fr_X8_tap_0 {o : Int32 × Sg} (s : Sg) (hf : c_X8_tap_0 s = some o) : Fr [(36, some 15), (36, some 24), (36, some 25), (36, some 26), (36, some 27), (46, none), (47, none), (48, none), (49, none), (50, none), (51, none)] s o.2 := by
  unfold c_X8_tap_0 at hf
  have e : Fr [(36, some 15), (36, some 24), (36, some 25), (36, some 26), (36, some 27), (46, none), (47, none), (48, none), (49, none), (50, none), (51, none)] s s := Fr.rf
  rcases ite_or hf with hf | hf
  · cases hf
    exact e
  · rcases ite_or hf with hf | hf
    · cases hf
      exact e
    · have hf := (gd_some hf).2
      obtain ⟨s1, h9, hf⟩ := lt_some hf
      have e := e.put h9 (Or.inl (by simp))
      have hf := (gd_some hf).2
      obtain ⟨s2, h9, hf⟩ := lt_some hf
      have e := e.put h9 (Or.inl (by simp))
      have hf := (gd_some hf).2
      obtain ⟨s3, h9, hf⟩ := lt_some hf
      have e := e.put h9 (Or.inl (by simp))
      have hf := (gd_some hf).2
      obtain ⟨s4, h9, hf⟩ := lt_some hf
      have e := e.put h9 (Or.inl (by simp))
      have hf := (gd_some hf).2
      obtain ⟨s5, h9, hf⟩ := lt_some hf
      have e := e.put h9 (Or.inl (by simp))
      have hf := (gd_some hf).2
      obtain ⟨s6, h9, hf⟩ := lt_some hf
      have e := e.put h9 (Or.inl (by simp))
      obtain ⟨s7, h9, hf⟩ := lt_some hf
      have e := e.put h9 (Or.inr (by simp))
      obtain ⟨s8, h9, hf⟩ := lt_some hf
      have e := e.put h9 (Or.inr (by simp))
      obtain ⟨s9, h9, hf⟩ := lt_some hf
      have e := e.put h9 (Or.inr (by simp))
      obtain ⟨s10, h9, hf⟩ := lt_some hf
      have e := e.put h9 (Or.inr (by simp))
      obtain ⟨s11, h9, hf⟩ := lt_some hf
      have e := e.put h9 (Or.inr (by simp))
      cases hf
      exact e
theorem fr_X8_tap {s : Sg} {o : Int32 × Sg} (hf : f_X8_tap s = some o) : Fr [(36, some 15), (36, some 24), (36, some 25), (36, some 26), (36, some 27), (46, none), (47, none), (48, none), (49, none), (50, none), (51, none)] s o.2 := fr_X8_tap_0 s hf
theorem fr_X8_act_54 {o : Sg} (s : Sg) (u1 : Int32) (hf : c_X8_act_54 s u1 = some o) : Fr [(36, some 11), (36, some 15), (36, some 24), (36, some 25), (36, some 26), (36, some 27), (46, none), (47, none), (48, none), (49, none), (50, none), (51, none)] s o := by
  unfold c_X8_act_54 at hf
  have e : Fr [(36, some 11), (36, some 15), (36, some 24), (36, some 25), (36, some 26), (36, some 27), (46, none), (47, none), (48, none), (49, none), (50, none), (51, none)] s s := Fr.rf
  obtain ⟨s1, h9, hf⟩ := lt_some hf
  have e := e.put h9 (Or.inr (by simp))
  cases hf
  exact e
theorem fr_X8_act_25 {o : Sg} (s : Sg) (u1 : Int32) (hf : c_X8_act_25 s u1 = some o) : Fr [(36, some 11), (36, some 15), (36, some 24), (36, some 25), (36, some 26), (36, some 27), (46, none), (47, none), (48, none), (49, none), (50, none), (51, none)] s o := by
  unfold c_X8_act_25 at hf
  have e : Fr [(36, some 11), (36, some 15), (36, some 24), (36, some 25), (36, some 26), (36, some 27), (46, none), (47, none), (48, none), (49, none), (50, none), (51, none)] s s := Fr.rf
  obtain ⟨s1, h9, hf⟩ := lt_some hf
  have e := e.put h9 (Or.inr (by simp))
  cases hf
  exact e
theorem fr_X8_act_0 {o : Sg} (s : Sg) (v1 : Int32) (hf : c_X8_act_0 s v1 = some o) : Fr [(36, some 11), (36, some 15), (36, some 24), (36, some 25), (36, some 26), (36, some 27), (46, none), (47, none), (48, none), (49, none), (50, none), (51, none)] s o := by
  unfold c_X8_act_0 at hf
  have e : Fr [(36, some 11), (36, some 15), (36, some 24), (36, some 25), (36, some 26), (36, some 27), (46, none), (47, none), (48, none), (49, none), (50, none), (51, none)] s s := Fr.rf
  rcases ite_or hf with hf | hf
  · rcases ite_or hf with hf | hf
    · exact e.tr (fr_X8_act_25 _ _ hf)
    · exact e.tr (fr_X8_act_25 _ _ hf)
  · rcases ite_or hf with hf | hf
    · rcases ite_or hf with hf | hf
      · exact e.tr (fr_X8_act_54 _ _ hf)
      · exact e.tr (fr_X8_act_54 _ _ hf)
    · obtain ⟨r2, s1, h9, hf⟩ := bd_some hf
      have e := e.tr ((fr_X8_tap h9).mo (by simp))
      cases hf
      exact e
theorem fr_X8_act {s : Sg} {v1 : Int32} {o : Sg} (hf : f_X8_act s v1 = some o) : Fr [(36, some 11), (36, some 15), (36, some 24), (36, some 25), (36, some 26), (36, some 27), (46, none), (47, none), (48, none), (49, none), (50, none), (51, none)] s o := fr_X8_act_0 s v1 hf
theorem fr_X8_comesDown_256 {o : Sg} (s : Sg) (v1 : Int32) (u1 : Int32) (hf : c_X8_comesDown_256 s v1 u1 = some o) : Fr [(36, some 3), (36, some 14), (36, some 15), (36, some 16), (36, some 20), (36, some 22), (36, some 24), (36, some 25), (36, some 26), (39, none), (44, none), (45, none)] s o := by
  unfold c_X8_comesDown_256 at hf
  have e : Fr [(36, some 3), (36, some 14), (36, some 15), (36, some 16), (36, some 20), (36, some 22), (36, some 24), (36, some 25), (36, some 26), (39, none), (44, none), (45, none)] s s := Fr.rf
  obtain ⟨s1, h9, hf⟩ := lt_some hf
  have e := e.put h9 (Or.inr (by simp))
  obtain ⟨s2, h9, hf⟩ := lt_some hf
  have e := e.put h9 (Or.inr (by simp))
  cases hf
  exact e
theorem fr_X8_comesDown_236 {o : Sg} (s : Sg) (v1 : Int32) (u1 : Int32) (hf : c_X8_comesDown_236 s v1 u1 = some o) : Fr [(36, some 3), (36, some 14), (36, some 15), (36, some 16), (36, some 20), (36, some 22), (36, some 24), (36, some 25), (36, some 26), (39, none), (44, none), (45, none)] s o := by
  unfold c_X8_comesDown_236 at hf
  have e : Fr [(36, some 3), (36, some 14), (36, some 15), (36, some 16), (36, some 20), (36, some 22), (36, some 24), (36, some 25), (36, some 26), (39, none), (44, none), (45, none)] s s := Fr.rf
  obtain ⟨s1, h9, hf⟩ := lt_some hf
  have e := e.put h9 (Or.inr (by simp))
  rcases ite_or hf with hf | hf
  · exact e.tr (fr_X8_comesDown_256 _ _ _ hf)
  · exact e.tr (fr_X8_comesDown_256 _ _ _ hf)
theorem fr_X8_comesDown_223 {o : Sg} (s : Sg) (v1 : Int32) (hf : c_X8_comesDown_223 s v1 = some o) : Fr [(36, some 3), (36, some 14), (36, some 15), (36, some 16), (36, some 20), (36, some 22), (36, some 24), (36, some 25), (36, some 26), (39, none), (44, none), (45, none)] s o := by
  unfold c_X8_comesDown_223 at hf
  have e : Fr [(36, some 3), (36, some 14), (36, some 15), (36, some 16), (36, some 20), (36, some 22), (36, some 24), (36, some 25), (36, some 26), (39, none), (44, none), (45, none)] s s := Fr.rf
  have hf := (gd_some hf).2
  exact e.tr (fr_X8_comesDown_236 _ _ _ hf)
theorem fr_X8_comesDown_123 {o : Sg} (s : Sg) (v1 : Int32) (u1 : Int32) (u2 : Int32) (u3 : Int32) (hf : c_X8_comesDown_123 s v1 u1 u2 u3 = some o) : Fr [(36, some 3), (36, some 14), (36, some 15), (36, some 16), (36, some 20), (36, some 22), (36, some 24), (36, some 25), (36, some 26), (39, none), (44, none), (45, none)] s o := by
  unfold c_X8_comesDown_123 at hf
  have e : Fr [(36, some 3), (36, some 14), (36, some 15), (36, some 16), (36, some 20), (36, some 22), (36, some 24), (36, some 25), (36, some 26), (39, none), (44, none), (45, none)] s s := Fr.rf
  have hf := (gd_some hf).2
  obtain ⟨s1, h9, hf⟩ := lt_some hf
  have e := e.put h9 (Or.inl (by simp))
  have hf := (gd_some hf).2
  obtain ⟨s2, h9, hf⟩ := lt_some hf
  have e := e.put h9 (Or.inr (by simp))
  have hf := (gd_some hf).2
  obtain ⟨s3, h9, hf⟩ := lt_some hf
  have e := e.put h9 (Or.inr (by simp))
  have hf := (gd_some hf).2
  have hf := (gd_some hf).2
  have hf := (gd_some hf).2
  obtain ⟨s4, h9, hf⟩ := lt_some hf
  have e := e.put h9 (Or.inr (by simp))
  have hf := (gd_some hf).2
  obtain ⟨s5, h9, hf⟩ := lt_some hf
  have e := e.put h9 (Or.inr (by simp))
  rcases ite_or hf with hf | hf
  · exact e.tr (fr_X8_comesDown_223 _ _ hf)
  · have hf := (gd_some hf).2
    rcases ite_or hf with hf | hf
    · exact e.tr (fr_X8_comesDown_236 _ _ _ hf)
    · exact e.tr (fr_X8_comesDown_223 _ _ hf)
theorem fr_X8_comesDown_107 {o : Sg} (s : Sg) (v1 : Int32) (u1 : Int32) (u2 : Int32) (u3 : Int32) (hf : c_X8_comesDown_107 s v1 u1 u2 u3 = some o) : Fr [(36, some 3), (36, some 14), (36, some 15), (36, some 16), (36, some 20), (36, some 22), (36, some 24), (36, some 25), (36, some 26), (39, none), (44, none), (45, none)] s o := by
  unfold c_X8_comesDown_107 at hf
  have e : Fr [(36, some 3), (36, some 14), (36, some 15), (36, some 16), (36, some 20), (36, some 22), (36, some 24), (36, some 25), (36, some 26), (39, none), (44, none), (45, none)] s s := Fr.rf
  rcases ite_or hf with hf | hf
  · exact e.tr (fr_X8_comesDown_123 _ _ _ _ _ hf)
  · exact e.tr (fr_X8_comesDown_123 _ _ _ _ _ hf)
theorem fr_X8_comesDown_92 {o : Sg} (s : Sg) (v1 : Int32) (u1 : Int32) (u2 : Int32) (hf : c_X8_comesDown_92 s v1 u1 u2 = some o) : Fr [(36, some 3), (36, some 14), (36, some 15), (36, some 16), (36, some 20), (36, some 22), (36, some 24), (36, some 25), (36, some 26), (39, none), (44, none), (45, none)] s o := by
  unfold c_X8_comesDown_92 at hf
  have e : Fr [(36, some 3), (36, some 14), (36, some 15), (36, some 16), (36, some 20), (36, some 22), (36, some 24), (36, some 25), (36, some 26), (39, none), (44, none), (45, none)] s s := Fr.rf
  rcases ite_or hf with hf | hf
  · exact e.tr (fr_X8_comesDown_107 _ _ _ _ _ hf)
  · exact e.tr (fr_X8_comesDown_107 _ _ _ _ _ hf)
theorem fr_X8_comesDown_0 {o : Sg} (s : Sg) (hf : c_X8_comesDown_0 s = some o) : Fr [(36, some 3), (36, some 14), (36, some 15), (36, some 16), (36, some 20), (36, some 22), (36, some 24), (36, some 25), (36, some 26), (39, none), (44, none), (45, none)] s o := by
  unfold c_X8_comesDown_0 at hf
  have e : Fr [(36, some 3), (36, some 14), (36, some 15), (36, some 16), (36, some 20), (36, some 22), (36, some 24), (36, some 25), (36, some 26), (39, none), (44, none), (45, none)] s s := Fr.rf
  obtain ⟨x1, -, hf⟩ := lt_some hf
  obtain ⟨s2, h9, hf⟩ := lt_some hf
  have e := e.put h9 (Or.inr (by simp))
  have hf := (gd_some hf).2
  rcases ite_or hf with hf | hf
  · have hf := (gd_some hf).2
    obtain ⟨s3, h9, hf⟩ := lt_some hf
    have e := e.put h9 (Or.inl (by simp))
    have hf := (gd_some hf).2
    have hf := (gd_some hf).2
    obtain ⟨s4, h9, hf⟩ := lt_some hf
    have e := e.put h9 (Or.inr (by simp))
    obtain ⟨s5, h9, hf⟩ := lt_some hf
    have e := e.put h9 (Or.inr (by simp))
    cases hf
    exact e
  · have hf := (gd_some hf).2
    obtain ⟨s6, h9, hf⟩ := lt_some hf
    have e := e.put h9 (Or.inl (by simp))
    have hf := (gd_some hf).2
    have hf := (gd_some hf).2
    have hf := (gd_some hf).2
    have hf := (gd_some hf).2
    have hf := (gd_some hf).2
    obtain ⟨s7, h9, hf⟩ := lt_some hf
    have e := e.put h9 (Or.inl (by simp))
    have hf := (gd_some hf).2
    have hf := (gd_some hf).2
    rcases ite_or hf with hf | hf
    · exact e.tr (fr_X8_comesDown_92 _ _ _ _ hf)
    · exact e.tr (fr_X8_comesDown_92 _ _ _ _ hf)
theorem fr_X8_comesDown {s : Sg} {o : Sg} (hf : f_X8_comesDown s = some o) : Fr [(36, some 3), (36, some 14), (36, some 15), (36, some 16), (36, some 20), (36, some 22), (36, some 24), (36, some 25), (36, some 26), (39, none), (44, none), (45, none)] s o := fr_X8_comesDown_0 s hf
theorem fr_X8_see_19 {o : Sg} (s : Sg) (v1 : Int32) (u1 : Int32) (u2 : Int32) (hf : c_X8_see_19 s v1 u1 u2 = some o) : Fr [(52, none), (53, none)] s o := by
  unfold c_X8_see_19 at hf
  have e : Fr [(52, none), (53, none)] s s := Fr.rf
  have hf := (gd_some hf).2
  obtain ⟨s1, h9, hf⟩ := lt_some hf
  have e := e.put h9 (Or.inl (by simp))
  have hf := (gd_some hf).2
  have hf := (gd_some hf).2
  rcases ite_or hf with hf | hf
  · have hf := (gd_some hf).2
    obtain ⟨s2, h9, hf⟩ := lt_some hf
    have e := e.put h9 (Or.inl (by simp))
    cases hf
    exact e
  · have hf := (gd_some hf).2
    obtain ⟨s3, h9, hf⟩ := lt_some hf
    have e := e.put h9 (Or.inl (by simp))
    cases hf
    exact e
theorem fr_X8_see_0 {o : Sg} (s : Sg) (v1 : Int32) (v2 : Int32) (hf : c_X8_see_0 s v1 v2 = some o) : Fr [(52, none), (53, none)] s o := by
  unfold c_X8_see_0 at hf
  have e : Fr [(52, none), (53, none)] s s := Fr.rf
  have hf := (gd_some hf).2
  rcases ite_or hf with hf | hf
  · exact e.tr (fr_X8_see_19 _ _ _ _ hf)
  · exact e.tr (fr_X8_see_19 _ _ _ _ hf)
theorem fr_X8_see {s : Sg} {v1 : Int32} {v2 : Int32} {o : Sg} (hf : f_X8_see s v1 v2 = some o) : Fr [(52, none), (53, none)] s o := fr_X8_see_0 s v1 v2 hf
theorem fr_X8_oneTick_332 {N : Nat} {o : Sg} (s : Sg) (v1 : Int32) (u1 : Int32) (hf : c_X8_oneTick_332 N s v1 u1 = some o) : Fr [(36, some 3), (36, some 11), (36, some 14), (36, some 15), (36, some 16), (36, some 17), (36, some 18), (36, some 19), (36, some 20), (36, some 21), (36, some 22), (36, some 23), (36, some 24), (36, some 25), (36, some 26), (36, some 27), (39, none), (40, none), (44, none), (45, none), (46, none), (47, none), (48, none), (49, none), (50, none), (51, none), (52, none), (53, none)] s o := by
  unfold c_X8_oneTick_332 at hf
  have e : Fr [(36, some 3), (36, some 11), (36, some 14), (36, some 15), (36, some 16), (36, some 17), (36, some 18), (36, some 19), (36, some 20), (36, some 21), (36, some 22), (36, some 23), (36, some 24), (36, some 25), (36, some 26), (36, some 27), (39, none), (40, none), (44, none), (45, none), (46, none), (47, none), (48, none), (49, none), (50, none), (51, none), (52, none), (53, none)] s s := Fr.rf
  have hf := (gd_some hf).2
  obtain ⟨s1, h9, hf⟩ := lt_some hf
  have e := e.put h9 (Or.inr (by simp))
  obtain ⟨s2, h9, hf⟩ := lt_some hf
  have e := e.put h9 (Or.inr (by simp))
  have hf := (gd_some hf).2
  obtain ⟨s3, h9, hf⟩ := bdv_some hf
  have e := e.tr ((fr_X8_see h9).mo (by simp))
  obtain ⟨s5, h9, hf⟩ := bdv_some hf
  have e := e.tr ((fr_X8_see h9).mo (by simp))
  obtain ⟨s7, h9, hf⟩ := bdv_some hf
  have e := e.tr ((fr_X8_see h9).mo (by simp))
  cases hf
  exact e
theorem fr_X8_oneTick_299 {N : Nat} {o : Sg} (s : Sg) (v1 : Int32) (hf : c_X8_oneTick_299 N s v1 = some o) : Fr [(36, some 3), (36, some 11), (36, some 14), (36, some 15), (36, some 16), (36, some 17), (36, some 18), (36, some 19), (36, some 20), (36, some 21), (36, some 22), (36, some 23), (36, some 24), (36, some 25), (36, some 26), (36, some 27), (39, none), (40, none), (44, none), (45, none), (46, none), (47, none), (48, none), (49, none), (50, none), (51, none), (52, none), (53, none)] s o := by
  unfold c_X8_oneTick_299 at hf
  have e : Fr [(36, some 3), (36, some 11), (36, some 14), (36, some 15), (36, some 16), (36, some 17), (36, some 18), (36, some 19), (36, some 20), (36, some 21), (36, some 22), (36, some 23), (36, some 24), (36, some 25), (36, some 26), (36, some 27), (39, none), (40, none), (44, none), (45, none), (46, none), (47, none), (48, none), (49, none), (50, none), (51, none), (52, none), (53, none)] s s := Fr.rf
  have hf := (gd_some hf).2
  obtain ⟨s1, h9, hf⟩ := lt_some hf
  have e := e.put h9 (Or.inr (by simp))
  rcases ite_or hf with hf | hf
  · exact e.tr (fr_X8_oneTick_332 _ _ _ hf)
  · exact e.tr (fr_X8_oneTick_332 _ _ _ hf)
theorem fr_X8_oneTick_241 {N : Nat} {o : Sg} (s : Sg) (v1 : Int32) (u1 : Int32) (hf : c_X8_oneTick_241 N s v1 u1 = some o) : Fr [(36, some 3), (36, some 11), (36, some 14), (36, some 15), (36, some 16), (36, some 17), (36, some 18), (36, some 19), (36, some 20), (36, some 21), (36, some 22), (36, some 23), (36, some 24), (36, some 25), (36, some 26), (36, some 27), (39, none), (40, none), (44, none), (45, none), (46, none), (47, none), (48, none), (49, none), (50, none), (51, none), (52, none), (53, none)] s o := by
  unfold c_X8_oneTick_241 at hf
  have e : Fr [(36, some 3), (36, some 11), (36, some 14), (36, some 15), (36, some 16), (36, some 17), (36, some 18), (36, some 19), (36, some 20), (36, some 21), (36, some 22), (36, some 23), (36, some 24), (36, some 25), (36, some 26), (36, some 27), (39, none), (40, none), (44, none), (45, none), (46, none), (47, none), (48, none), (49, none), (50, none), (51, none), (52, none), (53, none)] s s := Fr.rf
  obtain ⟨s1, h9, hf⟩ := lt_some hf
  have e := e.put h9 (Or.inr (by simp))
  rcases ite_or hf with hf | hf
  · exact e.tr (fr_X8_oneTick_299 _ _ hf)
  · obtain ⟨s2, h9, hf⟩ := lt_some hf
    have e := e.put h9 (Or.inr (by simp))
    obtain ⟨s3, h9, hf⟩ := lt_some hf
    have e := e.put h9 (Or.inr (by simp))
    obtain ⟨s4, h9, hf⟩ := lt_some hf
    have e := e.put h9 (Or.inr (by simp))
    exact e.tr (fr_X8_oneTick_299 _ _ hf)
theorem fr_X8_oneTick_193 {N : Nat} {o : Sg} (s : Sg) (v1 : Int32) (v3 : Int32) (hf : c_X8_oneTick_193 N s v1 v3 = some o) : Fr [(36, some 3), (36, some 11), (36, some 14), (36, some 15), (36, some 16), (36, some 17), (36, some 18), (36, some 19), (36, some 20), (36, some 21), (36, some 22), (36, some 23), (36, some 24), (36, some 25), (36, some 26), (36, some 27), (39, none), (40, none), (44, none), (45, none), (46, none), (47, none), (48, none), (49, none), (50, none), (51, none), (52, none), (53, none)] s o := by
  unfold c_X8_oneTick_193 at hf
  have e : Fr [(36, some 3), (36, some 11), (36, some 14), (36, some 15), (36, some 16), (36, some 17), (36, some 18), (36, some 19), (36, some 20), (36, some 21), (36, some 22), (36, some 23), (36, some 24), (36, some 25), (36, some 26), (36, some 27), (39, none), (40, none), (44, none), (45, none), (46, none), (47, none), (48, none), (49, none), (50, none), (51, none), (52, none), (53, none)] s s := Fr.rf
  obtain ⟨s1, h9, hf⟩ := lt_some hf
  have e := e.put h9 (Or.inr (by simp))
  rcases ite_or hf with hf | hf
  · rcases ite_or hf with hf | hf
    · exact e.tr (fr_X8_oneTick_241 _ _ _ hf)
    · exact e.tr (fr_X8_oneTick_241 _ _ _ hf)
  · exact e.tr (fr_X8_oneTick_241 _ _ _ hf)
theorem fr_X8_oneTick_163 {N : Nat} {o : Sg} {K163 : Sg → Int32 → Int32 → Option (Sg)} (gK163 : ∀ (s : Sg) (v1 : Int32) (v3 : Int32), K163 s v1 v3 = some o → Fr [(36, some 3), (36, some 11), (36, some 14), (36, some 15), (36, some 16), (36, some 17), (36, some 18), (36, some 19), (36, some 20), (36, some 21), (36, some 22), (36, some 23), (36, some 24), (36, some 25), (36, some 26), (36, some 27), (39, none), (40, none), (44, none), (45, none), (46, none), (47, none), (48, none), (49, none), (50, none), (51, none), (52, none), (53, none)] s o) (s : Sg) (v1 : Int32) (v3 : Int32) (hf : c_X8_oneTick_163 N K163 s v1 v3 = some o) : Fr [(36, some 3), (36, some 11), (36, some 14), (36, some 15), (36, some 16), (36, some 17), (36, some 18), (36, some 19), (36, some 20), (36, some 21), (36, some 22), (36, some 23), (36, some 24), (36, some 25), (36, some 26), (36, some 27), (39, none), (40, none), (44, none), (45, none), (46, none), (47, none), (48, none), (49, none), (50, none), (51, none), (52, none), (53, none)] s o := by
  unfold c_X8_oneTick_163 at hf
  have e : Fr [(36, some 3), (36, some 11), (36, some 14), (36, some 15), (36, some 16), (36, some 17), (36, some 18), (36, some 19), (36, some 20), (36, some 21), (36, some 22), (36, some 23), (36, some 24), (36, some 25), (36, some 26), (36, some 27), (39, none), (40, none), (44, none), (45, none), (46, none), (47, none), (48, none), (49, none), (50, none), (51, none), (52, none), (53, none)] s s := Fr.rf
  rcases ite_or hf with hf | hf
  · exact e.tr (fr_X8_oneTick_193 _ _ _ hf)
  · have hf := (gd_some hf).2
    rcases ite_or hf with hf | hf
    · obtain ⟨s1, h9, hf⟩ := bdv_some hf
      have e := e.tr ((fr_X8_comesDown h9).mo (by simp))
      exact e.tr (gK163 _ _ _ hf)
    · exact e.tr (fr_X8_oneTick_193 _ _ _ hf)
theorem fh_X8_oneTick_163 {N : Nat} {o : Sg} : ∀ (j : Nat) (s : Sg) (v1 : Int32) (v3 : Int32), b_X8_oneTick_163 N j s v1 v3 = some o → Fr [(36, some 3), (36, some 11), (36, some 14), (36, some 15), (36, some 16), (36, some 17), (36, some 18), (36, some 19), (36, some 20), (36, some 21), (36, some 22), (36, some 23), (36, some 24), (36, some 25), (36, some 26), (36, some 27), (39, none), (40, none), (44, none), (45, none), (46, none), (47, none), (48, none), (49, none), (50, none), (51, none), (52, none), (53, none)] s o := by
  intro j
  induction j with
  | zero => intro s v1 v3 hf; cases (show none = some o from hf)
  | succ j ih => intro s v1 v3 hf; exact fr_X8_oneTick_163 ih s v1 v3 hf
theorem fr_X8_oneTick_146 {N : Nat} {o : Sg} (s : Sg) (v1 : Int32) (v2 : Int32) (hf : c_X8_oneTick_146 N s v1 v2 = some o) : Fr [(36, some 3), (36, some 11), (36, some 14), (36, some 15), (36, some 16), (36, some 17), (36, some 18), (36, some 19), (36, some 20), (36, some 21), (36, some 22), (36, some 23), (36, some 24), (36, some 25), (36, some 26), (36, some 27), (39, none), (40, none), (44, none), (45, none), (46, none), (47, none), (48, none), (49, none), (50, none), (51, none), (52, none), (53, none)] s o := by
  unfold c_X8_oneTick_146 at hf
  have e : Fr [(36, some 3), (36, some 11), (36, some 14), (36, some 15), (36, some 16), (36, some 17), (36, some 18), (36, some 19), (36, some 20), (36, some 21), (36, some 22), (36, some 23), (36, some 24), (36, some 25), (36, some 26), (36, some 27), (39, none), (40, none), (44, none), (45, none), (46, none), (47, none), (48, none), (49, none), (50, none), (51, none), (52, none), (53, none)] s s := Fr.rf
  obtain ⟨x1, -, hf⟩ := lt_some hf
  obtain ⟨s2, h9, hf⟩ := lt_some hf
  have e := e.put h9 (Or.inr (by simp))
  exact e.tr (fh_X8_oneTick_163 _ _ _ _ hf)
theorem fr_X8_oneTick_122 {N : Nat} {o : Sg} {K90 : Sg → Int32 → Int32 → Int32 → Option (Sg)} (gK90 : ∀ (s : Sg) (v1 : Int32) (v2 : Int32) (v3 : Int32), K90 s v1 v2 v3 = some o → Fr [(36, some 3), (36, some 11), (36, some 14), (36, some 15), (36, some 16), (36, some 17), (36, some 18), (36, some 19), (36, some 20), (36, some 21), (36, some 22), (36, some 23), (36, some 24), (36, some 25), (36, some 26), (36, some 27), (39, none), (40, none), (44, none), (45, none), (46, none), (47, none), (48, none), (49, none), (50, none), (51, none), (52, none), (53, none)] s o) (s : Sg) (v1 : Int32) (v2 : Int32) (v3 : Int32) (u0 : Int32) (hf : c_X8_oneTick_122 N K90 s v1 v2 v3 u0 = some o) : Fr [(36, some 3), (36, some 11), (36, some 14), (36, some 15), (36, some 16), (36, some 17), (36, some 18), (36, some 19), (36, some 20), (36, some 21), (36, some 22), (36, some 23), (36, some 24), (36, some 25), (36, some 26), (36, some 27), (39, none), (40, none), (44, none), (45, none), (46, none), (47, none), (48, none), (49, none), (50, none), (51, none), (52, none), (53, none)] s o := by
  unfold c_X8_oneTick_122 at hf
  have e : Fr [(36, some 3), (36, some 11), (36, some 14), (36, some 15), (36, some 16), (36, some 17), (36, some 18), (36, some 19), (36, some 20), (36, some 21), (36, some 22), (36, some 23), (36, some 24), (36, some 25), (36, some 26), (36, some 27), (39, none), (40, none), (44, none), (45, none), (46, none), (47, none), (48, none), (49, none), (50, none), (51, none), (52, none), (53, none)] s s := Fr.rf
  have hf := (gd_some hf).2
  have hf := (gd_some hf).2
  obtain ⟨s1, h9, hf⟩ := lt_some hf
  have e := e.put h9 (Or.inl (by simp))
  obtain ⟨x2, -, hf⟩ := lt_some hf
  exact e.tr (gK90 _ _ _ _ hf)
theorem fr_X8_oneTick_90 {N : Nat} {o : Sg} {K90 : Sg → Int32 → Int32 → Int32 → Option (Sg)} (gK90 : ∀ (s : Sg) (v1 : Int32) (v2 : Int32) (v3 : Int32), K90 s v1 v2 v3 = some o → Fr [(36, some 3), (36, some 11), (36, some 14), (36, some 15), (36, some 16), (36, some 17), (36, some 18), (36, some 19), (36, some 20), (36, some 21), (36, some 22), (36, some 23), (36, some 24), (36, some 25), (36, some 26), (36, some 27), (39, none), (40, none), (44, none), (45, none), (46, none), (47, none), (48, none), (49, none), (50, none), (51, none), (52, none), (53, none)] s o) (s : Sg) (v1 : Int32) (v2 : Int32) (v3 : Int32) (hf : c_X8_oneTick_90 N K90 s v1 v2 v3 = some o) : Fr [(36, some 3), (36, some 11), (36, some 14), (36, some 15), (36, some 16), (36, some 17), (36, some 18), (36, some 19), (36, some 20), (36, some 21), (36, some 22), (36, some 23), (36, some 24), (36, some 25), (36, some 26), (36, some 27), (39, none), (40, none), (44, none), (45, none), (46, none), (47, none), (48, none), (49, none), (50, none), (51, none), (52, none), (53, none)] s o := by
  unfold c_X8_oneTick_90 at hf
  have e : Fr [(36, some 3), (36, some 11), (36, some 14), (36, some 15), (36, some 16), (36, some 17), (36, some 18), (36, some 19), (36, some 20), (36, some 21), (36, some 22), (36, some 23), (36, some 24), (36, some 25), (36, some 26), (36, some 27), (39, none), (40, none), (44, none), (45, none), (46, none), (47, none), (48, none), (49, none), (50, none), (51, none), (52, none), (53, none)] s s := Fr.rf
  rcases ite_or hf with hf | hf
  · exact e.tr (fr_X8_oneTick_146 _ _ _ hf)
  · rcases ite_or hf with hf | hf
    · exact e.tr (fr_X8_oneTick_146 _ _ _ hf)
    · have hf := (gd_some hf).2
      rcases ite_or hf with hf | hf
      · exact e.tr (fr_X8_oneTick_122 gK90 _ _ _ _ _ hf)
      · have hf := (gd_some hf).2
        exact e.tr (fr_X8_oneTick_122 gK90 _ _ _ _ _ hf)
theorem fh_X8_oneTick_90 {N : Nat} {o : Sg} : ∀ (j : Nat) (s : Sg) (v1 : Int32) (v2 : Int32) (v3 : Int32), b_X8_oneTick_90 N j s v1 v2 v3 = some o → Fr [(36, some 3), (36, some 11), (36, some 14), (36, some 15), (36, some 16), (36, some 17), (36, some 18), (36, some 19), (36, some 20), (36, some 21), (36, some 22), (36, some 23), (36, some 24), (36, some 25), (36, some 26), (36, some 27), (39, none), (40, none), (44, none), (45, none), (46, none), (47, none), (48, none), (49, none), (50, none), (51, none), (52, none), (53, none)] s o := by
  intro j
  induction j with
  | zero => intro s v1 v2 v3 hf; cases (show none = some o from hf)
  | succ j ih => intro s v1 v2 v3 hf; exact fr_X8_oneTick_90 ih s v1 v2 v3 hf
theorem fr_X8_oneTick_75 {N : Nat} {o : Sg} (s : Sg) (hf : c_X8_oneTick_75 N s = some o) : Fr [(36, some 3), (36, some 11), (36, some 14), (36, some 15), (36, some 16), (36, some 17), (36, some 18), (36, some 19), (36, some 20), (36, some 21), (36, some 22), (36, some 23), (36, some 24), (36, some 25), (36, some 26), (36, some 27), (39, none), (40, none), (44, none), (45, none), (46, none), (47, none), (48, none), (49, none), (50, none), (51, none), (52, none), (53, none)] s o := by
  unfold c_X8_oneTick_75 at hf
  have e : Fr [(36, some 3), (36, some 11), (36, some 14), (36, some 15), (36, some 16), (36, some 17), (36, some 18), (36, some 19), (36, some 20), (36, some 21), (36, some 22), (36, some 23), (36, some 24), (36, some 25), (36, some 26), (36, some 27), (39, none), (40, none), (44, none), (45, none), (46, none), (47, none), (48, none), (49, none), (50, none), (51, none), (52, none), (53, none)] s s := Fr.rf
  obtain ⟨x1, -, hf⟩ := lt_some hf
  obtain ⟨x2, -, hf⟩ := lt_some hf
  obtain ⟨x3, -, hf⟩ := lt_some hf
  exact e.tr (fh_X8_oneTick_90 _ _ _ _ _ hf)
theorem fr_X8_oneTick_69 {N : Nat} {o : Sg} {K2 : Sg → Int32 → Option (Sg)} (gK2 : ∀ (s : Sg) (v1 : Int32), K2 s v1 = some o → Fr [(36, some 3), (36, some 11), (36, some 14), (36, some 15), (36, some 16), (36, some 17), (36, some 18), (36, some 19), (36, some 20), (36, some 21), (36, some 22), (36, some 23), (36, some 24), (36, some 25), (36, some 26), (36, some 27), (39, none), (40, none), (44, none), (45, none), (46, none), (47, none), (48, none), (49, none), (50, none), (51, none), (52, none), (53, none)] s o) (s : Sg) (v1 : Int32) (hf : c_X8_oneTick_69 N K2 s v1 = some o) : Fr [(36, some 3), (36, some 11), (36, some 14), (36, some 15), (36, some 16), (36, some 17), (36, some 18), (36, some 19), (36, some 20), (36, some 21), (36, some 22), (36, some 23), (36, some 24), (36, some 25), (36, some 26), (36, some 27), (39, none), (40, none), (44, none), (45, none), (46, none), (47, none), (48, none), (49, none), (50, none), (51, none), (52, none), (53, none)] s o := by
  unfold c_X8_oneTick_69 at hf
  have e : Fr [(36, some 3), (36, some 11), (36, some 14), (36, some 15), (36, some 16), (36, some 17), (36, some 18), (36, some 19), (36, some 20), (36, some 21), (36, some 22), (36, some 23), (36, some 24), (36, some 25), (36, some 26), (36, some 27), (39, none), (40, none), (44, none), (45, none), (46, none), (47, none), (48, none), (49, none), (50, none), (51, none), (52, none), (53, none)] s s := Fr.rf
  exact e.tr (gK2 _ _ hf)
theorem fr_X8_oneTick_59 {N : Nat} {o : Sg} {K2 : Sg → Int32 → Option (Sg)} (gK2 : ∀ (s : Sg) (v1 : Int32), K2 s v1 = some o → Fr [(36, some 3), (36, some 11), (36, some 14), (36, some 15), (36, some 16), (36, some 17), (36, some 18), (36, some 19), (36, some 20), (36, some 21), (36, some 22), (36, some 23), (36, some 24), (36, some 25), (36, some 26), (36, some 27), (39, none), (40, none), (44, none), (45, none), (46, none), (47, none), (48, none), (49, none), (50, none), (51, none), (52, none), (53, none)] s o) (s : Sg) (v1 : Int32) (hf : c_X8_oneTick_59 N K2 s v1 = some o) : Fr [(36, some 3), (36, some 11), (36, some 14), (36, some 15), (36, some 16), (36, some 17), (36, some 18), (36, some 19), (36, some 20), (36, some 21), (36, some 22), (36, some 23), (36, some 24), (36, some 25), (36, some 26), (36, some 27), (39, none), (40, none), (44, none), (45, none), (46, none), (47, none), (48, none), (49, none), (50, none), (51, none), (52, none), (53, none)] s o := by
  unfold c_X8_oneTick_59 at hf
  have e : Fr [(36, some 3), (36, some 11), (36, some 14), (36, some 15), (36, some 16), (36, some 17), (36, some 18), (36, some 19), (36, some 20), (36, some 21), (36, some 22), (36, some 23), (36, some 24), (36, some 25), (36, some 26), (36, some 27), (39, none), (40, none), (44, none), (45, none), (46, none), (47, none), (48, none), (49, none), (50, none), (51, none), (52, none), (53, none)] s s := Fr.rf
  have hf := (gd_some hf).2
  obtain ⟨s1, h9, hf⟩ := bdv_some hf
  have e := e.tr ((fr_X8_act h9).mo (by simp))
  exact e.tr (fr_X8_oneTick_69 gK2 _ _ hf)
theorem fr_X8_oneTick_2 {N : Nat} {o : Sg} {K2 : Sg → Int32 → Option (Sg)} (gK2 : ∀ (s : Sg) (v1 : Int32), K2 s v1 = some o → Fr [(36, some 3), (36, some 11), (36, some 14), (36, some 15), (36, some 16), (36, some 17), (36, some 18), (36, some 19), (36, some 20), (36, some 21), (36, some 22), (36, some 23), (36, some 24), (36, some 25), (36, some 26), (36, some 27), (39, none), (40, none), (44, none), (45, none), (46, none), (47, none), (48, none), (49, none), (50, none), (51, none), (52, none), (53, none)] s o) (s : Sg) (v1 : Int32) (hf : c_X8_oneTick_2 N K2 s v1 = some o) : Fr [(36, some 3), (36, some 11), (36, some 14), (36, some 15), (36, some 16), (36, some 17), (36, some 18), (36, some 19), (36, some 20), (36, some 21), (36, some 22), (36, some 23), (36, some 24), (36, some 25), (36, some 26), (36, some 27), (39, none), (40, none), (44, none), (45, none), (46, none), (47, none), (48, none), (49, none), (50, none), (51, none), (52, none), (53, none)] s o := by
  unfold c_X8_oneTick_2 at hf
  have e : Fr [(36, some 3), (36, some 11), (36, some 14), (36, some 15), (36, some 16), (36, some 17), (36, some 18), (36, some 19), (36, some 20), (36, some 21), (36, some 22), (36, some 23), (36, some 24), (36, some 25), (36, some 26), (36, some 27), (39, none), (40, none), (44, none), (45, none), (46, none), (47, none), (48, none), (49, none), (50, none), (51, none), (52, none), (53, none)] s s := Fr.rf
  rcases ite_or hf with hf | hf
  · exact e.tr (fr_X8_oneTick_75 _ hf)
  · have hf := (gd_some hf).2
    have hf := (gd_some hf).2
    obtain ⟨x1, -, hf⟩ := lt_some hf
    rcases ite_or hf with hf | hf
    · exact e.tr (fr_X8_oneTick_69 gK2 _ _ hf)
    · have hf := (gd_some hf).2
      rcases ite_or hf with hf | hf
      · have hf := (gd_some hf).2
        rcases ite_or hf with hf | hf
        · exact e.tr (fr_X8_oneTick_69 gK2 _ _ hf)
        · exact e.tr (fr_X8_oneTick_59 gK2 _ _ hf)
      · have hf := (gd_some hf).2
        rcases ite_or hf with hf | hf
        · exact e.tr (fr_X8_oneTick_69 gK2 _ _ hf)
        · exact e.tr (fr_X8_oneTick_59 gK2 _ _ hf)
theorem fh_X8_oneTick_2 {N : Nat} {o : Sg} : ∀ (j : Nat) (s : Sg) (v1 : Int32), b_X8_oneTick_2 N j s v1 = some o → Fr [(36, some 3), (36, some 11), (36, some 14), (36, some 15), (36, some 16), (36, some 17), (36, some 18), (36, some 19), (36, some 20), (36, some 21), (36, some 22), (36, some 23), (36, some 24), (36, some 25), (36, some 26), (36, some 27), (39, none), (40, none), (44, none), (45, none), (46, none), (47, none), (48, none), (49, none), (50, none), (51, none), (52, none), (53, none)] s o := by
  intro j
  induction j with
  | zero => intro s v1 hf; cases (show none = some o from hf)
  | succ j ih => intro s v1 hf; exact fr_X8_oneTick_2 ih s v1 hf
theorem fr_X8_oneTick_0 {N : Nat} {o : Sg} (s : Sg) (hf : c_X8_oneTick_0 N s = some o) : Fr [(36, some 3), (36, some 11), (36, some 14), (36, some 15), (36, some 16), (36, some 17), (36, some 18), (36, some 19), (36, some 20), (36, some 21), (36, some 22), (36, some 23), (36, some 24), (36, some 25), (36, some 26), (36, some 27), (39, none), (40, none), (44, none), (45, none), (46, none), (47, none), (48, none), (49, none), (50, none), (51, none), (52, none), (53, none)] s o := by
  unfold c_X8_oneTick_0 at hf
  have e : Fr [(36, some 3), (36, some 11), (36, some 14), (36, some 15), (36, some 16), (36, some 17), (36, some 18), (36, some 19), (36, some 20), (36, some 21), (36, some 22), (36, some 23), (36, some 24), (36, some 25), (36, some 26), (36, some 27), (39, none), (40, none), (44, none), (45, none), (46, none), (47, none), (48, none), (49, none), (50, none), (51, none), (52, none), (53, none)] s s := Fr.rf
  exact e.tr (fh_X8_oneTick_2 _ _ _ hf)
theorem fr_X8_oneTick {N : Nat} {s : Sg} {o : Sg} (hf : f_X8_oneTick N s = some o) : Fr [(36, some 3), (36, some 11), (36, some 14), (36, some 15), (36, some 16), (36, some 17), (36, some 18), (36, some 19), (36, some 20), (36, some 21), (36, some 22), (36, some 23), (36, some 24), (36, some 25), (36, some 26), (36, some 27), (39, none), (40, none), (44, none), (45, none), (46, none), (47, none), (48, none), (49, none), (50, none), (51, none), (52, none), (53, none)] s o := fr_X8_oneTick_0 s hf
theorem fr_X8_tick_40 {N : Nat} {o : Int32 × Sg} {K40 : Sg → Int32 → Int32 → Option (Int32 × Sg)} (gK40 : ∀ (s : Sg) (v1 : Int32) (v2 : Int32), K40 s v1 v2 = some o → Fr [(36, some 3), (36, some 11), (36, some 14), (36, some 15), (36, some 16), (36, some 17), (36, some 18), (36, some 19), (36, some 20), (36, some 21), (36, some 22), (36, some 23), (36, some 24), (36, some 25), (36, some 26), (36, some 27), (39, none), (40, none), (44, none), (45, none), (46, none), (47, none), (48, none), (49, none), (50, none), (51, none), (52, none), (53, none)] s o.2) (s : Sg) (v1 : Int32) (v2 : Int32) (hf : c_X8_tick_40 N K40 s v1 v2 = some o) : Fr [(36, some 3), (36, some 11), (36, some 14), (36, some 15), (36, some 16), (36, some 17), (36, some 18), (36, some 19), (36, some 20), (36, some 21), (36, some 22), (36, some 23), (36, some 24), (36, some 25), (36, some 26), (36, some 27), (39, none), (40, none), (44, none), (45, none), (46, none), (47, none), (48, none), (49, none), (50, none), (51, none), (52, none), (53, none)] s o.2 := by
  unfold c_X8_tick_40 at hf
  have e : Fr [(36, some 3), (36, some 11), (36, some 14), (36, some 15), (36, some 16), (36, some 17), (36, some 18), (36, some 19), (36, some 20), (36, some 21), (36, some 22), (36, some 23), (36, some 24), (36, some 25), (36, some 26), (36, some 27), (39, none), (40, none), (44, none), (45, none), (46, none), (47, none), (48, none), (49, none), (50, none), (51, none), (52, none), (53, none)] s s := Fr.rf
  rcases ite_or hf with hf | hf
  · cases hf
    exact e
  · rcases ite_or hf with hf | hf
    · obtain ⟨s1, h9, hf⟩ := bdv_some hf
      have e := e.tr ((fr_X8_oneTick h9).mo (by simp))
      exact e.tr (gK40 _ _ _ hf)
    · cases hf
      exact e
theorem fh_X8_tick_40 {N : Nat} {o : Int32 × Sg} : ∀ (j : Nat) (s : Sg) (v1 : Int32) (v2 : Int32), b_X8_tick_40 N j s v1 v2 = some o → Fr [(36, some 3), (36, some 11), (36, some 14), (36, some 15), (36, some 16), (36, some 17), (36, some 18), (36, some 19), (36, some 20), (36, some 21), (36, some 22), (36, some 23), (36, some 24), (36, some 25), (36, some 26), (36, some 27), (39, none), (40, none), (44, none), (45, none), (46, none), (47, none), (48, none), (49, none), (50, none), (51, none), (52, none), (53, none)] s o.2 := by
  intro j
  induction j with
  | zero => intro s v1 v2 hf; cases (show none = some o from hf)
  | succ j ih => intro s v1 v2 hf; exact fr_X8_tick_40 ih s v1 v2 hf
theorem fr_X8_tick_0 {N : Nat} {o : Int32 × Sg} (s : Sg) (v1 : Int32) (hf : c_X8_tick_0 N s v1 = some o) : Fr [(36, some 3), (36, some 11), (36, some 14), (36, some 15), (36, some 16), (36, some 17), (36, some 18), (36, some 19), (36, some 20), (36, some 21), (36, some 22), (36, some 23), (36, some 24), (36, some 25), (36, some 26), (36, some 27), (39, none), (40, none), (44, none), (45, none), (46, none), (47, none), (48, none), (49, none), (50, none), (51, none), (52, none), (53, none)] s o.2 := by
  unfold c_X8_tick_0 at hf
  have e : Fr [(36, some 3), (36, some 11), (36, some 14), (36, some 15), (36, some 16), (36, some 17), (36, some 18), (36, some 19), (36, some 20), (36, some 21), (36, some 22), (36, some 23), (36, some 24), (36, some 25), (36, some 26), (36, some 27), (39, none), (40, none), (44, none), (45, none), (46, none), (47, none), (48, none), (49, none), (50, none), (51, none), (52, none), (53, none)] s s := Fr.rf
  obtain ⟨r2, s1, h9, hf⟩ := bd_some hf
  have e := e.tr ((fr_X8_in h9).mo (by simp))
  rcases ite_or hf with hf | hf
  · cases hf
    exact e
  · rcases ite_or hf with hf | hf
    · rcases ite_or hf with hf | hf
      · exact e.tr (fh_X8_tick_40 _ _ _ _ hf)
      · cases hf
        exact e
    · cases hf
      exact e
theorem fr_X8_tick {N : Nat} {s : Sg} {v1 : Int32} {o : Int32 × Sg} (hf : f_X8_tick N s v1 = some o) : Fr [(36, some 3), (36, some 11), (36, some 14), (36, some 15), (36, some 16), (36, some 17), (36, some 18), (36, some 19), (36, some 20), (36, some 21), (36, some 22), (36, some 23), (36, some 24), (36, some 25), (36, some 26), (36, some 27), (39, none), (40, none), (44, none), (45, none), (46, none), (47, none), (48, none), (49, none), (50, none), (51, none), (52, none), (53, none)] s o.2 := fr_X8_tick_0 s v1 hf
theorem fr_X8_about_0 {o : Int32 × Sg} (s : Sg) (v1 : Int32) (hf : c_X8_about_0 s v1 = some o) : Fr [] s o.2 := by
  unfold c_X8_about_0 at hf
  have e : Fr [] s s := Fr.rf
  rcases ite_or hf with hf | hf
  · cases hf
    exact e
  rcases ite_or hf with hf | hf
  · cases hf
    exact e
  rcases ite_or hf with hf | hf
  · cases hf
    exact e
  rcases ite_or hf with hf | hf
  · cases hf
    exact e
  rcases ite_or hf with hf | hf
  · cases hf
    exact e
  rcases ite_or hf with hf | hf
  · cases hf
    exact e
  rcases ite_or hf with hf | hf
  · cases hf
    exact e
  rcases ite_or hf with hf | hf
  · cases hf
    exact e
  rcases ite_or hf with hf | hf
  · cases hf
    exact e
  rcases ite_or hf with hf | hf
  · rcases ite_or hf with hf | hf
    · cases hf
      exact e
    · cases hf
      exact e
  rcases ite_or hf with hf | hf
  · cases hf
    exact e
  rcases ite_or hf with hf | hf
  · cases hf
    exact e
  cases hf
  exact e
theorem fr_X8_about {s : Sg} {v1 : Int32} {o : Int32 × Sg} (hf : f_X8_about s v1 = some o) : Fr [] s o.2 := fr_X8_about_0 s v1 hf
theorem fr_X8_pig_0 {o : Int32 × Sg} (s : Sg) (v1 : Int32) (v2 : Int32) (hf : c_X8_pig_0 s v1 v2 = some o) : Fr [] s o.2 := by
  unfold c_X8_pig_0 at hf
  have e : Fr [] s s := Fr.rf
  rcases ite_or hf with hf | hf
  · cases hf
    exact e
  · obtain ⟨r2, s1, h9, hf⟩ := bd_some hf
    have e := e.tr ((fr_X8_in h9).mo (by simp))
    rcases ite_or hf with hf | hf
    · cases hf
      exact e
    · rcases ite_or hf with hf | hf
      · rcases ite_or hf with hf | hf
        · have hf := (gd_some hf).2
          cases hf
          exact e
        rcases ite_or hf with hf | hf
        · have hf := (gd_some hf).2
          cases hf
          exact e
        rcases ite_or hf with hf | hf
        · have hf := (gd_some hf).2
          cases hf
          exact e
        rcases ite_or hf with hf | hf
        · have hf := (gd_some hf).2
          cases hf
          exact e
        rcases ite_or hf with hf | hf
        · have hf := (gd_some hf).2
          cases hf
          exact e
        have hf := (gd_some hf).2
        cases hf
        exact e
      · cases hf
        exact e
theorem fr_X8_pig {s : Sg} {v1 : Int32} {v2 : Int32} {o : Int32 × Sg} (hf : f_X8_pig s v1 v2 = some o) : Fr [] s o.2 := fr_X8_pig_0 s v1 v2 hf
theorem fr_X8_sign_0 {o : Int32 × Sg} (s : Sg) (v1 : Int32) (hf : c_X8_sign_0 s v1 = some o) : Fr [] s o.2 := by
  unfold c_X8_sign_0 at hf
  have e : Fr [] s s := Fr.rf
  obtain ⟨r2, s1, h9, hf⟩ := bd_some hf
  have e := e.tr ((fr_X8_in h9).mo (by simp))
  rcases ite_or hf with hf | hf
  · cases hf
    exact e
  · have hf := (gd_some hf).2
    cases hf
    exact e
theorem fr_X8_sign {s : Sg} {v1 : Int32} {o : Int32 × Sg} (hf : f_X8_sign s v1 = some o) : Fr [] s o.2 := fr_X8_sign_0 s v1 hf
theorem fr_X8_lose_0 {o : Int32 × Sg} (s : Sg) (v1 : Int32) (v2 : Int32) (hf : c_X8_lose_0 s v1 v2 = some o) : Fr [(53, none)] s o.2 := by
  unfold c_X8_lose_0 at hf
  have e : Fr [(53, none)] s s := Fr.rf
  obtain ⟨r2, s1, h9, hf⟩ := bd_some hf
  have e := e.tr ((fr_X8_in h9).mo (by simp))
  rcases ite_or hf with hf | hf
  · cases hf
    exact e
  · obtain ⟨r4, s3, h9, hf⟩ := bd_some hf
    have e := e.tr ((fr_X8_in h9).mo (by simp))
    rcases ite_or hf with hf | hf
    · cases hf
      exact e
    · have hf := (gd_some hf).2
      obtain ⟨s5, h9, hf⟩ := lt_some hf
      have e := e.put h9 (Or.inl (by simp))
      cases hf
      exact e
theorem fr_X8_lose {s : Sg} {v1 : Int32} {v2 : Int32} {o : Int32 × Sg} (hf : f_X8_lose s v1 v2 = some o) : Fr [(53, none)] s o.2 := fr_X8_lose_0 s v1 v2 hf
theorem fr_X8_rule_0 {o : Int32 × Sg} (s : Sg) (v1 : Int32) (v2 : Int32) (v3 : Int32) (v4 : Int32) (hf : c_X8_rule_0 s v1 v2 v3 v4 = some o) : Fr [(36, some 36), (54, none), (55, none), (56, none), (57, none)] s o.2 := by
  unfold c_X8_rule_0 at hf
  have e : Fr [(36, some 36), (54, none), (55, none), (56, none), (57, none)] s s := Fr.rf
  obtain ⟨r2, s1, h9, hf⟩ := bd_some hf
  have e := e.tr ((fr_X8_in h9).mo (by simp))
  rcases ite_or hf with hf | hf
  · cases hf
    exact e
  · obtain ⟨r4, s3, h9, hf⟩ := bd_some hf
    have e := e.tr ((fr_X8_in h9).mo (by simp))
    rcases ite_or hf with hf | hf
    · cases hf
      exact e
    · obtain ⟨r6, s5, h9, hf⟩ := bd_some hf
      have e := e.tr ((fr_X8_in h9).mo (by simp))
      rcases ite_or hf with hf | hf
      · cases hf
        exact e
      · rcases ite_or hf with hf | hf
        · cases hf
          exact e
        · have hf := (gd_some hf).2
          obtain ⟨s7, h9, hf⟩ := lt_some hf
          have e := e.put h9 (Or.inl (by simp))
          have hf := (gd_some hf).2
          obtain ⟨s8, h9, hf⟩ := lt_some hf
          have e := e.put h9 (Or.inl (by simp))
          have hf := (gd_some hf).2
          obtain ⟨s9, h9, hf⟩ := lt_some hf
          have e := e.put h9 (Or.inl (by simp))
          have hf := (gd_some hf).2
          obtain ⟨s10, h9, hf⟩ := lt_some hf
          have e := e.put h9 (Or.inl (by simp))
          obtain ⟨s11, h9, hf⟩ := lt_some hf
          have e := e.put h9 (Or.inr (by simp))
          cases hf
          exact e
theorem fr_X8_rule {s : Sg} {v1 : Int32} {v2 : Int32} {v3 : Int32} {v4 : Int32} {o : Int32 × Sg} (hf : f_X8_rule s v1 v2 v3 v4 = some o) : Fr [(36, some 36), (54, none), (55, none), (56, none), (57, none)] s o.2 := fr_X8_rule_0 s v1 v2 v3 v4 hf
theorem fr_X8_unrule_0 {o : Int32 × Sg} (s : Sg) (hf : c_X8_unrule_0 s = some o) : Fr [(36, some 36)] s o.2 := by
  unfold c_X8_unrule_0 at hf
  have e : Fr [(36, some 36)] s s := Fr.rf
  obtain ⟨x1, -, hf⟩ := lt_some hf
  obtain ⟨s2, h9, hf⟩ := lt_some hf
  have e := e.put h9 (Or.inr (by simp))
  cases hf
  exact e
theorem fr_X8_unrule {s : Sg} {o : Int32 × Sg} (hf : f_X8_unrule s = some o) : Fr [(36, some 36)] s o.2 := fr_X8_unrule_0 s hf
theorem fr_X8_forge_0 {o : Int32 × Sg} (s : Sg) (v1 : Int32) (v2 : Int32) (v3 : Int32) (hf : c_X8_forge_0 s v1 v2 v3 = some o) : Fr [(36, some 41), (58, none), (59, none), (60, none)] s o.2 := by
  unfold c_X8_forge_0 at hf
  have e : Fr [(36, some 41), (58, none), (59, none), (60, none)] s s := Fr.rf
  obtain ⟨r2, s1, h9, hf⟩ := bd_some hf
  have e := e.tr ((fr_X8_in h9).mo (by simp))
  rcases ite_or hf with hf | hf
  · cases hf
    exact e
  · obtain ⟨r4, s3, h9, hf⟩ := bd_some hf
    have e := e.tr ((fr_X8_in h9).mo (by simp))
    rcases ite_or hf with hf | hf
    · cases hf
      exact e
    · obtain ⟨r6, s5, h9, hf⟩ := bd_some hf
      have e := e.tr ((fr_X8_in h9).mo (by simp))
      rcases ite_or hf with hf | hf
      · cases hf
        exact e
      · rcases ite_or hf with hf | hf
        · cases hf
          exact e
        · have hf := (gd_some hf).2
          obtain ⟨s7, h9, hf⟩ := lt_some hf
          have e := e.put h9 (Or.inl (by simp))
          have hf := (gd_some hf).2
          obtain ⟨s8, h9, hf⟩ := lt_some hf
          have e := e.put h9 (Or.inl (by simp))
          have hf := (gd_some hf).2
          obtain ⟨s9, h9, hf⟩ := lt_some hf
          have e := e.put h9 (Or.inl (by simp))
          obtain ⟨s10, h9, hf⟩ := lt_some hf
          have e := e.put h9 (Or.inr (by simp))
          cases hf
          exact e
theorem fr_X8_forge {s : Sg} {v1 : Int32} {v2 : Int32} {v3 : Int32} {o : Int32 × Sg} (hf : f_X8_forge s v1 v2 v3 = some o) : Fr [(36, some 41), (58, none), (59, none), (60, none)] s o.2 := fr_X8_forge_0 s v1 v2 v3 hf
theorem fr_X8_digit_31 {N : Nat} {o : Int32 × Sg} (s : Sg) (v3 : Int32) (hf : c_X8_digit_31 N s v3 = some o) : Fr [] s o.2 := by
  unfold c_X8_digit_31 at hf
  have e : Fr [] s s := Fr.rf
  have hf := (gd_some hf).2
  cases hf
  exact e
theorem fr_X8_digit_10 {N : Nat} {o : Int32 × Sg} {K10 : Sg → Int32 → Int32 → Int32 → Option (Int32 × Sg)} (gK10 : ∀ (s : Sg) (v2 : Int32) (v3 : Int32) (v4 : Int32), K10 s v2 v3 v4 = some o → Fr [] s o.2) (s : Sg) (v2 : Int32) (v3 : Int32) (v4 : Int32) (hf : c_X8_digit_10 N K10 s v2 v3 v4 = some o) : Fr [] s o.2 := by
  unfold c_X8_digit_10 at hf
  have e : Fr [] s s := Fr.rf
  rcases ite_or hf with hf | hf
  · exact e.tr (fr_X8_digit_31 _ _ hf)
  · have hf := (gd_some hf).2
    obtain ⟨x1, -, hf⟩ := lt_some hf
    exact e.tr (gK10 _ _ _ _ hf)
theorem fh_X8_digit_10 {N : Nat} {o : Int32 × Sg} : ∀ (j : Nat) (s : Sg) (v2 : Int32) (v3 : Int32) (v4 : Int32), b_X8_digit_10 N j s v2 v3 v4 = some o → Fr [] s o.2 := by
  intro j
  induction j with
  | zero => intro s v2 v3 v4 hf; cases (show none = some o from hf)
  | succ j ih => intro s v2 v3 v4 hf; exact fr_X8_digit_10 ih s v2 v3 v4 hf
theorem fr_X8_digit_0 {N : Nat} {o : Int32 × Sg} (s : Sg) (v1 : Int32) (v2 : Int32) (hf : c_X8_digit_0 N s v1 v2 = some o) : Fr [] s o.2 := by
  unfold c_X8_digit_0 at hf
  have e : Fr [] s s := Fr.rf
  obtain ⟨x1, -, hf⟩ := lt_some hf
  exact e.tr (fh_X8_digit_10 _ _ _ _ _ hf)
theorem fr_X8_digit {N : Nat} {s : Sg} {v1 : Int32} {v2 : Int32} {o : Int32 × Sg} (hf : f_X8_digit N s v1 v2 = some o) : Fr [] s o.2 := fr_X8_digit_0 s v1 v2 hf
theorem fr_X8_payOf_139 {N : Nat} {o : Int32 × Sg} {K32 : Sg → Int32 → Int32 → Int32 → Option (Int32 × Sg)} (gK32 : ∀ (s : Sg) (v1 : Int32) (v2 : Int32) (v3 : Int32), K32 s v1 v2 v3 = some o → Fr [(68, none)] s o.2) (s : Sg) (v1 : Int32) (v2 : Int32) (v3 : Int32) (hf : c_X8_payOf_139 N K32 s v1 v2 v3 = some o) : Fr [(68, none)] s o.2 := by
  unfold c_X8_payOf_139 at hf
  have e : Fr [(68, none)] s s := Fr.rf
  exact e.tr (gK32 _ _ _ _ hf)
theorem fr_X8_payOf_32 {N : Nat} {o : Int32 × Sg} {K32 : Sg → Int32 → Int32 → Int32 → Option (Int32 × Sg)} (gK32 : ∀ (s : Sg) (v1 : Int32) (v2 : Int32) (v3 : Int32), K32 s v1 v2 v3 = some o → Fr [(68, none)] s o.2) (s : Sg) (v1 : Int32) (v2 : Int32) (v3 : Int32) (hf : c_X8_payOf_32 N K32 s v1 v2 v3 = some o) : Fr [(68, none)] s o.2 := by
  unfold c_X8_payOf_32 at hf
  have e : Fr [(68, none)] s s := Fr.rf
  rcases ite_or hf with hf | hf
  · cases hf
    exact e
  · obtain ⟨r2, s1, h9, hf⟩ := bd_some hf
    have e := e.tr ((fr_X8_digit h9).mo (by simp))
    rcases ite_or hf with hf | hf
    · exact e.tr (fr_X8_payOf_139 gK32 _ _ _ _ hf)
    · have hf := (gd_some hf).2
      obtain ⟨x3, -, hf⟩ := lt_some hf
      have hf := (gd_some hf).2
      have hf := (gd_some hf).2
      rcases ite_or hf with hf | hf
      · cases hf
        exact e
      · have hf := (gd_some hf).2
        have hf := (gd_some hf).2
        rcases ite_or hf with hf | hf
        · have hf := (gd_some hf).2
          have hf := (gd_some hf).2
          have hf := (gd_some hf).2
          obtain ⟨s4, h9, hf⟩ := lt_some hf
          have e := e.put h9 (Or.inl (by simp))
          have hf := (gd_some hf).2
          have hf := (gd_some hf).2
          obtain ⟨x5, -, hf⟩ := lt_some hf
          exact e.tr (fr_X8_payOf_139 gK32 _ _ _ _ hf)
        · cases hf
          exact e
theorem fh_X8_payOf_32 {N : Nat} {o : Int32 × Sg} : ∀ (j : Nat) (s : Sg) (v1 : Int32) (v2 : Int32) (v3 : Int32), b_X8_payOf_32 N j s v1 v2 v3 = some o → Fr [(68, none)] s o.2 := by
  intro j
  induction j with
  | zero => intro s v1 v2 v3 hf; cases (show none = some o from hf)
  | succ j ih => intro s v1 v2 v3 hf; exact fr_X8_payOf_32 ih s v1 v2 v3 hf
theorem fr_X8_payOf_28 {N : Nat} {o : Int32 × Sg} (s : Sg) (v1 : Int32) (hf : c_X8_payOf_28 N s v1 = some o) : Fr [(68, none)] s o.2 := by
  unfold c_X8_payOf_28 at hf
  have e : Fr [(68, none)] s s := Fr.rf
  exact e.tr (fh_X8_payOf_32 _ _ _ _ _ hf)
theorem fr_X8_payOf_2 {N : Nat} {o : Int32 × Sg} {K2 : Sg → Int32 → Int32 → Option (Int32 × Sg)} (gK2 : ∀ (s : Sg) (v1 : Int32) (v2 : Int32), K2 s v1 v2 = some o → Fr [(68, none)] s o.2) (s : Sg) (v1 : Int32) (v2 : Int32) (hf : c_X8_payOf_2 N K2 s v1 v2 = some o) : Fr [(68, none)] s o.2 := by
  unfold c_X8_payOf_2 at hf
  have e : Fr [(68, none)] s s := Fr.rf
  rcases ite_or hf with hf | hf
  · exact e.tr (fr_X8_payOf_28 _ _ hf)
  · have hf := (gd_some hf).2
    have hf := (gd_some hf).2
    obtain ⟨s1, h9, hf⟩ := lt_some hf
    have e := e.put h9 (Or.inl (by simp))
    exact e.tr (gK2 _ _ _ hf)
theorem fh_X8_payOf_2 {N : Nat} {o : Int32 × Sg} : ∀ (j : Nat) (s : Sg) (v1 : Int32) (v2 : Int32), b_X8_payOf_2 N j s v1 v2 = some o → Fr [(68, none)] s o.2 := by
  intro j
  induction j with
  | zero => intro s v1 v2 hf; cases (show none = some o from hf)
  | succ j ih => intro s v1 v2 hf; exact fr_X8_payOf_2 ih s v1 v2 hf
theorem fr_X8_payOf_0 {N : Nat} {o : Int32 × Sg} (s : Sg) (v1 : Int32) (hf : c_X8_payOf_0 N s v1 = some o) : Fr [(68, none)] s o.2 := by
  unfold c_X8_payOf_0 at hf
  have e : Fr [(68, none)] s s := Fr.rf
  exact e.tr (fh_X8_payOf_2 _ _ _ _ hf)
theorem fr_X8_payOf {N : Nat} {s : Sg} {v1 : Int32} {o : Int32 × Sg} (hf : f_X8_payOf N s v1 = some o) : Fr [(68, none)] s o.2 := fr_X8_payOf_0 s v1 hf
theorem fr_X8_findSale_101 {N : Nat} {o : Int32 × Sg} {K75 : Sg → Int32 → Int32 → Int32 → Option (Int32 × Sg)} (gK75 : ∀ (s : Sg) (v1 : Int32) (v2 : Int32) (v3 : Int32), K75 s v1 v2 v3 = some o → Fr [(36, some 54), (36, some 55), (67, none), (68, none)] s o.2) (s : Sg) (v1 : Int32) (v2 : Int32) (v3 : Int32) (hf : c_X8_findSale_101 N K75 s v1 v2 v3 = some o) : Fr [(36, some 54), (36, some 55), (67, none), (68, none)] s o.2 := by
  unfold c_X8_findSale_101 at hf
  have e : Fr [(36, some 54), (36, some 55), (67, none), (68, none)] s s := Fr.rf
  exact e.tr (gK75 _ _ _ _ hf)
theorem fr_X8_findSale_75 {N : Nat} {o : Int32 × Sg} {K75 : Sg → Int32 → Int32 → Int32 → Option (Int32 × Sg)} (gK75 : ∀ (s : Sg) (v1 : Int32) (v2 : Int32) (v3 : Int32), K75 s v1 v2 v3 = some o → Fr [(36, some 54), (36, some 55), (67, none), (68, none)] s o.2) (s : Sg) (v1 : Int32) (v2 : Int32) (v3 : Int32) (hf : c_X8_findSale_75 N K75 s v1 v2 v3 = some o) : Fr [(36, some 54), (36, some 55), (67, none), (68, none)] s o.2 := by
  unfold c_X8_findSale_75 at hf
  have e : Fr [(36, some 54), (36, some 55), (67, none), (68, none)] s s := Fr.rf
  rcases ite_or hf with hf | hf
  · cases hf
    exact e
  · obtain ⟨r2, s1, h9, hf⟩ := bd_some hf
    have e := e.tr ((fr_X8_payOf h9).mo (by simp))
    rcases ite_or hf with hf | hf
    · exact e.tr (fr_X8_findSale_101 gK75 _ _ _ _ hf)
    · obtain ⟨s3, h9, hf⟩ := lt_some hf
      have e := e.put h9 (Or.inr (by simp))
      exact e.tr (fr_X8_findSale_101 gK75 _ _ _ _ hf)
theorem fh_X8_findSale_75 {N : Nat} {o : Int32 × Sg} : ∀ (j : Nat) (s : Sg) (v1 : Int32) (v2 : Int32) (v3 : Int32), b_X8_findSale_75 N j s v1 v2 v3 = some o → Fr [(36, some 54), (36, some 55), (67, none), (68, none)] s o.2 := by
  intro j
  induction j with
  | zero => intro s v1 v2 v3 hf; cases (show none = some o from hf)
  | succ j ih => intro s v1 v2 v3 hf; exact fr_X8_findSale_75 ih s v1 v2 v3 hf
theorem fr_X8_findSale_71 {N : Nat} {o : Int32 × Sg} (s : Sg) (v1 : Int32) (hf : c_X8_findSale_71 N s v1 = some o) : Fr [(36, some 54), (36, some 55), (67, none), (68, none)] s o.2 := by
  unfold c_X8_findSale_71 at hf
  have e : Fr [(36, some 54), (36, some 55), (67, none), (68, none)] s s := Fr.rf
  exact e.tr (fh_X8_findSale_75 _ _ _ _ _ hf)
theorem fr_X8_findSale_65 {N : Nat} {o : Int32 × Sg} {K9 : Sg → Int32 → Int32 → Option (Int32 × Sg)} (gK9 : ∀ (s : Sg) (v1 : Int32) (v2 : Int32), K9 s v1 v2 = some o → Fr [(36, some 54), (36, some 55), (67, none), (68, none)] s o.2) (s : Sg) (v1 : Int32) (v2 : Int32) (hf : c_X8_findSale_65 N K9 s v1 v2 = some o) : Fr [(36, some 54), (36, some 55), (67, none), (68, none)] s o.2 := by
  unfold c_X8_findSale_65 at hf
  have e : Fr [(36, some 54), (36, some 55), (67, none), (68, none)] s s := Fr.rf
  exact e.tr (gK9 _ _ _ hf)
theorem fr_X8_findSale_9 {N : Nat} {o : Int32 × Sg} {K9 : Sg → Int32 → Int32 → Option (Int32 × Sg)} (gK9 : ∀ (s : Sg) (v1 : Int32) (v2 : Int32), K9 s v1 v2 = some o → Fr [(36, some 54), (36, some 55), (67, none), (68, none)] s o.2) (s : Sg) (v1 : Int32) (v2 : Int32) (hf : c_X8_findSale_9 N K9 s v1 v2 = some o) : Fr [(36, some 54), (36, some 55), (67, none), (68, none)] s o.2 := by
  unfold c_X8_findSale_9 at hf
  have e : Fr [(36, some 54), (36, some 55), (67, none), (68, none)] s s := Fr.rf
  rcases ite_or hf with hf | hf
  · exact e.tr (fr_X8_findSale_71 _ _ hf)
  · rcases ite_or hf with hf | hf
    · exact e.tr (fr_X8_findSale_71 _ _ hf)
    · have hf := (gd_some hf).2
      rcases ite_or hf with hf | hf
      · have hf := (gd_some hf).2
        obtain ⟨s1, h9, hf⟩ := lt_some hf
        have e := e.put h9 (Or.inl (by simp))
        obtain ⟨s2, h9, hf⟩ := lt_some hf
        have e := e.put h9 (Or.inr (by simp))
        obtain ⟨x3, -, hf⟩ := lt_some hf
        exact e.tr (fr_X8_findSale_65 gK9 _ _ _ hf)
      · exact e.tr (fr_X8_findSale_65 gK9 _ _ _ hf)
theorem fh_X8_findSale_9 {N : Nat} {o : Int32 × Sg} : ∀ (j : Nat) (s : Sg) (v1 : Int32) (v2 : Int32), b_X8_findSale_9 N j s v1 v2 = some o → Fr [(36, some 54), (36, some 55), (67, none), (68, none)] s o.2 := by
  intro j
  induction j with
  | zero => intro s v1 v2 hf; cases (show none = some o from hf)
  | succ j ih => intro s v1 v2 hf; exact fr_X8_findSale_9 ih s v1 v2 hf
theorem fr_X8_findSale_0 {N : Nat} {o : Int32 × Sg} (s : Sg) (hf : c_X8_findSale_0 N s = some o) : Fr [(36, some 54), (36, some 55), (67, none), (68, none)] s o.2 := by
  unfold c_X8_findSale_0 at hf
  have e : Fr [(36, some 54), (36, some 55), (67, none), (68, none)] s s := Fr.rf
  obtain ⟨s1, h9, hf⟩ := lt_some hf
  have e := e.put h9 (Or.inr (by simp))
  exact e.tr (fh_X8_findSale_9 _ _ _ _ hf)
theorem fr_X8_findSale {N : Nat} {s : Sg} {o : Int32 × Sg} (hf : f_X8_findSale N s = some o) : Fr [(36, some 54), (36, some 55), (67, none), (68, none)] s o.2 := fr_X8_findSale_0 s hf
theorem fr_X8_sale_0 {N : Nat} {o : Int32 × Sg} (s : Sg) (hf : c_X8_sale_0 N s = some o) : Fr [(36, some 54), (36, some 55), (67, none), (68, none)] s o.2 := by
  unfold c_X8_sale_0 at hf
  have e : Fr [(36, some 54), (36, some 55), (67, none), (68, none)] s s := Fr.rf
  obtain ⟨r2, s1, h9, hf⟩ := bd_some hf
  have e := e.tr ((fr_X8_findSale h9).mo (by simp))
  cases hf
  exact e
theorem fr_X8_sale {N : Nat} {s : Sg} {o : Int32 × Sg} (hf : f_X8_sale N s = some o) : Fr [(36, some 54), (36, some 55), (67, none), (68, none)] s o.2 := fr_X8_sale_0 s hf
theorem fr_X8_sell_80 {N : Nat} {o : Int32 × Sg} (s : Sg) (v1 : Int32) (v2 : Int32) (hf : c_X8_sell_80 N s v1 v2 = some o) : Fr [(36, some 45), (36, some 54), (36, some 55), (51, none), (59, none), (67, none), (68, none)] s o.2 := by
  unfold c_X8_sell_80 at hf
  have e : Fr [(36, some 45), (36, some 54), (36, some 55), (51, none), (59, none), (67, none), (68, none)] s s := Fr.rf
  obtain ⟨s1, h9, hf⟩ := lt_some hf
  have e := e.put h9 (Or.inr (by simp))
  cases hf
  exact e
theorem fr_X8_sell_74 {N : Nat} {o : Int32 × Sg} {K9 : Sg → Int32 → Int32 → Int32 → Option (Int32 × Sg)} (gK9 : ∀ (s : Sg) (v1 : Int32) (v2 : Int32) (v3 : Int32), K9 s v1 v2 v3 = some o → Fr [(36, some 45), (36, some 54), (36, some 55), (51, none), (59, none), (67, none), (68, none)] s o.2) (s : Sg) (v1 : Int32) (v2 : Int32) (v3 : Int32) (hf : c_X8_sell_74 N K9 s v1 v2 v3 = some o) : Fr [(36, some 45), (36, some 54), (36, some 55), (51, none), (59, none), (67, none), (68, none)] s o.2 := by
  unfold c_X8_sell_74 at hf
  have e : Fr [(36, some 45), (36, some 54), (36, some 55), (51, none), (59, none), (67, none), (68, none)] s s := Fr.rf
  exact e.tr (gK9 _ _ _ _ hf)
theorem fr_X8_sell_9 {N : Nat} {o : Int32 × Sg} {K9 : Sg → Int32 → Int32 → Int32 → Option (Int32 × Sg)} (gK9 : ∀ (s : Sg) (v1 : Int32) (v2 : Int32) (v3 : Int32), K9 s v1 v2 v3 = some o → Fr [(36, some 45), (36, some 54), (36, some 55), (51, none), (59, none), (67, none), (68, none)] s o.2) (s : Sg) (v1 : Int32) (v2 : Int32) (v3 : Int32) (hf : c_X8_sell_9 N K9 s v1 v2 v3 = some o) : Fr [(36, some 45), (36, some 54), (36, some 55), (51, none), (59, none), (67, none), (68, none)] s o.2 := by
  unfold c_X8_sell_9 at hf
  have e : Fr [(36, some 45), (36, some 54), (36, some 55), (51, none), (59, none), (67, none), (68, none)] s s := Fr.rf
  rcases ite_or hf with hf | hf
  · exact e.tr (fr_X8_sell_80 _ _ _ hf)
  · obtain ⟨r2, s1, h9, hf⟩ := bd_some hf
    have e := e.tr ((fr_X8_digit h9).mo (by simp))
    rcases ite_or hf with hf | hf
    · exact e.tr (fr_X8_sell_74 gK9 _ _ _ _ hf)
    · have hf := (gd_some hf).2
      have hf := (gd_some hf).2
      obtain ⟨s3, h9, hf⟩ := lt_some hf
      have e := e.put h9 (Or.inl (by simp))
      have hf := (gd_some hf).2
      have hf := (gd_some hf).2
      have hf := (gd_some hf).2
      have hf := (gd_some hf).2
      obtain ⟨s4, h9, hf⟩ := lt_some hf
      have e := e.put h9 (Or.inl (by simp))
      exact e.tr (fr_X8_sell_74 gK9 _ _ _ _ hf)
theorem fh_X8_sell_9 {N : Nat} {o : Int32 × Sg} : ∀ (j : Nat) (s : Sg) (v1 : Int32) (v2 : Int32) (v3 : Int32), b_X8_sell_9 N j s v1 v2 v3 = some o → Fr [(36, some 45), (36, some 54), (36, some 55), (51, none), (59, none), (67, none), (68, none)] s o.2 := by
  intro j
  induction j with
  | zero => intro s v1 v2 v3 hf; cases (show none = some o from hf)
  | succ j ih => intro s v1 v2 v3 hf; exact fr_X8_sell_9 ih s v1 v2 v3 hf
theorem fr_X8_sell_0 {N : Nat} {o : Int32 × Sg} (s : Sg) (hf : c_X8_sell_0 N s = some o) : Fr [(36, some 45), (36, some 54), (36, some 55), (51, none), (59, none), (67, none), (68, none)] s o.2 := by
  unfold c_X8_sell_0 at hf
  have e : Fr [(36, some 45), (36, some 54), (36, some 55), (51, none), (59, none), (67, none), (68, none)] s s := Fr.rf
  obtain ⟨r2, s1, h9, hf⟩ := bd_some hf
  have e := e.tr ((fr_X8_findSale h9).mo (by simp))
  exact e.tr (fh_X8_sell_9 _ _ _ _ _ hf)
theorem fr_X8_sell {N : Nat} {s : Sg} {o : Int32 × Sg} (hf : f_X8_sell N s = some o) : Fr [(36, some 45), (36, some 54), (36, some 55), (51, none), (59, none), (67, none), (68, none)] s o.2 := fr_X8_sell_0 s hf
theorem fr_X8_month_0 {o : Int32 × Sg} (s : Sg) (v1 : Int32) (v2 : Int32) (v3 : Int32) (hf : c_X8_month_0 s v1 v2 v3 = some o) : Fr [(61, none), (62, none)] s o.2 := by
  unfold c_X8_month_0 at hf
  have e : Fr [(61, none), (62, none)] s s := Fr.rf
  obtain ⟨r2, s1, h9, hf⟩ := bd_some hf
  have e := e.tr ((fr_X8_in h9).mo (by simp))
  rcases ite_or hf with hf | hf
  · cases hf
    exact e
  · obtain ⟨r4, s3, h9, hf⟩ := bd_some hf
    have e := e.tr ((fr_X8_in h9).mo (by simp))
    rcases ite_or hf with hf | hf
    · cases hf
      exact e
    · obtain ⟨r6, s5, h9, hf⟩ := bd_some hf
      have e := e.tr ((fr_X8_in h9).mo (by simp))
      rcases ite_or hf with hf | hf
      · cases hf
        exact e
      · have hf := (gd_some hf).2
        obtain ⟨s7, h9, hf⟩ := lt_some hf
        have e := e.put h9 (Or.inl (by simp))
        have hf := (gd_some hf).2
        obtain ⟨s8, h9, hf⟩ := lt_some hf
        have e := e.put h9 (Or.inl (by simp))
        cases hf
        exact e
theorem fr_X8_month {s : Sg} {v1 : Int32} {v2 : Int32} {v3 : Int32} {o : Int32 × Sg} (hf : f_X8_month s v1 v2 v3 = some o) : Fr [(61, none), (62, none)] s o.2 := fr_X8_month_0 s v1 v2 v3 hf
theorem fr_X8_pace_0 {o : Int32 × Sg} (s : Sg) (v1 : Int32) (v2 : Int32) (v3 : Int32) (v4 : Int32) (hf : c_X8_pace_0 s v1 v2 v3 v4 = some o) : Fr [(63, none), (64, none), (65, none)] s o.2 := by
  unfold c_X8_pace_0 at hf
  have e : Fr [(63, none), (64, none), (65, none)] s s := Fr.rf
  obtain ⟨r2, s1, h9, hf⟩ := bd_some hf
  have e := e.tr ((fr_X8_in h9).mo (by simp))
  rcases ite_or hf with hf | hf
  · cases hf
    exact e
  · obtain ⟨r4, s3, h9, hf⟩ := bd_some hf
    have e := e.tr ((fr_X8_in h9).mo (by simp))
    rcases ite_or hf with hf | hf
    · cases hf
      exact e
    · obtain ⟨r6, s5, h9, hf⟩ := bd_some hf
      have e := e.tr ((fr_X8_in h9).mo (by simp))
      rcases ite_or hf with hf | hf
      · cases hf
        exact e
      · obtain ⟨r8, s7, h9, hf⟩ := bd_some hf
        have e := e.tr ((fr_X8_in h9).mo (by simp))
        rcases ite_or hf with hf | hf
        · cases hf
          exact e
        · have hf := (gd_some hf).2
          obtain ⟨s9, h9, hf⟩ := lt_some hf
          have e := e.put h9 (Or.inl (by simp))
          have hf := (gd_some hf).2
          obtain ⟨s10, h9, hf⟩ := lt_some hf
          have e := e.put h9 (Or.inl (by simp))
          have hf := (gd_some hf).2
          obtain ⟨s11, h9, hf⟩ := lt_some hf
          have e := e.put h9 (Or.inl (by simp))
          cases hf
          exact e
theorem fr_X8_pace {s : Sg} {v1 : Int32} {v2 : Int32} {v3 : Int32} {v4 : Int32} {o : Int32 × Sg} (hf : f_X8_pace s v1 v2 v3 v4 = some o) : Fr [(63, none), (64, none), (65, none)] s o.2 := fr_X8_pace_0 s v1 v2 v3 v4 hf
theorem fr_X8_ironOf_16 {N : Nat} {o : Int32 × Sg} {K16 : Sg → Int32 → Int32 → Int32 → Int32 → Int32 → Int32 → Int32 → Int32 → Int32 → Option (Int32 × Sg)} (gK16 : ∀ (s : Sg) (v1 : Int32) (v3 : Int32) (v4 : Int32) (v5 : Int32) (v7 : Int32) (v8 : Int32) (v9 : Int32) (v10 : Int32) (v11 : Int32), K16 s v1 v3 v4 v5 v7 v8 v9 v10 v11 = some o → Fr [] s o.2) (s : Sg) (v1 : Int32) (v3 : Int32) (v4 : Int32) (v5 : Int32) (v7 : Int32) (v8 : Int32) (v9 : Int32) (v10 : Int32) (v11 : Int32) (hf : c_X8_ironOf_16 N K16 s v1 v3 v4 v5 v7 v8 v9 v10 v11 = some o) : Fr [] s o.2 := by
  unfold c_X8_ironOf_16 at hf
  have e : Fr [] s s := Fr.rf
  rcases ite_or hf with hf | hf
  · cases hf
    exact e
  · have hf := (gd_some hf).2
    obtain ⟨x1, -, hf⟩ := lt_some hf
    have hf := (gd_some hf).2
    have hf := (gd_some hf).2
    obtain ⟨x2, -, hf⟩ := lt_some hf
    have hf := (gd_some hf).2
    obtain ⟨x3, -, hf⟩ := lt_some hf
    have hf := (gd_some hf).2
    obtain ⟨x4, -, hf⟩ := lt_some hf
    have hf := (gd_some hf).2
    obtain ⟨x5, -, hf⟩ := lt_some hf
    have hf := (gd_some hf).2
    rcases ite_or hf with hf | hf
    · cases hf
      exact e
    · have hf := (gd_some hf).2
      rcases ite_or hf with hf | hf
      · cases hf
        exact e
      · rcases ite_or hf with hf | hf
        · have hf := (gd_some hf).2
          obtain ⟨x6, -, hf⟩ := lt_some hf
          have hf := (gd_some hf).2
          obtain ⟨x7, -, hf⟩ := lt_some hf
          exact e.tr (gK16 _ _ _ _ _ _ _ _ _ _ hf)
        · cases hf
          exact e
theorem fh_X8_ironOf_16 {N : Nat} {o : Int32 × Sg} : ∀ (j : Nat) (s : Sg) (v1 : Int32) (v3 : Int32) (v4 : Int32) (v5 : Int32) (v7 : Int32) (v8 : Int32) (v9 : Int32) (v10 : Int32) (v11 : Int32), b_X8_ironOf_16 N j s v1 v3 v4 v5 v7 v8 v9 v10 v11 = some o → Fr [] s o.2 := by
  intro j
  induction j with
  | zero => intro s v1 v3 v4 v5 v7 v8 v9 v10 v11 hf; cases (show none = some o from hf)
  | succ j ih => intro s v1 v3 v4 v5 v7 v8 v9 v10 v11 hf; exact fr_X8_ironOf_16 ih s v1 v3 v4 v5 v7 v8 v9 v10 v11 hf
theorem fr_X8_ironOf_0 {N : Nat} {o : Int32 × Sg} (s : Sg) (v1 : Int32) (v2 : Int32) (v3 : Int32) (v4 : Int32) (v5 : Int32) (v6 : Int32) (hf : c_X8_ironOf_0 N s v1 v2 v3 v4 v5 v6 = some o) : Fr [] s o.2 := by
  unfold c_X8_ironOf_0 at hf
  have e : Fr [] s s := Fr.rf
  exact e.tr (fh_X8_ironOf_16 _ _ _ _ _ _ _ _ _ _ _ hf)
theorem fr_X8_ironOf {N : Nat} {s : Sg} {v1 : Int32} {v2 : Int32} {v3 : Int32} {v4 : Int32} {v5 : Int32} {v6 : Int32} {o : Int32 × Sg} (hf : f_X8_ironOf N s v1 v2 v3 v4 v5 v6 = some o) : Fr [] s o.2 := fr_X8_ironOf_0 s v1 v2 v3 v4 v5 v6 hf
theorem fr_X8_plan_138 {N : Nat} {o : Int32 × Sg} {K138 : Sg → Int32 → Int32 → Int32 → Option (Int32 × Sg)} (gK138 : ∀ (s : Sg) (v6 : Int32) (v7 : Int32) (v8 : Int32), K138 s v6 v7 v8 = some o → Fr [(36, some 52), (66, none)] s o.2) (s : Sg) (v6 : Int32) (v7 : Int32) (v8 : Int32) (hf : c_X8_plan_138 N K138 s v6 v7 v8 = some o) : Fr [(36, some 52), (66, none)] s o.2 := by
  unfold c_X8_plan_138 at hf
  have e : Fr [(36, some 52), (66, none)] s s := Fr.rf
  rcases ite_or hf with hf | hf
  · cases hf
    exact e
  · have hf := (gd_some hf).2
    have hf := (gd_some hf).2
    obtain ⟨s1, h9, hf⟩ := lt_some hf
    have e := e.put h9 (Or.inl (by simp))
    have hf := (gd_some hf).2
    obtain ⟨x2, -, hf⟩ := lt_some hf
    exact e.tr (gK138 _ _ _ _ hf)
theorem fh_X8_plan_138 {N : Nat} {o : Int32 × Sg} : ∀ (j : Nat) (s : Sg) (v6 : Int32) (v7 : Int32) (v8 : Int32), b_X8_plan_138 N j s v6 v7 v8 = some o → Fr [(36, some 52), (66, none)] s o.2 := by
  intro j
  induction j with
  | zero => intro s v6 v7 v8 hf; cases (show none = some o from hf)
  | succ j ih => intro s v6 v7 v8 hf; exact fr_X8_plan_138 ih s v6 v7 v8 hf
theorem fr_X8_plan_122 {N : Nat} {o : Int32 × Sg} (s : Sg) (v2 : Int32) (v6 : Int32) (v7 : Int32) (hf : c_X8_plan_122 N s v2 v6 v7 = some o) : Fr [(36, some 52), (66, none)] s o.2 := by
  unfold c_X8_plan_122 at hf
  have e : Fr [(36, some 52), (66, none)] s s := Fr.rf
  rcases ite_or hf with hf | hf
  · cases hf
    exact e
  · obtain ⟨s1, h9, hf⟩ := lt_some hf
    have e := e.put h9 (Or.inr (by simp))
    obtain ⟨x2, -, hf⟩ := lt_some hf
    exact e.tr (fh_X8_plan_138 _ _ _ _ _ hf)
theorem fr_X8_plan_116 {N : Nat} {o : Int32 × Sg} {K79 : Sg → Int32 → Int32 → Int32 → Int32 → Int32 → Int32 → Int32 → Int32 → Option (Int32 × Sg)} (gK79 : ∀ (s : Sg) (v1 : Int32) (v2 : Int32) (v3 : Int32) (v4 : Int32) (v5 : Int32) (v6 : Int32) (v7 : Int32) (v8 : Int32), K79 s v1 v2 v3 v4 v5 v6 v7 v8 = some o → Fr [(36, some 52), (66, none)] s o.2) (s : Sg) (v1 : Int32) (v2 : Int32) (v3 : Int32) (v4 : Int32) (v5 : Int32) (v6 : Int32) (v7 : Int32) (v8 : Int32) (hf : c_X8_plan_116 N K79 s v1 v2 v3 v4 v5 v6 v7 v8 = some o) : Fr [(36, some 52), (66, none)] s o.2 := by
  unfold c_X8_plan_116 at hf
  have e : Fr [(36, some 52), (66, none)] s s := Fr.rf
  exact e.tr (gK79 _ _ _ _ _ _ _ _ _ hf)
theorem fr_X8_plan_79 {N : Nat} {o : Int32 × Sg} {K79 : Sg → Int32 → Int32 → Int32 → Int32 → Int32 → Int32 → Int32 → Int32 → Option (Int32 × Sg)} (gK79 : ∀ (s : Sg) (v1 : Int32) (v2 : Int32) (v3 : Int32) (v4 : Int32) (v5 : Int32) (v6 : Int32) (v7 : Int32) (v8 : Int32), K79 s v1 v2 v3 v4 v5 v6 v7 v8 = some o → Fr [(36, some 52), (66, none)] s o.2) (s : Sg) (v1 : Int32) (v2 : Int32) (v3 : Int32) (v4 : Int32) (v5 : Int32) (v6 : Int32) (v7 : Int32) (v8 : Int32) (hf : c_X8_plan_79 N K79 s v1 v2 v3 v4 v5 v6 v7 v8 = some o) : Fr [(36, some 52), (66, none)] s o.2 := by
  unfold c_X8_plan_79 at hf
  have e : Fr [(36, some 52), (66, none)] s s := Fr.rf
  rcases ite_or hf with hf | hf
  · exact e.tr (fr_X8_plan_122 _ _ _ _ hf)
  · obtain ⟨r2, s1, h9, hf⟩ := bd_some hf
    have e := e.tr ((fr_X8_ironOf h9).mo (by simp))
    rcases ite_or hf with hf | hf
    · exact e.tr (fr_X8_plan_116 gK79 _ _ _ _ _ _ _ _ _ hf)
    · exact e.tr (fr_X8_plan_116 gK79 _ _ _ _ _ _ _ _ _ hf)
theorem fh_X8_plan_79 {N : Nat} {o : Int32 × Sg} : ∀ (j : Nat) (s : Sg) (v1 : Int32) (v2 : Int32) (v3 : Int32) (v4 : Int32) (v5 : Int32) (v6 : Int32) (v7 : Int32) (v8 : Int32), b_X8_plan_79 N j s v1 v2 v3 v4 v5 v6 v7 v8 = some o → Fr [(36, some 52), (66, none)] s o.2 := by
  intro j
  induction j with
  | zero => intro s v1 v2 v3 v4 v5 v6 v7 v8 hf; cases (show none = some o from hf)
  | succ j ih => intro s v1 v2 v3 v4 v5 v6 v7 v8 hf; exact fr_X8_plan_79 ih s v1 v2 v3 v4 v5 v6 v7 v8 hf
theorem fr_X8_plan_70 {N : Nat} {o : Int32 × Sg} (s : Sg) (v1 : Int32) (v2 : Int32) (v3 : Int32) (v4 : Int32) (v5 : Int32) (hf : c_X8_plan_70 N s v1 v2 v3 v4 v5 = some o) : Fr [(36, some 52), (66, none)] s o.2 := by
  unfold c_X8_plan_70 at hf
  have e : Fr [(36, some 52), (66, none)] s s := Fr.rf
  exact e.tr (fh_X8_plan_79 _ _ _ _ _ _ _ _ _ _ hf)
theorem fr_X8_plan_52 {N : Nat} {o : Int32 × Sg} {K52 : Sg → Int32 → Int32 → Int32 → Int32 → Int32 → Int32 → Option (Int32 × Sg)} (gK52 : ∀ (s : Sg) (v1 : Int32) (v2 : Int32) (v3 : Int32) (v4 : Int32) (v5 : Int32) (v6 : Int32), K52 s v1 v2 v3 v4 v5 v6 = some o → Fr [(36, some 52), (66, none)] s o.2) (s : Sg) (v1 : Int32) (v2 : Int32) (v3 : Int32) (v4 : Int32) (v5 : Int32) (v6 : Int32) (hf : c_X8_plan_52 N K52 s v1 v2 v3 v4 v5 v6 = some o) : Fr [(36, some 52), (66, none)] s o.2 := by
  unfold c_X8_plan_52 at hf
  have e : Fr [(36, some 52), (66, none)] s s := Fr.rf
  rcases ite_or hf with hf | hf
  · exact e.tr (fr_X8_plan_70 _ _ _ _ _ _ hf)
  · obtain ⟨x1, -, hf⟩ := lt_some hf
    exact e.tr (gK52 _ _ _ _ _ _ _ hf)
theorem fh_X8_plan_52 {N : Nat} {o : Int32 × Sg} : ∀ (j : Nat) (s : Sg) (v1 : Int32) (v2 : Int32) (v3 : Int32) (v4 : Int32) (v5 : Int32) (v6 : Int32), b_X8_plan_52 N j s v1 v2 v3 v4 v5 v6 = some o → Fr [(36, some 52), (66, none)] s o.2 := by
  intro j
  induction j with
  | zero => intro s v1 v2 v3 v4 v5 v6 hf; cases (show none = some o from hf)
  | succ j ih => intro s v1 v2 v3 v4 v5 v6 hf; exact fr_X8_plan_52 ih s v1 v2 v3 v4 v5 v6 hf
theorem fr_X8_plan_0 {N : Nat} {o : Int32 × Sg} (s : Sg) (v1 : Int32) (v2 : Int32) (v3 : Int32) (v4 : Int32) (hf : c_X8_plan_0 N s v1 v2 v3 v4 = some o) : Fr [(36, some 52), (66, none)] s o.2 := by
  unfold c_X8_plan_0 at hf
  have e : Fr [(36, some 52), (66, none)] s s := Fr.rf
  obtain ⟨r2, s1, h9, hf⟩ := bd_some hf
  have e := e.tr ((fr_X8_in h9).mo (by simp))
  rcases ite_or hf with hf | hf
  · cases hf
    exact e
  · obtain ⟨r4, s3, h9, hf⟩ := bd_some hf
    have e := e.tr ((fr_X8_in h9).mo (by simp))
    rcases ite_or hf with hf | hf
    · cases hf
      exact e
    · obtain ⟨r6, s5, h9, hf⟩ := bd_some hf
      have e := e.tr ((fr_X8_in h9).mo (by simp))
      rcases ite_or hf with hf | hf
      · cases hf
        exact e
      · obtain ⟨r8, s7, h9, hf⟩ := bd_some hf
        have e := e.tr ((fr_X8_in h9).mo (by simp))
        rcases ite_or hf with hf | hf
        · cases hf
          exact e
        · exact e.tr (fh_X8_plan_52 _ _ _ _ _ _ _ _ hf)
theorem fr_X8_plan {N : Nat} {s : Sg} {v1 : Int32} {v2 : Int32} {v3 : Int32} {v4 : Int32} {o : Int32 × Sg} (hf : f_X8_plan N s v1 v2 v3 v4 = some o) : Fr [(36, some 52), (66, none)] s o.2 := fr_X8_plan_0 s v1 v2 v3 v4 hf
theorem fr_X8_paceAt_0 {o : Int32 × Sg} (s : Sg) (v1 : Int32) (hf : c_X8_paceAt_0 s v1 = some o) : Fr [] s o.2 := by
  unfold c_X8_paceAt_0 at hf
  have e : Fr [] s s := Fr.rf
  obtain ⟨r2, s1, h9, hf⟩ := bd_some hf
  have e := e.tr ((fr_X8_in h9).mo (by simp))
  rcases ite_or hf with hf | hf
  · cases hf
    exact e
  · have hf := (gd_some hf).2
    cases hf
    exact e
theorem fr_X8_paceAt {s : Sg} {v1 : Int32} {o : Int32 × Sg} (hf : f_X8_paceAt s v1 = some o) : Fr [] s o.2 := fr_X8_paceAt_0 s v1 hf
theorem fr_X8_count_86 {N : Nat} {o : Int32 × Sg} {K62 : Sg → Int32 → Int32 → Option (Int32 × Sg)} (gK62 : ∀ (s : Sg) (v2 : Int32) (v3 : Int32), K62 s v2 v3 = some o → Fr [] s o.2) (s : Sg) (v3 : Int32) (u0 : Int32) (u1 : Int32) (hf : c_X8_count_86 N K62 s v3 u0 u1 = some o) : Fr [] s o.2 := by
  unfold c_X8_count_86 at hf
  have e : Fr [] s s := Fr.rf
  obtain ⟨x1, -, hf⟩ := lt_some hf
  exact e.tr (gK62 _ _ _ hf)
theorem fr_X8_count_62 {N : Nat} {o : Int32 × Sg} {K62 : Sg → Int32 → Int32 → Option (Int32 × Sg)} (gK62 : ∀ (s : Sg) (v2 : Int32) (v3 : Int32), K62 s v2 v3 = some o → Fr [] s o.2) (s : Sg) (v2 : Int32) (v3 : Int32) (hf : c_X8_count_62 N K62 s v2 v3 = some o) : Fr [] s o.2 := by
  unfold c_X8_count_62 at hf
  have e : Fr [] s s := Fr.rf
  rcases ite_or hf with hf | hf
  · cases hf
    exact e
  · have hf := (gd_some hf).2
    rcases ite_or hf with hf | hf
    · exact e.tr (fr_X8_count_86 gK62 _ _ _ _ hf)
    · exact e.tr (fr_X8_count_86 gK62 _ _ _ _ hf)
theorem fh_X8_count_62 {N : Nat} {o : Int32 × Sg} : ∀ (j : Nat) (s : Sg) (v2 : Int32) (v3 : Int32), b_X8_count_62 N j s v2 v3 = some o → Fr [] s o.2 := by
  intro j
  induction j with
  | zero => intro s v2 v3 hf; cases (show none = some o from hf)
  | succ j ih => intro s v2 v3 hf; exact fr_X8_count_62 ih s v2 v3 hf
theorem fr_X8_count_0 {N : Nat} {o : Int32 × Sg} (s : Sg) (v1 : Int32) (hf : c_X8_count_0 N s v1 = some o) : Fr [] s o.2 := by
  unfold c_X8_count_0 at hf
  have e : Fr [] s s := Fr.rf
  rcases ite_or hf with hf | hf
  · cases hf
    exact e
  rcases ite_or hf with hf | hf
  · cases hf
    exact e
  rcases ite_or hf with hf | hf
  · cases hf
    exact e
  rcases ite_or hf with hf | hf
  · cases hf
    exact e
  rcases ite_or hf with hf | hf
  · exact e.tr (fh_X8_count_62 _ _ _ _ hf)
  rcases ite_or hf with hf | hf
  · cases hf
    exact e
  cases hf
  exact e
theorem fr_X8_count {N : Nat} {s : Sg} {v1 : Int32} {o : Int32 × Sg} (hf : f_X8_count N s v1 = some o) : Fr [] s o.2 := fr_X8_count_0 s v1 hf
theorem fr_X8_digest_182 {N : Nat} {o : Int64 × Sg} {K182 : Sg → Int64 → Int32 → Option (Int64 × Sg)} (gK182 : ∀ (s : Sg) (v1 : Int64) (v3 : Int32), K182 s v1 v3 = some o → Fr [] s o.2) (s : Sg) (v1 : Int64) (v3 : Int32) (hf : c_X8_digest_182 N K182 s v1 v3 = some o) : Fr [] s o.2 := by
  unfold c_X8_digest_182 at hf
  have e : Fr [] s s := Fr.rf
  rcases ite_or hf with hf | hf
  · cases hf
    exact e
  · have hf := (gd_some hf).2
    obtain ⟨x1, -, hf⟩ := lt_some hf
    exact e.tr (gK182 _ _ _ hf)
theorem fh_X8_digest_182 {N : Nat} {o : Int64 × Sg} : ∀ (j : Nat) (s : Sg) (v1 : Int64) (v3 : Int32), b_X8_digest_182 N j s v1 v3 = some o → Fr [] s o.2 := by
  intro j
  induction j with
  | zero => intro s v1 v3 hf; cases (show none = some o from hf)
  | succ j ih => intro s v1 v3 hf; exact fr_X8_digest_182 ih s v1 v3 hf
theorem fr_X8_digest_180 {N : Nat} {o : Int64 × Sg} (s : Sg) (v1 : Int64) (hf : c_X8_digest_180 N s v1 = some o) : Fr [] s o.2 := by
  unfold c_X8_digest_180 at hf
  have e : Fr [] s s := Fr.rf
  exact e.tr (fh_X8_digest_182 _ _ _ _ hf)
theorem fr_X8_digest_174 {N : Nat} {o : Int64 × Sg} {K135 : Sg → Int64 → Int32 → Option (Int64 × Sg)} (gK135 : ∀ (s : Sg) (v1 : Int64) (v3 : Int32), K135 s v1 v3 = some o → Fr [] s o.2) (s : Sg) (v1 : Int64) (v3 : Int32) (hf : c_X8_digest_174 N K135 s v1 v3 = some o) : Fr [] s o.2 := by
  unfold c_X8_digest_174 at hf
  have e : Fr [] s s := Fr.rf
  exact e.tr (gK135 _ _ _ hf)
theorem fr_X8_digest_146 {N : Nat} {o : Int64 × Sg} {K135 : Sg → Int64 → Int32 → Option (Int64 × Sg)} (gK135 : ∀ (s : Sg) (v1 : Int64) (v3 : Int32), K135 s v1 v3 = some o → Fr [] s o.2) {K146 : Sg → Int64 → Int32 → Int32 → Option (Int64 × Sg)} (gK146 : ∀ (s : Sg) (v1 : Int64) (v3 : Int32) (v4 : Int32), K146 s v1 v3 v4 = some o → Fr [] s o.2) (s : Sg) (v1 : Int64) (v3 : Int32) (v4 : Int32) (hf : c_X8_digest_146 N K135 K146 s v1 v3 v4 = some o) : Fr [] s o.2 := by
  unfold c_X8_digest_146 at hf
  have e : Fr [] s s := Fr.rf
  rcases ite_or hf with hf | hf
  · exact e.tr (fr_X8_digest_174 gK135 _ _ _ hf)
  · obtain ⟨r2, s1, h9, hf⟩ := bd_some hf
    have e := e.tr ((fr_X8_pig h9).mo (by simp))
    obtain ⟨x3, -, hf⟩ := lt_some hf
    exact e.tr (gK146 _ _ _ _ hf)
theorem fh_X8_digest_146 {N : Nat} {o : Int64 × Sg} {K135 : Sg → Int64 → Int32 → Option (Int64 × Sg)} (gK135 : ∀ (s : Sg) (v1 : Int64) (v3 : Int32), K135 s v1 v3 = some o → Fr [] s o.2) : ∀ (j : Nat) (s : Sg) (v1 : Int64) (v3 : Int32) (v4 : Int32), b_X8_digest_146 N K135 j s v1 v3 v4 = some o → Fr [] s o.2 := by
  intro j
  induction j with
  | zero => intro s v1 v3 v4 hf; cases (show none = some o from hf)
  | succ j ih => intro s v1 v3 v4 hf; exact fr_X8_digest_146 gK135 ih s v1 v3 v4 hf
theorem fr_X8_digest_135 {N : Nat} {o : Int64 × Sg} {K135 : Sg → Int64 → Int32 → Option (Int64 × Sg)} (gK135 : ∀ (s : Sg) (v1 : Int64) (v3 : Int32), K135 s v1 v3 = some o → Fr [] s o.2) (s : Sg) (v1 : Int64) (v3 : Int32) (hf : c_X8_digest_135 N K135 s v1 v3 = some o) : Fr [] s o.2 := by
  unfold c_X8_digest_135 at hf
  have e : Fr [] s s := Fr.rf
  rcases ite_or hf with hf | hf
  · exact e.tr (fr_X8_digest_180 _ _ hf)
  · exact e.tr (fh_X8_digest_146 gK135 _ _ _ _ _ hf)
theorem fh_X8_digest_135 {N : Nat} {o : Int64 × Sg} : ∀ (j : Nat) (s : Sg) (v1 : Int64) (v3 : Int32), b_X8_digest_135 N j s v1 v3 = some o → Fr [] s o.2 := by
  intro j
  induction j with
  | zero => intro s v1 v3 hf; cases (show none = some o from hf)
  | succ j ih => intro s v1 v3 hf; exact fr_X8_digest_135 ih s v1 v3 hf
theorem fr_X8_digest_133 {N : Nat} {o : Int64 × Sg} (s : Sg) (v1 : Int64) (hf : c_X8_digest_133 N s v1 = some o) : Fr [] s o.2 := by
  unfold c_X8_digest_133 at hf
  have e : Fr [] s s := Fr.rf
  exact e.tr (fh_X8_digest_135 _ _ _ _ hf)
theorem fr_X8_digest_127 {N : Nat} {o : Int64 × Sg} {K88 : Sg → Int64 → Int32 → Option (Int64 × Sg)} (gK88 : ∀ (s : Sg) (v1 : Int64) (v3 : Int32), K88 s v1 v3 = some o → Fr [] s o.2) (s : Sg) (v1 : Int64) (v3 : Int32) (hf : c_X8_digest_127 N K88 s v1 v3 = some o) : Fr [] s o.2 := by
  unfold c_X8_digest_127 at hf
  have e : Fr [] s s := Fr.rf
  exact e.tr (gK88 _ _ _ hf)
theorem fr_X8_digest_99 {N : Nat} {o : Int64 × Sg} {K88 : Sg → Int64 → Int32 → Option (Int64 × Sg)} (gK88 : ∀ (s : Sg) (v1 : Int64) (v3 : Int32), K88 s v1 v3 = some o → Fr [] s o.2) {K99 : Sg → Int64 → Int32 → Int32 → Option (Int64 × Sg)} (gK99 : ∀ (s : Sg) (v1 : Int64) (v3 : Int32) (v4 : Int32), K99 s v1 v3 v4 = some o → Fr [] s o.2) (s : Sg) (v1 : Int64) (v3 : Int32) (v4 : Int32) (hf : c_X8_digest_99 N K88 K99 s v1 v3 v4 = some o) : Fr [] s o.2 := by
  unfold c_X8_digest_99 at hf
  have e : Fr [] s s := Fr.rf
  rcases ite_or hf with hf | hf
  · exact e.tr (fr_X8_digest_127 gK88 _ _ _ hf)
  · obtain ⟨r2, s1, h9, hf⟩ := bd_some hf
    have e := e.tr ((fr_X8_chargeAt h9).mo (by simp))
    obtain ⟨x3, -, hf⟩ := lt_some hf
    exact e.tr (gK99 _ _ _ _ hf)
theorem fh_X8_digest_99 {N : Nat} {o : Int64 × Sg} {K88 : Sg → Int64 → Int32 → Option (Int64 × Sg)} (gK88 : ∀ (s : Sg) (v1 : Int64) (v3 : Int32), K88 s v1 v3 = some o → Fr [] s o.2) : ∀ (j : Nat) (s : Sg) (v1 : Int64) (v3 : Int32) (v4 : Int32), b_X8_digest_99 N K88 j s v1 v3 v4 = some o → Fr [] s o.2 := by
  intro j
  induction j with
  | zero => intro s v1 v3 v4 hf; cases (show none = some o from hf)
  | succ j ih => intro s v1 v3 v4 hf; exact fr_X8_digest_99 gK88 ih s v1 v3 v4 hf
theorem fr_X8_digest_88 {N : Nat} {o : Int64 × Sg} {K88 : Sg → Int64 → Int32 → Option (Int64 × Sg)} (gK88 : ∀ (s : Sg) (v1 : Int64) (v3 : Int32), K88 s v1 v3 = some o → Fr [] s o.2) (s : Sg) (v1 : Int64) (v3 : Int32) (hf : c_X8_digest_88 N K88 s v1 v3 = some o) : Fr [] s o.2 := by
  unfold c_X8_digest_88 at hf
  have e : Fr [] s s := Fr.rf
  rcases ite_or hf with hf | hf
  · exact e.tr (fr_X8_digest_133 _ _ hf)
  · exact e.tr (fh_X8_digest_99 gK88 _ _ _ _ _ hf)
theorem fh_X8_digest_88 {N : Nat} {o : Int64 × Sg} : ∀ (j : Nat) (s : Sg) (v1 : Int64) (v3 : Int32), b_X8_digest_88 N j s v1 v3 = some o → Fr [] s o.2 := by
  intro j
  induction j with
  | zero => intro s v1 v3 hf; cases (show none = some o from hf)
  | succ j ih => intro s v1 v3 hf; exact fr_X8_digest_88 ih s v1 v3 hf
theorem fr_X8_digest_86 {N : Nat} {o : Int64 × Sg} (s : Sg) (v1 : Int64) (hf : c_X8_digest_86 N s v1 = some o) : Fr [] s o.2 := by
  unfold c_X8_digest_86 at hf
  have e : Fr [] s s := Fr.rf
  exact e.tr (fh_X8_digest_88 _ _ _ _ hf)
theorem fr_X8_digest_60 {N : Nat} {o : Int64 × Sg} {K60 : Sg → Int64 → Int32 → Option (Int64 × Sg)} (gK60 : ∀ (s : Sg) (v1 : Int64) (v3 : Int32), K60 s v1 v3 = some o → Fr [] s o.2) (s : Sg) (v1 : Int64) (v3 : Int32) (hf : c_X8_digest_60 N K60 s v1 v3 = some o) : Fr [] s o.2 := by
  unfold c_X8_digest_60 at hf
  have e : Fr [] s s := Fr.rf
  rcases ite_or hf with hf | hf
  · exact e.tr (fr_X8_digest_86 _ _ hf)
  · have hf := (gd_some hf).2
    obtain ⟨x1, -, hf⟩ := lt_some hf
    exact e.tr (gK60 _ _ _ hf)
theorem fh_X8_digest_60 {N : Nat} {o : Int64 × Sg} : ∀ (j : Nat) (s : Sg) (v1 : Int64) (v3 : Int32), b_X8_digest_60 N j s v1 v3 = some o → Fr [] s o.2 := by
  intro j
  induction j with
  | zero => intro s v1 v3 hf; cases (show none = some o from hf)
  | succ j ih => intro s v1 v3 hf; exact fr_X8_digest_60 ih s v1 v3 hf
theorem fr_X8_digest_58 {N : Nat} {o : Int64 × Sg} (s : Sg) (v1 : Int64) (hf : c_X8_digest_58 N s v1 = some o) : Fr [] s o.2 := by
  unfold c_X8_digest_58 at hf
  have e : Fr [] s s := Fr.rf
  exact e.tr (fh_X8_digest_60 _ _ _ _ hf)
theorem fr_X8_digest_33 {N : Nat} {o : Int64 × Sg} {K33 : Sg → Int64 → Int32 → Option (Int64 × Sg)} (gK33 : ∀ (s : Sg) (v1 : Int64) (v3 : Int32), K33 s v1 v3 = some o → Fr [] s o.2) (s : Sg) (v1 : Int64) (v3 : Int32) (hf : c_X8_digest_33 N K33 s v1 v3 = some o) : Fr [] s o.2 := by
  unfold c_X8_digest_33 at hf
  have e : Fr [] s s := Fr.rf
  rcases ite_or hf with hf | hf
  · exact e.tr (fr_X8_digest_58 _ _ hf)
  · obtain ⟨r2, s1, h9, hf⟩ := bd_some hf
    have e := e.tr ((fr_X8_about h9).mo (by simp))
    obtain ⟨x3, -, hf⟩ := lt_some hf
    exact e.tr (gK33 _ _ _ hf)
theorem fh_X8_digest_33 {N : Nat} {o : Int64 × Sg} : ∀ (j : Nat) (s : Sg) (v1 : Int64) (v3 : Int32), b_X8_digest_33 N j s v1 v3 = some o → Fr [] s o.2 := by
  intro j
  induction j with
  | zero => intro s v1 v3 hf; cases (show none = some o from hf)
  | succ j ih => intro s v1 v3 hf; exact fr_X8_digest_33 ih s v1 v3 hf
theorem fr_X8_digest_31 {N : Nat} {o : Int64 × Sg} (s : Sg) (v1 : Int64) (hf : c_X8_digest_31 N s v1 = some o) : Fr [] s o.2 := by
  unfold c_X8_digest_31 at hf
  have e : Fr [] s s := Fr.rf
  exact e.tr (fh_X8_digest_33 _ _ _ _ hf)
theorem fr_X8_digest_6 {N : Nat} {o : Int64 × Sg} {K6 : Sg → Int64 → Int32 → Option (Int64 × Sg)} (gK6 : ∀ (s : Sg) (v1 : Int64) (v3 : Int32), K6 s v1 v3 = some o → Fr [] s o.2) (s : Sg) (v1 : Int64) (v3 : Int32) (hf : c_X8_digest_6 N K6 s v1 v3 = some o) : Fr [] s o.2 := by
  unfold c_X8_digest_6 at hf
  have e : Fr [] s s := Fr.rf
  rcases ite_or hf with hf | hf
  · exact e.tr (fr_X8_digest_31 _ _ hf)
  · obtain ⟨r2, s1, h9, hf⟩ := bd_some hf
    have e := e.tr ((fr_X8_count h9).mo (by simp))
    obtain ⟨x3, -, hf⟩ := lt_some hf
    exact e.tr (gK6 _ _ _ hf)
theorem fh_X8_digest_6 {N : Nat} {o : Int64 × Sg} : ∀ (j : Nat) (s : Sg) (v1 : Int64) (v3 : Int32), b_X8_digest_6 N j s v1 v3 = some o → Fr [] s o.2 := by
  intro j
  induction j with
  | zero => intro s v1 v3 hf; cases (show none = some o from hf)
  | succ j ih => intro s v1 v3 hf; exact fr_X8_digest_6 ih s v1 v3 hf
theorem fr_X8_digest_0 {N : Nat} {o : Int64 × Sg} (s : Sg) (hf : c_X8_digest_0 N s = some o) : Fr [] s o.2 := by
  unfold c_X8_digest_0 at hf
  have e : Fr [] s s := Fr.rf
  exact e.tr (fh_X8_digest_6 _ _ _ _ hf)
theorem fr_X8_digest {N : Nat} {s : Sg} {o : Int64 × Sg} (hf : f_X8_digest N s = some o) : Fr [] s o.2 := fr_X8_digest_0 s hf
