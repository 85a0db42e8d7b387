theorem lt1 {w : Cond} (i : Nat) (h : tables_1_1[i]? = some w) : w ∈ lw_tbl := List.mem_append_right _ (have h := List.mem_of_getElem? h; (List.mem_append_left _ h : w ∈ tables_1))
theorem lt2 {w : Cond} (i : Nat) (h : tables_1_2[i]? = some w) : w ∈ lw_tbl := List.mem_append_right _ (have h := List.mem_of_getElem? h; (List.mem_append_right _ (List.mem_append_left _ h) : w ∈ tables_1))
theorem lt3 {w : Cond} (i : Nat) (h : tables_1_3[i]? = some w) : w ∈ lw_tbl := List.mem_append_right _ (have h := List.mem_of_getElem? h; (List.mem_append_right _ (List.mem_append_right _ (List.mem_append_left _ h)) : w ∈ tables_1))
theorem lt4 {w : Cond} (i : Nat) (h : tables_1_4[i]? = some w) : w ∈ lw_tbl := List.mem_append_right _ (have h := List.mem_of_getElem? h; (List.mem_append_right _ (List.mem_append_right _ (List.mem_append_right _ h)) : w ∈ tables_1))
theorem nwF_in : ∀ q ∈ nwF, (Cond.fieldLinkNest q.1 q.2.1 q.2.2.1 q.2.2.2.1 q.2.2.2.2.1 q.2.2.2.2.2) ∈ lw_tbl := List.forall_mem_cons.mpr ⟨lt1 38 rfl, List.forall_mem_cons.mpr ⟨lt1 39 rfl, List.forall_mem_cons.mpr ⟨lt1 40 rfl, List.forall_mem_cons.mpr ⟨lt1 52 rfl, List.forall_mem_cons.mpr ⟨lt1 53 rfl, List.forall_mem_cons.mpr ⟨lt1 55 rfl, List.forall_mem_cons.mpr ⟨lt1 56 rfl, List.forall_mem_cons.mpr ⟨lt1 69 rfl, List.forall_mem_cons.mpr ⟨lt1 71 rfl, List.forall_mem_cons.mpr ⟨lt1 73 rfl, List.forall_mem_cons.mpr ⟨lt1 75 rfl, List.forall_mem_cons.mpr ⟨lt1 77 rfl, List.forall_mem_cons.mpr ⟨lt1 79 rfl, List.forall_mem_cons.mpr ⟨lt1 81 rfl, List.forall_mem_cons.mpr ⟨lt1 104 rfl, List.forall_mem_cons.mpr ⟨lt1 106 rfl, List.forall_mem_cons.mpr ⟨lt1 108 rfl, List.forall_mem_cons.mpr ⟨lt1 110 rfl, List.forall_mem_cons.mpr ⟨lt1 112 rfl, List.forall_mem_cons.mpr ⟨lt1 114 rfl, List.forall_mem_cons.mpr ⟨lt1 116 rfl, List.forall_mem_cons.mpr ⟨lt1 118 rfl, List.forall_mem_cons.mpr ⟨lt1 120 rfl, List.forall_mem_cons.mpr ⟨lt1 122 rfl, List.forall_mem_cons.mpr ⟨lt1 153 rfl, List.forall_mem_cons.mpr ⟨lt1 155 rfl, List.forall_mem_cons.mpr ⟨lt1 168 rfl, List.forall_mem_cons.mpr ⟨lt1 170 rfl, List.forall_mem_cons.mpr ⟨lt1 174 rfl, List.forall_mem_cons.mpr ⟨lt1 178 rfl, List.forall_mem_cons.mpr ⟨lt1 180 rfl, List.forall_mem_cons.mpr ⟨lt1 212 rfl, List.forall_mem_cons.mpr ⟨lt1 216 rfl, fun _ h => absurd h List.not_mem_nil⟩⟩⟩⟩⟩⟩⟩⟩⟩⟩⟩⟩⟩⟩⟩⟩⟩⟩⟩⟩⟩⟩⟩⟩⟩⟩⟩⟩⟩⟩⟩⟩⟩
theorem nwM_in : ∀ q ∈ nwM, (Cond.methodLinkNest q.1 q.2.1 q.2.2.1 q.2.2.2) ∈ lw_tbl := List.forall_mem_cons.mpr ⟨lt1 21 rfl, List.forall_mem_cons.mpr ⟨lt1 64 rfl, List.forall_mem_cons.mpr ⟨lt1 99 rfl, List.forall_mem_cons.mpr ⟨lt1 163 rfl, List.forall_mem_cons.mpr ⟨lt1 202 rfl, fun _ h => absurd h List.not_mem_nil⟩⟩⟩⟩⟩
set_option maxHeartbeats 4000000 in
set_option maxRecDepth 100000 in
theorem whole_start {p : Program} {e : Env} {s : State} {m : MethodId} {below : List Frame} {meth : Method} {c : Code} (l : Launch) {b L : Nat} {xs : Nat → Int32} (hL : L ≤ 2560) (C0 : lw_At p s m meth c b L xs) : W p l e room_1 s m #[Value.ref b] below meth c s.heap [] 0 0 (lw_Z below #[Value.ref b] s) (entryFrame m ([Value.ref b] : List Value).toArray 4) := by
  obtain ⟨hx, hb, hr, hml, hown, hts, hX, hbl, hlocks, hgv⟩ := id C0
  obtain ⟨c0, iS0, hKn0⟩ := u_known (C := RX0) (T := TX0) (N := 2) (n := 2) hts (fun w h => aw_in w (inA_0 w h)) (hts (.instantiable RX0 2) (aw_in _ wd_550))
  obtain ⟨c1, iS1, hKn1⟩ := u_known (C := RX1) (T := TX1) (N := 10) (n := 10) hts (fun w h => aw_in w (inA_1 w h)) (hts (.instantiable RX1 10) (aw_in _ wd_554))
  obtain ⟨c2, iS2, hKn2⟩ := u_known (C := RX2) (T := TX2) (N := 7) (n := 7) hts (fun w h => aw_in w (inA_2 w h)) (hts (.instantiable RX2 7) (aw_in _ wd_552))
  obtain ⟨c3, iS3, hKn3⟩ := u_known (C := RX3) (T := TX3) (N := 9) (n := 9) hts (fun w h => aw_in w (inA_3 w h)) (hts (.instantiable RX3 9) (aw_in _ wd_561))
  obtain ⟨c4, iS4, hKn4⟩ := u_known (C := RX4) (T := TX4) (N := 9) (n := 9) hts (fun w h => aw_in w (inA_4 w h)) (hts (.instantiable RX4 9) (aw_in _ wd_559))
  obtain ⟨c5, iS5, hKn5⟩ := u_known (C := RX5) (T := TX5) (N := 2) (n := 2) hts (fun w h => aw_in w (inA_5 w h)) (hts (.instantiable RX5 2) (aw_in _ wd_557))
  obtain ⟨c6, iS6, hKn6⟩ := u_known (C := RX6) (T := TX6) (N := 4) (n := 4) hts (fun w h => aw_in w (inA_6 w h)) (hts (.instantiable RX6 4) (aw_in _ wd_540))
  obtain ⟨c7, iS7, hKn7⟩ := u_known (C := RX7) (T := TX7) (N := 15) (n := 15) hts (fun w h => aw_in w (inA_7 w h)) (hts (.instantiable RX7 15) (aw_in _ wd_564))
  obtain ⟨c8, iS8, hKn8⟩ := u_known (C := RX8) (T := TX8) (N := 57) (n := 57) hts (fun w h => aw_in w (inA_8 w h)) (hts (.instantiable RX8 57) (aw_in _ wd_566))
  obtain ⟨dC, dI, hKc⟩ : ∃ (dC : Nat → ClassId) (dI : Nat → Nat → Nat), ∀ (k : Nat) (q : vw_C), vwCl[k]? = some q → u_Kn s q.1 q.2.1 q.2.2 (dC k) (dI k) := by
    refine ⟨fun k => [c0, c1, c2, c3, c4, c5, c6, c7, c8].getD k c0, fun k => [iS0, iS1, iS2, iS3, iS4, iS5, iS6, iS7, iS8].getD k iS0, ?_⟩
    intro k q hq
    match k, hq with
    | 0, hq => cases hq; exact hKn0
    | 1, hq => cases hq; exact hKn1
    | 2, hq => cases hq; exact hKn2
    | 3, hq => cases hq; exact hKn3
    | 4, hq => cases hq; exact hKn4
    | 5, hq => cases hq; exact hKn5
    | 6, hq => cases hq; exact hKn6
    | 7, hq => cases hq; exact hKn7
    | 8, hq => cases hq; exact hKn8
    | k + 9, hq => simp [vwCl] at hq
  obtain ⟨cI, kI, compI, hfI, hkI, hkindI⟩ := Cond.arrayClass_spec (hts (.arrayClass .int) (aw_in _ wd_567))
  obtain ⟨cZ, kZ, compZ, hfZ, hkZ, hkindZ⟩ := Cond.arrayClass_spec (hts (.arrayClass .boolean) (aw_in _ wd_568))
  obtain ⟨ac, hac0, hac1⟩ : ∃ ac : Nat → ClassId, ac 0 = cI ∧ ac 1 = cZ := ⟨fun k => if k = 0 then cI else cZ, rfl, rfl⟩
  have hK : va_K (dC, dI) vwCl (tys ac) s := by
    refine ⟨hKc, fun k q hk => ?_⟩
    match k, hk with
    | 0, hk => cases hk; rw [hac0]; exact ⟨fun n z => ⟨fun k h => (by cases h), kI, hkI, compI, hkindI⟩, hfI⟩
    | 1, hk => cases hk; rw [hac1]; exact ⟨fun n z => ⟨fun k h => (by cases h), kZ, hkZ, compZ, hkindZ⟩, hfZ⟩
    | k + 2, hk => simp [tys] at hk
  have hN : NWok NM s := ⟨fun q hq => va_Nw.of rfl (hts _ (nwF_in q hq)), fun q hq => va_Nw.of rfl (hts _ (nwM_in q hq))⟩
  obtain ⟨o, hf, ho⟩ := law_pure L xs hL
  obtain ⟨X, hXd⟩ : ∃ X : Ctx, X = (p, l, e, room_1, s, m, #[Value.ref b], below, meth, c, (dC, dI), ac, fun a => a 1000 = b, fun q => s.heap.size ≤ q, lw_Z below #[Value.ref b] s) := ⟨_, rfl⟩
  have C : Cx NM X cL_law 4 RL AW (some .boolean) room_1 := by
    subst hXd
    exact ⟨⟨hx, hb, hml, hown, fun w h => hts w (aw_in w h)⟩, hr, hlocks, hK, hN, fun _ h => h, rfl⟩
  have LX : Lx X L xs := by
    subst hXd
    exact ⟨b, fun _ h => h, hX, hbl, Nat.not_le.mpr hbl⟩
  have LZ : Lz X := by
    subst hXd
    exact ⟨b, rfl, rfl, fun _ h => h⟩
  have hX0 : Ey X 0 := by
    subst hXd
    intro a a' h1 h2
    exact (h2 1000 (Or.inr (Nat.le_refl _))).trans h1
  have K : XW NM X 4 0 0 [] z0 0 [(0, .ref 1000)] [] := by
    refine X_new (fl := [some 0, some 0, some 0, some 0, some 0, some 0, some 0, some 0, some 0, some 0, some 0, some 0, some 0, none, none]) (n0 := 0) C hX0 0 rfl (by decide) (by decide) rfl tyX7 tyX7_ok nc_7 inA_7 wd_563 wd_564 wd_229 rfl (by decide) (fun _ => rfl) rfl rfl (by decide) dL_law_0 ?_
    refine X_dup C dL_law_3 rfl ?_
    refine X_callI (S0 := []) (s0 := .inl (7, [some 0, some 0, some 0, some 0, some 0, some 0, some 0, some 0, some 0, some 0, some 0, some 0, some 0, none, none])) (As := []) (rest := [.ref 0]) (n0 := 0) C hX0 aw_ok (fun _ h => h) 0 lk_L_9 rfl rfl (by decide) (by decide) (by decide) rfl rfl (by decide) (fun _ _ _ _ => rfl) (fun _ => rfl) rfl rfl (fun _ => rfl) (by decide) rfl rfl (Nat.le_of_ble_eq_true rfl) dL_law_4 (k_X7_init oX e_X7_init) ?_
    refine X_S (S' := SC_X7) rfl ?_
    refine X_astore_n (L' := [(0, .ref 1000), (1, .ref 0)]) C [1, 0] dL_law_7 rfl (by decide) rfl ?_
    refine X_new (fl := [some 0, some 0, none, none, some 0, some 0, some 0, some 0, some 0, some 0, some 0, none, none, none, none, none, none, none, none, none, none, none, none, none, none, none, none, none, some 0, some 0, some 0, some 0, some 0, some 0, some 0, some 0, none, some 0, some 0, some 0, some 0, none, some 0, some 0, some 0, none, some 0, some 0, some 0, some 0, some 0, some 0, none, some 0, none, none, some 0]) (n0 := 0) C hX0 36 rfl (by decide) (by decide) rfl tyX8 tyX8_ok nc_8 inA_8 wd_565 wd_566 wd_296 rfl (by decide) (fun _ => rfl) rfl rfl (by decide) dL_law_8 ?_
    refine X_dup C dL_law_11 rfl ?_
    refine X_callI (S0 := SC_X7) (s0 := .inl (8, [some 0, some 0, none, none, some 0, some 0, some 0, some 0, some 0, some 0, some 0, none, none, none, none, none, none, none, none, none, none, none, none, none, none, none, none, none, some 0, some 0, some 0, some 0, some 0, some 0, some 0, some 0, none, some 0, some 0, some 0, some 0, none, some 0, some 0, some 0, none, some 0, some 0, some 0, some 0, some 0, some 0, none, some 0, none, none, some 0])) (As := []) (rest := [.ref 36]) (n0 := 0) C hX0 aw_ok (fun _ h => h) 36 lk_L_12 rfl rfl (by decide) (by decide) (by decide) rfl rfl (by decide) (fun _ _ _ _ => rfl) (fun _ => rfl) rfl rfl (fun _ => rfl) (by decide) rfl rfl (Nat.le_of_ble_eq_true rfl) dL_law_12 (k_X8_init oM e_X8_init) ?_
    refine X_S (S' := SH) rfl ?_
    refine X_g (σ' := sg0) rfl ?_
    refine X_astore_n (L' := [(0, .ref 1000), (1, .ref 0), (2, .ref 36)]) C [1, 2, 0] dL_law_15 rfl (by decide) rfl ?_
    refine X_iconst (v := (0:Int32)) C dL_law_16 (by decide) ?_
    refine X_istore_n (L' := [(0, .ref 1000), (1, .ref 0), (2, .ref 36), (3, .int (0:Int32))]) C [1, 2, 3, 0] dL_law_17 rfl (by decide) rfl ?_
    exact h_L_law_18 C LX LZ ho NF sg0 (0:Int32) hf
  subst hXd
  have hl := lv_entry ([.ref b]) (n := 4) (Nat.le_of_ble_eq_true rfl)
  rw [lg_entry_eq]
  exact K (fun _ => b) s.heap [] _ rfl (fun k q h => by simp [Wd] at h) ⟨fun i j p q h => by simp [Wd] at h, fun k q h => by simp [Wd] at h⟩ va_S.rf hl
