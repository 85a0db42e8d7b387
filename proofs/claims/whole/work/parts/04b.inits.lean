theorem hra_I : ∀ (U : State) (c1 c2 : ClassId), va_RA U c1 .int → va_RA U c2 .int → c1 = c2 := fun _ _ _ h1 h2 => Option.some.inj (Eq.trans (Eq.symm h1) h2)
theorem hra_Z : ∀ (U : State) (c1 c2 : ClassId), va_RA U c1 .boolean → va_RA U c2 .boolean → c1 = c2 := fun _ _ _ h1 h2 => Option.some.inj (Eq.trans (Eq.symm h1) h2)
abbrev ws_X6_init : List Cond := Cond.code yX6_init cX6_init 3 none :: AW
abbrev rm_X6_init (N : Nat) : Room := { frames := 1, cells := 1, slots := N, locals := 21 }
def g_X6_init_0 (v1 v2 : Int32) : Sg := sgu z0 0 3 (0:Int32)
def g_X6_init_1 (v1 v2 : Int32) : Sg := sgu (g_X6_init_0 v1 v2) 0 1 v1
def g_X6_init_2 (v1 v2 : Int32) : Sg := sgu (g_X6_init_1 v1 v2) 0 2 v2
set_option maxRecDepth 100000 in
theorem k_X6_init (v1 v2 : Int32) (N : Nat) (hm1 : (if (0:Int32) < v1 then v1 else 0) = v1) (hm2 : (if (0:Int32) < v2 then v2 else 0) = v2) (hl : vi (v1 * v2) 100000000 = true) (hN : (v1 * v2).toNatClampNeg = N) (hb : N * componentBytes .int ≤ 536870912) : CtrA NM yX6_init (ws_X6_init) (rm_X6_init N) 1 N [.inl (6, [some 0, none, none, none])] z0 [.ref 0, .int v1, .int v2] [.inl (6, [some 2, none, none, none]), .inr (0, N)] (g_X6_init_2 v1 v2) :=
  CtrA.of (by decide) rfl rfl (Nat.le_of_ble_eq_true rfl) (fun X C I hX Rr => by
    show XW NM X 3 0 0 [.inl (6, [some 0, none, none, none])] z0 0 [(0, .ref 0), (1, .int v1), (2, .int v2)] []
    refine X_aload_n C 0 dX6_init_0 rfl rfl ?_
    refine X_obj C (mc wd_546) (mc wd_537) (mc wd_538) ⟨Nat.le_of_ble_eq_true rfl, Nat.le_of_ble_eq_true rfl⟩ dX6_init_1 ?_
    refine X_aload_n C 0 dX6_init_4 rfl rfl ?_
    refine X_iconst (v := (0:Int32)) C dX6_init_5 (by decide) ?_
    refine X_puti0 C 3 rfl nc_6 inM_6 (by decide) tyX6 tyX6_ok nmX6 (mc wd_0) rfl (by decide +kernel) rfl dX6_init_6 ?_
    refine X_g (σ' := g_X6_init_0 v1 v2) rfl ?_
    refine X_aload_n C 0 dX6_init_9 rfl rfl ?_
    refine X_iconst (v := (0:Int32)) C dX6_init_10 (by decide) ?_
    refine X_iload_n C 1 dX6_init_11 rfl rfl ?_
    refine X_mmax C (mc wd_547) (mc wd_19) (mc wd_9) (mc wd_20) ⟨Nat.le_of_ble_eq_true rfl, Nat.le_of_ble_eq_true rfl, Nat.zero_le _, Nat.zero_le _⟩ dX6_init_12 ?_
    refine X_ei (y := v1) hm1 ?_
    refine X_putiF0 C 1 rfl nc_6 inM_6 (by decide) tyX6 tyX6_ok nmX6 (mc wd_1) rfl I rfl (by decide +kernel) rfl dX6_init_15 ?_
    refine X_g (σ' := g_X6_init_1 v1 v2) rfl ?_
    refine X_aload_n C 0 dX6_init_18 rfl rfl ?_
    refine X_iconst (v := (0:Int32)) C dX6_init_19 (by decide) ?_
    refine X_iload_n C 2 dX6_init_20 rfl rfl ?_
    refine X_mmax C (mc wd_547) (mc wd_19) (mc wd_9) (mc wd_20) ⟨Nat.le_of_ble_eq_true rfl, Nat.le_of_ble_eq_true rfl, Nat.zero_le _, Nat.zero_le _⟩ dX6_init_21 ?_
    refine X_ei (y := v2) hm2 ?_
    refine X_putiF0 C 2 rfl nc_6 inM_6 (by decide) tyX6 tyX6_ok nmX6 (mc wd_2) rfl I rfl (by decide +kernel) rfl dX6_init_24 ?_
    refine X_g (σ' := g_X6_init_2 v1 v2) rfl ?_
    refine X_aload_n C 0 dX6_init_27 rfl rfl ?_
    refine X_aload_n C 0 dX6_init_28 rfl rfl ?_
    refine X_geti C 1 rfl nc_6 inM_6 (by decide) (mc wd_1) rfl dX6_init_29 ?_
    refine X_ei (y := v1) rfl ?_
    refine X_aload_n C 0 dX6_init_32 rfl rfl ?_
    refine X_geti C 2 rfl nc_6 inM_6 (by decide) (mc wd_2) rfl dX6_init_33 ?_
    refine X_ei (y := v2) rfl ?_
    refine X_imul C dX6_init_36 ?_
    refine X_newa (ty := .int) (N := N) (n0 := 1) C hX 0 1 rfl (by decide) (by decide) rfl rfl (fun _ => rfl) hra_I rfl (mc wd_567) hl hN hb (fun _ => rfl) rfl rfl ⟨Nat.le_of_ble_eq_true rfl, by simp⟩ dX6_init_37 ?_
    refine X_S (S' := [.inl (6, [some 0, none, none, none]), .inr (0, N)]) rfl ?_
    refine X_putr (r := 1) (ty := .array .int) C 0 rfl nc_6 inM_6 (by decide) tyX6 tyX6_ok nmX6 (mc wd_3) rfl I rfl (by decide +kernel) (fun _ => ⟨rfl, rfl⟩) rfl dX6_init_39 ?_
    refine X_S (S' := [.inl (6, [some 2, none, none, none]), .inr (0, N)]) rfl ?_
    refine X_widen (ce' := 1) (sl' := N) (by simp) (by simp) ?_
    exact X_vret C dX6_init_42 rfl Rr)
abbrev ws_X0_init : List Cond := Cond.code yX0_init cX0_init 1 none :: AW
def SC_X0 : List Shp := [.inl (0, [some 2, none]), .inl (6, [some 3, none, none, none]), .inr (0, 2800)]
theorem sc_X0_0 : SC_X0[0]? = some (.inl (0, [some 2, none])) := rfl
theorem sc_X0_1 : SC_X0[1]? = some (.inl (6, [some 3, none, none, none])) := rfl
theorem sc_X0_2 : SC_X0[2]? = some (.inr (0, 2800)) := rfl
abbrev rm_X0_init : Room := { frames := 2, cells := 2, slots := 2804, locals := 43 }
def g_X0_init_0 : Sg := mrg2 1 2 z0 (g_X6_init_2 (400:Int32) (7:Int32))
def g_X0_init_1 : Sg := sgu g_X0_init_0 0 1 (0:Int32)
set_option maxRecDepth 100000 in
set_option maxHeartbeats 4000000 in
theorem k_X0_init : CtrA NM yX0_init (ws_X0_init) rm_X0_init 2 2804 [.inl (0, [some 0, none])] z0 [.ref 0] SC_X0 g_X0_init_1 :=
  CtrA.of (by decide) rfl rfl (Nat.le_of_ble_eq_true rfl) (fun X C I hX Rr => by
    show XW NM X 1 0 0 [.inl (0, [some 0, none])] z0 0 [(0, .ref 0)] []
    refine X_aload_n C 0 dX0_init_0 rfl rfl ?_
    refine X_obj C (mc wd_536) (mc wd_537) (mc wd_538) ⟨Nat.le_of_ble_eq_true rfl, Nat.le_of_ble_eq_true rfl⟩ dX0_init_1 ?_
    refine X_aload_n C 0 dX0_init_4 rfl rfl ?_
    refine X_new (fl := [some 0, none, none, none]) (n0 := 1) C hX 1 rfl (by decide) (by decide) rfl tyX6 tyX6_ok nc_6 inM_6 (mc wd_539) (mc wd_540) (mc wd_138) rfl (by decide) (fun _ => rfl) rfl rfl (by decide) dX0_init_5 ?_
    refine X_S (S' := [.inl (0, [some 0, none]), .inl (6, [some 0, none, none, none])]) rfl ?_
    refine X_dup C dX0_init_8 rfl ?_
    refine X_sipush (v := (400:Int32)) C dX0_init_9 (by decide) ?_
    refine X_bipush (v := (7:Int32)) C dX0_init_12 (by decide) ?_
    refine X_callI (S0 := [.inl (0, [some 0, none])]) (s0 := .inl (6, [some 0, none, none, none])) (As := [.int ((400:Int32)), .int ((7:Int32))]) (rest := [.ref 1, .ref 0]) (n0 := 1) C hX aw_ok mcs 1 lk_X0_11 rfl rfl (by decide) (by decide) (by decide) rfl rfl (by decide) (fun _ _ _ _ => rfl) (fun _ => rfl) rfl rfl (fun _ => rfl) (by decide) rfl rfl (Nat.le_of_ble_eq_true rfl) dX0_init_14 (k_X6_init (400:Int32) (7:Int32) 2800 (by decide) (by decide) (by decide) (by decide) (by decide)) ?_
    refine X_S (S' := [.inl (0, [some 0, none]), .inl (6, [some 3, none, none, none]), .inr (0, 2800)]) rfl ?_
    refine X_g (σ' := g_X0_init_0) rfl ?_
    refine X_putr (r := 1) (ty := .object "IronCampaign$Table") C 0 rfl nc_0 inM_0 (by decide) tyX0 tyX0_ok nmX0 (mc wd_5) rfl I rfl (by decide +kernel) (fun _ => ⟨rfl, rfl⟩) rfl dX0_init_17 ?_
    refine X_S (S' := [.inl (0, [some 2, none]), .inl (6, [some 3, none, none, none]), .inr (0, 2800)]) rfl ?_
    refine X_aload_n C 0 dX0_init_20 rfl rfl ?_
    refine X_iconst (v := (0:Int32)) C dX0_init_21 (by decide) ?_
    refine X_puti0 C 1 rfl nc_0 inM_0 (by decide) tyX0 tyX0_ok nmX0 (mc wd_6) rfl (by decide +kernel) rfl dX0_init_22 ?_
    refine X_g (σ' := g_X0_init_1) rfl ?_
    exact X_vret C dX0_init_25 rfl Rr)
abbrev ws_X2_init : List Cond := Cond.code yX2_init cX2_init 1 none :: AW
def SC_X2 : List Shp := [.inl (2, [none, none, none, none, none, none, none])]
theorem sc_X2_0 : SC_X2[0]? = some (.inl (2, [none, none, none, none, none, none, none])) := rfl
abbrev rm_X2_init : Room := { frames := 1, cells := 0, slots := 0, locals := 12 }
def g_X2_init_0 : Sg := sgu z0 0 0 (0:Int32)
def g_X2_init_1 : Sg := sgu g_X2_init_0 0 1 (100:Int32)
def g_X2_init_2 : Sg := sgu g_X2_init_1 0 2 (0:Int32)
def g_X2_init_3 : Sg := sgu g_X2_init_2 0 3 (0:Int32)
def g_X2_init_4 : Sg := sgu g_X2_init_3 0 4 (-1:Int32)
def g_X2_init_5 : Sg := sgu g_X2_init_4 0 5 (-1:Int32)
def g_X2_init_6 : Sg := sgu g_X2_init_5 0 6 (-1:Int32)
set_option maxRecDepth 100000 in
set_option maxHeartbeats 4000000 in
theorem k_X2_init : CtrA NM yX2_init (ws_X2_init) rm_X2_init 0 0 [.inl (2, [none, none, none, none, none, none, none])] z0 [.ref 0] SC_X2 g_X2_init_6 :=
  CtrA.of (by decide) rfl rfl (Nat.le_of_ble_eq_true rfl) (fun X C I hX Rr => by
    show XW NM X 1 0 0 [.inl (2, [none, none, none, none, none, none, none])] z0 0 [(0, .ref 0)] []
    refine X_aload_n C 0 dX2_init_0 rfl rfl ?_
    refine X_obj C (mc wd_542) (mc wd_537) (mc wd_538) ⟨Nat.le_of_ble_eq_true rfl, Nat.le_of_ble_eq_true rfl⟩ dX2_init_1 ?_
    refine X_aload_n C 0 dX2_init_4 rfl rfl ?_
    refine X_iconst (v := (0:Int32)) C dX2_init_5 (by decide) ?_
    refine X_puti0 C 0 rfl nc_2 inM_2 (by decide) tyX2 tyX2_ok nmX2 (mc wd_11) rfl (by decide +kernel) rfl dX2_init_6 ?_
    refine X_g (σ' := g_X2_init_0) rfl ?_
    refine X_aload_n C 0 dX2_init_9 rfl rfl ?_
    refine X_bipush (v := (100:Int32)) C dX2_init_10 (by decide) ?_
    refine X_puti0 C 1 rfl nc_2 inM_2 (by decide) tyX2 tyX2_ok nmX2 (mc wd_17) rfl (by decide +kernel) rfl dX2_init_12 ?_
    refine X_g (σ' := g_X2_init_1) rfl ?_
    refine X_aload_n C 0 dX2_init_15 rfl rfl ?_
    refine X_iconst (v := (0:Int32)) C dX2_init_16 (by decide) ?_
    refine X_puti0 C 2 rfl nc_2 inM_2 (by decide) tyX2 tyX2_ok nmX2 (mc wd_12) rfl (by decide +kernel) rfl dX2_init_17 ?_
    refine X_g (σ' := g_X2_init_2) rfl ?_
    refine X_aload_n C 0 dX2_init_20 rfl rfl ?_
    refine X_iconst (v := (0:Int32)) C dX2_init_21 (by decide) ?_
    refine X_puti0 C 3 rfl nc_2 inM_2 (by decide) tyX2 tyX2_ok nmX2 (mc wd_21) rfl (by decide +kernel) rfl dX2_init_22 ?_
    refine X_g (σ' := g_X2_init_3) rfl ?_
    refine X_aload_n C 0 dX2_init_25 rfl rfl ?_
    refine X_iconst (v := (-1:Int32)) C dX2_init_26 (by decide) ?_
    refine X_puti0 C 4 rfl nc_2 inM_2 (by decide) tyX2 tyX2_ok nmX2 (mc wd_13) rfl (by decide +kernel) rfl dX2_init_27 ?_
    refine X_g (σ' := g_X2_init_4) rfl ?_
    refine X_aload_n C 0 dX2_init_30 rfl rfl ?_
    refine X_iconst (v := (-1:Int32)) C dX2_init_31 (by decide) ?_
    refine X_puti0 C 5 rfl nc_2 inM_2 (by decide) tyX2 tyX2_ok nmX2 (mc wd_16) rfl (by decide +kernel) rfl dX2_init_32 ?_
    refine X_g (σ' := g_X2_init_5) rfl ?_
    refine X_aload_n C 0 dX2_init_35 rfl rfl ?_
    refine X_iconst (v := (-1:Int32)) C dX2_init_36 (by decide) ?_
    refine X_puti0 C 6 rfl nc_2 inM_2 (by decide) tyX2 tyX2_ok nmX2 (mc wd_14) rfl (by decide +kernel) rfl dX2_init_37 ?_
    refine X_g (σ' := g_X2_init_6) rfl ?_
    exact X_vret C dX2_init_40 rfl Rr)
abbrev ws_X1_init : List Cond := Cond.code yX1_init cX1_init 1 none :: AW
def SC_X1 : List Shp := [.inl (1, [none, none, none, none, none, none, none, none, none, none])]
theorem sc_X1_0 : SC_X1[0]? = some (.inl (1, [none, none, none, none, none, none, none, none, none, none])) := rfl
abbrev rm_X1_init : Room := { frames := 1, cells := 0, slots := 0, locals := 12 }
def g_X1_init_0 : Sg := sgu z0 0 0 (0:Int32)
def g_X1_init_1 : Sg := sgu g_X1_init_0 0 1 (0:Int32)
def g_X1_init_2 : Sg := sgu g_X1_init_1 0 2 (0:Int32)
def g_X1_init_3 : Sg := sgu g_X1_init_2 0 3 (0:Int32)
def g_X1_init_4 : Sg := sgu g_X1_init_3 0 4 (0:Int32)
def g_X1_init_5 : Sg := sgu g_X1_init_4 0 5 (1000:Int32)
def g_X1_init_6 : Sg := sgu g_X1_init_5 0 6 (0:Int32)
def g_X1_init_7 : Sg := sgu g_X1_init_6 0 7 (0:Int32)
def g_X1_init_8 : Sg := sgu g_X1_init_7 0 8 (0:Int32)
def g_X1_init_9 : Sg := sgu g_X1_init_8 0 9 (0:Int32)
set_option maxRecDepth 100000 in
set_option maxHeartbeats 4000000 in
theorem k_X1_init : CtrA NM yX1_init (ws_X1_init) rm_X1_init 0 0 [.inl (1, [none, none, none, none, none, none, none, none, none, none])] z0 [.ref 0] SC_X1 g_X1_init_9 :=
  CtrA.of (by decide) rfl rfl (Nat.le_of_ble_eq_true rfl) (fun X C I hX Rr => by
    show XW NM X 1 0 0 [.inl (1, [none, none, none, none, none, none, none, none, none, none])] z0 0 [(0, .ref 0)] []
    refine X_aload_n C 0 dX1_init_0 rfl rfl ?_
    refine X_obj C (mc wd_541) (mc wd_537) (mc wd_538) ⟨Nat.le_of_ble_eq_true rfl, Nat.le_of_ble_eq_true rfl⟩ dX1_init_1 ?_
    refine X_aload_n C 0 dX1_init_4 rfl rfl ?_
    refine X_iconst (v := (0:Int32)) C dX1_init_5 (by decide) ?_
    refine X_puti0 C 0 rfl nc_1 inM_1 (by decide) tyX1 tyX1_ok nmX1 (mc wd_25) rfl (by decide +kernel) rfl dX1_init_6 ?_
    refine X_g (σ' := g_X1_init_0) rfl ?_
    refine X_aload_n C 0 dX1_init_9 rfl rfl ?_
    refine X_iconst (v := (0:Int32)) C dX1_init_10 (by decide) ?_
    refine X_puti0 C 1 rfl nc_1 inM_1 (by decide) tyX1 tyX1_ok nmX1 (mc wd_22) rfl (by decide +kernel) rfl dX1_init_11 ?_
    refine X_g (σ' := g_X1_init_1) rfl ?_
    refine X_aload_n C 0 dX1_init_14 rfl rfl ?_
    refine X_iconst (v := (0:Int32)) C dX1_init_15 (by decide) ?_
    refine X_puti0 C 2 rfl nc_1 inM_1 (by decide) tyX1 tyX1_ok nmX1 (mc wd_29) rfl (by decide +kernel) rfl dX1_init_16 ?_
    refine X_g (σ' := g_X1_init_2) rfl ?_
    refine X_aload_n C 0 dX1_init_19 rfl rfl ?_
    refine X_iconst (v := (0:Int32)) C dX1_init_20 (by decide) ?_
    refine X_puti0 C 3 rfl nc_1 inM_1 (by decide) tyX1 tyX1_ok nmX1 (mc wd_24) rfl (by decide +kernel) rfl dX1_init_21 ?_
    refine X_g (σ' := g_X1_init_3) rfl ?_
    refine X_aload_n C 0 dX1_init_24 rfl rfl ?_
    refine X_iconst (v := (0:Int32)) C dX1_init_25 (by decide) ?_
    refine X_puti0 C 4 rfl nc_1 inM_1 (by decide) tyX1 tyX1_ok nmX1 (mc wd_30) rfl (by decide +kernel) rfl dX1_init_26 ?_
    refine X_g (σ' := g_X1_init_4) rfl ?_
    refine X_aload_n C 0 dX1_init_29 rfl rfl ?_
    refine X_sipush (v := (1000:Int32)) C dX1_init_30 (by decide) ?_
    refine X_puti0 C 5 rfl nc_1 inM_1 (by decide) tyX1 tyX1_ok nmX1 (mc wd_32) rfl (by decide +kernel) rfl dX1_init_33 ?_
    refine X_g (σ' := g_X1_init_5) rfl ?_
    refine X_aload_n C 0 dX1_init_36 rfl rfl ?_
    refine X_iconst (v := (0:Int32)) C dX1_init_37 (by decide) ?_
    refine X_puti0 C 6 rfl nc_1 inM_1 (by decide) tyX1 tyX1_ok nmX1 (mc wd_31) rfl (by decide +kernel) rfl dX1_init_38 ?_
    refine X_g (σ' := g_X1_init_6) rfl ?_
    refine X_aload_n C 0 dX1_init_41 rfl rfl ?_
    refine X_iconst (v := (0:Int32)) C dX1_init_42 (by decide) ?_
    refine X_puti0 C 7 rfl nc_1 inM_1 (by decide) tyX1 tyX1_ok nmX1 (mc wd_26) rfl (by decide +kernel) rfl dX1_init_43 ?_
    refine X_g (σ' := g_X1_init_7) rfl ?_
    refine X_aload_n C 0 dX1_init_46 rfl rfl ?_
    refine X_iconst (v := (0:Int32)) C dX1_init_47 (by decide) ?_
    refine X_puti0 C 8 rfl nc_1 inM_1 (by decide) tyX1 tyX1_ok nmX1 (mc wd_23) rfl (by decide +kernel) rfl dX1_init_48 ?_
    refine X_g (σ' := g_X1_init_8) rfl ?_
    refine X_aload_n C 0 dX1_init_51 rfl rfl ?_
    refine X_iconst (v := (0:Int32)) C dX1_init_52 (by decide) ?_
    refine X_putz0 C 9 rfl nc_1 inM_1 (by decide) tyX1 tyX1_ok nmX1 (mc wd_33) rfl (by decide +kernel) rfl (by decide) dX1_init_53 ?_
    refine X_g (σ' := g_X1_init_9) rfl ?_
    exact X_vret C dX1_init_56 rfl Rr)
abbrev ws_X5_init : List Cond := Cond.code yX5_init cX5_init 2 none :: AW
def SC_X5 : List Shp := [.inl (5, [some 2, some 3]), .inr (0, 3), .inr (0, 3)]
theorem sc_X5_0 : SC_X5[0]? = some (.inl (5, [some 2, some 3])) := rfl
theorem sc_X5_1 : SC_X5[1]? = some (.inr (0, 3)) := rfl
theorem sc_X5_2 : SC_X5[2]? = some (.inr (0, 3)) := rfl
abbrev rm_X5_init : Room := { frames := 1, cells := 2, slots := 6, locals := 12 }
def c_X5_init_20 (N : Nat) (K20 : Sg → Int32 → Option (Sg)) (s : Sg) (v1 : Int32) : Option (Sg) :=
if ((3:Int32)) ≤ v1 then
 some s
 else
 gd (vi v1 3) (lt_ (sgu s 1 v1.toNatClampNeg ((-1:Int32))) (fun s1 => K20 s1 (v1 + (1:Int32))))
set_option maxHeartbeats 4000000 in
set_option maxRecDepth 100000 in
theorem w_X5_init_20 {X : Ctx} {N : Nat} {o : Sg} (C : Cx NM X cX5_init 2 RX5 (ws_X5_init) none rm_X5_init) (Rr : Rx NM X 2 6 none SC_X5 o) {K20 : Sg → Int32 → Option (Sg)} (hK20 : ∀ (s : Sg) (v1 : Int32), K20 s v1 = some o → XW NM X 2 2 6 SC_X5 s 20 [(0, .ref 0), (1, .int v1)] []) (s : Sg) (v1 : Int32) (hf : c_X5_init_20 N K20 s v1 = some o) : XW NM X 2 2 6 SC_X5 s 20 [(0, .ref 0), (1, .int v1)] [] := by
  unfold c_X5_init_20 at hf
  refine X_iload_n C 1 dX5_init_20 rfl rfl ?_
  refine X_iconst (v := (3:Int32)) C dX5_init_21 (by decide) ?_
  refine X_icmp_ge (tgt := 38) C dX5_init_22 (by decide) hf (fun hf => ?_) (fun hf => ?_)
  · exact X_vret C dX5_init_38 hf Rr
  · refine X_aload_n C 0 dX5_init_25 rfl rfl ?_
    refine X_getr C 0 sc_X5_0 nc_5 inM_5 (by decide) (mc wd_34) rfl dX5_init_26 ?_
    refine X_iload_n C 1 dX5_init_29 rfl rfl ?_
    refine X_iconst (v := (-1:Int32)) C dX5_init_30 (by decide) ?_
    refine X_iast C sc_X5_1 dX5_init_31 hf (fun s1 hf => ?_)
    refine X_iinc (v := (1:Int32)) (L' := [(0, .ref 0), (1, .int (v1 + (1:Int32)))]) C 1 [1, 0] dX5_init_32 rfl (by decide) (by decide) rfl ?_
    refine X_goto (tgt := 20) C dX5_init_35 (by decide) ?_
    exact hK20 _ _ hf
def b_X5_init_20 (N : Nat) : Nat → Sg → Int32 → Option (Sg)
  | 0, _, _ => none
  | j + 1, s, v1 => c_X5_init_20 N (b_X5_init_20 N j) s v1
theorem h_X5_init_20 {X : Ctx} {N : Nat} {o : Sg} (C : Cx NM X cX5_init 2 RX5 (ws_X5_init) none rm_X5_init) (Rr : Rx NM X 2 6 none SC_X5 o) : ∀ (j : Nat) (s : Sg) (v1 : Int32), b_X5_init_20 N j s v1 = some o → XW NM X 2 2 6 SC_X5 s 20 [(0, .ref 0), (1, .int v1)] [] := by
  intro j
  induction j with
  | zero => intro s v1 hf; cases (show none = some o from hf)
  | succ j ih => intro s v1 hf; exact w_X5_init_20 C Rr ih s v1 hf
def f_X5_init (N : Nat) : Option Sg := b_X5_init_20 N N z0 ((0:Int32))
set_option maxRecDepth 100000 in
set_option maxHeartbeats 4000000 in
theorem k_X5_init {N : Nat} (o : Sg) (hf : f_X5_init N = some o) : CtrA NM yX5_init (ws_X5_init) rm_X5_init 2 6 [.inl (5, [some 0, some 0])] z0 [.ref 0] SC_X5 o :=
  CtrA.of (by decide) rfl rfl (Nat.le_of_ble_eq_true rfl) (fun X C I hX Rr => by
    show XW NM X 2 0 0 [.inl (5, [some 0, some 0])] z0 0 [(0, .ref 0)] []
    refine X_aload_n C 0 dX5_init_0 rfl rfl ?_
    refine X_obj C (mc wd_545) (mc wd_537) (mc wd_538) ⟨Nat.le_of_ble_eq_true rfl, Nat.le_of_ble_eq_true rfl⟩ dX5_init_1 ?_
    refine X_aload_n C 0 dX5_init_4 rfl rfl ?_
    refine X_iconst (v := (3:Int32)) C dX5_init_5 (by decide) ?_
    refine X_newa (ty := .int) (N := 3) (n0 := 1) C hX 0 1 rfl (by decide) (by decide) rfl rfl (fun _ => rfl) hra_I rfl (mc wd_567) (by decide) (by decide) (by decide) (fun _ => rfl) rfl rfl (by decide) dX5_init_6 ?_
    refine X_S (S' := [.inl (5, [some 0, some 0]), .inr (0, 3)]) rfl ?_
    refine X_putr (r := 1) (ty := .array .int) C 0 rfl nc_5 inM_5 (by decide) tyX5 tyX5_ok nmX5 (mc wd_34) rfl I rfl (by decide +kernel) (fun _ => ⟨rfl, rfl⟩) rfl dX5_init_8 ?_
    refine X_S (S' := [.inl (5, [some 2, some 0]), .inr (0, 3)]) rfl ?_
    refine X_aload_n C 0 dX5_init_11 rfl rfl ?_
    refine X_iconst (v := (3:Int32)) C dX5_init_12 (by decide) ?_
    refine X_newa (ty := .int) (N := 3) (n0 := 1) C hX 0 2 rfl (by decide) (by decide) rfl rfl (fun _ => rfl) hra_I rfl (mc wd_567) (by decide) (by decide) (by decide) (fun _ => rfl) rfl rfl (by decide) dX5_init_13 ?_
    refine X_S (S' := [.inl (5, [some 2, some 0]), .inr (0, 3), .inr (0, 3)]) rfl ?_
    refine X_putr (r := 2) (ty := .array .int) C 1 rfl nc_5 inM_5 (by decide) tyX5 tyX5_ok nmX5 (mc wd_35) rfl I rfl (by decide +kernel) (fun _ => ⟨rfl, rfl⟩) rfl dX5_init_15 ?_
    refine X_S (S' := [.inl (5, [some 2, some 3]), .inr (0, 3), .inr (0, 3)]) rfl ?_
    refine X_iconst (v := (0:Int32)) C dX5_init_18 (by decide) ?_
    refine X_istore_n (L' := [(0, .ref 0), (1, .int ((0:Int32)))]) C [1, 0] dX5_init_19 rfl (by decide) rfl ?_
    exact h_X5_init_20 C Rr _ _ _ hf)
def o_X5_init : Sg := (f_X5_init 10).getD z0
theorem e_X5_init : f_X5_init 10 = some o_X5_init := by
  have h : (f_X5_init 10).isSome = true := by decide +kernel
  obtain ⟨x, hx⟩ := Option.isSome_iff_exists.mp h
  rw [o_X5_init, hx]
  rfl
abbrev ws_X4_init : List Cond := Cond.code yX4_init cX4_init 1 none :: AW
def SC_X4 : List Shp := [.inl (4, [some 2, some 3, some 4, some 5, some 6, some 7, some 8, none, none]), .inr (0, 8), .inr (0, 8), .inr (0, 8), .inr (0, 8), .inr (0, 8), .inr (0, 9), .inr (0, 3)]
theorem sc_X4_0 : SC_X4[0]? = some (.inl (4, [some 2, some 3, some 4, some 5, some 6, some 7, some 8, none, none])) := rfl
theorem sc_X4_1 : SC_X4[1]? = some (.inr (0, 8)) := rfl
theorem sc_X4_2 : SC_X4[2]? = some (.inr (0, 8)) := rfl
theorem sc_X4_3 : SC_X4[3]? = some (.inr (0, 8)) := rfl
theorem sc_X4_4 : SC_X4[4]? = some (.inr (0, 8)) := rfl
theorem sc_X4_5 : SC_X4[5]? = some (.inr (0, 8)) := rfl
theorem sc_X4_6 : SC_X4[6]? = some (.inr (0, 9)) := rfl
theorem sc_X4_7 : SC_X4[7]? = some (.inr (0, 3)) := rfl
abbrev rm_X4_init : Room := { frames := 1, cells := 7, slots := 52, locals := 12 }
def g_X4_init_0 : Sg := sgu z0 0 7 (0:Int32)
def g_X4_init_1 : Sg := sgu g_X4_init_0 0 8 (0:Int32)
set_option maxRecDepth 100000 in
set_option maxHeartbeats 4000000 in
theorem k_X4_init : CtrA NM yX4_init (ws_X4_init) rm_X4_init 7 52 [.inl (4, [some 0, some 0, some 0, some 0, some 0, some 0, some 0, none, none])] z0 [.ref 0] SC_X4 g_X4_init_1 :=
  CtrA.of (by decide) rfl rfl (Nat.le_of_ble_eq_true rfl) (fun X C I hX Rr => by
    show XW NM X 1 0 0 [.inl (4, [some 0, some 0, some 0, some 0, some 0, some 0, some 0, none, none])] z0 0 [(0, .ref 0)] []
    refine X_aload_n C 0 dX4_init_0 rfl rfl ?_
    refine X_obj C (mc wd_544) (mc wd_537) (mc wd_538) ⟨Nat.le_of_ble_eq_true rfl, Nat.le_of_ble_eq_true rfl⟩ dX4_init_1 ?_
    refine X_aload_n C 0 dX4_init_4 rfl rfl ?_
    refine X_bipush (v := (8:Int32)) C dX4_init_5 (by decide) ?_
    refine X_newa (ty := .int) (N := 8) (n0 := 1) C hX 0 1 rfl (by decide) (by decide) rfl rfl (fun _ => rfl) hra_I rfl (mc wd_567) (by decide) (by decide) (by decide) (fun _ => rfl) rfl rfl (by decide) dX4_init_7 ?_
    refine X_S (S' := [.inl (4, [some 0, some 0, some 0, some 0, some 0, some 0, some 0, none, none]), .inr (0, 8)]) rfl ?_
    refine X_putr (r := 1) (ty := .array .int) C 0 rfl nc_4 inM_4 (by decide) tyX4 tyX4_ok nmX4 (mc wd_37) rfl I rfl (by decide +kernel) (fun _ => ⟨rfl, rfl⟩) rfl dX4_init_9 ?_
    refine X_S (S' := [.inl (4, [some 2, some 0, some 0, some 0, some 0, some 0, some 0, none, none]), .inr (0, 8)]) rfl ?_
    refine X_aload_n C 0 dX4_init_12 rfl rfl ?_
    refine X_bipush (v := (8:Int32)) C dX4_init_13 (by decide) ?_
    refine X_newa (ty := .int) (N := 8) (n0 := 1) C hX 0 2 rfl (by decide) (by decide) rfl rfl (fun _ => rfl) hra_I rfl (mc wd_567) (by decide) (by decide) (by decide) (fun _ => rfl) rfl rfl (by decide) dX4_init_15 ?_
    refine X_S (S' := [.inl (4, [some 2, some 0, some 0, some 0, some 0, some 0, some 0, none, none]), .inr (0, 8), .inr (0, 8)]) rfl ?_
    refine X_putr (r := 2) (ty := .array .int) C 1 rfl nc_4 inM_4 (by decide) tyX4 tyX4_ok nmX4 (mc wd_38) rfl I rfl (by decide +kernel) (fun _ => ⟨rfl, rfl⟩) rfl dX4_init_17 ?_
    refine X_S (S' := [.inl (4, [some 2, some 3, some 0, some 0, some 0, some 0, some 0, none, none]), .inr (0, 8), .inr (0, 8)]) rfl ?_
    refine X_aload_n C 0 dX4_init_20 rfl rfl ?_
    refine X_bipush (v := (8:Int32)) C dX4_init_21 (by decide) ?_
    refine X_newa (ty := .int) (N := 8) (n0 := 1) C hX 0 3 rfl (by decide) (by decide) rfl rfl (fun _ => rfl) hra_I rfl (mc wd_567) (by decide) (by decide) (by decide) (fun _ => rfl) rfl rfl (by decide) dX4_init_23 ?_
    refine X_S (S' := [.inl (4, [some 2, some 3, some 0, some 0, some 0, some 0, some 0, none, none]), .inr (0, 8), .inr (0, 8), .inr (0, 8)]) rfl ?_
    refine X_putr (r := 3) (ty := .array .int) C 2 rfl nc_4 inM_4 (by decide) tyX4 tyX4_ok nmX4 (mc wd_39) rfl I rfl (by decide +kernel) (fun _ => ⟨rfl, rfl⟩) rfl dX4_init_25 ?_
    refine X_S (S' := [.inl (4, [some 2, some 3, some 4, some 0, some 0, some 0, some 0, none, none]), .inr (0, 8), .inr (0, 8), .inr (0, 8)]) rfl ?_
    refine X_aload_n C 0 dX4_init_28 rfl rfl ?_
    refine X_bipush (v := (8:Int32)) C dX4_init_29 (by decide) ?_
    refine X_newa (ty := .int) (N := 8) (n0 := 1) C hX 0 4 rfl (by decide) (by decide) rfl rfl (fun _ => rfl) hra_I rfl (mc wd_567) (by decide) (by decide) (by decide) (fun _ => rfl) rfl rfl (by decide) dX4_init_31 ?_
    refine X_S (S' := [.inl (4, [some 2, some 3, some 4, some 0, some 0, some 0, some 0, none, none]), .inr (0, 8), .inr (0, 8), .inr (0, 8), .inr (0, 8)]) rfl ?_
    refine X_putr (r := 4) (ty := .array .int) C 3 rfl nc_4 inM_4 (by decide) tyX4 tyX4_ok nmX4 (mc wd_44) rfl I rfl (by decide +kernel) (fun _ => ⟨rfl, rfl⟩) rfl dX4_init_33 ?_
    refine X_S (S' := [.inl (4, [some 2, some 3, some 4, some 5, some 0, some 0, some 0, none, none]), .inr (0, 8), .inr (0, 8), .inr (0, 8), .inr (0, 8)]) rfl ?_
    refine X_aload_n C 0 dX4_init_36 rfl rfl ?_
    refine X_bipush (v := (8:Int32)) C dX4_init_37 (by decide) ?_
    refine X_newa (ty := .int) (N := 8) (n0 := 1) C hX 0 5 rfl (by decide) (by decide) rfl rfl (fun _ => rfl) hra_I rfl (mc wd_567) (by decide) (by decide) (by decide) (fun _ => rfl) rfl rfl (by decide) dX4_init_39 ?_
    refine X_S (S' := [.inl (4, [some 2, some 3, some 4, some 5, some 0, some 0, some 0, none, none]), .inr (0, 8), .inr (0, 8), .inr (0, 8), .inr (0, 8), .inr (0, 8)]) rfl ?_
    refine X_putr (r := 5) (ty := .array .int) C 4 rfl nc_4 inM_4 (by decide) tyX4 tyX4_ok nmX4 (mc wd_45) rfl I rfl (by decide +kernel) (fun _ => ⟨rfl, rfl⟩) rfl dX4_init_41 ?_
    refine X_S (S' := [.inl (4, [some 2, some 3, some 4, some 5, some 6, some 0, some 0, none, none]), .inr (0, 8), .inr (0, 8), .inr (0, 8), .inr (0, 8), .inr (0, 8)]) rfl ?_
    refine X_aload_n C 0 dX4_init_44 rfl rfl ?_
    refine X_bipush (v := (9:Int32)) C dX4_init_45 (by decide) ?_
    refine X_newa (ty := .int) (N := 9) (n0 := 1) C hX 0 6 rfl (by decide) (by decide) rfl rfl (fun _ => rfl) hra_I rfl (mc wd_567) (by decide) (by decide) (by decide) (fun _ => rfl) rfl rfl (by decide) dX4_init_47 ?_
    refine X_S (S' := [.inl (4, [some 2, some 3, some 4, some 5, some 6, some 0, some 0, none, none]), .inr (0, 8), .inr (0, 8), .inr (0, 8), .inr (0, 8), .inr (0, 8), .inr (0, 9)]) rfl ?_
    refine X_putr (r := 6) (ty := .array .int) C 5 rfl nc_4 inM_4 (by decide) tyX4 tyX4_ok nmX4 (mc wd_41) rfl I rfl (by decide +kernel) (fun _ => ⟨rfl, rfl⟩) rfl dX4_init_49 ?_
    refine X_S (S' := [.inl (4, [some 2, some 3, some 4, some 5, some 6, some 7, some 0, none, none]), .inr (0, 8), .inr (0, 8), .inr (0, 8), .inr (0, 8), .inr (0, 8), .inr (0, 9)]) rfl ?_
    refine X_aload_n C 0 dX4_init_52 rfl rfl ?_
    refine X_iconst (v := (3:Int32)) C dX4_init_53 (by decide) ?_
    refine X_newa (ty := .int) (N := 3) (n0 := 1) C hX 0 7 rfl (by decide) (by decide) rfl rfl (fun _ => rfl) hra_I rfl (mc wd_567) (by decide) (by decide) (by decide) (fun _ => rfl) rfl rfl (by decide) dX4_init_54 ?_
    refine X_S (S' := [.inl (4, [some 2, some 3, some 4, some 5, some 6, some 7, some 0, none, none]), .inr (0, 8), .inr (0, 8), .inr (0, 8), .inr (0, 8), .inr (0, 8), .inr (0, 9), .inr (0, 3)]) rfl ?_
    refine X_putr (r := 7) (ty := .array .int) C 6 rfl nc_4 inM_4 (by decide) tyX4 tyX4_ok nmX4 (mc wd_40) rfl I rfl (by decide +kernel) (fun _ => ⟨rfl, rfl⟩) rfl dX4_init_56 ?_
    refine X_S (S' := [.inl (4, [some 2, some 3, some 4, some 5, some 6, some 7, some 8, none, none]), .inr (0, 8), .inr (0, 8), .inr (0, 8), .inr (0, 8), .inr (0, 8), .inr (0, 9), .inr (0, 3)]) rfl ?_
    refine X_aload_n C 0 dX4_init_59 rfl rfl ?_
    refine X_iconst (v := (0:Int32)) C dX4_init_60 (by decide) ?_
    refine X_puti0 C 7 rfl nc_4 inM_4 (by decide) tyX4 tyX4_ok nmX4 (mc wd_36) rfl (by decide +kernel) rfl dX4_init_61 ?_
    refine X_g (σ' := g_X4_init_0) rfl ?_
    refine X_aload_n C 0 dX4_init_64 rfl rfl ?_
    refine X_iconst (v := (0:Int32)) C dX4_init_65 (by decide) ?_
    refine X_puti0 C 8 rfl nc_4 inM_4 (by decide) tyX4 tyX4_ok nmX4 (mc wd_43) rfl (by decide +kernel) rfl dX4_init_66 ?_
    refine X_g (σ' := g_X4_init_1) rfl ?_
    exact X_vret C dX4_init_69 rfl Rr)
abbrev ws_X3_init : List Cond := Cond.code yX3_init cX3_init 1 none :: AW
def SC_X3 : List Shp := [.inl (3, [some 2, some 3, some 4, some 5, some 6, some 7, none, none, none]), .inr (0, 6), .inr (0, 6), .inr (0, 7), .inr (0, 6), .inr (0, 6), .inr (0, 6)]
theorem sc_X3_0 : SC_X3[0]? = some (.inl (3, [some 2, some 3, some 4, some 5, some 6, some 7, none, none, none])) := rfl
theorem sc_X3_1 : SC_X3[1]? = some (.inr (0, 6)) := rfl
theorem sc_X3_2 : SC_X3[2]? = some (.inr (0, 6)) := rfl
theorem sc_X3_3 : SC_X3[3]? = some (.inr (0, 7)) := rfl
theorem sc_X3_4 : SC_X3[4]? = some (.inr (0, 6)) := rfl
theorem sc_X3_5 : SC_X3[5]? = some (.inr (0, 6)) := rfl
theorem sc_X3_6 : SC_X3[6]? = some (.inr (0, 6)) := rfl
abbrev rm_X3_init : Room := { frames := 1, cells := 6, slots := 37, locals := 12 }
def g_X3_init_0 : Sg := sgu z0 0 6 (0:Int32)
def g_X3_init_1 : Sg := sgu g_X3_init_0 0 7 (-1:Int32)
def g_X3_init_2 : Sg := sgu g_X3_init_1 0 8 (0:Int32)
set_option maxRecDepth 100000 in
set_option maxHeartbeats 4000000 in
theorem k_X3_init : CtrA NM yX3_init (ws_X3_init) rm_X3_init 6 37 [.inl (3, [some 0, some 0, some 0, some 0, some 0, some 0, none, none, none])] z0 [.ref 0] SC_X3 g_X3_init_2 :=
  CtrA.of (by decide) rfl rfl (Nat.le_of_ble_eq_true rfl) (fun X C I hX Rr => by
    show XW NM X 1 0 0 [.inl (3, [some 0, some 0, some 0, some 0, some 0, some 0, none, none, none])] z0 0 [(0, .ref 0)] []
    refine X_aload_n C 0 dX3_init_0 rfl rfl ?_
    refine X_obj C (mc wd_543) (mc wd_537) (mc wd_538) ⟨Nat.le_of_ble_eq_true rfl, Nat.le_of_ble_eq_true rfl⟩ dX3_init_1 ?_
    refine X_aload_n C 0 dX3_init_4 rfl rfl ?_
    refine X_bipush (v := (6:Int32)) C dX3_init_5 (by decide) ?_
    refine X_newa (ty := .int) (N := 6) (n0 := 1) C hX 0 1 rfl (by decide) (by decide) rfl rfl (fun _ => rfl) hra_I rfl (mc wd_567) (by decide) (by decide) (by decide) (fun _ => rfl) rfl rfl (by decide) dX3_init_7 ?_
    refine X_S (S' := [.inl (3, [some 0, some 0, some 0, some 0, some 0, some 0, none, none, none]), .inr (0, 6)]) rfl ?_
    refine X_putr (r := 1) (ty := .array .int) C 0 rfl nc_3 inM_3 (by decide) tyX3 tyX3_ok nmX3 (mc wd_50) rfl I rfl (by decide +kernel) (fun _ => ⟨rfl, rfl⟩) rfl dX3_init_9 ?_
    refine X_S (S' := [.inl (3, [some 2, some 0, some 0, some 0, some 0, some 0, none, none, none]), .inr (0, 6)]) rfl ?_
    refine X_aload_n C 0 dX3_init_12 rfl rfl ?_
    refine X_bipush (v := (6:Int32)) C dX3_init_13 (by decide) ?_
    refine X_newa (ty := .int) (N := 6) (n0 := 1) C hX 0 2 rfl (by decide) (by decide) rfl rfl (fun _ => rfl) hra_I rfl (mc wd_567) (by decide) (by decide) (by decide) (fun _ => rfl) rfl rfl (by decide) dX3_init_15 ?_
    refine X_S (S' := [.inl (3, [some 2, some 0, some 0, some 0, some 0, some 0, none, none, none]), .inr (0, 6), .inr (0, 6)]) rfl ?_
    refine X_putr (r := 2) (ty := .array .int) C 1 rfl nc_3 inM_3 (by decide) tyX3 tyX3_ok nmX3 (mc wd_51) rfl I rfl (by decide +kernel) (fun _ => ⟨rfl, rfl⟩) rfl dX3_init_17 ?_
    refine X_S (S' := [.inl (3, [some 2, some 3, some 0, some 0, some 0, some 0, none, none, none]), .inr (0, 6), .inr (0, 6)]) rfl ?_
    refine X_aload_n C 0 dX3_init_20 rfl rfl ?_
    refine X_bipush (v := (7:Int32)) C dX3_init_21 (by decide) ?_
    refine X_newa (ty := .int) (N := 7) (n0 := 1) C hX 0 3 rfl (by decide) (by decide) rfl rfl (fun _ => rfl) hra_I rfl (mc wd_567) (by decide) (by decide) (by decide) (fun _ => rfl) rfl rfl (by decide) dX3_init_23 ?_
    refine X_S (S' := [.inl (3, [some 2, some 3, some 0, some 0, some 0, some 0, none, none, none]), .inr (0, 6), .inr (0, 6), .inr (0, 7)]) rfl ?_
    refine X_putr (r := 3) (ty := .array .int) C 2 rfl nc_3 inM_3 (by decide) tyX3 tyX3_ok nmX3 (mc wd_49) rfl I rfl (by decide +kernel) (fun _ => ⟨rfl, rfl⟩) rfl dX3_init_25 ?_
    refine X_S (S' := [.inl (3, [some 2, some 3, some 4, some 0, some 0, some 0, none, none, none]), .inr (0, 6), .inr (0, 6), .inr (0, 7)]) rfl ?_
    refine X_aload_n C 0 dX3_init_28 rfl rfl ?_
    refine X_bipush (v := (6:Int32)) C dX3_init_29 (by decide) ?_
    refine X_newa (ty := .int) (N := 6) (n0 := 1) C hX 0 4 rfl (by decide) (by decide) rfl rfl (fun _ => rfl) hra_I rfl (mc wd_567) (by decide) (by decide) (by decide) (fun _ => rfl) rfl rfl (by decide) dX3_init_31 ?_
    refine X_S (S' := [.inl (3, [some 2, some 3, some 4, some 0, some 0, some 0, none, none, none]), .inr (0, 6), .inr (0, 6), .inr (0, 7), .inr (0, 6)]) rfl ?_
    refine X_putr (r := 4) (ty := .array .int) C 3 rfl nc_3 inM_3 (by decide) tyX3 tyX3_ok nmX3 (mc wd_53) rfl I rfl (by decide +kernel) (fun _ => ⟨rfl, rfl⟩) rfl dX3_init_33 ?_
    refine X_S (S' := [.inl (3, [some 2, some 3, some 4, some 5, some 0, some 0, none, none, none]), .inr (0, 6), .inr (0, 6), .inr (0, 7), .inr (0, 6)]) rfl ?_
    refine X_aload_n C 0 dX3_init_36 rfl rfl ?_
    refine X_bipush (v := (6:Int32)) C dX3_init_37 (by decide) ?_
    refine X_newa (ty := .int) (N := 6) (n0 := 1) C hX 0 5 rfl (by decide) (by decide) rfl rfl (fun _ => rfl) hra_I rfl (mc wd_567) (by decide) (by decide) (by decide) (fun _ => rfl) rfl rfl (by decide) dX3_init_39 ?_
    refine X_S (S' := [.inl (3, [some 2, some 3, some 4, some 5, some 0, some 0, none, none, none]), .inr (0, 6), .inr (0, 6), .inr (0, 7), .inr (0, 6), .inr (0, 6)]) rfl ?_
    refine X_putr (r := 5) (ty := .array .int) C 4 rfl nc_3 inM_3 (by decide) tyX3 tyX3_ok nmX3 (mc wd_54) rfl I rfl (by decide +kernel) (fun _ => ⟨rfl, rfl⟩) rfl dX3_init_41 ?_
    refine X_S (S' := [.inl (3, [some 2, some 3, some 4, some 5, some 6, some 0, none, none, none]), .inr (0, 6), .inr (0, 6), .inr (0, 7), .inr (0, 6), .inr (0, 6)]) rfl ?_
    refine X_aload_n C 0 dX3_init_44 rfl rfl ?_
    refine X_bipush (v := (6:Int32)) C dX3_init_45 (by decide) ?_
    refine X_newa (ty := .int) (N := 6) (n0 := 1) C hX 0 6 rfl (by decide) (by decide) rfl rfl (fun _ => rfl) hra_I rfl (mc wd_567) (by decide) (by decide) (by decide) (fun _ => rfl) rfl rfl (by decide) dX3_init_47 ?_
    refine X_S (S' := [.inl (3, [some 2, some 3, some 4, some 5, some 6, some 0, none, none, none]), .inr (0, 6), .inr (0, 6), .inr (0, 7), .inr (0, 6), .inr (0, 6), .inr (0, 6)]) rfl ?_
    refine X_putr (r := 6) (ty := .array .int) C 5 rfl nc_3 inM_3 (by decide) tyX3 tyX3_ok nmX3 (mc wd_56) rfl I rfl (by decide +kernel) (fun _ => ⟨rfl, rfl⟩) rfl dX3_init_49 ?_
    refine X_S (S' := [.inl (3, [some 2, some 3, some 4, some 5, some 6, some 7, none, none, none]), .inr (0, 6), .inr (0, 6), .inr (0, 7), .inr (0, 6), .inr (0, 6), .inr (0, 6)]) rfl ?_
    refine X_aload_n C 0 dX3_init_52 rfl rfl ?_
    refine X_iconst (v := (0:Int32)) C dX3_init_53 (by decide) ?_
    refine X_puti0 C 6 rfl nc_3 inM_3 (by decide) tyX3 tyX3_ok nmX3 (mc wd_48) rfl (by decide +kernel) rfl dX3_init_54 ?_
    refine X_g (σ' := g_X3_init_0) rfl ?_
    refine X_aload_n C 0 dX3_init_57 rfl rfl ?_
    refine X_iconst (v := (-1:Int32)) C dX3_init_58 (by decide) ?_
    refine X_puti0 C 7 rfl nc_3 inM_3 (by decide) tyX3 tyX3_ok nmX3 (mc wd_52) rfl (by decide +kernel) rfl dX3_init_59 ?_
    refine X_g (σ' := g_X3_init_1) rfl ?_
    refine X_aload_n C 0 dX3_init_62 rfl rfl ?_
    refine X_iconst (v := (0:Int32)) C dX3_init_63 (by decide) ?_
    refine X_puti0 C 8 rfl nc_3 inM_3 (by decide) tyX3 tyX3_ok nmX3 (mc wd_55) rfl (by decide +kernel) rfl dX3_init_64 ?_
    refine X_g (σ' := g_X3_init_2) rfl ?_
    exact X_vret C dX3_init_67 rfl Rr)
