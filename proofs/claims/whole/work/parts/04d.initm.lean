abbrev ws_X8_init : List Cond := Cond.code yX8_init cX8_init 2 none :: AW
def SC_X8 : List Shp := [.inl (8, [some 2, some 3, none, none, some 4, some 5, some 6, some 7, some 8, some 9, some 10, none, none, none, none, none, none, none, none, none, none, none, none, none, none, none, none, none, some 11, some 12, some 13, some 14, some 15, some 16, some 17, some 18, none, some 19, some 20, some 21, some 22, none, some 23, some 24, some 25, none, some 26, some 27, some 28, some 29, some 30, some 31, none, some 32, none, none, some 33]), .inr (0, 6), .inr (0, 4), .inr (0, 400), .inr (0, 400), .inr (0, 400), .inr (0, 400), .inr (0, 400), .inr (0, 400), .inr (0, 400), .inr (0, 60), .inr (0, 60), .inr (0, 60), .inr (0, 60), .inr (0, 60), .inr (0, 60), .inr (0, 3), .inr (0, 3), .inr (0, 8), .inr (1, 8), .inr (0, 8), .inr (0, 8), .inr (0, 3), .inr (0, 3), .inr (0, 3), .inr (0, 12), .inr (0, 12), .inr (0, 5), .inr (0, 5), .inr (0, 5), .inr (0, 6), .inr (0, 8), .inr (0, 3)]
theorem sc_X8_0 : SC_X8[0]? = some (.inl (8, [some 2, some 3, none, none, some 4, some 5, some 6, some 7, some 8, some 9, some 10, none, none, none, none, none, none, none, none, none, none, none, none, none, none, none, none, none, some 11, some 12, some 13, some 14, some 15, some 16, some 17, some 18, none, some 19, some 20, some 21, some 22, none, some 23, some 24, some 25, none, some 26, some 27, some 28, some 29, some 30, some 31, none, some 32, none, none, some 33])) := rfl
theorem sc_X8_1 : SC_X8[1]? = some (.inr (0, 6)) := rfl
theorem sc_X8_2 : SC_X8[2]? = some (.inr (0, 4)) := rfl
theorem sc_X8_3 : SC_X8[3]? = some (.inr (0, 400)) := rfl
theorem sc_X8_4 : SC_X8[4]? = some (.inr (0, 400)) := rfl
theorem sc_X8_5 : SC_X8[5]? = some (.inr (0, 400)) := rfl
theorem sc_X8_6 : SC_X8[6]? = some (.inr (0, 400)) := rfl
theorem sc_X8_7 : SC_X8[7]? = some (.inr (0, 400)) := rfl
theorem sc_X8_8 : SC_X8[8]? = some (.inr (0, 400)) := rfl
theorem sc_X8_9 : SC_X8[9]? = some (.inr (0, 400)) := rfl
theorem sc_X8_10 : SC_X8[10]? = some (.inr (0, 60)) := rfl
theorem sc_X8_11 : SC_X8[11]? = some (.inr (0, 60)) := rfl
theorem sc_X8_12 : SC_X8[12]? = some (.inr (0, 60)) := rfl
theorem sc_X8_13 : SC_X8[13]? = some (.inr (0, 60)) := rfl
theorem sc_X8_14 : SC_X8[14]? = some (.inr (0, 60)) := rfl
theorem sc_X8_15 : SC_X8[15]? = some (.inr (0, 60)) := rfl
theorem sc_X8_16 : SC_X8[16]? = some (.inr (0, 3)) := rfl
theorem sc_X8_17 : SC_X8[17]? = some (.inr (0, 3)) := rfl
theorem sc_X8_18 : SC_X8[18]? = some (.inr (0, 8)) := rfl
theorem sc_X8_19 : SC_X8[19]? = some (.inr (1, 8)) := rfl
theorem sc_X8_20 : SC_X8[20]? = some (.inr (0, 8)) := rfl
theorem sc_X8_21 : SC_X8[21]? = some (.inr (0, 8)) := rfl
theorem sc_X8_22 : SC_X8[22]? = some (.inr (0, 3)) := rfl
theorem sc_X8_23 : SC_X8[23]? = some (.inr (0, 3)) := rfl
theorem sc_X8_24 : SC_X8[24]? = some (.inr (0, 3)) := rfl
theorem sc_X8_25 : SC_X8[25]? = some (.inr (0, 12)) := rfl
theorem sc_X8_26 : SC_X8[26]? = some (.inr (0, 12)) := rfl
theorem sc_X8_27 : SC_X8[27]? = some (.inr (0, 5)) := rfl
theorem sc_X8_28 : SC_X8[28]? = some (.inr (0, 5)) := rfl
theorem sc_X8_29 : SC_X8[29]? = some (.inr (0, 5)) := rfl
theorem sc_X8_30 : SC_X8[30]? = some (.inr (0, 6)) := rfl
theorem sc_X8_31 : SC_X8[31]? = some (.inr (0, 8)) := rfl
theorem sc_X8_32 : SC_X8[32]? = some (.inr (0, 3)) := rfl
abbrev rm_X8_init : Room := { frames := 1, cells := 32, slots := 3273, locals := 12 }
def g_X8_init_0 : Sg := sgu z0 2 0 (30:Int32)
def g_X8_init_1 : Sg := sgu g_X8_init_0 2 1 (30:Int32)
def g_X8_init_2 : Sg := sgu g_X8_init_1 2 2 (30:Int32)
def g_X8_init_3 : Sg := sgu g_X8_init_2 2 3 (30:Int32)
def g_X8_init_4 : Sg := sgu g_X8_init_3 0 12 (100:Int32)
def g_X8_init_5 : Sg := sgu g_X8_init_4 0 13 (1000:Int32)
def g_X8_init_6 : Sg := sgu g_X8_init_5 0 24 (-1:Int32)
def g_X8_init_7 : Sg := sgu g_X8_init_6 0 25 (-1:Int32)
def g_X8_init_8 : Sg := sgu g_X8_init_7 0 26 (-1:Int32)
def g_X8_init_9 : Sg := sgu g_X8_init_8 16 0 (-1:Int32)
def g_X8_init_10 : Sg := sgu g_X8_init_9 16 1 (-1:Int32)
def g_X8_init_11 : Sg := sgu g_X8_init_10 16 2 (-1:Int32)
def c_X8_init_340 (N : Nat) (K340 : Sg → Int32 → Option (Sg)) (s : Sg) (v1 : Int32) : Option (Sg) :=
if ((5:Int32)) ≤ v1 then
 some s
 else
 gd (vi v1 5) (lt_ (sgu s 27 v1.toNatClampNeg (((100:Int32)) * v1)) (fun s1 => gd (vi v1 5) (lt_ (sgu s1 28 v1.toNatClampNeg (((50:Int32)) * v1)) (fun s2 => gd (vi v1 5) (lt_ (sgu s2 29 v1.toNatClampNeg (((80:Int32)) * v1)) (fun s3 => K340 s3 (v1 + (1:Int32))))))))
set_option maxHeartbeats 4000000 in
set_option maxRecDepth 100000 in
theorem w_X8_init_340 {X : Ctx} {N : Nat} {o : Sg} (C : Cx NM X cX8_init 2 RX8 (ws_X8_init) none rm_X8_init) (Rr : Rx NM X 32 3273 none SC_X8 o) {K340 : Sg → Int32 → Option (Sg)} (hK340 : ∀ (s : Sg) (v1 : Int32), K340 s v1 = some o → XW NM X 2 32 3273 SC_X8 s 340 [(0, .ref 0), (1, .int v1)] []) (s : Sg) (v1 : Int32) (hf : c_X8_init_340 N K340 s v1 = some o) : XW NM X 2 32 3273 SC_X8 s 340 [(0, .ref 0), (1, .int v1)] [] := by
  unfold c_X8_init_340 at hf
  refine X_iload_n C 1 dX8_init_340 rfl rfl ?_
  refine X_iconst (v := (5:Int32)) C dX8_init_341 (by decide) ?_
  refine X_icmp_ge (tgt := 381) C dX8_init_342 (by decide) hf (fun hf => ?_) (fun hf => ?_)
  · exact X_vret C dX8_init_381 hf Rr
  · refine X_aload_n C 0 dX8_init_345 rfl rfl ?_
    refine X_getr C 48 sc_X8_0 nc_8 inM_8 (by decide) (mc wd_130) rfl dX8_init_346 ?_
    refine X_iload_n C 1 dX8_init_349 rfl rfl ?_
    refine X_bipush (v := (100:Int32)) C dX8_init_350 (by decide) ?_
    refine X_iload_n C 1 dX8_init_352 rfl rfl ?_
    refine X_imul C dX8_init_353 ?_
    refine X_iast C sc_X8_27 dX8_init_354 hf (fun s1 hf => ?_)
    refine X_aload_n C 0 dX8_init_355 rfl rfl ?_
    refine X_getr C 49 sc_X8_0 nc_8 inM_8 (by decide) (mc wd_131) rfl dX8_init_356 ?_
    refine X_iload_n C 1 dX8_init_359 rfl rfl ?_
    refine X_bipush (v := (50:Int32)) C dX8_init_360 (by decide) ?_
    refine X_iload_n C 1 dX8_init_362 rfl rfl ?_
    refine X_imul C dX8_init_363 ?_
    refine X_iast C sc_X8_28 dX8_init_364 hf (fun s2 hf => ?_)
    refine X_aload_n C 0 dX8_init_365 rfl rfl ?_
    refine X_getr C 50 sc_X8_0 nc_8 inM_8 (by decide) (mc wd_132) rfl dX8_init_366 ?_
    refine X_iload_n C 1 dX8_init_369 rfl rfl ?_
    refine X_bipush (v := (80:Int32)) C dX8_init_370 (by decide) ?_
    refine X_iload_n C 1 dX8_init_372 rfl rfl ?_
    refine X_imul C dX8_init_373 ?_
    refine X_iast C sc_X8_29 dX8_init_374 hf (fun s3 hf => ?_)
    refine X_iinc (v := (1:Int32)) (L' := [(0, .ref 0), (1, .int (v1 + (1:Int32)))]) C 1 [1, 0] dX8_init_375 rfl (by decide) (by decide) rfl ?_
    refine X_goto (tgt := 340) C dX8_init_378 (by decide) ?_
    exact hK340 _ _ hf
def b_X8_init_340 (N : Nat) : Nat → Sg → Int32 → Option (Sg)
  | 0, _, _ => none
  | j + 1, s, v1 => c_X8_init_340 N (b_X8_init_340 N j) s v1
theorem h_X8_init_340 {X : Ctx} {N : Nat} {o : Sg} (C : Cx NM X cX8_init 2 RX8 (ws_X8_init) none rm_X8_init) (Rr : Rx NM X 32 3273 none SC_X8 o) : ∀ (j : Nat) (s : Sg) (v1 : Int32), b_X8_init_340 N j s v1 = some o → XW NM X 2 32 3273 SC_X8 s 340 [(0, .ref 0), (1, .int v1)] [] := by
  intro j
  induction j with
  | zero => intro s v1 hf; cases (show none = some o from hf)
  | succ j ih => intro s v1 hf; exact w_X8_init_340 C Rr ih s v1 hf
def c_X8_init_338 (N : Nat) (s : Sg) : Option (Sg) :=
b_X8_init_340 N N s ((0:Int32))
set_option maxHeartbeats 4000000 in
set_option maxRecDepth 100000 in
theorem w_X8_init_338 {X : Ctx} {N : Nat} {o : Sg} (C : Cx NM X cX8_init 2 RX8 (ws_X8_init) none rm_X8_init) (Rr : Rx NM X 32 3273 none SC_X8 o) (s : Sg) (hf : c_X8_init_338 N s = some o) : XW NM X 2 32 3273 SC_X8 s 338 [(0, .ref 0)] [] := by
  unfold c_X8_init_338 at hf
  refine X_iconst (v := (0:Int32)) C dX8_init_338 (by decide) ?_
  refine X_istore_n (L' := [(0, .ref 0), (1, .int ((0:Int32)))]) C [1, 0] dX8_init_339 rfl (by decide) rfl ?_
  exact h_X8_init_340 C Rr _ _ _ hf
def c_X8_init_319 (N : Nat) (K319 : Sg → Int32 → Option (Sg)) (s : Sg) (v1 : Int32) : Option (Sg) :=
if ((12:Int32)) ≤ v1 then
 c_X8_init_338 N s
 else
 gd (vi v1 12) (lt_ (sgu s 25 v1.toNatClampNeg ((4:Int32))) (fun s1 => K319 s1 (v1 + (1:Int32))))
set_option maxHeartbeats 4000000 in
set_option maxRecDepth 100000 in
theorem w_X8_init_319 {X : Ctx} {N : Nat} {o : Sg} (C : Cx NM X cX8_init 2 RX8 (ws_X8_init) none rm_X8_init) (Rr : Rx NM X 32 3273 none SC_X8 o) {K319 : Sg → Int32 → Option (Sg)} (hK319 : ∀ (s : Sg) (v1 : Int32), K319 s v1 = some o → XW NM X 2 32 3273 SC_X8 s 319 [(0, .ref 0), (1, .int v1)] []) (s : Sg) (v1 : Int32) (hf : c_X8_init_319 N K319 s v1 = some o) : XW NM X 2 32 3273 SC_X8 s 319 [(0, .ref 0), (1, .int v1)] [] := by
  unfold c_X8_init_319 at hf
  refine X_iload_n C 1 dX8_init_319 rfl rfl ?_
  refine X_bipush (v := (12:Int32)) C dX8_init_320 (by decide) ?_
  refine X_icmp_ge (tgt := 338) C dX8_init_322 (by decide) hf (fun hf => ?_) (fun hf => ?_)
  · refine X_loc (L' := [(0, .ref 0)]) [0] rfl ?_
    exact w_X8_init_338 C Rr _ hf
  · refine X_aload_n C 0 dX8_init_325 rfl rfl ?_
    refine X_getr C 46 sc_X8_0 nc_8 inM_8 (by decide) (mc wd_128) rfl dX8_init_326 ?_
    refine X_iload_n C 1 dX8_init_329 rfl rfl ?_
    refine X_iconst (v := (4:Int32)) C dX8_init_330 (by decide) ?_
    refine X_iast C sc_X8_25 dX8_init_331 hf (fun s1 hf => ?_)
    refine X_iinc (v := (1:Int32)) (L' := [(0, .ref 0), (1, .int (v1 + (1:Int32)))]) C 1 [1, 0] dX8_init_332 rfl (by decide) (by decide) rfl ?_
    refine X_goto (tgt := 319) C dX8_init_335 (by decide) ?_
    exact hK319 _ _ hf
def b_X8_init_319 (N : Nat) : Nat → Sg → Int32 → Option (Sg)
  | 0, _, _ => none
  | j + 1, s, v1 => c_X8_init_319 N (b_X8_init_319 N j) s v1
theorem h_X8_init_319 {X : Ctx} {N : Nat} {o : Sg} (C : Cx NM X cX8_init 2 RX8 (ws_X8_init) none rm_X8_init) (Rr : Rx NM X 32 3273 none SC_X8 o) : ∀ (j : Nat) (s : Sg) (v1 : Int32), b_X8_init_319 N j s v1 = some o → XW NM X 2 32 3273 SC_X8 s 319 [(0, .ref 0), (1, .int v1)] [] := by
  intro j
  induction j with
  | zero => intro s v1 hf; cases (show none = some o from hf)
  | succ j ih => intro s v1 hf; exact w_X8_init_319 C Rr ih s v1 hf
def f_X8_init (N : Nat) : Option Sg := b_X8_init_319 N N g_X8_init_11 ((0:Int32))
set_option maxRecDepth 100000 in
set_option maxHeartbeats 4000000 in
theorem k_X8_init {N : Nat} (o : Sg) (hf : f_X8_init N = some o) : CtrA NM yX8_init (ws_X8_init) rm_X8_init 32 3273 [.inl (8, [some 0, some 0, none, none, some 0, some 0, some 0, some 0, some 0, some 0, some 0, none, none, none, none, none, none, none, none, none, none, none, none, none, none, none, none, none, some 0, some 0, some 0, some 0, some 0, some 0, some 0, some 0, none, some 0, some 0, some 0, some 0, none, some 0, some 0, some 0, none, some 0, some 0, some 0, some 0, some 0, some 0, none, some 0, none, none, some 0])] z0 [.ref 0] SC_X8 o :=
  CtrA.of (by decide) rfl rfl (Nat.le_of_ble_eq_true rfl) (fun X C I hX Rr => by
    show XW NM X 2 0 0 [.inl (8, [some 0, some 0, none, none, some 0, some 0, some 0, some 0, some 0, some 0, some 0, none, none, none, none, none, none, none, none, none, none, none, none, none, none, none, none, none, some 0, some 0, some 0, some 0, some 0, some 0, some 0, some 0, none, some 0, some 0, some 0, some 0, none, some 0, some 0, some 0, none, some 0, some 0, some 0, some 0, some 0, some 0, none, some 0, none, none, some 0])] z0 0 [(0, .ref 0)] []
    refine X_aload_n C 0 dX8_init_0 rfl rfl ?_
    refine X_obj C (mc wd_562) (mc wd_537) (mc wd_538) ⟨Nat.le_of_ble_eq_true rfl, Nat.le_of_ble_eq_true rfl⟩ dX8_init_1 ?_
    refine X_aload_n C 0 dX8_init_4 rfl rfl ?_
    refine X_bipush (v := (6:Int32)) C dX8_init_5 (by decide) ?_
    refine X_newa (ty := .int) (N := 6) (n0 := 1) C hX 0 1 rfl (by decide) (by decide) rfl rfl (fun _ => rfl) hra_I rfl (mc wd_567) (by decide) (by decide) (by decide) (fun _ => rfl) rfl rfl (by decide) dX8_init_7 ?_
    refine X_S (S' := [.inl (8, [some 0, some 0, none, none, some 0, some 0, some 0, some 0, some 0, some 0, some 0, none, none, none, none, none, none, none, none, none, none, none, none, none, none, none, none, none, some 0, some 0, some 0, some 0, some 0, some 0, some 0, some 0, none, some 0, some 0, some 0, some 0, none, some 0, some 0, some 0, none, some 0, some 0, some 0, some 0, some 0, some 0, none, some 0, none, none, some 0]), .inr (0, 6)]) rfl ?_
    refine X_putr (r := 1) (ty := .array .int) C 0 rfl nc_8 inM_8 (by decide) tyX8 tyX8_ok nmX8 (mc wd_77) rfl I rfl (by decide +kernel) (fun _ => ⟨rfl, rfl⟩) rfl dX8_init_9 ?_
    refine X_S (S' := [.inl (8, [some 2, some 0, none, none, some 0, some 0, some 0, some 0, some 0, some 0, some 0, none, none, none, none, none, none, none, none, none, none, none, none, none, none, none, none, none, some 0, some 0, some 0, some 0, some 0, some 0, some 0, some 0, none, some 0, some 0, some 0, some 0, none, some 0, some 0, some 0, none, some 0, some 0, some 0, some 0, some 0, some 0, none, some 0, none, none, some 0]), .inr (0, 6)]) rfl ?_
    refine X_aload_n C 0 dX8_init_12 rfl rfl ?_
    refine X_iconst (v := (4:Int32)) C dX8_init_13 (by decide) ?_
    refine X_newa (ty := .int) (N := 4) (n0 := 1) C hX 0 2 rfl (by decide) (by decide) rfl rfl (fun _ => rfl) hra_I rfl (mc wd_567) (by decide) (by decide) (by decide) (fun _ => rfl) rfl rfl (by decide) dX8_init_14 ?_
    refine X_S (S' := [.inl (8, [some 2, some 0, none, none, some 0, some 0, some 0, some 0, some 0, some 0, some 0, none, none, none, none, none, none, none, none, none, none, none, none, none, none, none, none, none, some 0, some 0, some 0, some 0, some 0, some 0, some 0, some 0, none, some 0, some 0, some 0, some 0, none, some 0, some 0, some 0, none, some 0, some 0, some 0, some 0, some 0, some 0, none, some 0, none, none, some 0]), .inr (0, 6), .inr (0, 4)]) rfl ?_
    refine X_dup C dX8_init_16 rfl ?_
    refine X_iconst (v := (0:Int32)) C dX8_init_17 (by decide) ?_
    refine X_bipush (v := (30:Int32)) C dX8_init_18 (by decide) ?_
    refine X_iast0 C 0 rfl (by decide) (by decide) dX8_init_20 ?_
    refine X_g (σ' := g_X8_init_0) rfl ?_
    refine X_dup C dX8_init_21 rfl ?_
    refine X_iconst (v := (1:Int32)) C dX8_init_22 (by decide) ?_
    refine X_bipush (v := (30:Int32)) C dX8_init_23 (by decide) ?_
    refine X_iast0 C 1 rfl (by decide) (by decide) dX8_init_25 ?_
    refine X_g (σ' := g_X8_init_1) rfl ?_
    refine X_dup C dX8_init_26 rfl ?_
    refine X_iconst (v := (2:Int32)) C dX8_init_27 (by decide) ?_
    refine X_bipush (v := (30:Int32)) C dX8_init_28 (by decide) ?_
    refine X_iast0 C 2 rfl (by decide) (by decide) dX8_init_30 ?_
    refine X_g (σ' := g_X8_init_2) rfl ?_
    refine X_dup C dX8_init_31 rfl ?_
    refine X_iconst (v := (3:Int32)) C dX8_init_32 (by decide) ?_
    refine X_bipush (v := (30:Int32)) C dX8_init_33 (by decide) ?_
    refine X_iast0 C 3 rfl (by decide) (by decide) dX8_init_35 ?_
    refine X_g (σ' := g_X8_init_3) rfl ?_
    refine X_putr (r := 2) (ty := .array .int) C 1 rfl nc_8 inM_8 (by decide) tyX8 tyX8_ok nmX8 (mc wd_78) rfl I rfl (by decide +kernel) (fun _ => ⟨rfl, rfl⟩) rfl dX8_init_36 ?_
    refine X_S (S' := [.inl (8, [some 2, some 3, none, none, some 0, some 0, some 0, some 0, some 0, some 0, some 0, none, none, none, none, none, none, none, none, none, none, none, none, none, none, none, none, none, some 0, some 0, some 0, some 0, some 0, some 0, some 0, some 0, none, some 0, some 0, some 0, some 0, none, some 0, some 0, some 0, none, some 0, some 0, some 0, some 0, some 0, some 0, none, some 0, none, none, some 0]), .inr (0, 6), .inr (0, 4)]) rfl ?_
    refine X_aload_n C 0 dX8_init_39 rfl rfl ?_
    refine X_sipush (v := (400:Int32)) C dX8_init_40 (by decide) ?_
    refine X_newa (ty := .int) (N := 400) (n0 := 1) C hX 0 3 rfl (by decide) (by decide) rfl rfl (fun _ => rfl) hra_I rfl (mc wd_567) (by decide) (by decide) (by decide) (fun _ => rfl) rfl rfl (by decide) dX8_init_43 ?_
    refine X_S (S' := [.inl (8, [some 2, some 3, none, none, some 0, some 0, some 0, some 0, some 0, some 0, some 0, none, none, none, none, none, none, none, none, none, none, none, none, none, none, none, none, none, some 0, some 0, some 0, some 0, some 0, some 0, some 0, some 0, none, some 0, some 0, some 0, some 0, none, some 0, some 0, some 0, none, some 0, some 0, some 0, some 0, some 0, some 0, none, some 0, none, none, some 0]), .inr (0, 6), .inr (0, 4), .inr (0, 400)]) rfl ?_
    refine X_putr (r := 3) (ty := .array .int) C 4 rfl nc_8 inM_8 (by decide) tyX8 tyX8_ok nmX8 (mc wd_81) rfl I rfl (by decide +kernel) (fun _ => ⟨rfl, rfl⟩) rfl dX8_init_45 ?_
    refine X_S (S' := [.inl (8, [some 2, some 3, none, none, some 4, some 0, some 0, some 0, some 0, some 0, some 0, none, none, none, none, none, none, none, none, none, none, none, none, none, none, none, none, none, some 0, some 0, some 0, some 0, some 0, some 0, some 0, some 0, none, some 0, some 0, some 0, some 0, none, some 0, some 0, some 0, none, some 0, some 0, some 0, some 0, some 0, some 0, none, some 0, none, none, some 0]), .inr (0, 6), .inr (0, 4), .inr (0, 400)]) rfl ?_
    refine X_aload_n C 0 dX8_init_48 rfl rfl ?_
    refine X_sipush (v := (400:Int32)) C dX8_init_49 (by decide) ?_
    refine X_newa (ty := .int) (N := 400) (n0 := 1) C hX 0 4 rfl (by decide) (by decide) rfl rfl (fun _ => rfl) hra_I rfl (mc wd_567) (by decide) (by decide) (by decide) (fun _ => rfl) rfl rfl (by decide) dX8_init_52 ?_
    refine X_S (S' := [.inl (8, [some 2, some 3, none, none, some 4, some 0, some 0, some 0, some 0, some 0, some 0, none, none, none, none, none, none, none, none, none, none, none, none, none, none, none, none, none, some 0, some 0, some 0, some 0, some 0, some 0, some 0, some 0, none, some 0, some 0, some 0, some 0, none, some 0, some 0, some 0, none, some 0, some 0, some 0, some 0, some 0, some 0, none, some 0, none, none, some 0]), .inr (0, 6), .inr (0, 4), .inr (0, 400), .inr (0, 400)]) rfl ?_
    refine X_putr (r := 4) (ty := .array .int) C 5 rfl nc_8 inM_8 (by decide) tyX8 tyX8_ok nmX8 (mc wd_82) rfl I rfl (by decide +kernel) (fun _ => ⟨rfl, rfl⟩) rfl dX8_init_54 ?_
    refine X_S (S' := [.inl (8, [some 2, some 3, none, none, some 4, some 5, some 0, some 0, some 0, some 0, some 0, none, none, none, none, none, none, none, none, none, none, none, none, none, none, none, none, none, some 0, some 0, some 0, some 0, some 0, some 0, some 0, some 0, none, some 0, some 0, some 0, some 0, none, some 0, some 0, some 0, none, some 0, some 0, some 0, some 0, some 0, some 0, none, some 0, none, none, some 0]), .inr (0, 6), .inr (0, 4), .inr (0, 400), .inr (0, 400)]) rfl ?_
    refine X_aload_n C 0 dX8_init_57 rfl rfl ?_
    refine X_sipush (v := (400:Int32)) C dX8_init_58 (by decide) ?_
    refine X_newa (ty := .int) (N := 400) (n0 := 1) C hX 0 5 rfl (by decide) (by decide) rfl rfl (fun _ => rfl) hra_I rfl (mc wd_567) (by decide) (by decide) (by decide) (fun _ => rfl) rfl rfl (by decide) dX8_init_61 ?_
    refine X_S (S' := [.inl (8, [some 2, some 3, none, none, some 4, some 5, some 0, some 0, some 0, some 0, some 0, none, none, none, none, none, none, none, none, none, none, none, none, none, none, none, none, none, some 0, some 0, some 0, some 0, some 0, some 0, some 0, some 0, none, some 0, some 0, some 0, some 0, none, some 0, some 0, some 0, none, some 0, some 0, some 0, some 0, some 0, some 0, none, some 0, none, none, some 0]), .inr (0, 6), .inr (0, 4), .inr (0, 400), .inr (0, 400), .inr (0, 400)]) rfl ?_
    refine X_putr (r := 5) (ty := .array .int) C 6 rfl nc_8 inM_8 (by decide) tyX8 tyX8_ok nmX8 (mc wd_83) rfl I rfl (by decide +kernel) (fun _ => ⟨rfl, rfl⟩) rfl dX8_init_63 ?_
    refine X_S (S' := [.inl (8, [some 2, some 3, none, none, some 4, some 5, some 6, some 0, some 0, some 0, some 0, none, none, none, none, none, none, none, none, none, none, none, none, none, none, none, none, none, some 0, some 0, some 0, some 0, some 0, some 0, some 0, some 0, none, some 0, some 0, some 0, some 0, none, some 0, some 0, some 0, none, some 0, some 0, some 0, some 0, some 0, some 0, none, some 0, none, none, some 0]), .inr (0, 6), .inr (0, 4), .inr (0, 400), .inr (0, 400), .inr (0, 400)]) rfl ?_
    refine X_aload_n C 0 dX8_init_66 rfl rfl ?_
    refine X_sipush (v := (400:Int32)) C dX8_init_67 (by decide) ?_
    refine X_newa (ty := .int) (N := 400) (n0 := 1) C hX 0 6 rfl (by decide) (by decide) rfl rfl (fun _ => rfl) hra_I rfl (mc wd_567) (by decide) (by decide) (by decide) (fun _ => rfl) rfl rfl (by decide) dX8_init_70 ?_
    refine X_S (S' := [.inl (8, [some 2, some 3, none, none, some 4, some 5, some 6, some 0, some 0, some 0, some 0, none, none, none, none, none, none, none, none, none, none, none, none, none, none, none, none, none, some 0, some 0, some 0, some 0, some 0, some 0, some 0, some 0, none, some 0, some 0, some 0, some 0, none, some 0, some 0, some 0, none, some 0, some 0, some 0, some 0, some 0, some 0, none, some 0, none, none, some 0]), .inr (0, 6), .inr (0, 4), .inr (0, 400), .inr (0, 400), .inr (0, 400), .inr (0, 400)]) rfl ?_
    refine X_putr (r := 6) (ty := .array .int) C 7 rfl nc_8 inM_8 (by decide) tyX8 tyX8_ok nmX8 (mc wd_84) rfl I rfl (by decide +kernel) (fun _ => ⟨rfl, rfl⟩) rfl dX8_init_72 ?_
    refine X_S (S' := [.inl (8, [some 2, some 3, none, none, some 4, some 5, some 6, some 7, some 0, some 0, some 0, none, none, none, none, none, none, none, none, none, none, none, none, none, none, none, none, none, some 0, some 0, some 0, some 0, some 0, some 0, some 0, some 0, none, some 0, some 0, some 0, some 0, none, some 0, some 0, some 0, none, some 0, some 0, some 0, some 0, some 0, some 0, none, some 0, none, none, some 0]), .inr (0, 6), .inr (0, 4), .inr (0, 400), .inr (0, 400), .inr (0, 400), .inr (0, 400)]) rfl ?_
    refine X_aload_n C 0 dX8_init_75 rfl rfl ?_
    refine X_sipush (v := (400:Int32)) C dX8_init_76 (by decide) ?_
    refine X_newa (ty := .int) (N := 400) (n0 := 1) C hX 0 7 rfl (by decide) (by decide) rfl rfl (fun _ => rfl) hra_I rfl (mc wd_567) (by decide) (by decide) (by decide) (fun _ => rfl) rfl rfl (by decide) dX8_init_79 ?_
    refine X_S (S' := [.inl (8, [some 2, some 3, none, none, some 4, some 5, some 6, some 7, some 0, some 0, some 0, none, none, none, none, none, none, none, none, none, none, none, none, none, none, none, none, none, some 0, some 0, some 0, some 0, some 0, some 0, some 0, some 0, none, some 0, some 0, some 0, some 0, none, some 0, some 0, some 0, none, some 0, some 0, some 0, some 0, some 0, some 0, none, some 0, none, none, some 0]), .inr (0, 6), .inr (0, 4), .inr (0, 400), .inr (0, 400), .inr (0, 400), .inr (0, 400), .inr (0, 400)]) rfl ?_
    refine X_putr (r := 7) (ty := .array .int) C 8 rfl nc_8 inM_8 (by decide) tyX8 tyX8_ok nmX8 (mc wd_85) rfl I rfl (by decide +kernel) (fun _ => ⟨rfl, rfl⟩) rfl dX8_init_81 ?_
    refine X_S (S' := [.inl (8, [some 2, some 3, none, none, some 4, some 5, some 6, some 7, some 8, some 0, some 0, none, none, none, none, none, none, none, none, none, none, none, none, none, none, none, none, none, some 0, some 0, some 0, some 0, some 0, some 0, some 0, some 0, none, some 0, some 0, some 0, some 0, none, some 0, some 0, some 0, none, some 0, some 0, some 0, some 0, some 0, some 0, none, some 0, none, none, some 0]), .inr (0, 6), .inr (0, 4), .inr (0, 400), .inr (0, 400), .inr (0, 400), .inr (0, 400), .inr (0, 400)]) rfl ?_
    refine X_aload_n C 0 dX8_init_84 rfl rfl ?_
    refine X_sipush (v := (400:Int32)) C dX8_init_85 (by decide) ?_
    refine X_newa (ty := .int) (N := 400) (n0 := 1) C hX 0 8 rfl (by decide) (by decide) rfl rfl (fun _ => rfl) hra_I rfl (mc wd_567) (by decide) (by decide) (by decide) (fun _ => rfl) rfl rfl (by decide) dX8_init_88 ?_
    refine X_S (S' := [.inl (8, [some 2, some 3, none, none, some 4, some 5, some 6, some 7, some 8, some 0, some 0, none, none, none, none, none, none, none, none, none, none, none, none, none, none, none, none, none, some 0, some 0, some 0, some 0, some 0, some 0, some 0, some 0, none, some 0, some 0, some 0, some 0, none, some 0, some 0, some 0, none, some 0, some 0, some 0, some 0, some 0, some 0, none, some 0, none, none, some 0]), .inr (0, 6), .inr (0, 4), .inr (0, 400), .inr (0, 400), .inr (0, 400), .inr (0, 400), .inr (0, 400), .inr (0, 400)]) rfl ?_
    refine X_putr (r := 8) (ty := .array .int) C 9 rfl nc_8 inM_8 (by decide) tyX8 tyX8_ok nmX8 (mc wd_86) rfl I rfl (by decide +kernel) (fun _ => ⟨rfl, rfl⟩) rfl dX8_init_90 ?_
    refine X_S (S' := [.inl (8, [some 2, some 3, none, none, some 4, some 5, some 6, some 7, some 8, some 9, some 0, none, none, none, none, none, none, none, none, none, none, none, none, none, none, none, none, none, some 0, some 0, some 0, some 0, some 0, some 0, some 0, some 0, none, some 0, some 0, some 0, some 0, none, some 0, some 0, some 0, none, some 0, some 0, some 0, some 0, some 0, some 0, none, some 0, none, none, some 0]), .inr (0, 6), .inr (0, 4), .inr (0, 400), .inr (0, 400), .inr (0, 400), .inr (0, 400), .inr (0, 400), .inr (0, 400)]) rfl ?_
    refine X_aload_n C 0 dX8_init_93 rfl rfl ?_
    refine X_sipush (v := (400:Int32)) C dX8_init_94 (by decide) ?_
    refine X_newa (ty := .int) (N := 400) (n0 := 1) C hX 0 9 rfl (by decide) (by decide) rfl rfl (fun _ => rfl) hra_I rfl (mc wd_567) (by decide) (by decide) (by decide) (fun _ => rfl) rfl rfl (by decide) dX8_init_97 ?_
    refine X_S (S' := [.inl (8, [some 2, some 3, none, none, some 4, some 5, some 6, some 7, some 8, some 9, some 0, none, none, none, none, none, none, none, none, none, none, none, none, none, none, none, none, none, some 0, some 0, some 0, some 0, some 0, some 0, some 0, some 0, none, some 0, some 0, some 0, some 0, none, some 0, some 0, some 0, none, some 0, some 0, some 0, some 0, some 0, some 0, none, some 0, none, none, some 0]), .inr (0, 6), .inr (0, 4), .inr (0, 400), .inr (0, 400), .inr (0, 400), .inr (0, 400), .inr (0, 400), .inr (0, 400), .inr (0, 400)]) rfl ?_
    refine X_putr (r := 9) (ty := .array .int) C 10 rfl nc_8 inM_8 (by decide) tyX8 tyX8_ok nmX8 (mc wd_87) rfl I rfl (by decide +kernel) (fun _ => ⟨rfl, rfl⟩) rfl dX8_init_99 ?_
    refine X_S (S' := [.inl (8, [some 2, some 3, none, none, some 4, some 5, some 6, some 7, some 8, some 9, some 10, none, none, none, none, none, none, none, none, none, none, none, none, none, none, none, none, none, some 0, some 0, some 0, some 0, some 0, some 0, some 0, some 0, none, some 0, some 0, some 0, some 0, none, some 0, some 0, some 0, none, some 0, some 0, some 0, some 0, some 0, some 0, none, some 0, none, none, some 0]), .inr (0, 6), .inr (0, 4), .inr (0, 400), .inr (0, 400), .inr (0, 400), .inr (0, 400), .inr (0, 400), .inr (0, 400), .inr (0, 400)]) rfl ?_
    refine X_aload_n C 0 dX8_init_102 rfl rfl ?_
    refine X_bipush (v := (100:Int32)) C dX8_init_103 (by decide) ?_
    refine X_puti0 C 12 rfl nc_8 inM_8 (by decide) tyX8 tyX8_ok nmX8 (mc wd_90) rfl (by decide +kernel) rfl dX8_init_105 ?_
    refine X_g (σ' := g_X8_init_4) rfl ?_
    refine X_aload_n C 0 dX8_init_108 rfl rfl ?_
    refine X_sipush (v := (1000:Int32)) C dX8_init_109 (by decide) ?_
    refine X_puti0 C 13 rfl nc_8 inM_8 (by decide) tyX8 tyX8_ok nmX8 (mc wd_91) rfl (by decide +kernel) rfl dX8_init_112 ?_
    refine X_g (σ' := g_X8_init_5) rfl ?_
    refine X_aload_n C 0 dX8_init_115 rfl rfl ?_
    refine X_iconst (v := (-1:Int32)) C dX8_init_116 (by decide) ?_
    refine X_puti0 C 24 rfl nc_8 inM_8 (by decide) tyX8 tyX8_ok nmX8 (mc wd_96) rfl (by decide +kernel) rfl dX8_init_117 ?_
    refine X_g (σ' := g_X8_init_6) rfl ?_
    refine X_aload_n C 0 dX8_init_120 rfl rfl ?_
    refine X_iconst (v := (-1:Int32)) C dX8_init_121 (by decide) ?_
    refine X_puti0 C 25 rfl nc_8 inM_8 (by decide) tyX8 tyX8_ok nmX8 (mc wd_98) rfl (by decide +kernel) rfl dX8_init_122 ?_
    refine X_g (σ' := g_X8_init_7) rfl ?_
    refine X_aload_n C 0 dX8_init_125 rfl rfl ?_
    refine X_iconst (v := (-1:Int32)) C dX8_init_126 (by decide) ?_
    refine X_puti0 C 26 rfl nc_8 inM_8 (by decide) tyX8 tyX8_ok nmX8 (mc wd_100) rfl (by decide +kernel) rfl dX8_init_127 ?_
    refine X_g (σ' := g_X8_init_8) rfl ?_
    refine X_aload_n C 0 dX8_init_130 rfl rfl ?_
    refine X_bipush (v := (60:Int32)) C dX8_init_131 (by decide) ?_
    refine X_newa (ty := .int) (N := 60) (n0 := 1) C hX 0 10 rfl (by decide) (by decide) rfl rfl (fun _ => rfl) hra_I rfl (mc wd_567) (by decide) (by decide) (by decide) (fun _ => rfl) rfl rfl (by decide) dX8_init_133 ?_
    refine X_S (S' := [.inl (8, [some 2, some 3, none, none, some 4, some 5, some 6, some 7, some 8, some 9, some 10, none, none, none, none, none, none, none, none, none, none, none, none, none, none, none, none, none, some 0, some 0, some 0, some 0, some 0, some 0, some 0, some 0, none, some 0, some 0, some 0, some 0, none, some 0, some 0, some 0, none, some 0, some 0, some 0, some 0, some 0, some 0, none, some 0, none, none, some 0]), .inr (0, 6), .inr (0, 4), .inr (0, 400), .inr (0, 400), .inr (0, 400), .inr (0, 400), .inr (0, 400), .inr (0, 400), .inr (0, 400), .inr (0, 60)]) rfl ?_
    refine X_putr (r := 10) (ty := .array .int) C 28 rfl nc_8 inM_8 (by decide) tyX8 tyX8_ok nmX8 (mc wd_94) rfl I rfl (by decide +kernel) (fun _ => ⟨rfl, rfl⟩) rfl dX8_init_135 ?_
    refine X_S (S' := [.inl (8, [some 2, some 3, none, none, some 4, some 5, some 6, some 7, some 8, some 9, some 10, none, none, none, none, none, none, none, none, none, none, none, none, none, none, none, none, none, some 11, some 0, some 0, some 0, some 0, some 0, some 0, some 0, none, some 0, some 0, some 0, some 0, none, some 0, some 0, some 0, none, some 0, some 0, some 0, some 0, some 0, some 0, none, some 0, none, none, some 0]), .inr (0, 6), .inr (0, 4), .inr (0, 400), .inr (0, 400), .inr (0, 400), .inr (0, 400), .inr (0, 400), .inr (0, 400), .inr (0, 400), .inr (0, 60)]) rfl ?_
    refine X_aload_n C 0 dX8_init_138 rfl rfl ?_
    refine X_bipush (v := (60:Int32)) C dX8_init_139 (by decide) ?_
    refine X_newa (ty := .int) (N := 60) (n0 := 1) C hX 0 11 rfl (by decide) (by decide) rfl rfl (fun _ => rfl) hra_I rfl (mc wd_567) (by decide) (by decide) (by decide) (fun _ => rfl) rfl rfl (by decide) dX8_init_141 ?_
    refine X_S (S' := [.inl (8, [some 2, some 3, none, none, some 4, some 5, some 6, some 7, some 8, some 9, some 10, none, none, none, none, none, none, none, none, none, none, none, none, none, none, none, none, none, some 11, some 0, some 0, some 0, some 0, some 0, some 0, some 0, none, some 0, some 0, some 0, some 0, none, some 0, some 0, some 0, none, some 0, some 0, some 0, some 0, some 0, some 0, none, some 0, none, none, some 0]), .inr (0, 6), .inr (0, 4), .inr (0, 400), .inr (0, 400), .inr (0, 400), .inr (0, 400), .inr (0, 400), .inr (0, 400), .inr (0, 400), .inr (0, 60), .inr (0, 60)]) rfl ?_
    refine X_putr (r := 11) (ty := .array .int) C 29 rfl nc_8 inM_8 (by decide) tyX8 tyX8_ok nmX8 (mc wd_95) rfl I rfl (by decide +kernel) (fun _ => ⟨rfl, rfl⟩) rfl dX8_init_143 ?_
    refine X_S (S' := [.inl (8, [some 2, some 3, none, none, some 4, some 5, some 6, some 7, some 8, some 9, some 10, none, none, none, none, none, none, none, none, none, none, none, none, none, none, none, none, none, some 11, some 12, some 0, some 0, some 0, some 0, some 0, some 0, none, some 0, some 0, some 0, some 0, none, some 0, some 0, some 0, none, some 0, some 0, some 0, some 0, some 0, some 0, none, some 0, none, none, some 0]), .inr (0, 6), .inr (0, 4), .inr (0, 400), .inr (0, 400), .inr (0, 400), .inr (0, 400), .inr (0, 400), .inr (0, 400), .inr (0, 400), .inr (0, 60), .inr (0, 60)]) rfl ?_
    refine X_aload_n C 0 dX8_init_146 rfl rfl ?_
    refine X_bipush (v := (60:Int32)) C dX8_init_147 (by decide) ?_
    refine X_newa (ty := .int) (N := 60) (n0 := 1) C hX 0 12 rfl (by decide) (by decide) rfl rfl (fun _ => rfl) hra_I rfl (mc wd_567) (by decide) (by decide) (by decide) (fun _ => rfl) rfl rfl (by decide) dX8_init_149 ?_
    refine X_S (S' := [.inl (8, [some 2, some 3, none, none, some 4, some 5, some 6, some 7, some 8, some 9, some 10, none, none, none, none, none, none, none, none, none, none, none, none, none, none, none, none, none, some 11, some 12, some 0, some 0, some 0, some 0, some 0, some 0, none, some 0, some 0, some 0, some 0, none, some 0, some 0, some 0, none, some 0, some 0, some 0, some 0, some 0, some 0, none, some 0, none, none, some 0]), .inr (0, 6), .inr (0, 4), .inr (0, 400), .inr (0, 400), .inr (0, 400), .inr (0, 400), .inr (0, 400), .inr (0, 400), .inr (0, 400), .inr (0, 60), .inr (0, 60), .inr (0, 60)]) rfl ?_
    refine X_putr (r := 12) (ty := .array .int) C 30 rfl nc_8 inM_8 (by decide) tyX8 tyX8_ok nmX8 (mc wd_97) rfl I rfl (by decide +kernel) (fun _ => ⟨rfl, rfl⟩) rfl dX8_init_151 ?_
    refine X_S (S' := [.inl (8, [some 2, some 3, none, none, some 4, some 5, some 6, some 7, some 8, some 9, some 10, none, none, none, none, none, none, none, none, none, none, none, none, none, none, none, none, none, some 11, some 12, some 13, some 0, some 0, some 0, some 0, some 0, none, some 0, some 0, some 0, some 0, none, some 0, some 0, some 0, none, some 0, some 0, some 0, some 0, some 0, some 0, none, some 0, none, none, some 0]), .inr (0, 6), .inr (0, 4), .inr (0, 400), .inr (0, 400), .inr (0, 400), .inr (0, 400), .inr (0, 400), .inr (0, 400), .inr (0, 400), .inr (0, 60), .inr (0, 60), .inr (0, 60)]) rfl ?_
    refine X_aload_n C 0 dX8_init_154 rfl rfl ?_
    refine X_bipush (v := (60:Int32)) C dX8_init_155 (by decide) ?_
    refine X_newa (ty := .int) (N := 60) (n0 := 1) C hX 0 13 rfl (by decide) (by decide) rfl rfl (fun _ => rfl) hra_I rfl (mc wd_567) (by decide) (by decide) (by decide) (fun _ => rfl) rfl rfl (by decide) dX8_init_157 ?_
    refine X_S (S' := [.inl (8, [some 2, some 3, none, none, some 4, some 5, some 6, some 7, some 8, some 9, some 10, none, none, none, none, none, none, none, none, none, none, none, none, none, none, none, none, none, some 11, some 12, some 13, some 0, some 0, some 0, some 0, some 0, none, some 0, some 0, some 0, some 0, none, some 0, some 0, some 0, none, some 0, some 0, some 0, some 0, some 0, some 0, none, some 0, none, none, some 0]), .inr (0, 6), .inr (0, 4), .inr (0, 400), .inr (0, 400), .inr (0, 400), .inr (0, 400), .inr (0, 400), .inr (0, 400), .inr (0, 400), .inr (0, 60), .inr (0, 60), .inr (0, 60), .inr (0, 60)]) rfl ?_
    refine X_putr (r := 13) (ty := .array .int) C 31 rfl nc_8 inM_8 (by decide) tyX8 tyX8_ok nmX8 (mc wd_99) rfl I rfl (by decide +kernel) (fun _ => ⟨rfl, rfl⟩) rfl dX8_init_159 ?_
    refine X_S (S' := [.inl (8, [some 2, some 3, none, none, some 4, some 5, some 6, some 7, some 8, some 9, some 10, none, none, none, none, none, none, none, none, none, none, none, none, none, none, none, none, none, some 11, some 12, some 13, some 14, some 0, some 0, some 0, some 0, none, some 0, some 0, some 0, some 0, none, some 0, some 0, some 0, none, some 0, some 0, some 0, some 0, some 0, some 0, none, some 0, none, none, some 0]), .inr (0, 6), .inr (0, 4), .inr (0, 400), .inr (0, 400), .inr (0, 400), .inr (0, 400), .inr (0, 400), .inr (0, 400), .inr (0, 400), .inr (0, 60), .inr (0, 60), .inr (0, 60), .inr (0, 60)]) rfl ?_
    refine X_aload_n C 0 dX8_init_162 rfl rfl ?_
    refine X_bipush (v := (60:Int32)) C dX8_init_163 (by decide) ?_
    refine X_newa (ty := .int) (N := 60) (n0 := 1) C hX 0 14 rfl (by decide) (by decide) rfl rfl (fun _ => rfl) hra_I rfl (mc wd_567) (by decide) (by decide) (by decide) (fun _ => rfl) rfl rfl (by decide) dX8_init_165 ?_
    refine X_S (S' := [.inl (8, [some 2, some 3, none, none, some 4, some 5, some 6, some 7, some 8, some 9, some 10, none, none, none, none, none, none, none, none, none, none, none, none, none, none, none, none, none, some 11, some 12, some 13, some 14, some 0, some 0, some 0, some 0, none, some 0, some 0, some 0, some 0, none, some 0, some 0, some 0, none, some 0, some 0, some 0, some 0, some 0, some 0, none, some 0, none, none, some 0]), .inr (0, 6), .inr (0, 4), .inr (0, 400), .inr (0, 400), .inr (0, 400), .inr (0, 400), .inr (0, 400), .inr (0, 400), .inr (0, 400), .inr (0, 60), .inr (0, 60), .inr (0, 60), .inr (0, 60), .inr (0, 60)]) rfl ?_
    refine X_putr (r := 14) (ty := .array .int) C 32 rfl nc_8 inM_8 (by decide) tyX8 tyX8_ok nmX8 (mc wd_101) rfl I rfl (by decide +kernel) (fun _ => ⟨rfl, rfl⟩) rfl dX8_init_167 ?_
    refine X_S (S' := [.inl (8, [some 2, some 3, none, none, some 4, some 5, some 6, some 7, some 8, some 9, some 10, none, none, none, none, none, none, none, none, none, none, none, none, none, none, none, none, none, some 11, some 12, some 13, some 14, some 15, some 0, some 0, some 0, none, some 0, some 0, some 0, some 0, none, some 0, some 0, some 0, none, some 0, some 0, some 0, some 0, some 0, some 0, none, some 0, none, none, some 0]), .inr (0, 6), .inr (0, 4), .inr (0, 400), .inr (0, 400), .inr (0, 400), .inr (0, 400), .inr (0, 400), .inr (0, 400), .inr (0, 400), .inr (0, 60), .inr (0, 60), .inr (0, 60), .inr (0, 60), .inr (0, 60)]) rfl ?_
    refine X_aload_n C 0 dX8_init_170 rfl rfl ?_
    refine X_bipush (v := (60:Int32)) C dX8_init_171 (by decide) ?_
    refine X_newa (ty := .int) (N := 60) (n0 := 1) C hX 0 15 rfl (by decide) (by decide) rfl rfl (fun _ => rfl) hra_I rfl (mc wd_567) (by decide) (by decide) (by decide) (fun _ => rfl) rfl rfl (by decide) dX8_init_173 ?_
    refine X_S (S' := [.inl (8, [some 2, some 3, none, none, some 4, some 5, some 6, some 7, some 8, some 9, some 10, none, none, none, none, none, none, none, none, none, none, none, none, none, none, none, none, none, some 11, some 12, some 13, some 14, some 15, some 0, some 0, some 0, none, some 0, some 0, some 0, some 0, none, some 0, some 0, some 0, none, some 0, some 0, some 0, some 0, some 0, some 0, none, some 0, none, none, some 0]), .inr (0, 6), .inr (0, 4), .inr (0, 400), .inr (0, 400), .inr (0, 400), .inr (0, 400), .inr (0, 400), .inr (0, 400), .inr (0, 400), .inr (0, 60), .inr (0, 60), .inr (0, 60), .inr (0, 60), .inr (0, 60), .inr (0, 60)]) rfl ?_
    refine X_putr (r := 15) (ty := .array .int) C 33 rfl nc_8 inM_8 (by decide) tyX8 tyX8_ok nmX8 (mc wd_103) rfl I rfl (by decide +kernel) (fun _ => ⟨rfl, rfl⟩) rfl dX8_init_175 ?_
    refine X_S (S' := [.inl (8, [some 2, some 3, none, none, some 4, some 5, some 6, some 7, some 8, some 9, some 10, none, none, none, none, none, none, none, none, none, none, none, none, none, none, none, none, none, some 11, some 12, some 13, some 14, some 15, some 16, some 0, some 0, none, some 0, some 0, some 0, some 0, none, some 0, some 0, some 0, none, some 0, some 0, some 0, some 0, some 0, some 0, none, some 0, none, none, some 0]), .inr (0, 6), .inr (0, 4), .inr (0, 400), .inr (0, 400), .inr (0, 400), .inr (0, 400), .inr (0, 400), .inr (0, 400), .inr (0, 400), .inr (0, 60), .inr (0, 60), .inr (0, 60), .inr (0, 60), .inr (0, 60), .inr (0, 60)]) rfl ?_
    refine X_aload_n C 0 dX8_init_178 rfl rfl ?_
    refine X_iconst (v := (3:Int32)) C dX8_init_179 (by decide) ?_
    refine X_newa (ty := .int) (N := 3) (n0 := 1) C hX 0 16 rfl (by decide) (by decide) rfl rfl (fun _ => rfl) hra_I rfl (mc wd_567) (by decide) (by decide) (by decide) (fun _ => rfl) rfl rfl (by decide) dX8_init_180 ?_
    refine X_S (S' := [.inl (8, [some 2, some 3, none, none, some 4, some 5, some 6, some 7, some 8, some 9, some 10, none, none, none, none, none, none, none, none, none, none, none, none, none, none, none, none, none, some 11, some 12, some 13, some 14, some 15, some 16, some 0, some 0, none, some 0, some 0, some 0, some 0, none, some 0, some 0, some 0, none, some 0, some 0, some 0, some 0, some 0, some 0, none, some 0, none, none, some 0]), .inr (0, 6), .inr (0, 4), .inr (0, 400), .inr (0, 400), .inr (0, 400), .inr (0, 400), .inr (0, 400), .inr (0, 400), .inr (0, 400), .inr (0, 60), .inr (0, 60), .inr (0, 60), .inr (0, 60), .inr (0, 60), .inr (0, 60), .inr (0, 3)]) rfl ?_
    refine X_dup C dX8_init_182 rfl ?_
    refine X_iconst (v := (0:Int32)) C dX8_init_183 (by decide) ?_
    refine X_iconst (v := (-1:Int32)) C dX8_init_184 (by decide) ?_
    refine X_iast0 C 0 rfl (by decide) (by decide) dX8_init_185 ?_
    refine X_g (σ' := g_X8_init_9) rfl ?_
    refine X_dup C dX8_init_186 rfl ?_
    refine X_iconst (v := (1:Int32)) C dX8_init_187 (by decide) ?_
    refine X_iconst (v := (-1:Int32)) C dX8_init_188 (by decide) ?_
    refine X_iast0 C 1 rfl (by decide) (by decide) dX8_init_189 ?_
    refine X_g (σ' := g_X8_init_10) rfl ?_
    refine X_dup C dX8_init_190 rfl ?_
    refine X_iconst (v := (2:Int32)) C dX8_init_191 (by decide) ?_
    refine X_iconst (v := (-1:Int32)) C dX8_init_192 (by decide) ?_
    refine X_iast0 C 2 rfl (by decide) (by decide) dX8_init_193 ?_
    refine X_g (σ' := g_X8_init_11) rfl ?_
    refine X_putr (r := 16) (ty := .array .int) C 34 rfl nc_8 inM_8 (by decide) tyX8 tyX8_ok nmX8 (mc wd_108) rfl I rfl (by decide +kernel) (fun _ => ⟨rfl, rfl⟩) rfl dX8_init_194 ?_
    refine X_S (S' := [.inl (8, [some 2, some 3, none, none, some 4, some 5, some 6, some 7, some 8, some 9, some 10, none, none, none, none, none, none, none, none, none, none, none, none, none, none, none, none, none, some 11, some 12, some 13, some 14, some 15, some 16, some 17, some 0, none, some 0, some 0, some 0, some 0, none, some 0, some 0, some 0, none, some 0, some 0, some 0, some 0, some 0, some 0, none, some 0, none, none, some 0]), .inr (0, 6), .inr (0, 4), .inr (0, 400), .inr (0, 400), .inr (0, 400), .inr (0, 400), .inr (0, 400), .inr (0, 400), .inr (0, 400), .inr (0, 60), .inr (0, 60), .inr (0, 60), .inr (0, 60), .inr (0, 60), .inr (0, 60), .inr (0, 3)]) rfl ?_
    refine X_aload_n C 0 dX8_init_197 rfl rfl ?_
    refine X_iconst (v := (3:Int32)) C dX8_init_198 (by decide) ?_
    refine X_newa (ty := .int) (N := 3) (n0 := 1) C hX 0 17 rfl (by decide) (by decide) rfl rfl (fun _ => rfl) hra_I rfl (mc wd_567) (by decide) (by decide) (by decide) (fun _ => rfl) rfl rfl (by decide) dX8_init_199 ?_
    refine X_S (S' := [.inl (8, [some 2, some 3, none, none, some 4, some 5, some 6, some 7, some 8, some 9, some 10, none, none, none, none, none, none, none, none, none, none, none, none, none, none, none, none, none, some 11, some 12, some 13, some 14, some 15, some 16, some 17, some 0, none, some 0, some 0, some 0, some 0, none, some 0, some 0, some 0, none, some 0, some 0, some 0, some 0, some 0, some 0, none, some 0, none, none, some 0]), .inr (0, 6), .inr (0, 4), .inr (0, 400), .inr (0, 400), .inr (0, 400), .inr (0, 400), .inr (0, 400), .inr (0, 400), .inr (0, 400), .inr (0, 60), .inr (0, 60), .inr (0, 60), .inr (0, 60), .inr (0, 60), .inr (0, 60), .inr (0, 3), .inr (0, 3)]) rfl ?_
    refine X_putr (r := 17) (ty := .array .int) C 35 rfl nc_8 inM_8 (by decide) tyX8 tyX8_ok nmX8 (mc wd_109) rfl I rfl (by decide +kernel) (fun _ => ⟨rfl, rfl⟩) rfl dX8_init_201 ?_
    refine X_S (S' := [.inl (8, [some 2, some 3, none, none, some 4, some 5, some 6, some 7, some 8, some 9, some 10, none, none, none, none, none, none, none, none, none, none, none, none, none, none, none, none, none, some 11, some 12, some 13, some 14, some 15, some 16, some 17, some 18, none, some 0, some 0, some 0, some 0, none, some 0, some 0, some 0, none, some 0, some 0, some 0, some 0, some 0, some 0, none, some 0, none, none, some 0]), .inr (0, 6), .inr (0, 4), .inr (0, 400), .inr (0, 400), .inr (0, 400), .inr (0, 400), .inr (0, 400), .inr (0, 400), .inr (0, 400), .inr (0, 60), .inr (0, 60), .inr (0, 60), .inr (0, 60), .inr (0, 60), .inr (0, 60), .inr (0, 3), .inr (0, 3)]) rfl ?_
    refine X_aload_n C 0 dX8_init_204 rfl rfl ?_
    refine X_bipush (v := (8:Int32)) C dX8_init_205 (by decide) ?_
    refine X_newa (ty := .int) (N := 8) (n0 := 1) C hX 0 18 rfl (by decide) (by decide) rfl rfl (fun _ => rfl) hra_I rfl (mc wd_567) (by decide) (by decide) (by decide) (fun _ => rfl) rfl rfl (by decide) dX8_init_207 ?_
    refine X_S (S' := [.inl (8, [some 2, some 3, none, none, some 4, some 5, some 6, some 7, some 8, some 9, some 10, none, none, none, none, none, none, none, none, none, none, none, none, none, none, none, none, none, some 11, some 12, some 13, some 14, some 15, some 16, some 17, some 18, none, some 0, some 0, some 0, some 0, none, some 0, some 0, some 0, none, some 0, some 0, some 0, some 0, some 0, some 0, none, some 0, none, none, some 0]), .inr (0, 6), .inr (0, 4), .inr (0, 400), .inr (0, 400), .inr (0, 400), .inr (0, 400), .inr (0, 400), .inr (0, 400), .inr (0, 400), .inr (0, 60), .inr (0, 60), .inr (0, 60), .inr (0, 60), .inr (0, 60), .inr (0, 60), .inr (0, 3), .inr (0, 3), .inr (0, 8)]) rfl ?_
    refine X_putr (r := 18) (ty := .array .int) C 37 rfl nc_8 inM_8 (by decide) tyX8 tyX8_ok nmX8 (mc wd_115) rfl I rfl (by decide +kernel) (fun _ => ⟨rfl, rfl⟩) rfl dX8_init_209 ?_
    refine X_S (S' := [.inl (8, [some 2, some 3, none, none, some 4, some 5, some 6, some 7, some 8, some 9, some 10, none, none, none, none, none, none, none, none, none, none, none, none, none, none, none, none, none, some 11, some 12, some 13, some 14, some 15, some 16, some 17, some 18, none, some 19, some 0, some 0, some 0, none, some 0, some 0, some 0, none, some 0, some 0, some 0, some 0, some 0, some 0, none, some 0, none, none, some 0]), .inr (0, 6), .inr (0, 4), .inr (0, 400), .inr (0, 400), .inr (0, 400), .inr (0, 400), .inr (0, 400), .inr (0, 400), .inr (0, 400), .inr (0, 60), .inr (0, 60), .inr (0, 60), .inr (0, 60), .inr (0, 60), .inr (0, 60), .inr (0, 3), .inr (0, 3), .inr (0, 8)]) rfl ?_
    refine X_aload_n C 0 dX8_init_212 rfl rfl ?_
    refine X_bipush (v := (8:Int32)) C dX8_init_213 (by decide) ?_
    refine X_newa (ty := .boolean) (N := 8) (n0 := 1) C hX 1 19 rfl (by decide) (by decide) rfl rfl (fun _ => rfl) hra_Z rfl (mc wd_568) (by decide) (by decide) (by decide) (fun _ => rfl) rfl rfl (by decide) dX8_init_215 ?_
    refine X_S (S' := [.inl (8, [some 2, some 3, none, none, some 4, some 5, some 6, some 7, some 8, some 9, some 10, none, none, none, none, none, none, none, none, none, none, none, none, none, none, none, none, none, some 11, some 12, some 13, some 14, some 15, some 16, some 17, some 18, none, some 19, some 0, some 0, some 0, none, some 0, some 0, some 0, none, some 0, some 0, some 0, some 0, some 0, some 0, none, some 0, none, none, some 0]), .inr (0, 6), .inr (0, 4), .inr (0, 400), .inr (0, 400), .inr (0, 400), .inr (0, 400), .inr (0, 400), .inr (0, 400), .inr (0, 400), .inr (0, 60), .inr (0, 60), .inr (0, 60), .inr (0, 60), .inr (0, 60), .inr (0, 60), .inr (0, 3), .inr (0, 3), .inr (0, 8), .inr (1, 8)]) rfl ?_
    refine X_putr (r := 19) (ty := .array .boolean) C 38 rfl nc_8 inM_8 (by decide) tyX8 tyX8_ok nmX8 (mc wd_116) rfl I rfl (by decide +kernel) (fun _ => ⟨rfl, rfl⟩) rfl dX8_init_217 ?_
    refine X_S (S' := [.inl (8, [some 2, some 3, none, none, some 4, some 5, some 6, some 7, some 8, some 9, some 10, none, none, none, none, none, none, none, none, none, none, none, none, none, none, none, none, none, some 11, some 12, some 13, some 14, some 15, some 16, some 17, some 18, none, some 19, some 20, some 0, some 0, none, some 0, some 0, some 0, none, some 0, some 0, some 0, some 0, some 0, some 0, none, some 0, none, none, some 0]), .inr (0, 6), .inr (0, 4), .inr (0, 400), .inr (0, 400), .inr (0, 400), .inr (0, 400), .inr (0, 400), .inr (0, 400), .inr (0, 400), .inr (0, 60), .inr (0, 60), .inr (0, 60), .inr (0, 60), .inr (0, 60), .inr (0, 60), .inr (0, 3), .inr (0, 3), .inr (0, 8), .inr (1, 8)]) rfl ?_
    refine X_aload_n C 0 dX8_init_220 rfl rfl ?_
    refine X_bipush (v := (8:Int32)) C dX8_init_221 (by decide) ?_
    refine X_newa (ty := .int) (N := 8) (n0 := 1) C hX 0 20 rfl (by decide) (by decide) rfl rfl (fun _ => rfl) hra_I rfl (mc wd_567) (by decide) (by decide) (by decide) (fun _ => rfl) rfl rfl (by decide) dX8_init_223 ?_
    refine X_S (S' := [.inl (8, [some 2, some 3, none, none, some 4, some 5, some 6, some 7, some 8, some 9, some 10, none, none, none, none, none, none, none, none, none, none, none, none, none, none, none, none, none, some 11, some 12, some 13, some 14, some 15, some 16, some 17, some 18, none, some 19, some 20, some 0, some 0, none, some 0, some 0, some 0, none, some 0, some 0, some 0, some 0, some 0, some 0, none, some 0, none, none, some 0]), .inr (0, 6), .inr (0, 4), .inr (0, 400), .inr (0, 400), .inr (0, 400), .inr (0, 400), .inr (0, 400), .inr (0, 400), .inr (0, 400), .inr (0, 60), .inr (0, 60), .inr (0, 60), .inr (0, 60), .inr (0, 60), .inr (0, 60), .inr (0, 3), .inr (0, 3), .inr (0, 8), .inr (1, 8), .inr (0, 8)]) rfl ?_
    refine X_putr (r := 20) (ty := .array .int) C 39 rfl nc_8 inM_8 (by decide) tyX8 tyX8_ok nmX8 (mc wd_117) rfl I rfl (by decide +kernel) (fun _ => ⟨rfl, rfl⟩) rfl dX8_init_225 ?_
    refine X_S (S' := [.inl (8, [some 2, some 3, none, none, some 4, some 5, some 6, some 7, some 8, some 9, some 10, none, none, none, none, none, none, none, none, none, none, none, none, none, none, none, none, none, some 11, some 12, some 13, some 14, some 15, some 16, some 17, some 18, none, some 19, some 20, some 21, some 0, none, some 0, some 0, some 0, none, some 0, some 0, some 0, some 0, some 0, some 0, none, some 0, none, none, some 0]), .inr (0, 6), .inr (0, 4), .inr (0, 400), .inr (0, 400), .inr (0, 400), .inr (0, 400), .inr (0, 400), .inr (0, 400), .inr (0, 400), .inr (0, 60), .inr (0, 60), .inr (0, 60), .inr (0, 60), .inr (0, 60), .inr (0, 60), .inr (0, 3), .inr (0, 3), .inr (0, 8), .inr (1, 8), .inr (0, 8)]) rfl ?_
    refine X_aload_n C 0 dX8_init_228 rfl rfl ?_
    refine X_bipush (v := (8:Int32)) C dX8_init_229 (by decide) ?_
    refine X_newa (ty := .int) (N := 8) (n0 := 1) C hX 0 21 rfl (by decide) (by decide) rfl rfl (fun _ => rfl) hra_I rfl (mc wd_567) (by decide) (by decide) (by decide) (fun _ => rfl) rfl rfl (by decide) dX8_init_231 ?_
    refine X_S (S' := [.inl (8, [some 2, some 3, none, none, some 4, some 5, some 6, some 7, some 8, some 9, some 10, none, none, none, none, none, none, none, none, none, none, none, none, none, none, none, none, none, some 11, some 12, some 13, some 14, some 15, some 16, some 17, some 18, none, some 19, some 20, some 21, some 0, none, some 0, some 0, some 0, none, some 0, some 0, some 0, some 0, some 0, some 0, none, some 0, none, none, some 0]), .inr (0, 6), .inr (0, 4), .inr (0, 400), .inr (0, 400), .inr (0, 400), .inr (0, 400), .inr (0, 400), .inr (0, 400), .inr (0, 400), .inr (0, 60), .inr (0, 60), .inr (0, 60), .inr (0, 60), .inr (0, 60), .inr (0, 60), .inr (0, 3), .inr (0, 3), .inr (0, 8), .inr (1, 8), .inr (0, 8), .inr (0, 8)]) rfl ?_
    refine X_putr (r := 21) (ty := .array .int) C 40 rfl nc_8 inM_8 (by decide) tyX8 tyX8_ok nmX8 (mc wd_118) rfl I rfl (by decide +kernel) (fun _ => ⟨rfl, rfl⟩) rfl dX8_init_233 ?_
    refine X_S (S' := [.inl (8, [some 2, some 3, none, none, some 4, some 5, some 6, some 7, some 8, some 9, some 10, none, none, none, none, none, none, none, none, none, none, none, none, none, none, none, none, none, some 11, some 12, some 13, some 14, some 15, some 16, some 17, some 18, none, some 19, some 20, some 21, some 22, none, some 0, some 0, some 0, none, some 0, some 0, some 0, some 0, some 0, some 0, none, some 0, none, none, some 0]), .inr (0, 6), .inr (0, 4), .inr (0, 400), .inr (0, 400), .inr (0, 400), .inr (0, 400), .inr (0, 400), .inr (0, 400), .inr (0, 400), .inr (0, 60), .inr (0, 60), .inr (0, 60), .inr (0, 60), .inr (0, 60), .inr (0, 60), .inr (0, 3), .inr (0, 3), .inr (0, 8), .inr (1, 8), .inr (0, 8), .inr (0, 8)]) rfl ?_
    refine X_aload_n C 0 dX8_init_236 rfl rfl ?_
    refine X_iconst (v := (3:Int32)) C dX8_init_237 (by decide) ?_
    refine X_newa (ty := .int) (N := 3) (n0 := 1) C hX 0 22 rfl (by decide) (by decide) rfl rfl (fun _ => rfl) hra_I rfl (mc wd_567) (by decide) (by decide) (by decide) (fun _ => rfl) rfl rfl (by decide) dX8_init_238 ?_
    refine X_S (S' := [.inl (8, [some 2, some 3, none, none, some 4, some 5, some 6, some 7, some 8, some 9, some 10, none, none, none, none, none, none, none, none, none, none, none, none, none, none, none, none, none, some 11, some 12, some 13, some 14, some 15, some 16, some 17, some 18, none, some 19, some 20, some 21, some 22, none, some 0, some 0, some 0, none, some 0, some 0, some 0, some 0, some 0, some 0, none, some 0, none, none, some 0]), .inr (0, 6), .inr (0, 4), .inr (0, 400), .inr (0, 400), .inr (0, 400), .inr (0, 400), .inr (0, 400), .inr (0, 400), .inr (0, 400), .inr (0, 60), .inr (0, 60), .inr (0, 60), .inr (0, 60), .inr (0, 60), .inr (0, 60), .inr (0, 3), .inr (0, 3), .inr (0, 8), .inr (1, 8), .inr (0, 8), .inr (0, 8), .inr (0, 3)]) rfl ?_
    refine X_putr (r := 22) (ty := .array .int) C 42 rfl nc_8 inM_8 (by decide) tyX8 tyX8_ok nmX8 (mc wd_120) rfl I rfl (by decide +kernel) (fun _ => ⟨rfl, rfl⟩) rfl dX8_init_240 ?_
    refine X_S (S' := [.inl (8, [some 2, some 3, none, none, some 4, some 5, some 6, some 7, some 8, some 9, some 10, none, none, none, none, none, none, none, none, none, none, none, none, none, none, none, none, none, some 11, some 12, some 13, some 14, some 15, some 16, some 17, some 18, none, some 19, some 20, some 21, some 22, none, some 23, some 0, some 0, none, some 0, some 0, some 0, some 0, some 0, some 0, none, some 0, none, none, some 0]), .inr (0, 6), .inr (0, 4), .inr (0, 400), .inr (0, 400), .inr (0, 400), .inr (0, 400), .inr (0, 400), .inr (0, 400), .inr (0, 400), .inr (0, 60), .inr (0, 60), .inr (0, 60), .inr (0, 60), .inr (0, 60), .inr (0, 60), .inr (0, 3), .inr (0, 3), .inr (0, 8), .inr (1, 8), .inr (0, 8), .inr (0, 8), .inr (0, 3)]) rfl ?_
    refine X_aload_n C 0 dX8_init_243 rfl rfl ?_
    refine X_iconst (v := (3:Int32)) C dX8_init_244 (by decide) ?_
    refine X_newa (ty := .int) (N := 3) (n0 := 1) C hX 0 23 rfl (by decide) (by decide) rfl rfl (fun _ => rfl) hra_I rfl (mc wd_567) (by decide) (by decide) (by decide) (fun _ => rfl) rfl rfl (by decide) dX8_init_245 ?_
    refine X_S (S' := [.inl (8, [some 2, some 3, none, none, some 4, some 5, some 6, some 7, some 8, some 9, some 10, none, none, none, none, none, none, none, none, none, none, none, none, none, none, none, none, none, some 11, some 12, some 13, some 14, some 15, some 16, some 17, some 18, none, some 19, some 20, some 21, some 22, none, some 23, some 0, some 0, none, some 0, some 0, some 0, some 0, some 0, some 0, none, some 0, none, none, some 0]), .inr (0, 6), .inr (0, 4), .inr (0, 400), .inr (0, 400), .inr (0, 400), .inr (0, 400), .inr (0, 400), .inr (0, 400), .inr (0, 400), .inr (0, 60), .inr (0, 60), .inr (0, 60), .inr (0, 60), .inr (0, 60), .inr (0, 60), .inr (0, 3), .inr (0, 3), .inr (0, 8), .inr (1, 8), .inr (0, 8), .inr (0, 8), .inr (0, 3), .inr (0, 3)]) rfl ?_
    refine X_putr (r := 23) (ty := .array .int) C 43 rfl nc_8 inM_8 (by decide) tyX8 tyX8_ok nmX8 (mc wd_121) rfl I rfl (by decide +kernel) (fun _ => ⟨rfl, rfl⟩) rfl dX8_init_247 ?_
    refine X_S (S' := [.inl (8, [some 2, some 3, none, none, some 4, some 5, some 6, some 7, some 8, some 9, some 10, none, none, none, none, none, none, none, none, none, none, none, none, none, none, none, none, none, some 11, some 12, some 13, some 14, some 15, some 16, some 17, some 18, none, some 19, some 20, some 21, some 22, none, some 23, some 24, some 0, none, some 0, some 0, some 0, some 0, some 0, some 0, none, some 0, none, none, some 0]), .inr (0, 6), .inr (0, 4), .inr (0, 400), .inr (0, 400), .inr (0, 400), .inr (0, 400), .inr (0, 400), .inr (0, 400), .inr (0, 400), .inr (0, 60), .inr (0, 60), .inr (0, 60), .inr (0, 60), .inr (0, 60), .inr (0, 60), .inr (0, 3), .inr (0, 3), .inr (0, 8), .inr (1, 8), .inr (0, 8), .inr (0, 8), .inr (0, 3), .inr (0, 3)]) rfl ?_
    refine X_aload_n C 0 dX8_init_250 rfl rfl ?_
    refine X_iconst (v := (3:Int32)) C dX8_init_251 (by decide) ?_
    refine X_newa (ty := .int) (N := 3) (n0 := 1) C hX 0 24 rfl (by decide) (by decide) rfl rfl (fun _ => rfl) hra_I rfl (mc wd_567) (by decide) (by decide) (by decide) (fun _ => rfl) rfl rfl (by decide) dX8_init_252 ?_
    refine X_S (S' := [.inl (8, [some 2, some 3, none, none, some 4, some 5, some 6, some 7, some 8, some 9, some 10, none, none, none, none, none, none, none, none, none, none, none, none, none, none, none, none, none, some 11, some 12, some 13, some 14, some 15, some 16, some 17, some 18, none, some 19, some 20, some 21, some 22, none, some 23, some 24, some 0, none, some 0, some 0, some 0, some 0, some 0, some 0, none, some 0, none, none, some 0]), .inr (0, 6), .inr (0, 4), .inr (0, 400), .inr (0, 400), .inr (0, 400), .inr (0, 400), .inr (0, 400), .inr (0, 400), .inr (0, 400), .inr (0, 60), .inr (0, 60), .inr (0, 60), .inr (0, 60), .inr (0, 60), .inr (0, 60), .inr (0, 3), .inr (0, 3), .inr (0, 8), .inr (1, 8), .inr (0, 8), .inr (0, 8), .inr (0, 3), .inr (0, 3), .inr (0, 3)]) rfl ?_
    refine X_putr (r := 24) (ty := .array .int) C 44 rfl nc_8 inM_8 (by decide) tyX8 tyX8_ok nmX8 (mc wd_122) rfl I rfl (by decide +kernel) (fun _ => ⟨rfl, rfl⟩) rfl dX8_init_254 ?_
    refine X_S (S' := [.inl (8, [some 2, some 3, none, none, some 4, some 5, some 6, some 7, some 8, some 9, some 10, none, none, none, none, none, none, none, none, none, none, none, none, none, none, none, none, none, some 11, some 12, some 13, some 14, some 15, some 16, some 17, some 18, none, some 19, some 20, some 21, some 22, none, some 23, some 24, some 25, none, some 0, some 0, some 0, some 0, some 0, some 0, none, some 0, none, none, some 0]), .inr (0, 6), .inr (0, 4), .inr (0, 400), .inr (0, 400), .inr (0, 400), .inr (0, 400), .inr (0, 400), .inr (0, 400), .inr (0, 400), .inr (0, 60), .inr (0, 60), .inr (0, 60), .inr (0, 60), .inr (0, 60), .inr (0, 60), .inr (0, 3), .inr (0, 3), .inr (0, 8), .inr (1, 8), .inr (0, 8), .inr (0, 8), .inr (0, 3), .inr (0, 3), .inr (0, 3)]) rfl ?_
    refine X_aload_n C 0 dX8_init_257 rfl rfl ?_
    refine X_bipush (v := (12:Int32)) C dX8_init_258 (by decide) ?_
    refine X_newa (ty := .int) (N := 12) (n0 := 1) C hX 0 25 rfl (by decide) (by decide) rfl rfl (fun _ => rfl) hra_I rfl (mc wd_567) (by decide) (by decide) (by decide) (fun _ => rfl) rfl rfl (by decide) dX8_init_260 ?_
    refine X_S (S' := [.inl (8, [some 2, some 3, none, none, some 4, some 5, some 6, some 7, some 8, some 9, some 10, none, none, none, none, none, none, none, none, none, none, none, none, none, none, none, none, none, some 11, some 12, some 13, some 14, some 15, some 16, some 17, some 18, none, some 19, some 20, some 21, some 22, none, some 23, some 24, some 25, none, some 0, some 0, some 0, some 0, some 0, some 0, none, some 0, none, none, some 0]), .inr (0, 6), .inr (0, 4), .inr (0, 400), .inr (0, 400), .inr (0, 400), .inr (0, 400), .inr (0, 400), .inr (0, 400), .inr (0, 400), .inr (0, 60), .inr (0, 60), .inr (0, 60), .inr (0, 60), .inr (0, 60), .inr (0, 60), .inr (0, 3), .inr (0, 3), .inr (0, 8), .inr (1, 8), .inr (0, 8), .inr (0, 8), .inr (0, 3), .inr (0, 3), .inr (0, 3), .inr (0, 12)]) rfl ?_
    refine X_putr (r := 25) (ty := .array .int) C 46 rfl nc_8 inM_8 (by decide) tyX8 tyX8_ok nmX8 (mc wd_128) rfl I rfl (by decide +kernel) (fun _ => ⟨rfl, rfl⟩) rfl dX8_init_262 ?_
    refine X_S (S' := [.inl (8, [some 2, some 3, none, none, some 4, some 5, some 6, some 7, some 8, some 9, some 10, none, none, none, none, none, none, none, none, none, none, none, none, none, none, none, none, none, some 11, some 12, some 13, some 14, some 15, some 16, some 17, some 18, none, some 19, some 20, some 21, some 22, none, some 23, some 24, some 25, none, some 26, some 0, some 0, some 0, some 0, some 0, none, some 0, none, none, some 0]), .inr (0, 6), .inr (0, 4), .inr (0, 400), .inr (0, 400), .inr (0, 400), .inr (0, 400), .inr (0, 400), .inr (0, 400), .inr (0, 400), .inr (0, 60), .inr (0, 60), .inr (0, 60), .inr (0, 60), .inr (0, 60), .inr (0, 60), .inr (0, 3), .inr (0, 3), .inr (0, 8), .inr (1, 8), .inr (0, 8), .inr (0, 8), .inr (0, 3), .inr (0, 3), .inr (0, 3), .inr (0, 12)]) rfl ?_
    refine X_aload_n C 0 dX8_init_265 rfl rfl ?_
    refine X_bipush (v := (12:Int32)) C dX8_init_266 (by decide) ?_
    refine X_newa (ty := .int) (N := 12) (n0 := 1) C hX 0 26 rfl (by decide) (by decide) rfl rfl (fun _ => rfl) hra_I rfl (mc wd_567) (by decide) (by decide) (by decide) (fun _ => rfl) rfl rfl (by decide) dX8_init_268 ?_
    refine X_S (S' := [.inl (8, [some 2, some 3, none, none, some 4, some 5, some 6, some 7, some 8, some 9, some 10, none, none, none, none, none, none, none, none, none, none, none, none, none, none, none, none, none, some 11, some 12, some 13, some 14, some 15, some 16, some 17, some 18, none, some 19, some 20, some 21, some 22, none, some 23, some 24, some 25, none, some 26, some 0, some 0, some 0, some 0, some 0, none, some 0, none, none, some 0]), .inr (0, 6), .inr (0, 4), .inr (0, 400), .inr (0, 400), .inr (0, 400), .inr (0, 400), .inr (0, 400), .inr (0, 400), .inr (0, 400), .inr (0, 60), .inr (0, 60), .inr (0, 60), .inr (0, 60), .inr (0, 60), .inr (0, 60), .inr (0, 3), .inr (0, 3), .inr (0, 8), .inr (1, 8), .inr (0, 8), .inr (0, 8), .inr (0, 3), .inr (0, 3), .inr (0, 3), .inr (0, 12), .inr (0, 12)]) rfl ?_
    refine X_putr (r := 26) (ty := .array .int) C 47 rfl nc_8 inM_8 (by decide) tyX8 tyX8_ok nmX8 (mc wd_129) rfl I rfl (by decide +kernel) (fun _ => ⟨rfl, rfl⟩) rfl dX8_init_270 ?_
    refine X_S (S' := [.inl (8, [some 2, some 3, none, none, some 4, some 5, some 6, some 7, some 8, some 9, some 10, none, none, none, none, none, none, none, none, none, none, none, none, none, none, none, none, none, some 11, some 12, some 13, some 14, some 15, some 16, some 17, some 18, none, some 19, some 20, some 21, some 22, none, some 23, some 24, some 25, none, some 26, some 27, some 0, some 0, some 0, some 0, none, some 0, none, none, some 0]), .inr (0, 6), .inr (0, 4), .inr (0, 400), .inr (0, 400), .inr (0, 400), .inr (0, 400), .inr (0, 400), .inr (0, 400), .inr (0, 400), .inr (0, 60), .inr (0, 60), .inr (0, 60), .inr (0, 60), .inr (0, 60), .inr (0, 60), .inr (0, 3), .inr (0, 3), .inr (0, 8), .inr (1, 8), .inr (0, 8), .inr (0, 8), .inr (0, 3), .inr (0, 3), .inr (0, 3), .inr (0, 12), .inr (0, 12)]) rfl ?_
    refine X_aload_n C 0 dX8_init_273 rfl rfl ?_
    refine X_iconst (v := (5:Int32)) C dX8_init_274 (by decide) ?_
    refine X_newa (ty := .int) (N := 5) (n0 := 1) C hX 0 27 rfl (by decide) (by decide) rfl rfl (fun _ => rfl) hra_I rfl (mc wd_567) (by decide) (by decide) (by decide) (fun _ => rfl) rfl rfl (by decide) dX8_init_275 ?_
    refine X_S (S' := [.inl (8, [some 2, some 3, none, none, some 4, some 5, some 6, some 7, some 8, some 9, some 10, none, none, none, none, none, none, none, none, none, none, none, none, none, none, none, none, none, some 11, some 12, some 13, some 14, some 15, some 16, some 17, some 18, none, some 19, some 20, some 21, some 22, none, some 23, some 24, some 25, none, some 26, some 27, some 0, some 0, some 0, some 0, none, some 0, none, none, some 0]), .inr (0, 6), .inr (0, 4), .inr (0, 400), .inr (0, 400), .inr (0, 400), .inr (0, 400), .inr (0, 400), .inr (0, 400), .inr (0, 400), .inr (0, 60), .inr (0, 60), .inr (0, 60), .inr (0, 60), .inr (0, 60), .inr (0, 60), .inr (0, 3), .inr (0, 3), .inr (0, 8), .inr (1, 8), .inr (0, 8), .inr (0, 8), .inr (0, 3), .inr (0, 3), .inr (0, 3), .inr (0, 12), .inr (0, 12), .inr (0, 5)]) rfl ?_
    refine X_putr (r := 27) (ty := .array .int) C 48 rfl nc_8 inM_8 (by decide) tyX8 tyX8_ok nmX8 (mc wd_130) rfl I rfl (by decide +kernel) (fun _ => ⟨rfl, rfl⟩) rfl dX8_init_277 ?_
    refine X_S (S' := [.inl (8, [some 2, some 3, none, none, some 4, some 5, some 6, some 7, some 8, some 9, some 10, none, none, none, none, none, none, none, none, none, none, none, none, none, none, none, none, none, some 11, some 12, some 13, some 14, some 15, some 16, some 17, some 18, none, some 19, some 20, some 21, some 22, none, some 23, some 24, some 25, none, some 26, some 27, some 28, some 0, some 0, some 0, none, some 0, none, none, some 0]), .inr (0, 6), .inr (0, 4), .inr (0, 400), .inr (0, 400), .inr (0, 400), .inr (0, 400), .inr (0, 400), .inr (0, 400), .inr (0, 400), .inr (0, 60), .inr (0, 60), .inr (0, 60), .inr (0, 60), .inr (0, 60), .inr (0, 60), .inr (0, 3), .inr (0, 3), .inr (0, 8), .inr (1, 8), .inr (0, 8), .inr (0, 8), .inr (0, 3), .inr (0, 3), .inr (0, 3), .inr (0, 12), .inr (0, 12), .inr (0, 5)]) rfl ?_
    refine X_aload_n C 0 dX8_init_280 rfl rfl ?_
    refine X_iconst (v := (5:Int32)) C dX8_init_281 (by decide) ?_
    refine X_newa (ty := .int) (N := 5) (n0 := 1) C hX 0 28 rfl (by decide) (by decide) rfl rfl (fun _ => rfl) hra_I rfl (mc wd_567) (by decide) (by decide) (by decide) (fun _ => rfl) rfl rfl (by decide) dX8_init_282 ?_
    refine X_S (S' := [.inl (8, [some 2, some 3, none, none, some 4, some 5, some 6, some 7, some 8, some 9, some 10, none, none, none, none, none, none, none, none, none, none, none, none, none, none, none, none, none, some 11, some 12, some 13, some 14, some 15, some 16, some 17, some 18, none, some 19, some 20, some 21, some 22, none, some 23, some 24, some 25, none, some 26, some 27, some 28, some 0, some 0, some 0, none, some 0, none, none, some 0]), .inr (0, 6), .inr (0, 4), .inr (0, 400), .inr (0, 400), .inr (0, 400), .inr (0, 400), .inr (0, 400), .inr (0, 400), .inr (0, 400), .inr (0, 60), .inr (0, 60), .inr (0, 60), .inr (0, 60), .inr (0, 60), .inr (0, 60), .inr (0, 3), .inr (0, 3), .inr (0, 8), .inr (1, 8), .inr (0, 8), .inr (0, 8), .inr (0, 3), .inr (0, 3), .inr (0, 3), .inr (0, 12), .inr (0, 12), .inr (0, 5), .inr (0, 5)]) rfl ?_
    refine X_putr (r := 28) (ty := .array .int) C 49 rfl nc_8 inM_8 (by decide) tyX8 tyX8_ok nmX8 (mc wd_131) rfl I rfl (by decide +kernel) (fun _ => ⟨rfl, rfl⟩) rfl dX8_init_284 ?_
    refine X_S (S' := [.inl (8, [some 2, some 3, none, none, some 4, some 5, some 6, some 7, some 8, some 9, some 10, none, none, none, none, none, none, none, none, none, none, none, none, none, none, none, none, none, some 11, some 12, some 13, some 14, some 15, some 16, some 17, some 18, none, some 19, some 20, some 21, some 22, none, some 23, some 24, some 25, none, some 26, some 27, some 28, some 29, some 0, some 0, none, some 0, none, none, some 0]), .inr (0, 6), .inr (0, 4), .inr (0, 400), .inr (0, 400), .inr (0, 400), .inr (0, 400), .inr (0, 400), .inr (0, 400), .inr (0, 400), .inr (0, 60), .inr (0, 60), .inr (0, 60), .inr (0, 60), .inr (0, 60), .inr (0, 60), .inr (0, 3), .inr (0, 3), .inr (0, 8), .inr (1, 8), .inr (0, 8), .inr (0, 8), .inr (0, 3), .inr (0, 3), .inr (0, 3), .inr (0, 12), .inr (0, 12), .inr (0, 5), .inr (0, 5)]) rfl ?_
    refine X_aload_n C 0 dX8_init_287 rfl rfl ?_
    refine X_iconst (v := (5:Int32)) C dX8_init_288 (by decide) ?_
    refine X_newa (ty := .int) (N := 5) (n0 := 1) C hX 0 29 rfl (by decide) (by decide) rfl rfl (fun _ => rfl) hra_I rfl (mc wd_567) (by decide) (by decide) (by decide) (fun _ => rfl) rfl rfl (by decide) dX8_init_289 ?_
    refine X_S (S' := [.inl (8, [some 2, some 3, none, none, some 4, some 5, some 6, some 7, some 8, some 9, some 10, none, none, none, none, none, none, none, none, none, none, none, none, none, none, none, none, none, some 11, some 12, some 13, some 14, some 15, some 16, some 17, some 18, none, some 19, some 20, some 21, some 22, none, some 23, some 24, some 25, none, some 26, some 27, some 28, some 29, some 0, some 0, none, some 0, none, none, some 0]), .inr (0, 6), .inr (0, 4), .inr (0, 400), .inr (0, 400), .inr (0, 400), .inr (0, 400), .inr (0, 400), .inr (0, 400), .inr (0, 400), .inr (0, 60), .inr (0, 60), .inr (0, 60), .inr (0, 60), .inr (0, 60), .inr (0, 60), .inr (0, 3), .inr (0, 3), .inr (0, 8), .inr (1, 8), .inr (0, 8), .inr (0, 8), .inr (0, 3), .inr (0, 3), .inr (0, 3), .inr (0, 12), .inr (0, 12), .inr (0, 5), .inr (0, 5), .inr (0, 5)]) rfl ?_
    refine X_putr (r := 29) (ty := .array .int) C 50 rfl nc_8 inM_8 (by decide) tyX8 tyX8_ok nmX8 (mc wd_132) rfl I rfl (by decide +kernel) (fun _ => ⟨rfl, rfl⟩) rfl dX8_init_291 ?_
    refine X_S (S' := [.inl (8, [some 2, some 3, none, none, some 4, some 5, some 6, some 7, some 8, some 9, some 10, none, none, none, none, none, none, none, none, none, none, none, none, none, none, none, none, none, some 11, some 12, some 13, some 14, some 15, some 16, some 17, some 18, none, some 19, some 20, some 21, some 22, none, some 23, some 24, some 25, none, some 26, some 27, some 28, some 29, some 30, some 0, none, some 0, none, none, some 0]), .inr (0, 6), .inr (0, 4), .inr (0, 400), .inr (0, 400), .inr (0, 400), .inr (0, 400), .inr (0, 400), .inr (0, 400), .inr (0, 400), .inr (0, 60), .inr (0, 60), .inr (0, 60), .inr (0, 60), .inr (0, 60), .inr (0, 60), .inr (0, 3), .inr (0, 3), .inr (0, 8), .inr (1, 8), .inr (0, 8), .inr (0, 8), .inr (0, 3), .inr (0, 3), .inr (0, 3), .inr (0, 12), .inr (0, 12), .inr (0, 5), .inr (0, 5), .inr (0, 5)]) rfl ?_
    refine X_aload_n C 0 dX8_init_294 rfl rfl ?_
    refine X_bipush (v := (6:Int32)) C dX8_init_295 (by decide) ?_
    refine X_newa (ty := .int) (N := 6) (n0 := 1) C hX 0 30 rfl (by decide) (by decide) rfl rfl (fun _ => rfl) hra_I rfl (mc wd_567) (by decide) (by decide) (by decide) (fun _ => rfl) rfl rfl (by decide) dX8_init_297 ?_
    refine X_S (S' := [.inl (8, [some 2, some 3, none, none, some 4, some 5, some 6, some 7, some 8, some 9, some 10, none, none, none, none, none, none, none, none, none, none, none, none, none, none, none, none, none, some 11, some 12, some 13, some 14, some 15, some 16, some 17, some 18, none, some 19, some 20, some 21, some 22, none, some 23, some 24, some 25, none, some 26, some 27, some 28, some 29, some 30, some 0, none, some 0, none, none, some 0]), .inr (0, 6), .inr (0, 4), .inr (0, 400), .inr (0, 400), .inr (0, 400), .inr (0, 400), .inr (0, 400), .inr (0, 400), .inr (0, 400), .inr (0, 60), .inr (0, 60), .inr (0, 60), .inr (0, 60), .inr (0, 60), .inr (0, 60), .inr (0, 3), .inr (0, 3), .inr (0, 8), .inr (1, 8), .inr (0, 8), .inr (0, 8), .inr (0, 3), .inr (0, 3), .inr (0, 3), .inr (0, 12), .inr (0, 12), .inr (0, 5), .inr (0, 5), .inr (0, 5), .inr (0, 6)]) rfl ?_
    refine X_putr (r := 30) (ty := .array .int) C 51 rfl nc_8 inM_8 (by decide) tyX8 tyX8_ok nmX8 (mc wd_134) rfl I rfl (by decide +kernel) (fun _ => ⟨rfl, rfl⟩) rfl dX8_init_299 ?_
    refine X_S (S' := [.inl (8, [some 2, some 3, none, none, some 4, some 5, some 6, some 7, some 8, some 9, some 10, none, none, none, none, none, none, none, none, none, none, none, none, none, none, none, none, none, some 11, some 12, some 13, some 14, some 15, some 16, some 17, some 18, none, some 19, some 20, some 21, some 22, none, some 23, some 24, some 25, none, some 26, some 27, some 28, some 29, some 30, some 31, none, some 0, none, none, some 0]), .inr (0, 6), .inr (0, 4), .inr (0, 400), .inr (0, 400), .inr (0, 400), .inr (0, 400), .inr (0, 400), .inr (0, 400), .inr (0, 400), .inr (0, 60), .inr (0, 60), .inr (0, 60), .inr (0, 60), .inr (0, 60), .inr (0, 60), .inr (0, 3), .inr (0, 3), .inr (0, 8), .inr (1, 8), .inr (0, 8), .inr (0, 8), .inr (0, 3), .inr (0, 3), .inr (0, 3), .inr (0, 12), .inr (0, 12), .inr (0, 5), .inr (0, 5), .inr (0, 5), .inr (0, 6)]) rfl ?_
    refine X_aload_n C 0 dX8_init_302 rfl rfl ?_
    refine X_bipush (v := (8:Int32)) C dX8_init_303 (by decide) ?_
    refine X_newa (ty := .int) (N := 8) (n0 := 1) C hX 0 31 rfl (by decide) (by decide) rfl rfl (fun _ => rfl) hra_I rfl (mc wd_567) (by decide) (by decide) (by decide) (fun _ => rfl) rfl rfl (by decide) dX8_init_305 ?_
    refine X_S (S' := [.inl (8, [some 2, some 3, none, none, some 4, some 5, some 6, some 7, some 8, some 9, some 10, none, none, none, none, none, none, none, none, none, none, none, none, none, none, none, none, none, some 11, some 12, some 13, some 14, some 15, some 16, some 17, some 18, none, some 19, some 20, some 21, some 22, none, some 23, some 24, some 25, none, some 26, some 27, some 28, some 29, some 30, some 31, none, some 0, none, none, some 0]), .inr (0, 6), .inr (0, 4), .inr (0, 400), .inr (0, 400), .inr (0, 400), .inr (0, 400), .inr (0, 400), .inr (0, 400), .inr (0, 400), .inr (0, 60), .inr (0, 60), .inr (0, 60), .inr (0, 60), .inr (0, 60), .inr (0, 60), .inr (0, 3), .inr (0, 3), .inr (0, 8), .inr (1, 8), .inr (0, 8), .inr (0, 8), .inr (0, 3), .inr (0, 3), .inr (0, 3), .inr (0, 12), .inr (0, 12), .inr (0, 5), .inr (0, 5), .inr (0, 5), .inr (0, 6), .inr (0, 8)]) rfl ?_
    refine X_putr (r := 31) (ty := .array .int) C 53 rfl nc_8 inM_8 (by decide) tyX8 tyX8_ok nmX8 (mc wd_124) rfl I rfl (by decide +kernel) (fun _ => ⟨rfl, rfl⟩) rfl dX8_init_307 ?_
    refine X_S (S' := [.inl (8, [some 2, some 3, none, none, some 4, some 5, some 6, some 7, some 8, some 9, some 10, none, none, none, none, none, none, none, none, none, none, none, none, none, none, none, none, none, some 11, some 12, some 13, some 14, some 15, some 16, some 17, some 18, none, some 19, some 20, some 21, some 22, none, some 23, some 24, some 25, none, some 26, some 27, some 28, some 29, some 30, some 31, none, some 32, none, none, some 0]), .inr (0, 6), .inr (0, 4), .inr (0, 400), .inr (0, 400), .inr (0, 400), .inr (0, 400), .inr (0, 400), .inr (0, 400), .inr (0, 400), .inr (0, 60), .inr (0, 60), .inr (0, 60), .inr (0, 60), .inr (0, 60), .inr (0, 60), .inr (0, 3), .inr (0, 3), .inr (0, 8), .inr (1, 8), .inr (0, 8), .inr (0, 8), .inr (0, 3), .inr (0, 3), .inr (0, 3), .inr (0, 12), .inr (0, 12), .inr (0, 5), .inr (0, 5), .inr (0, 5), .inr (0, 6), .inr (0, 8)]) rfl ?_
    refine X_aload_n C 0 dX8_init_310 rfl rfl ?_
    refine X_iconst (v := (3:Int32)) C dX8_init_311 (by decide) ?_
    refine X_newa (ty := .int) (N := 3) (n0 := 1) C hX 0 32 rfl (by decide) (by decide) rfl rfl (fun _ => rfl) hra_I rfl (mc wd_567) (by decide) (by decide) (by decide) (fun _ => rfl) rfl rfl (by decide) dX8_init_312 ?_
    refine X_S (S' := [.inl (8, [some 2, some 3, none, none, some 4, some 5, some 6, some 7, some 8, some 9, some 10, none, none, none, none, none, none, none, none, none, none, none, none, none, none, none, none, none, some 11, some 12, some 13, some 14, some 15, some 16, some 17, some 18, none, some 19, some 20, some 21, some 22, none, some 23, some 24, some 25, none, some 26, some 27, some 28, some 29, some 30, some 31, none, some 32, none, none, some 0]), .inr (0, 6), .inr (0, 4), .inr (0, 400), .inr (0, 400), .inr (0, 400), .inr (0, 400), .inr (0, 400), .inr (0, 400), .inr (0, 400), .inr (0, 60), .inr (0, 60), .inr (0, 60), .inr (0, 60), .inr (0, 60), .inr (0, 60), .inr (0, 3), .inr (0, 3), .inr (0, 8), .inr (1, 8), .inr (0, 8), .inr (0, 8), .inr (0, 3), .inr (0, 3), .inr (0, 3), .inr (0, 12), .inr (0, 12), .inr (0, 5), .inr (0, 5), .inr (0, 5), .inr (0, 6), .inr (0, 8), .inr (0, 3)]) rfl ?_
    refine X_putr (r := 32) (ty := .array .int) C 56 rfl nc_8 inM_8 (by decide) tyX8 tyX8_ok nmX8 (mc wd_125) rfl I rfl (by decide +kernel) (fun _ => ⟨rfl, rfl⟩) rfl dX8_init_314 ?_
    refine X_S (S' := [.inl (8, [some 2, some 3, none, none, some 4, some 5, some 6, some 7, some 8, some 9, some 10, none, none, none, none, none, none, none, none, none, none, none, none, none, none, none, none, none, some 11, some 12, some 13, some 14, some 15, some 16, some 17, some 18, none, some 19, some 20, some 21, some 22, none, some 23, some 24, some 25, none, some 26, some 27, some 28, some 29, some 30, some 31, none, some 32, none, none, some 33]), .inr (0, 6), .inr (0, 4), .inr (0, 400), .inr (0, 400), .inr (0, 400), .inr (0, 400), .inr (0, 400), .inr (0, 400), .inr (0, 400), .inr (0, 60), .inr (0, 60), .inr (0, 60), .inr (0, 60), .inr (0, 60), .inr (0, 60), .inr (0, 3), .inr (0, 3), .inr (0, 8), .inr (1, 8), .inr (0, 8), .inr (0, 8), .inr (0, 3), .inr (0, 3), .inr (0, 3), .inr (0, 12), .inr (0, 12), .inr (0, 5), .inr (0, 5), .inr (0, 5), .inr (0, 6), .inr (0, 8), .inr (0, 3)]) rfl ?_
    refine X_iconst (v := (0:Int32)) C dX8_init_317 (by decide) ?_
    refine X_istore_n (L' := [(0, .ref 0), (1, .int ((0:Int32)))]) C [1, 0] dX8_init_318 rfl (by decide) rfl ?_
    exact h_X8_init_319 C Rr _ _ _ hf)
