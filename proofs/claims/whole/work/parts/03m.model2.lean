abbrev ws_X8_findSale : List Cond := Cond.code yX8_findSale cX8_findSale 5 (some .int) :: AW
abbrev rm_X8_findSale : Room := { frames := 2, cells := 0, slots := 0, locals := 49 }
def c_X8_findSale_101 (N : Nat) (K75 : Sg → Int32 → Int32 → Int32 → Option (Int32 × Sg)) (s : Sg) (v1 : Int32) (v2 : Int32) (v3 : Int32) : Option (Int32 × Sg) :=
K75 s v1 v2 (v3 + (1:Int32))
set_option maxHeartbeats 4000000 in
set_option maxRecDepth 100000 in
theorem w_X8_findSale_101 {X : Ctx} {N : Nat} {o : Int32 × Sg} (C : Cx NM X cX8_findSale 5 RX8 (ws_X8_findSale) (some .int) rm_X8_findSale) (Rr : Rx NM X 0 0 (some (.int o.1)) SH o.2) {K75 : Sg → Int32 → Int32 → Int32 → Option (Int32 × Sg)} (hK75 : ∀ (s : Sg) (v1 : Int32) (v2 : Int32) (v3 : Int32), K75 s v1 v2 v3 = some o → XW NM X 5 0 0 SH s 75 [(0, .ref 36), (1, .int v1), (2, .int v2), (3, .int v3)] []) (s : Sg) (v1 : Int32) (v2 : Int32) (v3 : Int32) (hf : c_X8_findSale_101 N K75 s v1 v2 v3 = some o) : XW NM X 5 0 0 SH s 101 [(0, .ref 36), (1, .int v1), (2, .int v2), (3, .int v3)] [] := by
  unfold c_X8_findSale_101 at hf
  refine X_iinc (v := (1:Int32)) (L' := [(0, .ref 36), (1, .int v1), (2, .int v2), (3, .int (v3 + (1:Int32)))]) C 3 [1, 2, 3, 0] dX8_findSale_101 rfl (by decide) (by decide) rfl ?_
  refine X_goto (tgt := 75) C dX8_findSale_104 (by decide) ?_
  exact hK75 _ _ _ _ hf
def c_X8_findSale_75 (N : Nat) (K75 : Sg → Int32 → Int32 → Int32 → Option (Int32 × Sg)) (s : Sg) (v1 : Int32) (v2 : Int32) (v3 : Int32) : Option (Int32 × Sg) :=
if v1 ≤ v3 then
 some (v2, s)
 else
 bd (f_X8_payOf N s v3) (fun r2 s1 => if r2 ≤ v2 then
 c_X8_findSale_101 N K75 s1 v1 v2 v3
 else
 lt_ (sgu s1 36 55 v3) (fun s3 => c_X8_findSale_101 N K75 s3 v1 r2 v3))
set_option maxHeartbeats 4000000 in
set_option maxRecDepth 100000 in
theorem w_X8_findSale_75 {X : Ctx} {N : Nat} {o : Int32 × Sg} (C : Cx NM X cX8_findSale 5 RX8 (ws_X8_findSale) (some .int) rm_X8_findSale) (Rr : Rx NM X 0 0 (some (.int o.1)) SH o.2) {K75 : Sg → Int32 → Int32 → Int32 → Option (Int32 × Sg)} (hK75 : ∀ (s : Sg) (v1 : Int32) (v2 : Int32) (v3 : Int32), K75 s v1 v2 v3 = some o → XW NM X 5 0 0 SH s 75 [(0, .ref 36), (1, .int v1), (2, .int v2), (3, .int v3)] []) (s : Sg) (v1 : Int32) (v2 : Int32) (v3 : Int32) (hf : c_X8_findSale_75 N K75 s v1 v2 v3 = some o) : XW NM X 5 0 0 SH s 75 [(0, .ref 36), (1, .int v1), (2, .int v2), (3, .int v3)] [] := by
  unfold c_X8_findSale_75 at hf
  refine X_iload_n C 3 dX8_findSale_75 rfl rfl ?_
  refine X_iload_n C 1 dX8_findSale_76 rfl rfl ?_
  refine X_icmp_ge (tgt := 107) C dX8_findSale_77 (by decide) hf (fun hf => ?_) (fun hf => ?_)
  · refine X_iload_n C 2 dX8_findSale_107 rfl rfl ?_
    exact X_iret C dX8_findSale_108 hf Rr
  · refine X_aload_n C 0 dX8_findSale_80 rfl rfl ?_
    refine X_iload_n C 3 dX8_findSale_81 rfl rfl ?_
    refine X_callVi (As := [.int v3]) (rest := []) C aw_ok mcs lk_X8_202 sh_36 nc_8 (by decide) rfl rfl (Nat.le_of_ble_eq_true rfl) dX8_findSale_82 hf (fun r s h => k_X8_payOf _ _ (r, s) h) (fun r2 s1 hf => ?_)
    refine X_istore (L' := [(0, .ref 36), (1, .int v1), (2, .int v2), (3, .int v3), (4, .int r2)]) C [1, 2, 3, 4, 0] dX8_findSale_85 (by decide) rfl ?_
    refine X_iload C 4 dX8_findSale_87 rfl ?_
    refine X_iload_n C 2 dX8_findSale_89 rfl rfl ?_
    refine X_icmp_le (tgt := 101) C dX8_findSale_90 (by decide) hf (fun hf => ?_) (fun hf => ?_)
    · refine X_loc (L' := [(0, .ref 36), (1, .int v1), (2, .int v2), (3, .int v3)]) [0, 1, 2, 3] rfl ?_
      exact w_X8_findSale_101 C Rr hK75 _ _ _ _ hf
    · refine X_iload C 4 dX8_findSale_93 rfl ?_
      refine X_istore_n (L' := [(0, .ref 36), (1, .int v1), (2, .int r2), (3, .int v3), (4, .int r2)]) C [1, 2, 0, 3, 4] dX8_findSale_95 rfl (by decide) rfl ?_
      refine X_aload_n C 0 dX8_findSale_96 rfl rfl ?_
      refine X_iload_n C 3 dX8_findSale_97 rfl rfl ?_
      refine X_puti C 55 sh_36 nc_8 inM_8 (by decide) tyX8 tyX8_ok nmX8 (mc wd_126) rfl (by decide +kernel) rfl dX8_findSale_98 hf (fun s3 hf => ?_)
      refine X_loc (L' := [(0, .ref 36), (1, .int v1), (2, .int r2), (3, .int v3)]) [0, 1, 2, 3] rfl ?_
      exact w_X8_findSale_101 C Rr hK75 _ _ _ _ hf
def b_X8_findSale_75 (N : Nat) : Nat → Sg → Int32 → Int32 → Int32 → Option (Int32 × Sg)
  | 0, _, _, _, _ => none
  | j + 1, s, v1, v2, v3 => c_X8_findSale_75 N (b_X8_findSale_75 N j) s v1 v2 v3
theorem h_X8_findSale_75 {X : Ctx} {N : Nat} {o : Int32 × Sg} (C : Cx NM X cX8_findSale 5 RX8 (ws_X8_findSale) (some .int) rm_X8_findSale) (Rr : Rx NM X 0 0 (some (.int o.1)) SH o.2) : ∀ (j : Nat) (s : Sg) (v1 : Int32) (v2 : Int32) (v3 : Int32), b_X8_findSale_75 N j s v1 v2 v3 = some o → XW NM X 5 0 0 SH s 75 [(0, .ref 36), (1, .int v1), (2, .int v2), (3, .int v3)] [] := by
  intro j
  induction j with
  | zero => intro s v1 v2 v3 hf; cases (show none = some o from hf)
  | succ j ih => intro s v1 v2 v3 hf; exact w_X8_findSale_75 C Rr ih s v1 v2 v3 hf
def c_X8_findSale_71 (N : Nat) (s : Sg) (v1 : Int32) : Option (Int32 × Sg) :=
b_X8_findSale_75 N N s v1 ((-1:Int32)) ((0:Int32))
set_option maxHeartbeats 4000000 in
set_option maxRecDepth 100000 in
theorem w_X8_findSale_71 {X : Ctx} {N : Nat} {o : Int32 × Sg} (C : Cx NM X cX8_findSale 5 RX8 (ws_X8_findSale) (some .int) rm_X8_findSale) (Rr : Rx NM X 0 0 (some (.int o.1)) SH o.2) (s : Sg) (v1 : Int32) (hf : c_X8_findSale_71 N s v1 = some o) : XW NM X 5 0 0 SH s 71 [(0, .ref 36), (1, .int v1)] [] := by
  unfold c_X8_findSale_71 at hf
  refine X_iconst (v := (-1:Int32)) C dX8_findSale_71 (by decide) ?_
  refine X_istore_n (L' := [(0, .ref 36), (1, .int v1), (2, .int ((-1:Int32)))]) C [1, 2, 0] dX8_findSale_72 rfl (by decide) rfl ?_
  refine X_iconst (v := (0:Int32)) C dX8_findSale_73 (by decide) ?_
  refine X_istore_n (L' := [(0, .ref 36), (1, .int v1), (2, .int ((-1:Int32))), (3, .int ((0:Int32)))]) C [1, 2, 3, 0] dX8_findSale_74 rfl (by decide) rfl ?_
  exact h_X8_findSale_75 C Rr _ _ _ _ _ hf
def c_X8_findSale_65 (N : Nat) (K9 : Sg → Int32 → Int32 → Option (Int32 × Sg)) (s : Sg) (v1 : Int32) (v2 : Int32) : Option (Int32 × Sg) :=
K9 s v1 (v2 + (1:Int32))
set_option maxHeartbeats 4000000 in
set_option maxRecDepth 100000 in
theorem w_X8_findSale_65 {X : Ctx} {N : Nat} {o : Int32 × Sg} (C : Cx NM X cX8_findSale 5 RX8 (ws_X8_findSale) (some .int) rm_X8_findSale) (Rr : Rx NM X 0 0 (some (.int o.1)) SH o.2) {K9 : Sg → Int32 → Int32 → Option (Int32 × Sg)} (hK9 : ∀ (s : Sg) (v1 : Int32) (v2 : Int32), K9 s v1 v2 = some o → XW NM X 5 0 0 SH s 9 [(0, .ref 36), (1, .int v1), (2, .int v2)] []) (s : Sg) (v1 : Int32) (v2 : Int32) (hf : c_X8_findSale_65 N K9 s v1 v2 = some o) : XW NM X 5 0 0 SH s 65 [(0, .ref 36), (1, .int v1), (2, .int v2)] [] := by
  unfold c_X8_findSale_65 at hf
  refine X_iinc (v := (1:Int32)) (L' := [(0, .ref 36), (1, .int v1), (2, .int (v2 + (1:Int32)))]) C 2 [1, 2, 0] dX8_findSale_65 rfl (by decide) (by decide) rfl ?_
  refine X_goto (tgt := 9) C dX8_findSale_68 (by decide) ?_
  exact hK9 _ _ _ hf
def c_X8_findSale_9 (N : Nat) (K9 : Sg → Int32 → Int32 → Option (Int32 × Sg)) (s : Sg) (v1 : Int32) (v2 : Int32) : Option (Int32 × Sg) :=
if (s 36 27) ≤ v2 then
 c_X8_findSale_71 N s v1
 else
 if ((8:Int32)) ≤ (s 36 54) then
 c_X8_findSale_71 N s v1
 else
 gd (vi v2 60) (if (s 51 v2.toNatClampNeg) = ((-1:Int32)) then
 gd (vi (s 36 54) 8) (lt_ (sgu s 67 (s 36 54).toNatClampNeg v2) (fun s1 => lt_ (sgu s1 36 54 ((s1 36 54) + ((1:Int32)))) (fun s2 => lt_ (v1 * ((s2 36 41) + ((1:Int32)))) (fun x3 => c_X8_findSale_65 N K9 s2 x3 v2))))
 else
 c_X8_findSale_65 N K9 s v1 v2)
set_option maxHeartbeats 4000000 in
set_option maxRecDepth 100000 in
theorem w_X8_findSale_9 {X : Ctx} {N : Nat} {o : Int32 × Sg} (C : Cx NM X cX8_findSale 5 RX8 (ws_X8_findSale) (some .int) rm_X8_findSale) (Rr : Rx NM X 0 0 (some (.int o.1)) SH o.2) {K9 : Sg → Int32 → Int32 → Option (Int32 × Sg)} (hK9 : ∀ (s : Sg) (v1 : Int32) (v2 : Int32), K9 s v1 v2 = some o → XW NM X 5 0 0 SH s 9 [(0, .ref 36), (1, .int v1), (2, .int v2)] []) (s : Sg) (v1 : Int32) (v2 : Int32) (hf : c_X8_findSale_9 N K9 s v1 v2 = some o) : XW NM X 5 0 0 SH s 9 [(0, .ref 36), (1, .int v1), (2, .int v2)] [] := by
  unfold c_X8_findSale_9 at hf
  refine X_iload_n C 2 dX8_findSale_9 rfl rfl ?_
  refine X_aload_n C 0 dX8_findSale_10 rfl rfl ?_
  refine X_geti C 27 sh_36 nc_8 inM_8 (by decide) (mc wd_93) rfl dX8_findSale_11 ?_
  refine X_icmp_ge (tgt := 71) C dX8_findSale_14 (by decide) hf (fun hf => ?_) (fun hf => ?_)
  · refine X_loc (L' := [(0, .ref 36), (1, .int v1)]) [0, 1] rfl ?_
    exact w_X8_findSale_71 C Rr _ _ hf
  · refine X_aload_n C 0 dX8_findSale_17 rfl rfl ?_
    refine X_geti C 54 sh_36 nc_8 inM_8 (by decide) (mc wd_123) rfl dX8_findSale_18 ?_
    refine X_bipush (v := (8:Int32)) C dX8_findSale_21 (by decide) ?_
    refine X_icmp_ge (tgt := 71) C dX8_findSale_23 (by decide) hf (fun hf => ?_) (fun hf => ?_)
    · refine X_loc (L' := [(0, .ref 36), (1, .int v1)]) [0, 1] rfl ?_
      exact w_X8_findSale_71 C Rr _ _ hf
    · refine X_aload_n C 0 dX8_findSale_26 rfl rfl ?_
      refine X_getr C 33 sh_36 nc_8 inM_8 (by decide) (mc wd_103) rfl dX8_findSale_27 ?_
      refine X_iload_n C 2 dX8_findSale_30 rfl rfl ?_
      refine X_iald C sh_51 dX8_findSale_31 hf (fun hf => ?_)
      refine X_iconst (v := (-1:Int32)) C dX8_findSale_32 (by decide) ?_
      refine X_icmp_ne (tgt := 65) C dX8_findSale_33 (by decide) hf (fun hf => ?_) (fun hf => ?_)
      · exact w_X8_findSale_65 C Rr hK9 _ _ _ hf
      · refine X_aload_n C 0 dX8_findSale_36 rfl rfl ?_
        refine X_getr C 53 sh_36 nc_8 inM_8 (by decide) (mc wd_124) rfl dX8_findSale_37 ?_
        refine X_aload_n C 0 dX8_findSale_40 rfl rfl ?_
        refine X_geti C 54 sh_36 nc_8 inM_8 (by decide) (mc wd_123) rfl dX8_findSale_41 ?_
        refine X_iload_n C 2 dX8_findSale_44 rfl rfl ?_
        refine X_iast C sh_67 dX8_findSale_45 hf (fun s1 hf => ?_)
        refine X_aload_n C 0 dX8_findSale_46 rfl rfl ?_
        refine X_dup C dX8_findSale_47 rfl ?_
        refine X_geti C 54 sh_36 nc_8 inM_8 (by decide) (mc wd_123) rfl dX8_findSale_48 ?_
        refine X_iconst (v := (1:Int32)) C dX8_findSale_51 (by decide) ?_
        refine X_iadd C dX8_findSale_52 ?_
        refine X_puti C 54 sh_36 nc_8 inM_8 (by decide) tyX8 tyX8_ok nmX8 (mc wd_123) rfl (by decide +kernel) rfl dX8_findSale_53 hf (fun s2 hf => ?_)
        refine X_iload_n C 1 dX8_findSale_56 rfl rfl ?_
        refine X_aload_n C 0 dX8_findSale_57 rfl rfl ?_
        refine X_geti C 41 sh_36 nc_8 inM_8 (by decide) (mc wd_119) rfl dX8_findSale_58 ?_
        refine X_iconst (v := (1:Int32)) C dX8_findSale_61 (by decide) ?_
        refine X_iadd C dX8_findSale_62 ?_
        refine X_imul C dX8_findSale_63 ?_
        refine X_nm hf (fun x3 hf => ?_)
        refine X_istore_n (L' := [(0, .ref 36), (1, .int x3), (2, .int v2)]) C [1, 0, 2] dX8_findSale_64 rfl (by decide) rfl ?_
        exact w_X8_findSale_65 C Rr hK9 _ _ _ hf
def b_X8_findSale_9 (N : Nat) : Nat → Sg → Int32 → Int32 → Option (Int32 × Sg)
  | 0, _, _, _ => none
  | j + 1, s, v1, v2 => c_X8_findSale_9 N (b_X8_findSale_9 N j) s v1 v2
theorem h_X8_findSale_9 {X : Ctx} {N : Nat} {o : Int32 × Sg} (C : Cx NM X cX8_findSale 5 RX8 (ws_X8_findSale) (some .int) rm_X8_findSale) (Rr : Rx NM X 0 0 (some (.int o.1)) SH o.2) : ∀ (j : Nat) (s : Sg) (v1 : Int32) (v2 : Int32), b_X8_findSale_9 N j s v1 v2 = some o → XW NM X 5 0 0 SH s 9 [(0, .ref 36), (1, .int v1), (2, .int v2)] [] := by
  intro j
  induction j with
  | zero => intro s v1 v2 hf; cases (show none = some o from hf)
  | succ j ih => intro s v1 v2 hf; exact w_X8_findSale_9 C Rr ih s v1 v2 hf
def c_X8_findSale_0 (N : Nat) (s : Sg) : Option (Int32 × Sg) :=
lt_ (sgu s 36 54 ((0:Int32))) (fun s1 => b_X8_findSale_9 N N s1 ((1:Int32)) ((0:Int32)))
set_option maxHeartbeats 4000000 in
set_option maxRecDepth 100000 in
theorem w_X8_findSale_0 {X : Ctx} {N : Nat} {o : Int32 × Sg} (C : Cx NM X cX8_findSale 5 RX8 (ws_X8_findSale) (some .int) rm_X8_findSale) (Rr : Rx NM X 0 0 (some (.int o.1)) SH o.2) (s : Sg) (hf : c_X8_findSale_0 N s = some o) : XW NM X 5 0 0 SH s 0 [(0, .ref 36)] [] := by
  unfold c_X8_findSale_0 at hf
  refine X_aload_n C 0 dX8_findSale_0 rfl rfl ?_
  refine X_iconst (v := (0:Int32)) C dX8_findSale_1 (by decide) ?_
  refine X_puti C 54 sh_36 nc_8 inM_8 (by decide) tyX8 tyX8_ok nmX8 (mc wd_123) rfl (by decide +kernel) rfl dX8_findSale_2 hf (fun s1 hf => ?_)
  refine X_iconst (v := (1:Int32)) C dX8_findSale_5 (by decide) ?_
  refine X_istore_n (L' := [(0, .ref 36), (1, .int ((1:Int32)))]) C [1, 0] dX8_findSale_6 rfl (by decide) rfl ?_
  refine X_iconst (v := (0:Int32)) C dX8_findSale_7 (by decide) ?_
  refine X_istore_n (L' := [(0, .ref 36), (1, .int ((1:Int32))), (2, .int ((0:Int32)))]) C [1, 2, 0] dX8_findSale_8 rfl (by decide) rfl ?_
  exact h_X8_findSale_9 C Rr _ _ _ _ hf
def f_X8_findSale (N : Nat) (s : Sg) : Option (Int32 × Sg) := c_X8_findSale_0 N s
theorem k_X8_findSale {N : Nat} (s : Sg) (o : Int32 × Sg) (hf : f_X8_findSale N s = some o) : Ctr NM yX8_findSale (ws_X8_findSale) rm_X8_findSale SH s [.ref 36] (some (.int o.1)) o.2 :=
  Ctr.of (by decide) rfl (Nat.le_of_ble_eq_true rfl) (fun X C Rr => by show XW NM X 5 0 0 SH s 0 [(0, .ref 36)] []; exact w_X8_findSale_0 C Rr s hf)
abbrev ws_X8_sale : List Cond := Cond.code yX8_sale cX8_sale 1 (some .int) :: AW
abbrev rm_X8_sale : Room := { frames := 3, cells := 0, slots := 0, locals := 73 }
def c_X8_sale_0 (N : Nat) (s : Sg) : Option (Int32 × Sg) :=
bd (f_X8_findSale N s) (fun r2 s1 => some (r2, s1))
set_option maxHeartbeats 4000000 in
set_option maxRecDepth 100000 in
theorem w_X8_sale_0 {X : Ctx} {N : Nat} {o : Int32 × Sg} (C : Cx NM X cX8_sale 1 RX8 (ws_X8_sale) (some .int) rm_X8_sale) (Rr : Rx NM X 0 0 (some (.int o.1)) SH o.2) (s : Sg) (hf : c_X8_sale_0 N s = some o) : XW NM X 1 0 0 SH s 0 [(0, .ref 36)] [] := by
  unfold c_X8_sale_0 at hf
  refine X_aload_n C 0 dX8_sale_0 rfl rfl ?_
  refine X_callVi (As := []) (rest := []) C aw_ok mcs lk_X8_209 sh_36 nc_8 (by decide) rfl rfl (Nat.le_of_ble_eq_true rfl) dX8_sale_1 hf (fun r s h => k_X8_findSale _ (r, s) h) (fun r2 s1 hf => ?_)
  exact X_iret C dX8_sale_4 hf Rr
def f_X8_sale (N : Nat) (s : Sg) : Option (Int32 × Sg) := c_X8_sale_0 N s
theorem k_X8_sale {N : Nat} (s : Sg) (o : Int32 × Sg) (hf : f_X8_sale N s = some o) : Ctr NM yX8_sale (ws_X8_sale) rm_X8_sale SH s [.ref 36] (some (.int o.1)) o.2 :=
  Ctr.of (by decide) rfl (Nat.le_of_ble_eq_true rfl) (fun X C Rr => by show XW NM X 1 0 0 SH s 0 [(0, .ref 36)] []; exact w_X8_sale_0 C Rr s hf)
abbrev ws_X8_sell : List Cond := Cond.code yX8_sell cX8_sell 5 (some .int) :: AW
abbrev rm_X8_sell : Room := { frames := 3, cells := 0, slots := 0, locals := 73 }
def c_X8_sell_80 (N : Nat) (s : Sg) (v1 : Int32) (v2 : Int32) : Option (Int32 × Sg) :=
lt_ (sgu s 36 45 ((s 36 45) + v1)) (fun s1 => some (v2, s1))
set_option maxHeartbeats 4000000 in
set_option maxRecDepth 100000 in
theorem w_X8_sell_80 {X : Ctx} {N : Nat} {o : Int32 × Sg} (C : Cx NM X cX8_sell 5 RX8 (ws_X8_sell) (some .int) rm_X8_sell) (Rr : Rx NM X 0 0 (some (.int o.1)) SH o.2) (s : Sg) (v1 : Int32) (v2 : Int32) (hf : c_X8_sell_80 N s v1 v2 = some o) : XW NM X 5 0 0 SH s 80 [(0, .ref 36), (1, .int v1), (2, .int v2)] [] := by
  unfold c_X8_sell_80 at hf
  refine X_aload_n C 0 dX8_sell_80 rfl rfl ?_
  refine X_dup C dX8_sell_81 rfl ?_
  refine X_geti C 45 sh_36 nc_8 inM_8 (by decide) (mc wd_127) rfl dX8_sell_82 ?_
  refine X_iload_n C 1 dX8_sell_85 rfl rfl ?_
  refine X_iadd C dX8_sell_86 ?_
  refine X_puti C 45 sh_36 nc_8 inM_8 (by decide) tyX8 tyX8_ok nmX8 (mc wd_127) rfl (by decide +kernel) rfl dX8_sell_87 hf (fun s1 hf => ?_)
  refine X_iload_n C 2 dX8_sell_90 rfl rfl ?_
  exact X_iret C dX8_sell_91 hf Rr
def c_X8_sell_74 (N : Nat) (K9 : Sg → Int32 → Int32 → Int32 → Option (Int32 × Sg)) (s : Sg) (v1 : Int32) (v2 : Int32) (v3 : Int32) : Option (Int32 × Sg) :=
K9 s v1 v2 (v3 + (1:Int32))
set_option maxHeartbeats 4000000 in
set_option maxRecDepth 100000 in
theorem w_X8_sell_74 {X : Ctx} {N : Nat} {o : Int32 × Sg} (C : Cx NM X cX8_sell 5 RX8 (ws_X8_sell) (some .int) rm_X8_sell) (Rr : Rx NM X 0 0 (some (.int o.1)) SH o.2) {K9 : Sg → Int32 → Int32 → Int32 → Option (Int32 × Sg)} (hK9 : ∀ (s : Sg) (v1 : Int32) (v2 : Int32) (v3 : Int32), K9 s v1 v2 v3 = some o → XW NM X 5 0 0 SH s 9 [(0, .ref 36), (1, .int v1), (2, .int v2), (3, .int v3)] []) (s : Sg) (v1 : Int32) (v2 : Int32) (v3 : Int32) (hf : c_X8_sell_74 N K9 s v1 v2 v3 = some o) : XW NM X 5 0 0 SH s 74 [(0, .ref 36), (1, .int v1), (2, .int v2), (3, .int v3)] [] := by
  unfold c_X8_sell_74 at hf
  refine X_iinc (v := (1:Int32)) (L' := [(0, .ref 36), (1, .int v1), (2, .int v2), (3, .int (v3 + (1:Int32)))]) C 3 [1, 2, 3, 0] dX8_sell_74 rfl (by decide) (by decide) rfl ?_
  refine X_goto (tgt := 9) C dX8_sell_77 (by decide) ?_
  exact hK9 _ _ _ _ hf
def c_X8_sell_9 (N : Nat) (K9 : Sg → Int32 → Int32 → Int32 → Option (Int32 × Sg)) (s : Sg) (v1 : Int32) (v2 : Int32) (v3 : Int32) : Option (Int32 × Sg) :=
if (s 36 54) ≤ v3 then
 c_X8_sell_80 N s v1 v2
 else
 bd (f_X8_digit N s (s 36 55) v3) (fun r2 s1 => if (s1 36 41) ≤ r2 then
 c_X8_sell_74 N K9 s1 v1 v2 v3
 else
 gd (vi v3 8) (gd (vi (s1 67 v3.toNatClampNeg) 60) (lt_ (sgu s1 51 (s1 67 v3.toNatClampNeg).toNatClampNeg r2) (fun s3 => gd (vi r2 3) (gd (vi v3 8) (gd (vi (s3 67 v3.toNatClampNeg) 60) (gd (vi r2 3) (lt_ (sgu s3 59 r2.toNatClampNeg ((s3 59 r2.toNatClampNeg) - (s3 46 (s3 67 v3.toNatClampNeg).toNatClampNeg))) (fun s4 => c_X8_sell_74 N K9 s4 v1 (v2 + (1:Int32)) v3)))))))))
set_option maxHeartbeats 4000000 in
set_option maxRecDepth 100000 in
theorem w_X8_sell_9 {X : Ctx} {N : Nat} {o : Int32 × Sg} (C : Cx NM X cX8_sell 5 RX8 (ws_X8_sell) (some .int) rm_X8_sell) (Rr : Rx NM X 0 0 (some (.int o.1)) SH o.2) {K9 : Sg → Int32 → Int32 → Int32 → Option (Int32 × Sg)} (hK9 : ∀ (s : Sg) (v1 : Int32) (v2 : Int32) (v3 : Int32), K9 s v1 v2 v3 = some o → XW NM X 5 0 0 SH s 9 [(0, .ref 36), (1, .int v1), (2, .int v2), (3, .int v3)] []) (s : Sg) (v1 : Int32) (v2 : Int32) (v3 : Int32) (hf : c_X8_sell_9 N K9 s v1 v2 v3 = some o) : XW NM X 5 0 0 SH s 9 [(0, .ref 36), (1, .int v1), (2, .int v2), (3, .int v3)] [] := by
  unfold c_X8_sell_9 at hf
  refine X_iload_n C 3 dX8_sell_9 rfl rfl ?_
  refine X_aload_n C 0 dX8_sell_10 rfl rfl ?_
  refine X_geti C 54 sh_36 nc_8 inM_8 (by decide) (mc wd_123) rfl dX8_sell_11 ?_
  refine X_icmp_ge (tgt := 80) C dX8_sell_14 (by decide) hf (fun hf => ?_) (fun hf => ?_)
  · refine X_loc (L' := [(0, .ref 36), (1, .int v1), (2, .int v2)]) [0, 1, 2] rfl ?_
    exact w_X8_sell_80 C Rr _ _ _ hf
  · refine X_aload_n C 0 dX8_sell_17 rfl rfl ?_
    refine X_aload_n C 0 dX8_sell_18 rfl rfl ?_
    refine X_geti C 55 sh_36 nc_8 inM_8 (by decide) (mc wd_126) rfl dX8_sell_19 ?_
    refine X_iload_n C 3 dX8_sell_22 rfl rfl ?_
    refine X_callVi (As := [.int (s 36 55), .int v3]) (rest := []) C aw_ok mcs lk_X8_198 sh_36 nc_8 (by decide) rfl rfl (Nat.le_of_ble_eq_true rfl) dX8_sell_23 hf (fun r s h => k_X8_digit _ _ _ (r, s) h) (fun r2 s1 hf => ?_)
    refine X_istore (L' := [(0, .ref 36), (1, .int v1), (2, .int v2), (3, .int v3), (4, .int r2)]) C [1, 2, 3, 4, 0] dX8_sell_26 (by decide) rfl ?_
    refine X_iload C 4 dX8_sell_28 rfl ?_
    refine X_aload_n C 0 dX8_sell_30 rfl rfl ?_
    refine X_geti C 41 sh_36 nc_8 inM_8 (by decide) (mc wd_119) rfl dX8_sell_31 ?_
    refine X_icmp_ge (tgt := 74) C dX8_sell_34 (by decide) hf (fun hf => ?_) (fun hf => ?_)
    · refine X_loc (L' := [(0, .ref 36), (1, .int v1), (2, .int v2), (3, .int v3)]) [0, 1, 2, 3] rfl ?_
      exact w_X8_sell_74 C Rr hK9 _ _ _ _ hf
    · refine X_aload_n C 0 dX8_sell_37 rfl rfl ?_
      refine X_getr C 33 sh_36 nc_8 inM_8 (by decide) (mc wd_103) rfl dX8_sell_38 ?_
      refine X_aload_n C 0 dX8_sell_41 rfl rfl ?_
      refine X_getr C 53 sh_36 nc_8 inM_8 (by decide) (mc wd_124) rfl dX8_sell_42 ?_
      refine X_iload_n C 3 dX8_sell_45 rfl rfl ?_
      refine X_iald C sh_67 dX8_sell_46 hf (fun hf => ?_)
      refine X_iload C 4 dX8_sell_47 rfl ?_
      refine X_iast C sh_51 dX8_sell_49 hf (fun s3 hf => ?_)
      refine X_aload_n C 0 dX8_sell_50 rfl rfl ?_
      refine X_getr C 43 sh_36 nc_8 inM_8 (by decide) (mc wd_121) rfl dX8_sell_51 ?_
      refine X_iload C 4 dX8_sell_54 rfl ?_
      refine X_dup2 C dX8_sell_56 rfl rfl ?_
      refine X_iald C sh_59 dX8_sell_57 hf (fun hf => ?_)
      refine X_aload_n C 0 dX8_sell_58 rfl rfl ?_
      refine X_getr C 28 sh_36 nc_8 inM_8 (by decide) (mc wd_94) rfl dX8_sell_59 ?_
      refine X_aload_n C 0 dX8_sell_62 rfl rfl ?_
      refine X_getr C 53 sh_36 nc_8 inM_8 (by decide) (mc wd_124) rfl dX8_sell_63 ?_
      refine X_iload_n C 3 dX8_sell_66 rfl rfl ?_
      refine X_iald C sh_67 dX8_sell_67 hf (fun hf => ?_)
      refine X_iald C sh_46 dX8_sell_68 hf (fun hf => ?_)
      refine X_isub C dX8_sell_69 ?_
      refine X_iast C sh_59 dX8_sell_70 hf (fun s4 hf => ?_)
      refine X_iinc (v := (1:Int32)) (L' := [(0, .ref 36), (1, .int v1), (2, .int (v2 + (1:Int32))), (3, .int v3), (4, .int r2)]) C 2 [1, 2, 0, 3, 4] dX8_sell_71 rfl (by decide) (by decide) rfl ?_
      refine X_loc (L' := [(0, .ref 36), (1, .int v1), (2, .int (v2 + (1:Int32))), (3, .int v3)]) [0, 1, 2, 3] rfl ?_
      exact w_X8_sell_74 C Rr hK9 _ _ _ _ hf
def b_X8_sell_9 (N : Nat) : Nat → Sg → Int32 → Int32 → Int32 → Option (Int32 × Sg)
  | 0, _, _, _, _ => none
  | j + 1, s, v1, v2, v3 => c_X8_sell_9 N (b_X8_sell_9 N j) s v1 v2 v3
theorem h_X8_sell_9 {X : Ctx} {N : Nat} {o : Int32 × Sg} (C : Cx NM X cX8_sell 5 RX8 (ws_X8_sell) (some .int) rm_X8_sell) (Rr : Rx NM X 0 0 (some (.int o.1)) SH o.2) : ∀ (j : Nat) (s : Sg) (v1 : Int32) (v2 : Int32) (v3 : Int32), b_X8_sell_9 N j s v1 v2 v3 = some o → XW NM X 5 0 0 SH s 9 [(0, .ref 36), (1, .int v1), (2, .int v2), (3, .int v3)] [] := by
  intro j
  induction j with
  | zero => intro s v1 v2 v3 hf; cases (show none = some o from hf)
  | succ j ih => intro s v1 v2 v3 hf; exact w_X8_sell_9 C Rr ih s v1 v2 v3 hf
def c_X8_sell_0 (N : Nat) (s : Sg) : Option (Int32 × Sg) :=
bd (f_X8_findSale N s) (fun r2 s1 => b_X8_sell_9 N N s1 r2 ((0:Int32)) ((0:Int32)))
set_option maxHeartbeats 4000000 in
set_option maxRecDepth 100000 in
theorem w_X8_sell_0 {X : Ctx} {N : Nat} {o : Int32 × Sg} (C : Cx NM X cX8_sell 5 RX8 (ws_X8_sell) (some .int) rm_X8_sell) (Rr : Rx NM X 0 0 (some (.int o.1)) SH o.2) (s : Sg) (hf : c_X8_sell_0 N s = some o) : XW NM X 5 0 0 SH s 0 [(0, .ref 36)] [] := by
  unfold c_X8_sell_0 at hf
  refine X_aload_n C 0 dX8_sell_0 rfl rfl ?_
  refine X_callVi (As := []) (rest := []) C aw_ok mcs lk_X8_209 sh_36 nc_8 (by decide) rfl rfl (Nat.le_of_ble_eq_true rfl) dX8_sell_1 hf (fun r s h => k_X8_findSale _ (r, s) h) (fun r2 s1 hf => ?_)
  refine X_istore_n (L' := [(0, .ref 36), (1, .int r2)]) C [1, 0] dX8_sell_4 rfl (by decide) rfl ?_
  refine X_iconst (v := (0:Int32)) C dX8_sell_5 (by decide) ?_
  refine X_istore_n (L' := [(0, .ref 36), (1, .int r2), (2, .int ((0:Int32)))]) C [1, 2, 0] dX8_sell_6 rfl (by decide) rfl ?_
  refine X_iconst (v := (0:Int32)) C dX8_sell_7 (by decide) ?_
  refine X_istore_n (L' := [(0, .ref 36), (1, .int r2), (2, .int ((0:Int32))), (3, .int ((0:Int32)))]) C [1, 2, 3, 0] dX8_sell_8 rfl (by decide) rfl ?_
  exact h_X8_sell_9 C Rr _ _ _ _ _ hf
def f_X8_sell (N : Nat) (s : Sg) : Option (Int32 × Sg) := c_X8_sell_0 N s
theorem k_X8_sell {N : Nat} (s : Sg) (o : Int32 × Sg) (hf : f_X8_sell N s = some o) : Ctr NM yX8_sell (ws_X8_sell) rm_X8_sell SH s [.ref 36] (some (.int o.1)) o.2 :=
  Ctr.of (by decide) rfl (Nat.le_of_ble_eq_true rfl) (fun X C Rr => by show XW NM X 5 0 0 SH s 0 [(0, .ref 36)] []; exact w_X8_sell_0 C Rr s hf)
abbrev ws_X8_month : List Cond := Cond.code yX8_month cX8_month 4 (some .int) :: AW
abbrev rm_X8_month : Room := { frames := 1, cells := 0, slots := 0, locals := 22 }
def c_X8_month_0 (s : Sg) (v1 : Int32) (v2 : Int32) (v3 : Int32) : Option (Int32 × Sg) :=
bd (f_X8_in s v1 ((0:Int32)) ((11:Int32))) (fun r2 s1 => if r2 = 0 then
 some ((-2:Int32), s1)
 else
 bd (f_X8_in s1 v2 ((0:Int32)) ((4:Int32))) (fun r4 s3 => if r4 = 0 then
 some ((-2:Int32), s3)
 else
 bd (f_X8_in s3 v3 ((0:Int32)) ((1000:Int32))) (fun r6 s5 => if r6 = 0 then
 some ((-2:Int32), s5)
 else
 gd (vi v1 12) (lt_ (sgu s5 61 v1.toNatClampNeg v2) (fun s7 => gd (vi v1 12) (lt_ (sgu s7 62 v1.toNatClampNeg v3) (fun s8 => some ((1:Int32), s8))))))))
set_option maxHeartbeats 4000000 in
set_option maxRecDepth 100000 in
theorem w_X8_month_0 {X : Ctx} {o : Int32 × Sg} (C : Cx NM X cX8_month 4 RX8 (ws_X8_month) (some .int) rm_X8_month) (Rr : Rx NM X 0 0 (some (.int o.1)) SH o.2) (s : Sg) (v1 : Int32) (v2 : Int32) (v3 : Int32) (hf : c_X8_month_0 s v1 v2 v3 = some o) : XW NM X 4 0 0 SH s 0 [(0, .ref 36), (1, .int v1), (2, .int v2), (3, .int v3)] [] := by
  unfold c_X8_month_0 at hf
  refine X_iload_n C 1 dX8_month_0 rfl rfl ?_
  refine X_iconst (v := (0:Int32)) C dX8_month_1 (by decide) ?_
  refine X_bipush (v := (11:Int32)) C dX8_month_2 (by decide) ?_
  refine X_callSi (As := [.int v1, .int ((0:Int32)), .int ((11:Int32))]) (rest := []) C aw_ok mcs lk_X8_123 (by decide) rfl rfl (Nat.le_of_ble_eq_true rfl) dX8_month_4 hf (fun r s h => k_X8_in _ _ _ _ (r, s) h) (fun r2 s1 hf => ?_)
  refine X_if_eq (tgt := 30) C dX8_month_7 (by decide) hf (fun hf => ?_) (fun hf => ?_)
  · refine X_bipush (v := (-2:Int32)) C dX8_month_30 (by decide) ?_
    exact X_iret C dX8_month_32 hf Rr
  · refine X_iload_n C 2 dX8_month_10 rfl rfl ?_
    refine X_iconst (v := (0:Int32)) C dX8_month_11 (by decide) ?_
    refine X_iconst (v := (4:Int32)) C dX8_month_12 (by decide) ?_
    refine X_callSi (As := [.int v2, .int ((0:Int32)), .int ((4:Int32))]) (rest := []) C aw_ok mcs lk_X8_123 (by decide) rfl rfl (Nat.le_of_ble_eq_true rfl) dX8_month_13 hf (fun r s h => k_X8_in _ _ _ _ (r, s) h) (fun r4 s3 hf => ?_)
    refine X_if_eq (tgt := 30) C dX8_month_16 (by decide) hf (fun hf => ?_) (fun hf => ?_)
    · refine X_bipush (v := (-2:Int32)) C dX8_month_30 (by decide) ?_
      exact X_iret C dX8_month_32 hf Rr
    · refine X_iload_n C 3 dX8_month_19 rfl rfl ?_
      refine X_iconst (v := (0:Int32)) C dX8_month_20 (by decide) ?_
      refine X_sipush (v := (1000:Int32)) C dX8_month_21 (by decide) ?_
      refine X_callSi (As := [.int v3, .int ((0:Int32)), .int ((1000:Int32))]) (rest := []) C aw_ok mcs lk_X8_123 (by decide) rfl rfl (Nat.le_of_ble_eq_true rfl) dX8_month_24 hf (fun r s h => k_X8_in _ _ _ _ (r, s) h) (fun r6 s5 hf => ?_)
      refine X_if_ne (tgt := 33) C dX8_month_27 (by decide) hf (fun hf => ?_) (fun hf => ?_)
      · refine X_aload_n C 0 dX8_month_33 rfl rfl ?_
        refine X_getr C 46 sh_36 nc_8 inM_8 (by decide) (mc wd_128) rfl dX8_month_34 ?_
        refine X_iload_n C 1 dX8_month_37 rfl rfl ?_
        refine X_iload_n C 2 dX8_month_38 rfl rfl ?_
        refine X_iast C sh_61 dX8_month_39 hf (fun s7 hf => ?_)
        refine X_aload_n C 0 dX8_month_40 rfl rfl ?_
        refine X_getr C 47 sh_36 nc_8 inM_8 (by decide) (mc wd_129) rfl dX8_month_41 ?_
        refine X_iload_n C 1 dX8_month_44 rfl rfl ?_
        refine X_iload_n C 3 dX8_month_45 rfl rfl ?_
        refine X_iast C sh_62 dX8_month_46 hf (fun s8 hf => ?_)
        refine X_iconst (v := (1:Int32)) C dX8_month_47 (by decide) ?_
        exact X_iret C dX8_month_48 hf Rr
      · refine X_bipush (v := (-2:Int32)) C dX8_month_30 (by decide) ?_
        exact X_iret C dX8_month_32 hf Rr
def f_X8_month (s : Sg) (v1 : Int32) (v2 : Int32) (v3 : Int32) : Option (Int32 × Sg) := c_X8_month_0 s v1 v2 v3
theorem k_X8_month (s : Sg) (v1 : Int32) (v2 : Int32) (v3 : Int32) (o : Int32 × Sg) (hf : f_X8_month s v1 v2 v3 = some o) : Ctr NM yX8_month (ws_X8_month) rm_X8_month SH s [.ref 36, .int v1, .int v2, .int v3] (some (.int o.1)) o.2 :=
  Ctr.of (by decide) rfl (Nat.le_of_ble_eq_true rfl) (fun X C Rr => by show XW NM X 4 0 0 SH s 0 [(0, .ref 36), (1, .int v1), (2, .int v2), (3, .int v3)] []; exact w_X8_month_0 C Rr s v1 v2 v3 hf)
abbrev ws_X8_pace : List Cond := Cond.code yX8_pace cX8_pace 5 (some .int) :: AW
abbrev rm_X8_pace : Room := { frames := 1, cells := 0, slots := 0, locals := 22 }
def c_X8_pace_0 (s : Sg) (v1 : Int32) (v2 : Int32) (v3 : Int32) (v4 : Int32) : Option (Int32 × Sg) :=
bd (f_X8_in s v1 ((0:Int32)) ((4:Int32))) (fun r2 s1 => if r2 = 0 then
 some ((-2:Int32), s1)
 else
 bd (f_X8_in s1 v2 ((0:Int32)) ((1000:Int32))) (fun r4 s3 => if r4 = 0 then
 some ((-2:Int32), s3)
 else
 bd (f_X8_in s3 v3 ((0:Int32)) ((1000:Int32))) (fun r6 s5 => if r6 = 0 then
 some ((-2:Int32), s5)
 else
 bd (f_X8_in s5 v4 ((0:Int32)) ((1000:Int32))) (fun r8 s7 => if r8 = 0 then
 some ((-2:Int32), s7)
 else
 gd (vi v1 5) (lt_ (sgu s7 63 v1.toNatClampNeg v2) (fun s9 => gd (vi v1 5) (lt_ (sgu s9 64 v1.toNatClampNeg v3) (fun s10 => gd (vi v1 5) (lt_ (sgu s10 65 v1.toNatClampNeg v4) (fun s11 => some ((1:Int32), s11)))))))))))
set_option maxHeartbeats 4000000 in
set_option maxRecDepth 100000 in
theorem w_X8_pace_0 {X : Ctx} {o : Int32 × Sg} (C : Cx NM X cX8_pace 5 RX8 (ws_X8_pace) (some .int) rm_X8_pace) (Rr : Rx NM X 0 0 (some (.int o.1)) SH o.2) (s : Sg) (v1 : Int32) (v2 : Int32) (v3 : Int32) (v4 : Int32) (hf : c_X8_pace_0 s v1 v2 v3 v4 = some o) : XW NM X 5 0 0 SH s 0 [(0, .ref 36), (1, .int v1), (2, .int v2), (3, .int v3), (4, .int v4)] [] := by
  unfold c_X8_pace_0 at hf
  refine X_iload_n C 1 dX8_pace_0 rfl rfl ?_
  refine X_iconst (v := (0:Int32)) C dX8_pace_1 (by decide) ?_
  refine X_iconst (v := (4:Int32)) C dX8_pace_2 (by decide) ?_
  refine X_callSi (As := [.int v1, .int ((0:Int32)), .int ((4:Int32))]) (rest := []) C aw_ok mcs lk_X8_123 (by decide) rfl rfl (Nat.le_of_ble_eq_true rfl) dX8_pace_3 hf (fun r s h => k_X8_in _ _ _ _ (r, s) h) (fun r2 s1 hf => ?_)
  refine X_if_eq (tgt := 43) C dX8_pace_6 (by decide) hf (fun hf => ?_) (fun hf => ?_)
  · refine X_bipush (v := (-2:Int32)) C dX8_pace_43 (by decide) ?_
    exact X_iret C dX8_pace_45 hf Rr
  · refine X_iload_n C 2 dX8_pace_9 rfl rfl ?_
    refine X_iconst (v := (0:Int32)) C dX8_pace_10 (by decide) ?_
    refine X_sipush (v := (1000:Int32)) C dX8_pace_11 (by decide) ?_
    refine X_callSi (As := [.int v2, .int ((0:Int32)), .int ((1000:Int32))]) (rest := []) C aw_ok mcs lk_X8_123 (by decide) rfl rfl (Nat.le_of_ble_eq_true rfl) dX8_pace_14 hf (fun r s h => k_X8_in _ _ _ _ (r, s) h) (fun r4 s3 hf => ?_)
    refine X_if_eq (tgt := 43) C dX8_pace_17 (by decide) hf (fun hf => ?_) (fun hf => ?_)
    · refine X_bipush (v := (-2:Int32)) C dX8_pace_43 (by decide) ?_
      exact X_iret C dX8_pace_45 hf Rr
    · refine X_iload_n C 3 dX8_pace_20 rfl rfl ?_
      refine X_iconst (v := (0:Int32)) C dX8_pace_21 (by decide) ?_
      refine X_sipush (v := (1000:Int32)) C dX8_pace_22 (by decide) ?_
      refine X_callSi (As := [.int v3, .int ((0:Int32)), .int ((1000:Int32))]) (rest := []) C aw_ok mcs lk_X8_123 (by decide) rfl rfl (Nat.le_of_ble_eq_true rfl) dX8_pace_25 hf (fun r s h => k_X8_in _ _ _ _ (r, s) h) (fun r6 s5 hf => ?_)
      refine X_if_eq (tgt := 43) C dX8_pace_28 (by decide) hf (fun hf => ?_) (fun hf => ?_)
      · refine X_bipush (v := (-2:Int32)) C dX8_pace_43 (by decide) ?_
        exact X_iret C dX8_pace_45 hf Rr
      · refine X_iload C 4 dX8_pace_31 rfl ?_
        refine X_iconst (v := (0:Int32)) C dX8_pace_33 (by decide) ?_
        refine X_sipush (v := (1000:Int32)) C dX8_pace_34 (by decide) ?_
        refine X_callSi (As := [.int v4, .int ((0:Int32)), .int ((1000:Int32))]) (rest := []) C aw_ok mcs lk_X8_123 (by decide) rfl rfl (Nat.le_of_ble_eq_true rfl) dX8_pace_37 hf (fun r s h => k_X8_in _ _ _ _ (r, s) h) (fun r8 s7 hf => ?_)
        refine X_if_ne (tgt := 46) C dX8_pace_40 (by decide) hf (fun hf => ?_) (fun hf => ?_)
        · refine X_aload_n C 0 dX8_pace_46 rfl rfl ?_
          refine X_getr C 48 sh_36 nc_8 inM_8 (by decide) (mc wd_130) rfl dX8_pace_47 ?_
          refine X_iload_n C 1 dX8_pace_50 rfl rfl ?_
          refine X_iload_n C 2 dX8_pace_51 rfl rfl ?_
          refine X_iast C sh_63 dX8_pace_52 hf (fun s9 hf => ?_)
          refine X_aload_n C 0 dX8_pace_53 rfl rfl ?_
          refine X_getr C 49 sh_36 nc_8 inM_8 (by decide) (mc wd_131) rfl dX8_pace_54 ?_
          refine X_iload_n C 1 dX8_pace_57 rfl rfl ?_
          refine X_iload_n C 3 dX8_pace_58 rfl rfl ?_
          refine X_iast C sh_64 dX8_pace_59 hf (fun s10 hf => ?_)
          refine X_aload_n C 0 dX8_pace_60 rfl rfl ?_
          refine X_getr C 50 sh_36 nc_8 inM_8 (by decide) (mc wd_132) rfl dX8_pace_61 ?_
          refine X_iload_n C 1 dX8_pace_64 rfl rfl ?_
          refine X_iload C 4 dX8_pace_65 rfl ?_
          refine X_iast C sh_65 dX8_pace_67 hf (fun s11 hf => ?_)
          refine X_iconst (v := (1:Int32)) C dX8_pace_68 (by decide) ?_
          exact X_iret C dX8_pace_69 hf Rr
        · refine X_bipush (v := (-2:Int32)) C dX8_pace_43 (by decide) ?_
          exact X_iret C dX8_pace_45 hf Rr
def f_X8_pace (s : Sg) (v1 : Int32) (v2 : Int32) (v3 : Int32) (v4 : Int32) : Option (Int32 × Sg) := c_X8_pace_0 s v1 v2 v3 v4
theorem k_X8_pace (s : Sg) (v1 : Int32) (v2 : Int32) (v3 : Int32) (v4 : Int32) (o : Int32 × Sg) (hf : f_X8_pace s v1 v2 v3 v4 = some o) : Ctr NM yX8_pace (ws_X8_pace) rm_X8_pace SH s [.ref 36, .int v1, .int v2, .int v3, .int v4] (some (.int o.1)) o.2 :=
  Ctr.of (by decide) rfl (Nat.le_of_ble_eq_true rfl) (fun X C Rr => by show XW NM X 5 0 0 SH s 0 [(0, .ref 36), (1, .int v1), (2, .int v2), (3, .int v3), (4, .int v4)] []; exact w_X8_pace_0 C Rr s v1 v2 v3 v4 hf)
abbrev ws_X8_ironOf : List Cond := Cond.code yX8_ironOf cX8_ironOf 14 (some .int) :: AW
abbrev rm_X8_ironOf : Room := { frames := 0, cells := 0, slots := 0, locals := 0 }
def c_X8_ironOf_16 (N : Nat) (K16 : Sg → Int32 → Int32 → Int32 → Int32 → Int32 → Int32 → Int32 → Int32 → Int32 → Option (Int32 × Sg)) (s : Sg) (v1 : Int32) (v3 : Int32) (v4 : Int32) (v5 : Int32) (v7 : Int32) (v8 : Int32) (v9 : Int32) (v10 : Int32) (v11 : Int32) : Option (Int32 × Sg) :=
if v4 ≤ v11 then
 some (v10, s)
 else
 gd (!decide (((5:Int32)) = 0)) (lt_ (v7 / ((5:Int32))) (fun x1 => gd (!decide (x1 = 0)) (gd (!decide (((5:Int32)) = 0)) (lt_ ((v1 / x1) - (v1 / x1) / ((5:Int32)) * ((5:Int32))) (fun x2 => gd (!decide (((12:Int32)) = 0)) (lt_ ((v3 + v11) - (v3 + v11) / ((12:Int32)) * ((12:Int32))) (fun x3 => gd (vi x3 12) (lt_ (v9 + (s 62 x3.toNatClampNeg)) (fun x4 => gd (vi x2 5) (lt_ (v8 + (s 64 x2.toNatClampNeg)) (fun x5 => gd (vi x3 12) (if (s 61 x3.toNatClampNeg) < x2 then
 some ((-1:Int32), s)
 else
 gd (vi x2 5) (if x4 < (s 65 x2.toNatClampNeg) then
 some ((-1:Int32), s)
 else
 if x5 ≤ v5 then
 gd (vi x2 5) (lt_ (x4 - (s 65 x2.toNatClampNeg)) (fun x6 => gd (vi x2 5) (lt_ (v10 + (s 63 x2.toNatClampNeg)) (fun x7 => K16 s v1 v3 v4 v5 x1 x5 x6 x7 (v11 + (1:Int32))))))
 else
 some ((-1:Int32), s))))))))))))))
set_option maxHeartbeats 4000000 in
set_option maxRecDepth 100000 in
theorem w_X8_ironOf_16 {X : Ctx} {N : Nat} {o : Int32 × Sg} (C : Cx NM X cX8_ironOf 14 RX8 (ws_X8_ironOf) (some .int) rm_X8_ironOf) (Rr : Rx NM X 0 0 (some (.int o.1)) SH o.2) {K16 : Sg → Int32 → Int32 → Int32 → Int32 → Int32 → Int32 → Int32 → Int32 → Int32 → Option (Int32 × Sg)} (hK16 : ∀ (s : Sg) (v1 : Int32) (v3 : Int32) (v4 : Int32) (v5 : Int32) (v7 : Int32) (v8 : Int32) (v9 : Int32) (v10 : Int32) (v11 : Int32), K16 s v1 v3 v4 v5 v7 v8 v9 v10 v11 = some o → XW NM X 14 0 0 SH s 16 [(0, .ref 36), (1, .int v1), (3, .int v3), (4, .int v4), (5, .int v5), (7, .int v7), (8, .int v8), (9, .int v9), (10, .int v10), (11, .int v11)] []) (s : Sg) (v1 : Int32) (v3 : Int32) (v4 : Int32) (v5 : Int32) (v7 : Int32) (v8 : Int32) (v9 : Int32) (v10 : Int32) (v11 : Int32) (hf : c_X8_ironOf_16 N K16 s v1 v3 v4 v5 v7 v8 v9 v10 v11 = some o) : XW NM X 14 0 0 SH s 16 [(0, .ref 36), (1, .int v1), (3, .int v3), (4, .int v4), (5, .int v5), (7, .int v7), (8, .int v8), (9, .int v9), (10, .int v10), (11, .int v11)] [] := by
  unfold c_X8_ironOf_16 at hf
  refine X_iload C 9 dX8_ironOf_16 rfl ?_
  refine X_iload C 3 dX8_ironOf_18 rfl ?_
  refine X_icmp_ge (tgt := 133) C dX8_ironOf_20 (by decide) hf (fun hf => ?_) (fun hf => ?_)
  · refine X_iload C 8 dX8_ironOf_133 rfl ?_
    exact X_iret C dX8_ironOf_135 hf Rr
  · refine X_iload C 5 dX8_ironOf_23 rfl ?_
    refine X_iconst (v := (5:Int32)) C dX8_ironOf_25 (by decide) ?_
    refine X_idiv C dX8_ironOf_26 hf (fun hf => ?_)
    refine X_nm hf (fun x1 hf => ?_)
    refine X_istore (L' := [(0, .ref 36), (1, .int v1), (3, .int v3), (4, .int v4), (5, .int v5), (7, .int x1), (8, .int v8), (9, .int v9), (10, .int v10), (11, .int v11)]) C [1, 2, 3, 4, 5, 0, 6, 7, 8, 9] dX8_ironOf_27 (by decide) rfl ?_
    refine X_iload_n C 1 dX8_ironOf_29 rfl rfl ?_
    refine X_iload C 5 dX8_ironOf_30 rfl ?_
    refine X_idiv C dX8_ironOf_32 hf (fun hf => ?_)
    refine X_iconst (v := (5:Int32)) C dX8_ironOf_33 (by decide) ?_
    refine X_irem C dX8_ironOf_34 hf (fun hf => ?_)
    refine X_nm hf (fun x2 hf => ?_)
    refine X_istore (L' := [(0, .ref 36), (1, .int v1), (3, .int v3), (4, .int v4), (5, .int v5), (7, .int x1), (8, .int v8), (9, .int v9), (10, .int v10), (11, .int v11), (12, .int x2)]) C [1, 2, 3, 4, 5, 6, 7, 8, 9, 10, 0] dX8_ironOf_35 (by decide) rfl ?_
    refine X_iload_n C 2 dX8_ironOf_37 rfl rfl ?_
    refine X_iload C 9 dX8_ironOf_38 rfl ?_
    refine X_iadd C dX8_ironOf_40 ?_
    refine X_bipush (v := (12:Int32)) C dX8_ironOf_41 (by decide) ?_
    refine X_irem C dX8_ironOf_43 hf (fun hf => ?_)
    refine X_nm hf (fun x3 hf => ?_)
    refine X_istore (L' := [(0, .ref 36), (1, .int v1), (3, .int v3), (4, .int v4), (5, .int v5), (7, .int x1), (8, .int v8), (9, .int v9), (10, .int v10), (11, .int v11), (12, .int x2), (13, .int x3)]) C [1, 2, 3, 4, 5, 6, 7, 8, 9, 10, 11, 0] dX8_ironOf_44 (by decide) rfl ?_
    refine X_iload C 7 dX8_ironOf_46 rfl ?_
    refine X_aload_n C 0 dX8_ironOf_48 rfl rfl ?_
    refine X_getr C 47 sh_36 nc_8 inM_8 (by decide) (mc wd_129) rfl dX8_ironOf_49 ?_
    refine X_iload C 11 dX8_ironOf_52 rfl ?_
    refine X_iald C sh_62 dX8_ironOf_54 hf (fun hf => ?_)
    refine X_iadd C dX8_ironOf_55 ?_
    refine X_nm hf (fun x4 hf => ?_)
    refine X_istore (L' := [(0, .ref 36), (1, .int v1), (3, .int v3), (4, .int v4), (5, .int v5), (7, .int x1), (8, .int v8), (9, .int x4), (10, .int v10), (11, .int v11), (12, .int x2), (13, .int x3)]) C [1, 2, 3, 4, 5, 6, 7, 0, 8, 9, 10, 11] dX8_ironOf_56 (by decide) rfl ?_
    refine X_iload C 6 dX8_ironOf_58 rfl ?_
    refine X_aload_n C 0 dX8_ironOf_60 rfl rfl ?_
    refine X_getr C 49 sh_36 nc_8 inM_8 (by decide) (mc wd_131) rfl dX8_ironOf_61 ?_
    refine X_iload C 10 dX8_ironOf_64 rfl ?_
    refine X_iald C sh_64 dX8_ironOf_66 hf (fun hf => ?_)
    refine X_iadd C dX8_ironOf_67 ?_
    refine X_nm hf (fun x5 hf => ?_)
    refine X_istore (L' := [(0, .ref 36), (1, .int v1), (3, .int v3), (4, .int v4), (5, .int v5), (7, .int x1), (8, .int x5), (9, .int x4), (10, .int v10), (11, .int v11), (12, .int x2), (13, .int x3)]) C [1, 2, 3, 4, 5, 6, 0, 7, 8, 9, 10, 11] dX8_ironOf_68 (by decide) rfl ?_
    refine X_iload C 10 dX8_ironOf_70 rfl ?_
    refine X_aload_n C 0 dX8_ironOf_72 rfl rfl ?_
    refine X_getr C 46 sh_36 nc_8 inM_8 (by decide) (mc wd_128) rfl dX8_ironOf_73 ?_
    refine X_iload C 11 dX8_ironOf_76 rfl ?_
    refine X_iald C sh_61 dX8_ironOf_78 hf (fun hf => ?_)
    refine X_icmp_gt (tgt := 101) C dX8_ironOf_79 (by decide) hf (fun hf => ?_) (fun hf => ?_)
    · refine X_iconst (v := (-1:Int32)) C dX8_ironOf_101 (by decide) ?_
      exact X_iret C dX8_ironOf_102 hf Rr
    · refine X_iload C 7 dX8_ironOf_82 rfl ?_
      refine X_aload_n C 0 dX8_ironOf_84 rfl rfl ?_
      refine X_getr C 50 sh_36 nc_8 inM_8 (by decide) (mc wd_132) rfl dX8_ironOf_85 ?_
      refine X_iload C 10 dX8_ironOf_88 rfl ?_
      refine X_iald C sh_65 dX8_ironOf_90 hf (fun hf => ?_)
      refine X_icmp_lt (tgt := 101) C dX8_ironOf_91 (by decide) hf (fun hf => ?_) (fun hf => ?_)
      · refine X_iconst (v := (-1:Int32)) C dX8_ironOf_101 (by decide) ?_
        exact X_iret C dX8_ironOf_102 hf Rr
      · refine X_iload C 6 dX8_ironOf_94 rfl ?_
        refine X_iload C 4 dX8_ironOf_96 rfl ?_
        refine X_icmp_le (tgt := 103) C dX8_ironOf_98 (by decide) hf (fun hf => ?_) (fun hf => ?_)
        · refine X_iload C 7 dX8_ironOf_103 rfl ?_
          refine X_aload_n C 0 dX8_ironOf_105 rfl rfl ?_
          refine X_getr C 50 sh_36 nc_8 inM_8 (by decide) (mc wd_132) rfl dX8_ironOf_106 ?_
          refine X_iload C 10 dX8_ironOf_109 rfl ?_
          refine X_iald C sh_65 dX8_ironOf_111 hf (fun hf => ?_)
          refine X_isub C dX8_ironOf_112 ?_
          refine X_nm hf (fun x6 hf => ?_)
          refine X_istore (L' := [(0, .ref 36), (1, .int v1), (3, .int v3), (4, .int v4), (5, .int v5), (7, .int x1), (8, .int x5), (9, .int x6), (10, .int v10), (11, .int v11), (12, .int x2), (13, .int x3)]) C [1, 2, 3, 4, 5, 6, 7, 0, 8, 9, 10, 11] dX8_ironOf_113 (by decide) rfl ?_
          refine X_iload C 8 dX8_ironOf_115 rfl ?_
          refine X_aload_n C 0 dX8_ironOf_117 rfl rfl ?_
          refine X_getr C 48 sh_36 nc_8 inM_8 (by decide) (mc wd_130) rfl dX8_ironOf_118 ?_
          refine X_iload C 10 dX8_ironOf_121 rfl ?_
          refine X_iald C sh_63 dX8_ironOf_123 hf (fun hf => ?_)
          refine X_iadd C dX8_ironOf_124 ?_
          refine X_nm hf (fun x7 hf => ?_)
          refine X_istore (L' := [(0, .ref 36), (1, .int v1), (3, .int v3), (4, .int v4), (5, .int v5), (7, .int x1), (8, .int x5), (9, .int x6), (10, .int x7), (11, .int v11), (12, .int x2), (13, .int x3)]) C [1, 2, 3, 4, 5, 6, 7, 8, 0, 9, 10, 11] dX8_ironOf_125 (by decide) rfl ?_
          refine X_iinc (v := (1:Int32)) (L' := [(0, .ref 36), (1, .int v1), (3, .int v3), (4, .int v4), (5, .int v5), (7, .int x1), (8, .int x5), (9, .int x6), (10, .int x7), (11, .int (v11 + (1:Int32))), (12, .int x2), (13, .int x3)]) C 9 [1, 2, 3, 4, 5, 6, 7, 8, 9, 0, 10, 11] dX8_ironOf_127 rfl (by decide) (by decide) rfl ?_
          refine X_goto (tgt := 16) C dX8_ironOf_130 (by decide) ?_
          refine X_loc (L' := [(0, .ref 36), (1, .int v1), (3, .int v3), (4, .int v4), (5, .int v5), (7, .int x1), (8, .int x5), (9, .int x6), (10, .int x7), (11, .int (v11 + (1:Int32)))]) [0, 1, 2, 3, 4, 5, 6, 7, 8, 9] rfl ?_
          exact hK16 _ _ _ _ _ _ _ _ _ _ hf
        · refine X_iconst (v := (-1:Int32)) C dX8_ironOf_101 (by decide) ?_
          exact X_iret C dX8_ironOf_102 hf Rr
def b_X8_ironOf_16 (N : Nat) : Nat → Sg → Int32 → Int32 → Int32 → Int32 → Int32 → Int32 → Int32 → Int32 → Int32 → Option (Int32 × Sg)
  | 0, _, _, _, _, _, _, _, _, _, _ => none
  | j + 1, s, v1, v3, v4, v5, v7, v8, v9, v10, v11 => c_X8_ironOf_16 N (b_X8_ironOf_16 N j) s v1 v3 v4 v5 v7 v8 v9 v10 v11
theorem h_X8_ironOf_16 {X : Ctx} {N : Nat} {o : Int32 × Sg} (C : Cx NM X cX8_ironOf 14 RX8 (ws_X8_ironOf) (some .int) rm_X8_ironOf) (Rr : Rx NM X 0 0 (some (.int o.1)) SH o.2) : ∀ (j : Nat) (s : Sg) (v1 : Int32) (v3 : Int32) (v4 : Int32) (v5 : Int32) (v7 : Int32) (v8 : Int32) (v9 : Int32) (v10 : Int32) (v11 : Int32), b_X8_ironOf_16 N j s v1 v3 v4 v5 v7 v8 v9 v10 v11 = some o → XW NM X 14 0 0 SH s 16 [(0, .ref 36), (1, .int v1), (3, .int v3), (4, .int v4), (5, .int v5), (7, .int v7), (8, .int v8), (9, .int v9), (10, .int v10), (11, .int v11)] [] := by
  intro j
  induction j with
  | zero => intro s v1 v3 v4 v5 v7 v8 v9 v10 v11 hf; cases (show none = some o from hf)
  | succ j ih => intro s v1 v3 v4 v5 v7 v8 v9 v10 v11 hf; exact w_X8_ironOf_16 C Rr ih s v1 v3 v4 v5 v7 v8 v9 v10 v11 hf
def c_X8_ironOf_0 (N : Nat) (s : Sg) (v1 : Int32) (v2 : Int32) (v3 : Int32) (v4 : Int32) (v5 : Int32) (v6 : Int32) : Option (Int32 × Sg) :=
b_X8_ironOf_16 N N s v1 v3 v4 v5 v2 ((0:Int32)) v6 ((0:Int32)) ((0:Int32))
set_option maxHeartbeats 4000000 in
set_option maxRecDepth 100000 in
theorem w_X8_ironOf_0 {X : Ctx} {N : Nat} {o : Int32 × Sg} (C : Cx NM X cX8_ironOf 14 RX8 (ws_X8_ironOf) (some .int) rm_X8_ironOf) (Rr : Rx NM X 0 0 (some (.int o.1)) SH o.2) (s : Sg) (v1 : Int32) (v2 : Int32) (v3 : Int32) (v4 : Int32) (v5 : Int32) (v6 : Int32) (hf : c_X8_ironOf_0 N s v1 v2 v3 v4 v5 v6 = some o) : XW NM X 14 0 0 SH s 0 [(0, .ref 36), (1, .int v1), (2, .int v2), (3, .int v3), (4, .int v4), (5, .int v5), (6, .int v6)] [] := by
  unfold c_X8_ironOf_0 at hf
  refine X_iload_n C 2 dX8_ironOf_0 rfl rfl ?_
  refine X_istore (L' := [(0, .ref 36), (1, .int v1), (2, .int v2), (3, .int v3), (4, .int v4), (5, .int v5), (6, .int v6), (7, .int v2)]) C [1, 2, 3, 4, 5, 6, 7, 0] dX8_ironOf_1 (by decide) rfl ?_
  refine X_iconst (v := (0:Int32)) C dX8_ironOf_3 (by decide) ?_
  refine X_istore (L' := [(0, .ref 36), (1, .int v1), (2, .int v2), (3, .int v3), (4, .int v4), (5, .int v5), (6, .int v6), (7, .int v2), (8, .int ((0:Int32)))]) C [1, 2, 3, 4, 5, 6, 7, 8, 0] dX8_ironOf_4 (by decide) rfl ?_
  refine X_iload C 6 dX8_ironOf_6 rfl ?_
  refine X_istore (L' := [(0, .ref 36), (1, .int v1), (2, .int v2), (3, .int v3), (4, .int v4), (5, .int v5), (6, .int v6), (7, .int v2), (8, .int ((0:Int32))), (9, .int v6)]) C [1, 2, 3, 4, 5, 6, 7, 8, 9, 0] dX8_ironOf_8 (by decide) rfl ?_
  refine X_iconst (v := (0:Int32)) C dX8_ironOf_10 (by decide) ?_
  refine X_istore (L' := [(0, .ref 36), (1, .int v1), (2, .int v2), (3, .int v3), (4, .int v4), (5, .int v5), (6, .int v6), (7, .int v2), (8, .int ((0:Int32))), (9, .int v6), (10, .int ((0:Int32)))]) C [1, 2, 3, 4, 5, 6, 7, 8, 9, 10, 0] dX8_ironOf_11 (by decide) rfl ?_
  refine X_iconst (v := (0:Int32)) C dX8_ironOf_13 (by decide) ?_
  refine X_istore (L' := [(0, .ref 36), (1, .int v1), (2, .int v2), (3, .int v3), (4, .int v4), (5, .int v5), (6, .int v6), (7, .int v2), (8, .int ((0:Int32))), (9, .int v6), (10, .int ((0:Int32))), (11, .int ((0:Int32)))]) C [1, 2, 3, 4, 5, 6, 7, 8, 9, 10, 11, 0] dX8_ironOf_14 (by decide) rfl ?_
  refine X_loc (L' := [(0, .ref 36), (1, .int v1), (3, .int v3), (4, .int v4), (5, .int v5), (7, .int v2), (8, .int ((0:Int32))), (9, .int v6), (10, .int ((0:Int32))), (11, .int ((0:Int32)))]) [0, 1, 3, 4, 5, 7, 8, 9, 10, 11] rfl ?_
  exact h_X8_ironOf_16 C Rr _ _ _ _ _ _ _ _ _ _ _ hf
def f_X8_ironOf (N : Nat) (s : Sg) (v1 : Int32) (v2 : Int32) (v3 : Int32) (v4 : Int32) (v5 : Int32) (v6 : Int32) : Option (Int32 × Sg) := c_X8_ironOf_0 N s v1 v2 v3 v4 v5 v6
theorem k_X8_ironOf {N : Nat} (s : Sg) (v1 : Int32) (v2 : Int32) (v3 : Int32) (v4 : Int32) (v5 : Int32) (v6 : Int32) (o : Int32 × Sg) (hf : f_X8_ironOf N s v1 v2 v3 v4 v5 v6 = some o) : Ctr NM yX8_ironOf (ws_X8_ironOf) rm_X8_ironOf SH s [.ref 36, .int v1, .int v2, .int v3, .int v4, .int v5, .int v6] (some (.int o.1)) o.2 :=
  Ctr.of (by decide) rfl (Nat.le_of_ble_eq_true rfl) (fun X C Rr => by show XW NM X 14 0 0 SH s 0 [(0, .ref 36), (1, .int v1), (2, .int v2), (3, .int v3), (4, .int v4), (5, .int v5), (6, .int v6)] []; exact w_X8_ironOf_0 C Rr s v1 v2 v3 v4 v5 v6 hf)
abbrev ws_X8_plan : List Cond := Cond.code yX8_plan cX8_plan 10 (some .int) :: AW
abbrev rm_X8_plan : Room := { frames := 1, cells := 0, slots := 0, locals := 33 }
def c_X8_plan_138 (N : Nat) (K138 : Sg → Int32 → Int32 → Int32 → Option (Int32 × Sg)) (s : Sg) (v6 : Int32) (v7 : Int32) (v8 : Int32) : Option (Int32 × Sg) :=
if v8 < 0 then
 some (v6, s)
 else
 gd (!decide (((5:Int32)) = 0)) (gd (vi v8 6) (lt_ (sgu s 66 v8.toNatClampNeg (v7 - v7 / ((5:Int32)) * ((5:Int32)))) (fun s1 => gd (!decide (((5:Int32)) = 0)) (lt_ (v7 / ((5:Int32))) (fun x2 => K138 s1 v6 x2 (v8 + (-1:Int32)))))))
set_option maxHeartbeats 4000000 in
set_option maxRecDepth 100000 in
theorem w_X8_plan_138 {X : Ctx} {N : Nat} {o : Int32 × Sg} (C : Cx NM X cX8_plan 10 RX8 (ws_X8_plan) (some .int) rm_X8_plan) (Rr : Rx NM X 0 0 (some (.int o.1)) SH o.2) {K138 : Sg → Int32 → Int32 → Int32 → Option (Int32 × Sg)} (hK138 : ∀ (s : Sg) (v6 : Int32) (v7 : Int32) (v8 : Int32), K138 s v6 v7 v8 = some o → XW NM X 10 0 0 SH s 138 [(0, .ref 36), (6, .int v6), (7, .int v7), (8, .int v8)] []) (s : Sg) (v6 : Int32) (v7 : Int32) (v8 : Int32) (hf : c_X8_plan_138 N K138 s v6 v7 v8 = some o) : XW NM X 10 0 0 SH s 138 [(0, .ref 36), (6, .int v6), (7, .int v7), (8, .int v8)] [] := by
  unfold c_X8_plan_138 at hf
  refine X_iload C 3 dX8_plan_138 rfl ?_
  refine X_if_lt (tgt := 166) C dX8_plan_140 (by decide) hf (fun hf => ?_) (fun hf => ?_)
  · refine X_iload C 1 dX8_plan_166 rfl ?_
    exact X_iret C dX8_plan_168 hf Rr
  · refine X_aload_n C 0 dX8_plan_143 rfl rfl ?_
    refine X_getr C 51 sh_36 nc_8 inM_8 (by decide) (mc wd_134) rfl dX8_plan_144 ?_
    refine X_iload C 3 dX8_plan_147 rfl ?_
    refine X_iload C 2 dX8_plan_149 rfl ?_
    refine X_iconst (v := (5:Int32)) C dX8_plan_151 (by decide) ?_
    refine X_irem C dX8_plan_152 hf (fun hf => ?_)
    refine X_iast C sh_66 dX8_plan_153 hf (fun s1 hf => ?_)
    refine X_iload C 2 dX8_plan_154 rfl ?_
    refine X_iconst (v := (5:Int32)) C dX8_plan_156 (by decide) ?_
    refine X_idiv C dX8_plan_157 hf (fun hf => ?_)
    refine X_nm hf (fun x2 hf => ?_)
    refine X_istore (L' := [(0, .ref 36), (6, .int v6), (7, .int x2), (8, .int v8)]) C [1, 2, 0, 3] dX8_plan_158 (by decide) rfl ?_
    refine X_iinc (v := (-1:Int32)) (L' := [(0, .ref 36), (6, .int v6), (7, .int x2), (8, .int (v8 + (-1:Int32)))]) C 3 [1, 2, 3, 0] dX8_plan_160 rfl (by decide) (by decide) rfl ?_
    refine X_goto (tgt := 138) C dX8_plan_163 (by decide) ?_
    exact hK138 _ _ _ _ hf
def b_X8_plan_138 (N : Nat) : Nat → Sg → Int32 → Int32 → Int32 → Option (Int32 × Sg)
  | 0, _, _, _, _ => none
  | j + 1, s, v6, v7, v8 => c_X8_plan_138 N (b_X8_plan_138 N j) s v6 v7 v8
theorem h_X8_plan_138 {X : Ctx} {N : Nat} {o : Int32 × Sg} (C : Cx NM X cX8_plan 10 RX8 (ws_X8_plan) (some .int) rm_X8_plan) (Rr : Rx NM X 0 0 (some (.int o.1)) SH o.2) : ∀ (j : Nat) (s : Sg) (v6 : Int32) (v7 : Int32) (v8 : Int32), b_X8_plan_138 N j s v6 v7 v8 = some o → XW NM X 10 0 0 SH s 138 [(0, .ref 36), (6, .int v6), (7, .int v7), (8, .int v8)] [] := by
  intro j
  induction j with
  | zero => intro s v6 v7 v8 hf; cases (show none = some o from hf)
  | succ j ih => intro s v6 v7 v8 hf; exact w_X8_plan_138 C Rr ih s v6 v7 v8 hf
def c_X8_plan_122 (N : Nat) (s : Sg) (v2 : Int32) (v6 : Int32) (v7 : Int32) : Option (Int32 × Sg) :=
if v6 = ((-1:Int32)) then
 some (v6, s)
 else
 lt_ (sgu s 36 52 v2) (fun s1 => lt_ (v2 - ((1:Int32))) (fun x2 => b_X8_plan_138 N N s1 v6 v7 x2))
set_option maxHeartbeats 4000000 in
set_option maxRecDepth 100000 in
theorem w_X8_plan_122 {X : Ctx} {N : Nat} {o : Int32 × Sg} (C : Cx NM X cX8_plan 10 RX8 (ws_X8_plan) (some .int) rm_X8_plan) (Rr : Rx NM X 0 0 (some (.int o.1)) SH o.2) (s : Sg) (v2 : Int32) (v6 : Int32) (v7 : Int32) (hf : c_X8_plan_122 N s v2 v6 v7 = some o) : XW NM X 10 0 0 SH s 122 [(0, .ref 36), (2, .int v2), (6, .int v6), (7, .int v7)] [] := by
  unfold c_X8_plan_122 at hf
  refine X_iload C 2 dX8_plan_122 rfl ?_
  refine X_iconst (v := (-1:Int32)) C dX8_plan_124 (by decide) ?_
  refine X_icmp_eq (tgt := 166) C dX8_plan_125 (by decide) hf (fun hf => ?_) (fun hf => ?_)
  · refine X_iload C 2 dX8_plan_166 rfl ?_
    exact X_iret C dX8_plan_168 hf Rr
  · refine X_aload_n C 0 dX8_plan_128 rfl rfl ?_
    refine X_iload_n C 1 dX8_plan_129 rfl rfl ?_
    refine X_puti C 52 sh_36 nc_8 inM_8 (by decide) tyX8 tyX8_ok nmX8 (mc wd_133) rfl (by decide +kernel) rfl dX8_plan_130 hf (fun s1 hf => ?_)
    refine X_iload_n C 1 dX8_plan_133 rfl rfl ?_
    refine X_iconst (v := (1:Int32)) C dX8_plan_134 (by decide) ?_
    refine X_isub C dX8_plan_135 ?_
    refine X_nm hf (fun x2 hf => ?_)
    refine X_istore (L' := [(0, .ref 36), (2, .int v2), (6, .int v6), (7, .int v7), (8, .int x2)]) C [1, 2, 3, 4, 0] dX8_plan_136 (by decide) rfl ?_
    refine X_loc (L' := [(0, .ref 36), (6, .int v6), (7, .int v7), (8, .int x2)]) [0, 2, 3, 4] rfl ?_
    exact h_X8_plan_138 C Rr _ _ _ _ _ hf
def c_X8_plan_116 (N : Nat) (K79 : Sg → Int32 → Int32 → Int32 → Int32 → Int32 → Int32 → Int32 → Int32 → Option (Int32 × Sg)) (s : Sg) (v1 : Int32) (v2 : Int32) (v3 : Int32) (v4 : Int32) (v5 : Int32) (v6 : Int32) (v7 : Int32) (v8 : Int32) : Option (Int32 × Sg) :=
K79 s v1 v2 v3 v4 v5 v6 v7 (v8 + (1:Int32))
set_option maxHeartbeats 4000000 in
set_option maxRecDepth 100000 in
theorem w_X8_plan_116 {X : Ctx} {N : Nat} {o : Int32 × Sg} (C : Cx NM X cX8_plan 10 RX8 (ws_X8_plan) (some .int) rm_X8_plan) (Rr : Rx NM X 0 0 (some (.int o.1)) SH o.2) {K79 : Sg → Int32 → Int32 → Int32 → Int32 → Int32 → Int32 → Int32 → Int32 → Option (Int32 × Sg)} (hK79 : ∀ (s : Sg) (v1 : Int32) (v2 : Int32) (v3 : Int32) (v4 : Int32) (v5 : Int32) (v6 : Int32) (v7 : Int32) (v8 : Int32), K79 s v1 v2 v3 v4 v5 v6 v7 v8 = some o → XW NM X 10 0 0 SH s 79 [(0, .ref 36), (1, .int v1), (2, .int v2), (3, .int v3), (4, .int v4), (5, .int v5), (6, .int v6), (7, .int v7), (8, .int v8)] []) (s : Sg) (v1 : Int32) (v2 : Int32) (v3 : Int32) (v4 : Int32) (v5 : Int32) (v6 : Int32) (v7 : Int32) (v8 : Int32) (hf : c_X8_plan_116 N K79 s v1 v2 v3 v4 v5 v6 v7 v8 = some o) : XW NM X 10 0 0 SH s 116 [(0, .ref 36), (1, .int v1), (2, .int v2), (3, .int v3), (4, .int v4), (5, .int v5), (6, .int v6), (7, .int v7), (8, .int v8)] [] := by
  unfold c_X8_plan_116 at hf
  refine X_iinc (v := (1:Int32)) (L' := [(0, .ref 36), (1, .int v1), (2, .int v2), (3, .int v3), (4, .int v4), (5, .int v5), (6, .int v6), (7, .int v7), (8, .int (v8 + (1:Int32)))]) C 8 [1, 2, 3, 4, 5, 6, 7, 8, 0] dX8_plan_116 rfl (by decide) (by decide) rfl ?_
  refine X_goto (tgt := 79) C dX8_plan_119 (by decide) ?_
  exact hK79 _ _ _ _ _ _ _ _ _ hf
def c_X8_plan_79 (N : Nat) (K79 : Sg → Int32 → Int32 → Int32 → Int32 → Int32 → Int32 → Int32 → Int32 → Option (Int32 × Sg)) (s : Sg) (v1 : Int32) (v2 : Int32) (v3 : Int32) (v4 : Int32) (v5 : Int32) (v6 : Int32) (v7 : Int32) (v8 : Int32) : Option (Int32 × Sg) :=
if v5 ≤ v8 then
 c_X8_plan_122 N s v2 v6 v7
 else
 bd (f_X8_ironOf N s v8 v5 v1 v2 v3 v4) (fun r2 s1 => if r2 ≤ v6 then
 c_X8_plan_116 N K79 s1 v1 v2 v3 v4 v5 v6 v7 v8
 else
 c_X8_plan_116 N K79 s1 v1 v2 v3 v4 v5 r2 v8 v8)
set_option maxHeartbeats 4000000 in
set_option maxRecDepth 100000 in
theorem w_X8_plan_79 {X : Ctx} {N : Nat} {o : Int32 × Sg} (C : Cx NM X cX8_plan 10 RX8 (ws_X8_plan) (some .int) rm_X8_plan) (Rr : Rx NM X 0 0 (some (.int o.1)) SH o.2) {K79 : Sg → Int32 → Int32 → Int32 → Int32 → Int32 → Int32 → Int32 → Int32 → Option (Int32 × Sg)} (hK79 : ∀ (s : Sg) (v1 : Int32) (v2 : Int32) (v3 : Int32) (v4 : Int32) (v5 : Int32) (v6 : Int32) (v7 : Int32) (v8 : Int32), K79 s v1 v2 v3 v4 v5 v6 v7 v8 = some o → XW NM X 10 0 0 SH s 79 [(0, .ref 36), (1, .int v1), (2, .int v2), (3, .int v3), (4, .int v4), (5, .int v5), (6, .int v6), (7, .int v7), (8, .int v8)] []) (s : Sg) (v1 : Int32) (v2 : Int32) (v3 : Int32) (v4 : Int32) (v5 : Int32) (v6 : Int32) (v7 : Int32) (v8 : Int32) (hf : c_X8_plan_79 N K79 s v1 v2 v3 v4 v5 v6 v7 v8 = some o) : XW NM X 10 0 0 SH s 79 [(0, .ref 36), (1, .int v1), (2, .int v2), (3, .int v3), (4, .int v4), (5, .int v5), (6, .int v6), (7, .int v7), (8, .int v8)] [] := by
  unfold c_X8_plan_79 at hf
  refine X_iload C 8 dX8_plan_79 rfl ?_
  refine X_iload C 5 dX8_plan_81 rfl ?_
  refine X_icmp_ge (tgt := 122) C dX8_plan_83 (by decide) hf (fun hf => ?_) (fun hf => ?_)
  · refine X_loc (L' := [(0, .ref 36), (2, .int v2), (6, .int v6), (7, .int v7)]) [0, 2, 6, 7] rfl ?_
    exact w_X8_plan_122 C Rr _ _ _ _ hf
  · refine X_aload_n C 0 dX8_plan_86 rfl rfl ?_
    refine X_iload C 8 dX8_plan_87 rfl ?_
    refine X_iload C 5 dX8_plan_89 rfl ?_
    refine X_iload_n C 1 dX8_plan_91 rfl rfl ?_
    refine X_iload_n C 2 dX8_plan_92 rfl rfl ?_
    refine X_iload_n C 3 dX8_plan_93 rfl rfl ?_
    refine X_iload C 4 dX8_plan_94 rfl ?_
    refine X_callVi (As := [.int v8, .int v5, .int v1, .int v2, .int v3, .int v4]) (rest := []) C aw_ok mcs lk_X8_215 sh_36 nc_8 (by decide) rfl rfl (Nat.le_of_ble_eq_true rfl) dX8_plan_96 hf (fun r s h => k_X8_ironOf _ _ _ _ _ _ _ (r, s) h) (fun r2 s1 hf => ?_)
    refine X_istore (L' := [(0, .ref 36), (1, .int v1), (2, .int v2), (3, .int v3), (4, .int v4), (5, .int v5), (6, .int v6), (7, .int v7), (8, .int v8), (9, .int r2)]) C [1, 2, 3, 4, 5, 6, 7, 8, 9, 0] dX8_plan_99 (by decide) rfl ?_
    refine X_iload C 9 dX8_plan_101 rfl ?_
    refine X_iload C 6 dX8_plan_103 rfl ?_
    refine X_icmp_le (tgt := 116) C dX8_plan_105 (by decide) hf (fun hf => ?_) (fun hf => ?_)
    · refine X_loc (L' := [(0, .ref 36), (1, .int v1), (2, .int v2), (3, .int v3), (4, .int v4), (5, .int v5), (6, .int v6), (7, .int v7), (8, .int v8)]) [0, 1, 2, 3, 4, 5, 6, 7, 8] rfl ?_
      exact w_X8_plan_116 C Rr hK79 _ _ _ _ _ _ _ _ _ hf
    · refine X_iload C 9 dX8_plan_108 rfl ?_
      refine X_istore (L' := [(0, .ref 36), (1, .int v1), (2, .int v2), (3, .int v3), (4, .int v4), (5, .int v5), (6, .int r2), (7, .int v7), (8, .int v8), (9, .int r2)]) C [1, 2, 3, 4, 5, 6, 0, 7, 8, 9] dX8_plan_110 (by decide) rfl ?_
      refine X_iload C 8 dX8_plan_112 rfl ?_
      refine X_istore (L' := [(0, .ref 36), (1, .int v1), (2, .int v2), (3, .int v3), (4, .int v4), (5, .int v5), (6, .int r2), (7, .int v8), (8, .int v8), (9, .int r2)]) C [1, 2, 3, 4, 5, 6, 7, 0, 8, 9] dX8_plan_114 (by decide) rfl ?_
      refine X_loc (L' := [(0, .ref 36), (1, .int v1), (2, .int v2), (3, .int v3), (4, .int v4), (5, .int v5), (6, .int r2), (7, .int v8), (8, .int v8)]) [0, 1, 2, 3, 4, 5, 6, 7, 8] rfl ?_
      exact w_X8_plan_116 C Rr hK79 _ _ _ _ _ _ _ _ _ hf
def b_X8_plan_79 (N : Nat) : Nat → Sg → Int32 → Int32 → Int32 → Int32 → Int32 → Int32 → Int32 → Int32 → Option (Int32 × Sg)
  | 0, _, _, _, _, _, _, _, _, _ => none
  | j + 1, s, v1, v2, v3, v4, v5, v6, v7, v8 => c_X8_plan_79 N (b_X8_plan_79 N j) s v1 v2 v3 v4 v5 v6 v7 v8
theorem h_X8_plan_79 {X : Ctx} {N : Nat} {o : Int32 × Sg} (C : Cx NM X cX8_plan 10 RX8 (ws_X8_plan) (some .int) rm_X8_plan) (Rr : Rx NM X 0 0 (some (.int o.1)) SH o.2) : ∀ (j : Nat) (s : Sg) (v1 : Int32) (v2 : Int32) (v3 : Int32) (v4 : Int32) (v5 : Int32) (v6 : Int32) (v7 : Int32) (v8 : Int32), b_X8_plan_79 N j s v1 v2 v3 v4 v5 v6 v7 v8 = some o → XW NM X 10 0 0 SH s 79 [(0, .ref 36), (1, .int v1), (2, .int v2), (3, .int v3), (4, .int v4), (5, .int v5), (6, .int v6), (7, .int v7), (8, .int v8)] [] := by
  intro j
  induction j with
  | zero => intro s v1 v2 v3 v4 v5 v6 v7 v8 hf; cases (show none = some o from hf)
  | succ j ih => intro s v1 v2 v3 v4 v5 v6 v7 v8 hf; exact w_X8_plan_79 C Rr ih s v1 v2 v3 v4 v5 v6 v7 v8 hf
def c_X8_plan_70 (N : Nat) (s : Sg) (v1 : Int32) (v2 : Int32) (v3 : Int32) (v4 : Int32) (v5 : Int32) : Option (Int32 × Sg) :=
b_X8_plan_79 N N s v1 v2 v3 v4 v5 ((-1:Int32)) ((0:Int32)) ((0:Int32))
set_option maxHeartbeats 4000000 in
set_option maxRecDepth 100000 in
theorem w_X8_plan_70 {X : Ctx} {N : Nat} {o : Int32 × Sg} (C : Cx NM X cX8_plan 10 RX8 (ws_X8_plan) (some .int) rm_X8_plan) (Rr : Rx NM X 0 0 (some (.int o.1)) SH o.2) (s : Sg) (v1 : Int32) (v2 : Int32) (v3 : Int32) (v4 : Int32) (v5 : Int32) (hf : c_X8_plan_70 N s v1 v2 v3 v4 v5 = some o) : XW NM X 10 0 0 SH s 70 [(0, .ref 36), (1, .int v1), (2, .int v2), (3, .int v3), (4, .int v4), (5, .int v5)] [] := by
  unfold c_X8_plan_70 at hf
  refine X_iconst (v := (-1:Int32)) C dX8_plan_70 (by decide) ?_
  refine X_istore (L' := [(0, .ref 36), (1, .int v1), (2, .int v2), (3, .int v3), (4, .int v4), (5, .int v5), (6, .int ((-1:Int32)))]) C [1, 2, 3, 4, 5, 6, 0] dX8_plan_71 (by decide) rfl ?_
  refine X_iconst (v := (0:Int32)) C dX8_plan_73 (by decide) ?_
  refine X_istore (L' := [(0, .ref 36), (1, .int v1), (2, .int v2), (3, .int v3), (4, .int v4), (5, .int v5), (6, .int ((-1:Int32))), (7, .int ((0:Int32)))]) C [1, 2, 3, 4, 5, 6, 7, 0] dX8_plan_74 (by decide) rfl ?_
  refine X_iconst (v := (0:Int32)) C dX8_plan_76 (by decide) ?_
  refine X_istore (L' := [(0, .ref 36), (1, .int v1), (2, .int v2), (3, .int v3), (4, .int v4), (5, .int v5), (6, .int ((-1:Int32))), (7, .int ((0:Int32))), (8, .int ((0:Int32)))]) C [1, 2, 3, 4, 5, 6, 7, 8, 0] dX8_plan_77 (by decide) rfl ?_
  exact h_X8_plan_79 C Rr _ _ _ _ _ _ _ _ _ _ hf
def c_X8_plan_52 (N : Nat) (K52 : Sg → Int32 → Int32 → Int32 → Int32 → Int32 → Int32 → Option (Int32 × Sg)) (s : Sg) (v1 : Int32) (v2 : Int32) (v3 : Int32) (v4 : Int32) (v5 : Int32) (v6 : Int32) : Option (Int32 × Sg) :=
if v2 ≤ v6 then
 c_X8_plan_70 N s v1 v2 v3 v4 v5
 else
 lt_ (((5:Int32)) * v5) (fun x1 => K52 s v1 v2 v3 v4 x1 (v6 + (1:Int32)))
set_option maxHeartbeats 4000000 in
set_option maxRecDepth 100000 in
theorem w_X8_plan_52 {X : Ctx} {N : Nat} {o : Int32 × Sg} (C : Cx NM X cX8_plan 10 RX8 (ws_X8_plan) (some .int) rm_X8_plan) (Rr : Rx NM X 0 0 (some (.int o.1)) SH o.2) {K52 : Sg → Int32 → Int32 → Int32 → Int32 → Int32 → Int32 → Option (Int32 × Sg)} (hK52 : ∀ (s : Sg) (v1 : Int32) (v2 : Int32) (v3 : Int32) (v4 : Int32) (v5 : Int32) (v6 : Int32), K52 s v1 v2 v3 v4 v5 v6 = some o → XW NM X 10 0 0 SH s 52 [(0, .ref 36), (1, .int v1), (2, .int v2), (3, .int v3), (4, .int v4), (5, .int v5), (6, .int v6)] []) (s : Sg) (v1 : Int32) (v2 : Int32) (v3 : Int32) (v4 : Int32) (v5 : Int32) (v6 : Int32) (hf : c_X8_plan_52 N K52 s v1 v2 v3 v4 v5 v6 = some o) : XW NM X 10 0 0 SH s 52 [(0, .ref 36), (1, .int v1), (2, .int v2), (3, .int v3), (4, .int v4), (5, .int v5), (6, .int v6)] [] := by
  unfold c_X8_plan_52 at hf
  refine X_iload C 6 dX8_plan_52 rfl ?_
  refine X_iload_n C 2 dX8_plan_54 rfl rfl ?_
  refine X_icmp_ge (tgt := 70) C dX8_plan_55 (by decide) hf (fun hf => ?_) (fun hf => ?_)
  · refine X_loc (L' := [(0, .ref 36), (1, .int v1), (2, .int v2), (3, .int v3), (4, .int v4), (5, .int v5)]) [0, 1, 2, 3, 4, 5] rfl ?_
    exact w_X8_plan_70 C Rr _ _ _ _ _ _ hf
  · refine X_iconst (v := (5:Int32)) C dX8_plan_58 (by decide) ?_
    refine X_iload C 5 dX8_plan_59 rfl ?_
    refine X_imul C dX8_plan_61 ?_
    refine X_nm hf (fun x1 hf => ?_)
    refine X_istore (L' := [(0, .ref 36), (1, .int v1), (2, .int v2), (3, .int v3), (4, .int v4), (5, .int x1), (6, .int v6)]) C [1, 2, 3, 4, 5, 0, 6] dX8_plan_62 (by decide) rfl ?_
    refine X_iinc (v := (1:Int32)) (L' := [(0, .ref 36), (1, .int v1), (2, .int v2), (3, .int v3), (4, .int v4), (5, .int x1), (6, .int (v6 + (1:Int32)))]) C 6 [1, 2, 3, 4, 5, 6, 0] dX8_plan_64 rfl (by decide) (by decide) rfl ?_
    refine X_goto (tgt := 52) C dX8_plan_67 (by decide) ?_
    exact hK52 _ _ _ _ _ _ _ hf
def b_X8_plan_52 (N : Nat) : Nat → Sg → Int32 → Int32 → Int32 → Int32 → Int32 → Int32 → Option (Int32 × Sg)
  | 0, _, _, _, _, _, _, _ => none
  | j + 1, s, v1, v2, v3, v4, v5, v6 => c_X8_plan_52 N (b_X8_plan_52 N j) s v1 v2 v3 v4 v5 v6
theorem h_X8_plan_52 {X : Ctx} {N : Nat} {o : Int32 × Sg} (C : Cx NM X cX8_plan 10 RX8 (ws_X8_plan) (some .int) rm_X8_plan) (Rr : Rx NM X 0 0 (some (.int o.1)) SH o.2) : ∀ (j : Nat) (s : Sg) (v1 : Int32) (v2 : Int32) (v3 : Int32) (v4 : Int32) (v5 : Int32) (v6 : Int32), b_X8_plan_52 N j s v1 v2 v3 v4 v5 v6 = some o → XW NM X 10 0 0 SH s 52 [(0, .ref 36), (1, .int v1), (2, .int v2), (3, .int v3), (4, .int v4), (5, .int v5), (6, .int v6)] [] := by
  intro j
  induction j with
  | zero => intro s v1 v2 v3 v4 v5 v6 hf; cases (show none = some o from hf)
  | succ j ih => intro s v1 v2 v3 v4 v5 v6 hf; exact w_X8_plan_52 C Rr ih s v1 v2 v3 v4 v5 v6 hf
def c_X8_plan_0 (N : Nat) (s : Sg) (v1 : Int32) (v2 : Int32) (v3 : Int32) (v4 : Int32) : Option (Int32 × Sg) :=
bd (f_X8_in s v1 ((0:Int32)) ((11:Int32))) (fun r2 s1 => if r2 = 0 then
 some ((-2:Int32), s1)
 else
 bd (f_X8_in s1 v2 ((1:Int32)) ((6:Int32))) (fun r4 s3 => if r4 = 0 then
 some ((-2:Int32), s3)
 else
 bd (f_X8_in s3 v3 ((0:Int32)) ((10000:Int32))) (fun r6 s5 => if r6 = 0 then
 some ((-2:Int32), s5)
 else
 bd (f_X8_in s5 v4 ((0:Int32)) ((10000:Int32))) (fun r8 s7 => if r8 = 0 then
 some ((-2:Int32), s7)
 else
 b_X8_plan_52 N N s7 v1 v2 v3 v4 ((1:Int32)) ((0:Int32))))))
set_option maxHeartbeats 4000000 in
set_option maxRecDepth 100000 in
theorem w_X8_plan_0 {X : Ctx} {N : Nat} {o : Int32 × Sg} (C : Cx NM X cX8_plan 10 RX8 (ws_X8_plan) (some .int) rm_X8_plan) (Rr : Rx NM X 0 0 (some (.int o.1)) SH o.2) (s : Sg) (v1 : Int32) (v2 : Int32) (v3 : Int32) (v4 : Int32) (hf : c_X8_plan_0 N s v1 v2 v3 v4 = some o) : XW NM X 10 0 0 SH s 0 [(0, .ref 36), (1, .int v1), (2, .int v2), (3, .int v3), (4, .int v4)] [] := by
  unfold c_X8_plan_0 at hf
  refine X_iload_n C 1 dX8_plan_0 rfl rfl ?_
  refine X_iconst (v := (0:Int32)) C dX8_plan_1 (by decide) ?_
  refine X_bipush (v := (11:Int32)) C dX8_plan_2 (by decide) ?_
  refine X_callSi (As := [.int v1, .int ((0:Int32)), .int ((11:Int32))]) (rest := []) C aw_ok mcs lk_X8_123 (by decide) rfl rfl (Nat.le_of_ble_eq_true rfl) dX8_plan_4 hf (fun r s h => k_X8_in _ _ _ _ (r, s) h) (fun r2 s1 hf => ?_)
  refine X_if_eq (tgt := 43) C dX8_plan_7 (by decide) hf (fun hf => ?_) (fun hf => ?_)
  · refine X_bipush (v := (-2:Int32)) C dX8_plan_43 (by decide) ?_
    exact X_iret C dX8_plan_45 hf Rr
  · refine X_iload_n C 2 dX8_plan_10 rfl rfl ?_
    refine X_iconst (v := (1:Int32)) C dX8_plan_11 (by decide) ?_
    refine X_bipush (v := (6:Int32)) C dX8_plan_12 (by decide) ?_
    refine X_callSi (As := [.int v2, .int ((1:Int32)), .int ((6:Int32))]) (rest := []) C aw_ok mcs lk_X8_123 (by decide) rfl rfl (Nat.le_of_ble_eq_true rfl) dX8_plan_14 hf (fun r s h => k_X8_in _ _ _ _ (r, s) h) (fun r4 s3 hf => ?_)
    refine X_if_eq (tgt := 43) C dX8_plan_17 (by decide) hf (fun hf => ?_) (fun hf => ?_)
    · refine X_bipush (v := (-2:Int32)) C dX8_plan_43 (by decide) ?_
      exact X_iret C dX8_plan_45 hf Rr
    · refine X_iload_n C 3 dX8_plan_20 rfl rfl ?_
      refine X_iconst (v := (0:Int32)) C dX8_plan_21 (by decide) ?_
      refine X_sipush (v := (10000:Int32)) C dX8_plan_22 (by decide) ?_
      refine X_callSi (As := [.int v3, .int ((0:Int32)), .int ((10000:Int32))]) (rest := []) C aw_ok mcs lk_X8_123 (by decide) rfl rfl (Nat.le_of_ble_eq_true rfl) dX8_plan_25 hf (fun r s h => k_X8_in _ _ _ _ (r, s) h) (fun r6 s5 hf => ?_)
      refine X_if_eq (tgt := 43) C dX8_plan_28 (by decide) hf (fun hf => ?_) (fun hf => ?_)
      · refine X_bipush (v := (-2:Int32)) C dX8_plan_43 (by decide) ?_
        exact X_iret C dX8_plan_45 hf Rr
      · refine X_iload C 4 dX8_plan_31 rfl ?_
        refine X_iconst (v := (0:Int32)) C dX8_plan_33 (by decide) ?_
        refine X_sipush (v := (10000:Int32)) C dX8_plan_34 (by decide) ?_
        refine X_callSi (As := [.int v4, .int ((0:Int32)), .int ((10000:Int32))]) (rest := []) C aw_ok mcs lk_X8_123 (by decide) rfl rfl (Nat.le_of_ble_eq_true rfl) dX8_plan_37 hf (fun r s h => k_X8_in _ _ _ _ (r, s) h) (fun r8 s7 hf => ?_)
        refine X_if_ne (tgt := 46) C dX8_plan_40 (by decide) hf (fun hf => ?_) (fun hf => ?_)
        · refine X_iconst (v := (1:Int32)) C dX8_plan_46 (by decide) ?_
          refine X_istore (L' := [(0, .ref 36), (1, .int v1), (2, .int v2), (3, .int v3), (4, .int v4), (5, .int ((1:Int32)))]) C [1, 2, 3, 4, 5, 0] dX8_plan_47 (by decide) rfl ?_
          refine X_iconst (v := (0:Int32)) C dX8_plan_49 (by decide) ?_
          refine X_istore (L' := [(0, .ref 36), (1, .int v1), (2, .int v2), (3, .int v3), (4, .int v4), (5, .int ((1:Int32))), (6, .int ((0:Int32)))]) C [1, 2, 3, 4, 5, 6, 0] dX8_plan_50 (by decide) rfl ?_
          exact h_X8_plan_52 C Rr _ _ _ _ _ _ _ _ hf
        · refine X_bipush (v := (-2:Int32)) C dX8_plan_43 (by decide) ?_
          exact X_iret C dX8_plan_45 hf Rr
def f_X8_plan (N : Nat) (s : Sg) (v1 : Int32) (v2 : Int32) (v3 : Int32) (v4 : Int32) : Option (Int32 × Sg) := c_X8_plan_0 N s v1 v2 v3 v4
theorem k_X8_plan {N : Nat} (s : Sg) (v1 : Int32) (v2 : Int32) (v3 : Int32) (v4 : Int32) (o : Int32 × Sg) (hf : f_X8_plan N s v1 v2 v3 v4 = some o) : Ctr NM yX8_plan (ws_X8_plan) rm_X8_plan SH s [.ref 36, .int v1, .int v2, .int v3, .int v4] (some (.int o.1)) o.2 :=
  Ctr.of (by decide) rfl (Nat.le_of_ble_eq_true rfl) (fun X C Rr => by show XW NM X 10 0 0 SH s 0 [(0, .ref 36), (1, .int v1), (2, .int v2), (3, .int v3), (4, .int v4)] []; exact w_X8_plan_0 C Rr s v1 v2 v3 v4 hf)
abbrev ws_X8_paceAt : List Cond := Cond.code yX8_paceAt cX8_paceAt 2 (some .int) :: AW
abbrev rm_X8_paceAt : Room := { frames := 1, cells := 0, slots := 0, locals := 22 }
def c_X8_paceAt_0 (s : Sg) (v1 : Int32) : Option (Int32 × Sg) :=
bd (f_X8_in s v1 ((0:Int32)) ((s 36 52) - ((1:Int32)))) (fun r2 s1 => if r2 = 0 then
 some ((-1:Int32), s1)
 else
 gd (vi v1 6) (some (s1 66 v1.toNatClampNeg, s1)))
set_option maxHeartbeats 4000000 in
set_option maxRecDepth 100000 in
theorem w_X8_paceAt_0 {X : Ctx} {o : Int32 × Sg} (C : Cx NM X cX8_paceAt 2 RX8 (ws_X8_paceAt) (some .int) rm_X8_paceAt) (Rr : Rx NM X 0 0 (some (.int o.1)) SH o.2) (s : Sg) (v1 : Int32) (hf : c_X8_paceAt_0 s v1 = some o) : XW NM X 2 0 0 SH s 0 [(0, .ref 36), (1, .int v1)] [] := by
  unfold c_X8_paceAt_0 at hf
  refine X_iload_n C 1 dX8_paceAt_0 rfl rfl ?_
  refine X_iconst (v := (0:Int32)) C dX8_paceAt_1 (by decide) ?_
  refine X_aload_n C 0 dX8_paceAt_2 rfl rfl ?_
  refine X_geti C 52 sh_36 nc_8 inM_8 (by decide) (mc wd_133) rfl dX8_paceAt_3 ?_
  refine X_iconst (v := (1:Int32)) C dX8_paceAt_6 (by decide) ?_
  refine X_isub C dX8_paceAt_7 ?_
  refine X_callSi (As := [.int v1, .int ((0:Int32)), .int ((s 36 52) - ((1:Int32)))]) (rest := []) C aw_ok mcs lk_X8_123 (by decide) rfl rfl (Nat.le_of_ble_eq_true rfl) dX8_paceAt_8 hf (fun r s h => k_X8_in _ _ _ _ (r, s) h) (fun r2 s1 hf => ?_)
  refine X_if_eq (tgt := 23) C dX8_paceAt_11 (by decide) hf (fun hf => ?_) (fun hf => ?_)
  · refine X_iconst (v := (-1:Int32)) C dX8_paceAt_23 (by decide) ?_
    exact X_iret C dX8_paceAt_24 hf Rr
  · refine X_aload_n C 0 dX8_paceAt_14 rfl rfl ?_
    refine X_getr C 51 sh_36 nc_8 inM_8 (by decide) (mc wd_134) rfl dX8_paceAt_15 ?_
    refine X_iload_n C 1 dX8_paceAt_18 rfl rfl ?_
    refine X_iald C sh_66 dX8_paceAt_19 hf (fun hf => ?_)
    refine X_goto (tgt := 24) C dX8_paceAt_20 (by decide) ?_
    exact X_iret C dX8_paceAt_24 hf Rr
def f_X8_paceAt (s : Sg) (v1 : Int32) : Option (Int32 × Sg) := c_X8_paceAt_0 s v1
theorem k_X8_paceAt (s : Sg) (v1 : Int32) (o : Int32 × Sg) (hf : f_X8_paceAt s v1 = some o) : Ctr NM yX8_paceAt (ws_X8_paceAt) rm_X8_paceAt SH s [.ref 36, .int v1] (some (.int o.1)) o.2 :=
  Ctr.of (by decide) rfl (Nat.le_of_ble_eq_true rfl) (fun X C Rr => by show XW NM X 2 0 0 SH s 0 [(0, .ref 36), (1, .int v1)] []; exact w_X8_paceAt_0 C Rr s v1 hf)
abbrev ws_X8_count : List Cond := Cond.code yX8_count cX8_count 4 (some .int) :: AW
abbrev rm_X8_count : Room := { frames := 0, cells := 0, slots := 0, locals := 0 }
def c_X8_count_86 (N : Nat) (K62 : Sg → Int32 → Int32 → Option (Int32 × Sg)) (s : Sg) (v3 : Int32) (u0 : Int32) (u1 : Int32) : Option (Int32 × Sg) :=
lt_ (u0 + u1) (fun x1 => K62 s x1 (v3 + (1:Int32)))
set_option maxHeartbeats 4000000 in
set_option maxRecDepth 100000 in
theorem w_X8_count_86 {X : Ctx} {N : Nat} {o : Int32 × Sg} (C : Cx NM X cX8_count 4 RX8 (ws_X8_count) (some .int) rm_X8_count) (Rr : Rx NM X 0 0 (some (.int o.1)) SH o.2) {K62 : Sg → Int32 → Int32 → Option (Int32 × Sg)} (hK62 : ∀ (s : Sg) (v2 : Int32) (v3 : Int32), K62 s v2 v3 = some o → XW NM X 4 0 0 SH s 62 [(0, .ref 36), (2, .int v2), (3, .int v3)] []) (s : Sg) (v3 : Int32) (u0 : Int32) (u1 : Int32) (hf : c_X8_count_86 N K62 s v3 u0 u1 = some o) : XW NM X 4 0 0 SH s 86 [(0, .ref 36), (3, .int v3)] [.int u1, .int u0] := by
  unfold c_X8_count_86 at hf
  refine X_iadd C dX8_count_86 ?_
  refine X_nm hf (fun x1 hf => ?_)
  refine X_istore_n (L' := [(0, .ref 36), (2, .int x1), (3, .int v3)]) C [1, 0, 2] dX8_count_87 rfl (by decide) rfl ?_
  refine X_iinc (v := (1:Int32)) (L' := [(0, .ref 36), (2, .int x1), (3, .int (v3 + (1:Int32)))]) C 2 [1, 2, 0] dX8_count_88 rfl (by decide) (by decide) rfl ?_
  refine X_goto (tgt := 62) C dX8_count_91 (by decide) ?_
  exact hK62 _ _ _ hf
def c_X8_count_62 (N : Nat) (K62 : Sg → Int32 → Int32 → Option (Int32 × Sg)) (s : Sg) (v2 : Int32) (v3 : Int32) : Option (Int32 × Sg) :=
if (s 36 27) ≤ v3 then
 some (v2, s)
 else
 gd (vi v3 60) (if (s 51 v3.toNatClampNeg) = ((-1:Int32)) then
 c_X8_count_86 N K62 s v3 v2 ((0:Int32))
 else
 c_X8_count_86 N K62 s v3 v2 ((1:Int32)))
set_option maxHeartbeats 4000000 in
set_option maxRecDepth 100000 in
theorem w_X8_count_62 {X : Ctx} {N : Nat} {o : Int32 × Sg} (C : Cx NM X cX8_count 4 RX8 (ws_X8_count) (some .int) rm_X8_count) (Rr : Rx NM X 0 0 (some (.int o.1)) SH o.2) {K62 : Sg → Int32 → Int32 → Option (Int32 × Sg)} (hK62 : ∀ (s : Sg) (v2 : Int32) (v3 : Int32), K62 s v2 v3 = some o → XW NM X 4 0 0 SH s 62 [(0, .ref 36), (2, .int v2), (3, .int v3)] []) (s : Sg) (v2 : Int32) (v3 : Int32) (hf : c_X8_count_62 N K62 s v2 v3 = some o) : XW NM X 4 0 0 SH s 62 [(0, .ref 36), (2, .int v2), (3, .int v3)] [] := by
  unfold c_X8_count_62 at hf
  refine X_iload_n C 2 dX8_count_62 rfl rfl ?_
  refine X_aload_n C 0 dX8_count_63 rfl rfl ?_
  refine X_geti C 27 sh_36 nc_8 inM_8 (by decide) (mc wd_93) rfl dX8_count_64 ?_
  refine X_icmp_ge (tgt := 94) C dX8_count_67 (by decide) hf (fun hf => ?_) (fun hf => ?_)
  · refine X_iload_n C 1 dX8_count_94 rfl rfl ?_
    exact X_iret C dX8_count_95 hf Rr
  · refine X_iload_n C 1 dX8_count_70 rfl rfl ?_
    refine X_aload_n C 0 dX8_count_71 rfl rfl ?_
    refine X_getr C 33 sh_36 nc_8 inM_8 (by decide) (mc wd_103) rfl dX8_count_72 ?_
    refine X_iload_n C 2 dX8_count_75 rfl rfl ?_
    refine X_iald C sh_51 dX8_count_76 hf (fun hf => ?_)
    refine X_iconst (v := (-1:Int32)) C dX8_count_77 (by decide) ?_
    refine X_icmp_ne (tgt := 85) C dX8_count_78 (by decide) hf (fun hf => ?_) (fun hf => ?_)
    · refine X_iconst (v := (1:Int32)) C dX8_count_85 (by decide) ?_
      refine X_loc (L' := [(0, .ref 36), (3, .int v3)]) [0, 2] rfl ?_
      exact w_X8_count_86 C Rr hK62 _ _ _ _ hf
    · refine X_iconst (v := (0:Int32)) C dX8_count_81 (by decide) ?_
      refine X_goto (tgt := 86) C dX8_count_82 (by decide) ?_
      refine X_loc (L' := [(0, .ref 36), (3, .int v3)]) [0, 2] rfl ?_
      exact w_X8_count_86 C Rr hK62 _ _ _ _ hf
def b_X8_count_62 (N : Nat) : Nat → Sg → Int32 → Int32 → Option (Int32 × Sg)
  | 0, _, _, _ => none
  | j + 1, s, v2, v3 => c_X8_count_62 N (b_X8_count_62 N j) s v2 v3
theorem h_X8_count_62 {X : Ctx} {N : Nat} {o : Int32 × Sg} (C : Cx NM X cX8_count 4 RX8 (ws_X8_count) (some .int) rm_X8_count) (Rr : Rx NM X 0 0 (some (.int o.1)) SH o.2) : ∀ (j : Nat) (s : Sg) (v2 : Int32) (v3 : Int32), b_X8_count_62 N j s v2 v3 = some o → XW NM X 4 0 0 SH s 62 [(0, .ref 36), (2, .int v2), (3, .int v3)] [] := by
  intro j
  induction j with
  | zero => intro s v2 v3 hf; cases (show none = some o from hf)
  | succ j ih => intro s v2 v3 hf; exact w_X8_count_62 C Rr ih s v2 v3 hf
def c_X8_count_0 (N : Nat) (s : Sg) (v1 : Int32) : Option (Int32 × Sg) :=
if v1 = (0:Int32) then
 some (s 36 2, s)
 else if v1 = (1:Int32) then
 some (s 36 27, s)
 else if v1 = (2:Int32) then
 some (s 36 36, s)
 else if v1 = (3:Int32) then
 some (s 36 41, s)
 else if v1 = (4:Int32) then
 b_X8_count_62 N N s ((0:Int32)) ((0:Int32))
 else if v1 = (5:Int32) then
 some (s 36 45, s)
 else some ((-2:Int32), s)
set_option maxHeartbeats 4000000 in
set_option maxRecDepth 100000 in
theorem w_X8_count_0 {X : Ctx} {N : Nat} {o : Int32 × Sg} (C : Cx NM X cX8_count 4 RX8 (ws_X8_count) (some .int) rm_X8_count) (Rr : Rx NM X 0 0 (some (.int o.1)) SH o.2) (s : Sg) (v1 : Int32) (hf : c_X8_count_0 N s v1 = some o) : XW NM X 4 0 0 SH s 0 [(0, .ref 36), (1, .int v1)] [] := by
  unfold c_X8_count_0 at hf
  refine X_iconst (v := (0:Int32)) C dX8_count_0 (by decide) ?_
  refine X_istore_n (L' := [(0, .ref 36), (1, .int v1), (2, .int ((0:Int32)))]) C [1, 2, 0] dX8_count_1 rfl (by decide) rfl ?_
  refine X_iload_n C 1 dX8_count_2 rfl rfl ?_
  refine X_sw (k0 := (0:Int32)) hf (fun e hf => ?_) (fun n0 hf => ?_)
  · refine X_tin (tgt := 40) C dX8_count_3 (by rw [e]; decide) (by rw [e]; decide) (by rw [e]; rfl) (by decide) ?_
    refine X_aload_n C 0 dX8_count_40 rfl rfl ?_
    refine X_geti C 2 sh_36 nc_8 inM_8 (by decide) (mc wd_79) rfl dX8_count_41 ?_
    exact X_iret C dX8_count_44 hf Rr
  refine X_sw (k0 := (1:Int32)) hf (fun e hf => ?_) (fun n1 hf => ?_)
  · refine X_tin (tgt := 45) C dX8_count_3 (by rw [e]; decide) (by rw [e]; decide) (by rw [e]; rfl) (by decide) ?_
    refine X_aload_n C 0 dX8_count_45 rfl rfl ?_
    refine X_geti C 27 sh_36 nc_8 inM_8 (by decide) (mc wd_93) rfl dX8_count_46 ?_
    exact X_iret C dX8_count_49 hf Rr
  refine X_sw (k0 := (2:Int32)) hf (fun e hf => ?_) (fun n2 hf => ?_)
  · refine X_tin (tgt := 50) C dX8_count_3 (by rw [e]; decide) (by rw [e]; decide) (by rw [e]; rfl) (by decide) ?_
    refine X_aload_n C 0 dX8_count_50 rfl rfl ?_
    refine X_geti C 36 sh_36 nc_8 inM_8 (by decide) (mc wd_110) rfl dX8_count_51 ?_
    exact X_iret C dX8_count_54 hf Rr
  refine X_sw (k0 := (3:Int32)) hf (fun e hf => ?_) (fun n3 hf => ?_)
  · refine X_tin (tgt := 55) C dX8_count_3 (by rw [e]; decide) (by rw [e]; decide) (by rw [e]; rfl) (by decide) ?_
    refine X_aload_n C 0 dX8_count_55 rfl rfl ?_
    refine X_geti C 41 sh_36 nc_8 inM_8 (by decide) (mc wd_119) rfl dX8_count_56 ?_
    exact X_iret C dX8_count_59 hf Rr
  refine X_sw (k0 := (4:Int32)) hf (fun e hf => ?_) (fun n4 hf => ?_)
  · refine X_tin (tgt := 60) C dX8_count_3 (by rw [e]; decide) (by rw [e]; decide) (by rw [e]; rfl) (by decide) ?_
    refine X_iconst (v := (0:Int32)) C dX8_count_60 (by decide) ?_
    refine X_istore_n (L' := [(0, .ref 36), (1, .int v1), (2, .int ((0:Int32))), (3, .int ((0:Int32)))]) C [1, 2, 3, 0] dX8_count_61 rfl (by decide) rfl ?_
    refine X_loc (L' := [(0, .ref 36), (2, .int ((0:Int32))), (3, .int ((0:Int32)))]) [0, 2, 3] rfl ?_
    exact h_X8_count_62 C Rr _ _ _ _ hf
  refine X_sw (k0 := (5:Int32)) hf (fun e hf => ?_) (fun n5 hf => ?_)
  · refine X_tin (tgt := 96) C dX8_count_3 (by rw [e]; decide) (by rw [e]; decide) (by rw [e]; rfl) (by decide) ?_
    refine X_aload_n C 0 dX8_count_96 rfl rfl ?_
    refine X_geti C 45 sh_36 nc_8 inM_8 (by decide) (mc wd_127) rfl dX8_count_97 ?_
    exact X_iret C dX8_count_100 hf Rr
  refine X_tout (tgt := 101) C dX8_count_3 (by have := lv_neT n0 (show (0:Int32).toInt = 0 from by decide); have := lv_neT n1 (show (1:Int32).toInt = 1 from by decide); have := lv_neT n2 (show (2:Int32).toInt = 2 from by decide); have := lv_neT n3 (show (3:Int32).toInt = 3 from by decide); have := lv_neT n4 (show (4:Int32).toInt = 4 from by decide); have := lv_neT n5 (show (5:Int32).toInt = 5 from by decide); omega) (by decide) ?_
  refine X_bipush (v := (-2:Int32)) C dX8_count_101 (by decide) ?_
  exact X_iret C dX8_count_103 hf Rr
def f_X8_count (N : Nat) (s : Sg) (v1 : Int32) : Option (Int32 × Sg) := c_X8_count_0 N s v1
theorem k_X8_count {N : Nat} (s : Sg) (v1 : Int32) (o : Int32 × Sg) (hf : f_X8_count N s v1 = some o) : Ctr NM yX8_count (ws_X8_count) rm_X8_count SH s [.ref 36, .int v1] (some (.int o.1)) o.2 :=
  Ctr.of (by decide) rfl (Nat.le_of_ble_eq_true rfl) (fun X C Rr => by show XW NM X 4 0 0 SH s 0 [(0, .ref 36), (1, .int v1)] []; exact w_X8_count_0 C Rr s v1 hf)
