abbrev ws_X4_readPigs : List Cond := Cond.code yX4_readPigs cX4_readPigs 3 none :: AW
abbrev rm_X4_readPigs : Room := { frames := 2, cells := 0, slots := 0, locals := 44 }
def c_X4_readPigs_89 (N : Nat) (K7 : Sg → Int32 → Option (Sg)) (s : Sg) (v2 : Int32) : Option (Sg) :=
K7 s (v2 + (1:Int32))
set_option maxHeartbeats 4000000 in
set_option maxRecDepth 100000 in
theorem w_X4_readPigs_89 {X : Ctx} {N : Nat} {o : Sg} (C : Cx NM X cX4_readPigs 3 RX4 (ws_X4_readPigs) none rm_X4_readPigs) (Rr : Rx NM X 0 0 none SH o) {K7 : Sg → Int32 → Option (Sg)} (hK7 : ∀ (s : Sg) (v2 : Int32), K7 s v2 = some o → XW NM X 3 0 0 SH s 7 [(0, .ref 17), (1, .ref 8), (2, .int v2)] []) (s : Sg) (v2 : Int32) (hf : c_X4_readPigs_89 N K7 s v2 = some o) : XW NM X 3 0 0 SH s 89 [(0, .ref 17), (1, .ref 8), (2, .int v2)] [] := by
  unfold c_X4_readPigs_89 at hf
  refine X_iinc (v := (1:Int32)) (L' := [(0, .ref 17), (1, .ref 8), (2, .int (v2 + (1:Int32)))]) C 2 [1, 2, 0] dX4_readPigs_89 rfl (by decide) (by decide) rfl ?_
  refine X_goto (tgt := 7) C dX4_readPigs_92 (by decide) ?_
  exact hK7 _ _ hf
def c_X4_readPigs_7 (N : Nat) (K7 : Sg → Int32 → Option (Sg)) (s : Sg) (v2 : Int32) : Option (Sg) :=
if (s 8 3) ≤ v2 then
 some s
 else
 if ((8:Int32)) ≤ (s 17 7) then
 some s
 else
 bd (f_X6_get 8 360 s v2 ((5:Int32))) (fun r2 s1 => if r2 = ((-1:Int32)) then
 gd (vi (s1 17 7) 8) (lt_ (sgu s1 18 (s1 17 7).toNatClampNeg v2) (fun s3 => bd (f_X6_get 8 360 s3 v2 ((0:Int32))) (fun r5 s4 => gd (vi (s3 17 7) 8) (lt_ (sgu s4 19 (s3 17 7).toNatClampNeg r5) (fun s6 => bd (f_X6_get 8 360 s6 v2 ((1:Int32))) (fun r8 s7 => gd (vi (s6 17 7) 8) (lt_ (sgu s7 20 (s6 17 7).toNatClampNeg (((1:Int32)) <<< (r8 &&& 31))) (fun s9 => lt_ (sgu s9 17 7 ((s9 17 7) + ((1:Int32)))) (fun s10 => c_X4_readPigs_89 N K7 s10 v2)))))))))
 else
 c_X4_readPigs_89 N K7 s1 v2)
set_option maxHeartbeats 4000000 in
set_option maxRecDepth 100000 in
theorem w_X4_readPigs_7 {X : Ctx} {N : Nat} {o : Sg} (C : Cx NM X cX4_readPigs 3 RX4 (ws_X4_readPigs) none rm_X4_readPigs) (Rr : Rx NM X 0 0 none SH o) {K7 : Sg → Int32 → Option (Sg)} (hK7 : ∀ (s : Sg) (v2 : Int32), K7 s v2 = some o → XW NM X 3 0 0 SH s 7 [(0, .ref 17), (1, .ref 8), (2, .int v2)] []) (s : Sg) (v2 : Int32) (hf : c_X4_readPigs_7 N K7 s v2 = some o) : XW NM X 3 0 0 SH s 7 [(0, .ref 17), (1, .ref 8), (2, .int v2)] [] := by
  unfold c_X4_readPigs_7 at hf
  refine X_iload_n C 2 dX4_readPigs_7 rfl rfl ?_
  refine X_aload_n C 1 dX4_readPigs_8 rfl rfl ?_
  refine X_getiN C 3 sh_8 nc_6 inM_6 (by decide) nf_X4_57 rfl dX4_readPigs_9 ?_
  refine X_icmp_ge (tgt := 95) C dX4_readPigs_12 (by decide) hf (fun hf => ?_) (fun hf => ?_)
  · exact X_vret C dX4_readPigs_95 hf Rr
  · refine X_aload_n C 0 dX4_readPigs_15 rfl rfl ?_
    refine X_geti C 7 sh_17 nc_4 inM_4 (by decide) (mc wd_36) rfl dX4_readPigs_16 ?_
    refine X_bipush (v := (8:Int32)) C dX4_readPigs_19 (by decide) ?_
    refine X_icmp_ge (tgt := 95) C dX4_readPigs_21 (by decide) hf (fun hf => ?_) (fun hf => ?_)
    · exact X_vret C dX4_readPigs_95 hf Rr
    · refine X_aload_n C 1 dX4_readPigs_24 rfl rfl ?_
      refine X_iload_n C 2 dX4_readPigs_25 rfl rfl ?_
      refine X_iconst (v := (5:Int32)) C dX4_readPigs_26 (by decide) ?_
      refine X_callVi (As := [.int v2, .int ((5:Int32))]) (rest := []) C aw_ok mcs lk_X4_44 sh_8 nc_6 (by decide) rfl rfl (Nat.le_of_ble_eq_true rfl) dX4_readPigs_27 hf (fun r s h => k_X6_get sh_8 sh_9 _ _ _ (r, s) h) (fun r2 s1 hf => ?_)
      refine X_iconst (v := (-1:Int32)) C dX4_readPigs_30 (by decide) ?_
      refine X_icmp_eq (tgt := 37) C dX4_readPigs_31 (by decide) hf (fun hf => ?_) (fun hf => ?_)
      · refine X_aload_n C 0 dX4_readPigs_37 rfl rfl ?_
        refine X_getr C 0 sh_17 nc_4 inM_4 (by decide) (mc wd_37) rfl dX4_readPigs_38 ?_
        refine X_aload_n C 0 dX4_readPigs_41 rfl rfl ?_
        refine X_geti C 7 sh_17 nc_4 inM_4 (by decide) (mc wd_36) rfl dX4_readPigs_42 ?_
        refine X_iload_n C 2 dX4_readPigs_45 rfl rfl ?_
        refine X_iast C sh_18 dX4_readPigs_46 hf (fun s3 hf => ?_)
        refine X_aload_n C 0 dX4_readPigs_47 rfl rfl ?_
        refine X_getr C 1 sh_17 nc_4 inM_4 (by decide) (mc wd_38) rfl dX4_readPigs_48 ?_
        refine X_aload_n C 0 dX4_readPigs_51 rfl rfl ?_
        refine X_geti C 7 sh_17 nc_4 inM_4 (by decide) (mc wd_36) rfl dX4_readPigs_52 ?_
        refine X_aload_n C 1 dX4_readPigs_55 rfl rfl ?_
        refine X_iload_n C 2 dX4_readPigs_56 rfl rfl ?_
        refine X_iconst (v := (0:Int32)) C dX4_readPigs_57 (by decide) ?_
        refine X_callVi (As := [.int v2, .int ((0:Int32))]) (rest := [.int (s3 17 7), .ref 19]) C aw_ok mcs lk_X4_44 sh_8 nc_6 (by decide) rfl rfl (Nat.le_of_ble_eq_true rfl) dX4_readPigs_58 hf (fun r s h => k_X6_get sh_8 sh_9 _ _ _ (r, s) h) (fun r5 s4 hf => ?_)
        refine X_iast C sh_19 dX4_readPigs_61 hf (fun s6 hf => ?_)
        refine X_aload_n C 0 dX4_readPigs_62 rfl rfl ?_
        refine X_getr C 2 sh_17 nc_4 inM_4 (by decide) (mc wd_39) rfl dX4_readPigs_63 ?_
        refine X_aload_n C 0 dX4_readPigs_66 rfl rfl ?_
        refine X_geti C 7 sh_17 nc_4 inM_4 (by decide) (mc wd_36) rfl dX4_readPigs_67 ?_
        refine X_iconst (v := (1:Int32)) C dX4_readPigs_70 (by decide) ?_
        refine X_aload_n C 1 dX4_readPigs_71 rfl rfl ?_
        refine X_iload_n C 2 dX4_readPigs_72 rfl rfl ?_
        refine X_iconst (v := (1:Int32)) C dX4_readPigs_73 (by decide) ?_
        refine X_callVi (As := [.int v2, .int ((1:Int32))]) (rest := [.int ((1:Int32)), .int (s6 17 7), .ref 20]) C aw_ok mcs lk_X4_44 sh_8 nc_6 (by decide) rfl rfl (Nat.le_of_ble_eq_true rfl) dX4_readPigs_74 hf (fun r s h => k_X6_get sh_8 sh_9 _ _ _ (r, s) h) (fun r8 s7 hf => ?_)
        refine X_ishl C dX4_readPigs_77 ?_
        refine X_iast C sh_20 dX4_readPigs_78 hf (fun s9 hf => ?_)
        refine X_aload_n C 0 dX4_readPigs_79 rfl rfl ?_
        refine X_dup C dX4_readPigs_80 rfl ?_
        refine X_geti C 7 sh_17 nc_4 inM_4 (by decide) (mc wd_36) rfl dX4_readPigs_81 ?_
        refine X_iconst (v := (1:Int32)) C dX4_readPigs_84 (by decide) ?_
        refine X_iadd C dX4_readPigs_85 ?_
        refine X_puti C 7 sh_17 nc_4 inM_4 (by decide) tyX4 tyX4_ok nmX4 (mc wd_36) rfl (by decide +kernel) rfl dX4_readPigs_86 hf (fun s10 hf => ?_)
        exact w_X4_readPigs_89 C Rr hK7 _ _ hf
      · refine X_goto (tgt := 89) C dX4_readPigs_34 (by decide) ?_
        exact w_X4_readPigs_89 C Rr hK7 _ _ hf
def b_X4_readPigs_7 (N : Nat) : Nat → Sg → Int32 → Option (Sg)
  | 0, _, _ => none
  | j + 1, s, v2 => c_X4_readPigs_7 N (b_X4_readPigs_7 N j) s v2
theorem h_X4_readPigs_7 {X : Ctx} {N : Nat} {o : Sg} (C : Cx NM X cX4_readPigs 3 RX4 (ws_X4_readPigs) none rm_X4_readPigs) (Rr : Rx NM X 0 0 none SH o) : ∀ (j : Nat) (s : Sg) (v2 : Int32), b_X4_readPigs_7 N j s v2 = some o → XW NM X 3 0 0 SH s 7 [(0, .ref 17), (1, .ref 8), (2, .int v2)] [] := by
  intro j
  induction j with
  | zero => intro s v2 hf; cases (show none = some o from hf)
  | succ j ih => intro s v2 hf; exact w_X4_readPigs_7 C Rr ih s v2 hf
def c_X4_readPigs_0 (N : Nat) (s : Sg) : Option (Sg) :=
lt_ (sgu s 17 7 ((0:Int32))) (fun s1 => b_X4_readPigs_7 N N s1 ((0:Int32)))
set_option maxHeartbeats 4000000 in
set_option maxRecDepth 100000 in
theorem w_X4_readPigs_0 {X : Ctx} {N : Nat} {o : Sg} (C : Cx NM X cX4_readPigs 3 RX4 (ws_X4_readPigs) none rm_X4_readPigs) (Rr : Rx NM X 0 0 none SH o) (s : Sg) (hf : c_X4_readPigs_0 N s = some o) : XW NM X 3 0 0 SH s 0 [(0, .ref 17), (1, .ref 8)] [] := by
  unfold c_X4_readPigs_0 at hf
  refine X_aload_n C 0 dX4_readPigs_0 rfl rfl ?_
  refine X_iconst (v := (0:Int32)) C dX4_readPigs_1 (by decide) ?_
  refine X_puti C 7 sh_17 nc_4 inM_4 (by decide) tyX4 tyX4_ok nmX4 (mc wd_36) rfl (by decide +kernel) rfl dX4_readPigs_2 hf (fun s1 hf => ?_)
  refine X_iconst (v := (0:Int32)) C dX4_readPigs_5 (by decide) ?_
  refine X_istore_n (L' := [(0, .ref 17), (1, .ref 8), (2, .int ((0:Int32)))]) C [1, 2, 0] dX4_readPigs_6 rfl (by decide) rfl ?_
  exact h_X4_readPigs_7 C Rr _ _ _ hf
def f_X4_readPigs (N : Nat) (s : Sg) : Option (Sg) := c_X4_readPigs_0 N s
theorem k_X4_readPigs {N : Nat} (s : Sg) (o : Sg) (hf : f_X4_readPigs N s = some o) : Ctr NM yX4_readPigs (ws_X4_readPigs) rm_X4_readPigs SH s [.ref 17, .ref 8] none o :=
  Ctr.of (by decide) rfl (Nat.le_of_ble_eq_true rfl) (fun X C Rr => by show XW NM X 3 0 0 SH s 0 [(0, .ref 17), (1, .ref 8)] []; exact w_X4_readPigs_0 C Rr s hf)
abbrev ws_X4_canTake : List Cond := Cond.code yX4_canTake cX4_canTake 5 (some .boolean) :: AW
abbrev rm_X4_canTake : Room := { frames := 2, cells := 0, slots := 0, locals := 44 }
def c_X4_canTake_21 (s : Sg) (v2 : Int32) (v3 : Int32) (u0 : Int32) : Option (Int32 × Sg) :=
if u0 = 0 then
 gd (bz ((0:Int32))) (some ((0:Int32), s))
 else
 gd (vi v3 8) (gd (vi v2 3) (if (s 24 v2.toNatClampNeg) < (s 19 v3.toNatClampNeg) then
 gd (bz ((0:Int32))) (some ((0:Int32), s))
 else
 gd (bz ((1:Int32))) (some ((1:Int32), s))))
set_option maxHeartbeats 4000000 in
set_option maxRecDepth 100000 in
theorem w_X4_canTake_21 {X : Ctx} {o : Int32 × Sg} (C : Cx NM X cX4_canTake 5 RX4 (ws_X4_canTake) (some .boolean) rm_X4_canTake) (Rr : Rx NM X 0 0 (some (.int o.1)) SH o.2) (s : Sg) (v2 : Int32) (v3 : Int32) (u0 : Int32) (hf : c_X4_canTake_21 s v2 v3 u0 = some o) : XW NM X 5 0 0 SH s 21 [(0, .ref 17), (2, .int v2), (3, .int v3)] [.int u0] := by
  unfold c_X4_canTake_21 at hf
  refine X_istore (L' := [(0, .ref 17), (2, .int v2), (3, .int v3), (4, .int u0)]) C [1, 2, 3, 0] dX4_canTake_21 (by decide) rfl ?_
  refine X_iload C 3 dX4_canTake_23 rfl ?_
  refine X_if_eq (tgt := 47) C dX4_canTake_25 (by decide) hf (fun hf => ?_) (fun hf => ?_)
  · refine X_iconst (v := (0:Int32)) C dX4_canTake_47 (by decide) ?_
    exact X_zret C dX4_canTake_48 hf Rr
  · refine X_aload_n C 0 dX4_canTake_28 rfl rfl ?_
    refine X_getr C 1 sh_17 nc_4 inM_4 (by decide) (mc wd_38) rfl dX4_canTake_29 ?_
    refine X_iload_n C 2 dX4_canTake_32 rfl rfl ?_
    refine X_iald C sh_19 dX4_canTake_33 hf (fun hf => ?_)
    refine X_aload_n C 0 dX4_canTake_34 rfl rfl ?_
    refine X_getr C 6 sh_17 nc_4 inM_4 (by decide) (mc wd_40) rfl dX4_canTake_35 ?_
    refine X_iload_n C 1 dX4_canTake_38 rfl rfl ?_
    refine X_iald C sh_24 dX4_canTake_39 hf (fun hf => ?_)
    refine X_icmp_gt (tgt := 47) C dX4_canTake_40 (by decide) hf (fun hf => ?_) (fun hf => ?_)
    · refine X_iconst (v := (0:Int32)) C dX4_canTake_47 (by decide) ?_
      exact X_zret C dX4_canTake_48 hf Rr
    · refine X_iconst (v := (1:Int32)) C dX4_canTake_43 (by decide) ?_
      refine X_goto (tgt := 48) C dX4_canTake_44 (by decide) ?_
      exact X_zret C dX4_canTake_48 hf Rr
def c_X4_canTake_0 (s : Sg) (v2 : Int32) (v3 : Int32) : Option (Int32 × Sg) :=
bd (f_X6_get 15 9 s v2 ((0:Int32))) (fun r2 s1 => gd (vi v3 8) (if (r2 &&& (s1 20 v3.toNatClampNeg)) = 0 then
 c_X4_canTake_21 s1 v2 v3 ((0:Int32))
 else
 c_X4_canTake_21 s1 v2 v3 ((1:Int32))))
set_option maxHeartbeats 4000000 in
set_option maxRecDepth 100000 in
theorem w_X4_canTake_0 {X : Ctx} {o : Int32 × Sg} (C : Cx NM X cX4_canTake 5 RX4 (ws_X4_canTake) (some .boolean) rm_X4_canTake) (Rr : Rx NM X 0 0 (some (.int o.1)) SH o.2) (s : Sg) (v2 : Int32) (v3 : Int32) (hf : c_X4_canTake_0 s v2 v3 = some o) : XW NM X 5 0 0 SH s 0 [(0, .ref 17), (1, .ref 15), (2, .int v2), (3, .int v3)] [] := by
  unfold c_X4_canTake_0 at hf
  refine X_aload_n C 1 dX4_canTake_0 rfl rfl ?_
  refine X_iload_n C 2 dX4_canTake_1 rfl rfl ?_
  refine X_iconst (v := (0:Int32)) C dX4_canTake_2 (by decide) ?_
  refine X_callVi (As := [.int v2, .int ((0:Int32))]) (rest := []) C aw_ok mcs lk_X4_44 sh_15 nc_6 (by decide) rfl rfl (Nat.le_of_ble_eq_true rfl) dX4_canTake_3 hf (fun r s h => k_X6_get sh_15 sh_16 _ _ _ (r, s) h) (fun r2 s1 hf => ?_)
  refine X_aload_n C 0 dX4_canTake_6 rfl rfl ?_
  refine X_getr C 2 sh_17 nc_4 inM_4 (by decide) (mc wd_39) rfl dX4_canTake_7 ?_
  refine X_iload_n C 3 dX4_canTake_10 rfl rfl ?_
  refine X_iald C sh_20 dX4_canTake_11 hf (fun hf => ?_)
  refine X_iand C dX4_canTake_12 ?_
  refine X_if_eq (tgt := 20) C dX4_canTake_13 (by decide) hf (fun hf => ?_) (fun hf => ?_)
  · refine X_iconst (v := (0:Int32)) C dX4_canTake_20 (by decide) ?_
    refine X_loc (L' := [(0, .ref 17), (2, .int v2), (3, .int v3)]) [0, 2, 3] rfl ?_
    exact w_X4_canTake_21 C Rr _ _ _ _ hf
  · refine X_iconst (v := (1:Int32)) C dX4_canTake_16 (by decide) ?_
    refine X_goto (tgt := 21) C dX4_canTake_17 (by decide) ?_
    refine X_loc (L' := [(0, .ref 17), (2, .int v2), (3, .int v3)]) [0, 2, 3] rfl ?_
    exact w_X4_canTake_21 C Rr _ _ _ _ hf
def f_X4_canTake (s : Sg) (v2 : Int32) (v3 : Int32) : Option (Int32 × Sg) := c_X4_canTake_0 s v2 v3
theorem k_X4_canTake (s : Sg) (v2 : Int32) (v3 : Int32) (o : Int32 × Sg) (hf : f_X4_canTake s v2 v3 = some o) : Ctr NM yX4_canTake (ws_X4_canTake) rm_X4_canTake SH s [.ref 17, .ref 15, .int v2, .int v3] (some (.int o.1)) o.2 :=
  Ctr.of (by decide) rfl (Nat.le_of_ble_eq_true rfl) (fun X C Rr => by show XW NM X 5 0 0 SH s 0 [(0, .ref 17), (1, .ref 15), (2, .int v2), (3, .int v3)] []; exact w_X4_canTake_0 C Rr s v2 v3 hf)
abbrev ws_X4_readHopes : List Cond := Cond.code yX4_readHopes cX4_readHopes 5 none :: AW
abbrev rm_X4_readHopes : Room := { frames := 3, cells := 0, slots := 0, locals := 68 }
def c_X4_readHopes_64 (N : Nat) (K17 : Sg → Int32 → Option (Sg)) (s : Sg) (v2 : Int32) (v3 : Int32) : Option (Sg) :=
gd (vi (v2 + ((1:Int32))) 9) (gd (vi v2 8) (gd (vi v2 9) (lt_ (sgu s 23 v2.toNatClampNeg ((s 23 (v2 + ((1:Int32))).toNatClampNeg) + (v3 * (s 19 v2.toNatClampNeg)))) (fun s1 => K17 s1 (v2 + (-1:Int32))))))
set_option maxHeartbeats 4000000 in
set_option maxRecDepth 100000 in
theorem w_X4_readHopes_64 {X : Ctx} {N : Nat} {o : Sg} (C : Cx NM X cX4_readHopes 5 RX4 (ws_X4_readHopes) none rm_X4_readHopes) (Rr : Rx NM X 0 0 none SH o) {K17 : Sg → Int32 → Option (Sg)} (hK17 : ∀ (s : Sg) (v2 : Int32), K17 s v2 = some o → XW NM X 5 0 0 SH s 17 [(0, .ref 17), (1, .ref 15), (2, .int v2)] []) (s : Sg) (v2 : Int32) (v3 : Int32) (hf : c_X4_readHopes_64 N K17 s v2 v3 = some o) : XW NM X 5 0 0 SH s 64 [(0, .ref 17), (1, .ref 15), (2, .int v2), (3, .int v3)] [] := by
  unfold c_X4_readHopes_64 at hf
  refine X_aload_n C 0 dX4_readHopes_64 rfl rfl ?_
  refine X_getr C 5 sh_17 nc_4 inM_4 (by decide) (mc wd_41) rfl dX4_readHopes_65 ?_
  refine X_iload_n C 2 dX4_readHopes_68 rfl rfl ?_
  refine X_aload_n C 0 dX4_readHopes_69 rfl rfl ?_
  refine X_getr C 5 sh_17 nc_4 inM_4 (by decide) (mc wd_41) rfl dX4_readHopes_70 ?_
  refine X_iload_n C 2 dX4_readHopes_73 rfl rfl ?_
  refine X_iconst (v := (1:Int32)) C dX4_readHopes_74 (by decide) ?_
  refine X_iadd C dX4_readHopes_75 ?_
  refine X_iald C sh_23 dX4_readHopes_76 hf (fun hf => ?_)
  refine X_iload_n C 3 dX4_readHopes_77 rfl rfl ?_
  refine X_aload_n C 0 dX4_readHopes_78 rfl rfl ?_
  refine X_getr C 1 sh_17 nc_4 inM_4 (by decide) (mc wd_38) rfl dX4_readHopes_79 ?_
  refine X_iload_n C 2 dX4_readHopes_82 rfl rfl ?_
  refine X_iald C sh_19 dX4_readHopes_83 hf (fun hf => ?_)
  refine X_imul C dX4_readHopes_84 ?_
  refine X_iadd C dX4_readHopes_85 ?_
  refine X_iast C sh_23 dX4_readHopes_86 hf (fun s1 hf => ?_)
  refine X_iinc (v := (-1:Int32)) (L' := [(0, .ref 17), (1, .ref 15), (2, .int (v2 + (-1:Int32))), (3, .int v3)]) C 2 [1, 2, 0, 3] dX4_readHopes_87 rfl (by decide) (by decide) rfl ?_
  refine X_goto (tgt := 17) C dX4_readHopes_90 (by decide) ?_
  refine X_loc (L' := [(0, .ref 17), (1, .ref 15), (2, .int (v2 + (-1:Int32)))]) [0, 1, 2] rfl ?_
  exact hK17 _ _ hf
def c_X4_readHopes_58 (N : Nat) (K17 : Sg → Int32 → Option (Sg)) (K26 : Sg → Int32 → Int32 → Int32 → Option (Sg)) (s : Sg) (v2 : Int32) (v3 : Int32) (v4 : Int32) : Option (Sg) :=
K26 s v2 v3 (v4 + (1:Int32))
set_option maxHeartbeats 4000000 in
set_option maxRecDepth 100000 in
theorem w_X4_readHopes_58 {X : Ctx} {N : Nat} {o : Sg} (C : Cx NM X cX4_readHopes 5 RX4 (ws_X4_readHopes) none rm_X4_readHopes) (Rr : Rx NM X 0 0 none SH o) {K17 : Sg → Int32 → Option (Sg)} (hK17 : ∀ (s : Sg) (v2 : Int32), K17 s v2 = some o → XW NM X 5 0 0 SH s 17 [(0, .ref 17), (1, .ref 15), (2, .int v2)] []) {K26 : Sg → Int32 → Int32 → Int32 → Option (Sg)} (hK26 : ∀ (s : Sg) (v2 : Int32) (v3 : Int32) (v4 : Int32), K26 s v2 v3 v4 = some o → XW NM X 5 0 0 SH s 26 [(0, .ref 17), (1, .ref 15), (2, .int v2), (3, .int v3), (4, .int v4)] []) (s : Sg) (v2 : Int32) (v3 : Int32) (v4 : Int32) (hf : c_X4_readHopes_58 N K17 K26 s v2 v3 v4 = some o) : XW NM X 5 0 0 SH s 58 [(0, .ref 17), (1, .ref 15), (2, .int v2), (3, .int v3), (4, .int v4)] [] := by
  unfold c_X4_readHopes_58 at hf
  refine X_iinc (v := (1:Int32)) (L' := [(0, .ref 17), (1, .ref 15), (2, .int v2), (3, .int v3), (4, .int (v4 + (1:Int32)))]) C 4 [1, 2, 3, 4, 0] dX4_readHopes_58 rfl (by decide) (by decide) rfl ?_
  refine X_goto (tgt := 26) C dX4_readHopes_61 (by decide) ?_
  exact hK26 _ _ _ _ hf
def c_X4_readHopes_26 (N : Nat) (K17 : Sg → Int32 → Option (Sg)) (K26 : Sg → Int32 → Int32 → Int32 → Option (Sg)) (s : Sg) (v2 : Int32) (v3 : Int32) (v4 : Int32) : Option (Sg) :=
if (s 15 3) ≤ v4 then
 c_X4_readHopes_64 N K17 s v2 v3
 else
 bd (f_X4_canTake s v4 v2) (fun r2 s1 => if r2 = 0 then
 c_X4_readHopes_58 N K17 K26 s1 v2 v3 v4
 else
 bd (f_X6_get 15 9 s1 v4 ((2:Int32))) (fun r4 s3 => lt_ ((if v3 < r4 then r4 else v3)) (fun x5 => c_X4_readHopes_58 N K17 K26 s3 v2 x5 v4)))
set_option maxHeartbeats 4000000 in
set_option maxRecDepth 100000 in
theorem w_X4_readHopes_26 {X : Ctx} {N : Nat} {o : Sg} (C : Cx NM X cX4_readHopes 5 RX4 (ws_X4_readHopes) none rm_X4_readHopes) (Rr : Rx NM X 0 0 none SH o) {K17 : Sg → Int32 → Option (Sg)} (hK17 : ∀ (s : Sg) (v2 : Int32), K17 s v2 = some o → XW NM X 5 0 0 SH s 17 [(0, .ref 17), (1, .ref 15), (2, .int v2)] []) {K26 : Sg → Int32 → Int32 → Int32 → Option (Sg)} (hK26 : ∀ (s : Sg) (v2 : Int32) (v3 : Int32) (v4 : Int32), K26 s v2 v3 v4 = some o → XW NM X 5 0 0 SH s 26 [(0, .ref 17), (1, .ref 15), (2, .int v2), (3, .int v3), (4, .int v4)] []) (s : Sg) (v2 : Int32) (v3 : Int32) (v4 : Int32) (hf : c_X4_readHopes_26 N K17 K26 s v2 v3 v4 = some o) : XW NM X 5 0 0 SH s 26 [(0, .ref 17), (1, .ref 15), (2, .int v2), (3, .int v3), (4, .int v4)] [] := by
  unfold c_X4_readHopes_26 at hf
  refine X_iload C 4 dX4_readHopes_26 rfl ?_
  refine X_aload_n C 1 dX4_readHopes_28 rfl rfl ?_
  refine X_getiN C 3 sh_15 nc_6 inM_6 (by decide) nf_X4_57 rfl dX4_readHopes_29 ?_
  refine X_icmp_ge (tgt := 64) C dX4_readHopes_32 (by decide) hf (fun hf => ?_) (fun hf => ?_)
  · refine X_loc (L' := [(0, .ref 17), (1, .ref 15), (2, .int v2), (3, .int v3)]) [0, 1, 2, 3] rfl ?_
    exact w_X4_readHopes_64 C Rr hK17 _ _ _ hf
  · refine X_aload_n C 0 dX4_readHopes_35 rfl rfl ?_
    refine X_aload_n C 1 dX4_readHopes_36 rfl rfl ?_
    refine X_iload C 4 dX4_readHopes_37 rfl ?_
    refine X_iload_n C 2 dX4_readHopes_39 rfl rfl ?_
    refine X_callVi (As := [.ref 15, .int v4, .int v2]) (rest := []) C aw_ok mcs lk_X4_60 sh_17 nc_4 (by decide) rfl rfl (Nat.le_of_ble_eq_true rfl) dX4_readHopes_40 hf (fun r s h => k_X4_canTake _ _ _ (r, s) h) (fun r2 s1 hf => ?_)
    refine X_if_eq (tgt := 58) C dX4_readHopes_43 (by decide) hf (fun hf => ?_) (fun hf => ?_)
    · exact w_X4_readHopes_58 C Rr hK17 hK26 _ _ _ _ hf
    · refine X_iload_n C 3 dX4_readHopes_46 rfl rfl ?_
      refine X_aload_n C 1 dX4_readHopes_47 rfl rfl ?_
      refine X_iload C 4 dX4_readHopes_48 rfl ?_
      refine X_iconst (v := (2:Int32)) C dX4_readHopes_50 (by decide) ?_
      refine X_callVi (As := [.int v4, .int ((2:Int32))]) (rest := [.int v3]) C aw_ok mcs lk_X4_44 sh_15 nc_6 (by decide) rfl rfl (Nat.le_of_ble_eq_true rfl) dX4_readHopes_51 hf (fun r s h => k_X6_get sh_15 sh_16 _ _ _ (r, s) h) (fun r4 s3 hf => ?_)
      refine X_mmax C (mc wd_42) (mc wd_19) (mc wd_9) (mc wd_20) ⟨Nat.le_of_ble_eq_true rfl, Nat.le_of_ble_eq_true rfl, Nat.zero_le _, Nat.zero_le _⟩ dX4_readHopes_54 ?_
      refine X_nm hf (fun x5 hf => ?_)
      refine X_istore_n (L' := [(0, .ref 17), (1, .ref 15), (2, .int v2), (3, .int x5), (4, .int v4)]) C [1, 2, 3, 0, 4] dX4_readHopes_57 rfl (by decide) rfl ?_
      exact w_X4_readHopes_58 C Rr hK17 hK26 _ _ _ _ hf
def b_X4_readHopes_26 (N : Nat) (K17 : Sg → Int32 → Option (Sg)) : Nat → Sg → Int32 → Int32 → Int32 → Option (Sg)
  | 0, _, _, _, _ => none
  | j + 1, s, v2, v3, v4 => c_X4_readHopes_26 N K17 (b_X4_readHopes_26 N K17 j) s v2 v3 v4
theorem h_X4_readHopes_26 {X : Ctx} {N : Nat} {o : Sg} (C : Cx NM X cX4_readHopes 5 RX4 (ws_X4_readHopes) none rm_X4_readHopes) (Rr : Rx NM X 0 0 none SH o) {K17 : Sg → Int32 → Option (Sg)} (hK17 : ∀ (s : Sg) (v2 : Int32), K17 s v2 = some o → XW NM X 5 0 0 SH s 17 [(0, .ref 17), (1, .ref 15), (2, .int v2)] []) : ∀ (j : Nat) (s : Sg) (v2 : Int32) (v3 : Int32) (v4 : Int32), b_X4_readHopes_26 N K17 j s v2 v3 v4 = some o → XW NM X 5 0 0 SH s 26 [(0, .ref 17), (1, .ref 15), (2, .int v2), (3, .int v3), (4, .int v4)] [] := by
  intro j
  induction j with
  | zero => intro s v2 v3 v4 hf; cases (show none = some o from hf)
  | succ j ih => intro s v2 v3 v4 hf; exact w_X4_readHopes_26 C Rr hK17 ih s v2 v3 v4 hf
def c_X4_readHopes_17 (N : Nat) (K17 : Sg → Int32 → Option (Sg)) (s : Sg) (v2 : Int32) : Option (Sg) :=
if v2 < 0 then
 some s
 else
 b_X4_readHopes_26 N K17 N s v2 ((0:Int32)) ((0:Int32))
set_option maxHeartbeats 4000000 in
set_option maxRecDepth 100000 in
theorem w_X4_readHopes_17 {X : Ctx} {N : Nat} {o : Sg} (C : Cx NM X cX4_readHopes 5 RX4 (ws_X4_readHopes) none rm_X4_readHopes) (Rr : Rx NM X 0 0 none SH o) {K17 : Sg → Int32 → Option (Sg)} (hK17 : ∀ (s : Sg) (v2 : Int32), K17 s v2 = some o → XW NM X 5 0 0 SH s 17 [(0, .ref 17), (1, .ref 15), (2, .int v2)] []) (s : Sg) (v2 : Int32) (hf : c_X4_readHopes_17 N K17 s v2 = some o) : XW NM X 5 0 0 SH s 17 [(0, .ref 17), (1, .ref 15), (2, .int v2)] [] := by
  unfold c_X4_readHopes_17 at hf
  refine X_iload_n C 2 dX4_readHopes_17 rfl rfl ?_
  refine X_if_lt (tgt := 93) C dX4_readHopes_18 (by decide) hf (fun hf => ?_) (fun hf => ?_)
  · exact X_vret C dX4_readHopes_93 hf Rr
  · refine X_iconst (v := (0:Int32)) C dX4_readHopes_21 (by decide) ?_
    refine X_istore_n (L' := [(0, .ref 17), (1, .ref 15), (2, .int v2), (3, .int ((0:Int32)))]) C [1, 2, 3, 0] dX4_readHopes_22 rfl (by decide) rfl ?_
    refine X_iconst (v := (0:Int32)) C dX4_readHopes_23 (by decide) ?_
    refine X_istore (L' := [(0, .ref 17), (1, .ref 15), (2, .int v2), (3, .int ((0:Int32))), (4, .int ((0:Int32)))]) C [1, 2, 3, 4, 0] dX4_readHopes_24 (by decide) rfl ?_
    exact h_X4_readHopes_26 C Rr hK17 _ _ _ _ _ hf
def b_X4_readHopes_17 (N : Nat) : Nat → Sg → Int32 → Option (Sg)
  | 0, _, _ => none
  | j + 1, s, v2 => c_X4_readHopes_17 N (b_X4_readHopes_17 N j) s v2
theorem h_X4_readHopes_17 {X : Ctx} {N : Nat} {o : Sg} (C : Cx NM X cX4_readHopes 5 RX4 (ws_X4_readHopes) none rm_X4_readHopes) (Rr : Rx NM X 0 0 none SH o) : ∀ (j : Nat) (s : Sg) (v2 : Int32), b_X4_readHopes_17 N j s v2 = some o → XW NM X 5 0 0 SH s 17 [(0, .ref 17), (1, .ref 15), (2, .int v2)] [] := by
  intro j
  induction j with
  | zero => intro s v2 hf; cases (show none = some o from hf)
  | succ j ih => intro s v2 hf; exact w_X4_readHopes_17 C Rr ih s v2 hf
def c_X4_readHopes_0 (N : Nat) (s : Sg) : Option (Sg) :=
gd (vi (s 17 7) 9) (lt_ (sgu s 23 (s 17 7).toNatClampNeg ((0:Int32))) (fun s1 => lt_ ((s1 17 7) - ((1:Int32))) (fun x2 => b_X4_readHopes_17 N N s1 x2)))
set_option maxHeartbeats 4000000 in
set_option maxRecDepth 100000 in
theorem w_X4_readHopes_0 {X : Ctx} {N : Nat} {o : Sg} (C : Cx NM X cX4_readHopes 5 RX4 (ws_X4_readHopes) none rm_X4_readHopes) (Rr : Rx NM X 0 0 none SH o) (s : Sg) (hf : c_X4_readHopes_0 N s = some o) : XW NM X 5 0 0 SH s 0 [(0, .ref 17), (1, .ref 15)] [] := by
  unfold c_X4_readHopes_0 at hf
  refine X_aload_n C 0 dX4_readHopes_0 rfl rfl ?_
  refine X_getr C 5 sh_17 nc_4 inM_4 (by decide) (mc wd_41) rfl dX4_readHopes_1 ?_
  refine X_aload_n C 0 dX4_readHopes_4 rfl rfl ?_
  refine X_geti C 7 sh_17 nc_4 inM_4 (by decide) (mc wd_36) rfl dX4_readHopes_5 ?_
  refine X_iconst (v := (0:Int32)) C dX4_readHopes_8 (by decide) ?_
  refine X_iast C sh_23 dX4_readHopes_9 hf (fun s1 hf => ?_)
  refine X_aload_n C 0 dX4_readHopes_10 rfl rfl ?_
  refine X_geti C 7 sh_17 nc_4 inM_4 (by decide) (mc wd_36) rfl dX4_readHopes_11 ?_
  refine X_iconst (v := (1:Int32)) C dX4_readHopes_14 (by decide) ?_
  refine X_isub C dX4_readHopes_15 ?_
  refine X_nm hf (fun x2 hf => ?_)
  refine X_istore_n (L' := [(0, .ref 17), (1, .ref 15), (2, .int x2)]) C [1, 2, 0] dX4_readHopes_16 rfl (by decide) rfl ?_
  exact h_X4_readHopes_17 C Rr _ _ _ hf
def f_X4_readHopes (N : Nat) (s : Sg) : Option (Sg) := c_X4_readHopes_0 N s
theorem k_X4_readHopes {N : Nat} (s : Sg) (o : Sg) (hf : f_X4_readHopes N s = some o) : Ctr NM yX4_readHopes (ws_X4_readHopes) rm_X4_readHopes SH s [.ref 17, .ref 15] none o :=
  Ctr.of (by decide) rfl (Nat.le_of_ble_eq_true rfl) (fun X C Rr => by show XW NM X 5 0 0 SH s 0 [(0, .ref 17), (1, .ref 15)] []; exact w_X4_readHopes_0 C Rr s hf)
abbrev ws_X4_place : List Cond := Cond.code yX4_place cX4_place 6 none :: AW
def HZ_X4_place (dd : Nat) (Z : Sg → Int32 → Int32 → Option (Sg)) : Prop := ∀ (s : Sg) (v2 : Int32) (v3 : Int32) (o : Sg), Z s v2 v3 = some o → Ctr NM yX4_place (ws_X4_place) (rmR dd) SH s [.ref 17, .ref 15, .int v2, .int v3] none o
def c_X4_place_166 (N : Nat) (Z : Sg → Int32 → Int32 → Option (Sg)) (s : Sg) (v2 : Int32) (v3 : Int32) : Option (Sg) :=
gd (vi v2 8) (lt_ (sgu s 21 v2.toNatClampNeg ((-1:Int32))) (fun s1 => bdv (Z s1 (v2 + ((1:Int32))) v3) (fun s2 => some s2)))
set_option maxHeartbeats 4000000 in
set_option maxRecDepth 100000 in
theorem w_X4_place_166 {X : Ctx} {N : Nat} {dd : Nat} {Z : Sg → Int32 → Int32 → Option (Sg)} (hZ : HZ_X4_place dd Z) {o : Sg} (C : Cx NM X cX4_place 6 RX4 (ws_X4_place) none (rmR (dd + 1))) (Rr : Rx NM X 0 0 none SH o) (s : Sg) (v2 : Int32) (v3 : Int32) (hf : c_X4_place_166 N Z s v2 v3 = some o) : XW NM X 6 0 0 SH s 166 [(0, .ref 17), (1, .ref 15), (2, .int v2), (3, .int v3)] [] := by
  unfold c_X4_place_166 at hf
  refine X_aload_n C 0 dX4_place_166 rfl rfl ?_
  refine X_getr C 3 sh_17 nc_4 inM_4 (by decide) (mc wd_44) rfl dX4_place_167 ?_
  refine X_iload_n C 2 dX4_place_170 rfl rfl ?_
  refine X_iconst (v := (-1:Int32)) C dX4_place_171 (by decide) ?_
  refine X_iast C sh_21 dX4_place_172 hf (fun s1 hf => ?_)
  refine X_aload_n C 0 dX4_place_173 rfl rfl ?_
  refine X_aload_n C 1 dX4_place_174 rfl rfl ?_
  refine X_iload_n C 2 dX4_place_175 rfl rfl ?_
  refine X_iconst (v := (1:Int32)) C dX4_place_176 (by decide) ?_
  refine X_iadd C dX4_place_177 ?_
  refine X_iload_n C 3 dX4_place_178 rfl rfl ?_
  refine X_callSv (As := [.ref 17, .ref 15, .int (v2 + ((1:Int32))), .int v3]) (rest := []) C aw_ok mcs lk_X4_53 (by simp [rmR]; try omega) rfl rfl (Nat.le_of_ble_eq_true rfl) dX4_place_179 hf (fun s h => hZ _ _ _ s h) (fun s2 hf => ?_)
  exact X_vret C dX4_place_182 hf Rr
def c_X4_place_160 (N : Nat) (Z : Sg → Int32 → Int32 → Option (Sg)) (K79 : Sg → Int32 → Int32 → Int32 → Int32 → Option (Sg)) (s : Sg) (v2 : Int32) (v3 : Int32) (v4 : Int32) (v5 : Int32) : Option (Sg) :=
K79 s v2 v3 v4 (v5 + (1:Int32))
set_option maxHeartbeats 4000000 in
set_option maxRecDepth 100000 in
theorem w_X4_place_160 {X : Ctx} {N : Nat} {dd : Nat} {Z : Sg → Int32 → Int32 → Option (Sg)} (hZ : HZ_X4_place dd Z) {o : Sg} (C : Cx NM X cX4_place 6 RX4 (ws_X4_place) none (rmR (dd + 1))) (Rr : Rx NM X 0 0 none SH o) {K79 : Sg → Int32 → Int32 → Int32 → Int32 → Option (Sg)} (hK79 : ∀ (s : Sg) (v2 : Int32) (v3 : Int32) (v4 : Int32) (v5 : Int32), K79 s v2 v3 v4 v5 = some o → XW NM X 6 0 0 SH s 79 [(0, .ref 17), (1, .ref 15), (2, .int v2), (3, .int v3), (4, .int v4), (5, .int v5)] []) (s : Sg) (v2 : Int32) (v3 : Int32) (v4 : Int32) (v5 : Int32) (hf : c_X4_place_160 N Z K79 s v2 v3 v4 v5 = some o) : XW NM X 6 0 0 SH s 160 [(0, .ref 17), (1, .ref 15), (2, .int v2), (3, .int v3), (4, .int v4), (5, .int v5)] [] := by
  unfold c_X4_place_160 at hf
  refine X_iinc (v := (1:Int32)) (L' := [(0, .ref 17), (1, .ref 15), (2, .int v2), (3, .int v3), (4, .int v4), (5, .int (v5 + (1:Int32)))]) C 5 [1, 2, 3, 4, 5, 0] dX4_place_160 rfl (by decide) (by decide) rfl ?_
  refine X_goto (tgt := 79) C dX4_place_163 (by decide) ?_
  exact hK79 _ _ _ _ _ hf
def c_X4_place_79 (N : Nat) (Z : Sg → Int32 → Int32 → Option (Sg)) (K79 : Sg → Int32 → Int32 → Int32 → Int32 → Option (Sg)) (s : Sg) (v2 : Int32) (v3 : Int32) (v4 : Int32) (v5 : Int32) : Option (Sg) :=
if (s 15 3) ≤ v5 then
 c_X4_place_166 N Z s v2 v3
 else
 if ((3:Int32)) ≤ v5 then
 c_X4_place_166 N Z s v2 v3
 else
 bd (f_X4_canTake s v5 v2) (fun r2 s1 => if r2 = 0 then
 c_X4_place_160 N Z K79 s1 v2 v3 v4 v5
 else
 gd (vi v2 8) (lt_ (sgu s1 21 v2.toNatClampNeg v5) (fun s3 => gd (vi v5 3) (gd (vi v5 3) (lt_ (sgu s3 24 v5.toNatClampNeg ((s3 24 v5.toNatClampNeg) - v4)) (fun s4 => bd (f_X6_get 15 9 s4 v5 ((2:Int32))) (fun r6 s5 => bdv (Z s5 (v2 + ((1:Int32))) (v3 + (v4 * r6))) (fun s7 => gd (vi v5 3) (gd (vi v5 3) (lt_ (sgu s7 24 v5.toNatClampNeg ((s7 24 v5.toNatClampNeg) + v4)) (fun s9 => c_X4_place_160 N Z K79 s9 v2 v3 v4 v5)))))))))))
set_option maxHeartbeats 4000000 in
set_option maxRecDepth 100000 in
theorem w_X4_place_79 {X : Ctx} {N : Nat} {dd : Nat} {Z : Sg → Int32 → Int32 → Option (Sg)} (hZ : HZ_X4_place dd Z) {o : Sg} (C : Cx NM X cX4_place 6 RX4 (ws_X4_place) none (rmR (dd + 1))) (Rr : Rx NM X 0 0 none SH o) {K79 : Sg → Int32 → Int32 → Int32 → Int32 → Option (Sg)} (hK79 : ∀ (s : Sg) (v2 : Int32) (v3 : Int32) (v4 : Int32) (v5 : Int32), K79 s v2 v3 v4 v5 = some o → XW NM X 6 0 0 SH s 79 [(0, .ref 17), (1, .ref 15), (2, .int v2), (3, .int v3), (4, .int v4), (5, .int v5)] []) (s : Sg) (v2 : Int32) (v3 : Int32) (v4 : Int32) (v5 : Int32) (hf : c_X4_place_79 N Z K79 s v2 v3 v4 v5 = some o) : XW NM X 6 0 0 SH s 79 [(0, .ref 17), (1, .ref 15), (2, .int v2), (3, .int v3), (4, .int v4), (5, .int v5)] [] := by
  unfold c_X4_place_79 at hf
  refine X_iload C 5 dX4_place_79 rfl ?_
  refine X_aload_n C 1 dX4_place_81 rfl rfl ?_
  refine X_getiN C 3 sh_15 nc_6 inM_6 (by decide) nf_X4_57 rfl dX4_place_82 ?_
  refine X_icmp_ge (tgt := 166) C dX4_place_85 (by decide) hf (fun hf => ?_) (fun hf => ?_)
  · refine X_loc (L' := [(0, .ref 17), (1, .ref 15), (2, .int v2), (3, .int v3)]) [0, 1, 2, 3] rfl ?_
    exact w_X4_place_166 hZ C Rr _ _ _ hf
  · refine X_iload C 5 dX4_place_88 rfl ?_
    refine X_iconst (v := (3:Int32)) C dX4_place_90 (by decide) ?_
    refine X_icmp_ge (tgt := 166) C dX4_place_91 (by decide) hf (fun hf => ?_) (fun hf => ?_)
    · refine X_loc (L' := [(0, .ref 17), (1, .ref 15), (2, .int v2), (3, .int v3)]) [0, 1, 2, 3] rfl ?_
      exact w_X4_place_166 hZ C Rr _ _ _ hf
    · refine X_aload_n C 0 dX4_place_94 rfl rfl ?_
      refine X_aload_n C 1 dX4_place_95 rfl rfl ?_
      refine X_iload C 5 dX4_place_96 rfl ?_
      refine X_iload_n C 2 dX4_place_98 rfl rfl ?_
      refine X_callVi (As := [.ref 15, .int v5, .int v2]) (rest := []) C aw_ok mcs lk_X4_60 sh_17 nc_4 (by simp [rmR, rm_X4_canTake]; try omega) rfl rfl (Nat.le_of_ble_eq_true rfl) dX4_place_99 hf (fun r s h => k_X4_canTake _ _ _ (r, s) h) (fun r2 s1 hf => ?_)
      refine X_if_ne (tgt := 108) C dX4_place_102 (by decide) hf (fun hf => ?_) (fun hf => ?_)
      · refine X_aload_n C 0 dX4_place_108 rfl rfl ?_
        refine X_getr C 3 sh_17 nc_4 inM_4 (by decide) (mc wd_44) rfl dX4_place_109 ?_
        refine X_iload_n C 2 dX4_place_112 rfl rfl ?_
        refine X_iload C 5 dX4_place_113 rfl ?_
        refine X_iast C sh_21 dX4_place_115 hf (fun s3 hf => ?_)
        refine X_aload_n C 0 dX4_place_116 rfl rfl ?_
        refine X_getr C 6 sh_17 nc_4 inM_4 (by decide) (mc wd_40) rfl dX4_place_117 ?_
        refine X_iload C 5 dX4_place_120 rfl ?_
        refine X_dup2 C dX4_place_122 rfl rfl ?_
        refine X_iald C sh_24 dX4_place_123 hf (fun hf => ?_)
        refine X_iload C 4 dX4_place_124 rfl ?_
        refine X_isub C dX4_place_126 ?_
        refine X_iast C sh_24 dX4_place_127 hf (fun s4 hf => ?_)
        refine X_aload_n C 0 dX4_place_128 rfl rfl ?_
        refine X_aload_n C 1 dX4_place_129 rfl rfl ?_
        refine X_iload_n C 2 dX4_place_130 rfl rfl ?_
        refine X_iconst (v := (1:Int32)) C dX4_place_131 (by decide) ?_
        refine X_iadd C dX4_place_132 ?_
        refine X_iload_n C 3 dX4_place_133 rfl rfl ?_
        refine X_iload C 4 dX4_place_134 rfl ?_
        refine X_aload_n C 1 dX4_place_136 rfl rfl ?_
        refine X_iload C 5 dX4_place_137 rfl ?_
        refine X_iconst (v := (2:Int32)) C dX4_place_139 (by decide) ?_
        refine X_callVi (As := [.int v5, .int ((2:Int32))]) (rest := [.int v4, .int v3, .int (v2 + ((1:Int32))), .ref 15, .ref 17]) C aw_ok mcs lk_X4_44 sh_15 nc_6 (by simp [rmR, rm_X6_get]; try omega) rfl rfl (Nat.le_of_ble_eq_true rfl) dX4_place_140 hf (fun r s h => k_X6_get sh_15 sh_16 _ _ _ (r, s) h) (fun r6 s5 hf => ?_)
        refine X_imul C dX4_place_143 ?_
        refine X_iadd C dX4_place_144 ?_
        refine X_callSv (As := [.ref 17, .ref 15, .int (v2 + ((1:Int32))), .int (v3 + (v4 * r6))]) (rest := []) C aw_ok mcs lk_X4_53 (by simp [rmR]; try omega) rfl rfl (Nat.le_of_ble_eq_true rfl) dX4_place_145 hf (fun s h => hZ _ _ _ s h) (fun s7 hf => ?_)
        refine X_aload_n C 0 dX4_place_148 rfl rfl ?_
        refine X_getr C 6 sh_17 nc_4 inM_4 (by decide) (mc wd_40) rfl dX4_place_149 ?_
        refine X_iload C 5 dX4_place_152 rfl ?_
        refine X_dup2 C dX4_place_154 rfl rfl ?_
        refine X_iald C sh_24 dX4_place_155 hf (fun hf => ?_)
        refine X_iload C 4 dX4_place_156 rfl ?_
        refine X_iadd C dX4_place_158 ?_
        refine X_iast C sh_24 dX4_place_159 hf (fun s9 hf => ?_)
        exact w_X4_place_160 hZ C Rr hK79 _ _ _ _ _ hf
      · refine X_goto (tgt := 160) C dX4_place_105 (by decide) ?_
        exact w_X4_place_160 hZ C Rr hK79 _ _ _ _ _ hf
def b_X4_place_79 (N : Nat) (Z : Sg → Int32 → Int32 → Option (Sg)) : Nat → Sg → Int32 → Int32 → Int32 → Int32 → Option (Sg)
  | 0, _, _, _, _, _ => none
  | j + 1, s, v2, v3, v4, v5 => c_X4_place_79 N Z (b_X4_place_79 N Z j) s v2 v3 v4 v5
theorem h_X4_place_79 {X : Ctx} {N : Nat} {dd : Nat} {Z : Sg → Int32 → Int32 → Option (Sg)} (hZ : HZ_X4_place dd Z) {o : Sg} (C : Cx NM X cX4_place 6 RX4 (ws_X4_place) none (rmR (dd + 1))) (Rr : Rx NM X 0 0 none SH o) : ∀ (j : Nat) (s : Sg) (v2 : Int32) (v3 : Int32) (v4 : Int32) (v5 : Int32), b_X4_place_79 N Z j s v2 v3 v4 v5 = some o → XW NM X 6 0 0 SH s 79 [(0, .ref 17), (1, .ref 15), (2, .int v2), (3, .int v3), (4, .int v4), (5, .int v5)] [] := by
  intro j
  induction j with
  | zero => intro s v2 v3 v4 v5 hf; cases (show none = some o from hf)
  | succ j ih => intro s v2 v3 v4 v5 hf; exact w_X4_place_79 hZ C Rr ih s v2 v3 v4 v5 hf
def c_X4_place_38 (N : Nat) (Z : Sg → Int32 → Int32 → Option (Sg)) (K38 : Sg → Int32 → Option (Sg)) (s : Sg) (v4 : Int32) : Option (Sg) :=
if (s 17 7) ≤ v4 then
 some s
 else
 gd (vi v4 8) (gd (vi v4 8) (lt_ (sgu s 22 v4.toNatClampNeg (s 21 v4.toNatClampNeg)) (fun s1 => K38 s1 (v4 + (1:Int32)))))
set_option maxHeartbeats 4000000 in
set_option maxRecDepth 100000 in
theorem w_X4_place_38 {X : Ctx} {N : Nat} {dd : Nat} {Z : Sg → Int32 → Int32 → Option (Sg)} (hZ : HZ_X4_place dd Z) {o : Sg} (C : Cx NM X cX4_place 6 RX4 (ws_X4_place) none (rmR (dd + 1))) (Rr : Rx NM X 0 0 none SH o) {K38 : Sg → Int32 → Option (Sg)} (hK38 : ∀ (s : Sg) (v4 : Int32), K38 s v4 = some o → XW NM X 6 0 0 SH s 38 [(0, .ref 17), (4, .int v4)] []) (s : Sg) (v4 : Int32) (hf : c_X4_place_38 N Z K38 s v4 = some o) : XW NM X 6 0 0 SH s 38 [(0, .ref 17), (4, .int v4)] [] := by
  unfold c_X4_place_38 at hf
  refine X_iload C 1 dX4_place_38 rfl ?_
  refine X_aload_n C 0 dX4_place_40 rfl rfl ?_
  refine X_geti C 7 sh_17 nc_4 inM_4 (by decide) (mc wd_36) rfl dX4_place_41 ?_
  refine X_icmp_ge (tgt := 67) C dX4_place_44 (by decide) hf (fun hf => ?_) (fun hf => ?_)
  · exact X_vret C dX4_place_67 hf Rr
  · refine X_aload_n C 0 dX4_place_47 rfl rfl ?_
    refine X_getr C 4 sh_17 nc_4 inM_4 (by decide) (mc wd_45) rfl dX4_place_48 ?_
    refine X_iload C 1 dX4_place_51 rfl ?_
    refine X_aload_n C 0 dX4_place_53 rfl rfl ?_
    refine X_getr C 3 sh_17 nc_4 inM_4 (by decide) (mc wd_44) rfl dX4_place_54 ?_
    refine X_iload C 1 dX4_place_57 rfl ?_
    refine X_iald C sh_21 dX4_place_59 hf (fun hf => ?_)
    refine X_iast C sh_22 dX4_place_60 hf (fun s1 hf => ?_)
    refine X_iinc (v := (1:Int32)) (L' := [(0, .ref 17), (4, .int (v4 + (1:Int32)))]) C 1 [1, 0] dX4_place_61 rfl (by decide) (by decide) rfl ?_
    refine X_goto (tgt := 38) C dX4_place_64 (by decide) ?_
    exact hK38 _ _ hf
def b_X4_place_38 (N : Nat) (Z : Sg → Int32 → Int32 → Option (Sg)) : Nat → Sg → Int32 → Option (Sg)
  | 0, _, _ => none
  | j + 1, s, v4 => c_X4_place_38 N Z (b_X4_place_38 N Z j) s v4
theorem h_X4_place_38 {X : Ctx} {N : Nat} {dd : Nat} {Z : Sg → Int32 → Int32 → Option (Sg)} (hZ : HZ_X4_place dd Z) {o : Sg} (C : Cx NM X cX4_place 6 RX4 (ws_X4_place) none (rmR (dd + 1))) (Rr : Rx NM X 0 0 none SH o) : ∀ (j : Nat) (s : Sg) (v4 : Int32), b_X4_place_38 N Z j s v4 = some o → XW NM X 6 0 0 SH s 38 [(0, .ref 17), (4, .int v4)] [] := by
  intro j
  induction j with
  | zero => intro s v4 hf; cases (show none = some o from hf)
  | succ j ih => intro s v4 hf; exact w_X4_place_38 hZ C Rr ih s v4 hf
def c_X4_place_0 (N : Nat) (Z : Sg → Int32 → Int32 → Option (Sg)) (s : Sg) (v2 : Int32) (v3 : Int32) : Option (Sg) :=
if ((8:Int32)) < v2 then
 some s
 else
 gd (vi v2 9) (if (s 17 8) < (v3 + (s 23 v2.toNatClampNeg)) then
 if v2 < (s 17 7) then
 gd (vi v2 8) (lt_ (s 19 v2.toNatClampNeg) (fun x1 => b_X4_place_79 N Z N s v2 v3 x1 ((0:Int32))))
 else
 lt_ (sgu s 17 8 v3) (fun s2 => b_X4_place_38 N Z N s2 ((0:Int32)))
 else
 some s)
set_option maxHeartbeats 4000000 in
set_option maxRecDepth 100000 in
theorem w_X4_place_0 {X : Ctx} {N : Nat} {dd : Nat} {Z : Sg → Int32 → Int32 → Option (Sg)} (hZ : HZ_X4_place dd Z) {o : Sg} (C : Cx NM X cX4_place 6 RX4 (ws_X4_place) none (rmR (dd + 1))) (Rr : Rx NM X 0 0 none SH o) (s : Sg) (v2 : Int32) (v3 : Int32) (hf : c_X4_place_0 N Z s v2 v3 = some o) : XW NM X 6 0 0 SH s 0 [(0, .ref 17), (1, .ref 15), (2, .int v2), (3, .int v3)] [] := by
  unfold c_X4_place_0 at hf
  refine X_iload_n C 2 dX4_place_0 rfl rfl ?_
  refine X_bipush (v := (8:Int32)) C dX4_place_1 (by decide) ?_
  refine X_icmp_gt (tgt := 21) C dX4_place_3 (by decide) hf (fun hf => ?_) (fun hf => ?_)
  · exact X_vret C dX4_place_21 hf Rr
  · refine X_iload_n C 3 dX4_place_6 rfl rfl ?_
    refine X_aload_n C 0 dX4_place_7 rfl rfl ?_
    refine X_getr C 5 sh_17 nc_4 inM_4 (by decide) (mc wd_41) rfl dX4_place_8 ?_
    refine X_iload_n C 2 dX4_place_11 rfl rfl ?_
    refine X_iald C sh_23 dX4_place_12 hf (fun hf => ?_)
    refine X_iadd C dX4_place_13 ?_
    refine X_aload_n C 0 dX4_place_14 rfl rfl ?_
    refine X_geti C 8 sh_17 nc_4 inM_4 (by decide) (mc wd_43) rfl dX4_place_15 ?_
    refine X_icmp_gt (tgt := 22) C dX4_place_18 (by decide) hf (fun hf => ?_) (fun hf => ?_)
    · refine X_iload_n C 2 dX4_place_22 rfl rfl ?_
      refine X_aload_n C 0 dX4_place_23 rfl rfl ?_
      refine X_geti C 7 sh_17 nc_4 inM_4 (by decide) (mc wd_36) rfl dX4_place_24 ?_
      refine X_icmp_lt (tgt := 68) C dX4_place_27 (by decide) hf (fun hf => ?_) (fun hf => ?_)
      · refine X_aload_n C 0 dX4_place_68 rfl rfl ?_
        refine X_getr C 1 sh_17 nc_4 inM_4 (by decide) (mc wd_38) rfl dX4_place_69 ?_
        refine X_iload_n C 2 dX4_place_72 rfl rfl ?_
        refine X_iald C sh_19 dX4_place_73 hf (fun hf => ?_)
        refine X_nm hf (fun x1 hf => ?_)
        refine X_istore (L' := [(0, .ref 17), (1, .ref 15), (2, .int v2), (3, .int v3), (4, .int x1)]) C [1, 2, 3, 4, 0] dX4_place_74 (by decide) rfl ?_
        refine X_iconst (v := (0:Int32)) C dX4_place_76 (by decide) ?_
        refine X_istore (L' := [(0, .ref 17), (1, .ref 15), (2, .int v2), (3, .int v3), (4, .int x1), (5, .int ((0:Int32)))]) C [1, 2, 3, 4, 5, 0] dX4_place_77 (by decide) rfl ?_
        exact h_X4_place_79 hZ C Rr _ _ _ _ _ _ hf
      · refine X_aload_n C 0 dX4_place_30 rfl rfl ?_
        refine X_iload_n C 3 dX4_place_31 rfl rfl ?_
        refine X_puti C 8 sh_17 nc_4 inM_4 (by decide) tyX4 tyX4_ok nmX4 (mc wd_43) rfl (by decide +kernel) rfl dX4_place_32 hf (fun s2 hf => ?_)
        refine X_iconst (v := (0:Int32)) C dX4_place_35 (by decide) ?_
        refine X_istore (L' := [(0, .ref 17), (1, .ref 15), (2, .int v2), (3, .int v3), (4, .int ((0:Int32)))]) C [1, 2, 3, 4, 0] dX4_place_36 (by decide) rfl ?_
        refine X_loc (L' := [(0, .ref 17), (4, .int ((0:Int32)))]) [0, 4] rfl ?_
        exact h_X4_place_38 hZ C Rr _ _ _ hf
    · exact X_vret C dX4_place_21 hf Rr
def f_X4_place (N : Nat) : Nat → Sg → Int32 → Int32 → Option (Sg)
  | 0, _, _, _ => none
  | j + 1, s, v2, v3 => c_X4_place_0 N (f_X4_place N j) s v2 v3
theorem k0_X4_place {N : Nat} : ∀ (dd : Nat), HZ_X4_place dd (f_X4_place N dd) := by
  intro dd
  induction dd with
  | zero => intro s v2 v3 o hf; cases (show none = some o from hf)
  | succ dd ih => intro s v2 v3 o hf; exact Ctr.of (by decide) rfl (Nat.le_of_ble_eq_true rfl) (fun X C Rr => by show XW NM X 6 0 0 SH s 0 [(0, .ref 17), (1, .ref 15), (2, .int v2), (3, .int v3)] []; exact w_X4_place_0 ih C Rr s v2 v3 hf)
theorem k_X4_place {N : Nat} (s : Sg) (v2 : Int32) (v3 : Int32) (o : Sg) (hf : f_X4_place N 12 s v2 v3 = some o) : Ctr NM yX4_place (ws_X4_place) (rmR 12) SH s [.ref 17, .ref 15, .int v2, .int v3] none o := k0_X4_place 12 s v2 v3 o hf
abbrev ws_X4_settle : List Cond := Cond.code yX4_settle cX4_settle 4 none :: AW
abbrev rm_X4_settle : Room := { frames := 41, cells := 0, slots := 0, locals := 1025 }
def c_X4_settle_30 (N : Nat) (s : Sg) : Option (Sg) :=
bdv (f_X4_readHopes N s) (fun s1 => lt_ (sgu s1 17 8 ((-1:Int32))) (fun s3 => bdv (f_X4_place N 12 s3 ((0:Int32)) ((0:Int32))) (fun s4 => some s4)))
set_option maxHeartbeats 4000000 in
set_option maxRecDepth 100000 in
theorem w_X4_settle_30 {X : Ctx} {N : Nat} {o : Sg} (C : Cx NM X cX4_settle 4 RX4 (ws_X4_settle) none rm_X4_settle) (Rr : Rx NM X 0 0 none SH o) (s : Sg) (hf : c_X4_settle_30 N s = some o) : XW NM X 4 0 0 SH s 30 [(0, .ref 17), (2, .ref 15)] [] := by
  unfold c_X4_settle_30 at hf
  refine X_aload_n C 0 dX4_settle_30 rfl rfl ?_
  refine X_aload_n C 1 dX4_settle_31 rfl rfl ?_
  refine X_callVv (As := [.ref 15]) (rest := []) C aw_ok mcs lk_X4_50 sh_17 nc_4 (by decide) rfl rfl (Nat.le_of_ble_eq_true rfl) dX4_settle_32 hf (fun s h => k_X4_readHopes _ s h) (fun s1 hf => ?_)
  refine X_aload_n C 0 dX4_settle_35 rfl rfl ?_
  refine X_iconst (v := (-1:Int32)) C dX4_settle_36 (by decide) ?_
  refine X_puti C 8 sh_17 nc_4 inM_4 (by decide) tyX4 tyX4_ok nmX4 (mc wd_43) rfl (by decide +kernel) rfl dX4_settle_37 hf (fun s3 hf => ?_)
  refine X_aload_n C 0 dX4_settle_40 rfl rfl ?_
  refine X_aload_n C 1 dX4_settle_41 rfl rfl ?_
  refine X_iconst (v := (0:Int32)) C dX4_settle_42 (by decide) ?_
  refine X_iconst (v := (0:Int32)) C dX4_settle_43 (by decide) ?_
  refine X_callSv (As := [.ref 17, .ref 15, .int ((0:Int32)), .int ((0:Int32))]) (rest := []) C aw_ok mcs lk_X4_53 (by decide) rfl rfl (Nat.le_of_ble_eq_true rfl) dX4_settle_44 hf (fun s h => k_X4_place _ _ _ s h) (fun s4 hf => ?_)
  exact X_vret C dX4_settle_47 hf Rr
def c_X4_settle_7 (N : Nat) (K7 : Sg → Int32 → Option (Sg)) (s : Sg) (v3 : Int32) : Option (Sg) :=
if ((3:Int32)) ≤ v3 then
 c_X4_settle_30 N s
 else
 bd (f_X6_get 15 9 s v3 ((1:Int32))) (fun r2 s1 => gd (vi v3 3) (lt_ (sgu s1 24 v3.toNatClampNeg r2) (fun s3 => K7 s3 (v3 + (1:Int32)))))
set_option maxHeartbeats 4000000 in
set_option maxRecDepth 100000 in
theorem w_X4_settle_7 {X : Ctx} {N : Nat} {o : Sg} (C : Cx NM X cX4_settle 4 RX4 (ws_X4_settle) none rm_X4_settle) (Rr : Rx NM X 0 0 none SH o) {K7 : Sg → Int32 → Option (Sg)} (hK7 : ∀ (s : Sg) (v3 : Int32), K7 s v3 = some o → XW NM X 4 0 0 SH s 7 [(0, .ref 17), (2, .ref 15), (3, .int v3)] []) (s : Sg) (v3 : Int32) (hf : c_X4_settle_7 N K7 s v3 = some o) : XW NM X 4 0 0 SH s 7 [(0, .ref 17), (2, .ref 15), (3, .int v3)] [] := by
  unfold c_X4_settle_7 at hf
  refine X_iload_n C 2 dX4_settle_7 rfl rfl ?_
  refine X_iconst (v := (3:Int32)) C dX4_settle_8 (by decide) ?_
  refine X_icmp_ge (tgt := 30) C dX4_settle_9 (by decide) hf (fun hf => ?_) (fun hf => ?_)
  · refine X_loc (L' := [(0, .ref 17), (2, .ref 15)]) [0, 1] rfl ?_
    exact w_X4_settle_30 C Rr _ hf
  · refine X_aload_n C 0 dX4_settle_12 rfl rfl ?_
    refine X_getr C 6 sh_17 nc_4 inM_4 (by decide) (mc wd_40) rfl dX4_settle_13 ?_
    refine X_iload_n C 2 dX4_settle_16 rfl rfl ?_
    refine X_aload_n C 1 dX4_settle_17 rfl rfl ?_
    refine X_iload_n C 2 dX4_settle_18 rfl rfl ?_
    refine X_iconst (v := (1:Int32)) C dX4_settle_19 (by decide) ?_
    refine X_callVi (As := [.int v3, .int ((1:Int32))]) (rest := [.int v3, .ref 24]) C aw_ok mcs lk_X4_44 sh_15 nc_6 (by decide) rfl rfl (Nat.le_of_ble_eq_true rfl) dX4_settle_20 hf (fun r s h => k_X6_get sh_15 sh_16 _ _ _ (r, s) h) (fun r2 s1 hf => ?_)
    refine X_iast C sh_24 dX4_settle_23 hf (fun s3 hf => ?_)
    refine X_iinc (v := (1:Int32)) (L' := [(0, .ref 17), (2, .ref 15), (3, .int (v3 + (1:Int32)))]) C 2 [1, 2, 0] dX4_settle_24 rfl (by decide) (by decide) rfl ?_
    refine X_goto (tgt := 7) C dX4_settle_27 (by decide) ?_
    exact hK7 _ _ hf
def b_X4_settle_7 (N : Nat) : Nat → Sg → Int32 → Option (Sg)
  | 0, _, _ => none
  | j + 1, s, v3 => c_X4_settle_7 N (b_X4_settle_7 N j) s v3
theorem h_X4_settle_7 {X : Ctx} {N : Nat} {o : Sg} (C : Cx NM X cX4_settle 4 RX4 (ws_X4_settle) none rm_X4_settle) (Rr : Rx NM X 0 0 none SH o) : ∀ (j : Nat) (s : Sg) (v3 : Int32), b_X4_settle_7 N j s v3 = some o → XW NM X 4 0 0 SH s 7 [(0, .ref 17), (2, .ref 15), (3, .int v3)] [] := by
  intro j
  induction j with
  | zero => intro s v3 hf; cases (show none = some o from hf)
  | succ j ih => intro s v3 hf; exact w_X4_settle_7 C Rr ih s v3 hf
def c_X4_settle_0 (N : Nat) (s : Sg) : Option (Sg) :=
bdv (f_X4_readPigs N s) (fun s1 => b_X4_settle_7 N N s1 ((0:Int32)))
set_option maxHeartbeats 4000000 in
set_option maxRecDepth 100000 in
theorem w_X4_settle_0 {X : Ctx} {N : Nat} {o : Sg} (C : Cx NM X cX4_settle 4 RX4 (ws_X4_settle) none rm_X4_settle) (Rr : Rx NM X 0 0 none SH o) (s : Sg) (hf : c_X4_settle_0 N s = some o) : XW NM X 4 0 0 SH s 0 [(0, .ref 17), (1, .ref 8), (2, .ref 15)] [] := by
  unfold c_X4_settle_0 at hf
  refine X_aload_n C 0 dX4_settle_0 rfl rfl ?_
  refine X_aload_n C 1 dX4_settle_1 rfl rfl ?_
  refine X_callVv (As := [.ref 8]) (rest := []) C aw_ok mcs lk_X4_40 sh_17 nc_4 (by decide) rfl rfl (Nat.le_of_ble_eq_true rfl) dX4_settle_2 hf (fun s h => k_X4_readPigs _ s h) (fun s1 hf => ?_)
  refine X_iconst (v := (0:Int32)) C dX4_settle_5 (by decide) ?_
  refine X_istore_n (L' := [(0, .ref 17), (1, .ref 8), (2, .ref 15), (3, .int ((0:Int32)))]) C [1, 2, 3, 0] dX4_settle_6 rfl (by decide) rfl ?_
  refine X_loc (L' := [(0, .ref 17), (2, .ref 15), (3, .int ((0:Int32)))]) [0, 2, 3] rfl ?_
  exact h_X4_settle_7 C Rr _ _ _ hf
def f_X4_settle (N : Nat) (s : Sg) : Option (Sg) := c_X4_settle_0 N s
theorem k_X4_settle {N : Nat} (s : Sg) (o : Sg) (hf : f_X4_settle N s = some o) : Ctr NM yX4_settle (ws_X4_settle) rm_X4_settle SH s [.ref 17, .ref 8, .ref 15] none o :=
  Ctr.of (by decide) rfl (Nat.le_of_ble_eq_true rfl) (fun X C Rr => by show XW NM X 4 0 0 SH s 0 [(0, .ref 17), (1, .ref 8), (2, .ref 15)] []; exact w_X4_settle_0 C Rr s hf)
