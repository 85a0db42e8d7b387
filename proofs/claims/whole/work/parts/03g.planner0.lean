abbrev ws_X3_readMonths : List Cond := Cond.code yX3_readMonths cX3_readMonths 9 none :: AW
abbrev rm_X3_readMonths : Room := { frames := 2, cells := 0, slots := 0, locals := 44 }
def c_X3_readMonths_119 (N : Nat) (K33 : Sg → Int32 → Int32 → Option (Sg)) (s : Sg) (v3 : Int32) (v5 : Int32) (v7 : Int32) : Option (Sg) :=
gd (vi (v5 + ((1:Int32))) 7) (gd (vi v5 7) (lt_ (sgu s 32 v5.toNatClampNeg ((s 32 (v5 + ((1:Int32))).toNatClampNeg) + v7)) (fun s1 => K33 s1 v3 (v5 + (-1:Int32)))))
set_option maxHeartbeats 4000000 in
set_option maxRecDepth 100000 in
theorem w_X3_readMonths_119 {X : Ctx} {N : Nat} {o : Sg} (C : Cx NM X cX3_readMonths 9 RX3 (ws_X3_readMonths) none rm_X3_readMonths) (Rr : Rx NM X 0 0 none SH o) {K33 : Sg → Int32 → Int32 → Option (Sg)} (hK33 : ∀ (s : Sg) (v3 : Int32) (v5 : Int32), K33 s v3 v5 = some o → XW NM X 9 0 0 SH s 33 [(0, .ref 29), (1, .ref 25), (2, .ref 27), (3, .int v3), (5, .int v5)] []) (s : Sg) (v3 : Int32) (v5 : Int32) (v7 : Int32) (hf : c_X3_readMonths_119 N K33 s v3 v5 v7 = some o) : XW NM X 9 0 0 SH s 119 [(0, .ref 29), (1, .ref 25), (2, .ref 27), (3, .int v3), (5, .int v5), (7, .int v7)] [] := by
  unfold c_X3_readMonths_119 at hf
  refine X_aload_n C 0 dX3_readMonths_119 rfl rfl ?_
  refine X_getr C 2 sh_29 nc_3 inM_3 (by decide) (mc wd_49) rfl dX3_readMonths_120 ?_
  refine X_iload C 4 dX3_readMonths_123 rfl ?_
  refine X_aload_n C 0 dX3_readMonths_125 rfl rfl ?_
  refine X_getr C 2 sh_29 nc_3 inM_3 (by decide) (mc wd_49) rfl dX3_readMonths_126 ?_
  refine X_iload C 4 dX3_readMonths_129 rfl ?_
  refine X_iconst (v := (1:Int32)) C dX3_readMonths_131 (by decide) ?_
  refine X_iadd C dX3_readMonths_132 ?_
  refine X_iald C sh_32 dX3_readMonths_133 hf (fun hf => ?_)
  refine X_iload C 5 dX3_readMonths_134 rfl ?_
  refine X_iadd C dX3_readMonths_136 ?_
  refine X_iast C sh_32 dX3_readMonths_137 hf (fun s1 hf => ?_)
  refine X_iinc (v := (-1:Int32)) (L' := [(0, .ref 29), (1, .ref 25), (2, .ref 27), (3, .int v3), (5, .int (v5 + (-1:Int32))), (7, .int v7)]) C 4 [1, 2, 3, 4, 0, 5] dX3_readMonths_138 rfl (by decide) (by decide) rfl ?_
  refine X_goto (tgt := 33) C dX3_readMonths_141 (by decide) ?_
  refine X_loc (L' := [(0, .ref 29), (1, .ref 25), (2, .ref 27), (3, .int v3), (5, .int (v5 + (-1:Int32)))]) [0, 1, 2, 3, 4] rfl ?_
  exact hK33 _ _ _ hf
def c_X3_readMonths_81 (N : Nat) (K33 : Sg → Int32 → Int32 → Option (Sg)) (K81 : Sg → Int32 → Int32 → Int32 → Int32 → Option (Sg)) (s : Sg) (v3 : Int32) (v5 : Int32) (v7 : Int32) (v8 : Int32) : Option (Sg) :=
if ((5:Int32)) ≤ v8 then
 c_X3_readMonths_119 N K33 s v3 v5 v7
 else
 gd (vi v5 6) (if (s 30 v5.toNatClampNeg) < v8 then
 c_X3_readMonths_119 N K33 s v3 v5 v7
 else
 bd (f_X6_get 27 15 s v8 ((0:Int32))) (fun r2 s1 => lt_ ((if v7 < r2 then r2 else v7)) (fun x3 => K81 s1 v3 v5 x3 (v8 + (1:Int32)))))
set_option maxHeartbeats 4000000 in
set_option maxRecDepth 100000 in
theorem w_X3_readMonths_81 {X : Ctx} {N : Nat} {o : Sg} (C : Cx NM X cX3_readMonths 9 RX3 (ws_X3_readMonths) none rm_X3_readMonths) (Rr : Rx NM X 0 0 none SH o) {K33 : Sg → Int32 → Int32 → Option (Sg)} (hK33 : ∀ (s : Sg) (v3 : Int32) (v5 : Int32), K33 s v3 v5 = some o → XW NM X 9 0 0 SH s 33 [(0, .ref 29), (1, .ref 25), (2, .ref 27), (3, .int v3), (5, .int v5)] []) {K81 : Sg → Int32 → Int32 → Int32 → Int32 → Option (Sg)} (hK81 : ∀ (s : Sg) (v3 : Int32) (v5 : Int32) (v7 : Int32) (v8 : Int32), K81 s v3 v5 v7 v8 = some o → XW NM X 9 0 0 SH s 81 [(0, .ref 29), (1, .ref 25), (2, .ref 27), (3, .int v3), (5, .int v5), (7, .int v7), (8, .int v8)] []) (s : Sg) (v3 : Int32) (v5 : Int32) (v7 : Int32) (v8 : Int32) (hf : c_X3_readMonths_81 N K33 K81 s v3 v5 v7 v8 = some o) : XW NM X 9 0 0 SH s 81 [(0, .ref 29), (1, .ref 25), (2, .ref 27), (3, .int v3), (5, .int v5), (7, .int v7), (8, .int v8)] [] := by
  unfold c_X3_readMonths_81 at hf
  refine X_iload C 6 dX3_readMonths_81 rfl ?_
  refine X_iconst (v := (5:Int32)) C dX3_readMonths_83 (by decide) ?_
  refine X_icmp_ge (tgt := 119) C dX3_readMonths_84 (by decide) hf (fun hf => ?_) (fun hf => ?_)
  · refine X_loc (L' := [(0, .ref 29), (1, .ref 25), (2, .ref 27), (3, .int v3), (5, .int v5), (7, .int v7)]) [0, 1, 2, 3, 4, 5] rfl ?_
    exact w_X3_readMonths_119 C Rr hK33 _ _ _ _ hf
  · refine X_iload C 6 dX3_readMonths_87 rfl ?_
    refine X_aload_n C 0 dX3_readMonths_89 rfl rfl ?_
    refine X_getr C 0 sh_29 nc_3 inM_3 (by decide) (mc wd_50) rfl dX3_readMonths_90 ?_
    refine X_iload C 4 dX3_readMonths_93 rfl ?_
    refine X_iald C sh_30 dX3_readMonths_95 hf (fun hf => ?_)
    refine X_icmp_gt (tgt := 119) C dX3_readMonths_96 (by decide) hf (fun hf => ?_) (fun hf => ?_)
    · refine X_loc (L' := [(0, .ref 29), (1, .ref 25), (2, .ref 27), (3, .int v3), (5, .int v5), (7, .int v7)]) [0, 1, 2, 3, 4, 5] rfl ?_
      exact w_X3_readMonths_119 C Rr hK33 _ _ _ _ hf
    · refine X_iload C 5 dX3_readMonths_99 rfl ?_
      refine X_aload_n C 2 dX3_readMonths_101 rfl rfl ?_
      refine X_iload C 6 dX3_readMonths_102 rfl ?_
      refine X_iconst (v := (0:Int32)) C dX3_readMonths_104 (by decide) ?_
      refine X_callVi (As := [.int v8, .int ((0:Int32))]) (rest := [.int v7]) C aw_ok mcs lk_X3_49 sh_27 nc_6 (by decide) rfl rfl (Nat.le_of_ble_eq_true rfl) dX3_readMonths_105 hf (fun r s h => k_X6_get sh_27 sh_28 _ _ _ (r, s) h) (fun r2 s1 hf => ?_)
      refine X_mmax C (mc wd_47) (mc wd_19) (mc wd_9) (mc wd_20) ⟨Nat.le_of_ble_eq_true rfl, Nat.le_of_ble_eq_true rfl, Nat.zero_le _, Nat.zero_le _⟩ dX3_readMonths_108 ?_
      refine X_nm hf (fun x3 hf => ?_)
      refine X_istore (L' := [(0, .ref 29), (1, .ref 25), (2, .ref 27), (3, .int v3), (5, .int v5), (7, .int x3), (8, .int v8)]) C [1, 2, 3, 4, 5, 0, 6] dX3_readMonths_111 (by decide) rfl ?_
      refine X_iinc (v := (1:Int32)) (L' := [(0, .ref 29), (1, .ref 25), (2, .ref 27), (3, .int v3), (5, .int v5), (7, .int x3), (8, .int (v8 + (1:Int32)))]) C 6 [1, 2, 3, 4, 5, 6, 0] dX3_readMonths_113 rfl (by decide) (by decide) rfl ?_
      refine X_goto (tgt := 81) C dX3_readMonths_116 (by decide) ?_
      exact hK81 _ _ _ _ _ hf
def b_X3_readMonths_81 (N : Nat) (K33 : Sg → Int32 → Int32 → Option (Sg)) : Nat → Sg → Int32 → Int32 → Int32 → Int32 → Option (Sg)
  | 0, _, _, _, _, _ => none
  | j + 1, s, v3, v5, v7, v8 => c_X3_readMonths_81 N K33 (b_X3_readMonths_81 N K33 j) s v3 v5 v7 v8
theorem h_X3_readMonths_81 {X : Ctx} {N : Nat} {o : Sg} (C : Cx NM X cX3_readMonths 9 RX3 (ws_X3_readMonths) none rm_X3_readMonths) (Rr : Rx NM X 0 0 none SH o) {K33 : Sg → Int32 → Int32 → Option (Sg)} (hK33 : ∀ (s : Sg) (v3 : Int32) (v5 : Int32), K33 s v3 v5 = some o → XW NM X 9 0 0 SH s 33 [(0, .ref 29), (1, .ref 25), (2, .ref 27), (3, .int v3), (5, .int v5)] []) : ∀ (j : Nat) (s : Sg) (v3 : Int32) (v5 : Int32) (v7 : Int32) (v8 : Int32), b_X3_readMonths_81 N K33 j s v3 v5 v7 v8 = some o → XW NM X 9 0 0 SH s 81 [(0, .ref 29), (1, .ref 25), (2, .ref 27), (3, .int v3), (5, .int v5), (7, .int v7), (8, .int v8)] [] := by
  intro j
  induction j with
  | zero => intro s v3 v5 v7 v8 hf; cases (show none = some o from hf)
  | succ j ih => intro s v3 v5 v7 v8 hf; exact w_X3_readMonths_81 C Rr hK33 ih s v3 v5 v7 v8 hf
def c_X3_readMonths_33 (N : Nat) (K33 : Sg → Int32 → Int32 → Option (Sg)) (s : Sg) (v3 : Int32) (v5 : Int32) : Option (Sg) :=
if v5 < 0 then
 some s
 else
 gd (!decide (((12:Int32)) = 0)) (lt_ ((v3 + v5) - (v3 + v5) / ((12:Int32)) * ((12:Int32))) (fun x1 => bd (f_X6_get 25 24 s x1 ((0:Int32))) (fun r3 s2 => gd (vi v5 6) (lt_ (sgu s2 30 v5.toNatClampNeg r3) (fun s4 => bd (f_X6_get 25 24 s4 x1 ((1:Int32))) (fun r6 s5 => gd (vi v5 6) (lt_ (sgu s5 31 v5.toNatClampNeg r6) (fun s7 => b_X3_readMonths_81 N K33 N s7 v3 v5 ((0:Int32)) ((0:Int32))))))))))
set_option maxHeartbeats 4000000 in
set_option maxRecDepth 100000 in
theorem w_X3_readMonths_33 {X : Ctx} {N : Nat} {o : Sg} (C : Cx NM X cX3_readMonths 9 RX3 (ws_X3_readMonths) none rm_X3_readMonths) (Rr : Rx NM X 0 0 none SH o) {K33 : Sg → Int32 → Int32 → Option (Sg)} (hK33 : ∀ (s : Sg) (v3 : Int32) (v5 : Int32), K33 s v3 v5 = some o → XW NM X 9 0 0 SH s 33 [(0, .ref 29), (1, .ref 25), (2, .ref 27), (3, .int v3), (5, .int v5)] []) (s : Sg) (v3 : Int32) (v5 : Int32) (hf : c_X3_readMonths_33 N K33 s v3 v5 = some o) : XW NM X 9 0 0 SH s 33 [(0, .ref 29), (1, .ref 25), (2, .ref 27), (3, .int v3), (5, .int v5)] [] := by
  unfold c_X3_readMonths_33 at hf
  refine X_iload C 4 dX3_readMonths_33 rfl ?_
  refine X_if_lt (tgt := 144) C dX3_readMonths_35 (by decide) hf (fun hf => ?_) (fun hf => ?_)
  · exact X_vret C dX3_readMonths_144 hf Rr
  · refine X_iload_n C 3 dX3_readMonths_38 rfl rfl ?_
    refine X_iload C 4 dX3_readMonths_39 rfl ?_
    refine X_iadd C dX3_readMonths_41 ?_
    refine X_bipush (v := (12:Int32)) C dX3_readMonths_42 (by decide) ?_
    refine X_irem C dX3_readMonths_44 hf (fun hf => ?_)
    refine X_nm hf (fun x1 hf => ?_)
    refine X_istore (L' := [(0, .ref 29), (1, .ref 25), (2, .ref 27), (3, .int v3), (5, .int v5), (6, .int x1)]) C [1, 2, 3, 4, 5, 0] dX3_readMonths_45 (by decide) rfl ?_
    refine X_aload_n C 0 dX3_readMonths_47 rfl rfl ?_
    refine X_getr C 0 sh_29 nc_3 inM_3 (by decide) (mc wd_50) rfl dX3_readMonths_48 ?_
    refine X_iload C 4 dX3_readMonths_51 rfl ?_
    refine X_aload_n C 1 dX3_readMonths_53 rfl rfl ?_
    refine X_iload C 5 dX3_readMonths_54 rfl ?_
    refine X_iconst (v := (0:Int32)) C dX3_readMonths_56 (by decide) ?_
    refine X_callVi (As := [.int x1, .int ((0:Int32))]) (rest := [.int v5, .ref 30]) C aw_ok mcs lk_X3_49 sh_25 nc_6 (by decide) rfl rfl (Nat.le_of_ble_eq_true rfl) dX3_readMonths_57 hf (fun r s h => k_X6_get sh_25 sh_26 _ _ _ (r, s) h) (fun r3 s2 hf => ?_)
    refine X_iast C sh_30 dX3_readMonths_60 hf (fun s4 hf => ?_)
    refine X_aload_n C 0 dX3_readMonths_61 rfl rfl ?_
    refine X_getr C 1 sh_29 nc_3 inM_3 (by decide) (mc wd_51) rfl dX3_readMonths_62 ?_
    refine X_iload C 4 dX3_readMonths_65 rfl ?_
    refine X_aload_n C 1 dX3_readMonths_67 rfl rfl ?_
    refine X_iload C 5 dX3_readMonths_68 rfl ?_
    refine X_iconst (v := (1:Int32)) C dX3_readMonths_70 (by decide) ?_
    refine X_callVi (As := [.int x1, .int ((1:Int32))]) (rest := [.int v5, .ref 31]) C aw_ok mcs lk_X3_49 sh_25 nc_6 (by decide) rfl rfl (Nat.le_of_ble_eq_true rfl) dX3_readMonths_71 hf (fun r s h => k_X6_get sh_25 sh_26 _ _ _ (r, s) h) (fun r6 s5 hf => ?_)
    refine X_iast C sh_31 dX3_readMonths_74 hf (fun s7 hf => ?_)
    refine X_iconst (v := (0:Int32)) C dX3_readMonths_75 (by decide) ?_
    refine X_istore (L' := [(0, .ref 29), (1, .ref 25), (2, .ref 27), (3, .int v3), (5, .int v5), (6, .int x1), (7, .int ((0:Int32)))]) C [1, 2, 3, 4, 5, 6, 0] dX3_readMonths_76 (by decide) rfl ?_
    refine X_iconst (v := (0:Int32)) C dX3_readMonths_78 (by decide) ?_
    refine X_istore (L' := [(0, .ref 29), (1, .ref 25), (2, .ref 27), (3, .int v3), (5, .int v5), (6, .int x1), (7, .int ((0:Int32))), (8, .int ((0:Int32)))]) C [1, 2, 3, 4, 5, 6, 7, 0] dX3_readMonths_79 (by decide) rfl ?_
    refine X_loc (L' := [(0, .ref 29), (1, .ref 25), (2, .ref 27), (3, .int v3), (5, .int v5), (7, .int ((0:Int32))), (8, .int ((0:Int32)))]) [0, 1, 2, 3, 4, 6, 7] rfl ?_
    exact h_X3_readMonths_81 C Rr hK33 _ _ _ _ _ _ hf
def b_X3_readMonths_33 (N : Nat) : Nat → Sg → Int32 → Int32 → Option (Sg)
  | 0, _, _, _ => none
  | j + 1, s, v3, v5 => c_X3_readMonths_33 N (b_X3_readMonths_33 N j) s v3 v5
theorem h_X3_readMonths_33 {X : Ctx} {N : Nat} {o : Sg} (C : Cx NM X cX3_readMonths 9 RX3 (ws_X3_readMonths) none rm_X3_readMonths) (Rr : Rx NM X 0 0 none SH o) : ∀ (j : Nat) (s : Sg) (v3 : Int32) (v5 : Int32), b_X3_readMonths_33 N j s v3 v5 = some o → XW NM X 9 0 0 SH s 33 [(0, .ref 29), (1, .ref 25), (2, .ref 27), (3, .int v3), (5, .int v5)] [] := by
  intro j
  induction j with
  | zero => intro s v3 v5 hf; cases (show none = some o from hf)
  | succ j ih => intro s v3 v5 hf; exact w_X3_readMonths_33 C Rr ih s v3 v5 hf
def c_X3_readMonths_0 (N : Nat) (s : Sg) (v3 : Int32) (v4 : Int32) : Option (Sg) :=
lt_ (sgu s 29 6 ((if ((0:Int32)) < ((if v4 < ((6:Int32)) then v4 else ((6:Int32)))) then ((if v4 < ((6:Int32)) then v4 else ((6:Int32)))) else ((0:Int32))))) (fun s1 => gd (vi (s1 29 6) 7) (lt_ (sgu s1 32 (s1 29 6).toNatClampNeg ((0:Int32))) (fun s2 => lt_ ((s2 29 6) - ((1:Int32))) (fun x3 => b_X3_readMonths_33 N N s2 v3 x3))))
set_option maxHeartbeats 4000000 in
set_option maxRecDepth 100000 in
theorem w_X3_readMonths_0 {X : Ctx} {N : Nat} {o : Sg} (C : Cx NM X cX3_readMonths 9 RX3 (ws_X3_readMonths) none rm_X3_readMonths) (Rr : Rx NM X 0 0 none SH o) (s : Sg) (v3 : Int32) (v4 : Int32) (hf : c_X3_readMonths_0 N s v3 v4 = some o) : XW NM X 9 0 0 SH s 0 [(0, .ref 29), (1, .ref 25), (2, .ref 27), (3, .int v3), (4, .int v4)] [] := by
  unfold c_X3_readMonths_0 at hf
  refine X_aload_n C 0 dX3_readMonths_0 rfl rfl ?_
  refine X_iconst (v := (0:Int32)) C dX3_readMonths_1 (by decide) ?_
  refine X_bipush (v := (6:Int32)) C dX3_readMonths_2 (by decide) ?_
  refine X_iload C 4 dX3_readMonths_4 rfl ?_
  refine X_mmin C (mc wd_46) (mc wd_8) (mc wd_9) (mc wd_10) ⟨Nat.le_of_ble_eq_true rfl, Nat.le_of_ble_eq_true rfl, Nat.zero_le _, Nat.zero_le _⟩ dX3_readMonths_6 ?_
  refine X_mmax C (mc wd_47) (mc wd_19) (mc wd_9) (mc wd_20) ⟨Nat.le_of_ble_eq_true rfl, Nat.le_of_ble_eq_true rfl, Nat.zero_le _, Nat.zero_le _⟩ dX3_readMonths_9 ?_
  refine X_puti C 6 sh_29 nc_3 inM_3 (by decide) tyX3 tyX3_ok nmX3 (mc wd_48) rfl (by decide +kernel) rfl dX3_readMonths_12 hf (fun s1 hf => ?_)
  refine X_aload_n C 0 dX3_readMonths_15 rfl rfl ?_
  refine X_getr C 2 sh_29 nc_3 inM_3 (by decide) (mc wd_49) rfl dX3_readMonths_16 ?_
  refine X_aload_n C 0 dX3_readMonths_19 rfl rfl ?_
  refine X_geti C 6 sh_29 nc_3 inM_3 (by decide) (mc wd_48) rfl dX3_readMonths_20 ?_
  refine X_iconst (v := (0:Int32)) C dX3_readMonths_23 (by decide) ?_
  refine X_iast C sh_32 dX3_readMonths_24 hf (fun s2 hf => ?_)
  refine X_aload_n C 0 dX3_readMonths_25 rfl rfl ?_
  refine X_geti C 6 sh_29 nc_3 inM_3 (by decide) (mc wd_48) rfl dX3_readMonths_26 ?_
  refine X_iconst (v := (1:Int32)) C dX3_readMonths_29 (by decide) ?_
  refine X_isub C dX3_readMonths_30 ?_
  refine X_nm hf (fun x3 hf => ?_)
  refine X_istore (L' := [(0, .ref 29), (1, .ref 25), (2, .ref 27), (3, .int v3), (4, .int v4), (5, .int x3)]) C [1, 2, 3, 4, 5, 0] dX3_readMonths_31 (by decide) rfl ?_
  refine X_loc (L' := [(0, .ref 29), (1, .ref 25), (2, .ref 27), (3, .int v3), (5, .int x3)]) [0, 1, 2, 3, 5] rfl ?_
  exact h_X3_readMonths_33 C Rr _ _ _ _ hf
def f_X3_readMonths (N : Nat) (s : Sg) (v3 : Int32) (v4 : Int32) : Option (Sg) := c_X3_readMonths_0 N s v3 v4
theorem k_X3_readMonths {N : Nat} (s : Sg) (v3 : Int32) (v4 : Int32) (o : Sg) (hf : f_X3_readMonths N s v3 v4 = some o) : Ctr NM yX3_readMonths (ws_X3_readMonths) rm_X3_readMonths SH s [.ref 29, .ref 25, .ref 27, .int v3, .int v4] none o :=
  Ctr.of (by decide) rfl (Nat.le_of_ble_eq_true rfl) (fun X C Rr => by show XW NM X 9 0 0 SH s 0 [(0, .ref 29), (1, .ref 25), (2, .ref 27), (3, .int v3), (4, .int v4)] []; exact w_X3_readMonths_0 C Rr s v3 v4 hf)
abbrev ws_X3_goOn : List Cond := Cond.code yX3_goOn cX3_goOn 10 none :: AW
def HZ_X3_goOn (dd : Nat) (Z : Sg → Int32 → Int32 → Int32 → Int32 → Option (Sg)) : Prop := ∀ (s : Sg) (v2 : Int32) (v3 : Int32) (v4 : Int32) (v5 : Int32) (o : Sg), Z s v2 v3 v4 v5 = some o → Ctr NM yX3_goOn (ws_X3_goOn) (rmR dd) SH s [.ref 29, .ref 27, .int v2, .int v3, .int v4, .int v5] none o
def c_X3_goOn_165 (N : Nat) (Z : Sg → Int32 → Int32 → Int32 → Int32 → Option (Sg)) (K82 : Sg → Int32 → Int32 → Int32 → Int32 → Int32 → Option (Sg)) (s : Sg) (v2 : Int32) (v3 : Int32) (v4 : Int32) (v6 : Int32) (v7 : Int32) : Option (Sg) :=
K82 s v2 v3 v4 v6 (v7 + (1:Int32))
set_option maxHeartbeats 4000000 in
set_option maxRecDepth 100000 in
theorem w_X3_goOn_165 {X : Ctx} {N : Nat} {dd : Nat} {Z : Sg → Int32 → Int32 → Int32 → Int32 → Option (Sg)} (hZ : HZ_X3_goOn dd Z) {o : Sg} (C : Cx NM X cX3_goOn 10 RX3 (ws_X3_goOn) none (rmR (dd + 1))) (Rr : Rx NM X 0 0 none SH o) {K82 : Sg → Int32 → Int32 → Int32 → Int32 → Int32 → Option (Sg)} (hK82 : ∀ (s : Sg) (v2 : Int32) (v3 : Int32) (v4 : Int32) (v6 : Int32) (v7 : Int32), K82 s v2 v3 v4 v6 v7 = some o → XW NM X 10 0 0 SH s 82 [(0, .ref 29), (1, .ref 27), (2, .int v2), (3, .int v3), (4, .int v4), (6, .int v6), (7, .int v7)] []) (s : Sg) (v2 : Int32) (v3 : Int32) (v4 : Int32) (v6 : Int32) (v7 : Int32) (hf : c_X3_goOn_165 N Z K82 s v2 v3 v4 v6 v7 = some o) : XW NM X 10 0 0 SH s 165 [(0, .ref 29), (1, .ref 27), (2, .int v2), (3, .int v3), (4, .int v4), (6, .int v6), (7, .int v7)] [] := by
  unfold c_X3_goOn_165 at hf
  refine X_iinc (v := (1:Int32)) (L' := [(0, .ref 29), (1, .ref 27), (2, .int v2), (3, .int v3), (4, .int v4), (6, .int v6), (7, .int (v7 + (1:Int32)))]) C 6 [1, 2, 3, 4, 5, 6, 0] dX3_goOn_165 rfl (by decide) (by decide) rfl ?_
  refine X_goto (tgt := 82) C dX3_goOn_168 (by decide) ?_
  exact hK82 _ _ _ _ _ _ hf
def c_X3_goOn_82 (N : Nat) (Z : Sg → Int32 → Int32 → Int32 → Int32 → Option (Sg)) (K82 : Sg → Int32 → Int32 → Int32 → Int32 → Int32 → Option (Sg)) (s : Sg) (v2 : Int32) (v3 : Int32) (v4 : Int32) (v6 : Int32) (v7 : Int32) : Option (Sg) :=
if ((5:Int32)) ≤ v7 then
 some s
 else
 gd (vi v2 6) (if (s 30 v2.toNatClampNeg) < v7 then
 some s
 else
 bd (f_X6_get 27 15 s v7 ((1:Int32))) (fun r2 s1 => lt_ (v4 - r2) (fun x3 => bd (f_X6_get 27 15 s1 v7 ((2:Int32))) (fun r5 s4 => lt_ (v6 - r5) (fun x6 => if x3 < 0 then
 c_X3_goOn_165 N Z K82 s4 v2 v3 v4 v6 v7
 else
 if 0 ≤ x6 then
 gd (vi v2 6) (lt_ (sgu s4 33 v2.toNatClampNeg v7) (fun s7 => bd (f_X6_get 27 15 s7 v7 ((0:Int32))) (fun r9 s8 => bdv (Z s8 (v2 + ((1:Int32))) (v3 + r9) x3 x6) (fun s10 => c_X3_goOn_165 N Z K82 s10 v2 v3 v4 v6 v7))))
 else
 c_X3_goOn_165 N Z K82 s4 v2 v3 v4 v6 v7)))))
set_option maxHeartbeats 4000000 in
set_option maxRecDepth 100000 in
theorem w_X3_goOn_82 {X : Ctx} {N : Nat} {dd : Nat} {Z : Sg → Int32 → Int32 → Int32 → Int32 → Option (Sg)} (hZ : HZ_X3_goOn dd Z) {o : Sg} (C : Cx NM X cX3_goOn 10 RX3 (ws_X3_goOn) none (rmR (dd + 1))) (Rr : Rx NM X 0 0 none SH o) {K82 : Sg → Int32 → Int32 → Int32 → Int32 → Int32 → Option (Sg)} (hK82 : ∀ (s : Sg) (v2 : Int32) (v3 : Int32) (v4 : Int32) (v6 : Int32) (v7 : Int32), K82 s v2 v3 v4 v6 v7 = some o → XW NM X 10 0 0 SH s 82 [(0, .ref 29), (1, .ref 27), (2, .int v2), (3, .int v3), (4, .int v4), (6, .int v6), (7, .int v7)] []) (s : Sg) (v2 : Int32) (v3 : Int32) (v4 : Int32) (v6 : Int32) (v7 : Int32) (hf : c_X3_goOn_82 N Z K82 s v2 v3 v4 v6 v7 = some o) : XW NM X 10 0 0 SH s 82 [(0, .ref 29), (1, .ref 27), (2, .int v2), (3, .int v3), (4, .int v4), (6, .int v6), (7, .int v7)] [] := by
  unfold c_X3_goOn_82 at hf
  refine X_iload C 6 dX3_goOn_82 rfl ?_
  refine X_iconst (v := (5:Int32)) C dX3_goOn_84 (by decide) ?_
  refine X_icmp_ge (tgt := 171) C dX3_goOn_85 (by decide) hf (fun hf => ?_) (fun hf => ?_)
  · exact X_vret C dX3_goOn_171 hf Rr
  · refine X_iload C 6 dX3_goOn_88 rfl ?_
    refine X_aload_n C 0 dX3_goOn_90 rfl rfl ?_
    refine X_getr C 0 sh_29 nc_3 inM_3 (by decide) (mc wd_50) rfl dX3_goOn_91 ?_
    refine X_iload_n C 2 dX3_goOn_94 rfl rfl ?_
    refine X_iald C sh_30 dX3_goOn_95 hf (fun hf => ?_)
    refine X_icmp_gt (tgt := 171) C dX3_goOn_96 (by decide) hf (fun hf => ?_) (fun hf => ?_)
    · exact X_vret C dX3_goOn_171 hf Rr
    · refine X_iload C 4 dX3_goOn_99 rfl ?_
      refine X_aload_n C 1 dX3_goOn_101 rfl rfl ?_
      refine X_iload C 6 dX3_goOn_102 rfl ?_
      refine X_iconst (v := (1:Int32)) C dX3_goOn_104 (by decide) ?_
      refine X_callVi (As := [.int v7, .int ((1:Int32))]) (rest := [.int v4]) C aw_ok mcs lk_X3_49 sh_27 nc_6 (by simp [rmR, rm_X6_get]; try omega) rfl rfl (Nat.le_of_ble_eq_true rfl) dX3_goOn_105 hf (fun r s h => k_X6_get sh_27 sh_28 _ _ _ (r, s) h) (fun r2 s1 hf => ?_)
      refine X_isub C dX3_goOn_108 ?_
      refine X_nm hf (fun x3 hf => ?_)
      refine X_istore (L' := [(0, .ref 29), (1, .ref 27), (2, .int v2), (3, .int v3), (4, .int v4), (6, .int v6), (7, .int v7), (8, .int x3)]) C [1, 2, 3, 4, 5, 6, 7, 0] dX3_goOn_109 (by decide) rfl ?_
      refine X_iload C 5 dX3_goOn_111 rfl ?_
      refine X_aload_n C 1 dX3_goOn_113 rfl rfl ?_
      refine X_iload C 6 dX3_goOn_114 rfl ?_
      refine X_iconst (v := (2:Int32)) C dX3_goOn_116 (by decide) ?_
      refine X_callVi (As := [.int v7, .int ((2:Int32))]) (rest := [.int v6]) C aw_ok mcs lk_X3_49 sh_27 nc_6 (by simp [rmR, rm_X6_get]; try omega) rfl rfl (Nat.le_of_ble_eq_true rfl) dX3_goOn_117 hf (fun r s h => k_X6_get sh_27 sh_28 _ _ _ (r, s) h) (fun r5 s4 hf => ?_)
      refine X_isub C dX3_goOn_120 ?_
      refine X_nm hf (fun x6 hf => ?_)
      refine X_istore (L' := [(0, .ref 29), (1, .ref 27), (2, .int v2), (3, .int v3), (4, .int v4), (6, .int v6), (7, .int v7), (8, .int x3), (9, .int x6)]) C [1, 2, 3, 4, 5, 6, 7, 8, 0] dX3_goOn_121 (by decide) rfl ?_
      refine X_iload C 7 dX3_goOn_123 rfl ?_
      refine X_if_lt (tgt := 165) C dX3_goOn_125 (by decide) hf (fun hf => ?_) (fun hf => ?_)
      · refine X_loc (L' := [(0, .ref 29), (1, .ref 27), (2, .int v2), (3, .int v3), (4, .int v4), (6, .int v6), (7, .int v7)]) [0, 1, 2, 3, 4, 5, 6] rfl ?_
        exact w_X3_goOn_165 hZ C Rr hK82 _ _ _ _ _ _ hf
      · refine X_iload C 8 dX3_goOn_128 rfl ?_
        refine X_if_ge (tgt := 136) C dX3_goOn_130 (by decide) hf (fun hf => ?_) (fun hf => ?_)
        · refine X_aload_n C 0 dX3_goOn_136 rfl rfl ?_
          refine X_getr C 3 sh_29 nc_3 inM_3 (by decide) (mc wd_53) rfl dX3_goOn_137 ?_
          refine X_iload_n C 2 dX3_goOn_140 rfl rfl ?_
          refine X_iload C 6 dX3_goOn_141 rfl ?_
          refine X_iast C sh_33 dX3_goOn_143 hf (fun s7 hf => ?_)
          refine X_aload_n C 0 dX3_goOn_144 rfl rfl ?_
          refine X_aload_n C 1 dX3_goOn_145 rfl rfl ?_
          refine X_iload_n C 2 dX3_goOn_146 rfl rfl ?_
          refine X_iconst (v := (1:Int32)) C dX3_goOn_147 (by decide) ?_
          refine X_iadd C dX3_goOn_148 ?_
          refine X_iload_n C 3 dX3_goOn_149 rfl rfl ?_
          refine X_aload_n C 1 dX3_goOn_150 rfl rfl ?_
          refine X_iload C 6 dX3_goOn_151 rfl ?_
          refine X_iconst (v := (0:Int32)) C dX3_goOn_153 (by decide) ?_
          refine X_callVi (As := [.int v7, .int ((0:Int32))]) (rest := [.int v3, .int (v2 + ((1:Int32))), .ref 27, .ref 29]) C aw_ok mcs lk_X3_49 sh_27 nc_6 (by simp [rmR, rm_X6_get]; try omega) rfl rfl (Nat.le_of_ble_eq_true rfl) dX3_goOn_154 hf (fun r s h => k_X6_get sh_27 sh_28 _ _ _ (r, s) h) (fun r9 s8 hf => ?_)
          refine X_iadd C dX3_goOn_157 ?_
          refine X_iload C 7 dX3_goOn_158 rfl ?_
          refine X_iload C 8 dX3_goOn_160 rfl ?_
          refine X_callSv (As := [.ref 29, .ref 27, .int (v2 + ((1:Int32))), .int (v3 + r9), .int x3, .int x6]) (rest := []) C aw_ok mcs lk_X3_54 (by simp [rmR]; try omega) rfl rfl (Nat.le_of_ble_eq_true rfl) dX3_goOn_162 hf (fun s h => hZ _ _ _ _ _ s h) (fun s10 hf => ?_)
          refine X_loc (L' := [(0, .ref 29), (1, .ref 27), (2, .int v2), (3, .int v3), (4, .int v4), (6, .int v6), (7, .int v7)]) [0, 1, 2, 3, 4, 5, 6] rfl ?_
          exact w_X3_goOn_165 hZ C Rr hK82 _ _ _ _ _ _ hf
        · refine X_goto (tgt := 165) C dX3_goOn_133 (by decide) ?_
          refine X_loc (L' := [(0, .ref 29), (1, .ref 27), (2, .int v2), (3, .int v3), (4, .int v4), (6, .int v6), (7, .int v7)]) [0, 1, 2, 3, 4, 5, 6] rfl ?_
          exact w_X3_goOn_165 hZ C Rr hK82 _ _ _ _ _ _ hf
def b_X3_goOn_82 (N : Nat) (Z : Sg → Int32 → Int32 → Int32 → Int32 → Option (Sg)) : Nat → Sg → Int32 → Int32 → Int32 → Int32 → Int32 → Option (Sg)
  | 0, _, _, _, _, _, _ => none
  | j + 1, s, v2, v3, v4, v6, v7 => c_X3_goOn_82 N Z (b_X3_goOn_82 N Z j) s v2 v3 v4 v6 v7
theorem h_X3_goOn_82 {X : Ctx} {N : Nat} {dd : Nat} {Z : Sg → Int32 → Int32 → Int32 → Int32 → Option (Sg)} (hZ : HZ_X3_goOn dd Z) {o : Sg} (C : Cx NM X cX3_goOn 10 RX3 (ws_X3_goOn) none (rmR (dd + 1))) (Rr : Rx NM X 0 0 none SH o) : ∀ (j : Nat) (s : Sg) (v2 : Int32) (v3 : Int32) (v4 : Int32) (v6 : Int32) (v7 : Int32), b_X3_goOn_82 N Z j s v2 v3 v4 v6 v7 = some o → XW NM X 10 0 0 SH s 82 [(0, .ref 29), (1, .ref 27), (2, .int v2), (3, .int v3), (4, .int v4), (6, .int v6), (7, .int v7)] [] := by
  intro j
  induction j with
  | zero => intro s v2 v3 v4 v6 v7 hf; cases (show none = some o from hf)
  | succ j ih => intro s v2 v3 v4 v6 v7 hf; exact w_X3_goOn_82 hZ C Rr ih s v2 v3 v4 v6 v7 hf
def c_X3_goOn_38 (N : Nat) (Z : Sg → Int32 → Int32 → Int32 → Int32 → Option (Sg)) (K38 : Sg → Int32 → Option (Sg)) (s : Sg) (v6 : Int32) : Option (Sg) :=
if (s 29 6) ≤ v6 then
 some s
 else
 gd (vi v6 6) (gd (vi v6 6) (lt_ (sgu s 34 v6.toNatClampNeg (s 33 v6.toNatClampNeg)) (fun s1 => K38 s1 (v6 + (1:Int32)))))
set_option maxHeartbeats 4000000 in
set_option maxRecDepth 100000 in
theorem w_X3_goOn_38 {X : Ctx} {N : Nat} {dd : Nat} {Z : Sg → Int32 → Int32 → Int32 → Int32 → Option (Sg)} (hZ : HZ_X3_goOn dd Z) {o : Sg} (C : Cx NM X cX3_goOn 10 RX3 (ws_X3_goOn) none (rmR (dd + 1))) (Rr : Rx NM X 0 0 none SH o) {K38 : Sg → Int32 → Option (Sg)} (hK38 : ∀ (s : Sg) (v6 : Int32), K38 s v6 = some o → XW NM X 10 0 0 SH s 38 [(0, .ref 29), (6, .int v6)] []) (s : Sg) (v6 : Int32) (hf : c_X3_goOn_38 N Z K38 s v6 = some o) : XW NM X 10 0 0 SH s 38 [(0, .ref 29), (6, .int v6)] [] := by
  unfold c_X3_goOn_38 at hf
  refine X_iload C 1 dX3_goOn_38 rfl ?_
  refine X_aload_n C 0 dX3_goOn_40 rfl rfl ?_
  refine X_geti C 6 sh_29 nc_3 inM_3 (by decide) (mc wd_48) rfl dX3_goOn_41 ?_
  refine X_icmp_ge (tgt := 67) C dX3_goOn_44 (by decide) hf (fun hf => ?_) (fun hf => ?_)
  · exact X_vret C dX3_goOn_67 hf Rr
  · refine X_aload_n C 0 dX3_goOn_47 rfl rfl ?_
    refine X_getr C 4 sh_29 nc_3 inM_3 (by decide) (mc wd_54) rfl dX3_goOn_48 ?_
    refine X_iload C 1 dX3_goOn_51 rfl ?_
    refine X_aload_n C 0 dX3_goOn_53 rfl rfl ?_
    refine X_getr C 3 sh_29 nc_3 inM_3 (by decide) (mc wd_53) rfl dX3_goOn_54 ?_
    refine X_iload C 1 dX3_goOn_57 rfl ?_
    refine X_iald C sh_33 dX3_goOn_59 hf (fun hf => ?_)
    refine X_iast C sh_34 dX3_goOn_60 hf (fun s1 hf => ?_)
    refine X_iinc (v := (1:Int32)) (L' := [(0, .ref 29), (6, .int (v6 + (1:Int32)))]) C 1 [1, 0] dX3_goOn_61 rfl (by decide) (by decide) rfl ?_
    refine X_goto (tgt := 38) C dX3_goOn_64 (by decide) ?_
    exact hK38 _ _ hf
def b_X3_goOn_38 (N : Nat) (Z : Sg → Int32 → Int32 → Int32 → Int32 → Option (Sg)) : Nat → Sg → Int32 → Option (Sg)
  | 0, _, _ => none
  | j + 1, s, v6 => c_X3_goOn_38 N Z (b_X3_goOn_38 N Z j) s v6
theorem h_X3_goOn_38 {X : Ctx} {N : Nat} {dd : Nat} {Z : Sg → Int32 → Int32 → Int32 → Int32 → Option (Sg)} (hZ : HZ_X3_goOn dd Z) {o : Sg} (C : Cx NM X cX3_goOn 10 RX3 (ws_X3_goOn) none (rmR (dd + 1))) (Rr : Rx NM X 0 0 none SH o) : ∀ (j : Nat) (s : Sg) (v6 : Int32), b_X3_goOn_38 N Z j s v6 = some o → XW NM X 10 0 0 SH s 38 [(0, .ref 29), (6, .int v6)] [] := by
  intro j
  induction j with
  | zero => intro s v6 hf; cases (show none = some o from hf)
  | succ j ih => intro s v6 hf; exact w_X3_goOn_38 hZ C Rr ih s v6 hf
def c_X3_goOn_0 (N : Nat) (Z : Sg → Int32 → Int32 → Int32 → Int32 → Option (Sg)) (s : Sg) (v2 : Int32) (v3 : Int32) (v4 : Int32) (v5 : Int32) : Option (Sg) :=
if ((6:Int32)) < v2 then
 some s
 else
 gd (vi v2 7) (if (s 29 7) < (v3 + (s 32 v2.toNatClampNeg)) then
 if v2 < (s 29 6) then
 gd (vi v2 6) (lt_ (v5 + (s 31 v2.toNatClampNeg)) (fun x1 => b_X3_goOn_82 N Z N s v2 v3 v4 x1 ((0:Int32))))
 else
 lt_ (sgu s 29 7 v3) (fun s2 => b_X3_goOn_38 N Z N s2 ((0:Int32)))
 else
 some s)
set_option maxHeartbeats 4000000 in
set_option maxRecDepth 100000 in
theorem w_X3_goOn_0 {X : Ctx} {N : Nat} {dd : Nat} {Z : Sg → Int32 → Int32 → Int32 → Int32 → Option (Sg)} (hZ : HZ_X3_goOn dd Z) {o : Sg} (C : Cx NM X cX3_goOn 10 RX3 (ws_X3_goOn) none (rmR (dd + 1))) (Rr : Rx NM X 0 0 none SH o) (s : Sg) (v2 : Int32) (v3 : Int32) (v4 : Int32) (v5 : Int32) (hf : c_X3_goOn_0 N Z s v2 v3 v4 v5 = some o) : XW NM X 10 0 0 SH s 0 [(0, .ref 29), (1, .ref 27), (2, .int v2), (3, .int v3), (4, .int v4), (5, .int v5)] [] := by
  unfold c_X3_goOn_0 at hf
  refine X_iload_n C 2 dX3_goOn_0 rfl rfl ?_
  refine X_bipush (v := (6:Int32)) C dX3_goOn_1 (by decide) ?_
  refine X_icmp_gt (tgt := 21) C dX3_goOn_3 (by decide) hf (fun hf => ?_) (fun hf => ?_)
  · exact X_vret C dX3_goOn_21 hf Rr
  · refine X_iload_n C 3 dX3_goOn_6 rfl rfl ?_
    refine X_aload_n C 0 dX3_goOn_7 rfl rfl ?_
    refine X_getr C 2 sh_29 nc_3 inM_3 (by decide) (mc wd_49) rfl dX3_goOn_8 ?_
    refine X_iload_n C 2 dX3_goOn_11 rfl rfl ?_
    refine X_iald C sh_32 dX3_goOn_12 hf (fun hf => ?_)
    refine X_iadd C dX3_goOn_13 ?_
    refine X_aload_n C 0 dX3_goOn_14 rfl rfl ?_
    refine X_geti C 7 sh_29 nc_3 inM_3 (by decide) (mc wd_52) rfl dX3_goOn_15 ?_
    refine X_icmp_gt (tgt := 22) C dX3_goOn_18 (by decide) hf (fun hf => ?_) (fun hf => ?_)
    · refine X_iload_n C 2 dX3_goOn_22 rfl rfl ?_
      refine X_aload_n C 0 dX3_goOn_23 rfl rfl ?_
      refine X_geti C 6 sh_29 nc_3 inM_3 (by decide) (mc wd_48) rfl dX3_goOn_24 ?_
      refine X_icmp_lt (tgt := 68) C dX3_goOn_27 (by decide) hf (fun hf => ?_) (fun hf => ?_)
      · refine X_iload C 5 dX3_goOn_68 rfl ?_
        refine X_aload_n C 0 dX3_goOn_70 rfl rfl ?_
        refine X_getr C 1 sh_29 nc_3 inM_3 (by decide) (mc wd_51) rfl dX3_goOn_71 ?_
        refine X_iload_n C 2 dX3_goOn_74 rfl rfl ?_
        refine X_iald C sh_31 dX3_goOn_75 hf (fun hf => ?_)
        refine X_iadd C dX3_goOn_76 ?_
        refine X_nm hf (fun x1 hf => ?_)
        refine X_istore (L' := [(0, .ref 29), (1, .ref 27), (2, .int v2), (3, .int v3), (4, .int v4), (5, .int v5), (6, .int x1)]) C [1, 2, 3, 4, 5, 6, 0] dX3_goOn_77 (by decide) rfl ?_
        refine X_iconst (v := (0:Int32)) C dX3_goOn_79 (by decide) ?_
        refine X_istore (L' := [(0, .ref 29), (1, .ref 27), (2, .int v2), (3, .int v3), (4, .int v4), (5, .int v5), (6, .int x1), (7, .int ((0:Int32)))]) C [1, 2, 3, 4, 5, 6, 7, 0] dX3_goOn_80 (by decide) rfl ?_
        refine X_loc (L' := [(0, .ref 29), (1, .ref 27), (2, .int v2), (3, .int v3), (4, .int v4), (6, .int x1), (7, .int ((0:Int32)))]) [0, 1, 2, 3, 4, 6, 7] rfl ?_
        exact h_X3_goOn_82 hZ C Rr _ _ _ _ _ _ _ hf
      · refine X_aload_n C 0 dX3_goOn_30 rfl rfl ?_
        refine X_iload_n C 3 dX3_goOn_31 rfl rfl ?_
        refine X_puti C 7 sh_29 nc_3 inM_3 (by decide) tyX3 tyX3_ok nmX3 (mc wd_52) rfl (by decide +kernel) rfl dX3_goOn_32 hf (fun s2 hf => ?_)
        refine X_iconst (v := (0:Int32)) C dX3_goOn_35 (by decide) ?_
        refine X_istore (L' := [(0, .ref 29), (1, .ref 27), (2, .int v2), (3, .int v3), (4, .int v4), (5, .int v5), (6, .int ((0:Int32)))]) C [1, 2, 3, 4, 5, 6, 0] dX3_goOn_36 (by decide) rfl ?_
        refine X_loc (L' := [(0, .ref 29), (6, .int ((0:Int32)))]) [0, 6] rfl ?_
        exact h_X3_goOn_38 hZ C Rr _ _ _ hf
    · exact X_vret C dX3_goOn_21 hf Rr
def f_X3_goOn (N : Nat) : Nat → Sg → Int32 → Int32 → Int32 → Int32 → Option (Sg)
  | 0, _, _, _, _, _ => none
  | j + 1, s, v2, v3, v4, v5 => c_X3_goOn_0 N (f_X3_goOn N j) s v2 v3 v4 v5
theorem k0_X3_goOn {N : Nat} : ∀ (dd : Nat), HZ_X3_goOn dd (f_X3_goOn N dd) := by
  intro dd
  induction dd with
  | zero => intro s v2 v3 v4 v5 o hf; cases (show none = some o from hf)
  | succ dd ih => intro s v2 v3 v4 v5 o hf; exact Ctr.of (by decide) rfl (Nat.le_of_ble_eq_true rfl) (fun X C Rr => by show XW NM X 10 0 0 SH s 0 [(0, .ref 29), (1, .ref 27), (2, .int v2), (3, .int v3), (4, .int v4), (5, .int v5)] []; exact w_X3_goOn_0 ih C Rr s v2 v3 v4 v5 hf)
theorem k_X3_goOn {N : Nat} (s : Sg) (v2 : Int32) (v3 : Int32) (v4 : Int32) (v5 : Int32) (o : Sg) (hf : f_X3_goOn N 12 s v2 v3 v4 v5 = some o) : Ctr NM yX3_goOn (ws_X3_goOn) (rmR 12) SH s [.ref 29, .ref 27, .int v2, .int v3, .int v4, .int v5] none o := k0_X3_goOn 12 s v2 v3 v4 v5 o hf
abbrev ws_X3_settle : List Cond := Cond.code yX3_settle cX3_settle 5 (some .int) :: AW
abbrev rm_X3_settle : Room := { frames := 41, cells := 0, slots := 0, locals := 1029 }
def c_X3_settle_35 (N : Nat) (K35 : Sg → Int32 → Option (Int32 × Sg)) (s : Sg) (v4 : Int32) : Option (Int32 × Sg) :=
if (s 29 6) ≤ v4 then
 some (s 29 7, s)
 else
 gd (vi v4 6) (gd (vi v4 6) (lt_ (sgu s 35 v4.toNatClampNeg (s 34 v4.toNatClampNeg)) (fun s1 => K35 s1 (v4 + (1:Int32)))))
set_option maxHeartbeats 4000000 in
set_option maxRecDepth 100000 in
theorem w_X3_settle_35 {X : Ctx} {N : Nat} {o : Int32 × Sg} (C : Cx NM X cX3_settle 5 RX3 (ws_X3_settle) (some .int) rm_X3_settle) (Rr : Rx NM X 0 0 (some (.int o.1)) SH o.2) {K35 : Sg → Int32 → Option (Int32 × Sg)} (hK35 : ∀ (s : Sg) (v4 : Int32), K35 s v4 = some o → XW NM X 5 0 0 SH s 35 [(0, .ref 29), (4, .int v4)] []) (s : Sg) (v4 : Int32) (hf : c_X3_settle_35 N K35 s v4 = some o) : XW NM X 5 0 0 SH s 35 [(0, .ref 29), (4, .int v4)] [] := by
  unfold c_X3_settle_35 at hf
  refine X_iload C 1 dX3_settle_35 rfl ?_
  refine X_aload_n C 0 dX3_settle_37 rfl rfl ?_
  refine X_geti C 6 sh_29 nc_3 inM_3 (by decide) (mc wd_48) rfl dX3_settle_38 ?_
  refine X_icmp_ge (tgt := 64) C dX3_settle_41 (by decide) hf (fun hf => ?_) (fun hf => ?_)
  · refine X_aload_n C 0 dX3_settle_64 rfl rfl ?_
    refine X_geti C 7 sh_29 nc_3 inM_3 (by decide) (mc wd_52) rfl dX3_settle_65 ?_
    exact X_iret C dX3_settle_68 hf Rr
  · refine X_aload_n C 0 dX3_settle_44 rfl rfl ?_
    refine X_getr C 5 sh_29 nc_3 inM_3 (by decide) (mc wd_56) rfl dX3_settle_45 ?_
    refine X_iload C 1 dX3_settle_48 rfl ?_
    refine X_aload_n C 0 dX3_settle_50 rfl rfl ?_
    refine X_getr C 4 sh_29 nc_3 inM_3 (by decide) (mc wd_54) rfl dX3_settle_51 ?_
    refine X_iload C 1 dX3_settle_54 rfl ?_
    refine X_iald C sh_34 dX3_settle_56 hf (fun hf => ?_)
    refine X_iast C sh_35 dX3_settle_57 hf (fun s1 hf => ?_)
    refine X_iinc (v := (1:Int32)) (L' := [(0, .ref 29), (4, .int (v4 + (1:Int32)))]) C 1 [1, 0] dX3_settle_58 rfl (by decide) (by decide) rfl ?_
    refine X_goto (tgt := 35) C dX3_settle_61 (by decide) ?_
    exact hK35 _ _ hf
def b_X3_settle_35 (N : Nat) : Nat → Sg → Int32 → Option (Int32 × Sg)
  | 0, _, _ => none
  | j + 1, s, v4 => c_X3_settle_35 N (b_X3_settle_35 N j) s v4
theorem h_X3_settle_35 {X : Ctx} {N : Nat} {o : Int32 × Sg} (C : Cx NM X cX3_settle 5 RX3 (ws_X3_settle) (some .int) rm_X3_settle) (Rr : Rx NM X 0 0 (some (.int o.1)) SH o.2) : ∀ (j : Nat) (s : Sg) (v4 : Int32), b_X3_settle_35 N j s v4 = some o → XW NM X 5 0 0 SH s 35 [(0, .ref 29), (4, .int v4)] [] := by
  intro j
  induction j with
  | zero => intro s v4 hf; cases (show none = some o from hf)
  | succ j ih => intro s v4 hf; exact w_X3_settle_35 C Rr ih s v4 hf
def c_X3_settle_0 (N : Nat) (s : Sg) (v2 : Int32) (v3 : Int32) : Option (Int32 × Sg) :=
lt_ (sgu s 29 7 ((-1:Int32))) (fun s1 => bdv (f_X3_goOn N 12 s1 ((0:Int32)) ((0:Int32)) v2 v3) (fun s2 => if (s2 29 7) = ((-1:Int32)) then
 some ((-1:Int32), s2)
 else
 lt_ (sgu s2 29 8 (s2 29 6)) (fun s4 => b_X3_settle_35 N N s4 ((0:Int32)))))
set_option maxHeartbeats 4000000 in
set_option maxRecDepth 100000 in
theorem w_X3_settle_0 {X : Ctx} {N : Nat} {o : Int32 × Sg} (C : Cx NM X cX3_settle 5 RX3 (ws_X3_settle) (some .int) rm_X3_settle) (Rr : Rx NM X 0 0 (some (.int o.1)) SH o.2) (s : Sg) (v2 : Int32) (v3 : Int32) (hf : c_X3_settle_0 N s v2 v3 = some o) : XW NM X 5 0 0 SH s 0 [(0, .ref 29), (1, .ref 27), (2, .int v2), (3, .int v3)] [] := by
  unfold c_X3_settle_0 at hf
  refine X_aload_n C 0 dX3_settle_0 rfl rfl ?_
  refine X_iconst (v := (-1:Int32)) C dX3_settle_1 (by decide) ?_
  refine X_puti C 7 sh_29 nc_3 inM_3 (by decide) tyX3 tyX3_ok nmX3 (mc wd_52) rfl (by decide +kernel) rfl dX3_settle_2 hf (fun s1 hf => ?_)
  refine X_aload_n C 0 dX3_settle_5 rfl rfl ?_
  refine X_aload_n C 1 dX3_settle_6 rfl rfl ?_
  refine X_iconst (v := (0:Int32)) C dX3_settle_7 (by decide) ?_
  refine X_iconst (v := (0:Int32)) C dX3_settle_8 (by decide) ?_
  refine X_iload_n C 2 dX3_settle_9 rfl rfl ?_
  refine X_iload_n C 3 dX3_settle_10 rfl rfl ?_
  refine X_callSv (As := [.ref 29, .ref 27, .int ((0:Int32)), .int ((0:Int32)), .int v2, .int v3]) (rest := []) C aw_ok mcs lk_X3_54 (by decide) rfl rfl (Nat.le_of_ble_eq_true rfl) dX3_settle_11 hf (fun s h => k_X3_goOn _ _ _ _ _ s h) (fun s2 hf => ?_)
  refine X_aload_n C 0 dX3_settle_14 rfl rfl ?_
  refine X_geti C 7 sh_29 nc_3 inM_3 (by decide) (mc wd_52) rfl dX3_settle_15 ?_
  refine X_iconst (v := (-1:Int32)) C dX3_settle_18 (by decide) ?_
  refine X_icmp_ne (tgt := 24) C dX3_settle_19 (by decide) hf (fun hf => ?_) (fun hf => ?_)
  · refine X_aload_n C 0 dX3_settle_24 rfl rfl ?_
    refine X_aload_n C 0 dX3_settle_25 rfl rfl ?_
    refine X_geti C 6 sh_29 nc_3 inM_3 (by decide) (mc wd_48) rfl dX3_settle_26 ?_
    refine X_puti C 8 sh_29 nc_3 inM_3 (by decide) tyX3 tyX3_ok nmX3 (mc wd_55) rfl (by decide +kernel) rfl dX3_settle_29 hf (fun s4 hf => ?_)
    refine X_iconst (v := (0:Int32)) C dX3_settle_32 (by decide) ?_
    refine X_istore (L' := [(0, .ref 29), (1, .ref 27), (2, .int v2), (3, .int v3), (4, .int ((0:Int32)))]) C [1, 2, 3, 4, 0] dX3_settle_33 (by decide) rfl ?_
    refine X_loc (L' := [(0, .ref 29), (4, .int ((0:Int32)))]) [0, 4] rfl ?_
    exact h_X3_settle_35 C Rr _ _ _ hf
  · refine X_iconst (v := (-1:Int32)) C dX3_settle_22 (by decide) ?_
    exact X_iret C dX3_settle_23 hf Rr
def f_X3_settle (N : Nat) (s : Sg) (v2 : Int32) (v3 : Int32) : Option (Int32 × Sg) := c_X3_settle_0 N s v2 v3
theorem k_X3_settle {N : Nat} (s : Sg) (v2 : Int32) (v3 : Int32) (o : Int32 × Sg) (hf : f_X3_settle N s v2 v3 = some o) : Ctr NM yX3_settle (ws_X3_settle) rm_X3_settle SH s [.ref 29, .ref 27, .int v2, .int v3] (some (.int o.1)) o.2 :=
  Ctr.of (by decide) rfl (Nat.le_of_ble_eq_true rfl) (fun X C Rr => by show XW NM X 5 0 0 SH s 0 [(0, .ref 29), (1, .ref 27), (2, .int v2), (3, .int v3)] []; exact w_X3_settle_0 C Rr s v2 v3 hf)
