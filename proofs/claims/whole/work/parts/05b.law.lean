def c_L_law_910 (N : Nat) (Ln : Nat) (xs : Nat → Int32) (K18 : Sg → Int32 → Option (Int32 × Sg)) (s : Sg) (v3 : Int32) : Option (Int32 × Sg) :=
K18 s (v3 + (5:Int32))
set_option maxHeartbeats 4000000 in
set_option maxRecDepth 100000 in
theorem w_L_law_910 {X : Ctx} {N Ln : Nat} {xs : Nat → Int32} {o : Int32 × Sg} (C : Cx NM X cL_law 4 RL AW (some .boolean) room_1) (LX : Lx X Ln xs) (LZ : Lz X) (ho : o.1 = 1) {K18 : Sg → Int32 → Option (Int32 × Sg)} (hK18 : ∀ (s : Sg) (v3 : Int32), K18 s v3 = some o → XW NM X 4 69 6753 SH s 18 [(0, .ref 1000), (1, .ref 0), (2, .ref 36), (3, .int v3)] []) (s : Sg) (v3 : Int32) (hf : c_L_law_910 N Ln xs K18 s v3 = some o) : XW NM X 4 69 6753 SH s 910 [(0, .ref 1000), (1, .ref 0), (2, .ref 36), (3, .int v3)] [] := by
  unfold c_L_law_910 at hf
  refine X_iinc (v := (5:Int32)) (L' := [(0, .ref 1000), (1, .ref 0), (2, .ref 36), (3, .int (v3 + (5:Int32)))]) C 3 [1, 2, 3, 0] dL_law_910 rfl (by decide) (by decide) rfl ?_
  refine X_goto (tgt := 18) C dL_law_913 (by decide) ?_
  exact hK18 _ _ hf
def c_L_law_601 (N : Nat) (Ln : Nat) (xs : Nat → Int32) (K18 : Sg → Int32 → Option (Int32 × Sg)) (s : Sg) (v3 : Int32) (u0 : Int32) (u2 : Int32) (u3 : Int32) : Option (Int32 × Sg) :=
gd (vi (v3 + ((3:Int32))) Ln) (gd (vi (v3 + ((4:Int32))) Ln) (bd (f_X8_rule s u2 u3 (xs (v3 + ((3:Int32))).toNatClampNeg) (xs (v3 + ((4:Int32))).toNatClampNeg)) (fun r2 s1 => if u0 = r2 then
 c_L_law_910 N Ln xs K18 s1 v3
 else
 gd (bz ((0:Int32))) (some ((0:Int32), s1)))))
set_option maxHeartbeats 4000000 in
set_option maxRecDepth 100000 in
theorem w_L_law_601 {X : Ctx} {N Ln : Nat} {xs : Nat → Int32} {o : Int32 × Sg} (C : Cx NM X cL_law 4 RL AW (some .boolean) room_1) (LX : Lx X Ln xs) (LZ : Lz X) (ho : o.1 = 1) {K18 : Sg → Int32 → Option (Int32 × Sg)} (hK18 : ∀ (s : Sg) (v3 : Int32), K18 s v3 = some o → XW NM X 4 69 6753 SH s 18 [(0, .ref 1000), (1, .ref 0), (2, .ref 36), (3, .int v3)] []) (s : Sg) (v3 : Int32) (u0 : Int32) (u2 : Int32) (u3 : Int32) (hf : c_L_law_601 N Ln xs K18 s v3 u0 u2 u3 = some o) : XW NM X 4 69 6753 SH s 601 [(0, .ref 1000), (1, .ref 0), (2, .ref 36), (3, .int v3)] [.int u3, .int u2, .ref 36, .int u0] := by
  unfold c_L_law_601 at hf
  refine X_aload_n C 0 dL_law_601 rfl rfl ?_
  refine X_iload_n C 3 dL_law_602 rfl rfl ?_
  refine X_iconst (v := (3:Int32)) C dL_law_603 (by decide) ?_
  refine X_iadd C dL_law_604 ?_
  refine X_sld C LX dL_law_605 hf (fun hf => ?_)
  refine X_aload_n C 0 dL_law_606 rfl rfl ?_
  refine X_iload_n C 3 dL_law_607 rfl rfl ?_
  refine X_iconst (v := (4:Int32)) C dL_law_608 (by decide) ?_
  refine X_iadd C dL_law_609 ?_
  refine X_sld C LX dL_law_610 hf (fun hf => ?_)
  refine X_callVi (As := [.int u2, .int u3, .int (xs (v3 + ((3:Int32))).toNatClampNeg), .int (xs (v3 + ((4:Int32))).toNatClampNeg)]) (rest := [.int u0]) C aw_ok (fun _ h => h) lk_L_77 sh_36 nc_8 (by decide) rfl rfl (Nat.le_of_ble_eq_true rfl) dL_law_611 hf (fun r s h => k_X8_rule _ _ _ _ _ (r, s) h) (fun r2 s1 hf => ?_)
  refine X_icmp_eq (tgt := 910) C dL_law_614 (by decide) hf (fun hf => ?_) (fun hf => ?_)
  · exact w_L_law_910 C LX LZ ho hK18 _ _ hf
  · refine X_iconst (v := (0:Int32)) C dL_law_617 (by decide) ?_
    exact X_lwr C LZ dL_law_618 hf ho
def c_L_law_569 (N : Nat) (Ln : Nat) (xs : Nat → Int32) (K18 : Sg → Int32 → Option (Int32 × Sg)) (s : Sg) (v3 : Int32) (u1 : Int32) (u2 : Int32) : Option (Int32 × Sg) :=
gd (vi (v3 + ((3:Int32))) Ln) (gd (vi (v3 + ((4:Int32))) Ln) (bd (f_X7_rule s u1 u2 (xs (v3 + ((3:Int32))).toNatClampNeg) (xs (v3 + ((4:Int32))).toNatClampNeg)) (fun r2 s1 => gd (vi (v3 + ((1:Int32))) Ln) (gd (vi (v3 + ((2:Int32))) Ln) (if (xs (v3 + ((2:Int32))).toNatClampNeg) = 0 then
 c_L_law_601 N Ln xs K18 s1 v3 r2 (xs (v3 + ((1:Int32))).toNatClampNeg) ((0:Int32))
 else
 c_L_law_601 N Ln xs K18 s1 v3 r2 (xs (v3 + ((1:Int32))).toNatClampNeg) ((1:Int32)))))))
set_option maxHeartbeats 4000000 in
set_option maxRecDepth 100000 in
theorem w_L_law_569 {X : Ctx} {N Ln : Nat} {xs : Nat → Int32} {o : Int32 × Sg} (C : Cx NM X cL_law 4 RL AW (some .boolean) room_1) (LX : Lx X Ln xs) (LZ : Lz X) (ho : o.1 = 1) {K18 : Sg → Int32 → Option (Int32 × Sg)} (hK18 : ∀ (s : Sg) (v3 : Int32), K18 s v3 = some o → XW NM X 4 69 6753 SH s 18 [(0, .ref 1000), (1, .ref 0), (2, .ref 36), (3, .int v3)] []) (s : Sg) (v3 : Int32) (u1 : Int32) (u2 : Int32) (hf : c_L_law_569 N Ln xs K18 s v3 u1 u2 = some o) : XW NM X 4 69 6753 SH s 569 [(0, .ref 1000), (1, .ref 0), (2, .ref 36), (3, .int v3)] [.int u2, .int u1, .ref 0] := by
  unfold c_L_law_569 at hf
  refine X_aload_n C 0 dL_law_569 rfl rfl ?_
  refine X_iload_n C 3 dL_law_570 rfl rfl ?_
  refine X_iconst (v := (3:Int32)) C dL_law_571 (by decide) ?_
  refine X_iadd C dL_law_572 ?_
  refine X_sld C LX dL_law_573 hf (fun hf => ?_)
  refine X_aload_n C 0 dL_law_574 rfl rfl ?_
  refine X_iload_n C 3 dL_law_575 rfl rfl ?_
  refine X_iconst (v := (4:Int32)) C dL_law_576 (by decide) ?_
  refine X_iadd C dL_law_577 ?_
  refine X_sld C LX dL_law_578 hf (fun hf => ?_)
  refine X_callVi (As := [.int u1, .int u2, .int (xs (v3 + ((3:Int32))).toNatClampNeg), .int (xs (v3 + ((4:Int32))).toNatClampNeg)]) (rest := []) C aw_ok (fun _ h => h) lk_L_73 sh_0 nc_7 (by decide) rfl rfl (Nat.le_of_ble_eq_true rfl) dL_law_579 hf (fun r s h => k_X7_rule _ _ _ _ _ (r, s) h) (fun r2 s1 hf => ?_)
  refine X_aload_n C 2 dL_law_582 rfl rfl ?_
  refine X_aload_n C 0 dL_law_583 rfl rfl ?_
  refine X_iload_n C 3 dL_law_584 rfl rfl ?_
  refine X_iconst (v := (1:Int32)) C dL_law_585 (by decide) ?_
  refine X_iadd C dL_law_586 ?_
  refine X_sld C LX dL_law_587 hf (fun hf => ?_)
  refine X_aload_n C 0 dL_law_588 rfl rfl ?_
  refine X_iload_n C 3 dL_law_589 rfl rfl ?_
  refine X_iconst (v := (2:Int32)) C dL_law_590 (by decide) ?_
  refine X_iadd C dL_law_591 ?_
  refine X_sld C LX dL_law_592 hf (fun hf => ?_)
  refine X_if_eq (tgt := 600) C dL_law_593 (by decide) hf (fun hf => ?_) (fun hf => ?_)
  · refine X_iconst (v := (0:Int32)) C dL_law_600 (by decide) ?_
    exact w_L_law_601 C LX LZ ho hK18 _ _ _ _ _ hf
  · refine X_iconst (v := (1:Int32)) C dL_law_596 (by decide) ?_
    refine X_goto (tgt := 601) C dL_law_597 (by decide) ?_
    exact w_L_law_601 C LX LZ ho hK18 _ _ _ _ _ hf
def c_L_law_18 (N : Nat) (Ln : Nat) (xs : Nat → Int32) (K18 : Sg → Int32 → Option (Int32 × Sg)) (s : Sg) (v3 : Int32) : Option (Int32 × Sg) :=
if ((Int32.ofNat Ln) - ((5:Int32))) < v3 then
 gd (bz ((1:Int32))) (some ((1:Int32), s))
 else
 gd (vi v3 Ln) (lt_ ((xs v3.toNatClampNeg) &&& ((31:Int32))) (fun x1 => if x1 = (0:Int32) then
 gd (vi (v3 + ((1:Int32))) Ln) (gd (vi (v3 + ((2:Int32))) Ln) (bd (f_X7_buy s (xs (v3 + ((1:Int32))).toNatClampNeg) (xs (v3 + ((2:Int32))).toNatClampNeg)) (fun r3 s2 => gd (vi (v3 + ((1:Int32))) Ln) (gd (vi (v3 + ((2:Int32))) Ln) (bd (f_X8_buy s2 (xs (v3 + ((1:Int32))).toNatClampNeg) (xs (v3 + ((2:Int32))).toNatClampNeg)) (fun r5 s4 => if r3 = r5 then
 c_L_law_910 N Ln xs K18 s4 v3
 else
 gd (bz ((0:Int32))) (some ((0:Int32), s4))))))))
 else if x1 = (1:Int32) then
 gd (vi (v3 + ((1:Int32))) Ln) (gd (vi (v3 + ((2:Int32))) Ln) (bd (f_X7_rich s (xs (v3 + ((1:Int32))).toNatClampNeg) (xs (v3 + ((2:Int32))).toNatClampNeg)) (fun r7 s6 => gd (vi (v3 + ((1:Int32))) Ln) (gd (vi (v3 + ((2:Int32))) Ln) (bd (f_X8_rich s6 (xs (v3 + ((1:Int32))).toNatClampNeg) (xs (v3 + ((2:Int32))).toNatClampNeg)) (fun r9 s8 => if r7 = r9 then
 c_L_law_910 N Ln xs K18 s8 v3
 else
 gd (bz ((0:Int32))) (some ((0:Int32), s8))))))))
 else if x1 = (2:Int32) then
 gd (vi (v3 + ((1:Int32))) Ln) (gd (vi (v3 + ((2:Int32))) Ln) (gd (vi (v3 + ((3:Int32))) Ln) (gd (vi (v3 + ((4:Int32))) Ln) (bd (f_X7_charge s (xs (v3 + ((1:Int32))).toNatClampNeg) (xs (v3 + ((2:Int32))).toNatClampNeg) (xs (v3 + ((3:Int32))).toNatClampNeg) (xs (v3 + ((4:Int32))).toNatClampNeg)) (fun r11 s10 => gd (vi (v3 + ((1:Int32))) Ln) (gd (vi (v3 + ((2:Int32))) Ln) (gd (vi (v3 + ((3:Int32))) Ln) (gd (vi (v3 + ((4:Int32))) Ln) (bd (f_X8_charge s10 (xs (v3 + ((1:Int32))).toNatClampNeg) (xs (v3 + ((2:Int32))).toNatClampNeg) (xs (v3 + ((3:Int32))).toNatClampNeg) (xs (v3 + ((4:Int32))).toNatClampNeg)) (fun r13 s12 => if r11 = r13 then
 c_L_law_910 N Ln xs K18 s12 v3
 else
 gd (bz ((0:Int32))) (some ((0:Int32), s12))))))))))))
 else if x1 = (3:Int32) then
 gd (vi (v3 + ((1:Int32))) Ln) (gd (vi (v3 + ((2:Int32))) Ln) (bd (f_X7_chargeAt s (xs (v3 + ((1:Int32))).toNatClampNeg) (xs (v3 + ((2:Int32))).toNatClampNeg)) (fun r15 s14 => gd (vi (v3 + ((1:Int32))) Ln) (gd (vi (v3 + ((2:Int32))) Ln) (bd (f_X8_chargeAt s14 (xs (v3 + ((1:Int32))).toNatClampNeg) (xs (v3 + ((2:Int32))).toNatClampNeg)) (fun r17 s16 => if r15 = r17 then
 c_L_law_910 N Ln xs K18 s16 v3
 else
 gd (bz ((0:Int32))) (some ((0:Int32), s16))))))))
 else if x1 = (4:Int32) then
 gd (vi (v3 + ((1:Int32))) Ln) (bd (f_X7_when N s (xs (v3 + ((1:Int32))).toNatClampNeg)) (fun r19 s18 => gd (vi (v3 + ((1:Int32))) Ln) (bd (f_X8_when N s18 (xs (v3 + ((1:Int32))).toNatClampNeg)) (fun r21 s20 => if r19 = r21 then
 c_L_law_910 N Ln xs K18 s20 v3
 else
 gd (bz ((0:Int32))) (some ((0:Int32), s20))))))
 else if x1 = (5:Int32) then
 gd (vi (v3 + ((1:Int32))) Ln) (bd (f_X7_blast s (xs (v3 + ((1:Int32))).toNatClampNeg)) (fun r23 s22 => gd (vi (v3 + ((1:Int32))) Ln) (bd (f_X8_blast s22 (xs (v3 + ((1:Int32))).toNatClampNeg)) (fun r25 s24 => if r23 = r25 then
 c_L_law_910 N Ln xs K18 s24 v3
 else
 gd (bz ((0:Int32))) (some ((0:Int32), s24))))))
 else if x1 = (6:Int32) then
 gd (vi (v3 + ((1:Int32))) Ln) (gd (vi (v3 + ((2:Int32))) Ln) (bd (f_X7_hearth s (xs (v3 + ((1:Int32))).toNatClampNeg) (xs (v3 + ((2:Int32))).toNatClampNeg)) (fun r27 s26 => gd (vi (v3 + ((1:Int32))) Ln) (gd (vi (v3 + ((2:Int32))) Ln) (bd (f_X8_hearth s26 (xs (v3 + ((1:Int32))).toNatClampNeg) (xs (v3 + ((2:Int32))).toNatClampNeg)) (fun r29 s28 => if r27 = r29 then
 c_L_law_910 N Ln xs K18 s28 v3
 else
 gd (bz ((0:Int32))) (some ((0:Int32), s28))))))))
 else if x1 = (7:Int32) then
 gd (vi (v3 + ((1:Int32))) Ln) (bd (f_X7_tick N s (xs (v3 + ((1:Int32))).toNatClampNeg)) (fun r31 s30 => gd (vi (v3 + ((1:Int32))) Ln) (bd (f_X8_tick N s30 (xs (v3 + ((1:Int32))).toNatClampNeg)) (fun r33 s32 => if r31 = r33 then
 c_L_law_910 N Ln xs K18 s32 v3
 else
 gd (bz ((0:Int32))) (some ((0:Int32), s32))))))
 else if x1 = (8:Int32) then
 bd (f_X7_tap s) (fun r35 s34 => bd (f_X8_tap s34) (fun r37 s36 => if r35 = r37 then
 c_L_law_910 N Ln xs K18 s36 v3
 else
 gd (bz ((0:Int32))) (some ((0:Int32), s36))))
 else if x1 = (9:Int32) then
 gd (vi (v3 + ((1:Int32))) Ln) (bd (f_X7_about s (xs (v3 + ((1:Int32))).toNatClampNeg)) (fun r39 s38 => gd (vi (v3 + ((1:Int32))) Ln) (bd (f_X8_about s38 (xs (v3 + ((1:Int32))).toNatClampNeg)) (fun r41 s40 => if r39 = r41 then
 c_L_law_910 N Ln xs K18 s40 v3
 else
 gd (bz ((0:Int32))) (some ((0:Int32), s40))))))
 else if x1 = (10:Int32) then
 gd (vi (v3 + ((1:Int32))) Ln) (bd (f_X7_store s (xs (v3 + ((1:Int32))).toNatClampNeg)) (fun r43 s42 => gd (vi (v3 + ((1:Int32))) Ln) (bd (f_X8_store s42 (xs (v3 + ((1:Int32))).toNatClampNeg)) (fun r45 s44 => if r43 = r45 then
 c_L_law_910 N Ln xs K18 s44 v3
 else
 gd (bz ((0:Int32))) (some ((0:Int32), s44))))))
 else if x1 = (11:Int32) then
 gd (vi (v3 + ((1:Int32))) Ln) (gd (vi (v3 + ((2:Int32))) Ln) (bd (f_X7_pig s (xs (v3 + ((1:Int32))).toNatClampNeg) (xs (v3 + ((2:Int32))).toNatClampNeg)) (fun r47 s46 => gd (vi (v3 + ((1:Int32))) Ln) (gd (vi (v3 + ((2:Int32))) Ln) (bd (f_X8_pig s46 (xs (v3 + ((1:Int32))).toNatClampNeg) (xs (v3 + ((2:Int32))).toNatClampNeg)) (fun r49 s48 => if r47 = r49 then
 c_L_law_910 N Ln xs K18 s48 v3
 else
 gd (bz ((0:Int32))) (some ((0:Int32), s48))))))))
 else if x1 = (12:Int32) then
 gd (vi (v3 + ((1:Int32))) Ln) (bd (f_X7_sign s (xs (v3 + ((1:Int32))).toNatClampNeg)) (fun r51 s50 => gd (vi (v3 + ((1:Int32))) Ln) (bd (f_X8_sign s50 (xs (v3 + ((1:Int32))).toNatClampNeg)) (fun r53 s52 => if r51 = r53 then
 c_L_law_910 N Ln xs K18 s52 v3
 else
 gd (bz ((0:Int32))) (some ((0:Int32), s52))))))
 else if x1 = (13:Int32) then
 gd (vi (v3 + ((1:Int32))) Ln) (gd (vi (v3 + ((2:Int32))) Ln) (bd (f_X7_lose s (xs (v3 + ((1:Int32))).toNatClampNeg) (xs (v3 + ((2:Int32))).toNatClampNeg)) (fun r55 s54 => gd (vi (v3 + ((1:Int32))) Ln) (gd (vi (v3 + ((2:Int32))) Ln) (bd (f_X8_lose s54 (xs (v3 + ((1:Int32))).toNatClampNeg) (xs (v3 + ((2:Int32))).toNatClampNeg)) (fun r57 s56 => if r55 = r57 then
 c_L_law_910 N Ln xs K18 s56 v3
 else
 gd (bz ((0:Int32))) (some ((0:Int32), s56))))))))
 else if x1 = (14:Int32) then
 gd (vi (v3 + ((1:Int32))) Ln) (gd (vi (v3 + ((2:Int32))) Ln) (if (xs (v3 + ((2:Int32))).toNatClampNeg) = 0 then
 c_L_law_569 N Ln xs K18 s v3 (xs (v3 + ((1:Int32))).toNatClampNeg) ((0:Int32))
 else
 c_L_law_569 N Ln xs K18 s v3 (xs (v3 + ((1:Int32))).toNatClampNeg) ((1:Int32))))
 else if x1 = (15:Int32) then
 bd (f_X7_unrule s) (fun r59 s58 => bd (f_X8_unrule s58) (fun r61 s60 => if r59 = r61 then
 c_L_law_910 N Ln xs K18 s60 v3
 else
 gd (bz ((0:Int32))) (some ((0:Int32), s60))))
 else if x1 = (16:Int32) then
 gd (vi (v3 + ((1:Int32))) Ln) (gd (vi (v3 + ((2:Int32))) Ln) (gd (vi (v3 + ((3:Int32))) Ln) (bd (f_X7_forge s (xs (v3 + ((1:Int32))).toNatClampNeg) (xs (v3 + ((2:Int32))).toNatClampNeg) (xs (v3 + ((3:Int32))).toNatClampNeg)) (fun r63 s62 => gd (vi (v3 + ((1:Int32))) Ln) (gd (vi (v3 + ((2:Int32))) Ln) (gd (vi (v3 + ((3:Int32))) Ln) (bd (f_X8_forge s62 (xs (v3 + ((1:Int32))).toNatClampNeg) (xs (v3 + ((2:Int32))).toNatClampNeg) (xs (v3 + ((3:Int32))).toNatClampNeg)) (fun r65 s64 => if r63 = r65 then
 c_L_law_910 N Ln xs K18 s64 v3
 else
 gd (bz ((0:Int32))) (some ((0:Int32), s64))))))))))
 else if x1 = (17:Int32) then
 bd (f_X7_sale N s) (fun r67 s66 => bd (f_X8_sale N s66) (fun r69 s68 => if r67 = r69 then
 c_L_law_910 N Ln xs K18 s68 v3
 else
 gd (bz ((0:Int32))) (some ((0:Int32), s68))))
 else if x1 = (18:Int32) then
 bd (f_X7_sell N s) (fun r71 s70 => bd (f_X8_sell N s70) (fun r73 s72 => if r71 = r73 then
 c_L_law_910 N Ln xs K18 s72 v3
 else
 gd (bz ((0:Int32))) (some ((0:Int32), s72))))
 else if x1 = (19:Int32) then
 gd (vi (v3 + ((1:Int32))) Ln) (gd (vi (v3 + ((2:Int32))) Ln) (gd (vi (v3 + ((3:Int32))) Ln) (bd (f_X7_month s (xs (v3 + ((1:Int32))).toNatClampNeg) (xs (v3 + ((2:Int32))).toNatClampNeg) (xs (v3 + ((3:Int32))).toNatClampNeg)) (fun r75 s74 => gd (vi (v3 + ((1:Int32))) Ln) (gd (vi (v3 + ((2:Int32))) Ln) (gd (vi (v3 + ((3:Int32))) Ln) (bd (f_X8_month s74 (xs (v3 + ((1:Int32))).toNatClampNeg) (xs (v3 + ((2:Int32))).toNatClampNeg) (xs (v3 + ((3:Int32))).toNatClampNeg)) (fun r77 s76 => if r75 = r77 then
 c_L_law_910 N Ln xs K18 s76 v3
 else
 gd (bz ((0:Int32))) (some ((0:Int32), s76))))))))))
 else if x1 = (20:Int32) then
 gd (vi (v3 + ((1:Int32))) Ln) (gd (vi (v3 + ((2:Int32))) Ln) (gd (vi (v3 + ((3:Int32))) Ln) (gd (vi (v3 + ((4:Int32))) Ln) (bd (f_X7_pace s (xs (v3 + ((1:Int32))).toNatClampNeg) (xs (v3 + ((2:Int32))).toNatClampNeg) (xs (v3 + ((3:Int32))).toNatClampNeg) (xs (v3 + ((4:Int32))).toNatClampNeg)) (fun r79 s78 => gd (vi (v3 + ((1:Int32))) Ln) (gd (vi (v3 + ((2:Int32))) Ln) (gd (vi (v3 + ((3:Int32))) Ln) (gd (vi (v3 + ((4:Int32))) Ln) (bd (f_X8_pace s78 (xs (v3 + ((1:Int32))).toNatClampNeg) (xs (v3 + ((2:Int32))).toNatClampNeg) (xs (v3 + ((3:Int32))).toNatClampNeg) (xs (v3 + ((4:Int32))).toNatClampNeg)) (fun r81 s80 => if r79 = r81 then
 c_L_law_910 N Ln xs K18 s80 v3
 else
 gd (bz ((0:Int32))) (some ((0:Int32), s80))))))))))))
 else if x1 = (21:Int32) then
 gd (vi (v3 + ((1:Int32))) Ln) (gd (vi (v3 + ((2:Int32))) Ln) (gd (vi (v3 + ((3:Int32))) Ln) (gd (vi (v3 + ((4:Int32))) Ln) (bd (f_X7_plan N s (xs (v3 + ((1:Int32))).toNatClampNeg) (xs (v3 + ((2:Int32))).toNatClampNeg) (xs (v3 + ((3:Int32))).toNatClampNeg) (xs (v3 + ((4:Int32))).toNatClampNeg)) (fun r83 s82 => gd (vi (v3 + ((1:Int32))) Ln) (gd (vi (v3 + ((2:Int32))) Ln) (gd (vi (v3 + ((3:Int32))) Ln) (gd (vi (v3 + ((4:Int32))) Ln) (bd (f_X8_plan N s82 (xs (v3 + ((1:Int32))).toNatClampNeg) (xs (v3 + ((2:Int32))).toNatClampNeg) (xs (v3 + ((3:Int32))).toNatClampNeg) (xs (v3 + ((4:Int32))).toNatClampNeg)) (fun r85 s84 => if r83 = r85 then
 c_L_law_910 N Ln xs K18 s84 v3
 else
 gd (bz ((0:Int32))) (some ((0:Int32), s84))))))))))))
 else if x1 = (22:Int32) then
 gd (vi (v3 + ((1:Int32))) Ln) (bd (f_X7_paceAt s (xs (v3 + ((1:Int32))).toNatClampNeg)) (fun r87 s86 => gd (vi (v3 + ((1:Int32))) Ln) (bd (f_X8_paceAt s86 (xs (v3 + ((1:Int32))).toNatClampNeg)) (fun r89 s88 => if r87 = r89 then
 c_L_law_910 N Ln xs K18 s88 v3
 else
 gd (bz ((0:Int32))) (some ((0:Int32), s88))))))
 else if x1 = (23:Int32) then
 gd (vi (v3 + ((1:Int32))) Ln) (bd (f_X7_count s (xs (v3 + ((1:Int32))).toNatClampNeg)) (fun r91 s90 => gd (vi (v3 + ((1:Int32))) Ln) (bd (f_X8_count N s90 (xs (v3 + ((1:Int32))).toNatClampNeg)) (fun r93 s92 => if r91 = r93 then
 c_L_law_910 N Ln xs K18 s92 v3
 else
 gd (bz ((0:Int32))) (some ((0:Int32), s92))))))
 else if x1 = (24:Int32) then
 bdl (f_X7_digest N s) (fun r95 s94 => bdl (f_X8_digest N s94) (fun r97 s96 => if (lg_cmp r95 r97) = 0 then
 c_L_law_910 N Ln xs K18 s96 v3
 else
 gd (bz ((0:Int32))) (some ((0:Int32), s96))))
 else c_L_law_910 N Ln xs K18 s v3))
set_option maxHeartbeats 4000000 in
set_option maxRecDepth 100000 in
theorem w_L_law_18 {X : Ctx} {N Ln : Nat} {xs : Nat → Int32} {o : Int32 × Sg} (C : Cx NM X cL_law 4 RL AW (some .boolean) room_1) (LX : Lx X Ln xs) (LZ : Lz X) (ho : o.1 = 1) {K18 : Sg → Int32 → Option (Int32 × Sg)} (hK18 : ∀ (s : Sg) (v3 : Int32), K18 s v3 = some o → XW NM X 4 69 6753 SH s 18 [(0, .ref 1000), (1, .ref 0), (2, .ref 36), (3, .int v3)] []) (s : Sg) (v3 : Int32) (hf : c_L_law_18 N Ln xs K18 s v3 = some o) : XW NM X 4 69 6753 SH s 18 [(0, .ref 1000), (1, .ref 0), (2, .ref 36), (3, .int v3)] [] := by
  unfold c_L_law_18 at hf
  refine X_iload_n C 3 dL_law_18 rfl rfl ?_
  refine X_aload_n C 0 dL_law_19 rfl rfl ?_
  refine X_slen C LX dL_law_20 ?_
  refine X_iconst (v := (5:Int32)) C dL_law_21 (by decide) ?_
  refine X_isub C dL_law_22 ?_
  refine X_icmp_gt (tgt := 916) C dL_law_23 (by decide) hf (fun hf => ?_) (fun hf => ?_)
  · refine X_iconst (v := (1:Int32)) C dL_law_916 (by decide) ?_
    exact X_lwr C LZ dL_law_917 hf ho
  · refine X_aload_n C 0 dL_law_26 rfl rfl ?_
    refine X_iload_n C 3 dL_law_27 rfl rfl ?_
    refine X_sld C LX dL_law_28 hf (fun hf => ?_)
    refine X_bipush (v := (31:Int32)) C dL_law_29 (by decide) ?_
    refine X_iand C dL_law_31 ?_
    refine X_nm hf (fun x1 hf => ?_)
    refine X_sw (k0 := (0:Int32)) hf (fun e hf => ?_) (fun n0 hf => ?_)
    · refine X_tin (tgt := 148) C dL_law_32 (by rw [e]; decide) (by rw [e]; decide) (by rw [e]; rfl) (by decide) ?_
      refine X_aload_n C 1 dL_law_148 rfl rfl ?_
      refine X_aload_n C 0 dL_law_149 rfl rfl ?_
      refine X_iload_n C 3 dL_law_150 rfl rfl ?_
      refine X_iconst (v := (1:Int32)) C dL_law_151 (by decide) ?_
      refine X_iadd C dL_law_152 ?_
      refine X_sld C LX dL_law_153 hf (fun hf => ?_)
      refine X_aload_n C 0 dL_law_154 rfl rfl ?_
      refine X_iload_n C 3 dL_law_155 rfl rfl ?_
      refine X_iconst (v := (2:Int32)) C dL_law_156 (by decide) ?_
      refine X_iadd C dL_law_157 ?_
      refine X_sld C LX dL_law_158 hf (fun hf => ?_)
      refine X_callVi (As := [.int (xs (v3 + ((1:Int32))).toNatClampNeg), .int (xs (v3 + ((2:Int32))).toNatClampNeg)]) (rest := []) C aw_ok (fun _ h => h) lk_L_13 sh_0 nc_7 (by decide) rfl rfl (Nat.le_of_ble_eq_true rfl) dL_law_159 hf (fun r s h => k_X7_buy _ _ _ (r, s) h) (fun r3 s2 hf => ?_)
      refine X_aload_n C 2 dL_law_162 rfl rfl ?_
      refine X_aload_n C 0 dL_law_163 rfl rfl ?_
      refine X_iload_n C 3 dL_law_164 rfl rfl ?_
      refine X_iconst (v := (1:Int32)) C dL_law_165 (by decide) ?_
      refine X_iadd C dL_law_166 ?_
      refine X_sld C LX dL_law_167 hf (fun hf => ?_)
      refine X_aload_n C 0 dL_law_168 rfl rfl ?_
      refine X_iload_n C 3 dL_law_169 rfl rfl ?_
      refine X_iconst (v := (2:Int32)) C dL_law_170 (by decide) ?_
      refine X_iadd C dL_law_171 ?_
      refine X_sld C LX dL_law_172 hf (fun hf => ?_)
      refine X_callVi (As := [.int (xs (v3 + ((1:Int32))).toNatClampNeg), .int (xs (v3 + ((2:Int32))).toNatClampNeg)]) (rest := [.int r3]) C aw_ok (fun _ h => h) lk_L_17 sh_36 nc_8 (by decide) rfl rfl (Nat.le_of_ble_eq_true rfl) dL_law_173 hf (fun r s h => k_X8_buy _ _ _ (r, s) h) (fun r5 s4 hf => ?_)
      refine X_icmp_eq (tgt := 910) C dL_law_176 (by decide) hf (fun hf => ?_) (fun hf => ?_)
      · exact w_L_law_910 C LX LZ ho hK18 _ _ hf
      · refine X_iconst (v := (0:Int32)) C dL_law_179 (by decide) ?_
        exact X_lwr C LZ dL_law_180 hf ho
    refine X_sw (k0 := (1:Int32)) hf (fun e hf => ?_) (fun n1 hf => ?_)
    · refine X_tin (tgt := 181) C dL_law_32 (by rw [e]; decide) (by rw [e]; decide) (by rw [e]; rfl) (by decide) ?_
      refine X_aload_n C 1 dL_law_181 rfl rfl ?_
      refine X_aload_n C 0 dL_law_182 rfl rfl ?_
      refine X_iload_n C 3 dL_law_183 rfl rfl ?_
      refine X_iconst (v := (1:Int32)) C dL_law_184 (by decide) ?_
      refine X_iadd C dL_law_185 ?_
      refine X_sld C LX dL_law_186 hf (fun hf => ?_)
      refine X_aload_n C 0 dL_law_187 rfl rfl ?_
      refine X_iload_n C 3 dL_law_188 rfl rfl ?_
      refine X_iconst (v := (2:Int32)) C dL_law_189 (by decide) ?_
      refine X_iadd C dL_law_190 ?_
      refine X_sld C LX dL_law_191 hf (fun hf => ?_)
      refine X_callVi (As := [.int (xs (v3 + ((1:Int32))).toNatClampNeg), .int (xs (v3 + ((2:Int32))).toNatClampNeg)]) (rest := []) C aw_ok (fun _ h => h) lk_L_18 sh_0 nc_7 (by decide) rfl rfl (Nat.le_of_ble_eq_true rfl) dL_law_192 hf (fun r s h => k_X7_rich _ _ _ (r, s) h) (fun r7 s6 hf => ?_)
      refine X_aload_n C 2 dL_law_195 rfl rfl ?_
      refine X_aload_n C 0 dL_law_196 rfl rfl ?_
      refine X_iload_n C 3 dL_law_197 rfl rfl ?_
      refine X_iconst (v := (1:Int32)) C dL_law_198 (by decide) ?_
      refine X_iadd C dL_law_199 ?_
      refine X_sld C LX dL_law_200 hf (fun hf => ?_)
      refine X_aload_n C 0 dL_law_201 rfl rfl ?_
      refine X_iload_n C 3 dL_law_202 rfl rfl ?_
      refine X_iconst (v := (2:Int32)) C dL_law_203 (by decide) ?_
      refine X_iadd C dL_law_204 ?_
      refine X_sld C LX dL_law_205 hf (fun hf => ?_)
      refine X_callVi (As := [.int (xs (v3 + ((1:Int32))).toNatClampNeg), .int (xs (v3 + ((2:Int32))).toNatClampNeg)]) (rest := [.int r7]) C aw_ok (fun _ h => h) lk_L_21 sh_36 nc_8 (by decide) rfl rfl (Nat.le_of_ble_eq_true rfl) dL_law_206 hf (fun r s h => k_X8_rich _ _ _ (r, s) h) (fun r9 s8 hf => ?_)
      refine X_icmp_eq (tgt := 910) C dL_law_209 (by decide) hf (fun hf => ?_) (fun hf => ?_)
      · exact w_L_law_910 C LX LZ ho hK18 _ _ hf
      · refine X_iconst (v := (0:Int32)) C dL_law_212 (by decide) ?_
        exact X_lwr C LZ dL_law_213 hf ho
    refine X_sw (k0 := (2:Int32)) hf (fun e hf => ?_) (fun n2 hf => ?_)
    · refine X_tin (tgt := 214) C dL_law_32 (by rw [e]; decide) (by rw [e]; decide) (by rw [e]; rfl) (by decide) ?_
      refine X_aload_n C 1 dL_law_214 rfl rfl ?_
      refine X_aload_n C 0 dL_law_215 rfl rfl ?_
      refine X_iload_n C 3 dL_law_216 rfl rfl ?_
      refine X_iconst (v := (1:Int32)) C dL_law_217 (by decide) ?_
      refine X_iadd C dL_law_218 ?_
      refine X_sld C LX dL_law_219 hf (fun hf => ?_)
      refine X_aload_n C 0 dL_law_220 rfl rfl ?_
      refine X_iload_n C 3 dL_law_221 rfl rfl ?_
      refine X_iconst (v := (2:Int32)) C dL_law_222 (by decide) ?_
      refine X_iadd C dL_law_223 ?_
      refine X_sld C LX dL_law_224 hf (fun hf => ?_)
      refine X_aload_n C 0 dL_law_225 rfl rfl ?_
      refine X_iload_n C 3 dL_law_226 rfl rfl ?_
      refine X_iconst (v := (3:Int32)) C dL_law_227 (by decide) ?_
      refine X_iadd C dL_law_228 ?_
      refine X_sld C LX dL_law_229 hf (fun hf => ?_)
      refine X_aload_n C 0 dL_law_230 rfl rfl ?_
      refine X_iload_n C 3 dL_law_231 rfl rfl ?_
      refine X_iconst (v := (4:Int32)) C dL_law_232 (by decide) ?_
      refine X_iadd C dL_law_233 ?_
      refine X_sld C LX dL_law_234 hf (fun hf => ?_)
      refine X_callVi (As := [.int (xs (v3 + ((1:Int32))).toNatClampNeg), .int (xs (v3 + ((2:Int32))).toNatClampNeg), .int (xs (v3 + ((3:Int32))).toNatClampNeg), .int (xs (v3 + ((4:Int32))).toNatClampNeg)]) (rest := []) C aw_ok (fun _ h => h) lk_L_22 sh_0 nc_7 (by decide) rfl rfl (Nat.le_of_ble_eq_true rfl) dL_law_235 hf (fun r s h => k_X7_charge _ _ _ _ _ (r, s) h) (fun r11 s10 hf => ?_)
      refine X_aload_n C 2 dL_law_238 rfl rfl ?_
      refine X_aload_n C 0 dL_law_239 rfl rfl ?_
      refine X_iload_n C 3 dL_law_240 rfl rfl ?_
      refine X_iconst (v := (1:Int32)) C dL_law_241 (by decide) ?_
      refine X_iadd C dL_law_242 ?_
      refine X_sld C LX dL_law_243 hf (fun hf => ?_)
      refine X_aload_n C 0 dL_law_244 rfl rfl ?_
      refine X_iload_n C 3 dL_law_245 rfl rfl ?_
      refine X_iconst (v := (2:Int32)) C dL_law_246 (by decide) ?_
      refine X_iadd C dL_law_247 ?_
      refine X_sld C LX dL_law_248 hf (fun hf => ?_)
      refine X_aload_n C 0 dL_law_249 rfl rfl ?_
      refine X_iload_n C 3 dL_law_250 rfl rfl ?_
      refine X_iconst (v := (3:Int32)) C dL_law_251 (by decide) ?_
      refine X_iadd C dL_law_252 ?_
      refine X_sld C LX dL_law_253 hf (fun hf => ?_)
      refine X_aload_n C 0 dL_law_254 rfl rfl ?_
      refine X_iload_n C 3 dL_law_255 rfl rfl ?_
      refine X_iconst (v := (4:Int32)) C dL_law_256 (by decide) ?_
      refine X_iadd C dL_law_257 ?_
      refine X_sld C LX dL_law_258 hf (fun hf => ?_)
      refine X_callVi (As := [.int (xs (v3 + ((1:Int32))).toNatClampNeg), .int (xs (v3 + ((2:Int32))).toNatClampNeg), .int (xs (v3 + ((3:Int32))).toNatClampNeg), .int (xs (v3 + ((4:Int32))).toNatClampNeg)]) (rest := [.int r11]) C aw_ok (fun _ h => h) lk_L_26 sh_36 nc_8 (by decide) rfl rfl (Nat.le_of_ble_eq_true rfl) dL_law_259 hf (fun r s h => k_X8_charge _ _ _ _ _ (r, s) h) (fun r13 s12 hf => ?_)
      refine X_icmp_eq (tgt := 910) C dL_law_262 (by decide) hf (fun hf => ?_) (fun hf => ?_)
      · exact w_L_law_910 C LX LZ ho hK18 _ _ hf
      · refine X_iconst (v := (0:Int32)) C dL_law_265 (by decide) ?_
        exact X_lwr C LZ dL_law_266 hf ho
    refine X_sw (k0 := (3:Int32)) hf (fun e hf => ?_) (fun n3 hf => ?_)
    · refine X_tin (tgt := 267) C dL_law_32 (by rw [e]; decide) (by rw [e]; decide) (by rw [e]; rfl) (by decide) ?_
      refine X_aload_n C 1 dL_law_267 rfl rfl ?_
      refine X_aload_n C 0 dL_law_268 rfl rfl ?_
      refine X_iload_n C 3 dL_law_269 rfl rfl ?_
      refine X_iconst (v := (1:Int32)) C dL_law_270 (by decide) ?_
      refine X_iadd C dL_law_271 ?_
      refine X_sld C LX dL_law_272 hf (fun hf => ?_)
      refine X_aload_n C 0 dL_law_273 rfl rfl ?_
      refine X_iload_n C 3 dL_law_274 rfl rfl ?_
      refine X_iconst (v := (2:Int32)) C dL_law_275 (by decide) ?_
      refine X_iadd C dL_law_276 ?_
      refine X_sld C LX dL_law_277 hf (fun hf => ?_)
      refine X_callVi (As := [.int (xs (v3 + ((1:Int32))).toNatClampNeg), .int (xs (v3 + ((2:Int32))).toNatClampNeg)]) (rest := []) C aw_ok (fun _ h => h) lk_L_27 sh_0 nc_7 (by decide) rfl rfl (Nat.le_of_ble_eq_true rfl) dL_law_278 hf (fun r s h => k_X7_chargeAt _ _ _ (r, s) h) (fun r15 s14 hf => ?_)
      refine X_aload_n C 2 dL_law_281 rfl rfl ?_
      refine X_aload_n C 0 dL_law_282 rfl rfl ?_
      refine X_iload_n C 3 dL_law_283 rfl rfl ?_
      refine X_iconst (v := (1:Int32)) C dL_law_284 (by decide) ?_
      refine X_iadd C dL_law_285 ?_
      refine X_sld C LX dL_law_286 hf (fun hf => ?_)
      refine X_aload_n C 0 dL_law_287 rfl rfl ?_
      refine X_iload_n C 3 dL_law_288 rfl rfl ?_
      refine X_iconst (v := (2:Int32)) C dL_law_289 (by decide) ?_
      refine X_iadd C dL_law_290 ?_
      refine X_sld C LX dL_law_291 hf (fun hf => ?_)
      refine X_callVi (As := [.int (xs (v3 + ((1:Int32))).toNatClampNeg), .int (xs (v3 + ((2:Int32))).toNatClampNeg)]) (rest := [.int r15]) C aw_ok (fun _ h => h) lk_L_30 sh_36 nc_8 (by decide) rfl rfl (Nat.le_of_ble_eq_true rfl) dL_law_292 hf (fun r s h => k_X8_chargeAt _ _ _ (r, s) h) (fun r17 s16 hf => ?_)
      refine X_icmp_eq (tgt := 910) C dL_law_295 (by decide) hf (fun hf => ?_) (fun hf => ?_)
      · exact w_L_law_910 C LX LZ ho hK18 _ _ hf
      · refine X_iconst (v := (0:Int32)) C dL_law_298 (by decide) ?_
        exact X_lwr C LZ dL_law_299 hf ho
    refine X_sw (k0 := (4:Int32)) hf (fun e hf => ?_) (fun n4 hf => ?_)
    · refine X_tin (tgt := 300) C dL_law_32 (by rw [e]; decide) (by rw [e]; decide) (by rw [e]; rfl) (by decide) ?_
      refine X_aload_n C 1 dL_law_300 rfl rfl ?_
      refine X_aload_n C 0 dL_law_301 rfl rfl ?_
      refine X_iload_n C 3 dL_law_302 rfl rfl ?_
      refine X_iconst (v := (1:Int32)) C dL_law_303 (by decide) ?_
      refine X_iadd C dL_law_304 ?_
      refine X_sld C LX dL_law_305 hf (fun hf => ?_)
      refine X_callVi (As := [.int (xs (v3 + ((1:Int32))).toNatClampNeg)]) (rest := []) C aw_ok (fun _ h => h) lk_L_31 sh_0 nc_7 (by decide) rfl rfl (Nat.le_of_ble_eq_true rfl) dL_law_306 hf (fun r s h => k_X7_when _ _ (r, s) h) (fun r19 s18 hf => ?_)
      refine X_aload_n C 2 dL_law_309 rfl rfl ?_
      refine X_aload_n C 0 dL_law_310 rfl rfl ?_
      refine X_iload_n C 3 dL_law_311 rfl rfl ?_
      refine X_iconst (v := (1:Int32)) C dL_law_312 (by decide) ?_
      refine X_iadd C dL_law_313 ?_
      refine X_sld C LX dL_law_314 hf (fun hf => ?_)
      refine X_callVi (As := [.int (xs (v3 + ((1:Int32))).toNatClampNeg)]) (rest := [.int r19]) C aw_ok (fun _ h => h) lk_L_35 sh_36 nc_8 (by decide) rfl rfl (Nat.le_of_ble_eq_true rfl) dL_law_315 hf (fun r s h => k_X8_when _ _ (r, s) h) (fun r21 s20 hf => ?_)
      refine X_icmp_eq (tgt := 910) C dL_law_318 (by decide) hf (fun hf => ?_) (fun hf => ?_)
      · exact w_L_law_910 C LX LZ ho hK18 _ _ hf
      · refine X_iconst (v := (0:Int32)) C dL_law_321 (by decide) ?_
        exact X_lwr C LZ dL_law_322 hf ho
    refine X_sw (k0 := (5:Int32)) hf (fun e hf => ?_) (fun n5 hf => ?_)
    · refine X_tin (tgt := 323) C dL_law_32 (by rw [e]; decide) (by rw [e]; decide) (by rw [e]; rfl) (by decide) ?_
      refine X_aload_n C 1 dL_law_323 rfl rfl ?_
      refine X_aload_n C 0 dL_law_324 rfl rfl ?_
      refine X_iload_n C 3 dL_law_325 rfl rfl ?_
      refine X_iconst (v := (1:Int32)) C dL_law_326 (by decide) ?_
      refine X_iadd C dL_law_327 ?_
      refine X_sld C LX dL_law_328 hf (fun hf => ?_)
      refine X_callVi (As := [.int (xs (v3 + ((1:Int32))).toNatClampNeg)]) (rest := []) C aw_ok (fun _ h => h) lk_L_36 sh_0 nc_7 (by decide) rfl rfl (Nat.le_of_ble_eq_true rfl) dL_law_329 hf (fun r s h => k_X7_blast _ _ (r, s) h) (fun r23 s22 hf => ?_)
      refine X_aload_n C 2 dL_law_332 rfl rfl ?_
      refine X_aload_n C 0 dL_law_333 rfl rfl ?_
      refine X_iload_n C 3 dL_law_334 rfl rfl ?_
      refine X_iconst (v := (1:Int32)) C dL_law_335 (by decide) ?_
      refine X_iadd C dL_law_336 ?_
      refine X_sld C LX dL_law_337 hf (fun hf => ?_)
      refine X_callVi (As := [.int (xs (v3 + ((1:Int32))).toNatClampNeg)]) (rest := [.int r23]) C aw_ok (fun _ h => h) lk_L_39 sh_36 nc_8 (by decide) rfl rfl (Nat.le_of_ble_eq_true rfl) dL_law_338 hf (fun r s h => k_X8_blast _ _ (r, s) h) (fun r25 s24 hf => ?_)
      refine X_icmp_eq (tgt := 910) C dL_law_341 (by decide) hf (fun hf => ?_) (fun hf => ?_)
      · exact w_L_law_910 C LX LZ ho hK18 _ _ hf
      · refine X_iconst (v := (0:Int32)) C dL_law_344 (by decide) ?_
        exact X_lwr C LZ dL_law_345 hf ho
    refine X_sw (k0 := (6:Int32)) hf (fun e hf => ?_) (fun n6 hf => ?_)
    · refine X_tin (tgt := 346) C dL_law_32 (by rw [e]; decide) (by rw [e]; decide) (by rw [e]; rfl) (by decide) ?_
      refine X_aload_n C 1 dL_law_346 rfl rfl ?_
      refine X_aload_n C 0 dL_law_347 rfl rfl ?_
      refine X_iload_n C 3 dL_law_348 rfl rfl ?_
      refine X_iconst (v := (1:Int32)) C dL_law_349 (by decide) ?_
      refine X_iadd C dL_law_350 ?_
      refine X_sld C LX dL_law_351 hf (fun hf => ?_)
      refine X_aload_n C 0 dL_law_352 rfl rfl ?_
      refine X_iload_n C 3 dL_law_353 rfl rfl ?_
      refine X_iconst (v := (2:Int32)) C dL_law_354 (by decide) ?_
      refine X_iadd C dL_law_355 ?_
      refine X_sld C LX dL_law_356 hf (fun hf => ?_)
      refine X_callVi (As := [.int (xs (v3 + ((1:Int32))).toNatClampNeg), .int (xs (v3 + ((2:Int32))).toNatClampNeg)]) (rest := []) C aw_ok (fun _ h => h) lk_L_40 sh_0 nc_7 (by decide) rfl rfl (Nat.le_of_ble_eq_true rfl) dL_law_357 hf (fun r s h => k_X7_hearth _ _ _ (r, s) h) (fun r27 s26 hf => ?_)
      refine X_aload_n C 2 dL_law_360 rfl rfl ?_
      refine X_aload_n C 0 dL_law_361 rfl rfl ?_
      refine X_iload_n C 3 dL_law_362 rfl rfl ?_
      refine X_iconst (v := (1:Int32)) C dL_law_363 (by decide) ?_
      refine X_iadd C dL_law_364 ?_
      refine X_sld C LX dL_law_365 hf (fun hf => ?_)
      refine X_aload_n C 0 dL_law_366 rfl rfl ?_
      refine X_iload_n C 3 dL_law_367 rfl rfl ?_
      refine X_iconst (v := (2:Int32)) C dL_law_368 (by decide) ?_
      refine X_iadd C dL_law_369 ?_
      refine X_sld C LX dL_law_370 hf (fun hf => ?_)
      refine X_callVi (As := [.int (xs (v3 + ((1:Int32))).toNatClampNeg), .int (xs (v3 + ((2:Int32))).toNatClampNeg)]) (rest := [.int r27]) C aw_ok (fun _ h => h) lk_L_43 sh_36 nc_8 (by decide) rfl rfl (Nat.le_of_ble_eq_true rfl) dL_law_371 hf (fun r s h => k_X8_hearth _ _ _ (r, s) h) (fun r29 s28 hf => ?_)
      refine X_icmp_eq (tgt := 910) C dL_law_374 (by decide) hf (fun hf => ?_) (fun hf => ?_)
      · exact w_L_law_910 C LX LZ ho hK18 _ _ hf
      · refine X_iconst (v := (0:Int32)) C dL_law_377 (by decide) ?_
        exact X_lwr C LZ dL_law_378 hf ho
    refine X_sw (k0 := (7:Int32)) hf (fun e hf => ?_) (fun n7 hf => ?_)
    · refine X_tin (tgt := 379) C dL_law_32 (by rw [e]; decide) (by rw [e]; decide) (by rw [e]; rfl) (by decide) ?_
      refine X_aload_n C 1 dL_law_379 rfl rfl ?_
      refine X_aload_n C 0 dL_law_380 rfl rfl ?_
      refine X_iload_n C 3 dL_law_381 rfl rfl ?_
      refine X_iconst (v := (1:Int32)) C dL_law_382 (by decide) ?_
      refine X_iadd C dL_law_383 ?_
      refine X_sld C LX dL_law_384 hf (fun hf => ?_)
      refine X_callVi (As := [.int (xs (v3 + ((1:Int32))).toNatClampNeg)]) (rest := []) C aw_ok (fun _ h => h) lk_L_44 sh_0 nc_7 (by decide) rfl rfl (Nat.le_of_ble_eq_true rfl) dL_law_385 hf (fun r s h => k_X7_tick _ _ (r, s) h) (fun r31 s30 hf => ?_)
      refine X_aload_n C 2 dL_law_388 rfl rfl ?_
      refine X_aload_n C 0 dL_law_389 rfl rfl ?_
      refine X_iload_n C 3 dL_law_390 rfl rfl ?_
      refine X_iconst (v := (1:Int32)) C dL_law_391 (by decide) ?_
      refine X_iadd C dL_law_392 ?_
      refine X_sld C LX dL_law_393 hf (fun hf => ?_)
      refine X_callVi (As := [.int (xs (v3 + ((1:Int32))).toNatClampNeg)]) (rest := [.int r31]) C aw_ok (fun _ h => h) lk_L_47 sh_36 nc_8 (by decide) rfl rfl (Nat.le_of_ble_eq_true rfl) dL_law_394 hf (fun r s h => k_X8_tick _ _ (r, s) h) (fun r33 s32 hf => ?_)
      refine X_icmp_eq (tgt := 910) C dL_law_397 (by decide) hf (fun hf => ?_) (fun hf => ?_)
      · exact w_L_law_910 C LX LZ ho hK18 _ _ hf
      · refine X_iconst (v := (0:Int32)) C dL_law_400 (by decide) ?_
        exact X_lwr C LZ dL_law_401 hf ho
    refine X_sw (k0 := (8:Int32)) hf (fun e hf => ?_) (fun n8 hf => ?_)
    · refine X_tin (tgt := 402) C dL_law_32 (by rw [e]; decide) (by rw [e]; decide) (by rw [e]; rfl) (by decide) ?_
      refine X_aload_n C 1 dL_law_402 rfl rfl ?_
      refine X_callVi (As := []) (rest := []) C aw_ok (fun _ h => h) lk_L_48 sh_0 nc_7 (by decide) rfl rfl (Nat.le_of_ble_eq_true rfl) dL_law_403 hf (fun r s h => k_X7_tap _ (r, s) h) (fun r35 s34 hf => ?_)
      refine X_aload_n C 2 dL_law_406 rfl rfl ?_
      refine X_callVi (As := []) (rest := [.int r35]) C aw_ok (fun _ h => h) lk_L_52 sh_36 nc_8 (by decide) rfl rfl (Nat.le_of_ble_eq_true rfl) dL_law_407 hf (fun r s h => k_X8_tap _ (r, s) h) (fun r37 s36 hf => ?_)
      refine X_icmp_eq (tgt := 910) C dL_law_410 (by decide) hf (fun hf => ?_) (fun hf => ?_)
      · exact w_L_law_910 C LX LZ ho hK18 _ _ hf
      · refine X_iconst (v := (0:Int32)) C dL_law_413 (by decide) ?_
        exact X_lwr C LZ dL_law_414 hf ho
    refine X_sw (k0 := (9:Int32)) hf (fun e hf => ?_) (fun n9 hf => ?_)
    · refine X_tin (tgt := 415) C dL_law_32 (by rw [e]; decide) (by rw [e]; decide) (by rw [e]; rfl) (by decide) ?_
      refine X_aload_n C 1 dL_law_415 rfl rfl ?_
      refine X_aload_n C 0 dL_law_416 rfl rfl ?_
      refine X_iload_n C 3 dL_law_417 rfl rfl ?_
      refine X_iconst (v := (1:Int32)) C dL_law_418 (by decide) ?_
      refine X_iadd C dL_law_419 ?_
      refine X_sld C LX dL_law_420 hf (fun hf => ?_)
      refine X_callVi (As := [.int (xs (v3 + ((1:Int32))).toNatClampNeg)]) (rest := []) C aw_ok (fun _ h => h) lk_L_53 sh_0 nc_7 (by decide) rfl rfl (Nat.le_of_ble_eq_true rfl) dL_law_421 hf (fun r s h => k_X7_about _ _ (r, s) h) (fun r39 s38 hf => ?_)
      refine X_aload_n C 2 dL_law_424 rfl rfl ?_
      refine X_aload_n C 0 dL_law_425 rfl rfl ?_
      refine X_iload_n C 3 dL_law_426 rfl rfl ?_
      refine X_iconst (v := (1:Int32)) C dL_law_427 (by decide) ?_
      refine X_iadd C dL_law_428 ?_
      refine X_sld C LX dL_law_429 hf (fun hf => ?_)
      refine X_callVi (As := [.int (xs (v3 + ((1:Int32))).toNatClampNeg)]) (rest := [.int r39]) C aw_ok (fun _ h => h) lk_L_56 sh_36 nc_8 (by decide) rfl rfl (Nat.le_of_ble_eq_true rfl) dL_law_430 hf (fun r s h => k_X8_about _ _ (r, s) h) (fun r41 s40 hf => ?_)
      refine X_icmp_eq (tgt := 910) C dL_law_433 (by decide) hf (fun hf => ?_) (fun hf => ?_)
      · exact w_L_law_910 C LX LZ ho hK18 _ _ hf
      · refine X_iconst (v := (0:Int32)) C dL_law_436 (by decide) ?_
        exact X_lwr C LZ dL_law_437 hf ho
    refine X_sw (k0 := (10:Int32)) hf (fun e hf => ?_) (fun n10 hf => ?_)
    · refine X_tin (tgt := 438) C dL_law_32 (by rw [e]; decide) (by rw [e]; decide) (by rw [e]; rfl) (by decide) ?_
      refine X_aload_n C 1 dL_law_438 rfl rfl ?_
      refine X_aload_n C 0 dL_law_439 rfl rfl ?_
      refine X_iload_n C 3 dL_law_440 rfl rfl ?_
      refine X_iconst (v := (1:Int32)) C dL_law_441 (by decide) ?_
      refine X_iadd C dL_law_442 ?_
      refine X_sld C LX dL_law_443 hf (fun hf => ?_)
      refine X_callVi (As := [.int (xs (v3 + ((1:Int32))).toNatClampNeg)]) (rest := []) C aw_ok (fun _ h => h) lk_L_57 sh_0 nc_7 (by decide) rfl rfl (Nat.le_of_ble_eq_true rfl) dL_law_444 hf (fun r s h => k_X7_store _ _ (r, s) h) (fun r43 s42 hf => ?_)
      refine X_aload_n C 2 dL_law_447 rfl rfl ?_
      refine X_aload_n C 0 dL_law_448 rfl rfl ?_
      refine X_iload_n C 3 dL_law_449 rfl rfl ?_
      refine X_iconst (v := (1:Int32)) C dL_law_450 (by decide) ?_
      refine X_iadd C dL_law_451 ?_
      refine X_sld C LX dL_law_452 hf (fun hf => ?_)
      refine X_callVi (As := [.int (xs (v3 + ((1:Int32))).toNatClampNeg)]) (rest := [.int r43]) C aw_ok (fun _ h => h) lk_L_60 sh_36 nc_8 (by decide) rfl rfl (Nat.le_of_ble_eq_true rfl) dL_law_453 hf (fun r s h => k_X8_store _ _ (r, s) h) (fun r45 s44 hf => ?_)
      refine X_icmp_eq (tgt := 910) C dL_law_456 (by decide) hf (fun hf => ?_) (fun hf => ?_)
      · exact w_L_law_910 C LX LZ ho hK18 _ _ hf
      · refine X_iconst (v := (0:Int32)) C dL_law_459 (by decide) ?_
        exact X_lwr C LZ dL_law_460 hf ho
    refine X_sw (k0 := (11:Int32)) hf (fun e hf => ?_) (fun n11 hf => ?_)
    · refine X_tin (tgt := 461) C dL_law_32 (by rw [e]; decide) (by rw [e]; decide) (by rw [e]; rfl) (by decide) ?_
      refine X_aload_n C 1 dL_law_461 rfl rfl ?_
      refine X_aload_n C 0 dL_law_462 rfl rfl ?_
      refine X_iload_n C 3 dL_law_463 rfl rfl ?_
      refine X_iconst (v := (1:Int32)) C dL_law_464 (by decide) ?_
      refine X_iadd C dL_law_465 ?_
      refine X_sld C LX dL_law_466 hf (fun hf => ?_)
      refine X_aload_n C 0 dL_law_467 rfl rfl ?_
      refine X_iload_n C 3 dL_law_468 rfl rfl ?_
      refine X_iconst (v := (2:Int32)) C dL_law_469 (by decide) ?_
      refine X_iadd C dL_law_470 ?_
      refine X_sld C LX dL_law_471 hf (fun hf => ?_)
      refine X_callVi (As := [.int (xs (v3 + ((1:Int32))).toNatClampNeg), .int (xs (v3 + ((2:Int32))).toNatClampNeg)]) (rest := []) C aw_ok (fun _ h => h) lk_L_61 sh_0 nc_7 (by decide) rfl rfl (Nat.le_of_ble_eq_true rfl) dL_law_472 hf (fun r s h => k_X7_pig _ _ _ (r, s) h) (fun r47 s46 hf => ?_)
      refine X_aload_n C 2 dL_law_475 rfl rfl ?_
      refine X_aload_n C 0 dL_law_476 rfl rfl ?_
      refine X_iload_n C 3 dL_law_477 rfl rfl ?_
      refine X_iconst (v := (1:Int32)) C dL_law_478 (by decide) ?_
      refine X_iadd C dL_law_479 ?_
      refine X_sld C LX dL_law_480 hf (fun hf => ?_)
      refine X_aload_n C 0 dL_law_481 rfl rfl ?_
      refine X_iload_n C 3 dL_law_482 rfl rfl ?_
      refine X_iconst (v := (2:Int32)) C dL_law_483 (by decide) ?_
      refine X_iadd C dL_law_484 ?_
      refine X_sld C LX dL_law_485 hf (fun hf => ?_)
      refine X_callVi (As := [.int (xs (v3 + ((1:Int32))).toNatClampNeg), .int (xs (v3 + ((2:Int32))).toNatClampNeg)]) (rest := [.int r47]) C aw_ok (fun _ h => h) lk_L_64 sh_36 nc_8 (by decide) rfl rfl (Nat.le_of_ble_eq_true rfl) dL_law_486 hf (fun r s h => k_X8_pig _ _ _ (r, s) h) (fun r49 s48 hf => ?_)
      refine X_icmp_eq (tgt := 910) C dL_law_489 (by decide) hf (fun hf => ?_) (fun hf => ?_)
      · exact w_L_law_910 C LX LZ ho hK18 _ _ hf
      · refine X_iconst (v := (0:Int32)) C dL_law_492 (by decide) ?_
        exact X_lwr C LZ dL_law_493 hf ho
    refine X_sw (k0 := (12:Int32)) hf (fun e hf => ?_) (fun n12 hf => ?_)
    · refine X_tin (tgt := 494) C dL_law_32 (by rw [e]; decide) (by rw [e]; decide) (by rw [e]; rfl) (by decide) ?_
      refine X_aload_n C 1 dL_law_494 rfl rfl ?_
      refine X_aload_n C 0 dL_law_495 rfl rfl ?_
      refine X_iload_n C 3 dL_law_496 rfl rfl ?_
      refine X_iconst (v := (1:Int32)) C dL_law_497 (by decide) ?_
      refine X_iadd C dL_law_498 ?_
      refine X_sld C LX dL_law_499 hf (fun hf => ?_)
      refine X_callVi (As := [.int (xs (v3 + ((1:Int32))).toNatClampNeg)]) (rest := []) C aw_ok (fun _ h => h) lk_L_65 sh_0 nc_7 (by decide) rfl rfl (Nat.le_of_ble_eq_true rfl) dL_law_500 hf (fun r s h => k_X7_sign _ _ (r, s) h) (fun r51 s50 hf => ?_)
      refine X_aload_n C 2 dL_law_503 rfl rfl ?_
      refine X_aload_n C 0 dL_law_504 rfl rfl ?_
      refine X_iload_n C 3 dL_law_505 rfl rfl ?_
      refine X_iconst (v := (1:Int32)) C dL_law_506 (by decide) ?_
      refine X_iadd C dL_law_507 ?_
      refine X_sld C LX dL_law_508 hf (fun hf => ?_)
      refine X_callVi (As := [.int (xs (v3 + ((1:Int32))).toNatClampNeg)]) (rest := [.int r51]) C aw_ok (fun _ h => h) lk_L_68 sh_36 nc_8 (by decide) rfl rfl (Nat.le_of_ble_eq_true rfl) dL_law_509 hf (fun r s h => k_X8_sign _ _ (r, s) h) (fun r53 s52 hf => ?_)
      refine X_icmp_eq (tgt := 910) C dL_law_512 (by decide) hf (fun hf => ?_) (fun hf => ?_)
      · exact w_L_law_910 C LX LZ ho hK18 _ _ hf
      · refine X_iconst (v := (0:Int32)) C dL_law_515 (by decide) ?_
        exact X_lwr C LZ dL_law_516 hf ho
    refine X_sw (k0 := (13:Int32)) hf (fun e hf => ?_) (fun n13 hf => ?_)
    · refine X_tin (tgt := 517) C dL_law_32 (by rw [e]; decide) (by rw [e]; decide) (by rw [e]; rfl) (by decide) ?_
      refine X_aload_n C 1 dL_law_517 rfl rfl ?_
      refine X_aload_n C 0 dL_law_518 rfl rfl ?_
      refine X_iload_n C 3 dL_law_519 rfl rfl ?_
      refine X_iconst (v := (1:Int32)) C dL_law_520 (by decide) ?_
      refine X_iadd C dL_law_521 ?_
      refine X_sld C LX dL_law_522 hf (fun hf => ?_)
      refine X_aload_n C 0 dL_law_523 rfl rfl ?_
      refine X_iload_n C 3 dL_law_524 rfl rfl ?_
      refine X_iconst (v := (2:Int32)) C dL_law_525 (by decide) ?_
      refine X_iadd C dL_law_526 ?_
      refine X_sld C LX dL_law_527 hf (fun hf => ?_)
      refine X_callVi (As := [.int (xs (v3 + ((1:Int32))).toNatClampNeg), .int (xs (v3 + ((2:Int32))).toNatClampNeg)]) (rest := []) C aw_ok (fun _ h => h) lk_L_69 sh_0 nc_7 (by decide) rfl rfl (Nat.le_of_ble_eq_true rfl) dL_law_528 hf (fun r s h => k_X7_lose _ _ _ (r, s) h) (fun r55 s54 hf => ?_)
      refine X_aload_n C 2 dL_law_531 rfl rfl ?_
      refine X_aload_n C 0 dL_law_532 rfl rfl ?_
      refine X_iload_n C 3 dL_law_533 rfl rfl ?_
      refine X_iconst (v := (1:Int32)) C dL_law_534 (by decide) ?_
      refine X_iadd C dL_law_535 ?_
      refine X_sld C LX dL_law_536 hf (fun hf => ?_)
      refine X_aload_n C 0 dL_law_537 rfl rfl ?_
      refine X_iload_n C 3 dL_law_538 rfl rfl ?_
      refine X_iconst (v := (2:Int32)) C dL_law_539 (by decide) ?_
      refine X_iadd C dL_law_540 ?_
      refine X_sld C LX dL_law_541 hf (fun hf => ?_)
      refine X_callVi (As := [.int (xs (v3 + ((1:Int32))).toNatClampNeg), .int (xs (v3 + ((2:Int32))).toNatClampNeg)]) (rest := [.int r55]) C aw_ok (fun _ h => h) lk_L_72 sh_36 nc_8 (by decide) rfl rfl (Nat.le_of_ble_eq_true rfl) dL_law_542 hf (fun r s h => k_X8_lose _ _ _ (r, s) h) (fun r57 s56 hf => ?_)
      refine X_icmp_eq (tgt := 910) C dL_law_545 (by decide) hf (fun hf => ?_) (fun hf => ?_)
      · exact w_L_law_910 C LX LZ ho hK18 _ _ hf
      · refine X_iconst (v := (0:Int32)) C dL_law_548 (by decide) ?_
        exact X_lwr C LZ dL_law_549 hf ho
    refine X_sw (k0 := (14:Int32)) hf (fun e hf => ?_) (fun n14 hf => ?_)
    · refine X_tin (tgt := 550) C dL_law_32 (by rw [e]; decide) (by rw [e]; decide) (by rw [e]; rfl) (by decide) ?_
      refine X_aload_n C 1 dL_law_550 rfl rfl ?_
      refine X_aload_n C 0 dL_law_551 rfl rfl ?_
      refine X_iload_n C 3 dL_law_552 rfl rfl ?_
      refine X_iconst (v := (1:Int32)) C dL_law_553 (by decide) ?_
      refine X_iadd C dL_law_554 ?_
      refine X_sld C LX dL_law_555 hf (fun hf => ?_)
      refine X_aload_n C 0 dL_law_556 rfl rfl ?_
      refine X_iload_n C 3 dL_law_557 rfl rfl ?_
      refine X_iconst (v := (2:Int32)) C dL_law_558 (by decide) ?_
      refine X_iadd C dL_law_559 ?_
      refine X_sld C LX dL_law_560 hf (fun hf => ?_)
      refine X_if_eq (tgt := 568) C dL_law_561 (by decide) hf (fun hf => ?_) (fun hf => ?_)
      · refine X_iconst (v := (0:Int32)) C dL_law_568 (by decide) ?_
        exact w_L_law_569 C LX LZ ho hK18 _ _ _ _ hf
      · refine X_iconst (v := (1:Int32)) C dL_law_564 (by decide) ?_
        refine X_goto (tgt := 569) C dL_law_565 (by decide) ?_
        exact w_L_law_569 C LX LZ ho hK18 _ _ _ _ hf
    refine X_sw (k0 := (15:Int32)) hf (fun e hf => ?_) (fun n15 hf => ?_)
    · refine X_tin (tgt := 619) C dL_law_32 (by rw [e]; decide) (by rw [e]; decide) (by rw [e]; rfl) (by decide) ?_
      refine X_aload_n C 1 dL_law_619 rfl rfl ?_
      refine X_callVi (As := []) (rest := []) C aw_ok (fun _ h => h) lk_L_78 sh_0 nc_7 (by decide) rfl rfl (Nat.le_of_ble_eq_true rfl) dL_law_620 hf (fun r s h => k_X7_unrule _ (r, s) h) (fun r59 s58 hf => ?_)
      refine X_aload_n C 2 dL_law_623 rfl rfl ?_
      refine X_callVi (As := []) (rest := [.int r59]) C aw_ok (fun _ h => h) lk_L_81 sh_36 nc_8 (by decide) rfl rfl (Nat.le_of_ble_eq_true rfl) dL_law_624 hf (fun r s h => k_X8_unrule _ (r, s) h) (fun r61 s60 hf => ?_)
      refine X_icmp_eq (tgt := 910) C dL_law_627 (by decide) hf (fun hf => ?_) (fun hf => ?_)
      · exact w_L_law_910 C LX LZ ho hK18 _ _ hf
      · refine X_iconst (v := (0:Int32)) C dL_law_630 (by decide) ?_
        exact X_lwr C LZ dL_law_631 hf ho
    refine X_sw (k0 := (16:Int32)) hf (fun e hf => ?_) (fun n16 hf => ?_)
    · refine X_tin (tgt := 632) C dL_law_32 (by rw [e]; decide) (by rw [e]; decide) (by rw [e]; rfl) (by decide) ?_
      refine X_aload_n C 1 dL_law_632 rfl rfl ?_
      refine X_aload_n C 0 dL_law_633 rfl rfl ?_
      refine X_iload_n C 3 dL_law_634 rfl rfl ?_
      refine X_iconst (v := (1:Int32)) C dL_law_635 (by decide) ?_
      refine X_iadd C dL_law_636 ?_
      refine X_sld C LX dL_law_637 hf (fun hf => ?_)
      refine X_aload_n C 0 dL_law_638 rfl rfl ?_
      refine X_iload_n C 3 dL_law_639 rfl rfl ?_
      refine X_iconst (v := (2:Int32)) C dL_law_640 (by decide) ?_
      refine X_iadd C dL_law_641 ?_
      refine X_sld C LX dL_law_642 hf (fun hf => ?_)
      refine X_aload_n C 0 dL_law_643 rfl rfl ?_
      refine X_iload_n C 3 dL_law_644 rfl rfl ?_
      refine X_iconst (v := (3:Int32)) C dL_law_645 (by decide) ?_
      refine X_iadd C dL_law_646 ?_
      refine X_sld C LX dL_law_647 hf (fun hf => ?_)
      refine X_callVi (As := [.int (xs (v3 + ((1:Int32))).toNatClampNeg), .int (xs (v3 + ((2:Int32))).toNatClampNeg), .int (xs (v3 + ((3:Int32))).toNatClampNeg)]) (rest := []) C aw_ok (fun _ h => h) lk_L_82 sh_0 nc_7 (by decide) rfl rfl (Nat.le_of_ble_eq_true rfl) dL_law_648 hf (fun r s h => k_X7_forge _ _ _ _ (r, s) h) (fun r63 s62 hf => ?_)
      refine X_aload_n C 2 dL_law_651 rfl rfl ?_
      refine X_aload_n C 0 dL_law_652 rfl rfl ?_
      refine X_iload_n C 3 dL_law_653 rfl rfl ?_
      refine X_iconst (v := (1:Int32)) C dL_law_654 (by decide) ?_
      refine X_iadd C dL_law_655 ?_
      refine X_sld C LX dL_law_656 hf (fun hf => ?_)
      refine X_aload_n C 0 dL_law_657 rfl rfl ?_
      refine X_iload_n C 3 dL_law_658 rfl rfl ?_
      refine X_iconst (v := (2:Int32)) C dL_law_659 (by decide) ?_
      refine X_iadd C dL_law_660 ?_
      refine X_sld C LX dL_law_661 hf (fun hf => ?_)
      refine X_aload_n C 0 dL_law_662 rfl rfl ?_
      refine X_iload_n C 3 dL_law_663 rfl rfl ?_
      refine X_iconst (v := (3:Int32)) C dL_law_664 (by decide) ?_
      refine X_iadd C dL_law_665 ?_
      refine X_sld C LX dL_law_666 hf (fun hf => ?_)
      refine X_callVi (As := [.int (xs (v3 + ((1:Int32))).toNatClampNeg), .int (xs (v3 + ((2:Int32))).toNatClampNeg), .int (xs (v3 + ((3:Int32))).toNatClampNeg)]) (rest := [.int r63]) C aw_ok (fun _ h => h) lk_L_86 sh_36 nc_8 (by decide) rfl rfl (Nat.le_of_ble_eq_true rfl) dL_law_667 hf (fun r s h => k_X8_forge _ _ _ _ (r, s) h) (fun r65 s64 hf => ?_)
      refine X_icmp_eq (tgt := 910) C dL_law_670 (by decide) hf (fun hf => ?_) (fun hf => ?_)
      · exact w_L_law_910 C LX LZ ho hK18 _ _ hf
      · refine X_iconst (v := (0:Int32)) C dL_law_673 (by decide) ?_
        exact X_lwr C LZ dL_law_674 hf ho
    refine X_sw (k0 := (17:Int32)) hf (fun e hf => ?_) (fun n17 hf => ?_)
    · refine X_tin (tgt := 675) C dL_law_32 (by rw [e]; decide) (by rw [e]; decide) (by rw [e]; rfl) (by decide) ?_
      refine X_aload_n C 1 dL_law_675 rfl rfl ?_
      refine X_callVi (As := []) (rest := []) C aw_ok (fun _ h => h) lk_L_87 sh_0 nc_7 (by decide) rfl rfl (Nat.le_of_ble_eq_true rfl) dL_law_676 hf (fun r s h => k_X7_sale _ (r, s) h) (fun r67 s66 hf => ?_)
      refine X_aload_n C 2 dL_law_679 rfl rfl ?_
      refine X_callVi (As := []) (rest := [.int r67]) C aw_ok (fun _ h => h) lk_L_90 sh_36 nc_8 (by decide) rfl rfl (Nat.le_of_ble_eq_true rfl) dL_law_680 hf (fun r s h => k_X8_sale _ (r, s) h) (fun r69 s68 hf => ?_)
      refine X_icmp_eq (tgt := 910) C dL_law_683 (by decide) hf (fun hf => ?_) (fun hf => ?_)
      · exact w_L_law_910 C LX LZ ho hK18 _ _ hf
      · refine X_iconst (v := (0:Int32)) C dL_law_686 (by decide) ?_
        exact X_lwr C LZ dL_law_687 hf ho
    refine X_sw (k0 := (18:Int32)) hf (fun e hf => ?_) (fun n18 hf => ?_)
    · refine X_tin (tgt := 688) C dL_law_32 (by rw [e]; decide) (by rw [e]; decide) (by rw [e]; rfl) (by decide) ?_
      refine X_aload_n C 1 dL_law_688 rfl rfl ?_
      refine X_callVi (As := []) (rest := []) C aw_ok (fun _ h => h) lk_L_91 sh_0 nc_7 (by decide) rfl rfl (Nat.le_of_ble_eq_true rfl) dL_law_689 hf (fun r s h => k_X7_sell _ (r, s) h) (fun r71 s70 hf => ?_)
      refine X_aload_n C 2 dL_law_692 rfl rfl ?_
      refine X_callVi (As := []) (rest := [.int r71]) C aw_ok (fun _ h => h) lk_L_94 sh_36 nc_8 (by decide) rfl rfl (Nat.le_of_ble_eq_true rfl) dL_law_693 hf (fun r s h => k_X8_sell _ (r, s) h) (fun r73 s72 hf => ?_)
      refine X_icmp_eq (tgt := 910) C dL_law_696 (by decide) hf (fun hf => ?_) (fun hf => ?_)
      · exact w_L_law_910 C LX LZ ho hK18 _ _ hf
      · refine X_iconst (v := (0:Int32)) C dL_law_699 (by decide) ?_
        exact X_lwr C LZ dL_law_700 hf ho
    refine X_sw (k0 := (19:Int32)) hf (fun e hf => ?_) (fun n19 hf => ?_)
    · refine X_tin (tgt := 701) C dL_law_32 (by rw [e]; decide) (by rw [e]; decide) (by rw [e]; rfl) (by decide) ?_
      refine X_aload_n C 1 dL_law_701 rfl rfl ?_
      refine X_aload_n C 0 dL_law_702 rfl rfl ?_
      refine X_iload_n C 3 dL_law_703 rfl rfl ?_
      refine X_iconst (v := (1:Int32)) C dL_law_704 (by decide) ?_
      refine X_iadd C dL_law_705 ?_
      refine X_sld C LX dL_law_706 hf (fun hf => ?_)
      refine X_aload_n C 0 dL_law_707 rfl rfl ?_
      refine X_iload_n C 3 dL_law_708 rfl rfl ?_
      refine X_iconst (v := (2:Int32)) C dL_law_709 (by decide) ?_
      refine X_iadd C dL_law_710 ?_
      refine X_sld C LX dL_law_711 hf (fun hf => ?_)
      refine X_aload_n C 0 dL_law_712 rfl rfl ?_
      refine X_iload_n C 3 dL_law_713 rfl rfl ?_
      refine X_iconst (v := (3:Int32)) C dL_law_714 (by decide) ?_
      refine X_iadd C dL_law_715 ?_
      refine X_sld C LX dL_law_716 hf (fun hf => ?_)
      refine X_callVi (As := [.int (xs (v3 + ((1:Int32))).toNatClampNeg), .int (xs (v3 + ((2:Int32))).toNatClampNeg), .int (xs (v3 + ((3:Int32))).toNatClampNeg)]) (rest := []) C aw_ok (fun _ h => h) lk_L_95 sh_0 nc_7 (by decide) rfl rfl (Nat.le_of_ble_eq_true rfl) dL_law_717 hf (fun r s h => k_X7_month _ _ _ _ (r, s) h) (fun r75 s74 hf => ?_)
      refine X_aload_n C 2 dL_law_720 rfl rfl ?_
      refine X_aload_n C 0 dL_law_721 rfl rfl ?_
      refine X_iload_n C 3 dL_law_722 rfl rfl ?_
      refine X_iconst (v := (1:Int32)) C dL_law_723 (by decide) ?_
      refine X_iadd C dL_law_724 ?_
      refine X_sld C LX dL_law_725 hf (fun hf => ?_)
      refine X_aload_n C 0 dL_law_726 rfl rfl ?_
      refine X_iload_n C 3 dL_law_727 rfl rfl ?_
      refine X_iconst (v := (2:Int32)) C dL_law_728 (by decide) ?_
      refine X_iadd C dL_law_729 ?_
      refine X_sld C LX dL_law_730 hf (fun hf => ?_)
      refine X_aload_n C 0 dL_law_731 rfl rfl ?_
      refine X_iload_n C 3 dL_law_732 rfl rfl ?_
      refine X_iconst (v := (3:Int32)) C dL_law_733 (by decide) ?_
      refine X_iadd C dL_law_734 ?_
      refine X_sld C LX dL_law_735 hf (fun hf => ?_)
      refine X_callVi (As := [.int (xs (v3 + ((1:Int32))).toNatClampNeg), .int (xs (v3 + ((2:Int32))).toNatClampNeg), .int (xs (v3 + ((3:Int32))).toNatClampNeg)]) (rest := [.int r75]) C aw_ok (fun _ h => h) lk_L_98 sh_36 nc_8 (by decide) rfl rfl (Nat.le_of_ble_eq_true rfl) dL_law_736 hf (fun r s h => k_X8_month _ _ _ _ (r, s) h) (fun r77 s76 hf => ?_)
      refine X_icmp_eq (tgt := 910) C dL_law_739 (by decide) hf (fun hf => ?_) (fun hf => ?_)
      · exact w_L_law_910 C LX LZ ho hK18 _ _ hf
      · refine X_iconst (v := (0:Int32)) C dL_law_742 (by decide) ?_
        exact X_lwr C LZ dL_law_743 hf ho
    refine X_sw (k0 := (20:Int32)) hf (fun e hf => ?_) (fun n20 hf => ?_)
    · refine X_tin (tgt := 744) C dL_law_32 (by rw [e]; decide) (by rw [e]; decide) (by rw [e]; rfl) (by decide) ?_
      refine X_aload_n C 1 dL_law_744 rfl rfl ?_
      refine X_aload_n C 0 dL_law_745 rfl rfl ?_
      refine X_iload_n C 3 dL_law_746 rfl rfl ?_
      refine X_iconst (v := (1:Int32)) C dL_law_747 (by decide) ?_
      refine X_iadd C dL_law_748 ?_
      refine X_sld C LX dL_law_749 hf (fun hf => ?_)
      refine X_aload_n C 0 dL_law_750 rfl rfl ?_
      refine X_iload_n C 3 dL_law_751 rfl rfl ?_
      refine X_iconst (v := (2:Int32)) C dL_law_752 (by decide) ?_
      refine X_iadd C dL_law_753 ?_
      refine X_sld C LX dL_law_754 hf (fun hf => ?_)
      refine X_aload_n C 0 dL_law_755 rfl rfl ?_
      refine X_iload_n C 3 dL_law_756 rfl rfl ?_
      refine X_iconst (v := (3:Int32)) C dL_law_757 (by decide) ?_
      refine X_iadd C dL_law_758 ?_
      refine X_sld C LX dL_law_759 hf (fun hf => ?_)
      refine X_aload_n C 0 dL_law_760 rfl rfl ?_
      refine X_iload_n C 3 dL_law_761 rfl rfl ?_
      refine X_iconst (v := (4:Int32)) C dL_law_762 (by decide) ?_
      refine X_iadd C dL_law_763 ?_
      refine X_sld C LX dL_law_764 hf (fun hf => ?_)
      refine X_callVi (As := [.int (xs (v3 + ((1:Int32))).toNatClampNeg), .int (xs (v3 + ((2:Int32))).toNatClampNeg), .int (xs (v3 + ((3:Int32))).toNatClampNeg), .int (xs (v3 + ((4:Int32))).toNatClampNeg)]) (rest := []) C aw_ok (fun _ h => h) lk_L_99 sh_0 nc_7 (by decide) rfl rfl (Nat.le_of_ble_eq_true rfl) dL_law_765 hf (fun r s h => k_X7_pace _ _ _ _ _ (r, s) h) (fun r79 s78 hf => ?_)
      refine X_aload_n C 2 dL_law_768 rfl rfl ?_
      refine X_aload_n C 0 dL_law_769 rfl rfl ?_
      refine X_iload_n C 3 dL_law_770 rfl rfl ?_
      refine X_iconst (v := (1:Int32)) C dL_law_771 (by decide) ?_
      refine X_iadd C dL_law_772 ?_
      refine X_sld C LX dL_law_773 hf (fun hf => ?_)
      refine X_aload_n C 0 dL_law_774 rfl rfl ?_
      refine X_iload_n C 3 dL_law_775 rfl rfl ?_
      refine X_iconst (v := (2:Int32)) C dL_law_776 (by decide) ?_
      refine X_iadd C dL_law_777 ?_
      refine X_sld C LX dL_law_778 hf (fun hf => ?_)
      refine X_aload_n C 0 dL_law_779 rfl rfl ?_
      refine X_iload_n C 3 dL_law_780 rfl rfl ?_
      refine X_iconst (v := (3:Int32)) C dL_law_781 (by decide) ?_
      refine X_iadd C dL_law_782 ?_
      refine X_sld C LX dL_law_783 hf (fun hf => ?_)
      refine X_aload_n C 0 dL_law_784 rfl rfl ?_
      refine X_iload_n C 3 dL_law_785 rfl rfl ?_
      refine X_iconst (v := (4:Int32)) C dL_law_786 (by decide) ?_
      refine X_iadd C dL_law_787 ?_
      refine X_sld C LX dL_law_788 hf (fun hf => ?_)
      refine X_callVi (As := [.int (xs (v3 + ((1:Int32))).toNatClampNeg), .int (xs (v3 + ((2:Int32))).toNatClampNeg), .int (xs (v3 + ((3:Int32))).toNatClampNeg), .int (xs (v3 + ((4:Int32))).toNatClampNeg)]) (rest := [.int r79]) C aw_ok (fun _ h => h) lk_L_102 sh_36 nc_8 (by decide) rfl rfl (Nat.le_of_ble_eq_true rfl) dL_law_789 hf (fun r s h => k_X8_pace _ _ _ _ _ (r, s) h) (fun r81 s80 hf => ?_)
      refine X_icmp_eq (tgt := 910) C dL_law_792 (by decide) hf (fun hf => ?_) (fun hf => ?_)
      · exact w_L_law_910 C LX LZ ho hK18 _ _ hf
      · refine X_iconst (v := (0:Int32)) C dL_law_795 (by decide) ?_
        exact X_lwr C LZ dL_law_796 hf ho
    refine X_sw (k0 := (21:Int32)) hf (fun e hf => ?_) (fun n21 hf => ?_)
    · refine X_tin (tgt := 797) C dL_law_32 (by rw [e]; decide) (by rw [e]; decide) (by rw [e]; rfl) (by decide) ?_
      refine X_aload_n C 1 dL_law_797 rfl rfl ?_
      refine X_aload_n C 0 dL_law_798 rfl rfl ?_
      refine X_iload_n C 3 dL_law_799 rfl rfl ?_
      refine X_iconst (v := (1:Int32)) C dL_law_800 (by decide) ?_
      refine X_iadd C dL_law_801 ?_
      refine X_sld C LX dL_law_802 hf (fun hf => ?_)
      refine X_aload_n C 0 dL_law_803 rfl rfl ?_
      refine X_iload_n C 3 dL_law_804 rfl rfl ?_
      refine X_iconst (v := (2:Int32)) C dL_law_805 (by decide) ?_
      refine X_iadd C dL_law_806 ?_
      refine X_sld C LX dL_law_807 hf (fun hf => ?_)
      refine X_aload_n C 0 dL_law_808 rfl rfl ?_
      refine X_iload_n C 3 dL_law_809 rfl rfl ?_
      refine X_iconst (v := (3:Int32)) C dL_law_810 (by decide) ?_
      refine X_iadd C dL_law_811 ?_
      refine X_sld C LX dL_law_812 hf (fun hf => ?_)
      refine X_aload_n C 0 dL_law_813 rfl rfl ?_
      refine X_iload_n C 3 dL_law_814 rfl rfl ?_
      refine X_iconst (v := (4:Int32)) C dL_law_815 (by decide) ?_
      refine X_iadd C dL_law_816 ?_
      refine X_sld C LX dL_law_817 hf (fun hf => ?_)
      refine X_callVi (As := [.int (xs (v3 + ((1:Int32))).toNatClampNeg), .int (xs (v3 + ((2:Int32))).toNatClampNeg), .int (xs (v3 + ((3:Int32))).toNatClampNeg), .int (xs (v3 + ((4:Int32))).toNatClampNeg)]) (rest := []) C aw_ok (fun _ h => h) lk_L_103 sh_0 nc_7 (by decide) rfl rfl (Nat.le_of_ble_eq_true rfl) dL_law_818 hf (fun r s h => k_X7_plan _ _ _ _ _ (r, s) h) (fun r83 s82 hf => ?_)
      refine X_aload_n C 2 dL_law_821 rfl rfl ?_
      refine X_aload_n C 0 dL_law_822 rfl rfl ?_
      refine X_iload_n C 3 dL_law_823 rfl rfl ?_
      refine X_iconst (v := (1:Int32)) C dL_law_824 (by decide) ?_
      refine X_iadd C dL_law_825 ?_
      refine X_sld C LX dL_law_826 hf (fun hf => ?_)
      refine X_aload_n C 0 dL_law_827 rfl rfl ?_
      refine X_iload_n C 3 dL_law_828 rfl rfl ?_
      refine X_iconst (v := (2:Int32)) C dL_law_829 (by decide) ?_
      refine X_iadd C dL_law_830 ?_
      refine X_sld C LX dL_law_831 hf (fun hf => ?_)
      refine X_aload_n C 0 dL_law_832 rfl rfl ?_
      refine X_iload_n C 3 dL_law_833 rfl rfl ?_
      refine X_iconst (v := (3:Int32)) C dL_law_834 (by decide) ?_
      refine X_iadd C dL_law_835 ?_
      refine X_sld C LX dL_law_836 hf (fun hf => ?_)
      refine X_aload_n C 0 dL_law_837 rfl rfl ?_
      refine X_iload_n C 3 dL_law_838 rfl rfl ?_
      refine X_iconst (v := (4:Int32)) C dL_law_839 (by decide) ?_
      refine X_iadd C dL_law_840 ?_
      refine X_sld C LX dL_law_841 hf (fun hf => ?_)
      refine X_callVi (As := [.int (xs (v3 + ((1:Int32))).toNatClampNeg), .int (xs (v3 + ((2:Int32))).toNatClampNeg), .int (xs (v3 + ((3:Int32))).toNatClampNeg), .int (xs (v3 + ((4:Int32))).toNatClampNeg)]) (rest := [.int r83]) C aw_ok (fun _ h => h) lk_L_106 sh_36 nc_8 (by decide) rfl rfl (Nat.le_of_ble_eq_true rfl) dL_law_842 hf (fun r s h => k_X8_plan _ _ _ _ _ (r, s) h) (fun r85 s84 hf => ?_)
      refine X_icmp_eq (tgt := 910) C dL_law_845 (by decide) hf (fun hf => ?_) (fun hf => ?_)
      · exact w_L_law_910 C LX LZ ho hK18 _ _ hf
      · refine X_iconst (v := (0:Int32)) C dL_law_848 (by decide) ?_
        exact X_lwr C LZ dL_law_849 hf ho
    refine X_sw (k0 := (22:Int32)) hf (fun e hf => ?_) (fun n22 hf => ?_)
    · refine X_tin (tgt := 850) C dL_law_32 (by rw [e]; decide) (by rw [e]; decide) (by rw [e]; rfl) (by decide) ?_
      refine X_aload_n C 1 dL_law_850 rfl rfl ?_
      refine X_aload_n C 0 dL_law_851 rfl rfl ?_
      refine X_iload_n C 3 dL_law_852 rfl rfl ?_
      refine X_iconst (v := (1:Int32)) C dL_law_853 (by decide) ?_
      refine X_iadd C dL_law_854 ?_
      refine X_sld C LX dL_law_855 hf (fun hf => ?_)
      refine X_callVi (As := [.int (xs (v3 + ((1:Int32))).toNatClampNeg)]) (rest := []) C aw_ok (fun _ h => h) lk_L_107 sh_0 nc_7 (by decide) rfl rfl (Nat.le_of_ble_eq_true rfl) dL_law_856 hf (fun r s h => k_X7_paceAt _ _ (r, s) h) (fun r87 s86 hf => ?_)
      refine X_aload_n C 2 dL_law_859 rfl rfl ?_
      refine X_aload_n C 0 dL_law_860 rfl rfl ?_
      refine X_iload_n C 3 dL_law_861 rfl rfl ?_
      refine X_iconst (v := (1:Int32)) C dL_law_862 (by decide) ?_
      refine X_iadd C dL_law_863 ?_
      refine X_sld C LX dL_law_864 hf (fun hf => ?_)
      refine X_callVi (As := [.int (xs (v3 + ((1:Int32))).toNatClampNeg)]) (rest := [.int r87]) C aw_ok (fun _ h => h) lk_L_110 sh_36 nc_8 (by decide) rfl rfl (Nat.le_of_ble_eq_true rfl) dL_law_865 hf (fun r s h => k_X8_paceAt _ _ (r, s) h) (fun r89 s88 hf => ?_)
      refine X_icmp_eq (tgt := 910) C dL_law_868 (by decide) hf (fun hf => ?_) (fun hf => ?_)
      · exact w_L_law_910 C LX LZ ho hK18 _ _ hf
      · refine X_iconst (v := (0:Int32)) C dL_law_871 (by decide) ?_
        exact X_lwr C LZ dL_law_872 hf ho
    refine X_sw (k0 := (23:Int32)) hf (fun e hf => ?_) (fun n23 hf => ?_)
    · refine X_tin (tgt := 873) C dL_law_32 (by rw [e]; decide) (by rw [e]; decide) (by rw [e]; rfl) (by decide) ?_
      refine X_aload_n C 1 dL_law_873 rfl rfl ?_
      refine X_aload_n C 0 dL_law_874 rfl rfl ?_
      refine X_iload_n C 3 dL_law_875 rfl rfl ?_
      refine X_iconst (v := (1:Int32)) C dL_law_876 (by decide) ?_
      refine X_iadd C dL_law_877 ?_
      refine X_sld C LX dL_law_878 hf (fun hf => ?_)
      refine X_callVi (As := [.int (xs (v3 + ((1:Int32))).toNatClampNeg)]) (rest := []) C aw_ok (fun _ h => h) lk_L_111 sh_0 nc_7 (by decide) rfl rfl (Nat.le_of_ble_eq_true rfl) dL_law_879 hf (fun r s h => k_X7_count _ _ (r, s) h) (fun r91 s90 hf => ?_)
      refine X_aload_n C 2 dL_law_882 rfl rfl ?_
      refine X_aload_n C 0 dL_law_883 rfl rfl ?_
      refine X_iload_n C 3 dL_law_884 rfl rfl ?_
      refine X_iconst (v := (1:Int32)) C dL_law_885 (by decide) ?_
      refine X_iadd C dL_law_886 ?_
      refine X_sld C LX dL_law_887 hf (fun hf => ?_)
      refine X_callVi (As := [.int (xs (v3 + ((1:Int32))).toNatClampNeg)]) (rest := [.int r91]) C aw_ok (fun _ h => h) lk_L_114 sh_36 nc_8 (by decide) rfl rfl (Nat.le_of_ble_eq_true rfl) dL_law_888 hf (fun r s h => k_X8_count _ _ (r, s) h) (fun r93 s92 hf => ?_)
      refine X_icmp_eq (tgt := 910) C dL_law_891 (by decide) hf (fun hf => ?_) (fun hf => ?_)
      · exact w_L_law_910 C LX LZ ho hK18 _ _ hf
      · refine X_iconst (v := (0:Int32)) C dL_law_894 (by decide) ?_
        exact X_lwr C LZ dL_law_895 hf ho
    refine X_sw (k0 := (24:Int32)) hf (fun e hf => ?_) (fun n24 hf => ?_)
    · refine X_tin (tgt := 896) C dL_law_32 (by rw [e]; decide) (by rw [e]; decide) (by rw [e]; rfl) (by decide) ?_
      refine X_aload_n C 1 dL_law_896 rfl rfl ?_
      refine X_callVl (As := []) (rest := []) C aw_ok (fun _ h => h) lk_L_115 sh_0 nc_7 (by decide) rfl rfl (Nat.le_of_ble_eq_true rfl) dL_law_897 hf (fun r s h => k_X7_digest _ (r, s) h) (fun r95 s94 hf => ?_)
      refine X_aload_n C 2 dL_law_900 rfl rfl ?_
      refine X_callVl (As := []) (rest := [.long r95]) C aw_ok (fun _ h => h) lk_L_119 sh_36 nc_8 (by decide) rfl rfl (Nat.le_of_ble_eq_true rfl) dL_law_901 hf (fun r s h => k_X8_digest _ (r, s) h) (fun r97 s96 hf => ?_)
      refine X_lcmp C dL_law_904 ?_
      refine X_if_eq (tgt := 910) C dL_law_905 (by decide) hf (fun hf => ?_) (fun hf => ?_)
      · exact w_L_law_910 C LX LZ ho hK18 _ _ hf
      · refine X_iconst (v := (0:Int32)) C dL_law_908 (by decide) ?_
        exact X_lwr C LZ dL_law_909 hf ho
    refine X_tout (tgt := 910) C dL_law_32 (by have := lv_neT n0 (show (0:Int32).toInt = 0 from by decide); have := lv_neT n1 (show (1:Int32).toInt = 1 from by decide); have := lv_neT n2 (show (2:Int32).toInt = 2 from by decide); have := lv_neT n3 (show (3:Int32).toInt = 3 from by decide); have := lv_neT n4 (show (4:Int32).toInt = 4 from by decide); have := lv_neT n5 (show (5:Int32).toInt = 5 from by decide); have := lv_neT n6 (show (6:Int32).toInt = 6 from by decide); have := lv_neT n7 (show (7:Int32).toInt = 7 from by decide); have := lv_neT n8 (show (8:Int32).toInt = 8 from by decide); have := lv_neT n9 (show (9:Int32).toInt = 9 from by decide); have := lv_neT n10 (show (10:Int32).toInt = 10 from by decide); have := lv_neT n11 (show (11:Int32).toInt = 11 from by decide); have := lv_neT n12 (show (12:Int32).toInt = 12 from by decide); have := lv_neT n13 (show (13:Int32).toInt = 13 from by decide); have := lv_neT n14 (show (14:Int32).toInt = 14 from by decide); have := lv_neT n15 (show (15:Int32).toInt = 15 from by decide); have := lv_neT n16 (show (16:Int32).toInt = 16 from by decide); have := lv_neT n17 (show (17:Int32).toInt = 17 from by decide); have := lv_neT n18 (show (18:Int32).toInt = 18 from by decide); have := lv_neT n19 (show (19:Int32).toInt = 19 from by decide); have := lv_neT n20 (show (20:Int32).toInt = 20 from by decide); have := lv_neT n21 (show (21:Int32).toInt = 21 from by decide); have := lv_neT n22 (show (22:Int32).toInt = 22 from by decide); have := lv_neT n23 (show (23:Int32).toInt = 23 from by decide); have := lv_neT n24 (show (24:Int32).toInt = 24 from by decide); omega) (by decide) ?_
    exact w_L_law_910 C LX LZ ho hK18 _ _ hf
def b_L_law_18 (N : Nat) (Ln : Nat) (xs : Nat → Int32) : Nat → Sg → Int32 → Option (Int32 × Sg)
  | 0, _, _ => none
  | j + 1, s, v3 => c_L_law_18 N Ln xs (b_L_law_18 N Ln xs j) s v3
theorem h_L_law_18 {X : Ctx} {N Ln : Nat} {xs : Nat → Int32} {o : Int32 × Sg} (C : Cx NM X cL_law 4 RL AW (some .boolean) room_1) (LX : Lx X Ln xs) (LZ : Lz X) (ho : o.1 = 1) : ∀ (j : Nat) (s : Sg) (v3 : Int32), b_L_law_18 N Ln xs j s v3 = some o → XW NM X 4 69 6753 SH s 18 [(0, .ref 1000), (1, .ref 0), (2, .ref 36), (3, .int v3)] [] := by
  intro j
  induction j with
  | zero => intro s v3 hf; cases (show none = some o from hf)
  | succ j ih => intro s v3 hf; exact w_L_law_18 C LX LZ ho ih s v3 hf
