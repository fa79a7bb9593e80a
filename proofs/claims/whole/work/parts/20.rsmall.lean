theorem hd_X6_add_v : yX6_add.cls = RX6 ∧ yX6_add.cls ≠ "java/lang/invoke/MethodHandle" ∧ yX6_add.cls ≠ "java/lang/invoke/VarHandle" ∧ (parseMethodDescriptor yX6_add.desc).map (fun d => d.parameters.length) = some 6 := by decide +kernel
set_option maxRecDepth 20000 in
theorem mX6_add_f66 : Cond.fieldLink RX6 66 "BreakSearchModel" "items" "I" ∈ wsX6_add := by decide +kernel
set_option maxRecDepth 20000 in
theorem iX6_add_6 : ∀ w ∈ u_ws RX6 TX6 26, w ∈ wsX6_add := by decide +kernel
set_option maxRecDepth 20000 in
theorem mX6_add_f7 : Cond.fieldLink RX6 7 "BreakSearchModel" "kinds" "[I" ∈ wsX6_add := by decide +kernel
set_option maxRecDepth 20000 in
theorem mX6_add_f13 : Cond.fieldLink RX6 13 "BreakSearchModel" "widths" "[I" ∈ wsX6_add := by decide +kernel
set_option maxRecDepth 20000 in
theorem mX6_add_f16 : Cond.fieldLink RX6 16 "BreakSearchModel" "stretches" "[I" ∈ wsX6_add := by decide +kernel
set_option maxRecDepth 20000 in
theorem mX6_add_f19 : Cond.fieldLink RX6 19 "BreakSearchModel" "shrinks" "[I" ∈ wsX6_add := by decide +kernel
set_option maxRecDepth 20000 in
theorem mX6_add_f22 : Cond.fieldLink RX6 22 "BreakSearchModel" "values" "[I" ∈ wsX6_add := by decide +kernel
set_option maxRecDepth 20000 in
theorem mX6_add_f25 : Cond.fieldLink RX6 25 "BreakSearchModel" "marked" "[Z" ∈ wsX6_add := by decide +kernel
abbrev rm_X6_add : Room := { frames := 1, cells := 0, slots := 0, locals := 12 }
set_option maxHeartbeats 4000000 in
set_option maxRecDepth 100000 in
theorem c_X6_add (l : Launch) (g : zG) (hM mK mW mT mS mV mM mX mY mI mJ mG mC mR mN mE mL mB mU : Nat) (n lk bd so dm tt sm po : Int) (KR WR TR SR VR MR XR YR IR JR GR CR RR NR ER LR BR UR : Int → Int) (k w t s v b : Int) (h1 : 0 ≤ n ∧ n ≤ 100) (h2 : b = 0 ∨ b = 1) : zMWi (S := (Int → Int) × (Int → Int) × (Int → Int) × (Int → Int) × (Int → Int) × (Int → Int) × (Int) × (Int)) l yX6_add wsX6_add rm_X6_add g [(hM, eo 6 [.int (iZ (n)), .ref mK, .ref mW, .ref mT, .ref mS, .ref mV, .ref mM, .ref mX, .ref mY, .ref mI, .ref mJ, .ref mG, .ref mC, .ref mR, .ref mN, .int (iZ (lk)), .int (iZ (bd)), .int (iZ (so)), .long (lZ (dm)), .int (iZ (tt)), .ref mE, .ref mL, .ref mB, .ref mU, .long (lZ (sm)), .int (iZ (po))]), (mK, ei g 100 KR), (mW, ei g 100 WR), (mT, ei g 100 TR), (mS, ei g 100 SR), (mV, ei g 100 VR), (mM, ez g 100 MR), (mX, ei g 50 XR), (mY, ei g 3 YR), (mI, ei g 101 IR), (mJ, ei g 101 JR), (mG, ei g 101 GR), (mC, el g 20604 CR), (mR, ei g 20604 RR), (mN, ei g 20604 NR), (mE, ei g 50 ER), (mL, ei g 50 LR), (mB, ei g 50 BR), (mU, ei g 50 UR)] [.ref hM, .int (iZ (k)), .int (iZ (w)), .int (iZ (t)), .int (iZ (s)), .int (iZ (v)), .int (iZ (b))] (fun u => ((n = 100) ∧ u = (KR, WR, TR, SR, VR, MR, n, -2)) ∨ ((n < 100) ∧ u = (uZ KR n (k), uZ WR n (w), uZ TR n (t), uZ SR n (s), uZ VR n (v), uZ MR n (b), n + 1, n + 1 - 1))) (fun u => u.2.2.2.2.2.2.2) (fun u => [(hM, eo 6 [.int (iZ (u.2.2.2.2.2.2.1)), .ref mK, .ref mW, .ref mT, .ref mS, .ref mV, .ref mM, .ref mX, .ref mY, .ref mI, .ref mJ, .ref mG, .ref mC, .ref mR, .ref mN, .int (iZ (lk)), .int (iZ (bd)), .int (iZ (so)), .long (lZ (dm)), .int (iZ (tt)), .ref mE, .ref mL, .ref mB, .ref mU, .long (lZ (sm)), .int (iZ (po))]), (mK, ei g 100 u.1), (mW, ei g 100 u.2.1), (mT, ei g 100 u.2.2.1), (mS, ei g 100 u.2.2.2.1), (mV, ei g 100 u.2.2.2.2.1), (mM, ez g 100 u.2.2.2.2.2.1), (mX, ei g 50 XR), (mY, ei g 3 YR), (mI, ei g 101 IR), (mJ, ei g 101 JR), (mG, ei g 101 GR), (mC, el g 20604 CR), (mR, ei g 20604 RR), (mN, ei g 20604 NR), (mE, ei g 50 ER), (mL, ei g 50 LR), (mB, ei g 50 BR), (mU, ei g 50 UR)]) 0 0 := by
  refine z_beWi (cc := cX6_add) (nL := 7) (ret := some .int) (plainFor_of_name (by decide +kernel)) rfl (Or.inl rfl) (Nat.le_of_ble_eq_true rfl) ?_
  intro X A hC hN hR
  have hC : zC X g cX6_add RX6 wsX6_add rm_X6_add 7 := hC
  show ZG X g (zD X A) 0 0 [(hM, eo 6 [.int (iZ (n)), .ref mK, .ref mW, .ref mT, .ref mS, .ref mV, .ref mM, .ref mX, .ref mY, .ref mI, .ref mJ, .ref mG, .ref mC, .ref mR, .ref mN, .int (iZ (lk)), .int (iZ (bd)), .int (iZ (so)), .long (lZ (dm)), .int (iZ (tt)), .ref mE, .ref mL, .ref mB, .ref mU, .long (lZ (sm)), .int (iZ (po))]), (mK, ei g 100 KR), (mW, ei g 100 WR), (mT, ei g 100 TR), (mS, ei g 100 SR), (mV, ei g 100 VR), (mM, ez g 100 MR), (mX, ei g 50 XR), (mY, ei g 3 YR), (mI, ei g 101 IR), (mJ, ei g 101 JR), (mG, ei g 101 GR), (mC, el g 20604 CR), (mR, ei g 20604 RR), (mN, ei g 20604 NR), (mE, ei g 50 ER), (mL, ei g 50 LR), (mB, ei g 50 BR), (mU, ei g 50 UR)] [(0, .ref hM), (1, .int (iZ (k))), (2, .int (iZ (w))), (3, .int (iZ (t))), (4, .int (iZ (s))), (5, .int (iZ (v))), (6, .int (iZ (b)))] 0 []
  refine z_aload_n hC 0 dX6_add_0 rfl rfl ?_
  refine z_get hC iX6_add_6 0 0 rfl rfl (by decide) mX6_add_f66 rfl dX6_add_1 ?_
  refine z_bip hC dX6_add_4 (by decide) ?_
  refine z_icmp_ne hC 12 dX6_add_6 (by decide) (by omega) (by omega) (fun c_6 => ?_) (fun c_6 => ?_)
  ·
    refine z_aload_n hC 0 dX6_add_12 rfl rfl ?_
    refine z_get hC iX6_add_6 0 1 rfl rfl (by decide) mX6_add_f7 rfl dX6_add_13 ?_
    refine z_aload_n hC 0 dX6_add_16 rfl rfl ?_
    refine z_get hC iX6_add_6 0 0 rfl rfl (by decide) mX6_add_f66 rfl dX6_add_17 ?_
    refine z_iload_n hC 1 dX6_add_20 rfl rfl ?_
    refine z_iast hC 1 rfl (by omega) (by decide) dX6_add_21 (ws' := [_, _, _, _, _, _, _, _, _, _, _, _, _, _, _, _, _, _, _]) rfl ?_
    refine z_aload_n hC 0 dX6_add_22 rfl rfl ?_
    refine z_get hC iX6_add_6 0 2 rfl rfl (by decide) mX6_add_f13 rfl dX6_add_23 ?_
    refine z_aload_n hC 0 dX6_add_26 rfl rfl ?_
    refine z_get hC iX6_add_6 0 0 rfl rfl (by decide) mX6_add_f66 rfl dX6_add_27 ?_
    refine z_iload_n hC 2 dX6_add_30 rfl rfl ?_
    refine z_iast hC 2 rfl (by omega) (by decide) dX6_add_31 (ws' := [_, _, _, _, _, _, _, _, _, _, _, _, _, _, _, _, _, _, _]) rfl ?_
    refine z_aload_n hC 0 dX6_add_32 rfl rfl ?_
    refine z_get hC iX6_add_6 0 3 rfl rfl (by decide) mX6_add_f16 rfl dX6_add_33 ?_
    refine z_aload_n hC 0 dX6_add_36 rfl rfl ?_
    refine z_get hC iX6_add_6 0 0 rfl rfl (by decide) mX6_add_f66 rfl dX6_add_37 ?_
    refine z_iload_n hC 3 dX6_add_40 rfl rfl ?_
    refine z_iast hC 3 rfl (by omega) (by decide) dX6_add_41 (ws' := [_, _, _, _, _, _, _, _, _, _, _, _, _, _, _, _, _, _, _]) rfl ?_
    refine z_aload_n hC 0 dX6_add_42 rfl rfl ?_
    refine z_get hC iX6_add_6 0 4 rfl rfl (by decide) mX6_add_f19 rfl dX6_add_43 ?_
    refine z_aload_n hC 0 dX6_add_46 rfl rfl ?_
    refine z_get hC iX6_add_6 0 0 rfl rfl (by decide) mX6_add_f66 rfl dX6_add_47 ?_
    refine z_iload hC 4 dX6_add_50 rfl ?_
    refine z_iast hC 4 rfl (by omega) (by decide) dX6_add_52 (ws' := [_, _, _, _, _, _, _, _, _, _, _, _, _, _, _, _, _, _, _]) rfl ?_
    refine z_aload_n hC 0 dX6_add_53 rfl rfl ?_
    refine z_get hC iX6_add_6 0 5 rfl rfl (by decide) mX6_add_f22 rfl dX6_add_54 ?_
    refine z_aload_n hC 0 dX6_add_57 rfl rfl ?_
    refine z_get hC iX6_add_6 0 0 rfl rfl (by decide) mX6_add_f66 rfl dX6_add_58 ?_
    refine z_iload hC 5 dX6_add_61 rfl ?_
    refine z_iast hC 5 rfl (by omega) (by decide) dX6_add_63 (ws' := [_, _, _, _, _, _, _, _, _, _, _, _, _, _, _, _, _, _, _]) rfl ?_
    refine z_aload_n hC 0 dX6_add_64 rfl rfl ?_
    refine z_get hC iX6_add_6 0 6 rfl rfl (by decide) mX6_add_f25 rfl dX6_add_65 ?_
    refine z_aload_n hC 0 dX6_add_68 rfl rfl ?_
    refine z_get hC iX6_add_6 0 0 rfl rfl (by decide) mX6_add_f66 rfl dX6_add_69 ?_
    refine z_iload hC 6 dX6_add_72 rfl ?_
    refine z_zast hC 6 rfl (by omega) (by decide) (by omega) dX6_add_74 (ws' := [_, _, _, _, _, _, _, _, _, _, _, _, _, _, _, _, _, _, _]) rfl ?_
    refine z_aload_n hC 0 dX6_add_75 rfl rfl ?_
    refine z_dup hC dX6_add_76 rfl ?_
    refine z_get hC iX6_add_6 0 0 rfl rfl (by decide) mX6_add_f66 rfl dX6_add_77 ?_
    refine z_iconst hC dX6_add_80 ?_
    refine z_iadd hC dX6_add_81 ?_
    refine z_put hC iX6_add_6 tyX6 tyX6_ok nmX6 0 0 rfl rfl (by decide) mX6_add_f66 rfl rfl rfl (Nat.le_of_ble_eq_true rfl) dX6_add_82 (ws' := [_, _, _, _, _, _, _, _, _, _, _, _, _, _, _, _, _, _, _]) rfl ?_
    refine z_aload_n hC 0 dX6_add_85 rfl rfl ?_
    refine z_get hC iX6_add_6 0 0 rfl rfl (by decide) mX6_add_f66 rfl dX6_add_86 ?_
    refine z_iconst hC dX6_add_89 ?_
    refine z_isub hC dX6_add_90 ?_
    exact hR (uZ KR n k, uZ WR n w, uZ TR n t, uZ SR n s, uZ VR n v, uZ MR n b, n + 1, (n + 1) - 1) _ _ _ [0, 1, 2, 3, 4, 5, 6, 7, 8, 9, 10, 11, 12, 13, 14, 15, 16, 17, 18] _ (by first | exact Or.inl ⟨by omega, rfl⟩ | exact Or.inr ⟨by omega, rfl⟩) rfl (by decide) rfl dX6_add_91
  ·
    refine z_bip hC dX6_add_9 (by decide) ?_
    exact hR (KR, WR, TR, SR, VR, MR, n, -2) _ _ _ [0, 1, 2, 3, 4, 5, 6, 7, 8, 9, 10, 11, 12, 13, 14, 15, 16, 17, 18] _ (by first | exact Or.inl ⟨by omega, rfl⟩ | exact Or.inr ⟨by omega, rfl⟩) rfl (by decide) rfl dX6_add_11
abbrev rm_X6_box : Room := { frames := 2, cells := 0, slots := 0, locals := 38 }
set_option maxHeartbeats 4000000 in
set_option maxRecDepth 100000 in
theorem c_X6_box (l : Launch) (g : zG) (hM mK mW mT mS mV mM mX mY mI mJ mG mC mR mN mE mL mB mU : Nat) (n lk bd so dm tt sm po : Int) (KR WR TR SR VR MR XR YR IR JR GR CR RR NR ER LR BR UR : Int → Int) (w : Int) (h1 : 0 ≤ n ∧ n ≤ 100) (h2 : -2147483648 ≤ w ∧ w ≤ 2147483647) : zMWi (S := (Int → Int) × (Int → Int) × (Int → Int) × (Int → Int) × (Int → Int) × (Int → Int) × (Int) × (Int)) l yX6_box wsX6_box rm_X6_box g [(hM, eo 6 [.int (iZ (n)), .ref mK, .ref mW, .ref mT, .ref mS, .ref mV, .ref mM, .ref mX, .ref mY, .ref mI, .ref mJ, .ref mG, .ref mC, .ref mR, .ref mN, .int (iZ (lk)), .int (iZ (bd)), .int (iZ (so)), .long (lZ (dm)), .int (iZ (tt)), .ref mE, .ref mL, .ref mB, .ref mU, .long (lZ (sm)), .int (iZ (po))]), (mK, ei g 100 KR), (mW, ei g 100 WR), (mT, ei g 100 TR), (mS, ei g 100 SR), (mV, ei g 100 VR), (mM, ez g 100 MR), (mX, ei g 50 XR), (mY, ei g 3 YR), (mI, ei g 101 IR), (mJ, ei g 101 JR), (mG, ei g 101 GR), (mC, el g 20604 CR), (mR, ei g 20604 RR), (mN, ei g 20604 NR), (mE, ei g 50 ER), (mL, ei g 50 LR), (mB, ei g 50 BR), (mU, ei g 50 UR)] [.ref hM, .int (iZ (w))] (fun u => ((¬ (0 ≤ w ∧ w ≤ 10000)) ∧ u = (KR, WR, TR, SR, VR, MR, n, -1)) ∨ (((0 ≤ w ∧ w ≤ 10000) ∧ n = 100) ∧ u = (KR, WR, TR, SR, VR, MR, n, -2)) ∨ (((0 ≤ w ∧ w ≤ 10000) ∧ n < 100) ∧ u = (uZ KR n (0), uZ WR n (w), uZ TR n (0), uZ SR n (0), uZ VR n (0), uZ MR n (0), n + 1, n + 1 - 1))) (fun u => u.2.2.2.2.2.2.2) (fun u => [(hM, eo 6 [.int (iZ (u.2.2.2.2.2.2.1)), .ref mK, .ref mW, .ref mT, .ref mS, .ref mV, .ref mM, .ref mX, .ref mY, .ref mI, .ref mJ, .ref mG, .ref mC, .ref mR, .ref mN, .int (iZ (lk)), .int (iZ (bd)), .int (iZ (so)), .long (lZ (dm)), .int (iZ (tt)), .ref mE, .ref mL, .ref mB, .ref mU, .long (lZ (sm)), .int (iZ (po))]), (mK, ei g 100 u.1), (mW, ei g 100 u.2.1), (mT, ei g 100 u.2.2.1), (mS, ei g 100 u.2.2.2.1), (mV, ei g 100 u.2.2.2.2.1), (mM, ez g 100 u.2.2.2.2.2.1), (mX, ei g 50 XR), (mY, ei g 3 YR), (mI, ei g 101 IR), (mJ, ei g 101 JR), (mG, ei g 101 GR), (mC, el g 20604 CR), (mR, ei g 20604 RR), (mN, ei g 20604 NR), (mE, ei g 50 ER), (mL, ei g 50 LR), (mB, ei g 50 BR), (mU, ei g 50 UR)]) 0 0 := by
  refine z_beWi (cc := cX6_box) (nL := 2) (ret := some .int) (plainFor_of_name (by decide +kernel)) rfl (Or.inl rfl) (Nat.le_of_ble_eq_true rfl) ?_
  intro X A hC hN hR
  have hC : zC X g cX6_box RX6 wsX6_box rm_X6_box 2 := hC
  show ZG X g (zD X A) 0 0 [(hM, eo 6 [.int (iZ (n)), .ref mK, .ref mW, .ref mT, .ref mS, .ref mV, .ref mM, .ref mX, .ref mY, .ref mI, .ref mJ, .ref mG, .ref mC, .ref mR, .ref mN, .int (iZ (lk)), .int (iZ (bd)), .int (iZ (so)), .long (lZ (dm)), .int (iZ (tt)), .ref mE, .ref mL, .ref mB, .ref mU, .long (lZ (sm)), .int (iZ (po))]), (mK, ei g 100 KR), (mW, ei g 100 WR), (mT, ei g 100 TR), (mS, ei g 100 SR), (mV, ei g 100 VR), (mM, ez g 100 MR), (mX, ei g 50 XR), (mY, ei g 3 YR), (mI, ei g 101 IR), (mJ, ei g 101 JR), (mG, ei g 101 GR), (mC, el g 20604 CR), (mR, ei g 20604 RR), (mN, ei g 20604 NR), (mE, ei g 50 ER), (mL, ei g 50 LR), (mB, ei g 50 BR), (mU, ei g 50 UR)] [(0, .ref hM), (1, .int (iZ (w)))] 0 []
  refine z_iload_n hC 1 dX6_box_0 rfl rfl ?_
  refine z_iconst hC dX6_box_1 ?_
  refine z_sip hC dX6_box_2 (by decide) ?_
  refine z_sRi hC 3 (c_X6_in (xl X) g _ _ _ (by omega) (by omega) (by omega)) gX6_box_X6_in rfl hd_X6_in_s (by decide) ⟨rfl, rfl⟩ [] (by decide) rfl rfl rfl (Nat.le_of_ble_eq_true rfl) dX6_box_5 (by decide) ?_
  refine z_if_eq hC 24 dX6_box_8 (by decide) (b2_r _) (fun c_8 => ?_) (fun c_8 => ?_)
  ·
    have c_8 := b2_f c_8
    refine z_iconst hC dX6_box_24 ?_
    exact hR (KR, WR, TR, SR, VR, MR, n, -1) _ _ _ [0, 1, 2, 3, 4, 5, 6, 7, 8, 9, 10, 11, 12, 13, 14, 15, 16, 17, 18] _ (by first | exact Or.inl ⟨by omega, rfl⟩ | exact Or.inr (Or.inl ⟨by omega, rfl⟩) | exact Or.inr (Or.inr ⟨by omega, rfl⟩)) rfl (by decide) rfl dX6_box_25
  ·
    have c_8 := b2_t c_8
    refine z_aload_n hC 0 dX6_box_11 rfl rfl ?_
    refine z_iconst hC dX6_box_12 ?_
    refine z_iload_n hC 1 dX6_box_13 rfl rfl ?_
    refine z_iconst hC dX6_box_14 ?_
    refine z_iconst hC dX6_box_15 ?_
    refine z_iconst hC dX6_box_16 ?_
    refine z_iconst hC dX6_box_17 ?_
    refine z_vWi (wr := []) hC 6 (c_X6_add (xl X) g _ _ _ _ _ _ _ _ _ _ _ _ _ _ _ _ _ _ _ _ _ _ _ _ _ _ _ _ _ _ _ _ _ _ _ _ _ _ _ _ _ _ _ _ _ _ _ _ _ _ _ (by omega) (by omega)) gX6_box_X6_add rfl hd_X6_add_v (by decide) ⟨rfl, rfl⟩ [0, 1, 2, 3, 4, 5, 6, 7, 8, 9, 10, 11, 12, 13, 14, 15, 16, 17, 18] [] (by decide) rfl rfl (by decide) (by decide) 0 6 rfl rfl rfl rfl rfl (Nat.le_of_ble_eq_true rfl) dX6_box_18 (by decide) (fun u_18 p_18 => ?_)
    rcases p_18 with ⟨a_18, rfl⟩ | ⟨a_18, rfl⟩
    ·
      refine z_ws (ws' := [(hM, eo 6 [.int (iZ (n)), .ref mK, .ref mW, .ref mT, .ref mS, .ref mV, .ref mM, .ref mX, .ref mY, .ref mI, .ref mJ, .ref mG, .ref mC, .ref mR, .ref mN, .int (iZ (lk)), .int (iZ (bd)), .int (iZ (so)), .long (lZ (dm)), .int (iZ (tt)), .ref mE, .ref mL, .ref mB, .ref mU, .long (lZ (sm)), .int (iZ (po))]), (mK, ei g 100 KR), (mW, ei g 100 WR), (mT, ei g 100 TR), (mS, ei g 100 SR), (mV, ei g 100 VR), (mM, ez g 100 MR), (mX, ei g 50 XR), (mY, ei g 3 YR), (mI, ei g 101 IR), (mJ, ei g 101 JR), (mG, ei g 101 GR), (mC, el g 20604 CR), (mR, ei g 20604 RR), (mN, ei g 20604 NR), (mE, ei g 50 ER), (mL, ei g 50 LR), (mB, ei g 50 BR), (mU, ei g 50 UR)]) [0, 1, 2, 3, 4, 5, 6, 7, 8, 9, 10, 11, 12, 13, 14, 15, 16, 17, 18] (by decide) rfl ?_
      refine z_top (b := (-2)) rfl ?_
      refine z_goto (tgt := 25) hC dX6_box_21 (by decide) ?_
      exact hR (KR, WR, TR, SR, VR, MR, n, (-2)) _ _ _ [0, 1, 2, 3, 4, 5, 6, 7, 8, 9, 10, 11, 12, 13, 14, 15, 16, 17, 18] _ (by first | exact Or.inl ⟨by omega, rfl⟩ | exact Or.inr (Or.inl ⟨by omega, rfl⟩) | exact Or.inr (Or.inr ⟨by omega, rfl⟩)) rfl (by decide) rfl dX6_box_25
    ·
      refine z_ws (ws' := [(hM, eo 6 [.int (iZ ((n + 1))), .ref mK, .ref mW, .ref mT, .ref mS, .ref mV, .ref mM, .ref mX, .ref mY, .ref mI, .ref mJ, .ref mG, .ref mC, .ref mR, .ref mN, .int (iZ (lk)), .int (iZ (bd)), .int (iZ (so)), .long (lZ (dm)), .int (iZ (tt)), .ref mE, .ref mL, .ref mB, .ref mU, .long (lZ (sm)), .int (iZ (po))]), (mK, ei g 100 ((uZ KR n (0)))), (mW, ei g 100 ((uZ WR n (w)))), (mT, ei g 100 ((uZ TR n (0)))), (mS, ei g 100 ((uZ SR n (0)))), (mV, ei g 100 ((uZ VR n (0)))), (mM, ez g 100 ((uZ MR n (0)))), (mX, ei g 50 XR), (mY, ei g 3 YR), (mI, ei g 101 IR), (mJ, ei g 101 JR), (mG, ei g 101 GR), (mC, el g 20604 CR), (mR, ei g 20604 RR), (mN, ei g 20604 NR), (mE, ei g 50 ER), (mL, ei g 50 LR), (mB, ei g 50 BR), (mU, ei g 50 UR)]) [0, 1, 2, 3, 4, 5, 6, 7, 8, 9, 10, 11, 12, 13, 14, 15, 16, 17, 18] (by decide) rfl ?_
      refine z_top (b := (n + 1 - 1)) rfl ?_
      refine z_goto (tgt := 25) hC dX6_box_21 (by decide) ?_
      exact hR ((uZ KR n (0)), (uZ WR n (w)), (uZ TR n (0)), (uZ SR n (0)), (uZ VR n (0)), (uZ MR n (0)), (n + 1), (n + 1 - 1)) _ _ _ [0, 1, 2, 3, 4, 5, 6, 7, 8, 9, 10, 11, 12, 13, 14, 15, 16, 17, 18] _ (by first | exact Or.inl ⟨by omega, rfl⟩ | exact Or.inr (Or.inl ⟨by omega, rfl⟩) | exact Or.inr (Or.inr ⟨by omega, rfl⟩)) rfl (by decide) rfl dX6_box_25
abbrev rm_X6_glue : Room := { frames := 2, cells := 0, slots := 0, locals := 38 }
set_option maxHeartbeats 4000000 in
set_option maxRecDepth 100000 in
theorem c_X6_glue (l : Launch) (g : zG) (hM mK mW mT mS mV mM mX mY mI mJ mG mC mR mN mE mL mB mU : Nat) (n lk bd so dm tt sm po : Int) (KR WR TR SR VR MR XR YR IR JR GR CR RR NR ER LR BR UR : Int → Int) (w t s : Int) (h1 : 0 ≤ n ∧ n ≤ 100) (h2 : -2147483648 ≤ w ∧ w ≤ 2147483647) (h3 : -2147483648 ≤ t ∧ t ≤ 2147483647) (h4 : -2147483648 ≤ s ∧ s ≤ 2147483647) : zMWi (S := (Int → Int) × (Int → Int) × (Int → Int) × (Int → Int) × (Int → Int) × (Int → Int) × (Int) × (Int)) l yX6_glue wsX6_glue rm_X6_glue g [(hM, eo 6 [.int (iZ (n)), .ref mK, .ref mW, .ref mT, .ref mS, .ref mV, .ref mM, .ref mX, .ref mY, .ref mI, .ref mJ, .ref mG, .ref mC, .ref mR, .ref mN, .int (iZ (lk)), .int (iZ (bd)), .int (iZ (so)), .long (lZ (dm)), .int (iZ (tt)), .ref mE, .ref mL, .ref mB, .ref mU, .long (lZ (sm)), .int (iZ (po))]), (mK, ei g 100 KR), (mW, ei g 100 WR), (mT, ei g 100 TR), (mS, ei g 100 SR), (mV, ei g 100 VR), (mM, ez g 100 MR), (mX, ei g 50 XR), (mY, ei g 3 YR), (mI, ei g 101 IR), (mJ, ei g 101 JR), (mG, ei g 101 GR), (mC, el g 20604 CR), (mR, ei g 20604 RR), (mN, ei g 20604 NR), (mE, ei g 50 ER), (mL, ei g 50 LR), (mB, ei g 50 BR), (mU, ei g 50 UR)] [.ref hM, .int (iZ (w)), .int (iZ (t)), .int (iZ (s))] (fun u => ((¬ ((0 ≤ w ∧ w ≤ 10000) ∧ (0 ≤ t ∧ t ≤ 10000) ∧ (0 ≤ s ∧ s ≤ 1000))) ∧ u = (KR, WR, TR, SR, VR, MR, n, -1)) ∨ ((((0 ≤ w ∧ w ≤ 10000) ∧ (0 ≤ t ∧ t ≤ 10000) ∧ (0 ≤ s ∧ s ≤ 1000)) ∧ n = 100) ∧ u = (KR, WR, TR, SR, VR, MR, n, -2)) ∨ ((((0 ≤ w ∧ w ≤ 10000) ∧ (0 ≤ t ∧ t ≤ 10000) ∧ (0 ≤ s ∧ s ≤ 1000)) ∧ n < 100) ∧ u = (uZ KR n (1), uZ WR n (w), uZ TR n (t), uZ SR n (s), uZ VR n (0), uZ MR n (0), n + 1, n + 1 - 1))) (fun u => u.2.2.2.2.2.2.2) (fun u => [(hM, eo 6 [.int (iZ (u.2.2.2.2.2.2.1)), .ref mK, .ref mW, .ref mT, .ref mS, .ref mV, .ref mM, .ref mX, .ref mY, .ref mI, .ref mJ, .ref mG, .ref mC, .ref mR, .ref mN, .int (iZ (lk)), .int (iZ (bd)), .int (iZ (so)), .long (lZ (dm)), .int (iZ (tt)), .ref mE, .ref mL, .ref mB, .ref mU, .long (lZ (sm)), .int (iZ (po))]), (mK, ei g 100 u.1), (mW, ei g 100 u.2.1), (mT, ei g 100 u.2.2.1), (mS, ei g 100 u.2.2.2.1), (mV, ei g 100 u.2.2.2.2.1), (mM, ez g 100 u.2.2.2.2.2.1), (mX, ei g 50 XR), (mY, ei g 3 YR), (mI, ei g 101 IR), (mJ, ei g 101 JR), (mG, ei g 101 GR), (mC, el g 20604 CR), (mR, ei g 20604 RR), (mN, ei g 20604 NR), (mE, ei g 50 ER), (mL, ei g 50 LR), (mB, ei g 50 BR), (mU, ei g 50 UR)]) 0 0 := by
  refine z_beWi (cc := cX6_glue) (nL := 4) (ret := some .int) (plainFor_of_name (by decide +kernel)) rfl (Or.inl rfl) (Nat.le_of_ble_eq_true rfl) ?_
  intro X A hC hN hR
  have hC : zC X g cX6_glue RX6 wsX6_glue rm_X6_glue 4 := hC
  show ZG X g (zD X A) 0 0 [(hM, eo 6 [.int (iZ (n)), .ref mK, .ref mW, .ref mT, .ref mS, .ref mV, .ref mM, .ref mX, .ref mY, .ref mI, .ref mJ, .ref mG, .ref mC, .ref mR, .ref mN, .int (iZ (lk)), .int (iZ (bd)), .int (iZ (so)), .long (lZ (dm)), .int (iZ (tt)), .ref mE, .ref mL, .ref mB, .ref mU, .long (lZ (sm)), .int (iZ (po))]), (mK, ei g 100 KR), (mW, ei g 100 WR), (mT, ei g 100 TR), (mS, ei g 100 SR), (mV, ei g 100 VR), (mM, ez g 100 MR), (mX, ei g 50 XR), (mY, ei g 3 YR), (mI, ei g 101 IR), (mJ, ei g 101 JR), (mG, ei g 101 GR), (mC, el g 20604 CR), (mR, ei g 20604 RR), (mN, ei g 20604 NR), (mE, ei g 50 ER), (mL, ei g 50 LR), (mB, ei g 50 BR), (mU, ei g 50 UR)] [(0, .ref hM), (1, .int (iZ (w))), (2, .int (iZ (t))), (3, .int (iZ (s)))] 0 []
  refine z_iload_n hC 1 dX6_glue_0 rfl rfl ?_
  refine z_iconst hC dX6_glue_1 ?_
  refine z_sip hC dX6_glue_2 (by decide) ?_
  refine z_sRi hC 3 (c_X6_in (xl X) g _ _ _ (by omega) (by omega) (by omega)) gX6_glue_X6_in rfl hd_X6_in_s (by decide) ⟨rfl, rfl⟩ [] (by decide) rfl rfl rfl (Nat.le_of_ble_eq_true rfl) dX6_glue_5 (by decide) ?_
  refine z_if_eq hC 46 dX6_glue_8 (by decide) (b2_r _) (fun c_8 => ?_) (fun c_8 => ?_)
  ·
    have c_8 := b2_f c_8
    refine z_iconst hC dX6_glue_46 ?_
    exact hR (KR, WR, TR, SR, VR, MR, n, -1) _ _ _ [0, 1, 2, 3, 4, 5, 6, 7, 8, 9, 10, 11, 12, 13, 14, 15, 16, 17, 18] _ (by first | exact Or.inl ⟨by omega, rfl⟩ | exact Or.inr (Or.inl ⟨by omega, rfl⟩) | exact Or.inr (Or.inr ⟨by omega, rfl⟩)) rfl (by decide) rfl dX6_glue_47
  ·
    have c_8 := b2_t c_8
    refine z_iload_n hC 2 dX6_glue_11 rfl rfl ?_
    refine z_iconst hC dX6_glue_12 ?_
    refine z_sip hC dX6_glue_13 (by decide) ?_
    refine z_sRi hC 3 (c_X6_in (xl X) g _ _ _ (by omega) (by omega) (by omega)) gX6_glue_X6_in rfl hd_X6_in_s (by decide) ⟨rfl, rfl⟩ [] (by decide) rfl rfl rfl (Nat.le_of_ble_eq_true rfl) dX6_glue_16 (by decide) ?_
    refine z_if_eq hC 46 dX6_glue_19 (by decide) (b2_r _) (fun c_19 => ?_) (fun c_19 => ?_)
    ·
      have c_19 := b2_f c_19
      refine z_iconst hC dX6_glue_46 ?_
      exact hR (KR, WR, TR, SR, VR, MR, n, -1) _ _ _ [0, 1, 2, 3, 4, 5, 6, 7, 8, 9, 10, 11, 12, 13, 14, 15, 16, 17, 18] _ (by first | exact Or.inl ⟨by omega, rfl⟩ | exact Or.inr (Or.inl ⟨by omega, rfl⟩) | exact Or.inr (Or.inr ⟨by omega, rfl⟩)) rfl (by decide) rfl dX6_glue_47
    ·
      have c_19 := b2_t c_19
      refine z_iload_n hC 3 dX6_glue_22 rfl rfl ?_
      refine z_iconst hC dX6_glue_23 ?_
      refine z_sip hC dX6_glue_24 (by decide) ?_
      refine z_sRi hC 3 (c_X6_in (xl X) g _ _ _ (by omega) (by omega) (by omega)) gX6_glue_X6_in rfl hd_X6_in_s (by decide) ⟨rfl, rfl⟩ [] (by decide) rfl rfl rfl (Nat.le_of_ble_eq_true rfl) dX6_glue_27 (by decide) ?_
      refine z_if_eq hC 46 dX6_glue_30 (by decide) (b2_r _) (fun c_30 => ?_) (fun c_30 => ?_)
      ·
        have c_30 := b2_f c_30
        refine z_iconst hC dX6_glue_46 ?_
        exact hR (KR, WR, TR, SR, VR, MR, n, -1) _ _ _ [0, 1, 2, 3, 4, 5, 6, 7, 8, 9, 10, 11, 12, 13, 14, 15, 16, 17, 18] _ (by first | exact Or.inl ⟨by omega, rfl⟩ | exact Or.inr (Or.inl ⟨by omega, rfl⟩) | exact Or.inr (Or.inr ⟨by omega, rfl⟩)) rfl (by decide) rfl dX6_glue_47
      ·
        have c_30 := b2_t c_30
        refine z_aload_n hC 0 dX6_glue_33 rfl rfl ?_
        refine z_iconst hC dX6_glue_34 ?_
        refine z_iload_n hC 1 dX6_glue_35 rfl rfl ?_
        refine z_iload_n hC 2 dX6_glue_36 rfl rfl ?_
        refine z_iload_n hC 3 dX6_glue_37 rfl rfl ?_
        refine z_iconst hC dX6_glue_38 ?_
        refine z_iconst hC dX6_glue_39 ?_
        refine z_vWi (wr := []) hC 6 (c_X6_add (xl X) g _ _ _ _ _ _ _ _ _ _ _ _ _ _ _ _ _ _ _ _ _ _ _ _ _ _ _ _ _ _ _ _ _ _ _ _ _ _ _ _ _ _ _ _ _ _ _ _ _ _ _ (by omega) (by omega)) gX6_glue_X6_add rfl hd_X6_add_v (by decide) ⟨rfl, rfl⟩ [0, 1, 2, 3, 4, 5, 6, 7, 8, 9, 10, 11, 12, 13, 14, 15, 16, 17, 18] [] (by decide) rfl rfl (by decide) (by decide) 0 6 rfl rfl rfl rfl rfl (Nat.le_of_ble_eq_true rfl) dX6_glue_40 (by decide) (fun u_40 p_40 => ?_)
        rcases p_40 with ⟨a_40, rfl⟩ | ⟨a_40, rfl⟩
        ·
          refine z_ws (ws' := [(hM, eo 6 [.int (iZ (n)), .ref mK, .ref mW, .ref mT, .ref mS, .ref mV, .ref mM, .ref mX, .ref mY, .ref mI, .ref mJ, .ref mG, .ref mC, .ref mR, .ref mN, .int (iZ (lk)), .int (iZ (bd)), .int (iZ (so)), .long (lZ (dm)), .int (iZ (tt)), .ref mE, .ref mL, .ref mB, .ref mU, .long (lZ (sm)), .int (iZ (po))]), (mK, ei g 100 KR), (mW, ei g 100 WR), (mT, ei g 100 TR), (mS, ei g 100 SR), (mV, ei g 100 VR), (mM, ez g 100 MR), (mX, ei g 50 XR), (mY, ei g 3 YR), (mI, ei g 101 IR), (mJ, ei g 101 JR), (mG, ei g 101 GR), (mC, el g 20604 CR), (mR, ei g 20604 RR), (mN, ei g 20604 NR), (mE, ei g 50 ER), (mL, ei g 50 LR), (mB, ei g 50 BR), (mU, ei g 50 UR)]) [0, 1, 2, 3, 4, 5, 6, 7, 8, 9, 10, 11, 12, 13, 14, 15, 16, 17, 18] (by decide) rfl ?_
          refine z_top (b := (-2)) rfl ?_
          refine z_goto (tgt := 47) hC dX6_glue_43 (by decide) ?_
          exact hR (KR, WR, TR, SR, VR, MR, n, (-2)) _ _ _ [0, 1, 2, 3, 4, 5, 6, 7, 8, 9, 10, 11, 12, 13, 14, 15, 16, 17, 18] _ (by first | exact Or.inl ⟨by omega, rfl⟩ | exact Or.inr (Or.inl ⟨by omega, rfl⟩) | exact Or.inr (Or.inr ⟨by omega, rfl⟩)) rfl (by decide) rfl dX6_glue_47
        ·
          refine z_ws (ws' := [(hM, eo 6 [.int (iZ ((n + 1))), .ref mK, .ref mW, .ref mT, .ref mS, .ref mV, .ref mM, .ref mX, .ref mY, .ref mI, .ref mJ, .ref mG, .ref mC, .ref mR, .ref mN, .int (iZ (lk)), .int (iZ (bd)), .int (iZ (so)), .long (lZ (dm)), .int (iZ (tt)), .ref mE, .ref mL, .ref mB, .ref mU, .long (lZ (sm)), .int (iZ (po))]), (mK, ei g 100 ((uZ KR n (1)))), (mW, ei g 100 ((uZ WR n (w)))), (mT, ei g 100 ((uZ TR n (t)))), (mS, ei g 100 ((uZ SR n (s)))), (mV, ei g 100 ((uZ VR n (0)))), (mM, ez g 100 ((uZ MR n (0)))), (mX, ei g 50 XR), (mY, ei g 3 YR), (mI, ei g 101 IR), (mJ, ei g 101 JR), (mG, ei g 101 GR), (mC, el g 20604 CR), (mR, ei g 20604 RR), (mN, ei g 20604 NR), (mE, ei g 50 ER), (mL, ei g 50 LR), (mB, ei g 50 BR), (mU, ei g 50 UR)]) [0, 1, 2, 3, 4, 5, 6, 7, 8, 9, 10, 11, 12, 13, 14, 15, 16, 17, 18] (by decide) rfl ?_
          refine z_top (b := (n + 1 - 1)) rfl ?_
          refine z_goto (tgt := 47) hC dX6_glue_43 (by decide) ?_
          exact hR ((uZ KR n (1)), (uZ WR n (w)), (uZ TR n (t)), (uZ SR n (s)), (uZ VR n (0)), (uZ MR n (0)), (n + 1), (n + 1 - 1)) _ _ _ [0, 1, 2, 3, 4, 5, 6, 7, 8, 9, 10, 11, 12, 13, 14, 15, 16, 17, 18] _ (by first | exact Or.inl ⟨by omega, rfl⟩ | exact Or.inr (Or.inl ⟨by omega, rfl⟩) | exact Or.inr (Or.inr ⟨by omega, rfl⟩)) rfl (by decide) rfl dX6_glue_47
abbrev rm_X6_penalty : Room := { frames := 2, cells := 0, slots := 0, locals := 38 }
set_option maxHeartbeats 4000000 in
set_option maxRecDepth 100000 in
theorem c_X6_penalty (l : Launch) (g : zG) (hM mK mW mT mS mV mM mX mY mI mJ mG mC mR mN mE mL mB mU : Nat) (n lk bd so dm tt sm po : Int) (KR WR TR SR VR MR XR YR IR JR GR CR RR NR ER LR BR UR : Int → Int) (x w b : Int) (h1 : 0 ≤ n ∧ n ≤ 100) (h2 : -2147483648 ≤ x ∧ x ≤ 2147483647) (h3 : -2147483648 ≤ w ∧ w ≤ 2147483647) (h4 : b = 0 ∨ b = 1) : zMWi (S := (Int → Int) × (Int → Int) × (Int → Int) × (Int → Int) × (Int → Int) × (Int → Int) × (Int) × (Int)) l yX6_penalty wsX6_penalty rm_X6_penalty g [(hM, eo 6 [.int (iZ (n)), .ref mK, .ref mW, .ref mT, .ref mS, .ref mV, .ref mM, .ref mX, .ref mY, .ref mI, .ref mJ, .ref mG, .ref mC, .ref mR, .ref mN, .int (iZ (lk)), .int (iZ (bd)), .int (iZ (so)), .long (lZ (dm)), .int (iZ (tt)), .ref mE, .ref mL, .ref mB, .ref mU, .long (lZ (sm)), .int (iZ (po))]), (mK, ei g 100 KR), (mW, ei g 100 WR), (mT, ei g 100 TR), (mS, ei g 100 SR), (mV, ei g 100 VR), (mM, ez g 100 MR), (mX, ei g 50 XR), (mY, ei g 3 YR), (mI, ei g 101 IR), (mJ, ei g 101 JR), (mG, ei g 101 GR), (mC, el g 20604 CR), (mR, ei g 20604 RR), (mN, ei g 20604 NR), (mE, ei g 50 ER), (mL, ei g 50 LR), (mB, ei g 50 BR), (mU, ei g 50 UR)] [.ref hM, .int (iZ (x)), .int (iZ (w)), .int (iZ (b))] (fun u => ((¬ ((-10000 ≤ x ∧ x ≤ 10000) ∧ (0 ≤ w ∧ w ≤ 10000))) ∧ u = (KR, WR, TR, SR, VR, MR, n, -1)) ∨ ((((-10000 ≤ x ∧ x ≤ 10000) ∧ (0 ≤ w ∧ w ≤ 10000)) ∧ n = 100) ∧ u = (KR, WR, TR, SR, VR, MR, n, -2)) ∨ ((((-10000 ≤ x ∧ x ≤ 10000) ∧ (0 ≤ w ∧ w ≤ 10000)) ∧ n < 100) ∧ u = (uZ KR n (2), uZ WR n (w), uZ TR n (0), uZ SR n (0), uZ VR n (x), uZ MR n (b), n + 1, n + 1 - 1))) (fun u => u.2.2.2.2.2.2.2) (fun u => [(hM, eo 6 [.int (iZ (u.2.2.2.2.2.2.1)), .ref mK, .ref mW, .ref mT, .ref mS, .ref mV, .ref mM, .ref mX, .ref mY, .ref mI, .ref mJ, .ref mG, .ref mC, .ref mR, .ref mN, .int (iZ (lk)), .int (iZ (bd)), .int (iZ (so)), .long (lZ (dm)), .int (iZ (tt)), .ref mE, .ref mL, .ref mB, .ref mU, .long (lZ (sm)), .int (iZ (po))]), (mK, ei g 100 u.1), (mW, ei g 100 u.2.1), (mT, ei g 100 u.2.2.1), (mS, ei g 100 u.2.2.2.1), (mV, ei g 100 u.2.2.2.2.1), (mM, ez g 100 u.2.2.2.2.2.1), (mX, ei g 50 XR), (mY, ei g 3 YR), (mI, ei g 101 IR), (mJ, ei g 101 JR), (mG, ei g 101 GR), (mC, el g 20604 CR), (mR, ei g 20604 RR), (mN, ei g 20604 NR), (mE, ei g 50 ER), (mL, ei g 50 LR), (mB, ei g 50 BR), (mU, ei g 50 UR)]) 0 0 := by
  refine z_beWi (cc := cX6_penalty) (nL := 4) (ret := some .int) (plainFor_of_name (by decide +kernel)) rfl (Or.inl rfl) (Nat.le_of_ble_eq_true rfl) ?_
  intro X A hC hN hR
  have hC : zC X g cX6_penalty RX6 wsX6_penalty rm_X6_penalty 4 := hC
  show ZG X g (zD X A) 0 0 [(hM, eo 6 [.int (iZ (n)), .ref mK, .ref mW, .ref mT, .ref mS, .ref mV, .ref mM, .ref mX, .ref mY, .ref mI, .ref mJ, .ref mG, .ref mC, .ref mR, .ref mN, .int (iZ (lk)), .int (iZ (bd)), .int (iZ (so)), .long (lZ (dm)), .int (iZ (tt)), .ref mE, .ref mL, .ref mB, .ref mU, .long (lZ (sm)), .int (iZ (po))]), (mK, ei g 100 KR), (mW, ei g 100 WR), (mT, ei g 100 TR), (mS, ei g 100 SR), (mV, ei g 100 VR), (mM, ez g 100 MR), (mX, ei g 50 XR), (mY, ei g 3 YR), (mI, ei g 101 IR), (mJ, ei g 101 JR), (mG, ei g 101 GR), (mC, el g 20604 CR), (mR, ei g 20604 RR), (mN, ei g 20604 NR), (mE, ei g 50 ER), (mL, ei g 50 LR), (mB, ei g 50 BR), (mU, ei g 50 UR)] [(0, .ref hM), (1, .int (iZ (x))), (2, .int (iZ (w))), (3, .int (iZ (b)))] 0 []
  refine z_iload_n hC 1 dX6_penalty_0 rfl rfl ?_
  refine z_sip hC dX6_penalty_1 (by decide) ?_
  refine z_sip hC dX6_penalty_4 (by decide) ?_
  refine z_sRi hC 3 (c_X6_in (xl X) g _ _ _ (by omega) (by omega) (by omega)) gX6_penalty_X6_in rfl hd_X6_in_s (by decide) ⟨rfl, rfl⟩ [] (by decide) rfl rfl rfl (Nat.le_of_ble_eq_true rfl) dX6_penalty_7 (by decide) ?_
  refine z_if_eq hC 37 dX6_penalty_10 (by decide) (b2_r _) (fun c_10 => ?_) (fun c_10 => ?_)
  ·
    have c_10 := b2_f c_10
    refine z_iconst hC dX6_penalty_37 ?_
    exact hR (KR, WR, TR, SR, VR, MR, n, -1) _ _ _ [0, 1, 2, 3, 4, 5, 6, 7, 8, 9, 10, 11, 12, 13, 14, 15, 16, 17, 18] _ (by first | exact Or.inl ⟨by omega, rfl⟩ | exact Or.inr (Or.inl ⟨by omega, rfl⟩) | exact Or.inr (Or.inr ⟨by omega, rfl⟩)) rfl (by decide) rfl dX6_penalty_38
  ·
    have c_10 := b2_t c_10
    refine z_iload_n hC 2 dX6_penalty_13 rfl rfl ?_
    refine z_iconst hC dX6_penalty_14 ?_
    refine z_sip hC dX6_penalty_15 (by decide) ?_
    refine z_sRi hC 3 (c_X6_in (xl X) g _ _ _ (by omega) (by omega) (by omega)) gX6_penalty_X6_in rfl hd_X6_in_s (by decide) ⟨rfl, rfl⟩ [] (by decide) rfl rfl rfl (Nat.le_of_ble_eq_true rfl) dX6_penalty_18 (by decide) ?_
    refine z_if_eq hC 37 dX6_penalty_21 (by decide) (b2_r _) (fun c_21 => ?_) (fun c_21 => ?_)
    ·
      have c_21 := b2_f c_21
      refine z_iconst hC dX6_penalty_37 ?_
      exact hR (KR, WR, TR, SR, VR, MR, n, -1) _ _ _ [0, 1, 2, 3, 4, 5, 6, 7, 8, 9, 10, 11, 12, 13, 14, 15, 16, 17, 18] _ (by first | exact Or.inl ⟨by omega, rfl⟩ | exact Or.inr (Or.inl ⟨by omega, rfl⟩) | exact Or.inr (Or.inr ⟨by omega, rfl⟩)) rfl (by decide) rfl dX6_penalty_38
    ·
      have c_21 := b2_t c_21
      refine z_aload_n hC 0 dX6_penalty_24 rfl rfl ?_
      refine z_iconst hC dX6_penalty_25 ?_
      refine z_iload_n hC 2 dX6_penalty_26 rfl rfl ?_
      refine z_iconst hC dX6_penalty_27 ?_
      refine z_iconst hC dX6_penalty_28 ?_
      refine z_iload_n hC 1 dX6_penalty_29 rfl rfl ?_
      refine z_iload_n hC 3 dX6_penalty_30 rfl rfl ?_
      refine z_vWi (wr := []) hC 6 (c_X6_add (xl X) g _ _ _ _ _ _ _ _ _ _ _ _ _ _ _ _ _ _ _ _ _ _ _ _ _ _ _ _ _ _ _ _ _ _ _ _ _ _ _ _ _ _ _ _ _ _ _ _ _ _ _ (by omega) (by omega)) gX6_penalty_X6_add rfl hd_X6_add_v (by decide) ⟨rfl, rfl⟩ [0, 1, 2, 3, 4, 5, 6, 7, 8, 9, 10, 11, 12, 13, 14, 15, 16, 17, 18] [] (by decide) rfl rfl (by decide) (by decide) 0 6 rfl rfl rfl rfl rfl (Nat.le_of_ble_eq_true rfl) dX6_penalty_31 (by decide) (fun u_31 p_31 => ?_)
      rcases p_31 with ⟨a_31, rfl⟩ | ⟨a_31, rfl⟩
      ·
        refine z_ws (ws' := [(hM, eo 6 [.int (iZ (n)), .ref mK, .ref mW, .ref mT, .ref mS, .ref mV, .ref mM, .ref mX, .ref mY, .ref mI, .ref mJ, .ref mG, .ref mC, .ref mR, .ref mN, .int (iZ (lk)), .int (iZ (bd)), .int (iZ (so)), .long (lZ (dm)), .int (iZ (tt)), .ref mE, .ref mL, .ref mB, .ref mU, .long (lZ (sm)), .int (iZ (po))]), (mK, ei g 100 KR), (mW, ei g 100 WR), (mT, ei g 100 TR), (mS, ei g 100 SR), (mV, ei g 100 VR), (mM, ez g 100 MR), (mX, ei g 50 XR), (mY, ei g 3 YR), (mI, ei g 101 IR), (mJ, ei g 101 JR), (mG, ei g 101 GR), (mC, el g 20604 CR), (mR, ei g 20604 RR), (mN, ei g 20604 NR), (mE, ei g 50 ER), (mL, ei g 50 LR), (mB, ei g 50 BR), (mU, ei g 50 UR)]) [0, 1, 2, 3, 4, 5, 6, 7, 8, 9, 10, 11, 12, 13, 14, 15, 16, 17, 18] (by decide) rfl ?_
        refine z_top (b := (-2)) rfl ?_
        refine z_goto (tgt := 38) hC dX6_penalty_34 (by decide) ?_
        exact hR (KR, WR, TR, SR, VR, MR, n, (-2)) _ _ _ [0, 1, 2, 3, 4, 5, 6, 7, 8, 9, 10, 11, 12, 13, 14, 15, 16, 17, 18] _ (by first | exact Or.inl ⟨by omega, rfl⟩ | exact Or.inr (Or.inl ⟨by omega, rfl⟩) | exact Or.inr (Or.inr ⟨by omega, rfl⟩)) rfl (by decide) rfl dX6_penalty_38
      ·
        refine z_ws (ws' := [(hM, eo 6 [.int (iZ ((n + 1))), .ref mK, .ref mW, .ref mT, .ref mS, .ref mV, .ref mM, .ref mX, .ref mY, .ref mI, .ref mJ, .ref mG, .ref mC, .ref mR, .ref mN, .int (iZ (lk)), .int (iZ (bd)), .int (iZ (so)), .long (lZ (dm)), .int (iZ (tt)), .ref mE, .ref mL, .ref mB, .ref mU, .long (lZ (sm)), .int (iZ (po))]), (mK, ei g 100 ((uZ KR n (2)))), (mW, ei g 100 ((uZ WR n (w)))), (mT, ei g 100 ((uZ TR n (0)))), (mS, ei g 100 ((uZ SR n (0)))), (mV, ei g 100 ((uZ VR n (x)))), (mM, ez g 100 ((uZ MR n (b)))), (mX, ei g 50 XR), (mY, ei g 3 YR), (mI, ei g 101 IR), (mJ, ei g 101 JR), (mG, ei g 101 GR), (mC, el g 20604 CR), (mR, ei g 20604 RR), (mN, ei g 20604 NR), (mE, ei g 50 ER), (mL, ei g 50 LR), (mB, ei g 50 BR), (mU, ei g 50 UR)]) [0, 1, 2, 3, 4, 5, 6, 7, 8, 9, 10, 11, 12, 13, 14, 15, 16, 17, 18] (by decide) rfl ?_
        refine z_top (b := (n + 1 - 1)) rfl ?_
        refine z_goto (tgt := 38) hC dX6_penalty_34 (by decide) ?_
        exact hR ((uZ KR n (2)), (uZ WR n (w)), (uZ TR n (0)), (uZ SR n (0)), (uZ VR n (x)), (uZ MR n (b)), (n + 1), (n + 1 - 1)) _ _ _ [0, 1, 2, 3, 4, 5, 6, 7, 8, 9, 10, 11, 12, 13, 14, 15, 16, 17, 18] _ (by first | exact Or.inl ⟨by omega, rfl⟩ | exact Or.inr (Or.inl ⟨by omega, rfl⟩) | exact Or.inr (Or.inr ⟨by omega, rfl⟩)) rfl (by decide) rfl dX6_penalty_38
set_option maxRecDepth 20000 in
theorem mX6_shape_f29 : Cond.fieldLink RX6 29 "BreakSearchModel" "shapes" "[I" ∈ wsX6_shape := by decide +kernel
set_option maxRecDepth 20000 in
theorem iX6_shape_6 : ∀ w ∈ u_ws RX6 TX6 26, w ∈ wsX6_shape := by decide +kernel
abbrev rm_X6_shape : Room := { frames := 2, cells := 0, slots := 0, locals := 34 }
set_option maxHeartbeats 4000000 in
set_option maxRecDepth 100000 in
theorem c_X6_shape (l : Launch) (g : zG) (hM mK mW mT mS mV mM mX mY mI mJ mG mC mR mN mE mL mB mU : Nat) (n lk bd so dm tt sm po : Int) (KR WR TR SR VR MR XR YR IR JR GR CR RR NR ER LR BR UR : Int → Int) (i w : Int) (h1 : -2147483648 ≤ i ∧ i ≤ 2147483647) (h2 : -2147483648 ≤ w ∧ w ≤ 2147483647) : zMWi (S := (Int → Int) × (Int)) l yX6_shape wsX6_shape rm_X6_shape g [(hM, eo 6 [.int (iZ (n)), .ref mK, .ref mW, .ref mT, .ref mS, .ref mV, .ref mM, .ref mX, .ref mY, .ref mI, .ref mJ, .ref mG, .ref mC, .ref mR, .ref mN, .int (iZ (lk)), .int (iZ (bd)), .int (iZ (so)), .long (lZ (dm)), .int (iZ (tt)), .ref mE, .ref mL, .ref mB, .ref mU, .long (lZ (sm)), .int (iZ (po))]), (mK, ei g 100 KR), (mW, ei g 100 WR), (mT, ei g 100 TR), (mS, ei g 100 SR), (mV, ei g 100 VR), (mM, ez g 100 MR), (mX, ei g 50 XR), (mY, ei g 3 YR), (mI, ei g 101 IR), (mJ, ei g 101 JR), (mG, ei g 101 GR), (mC, el g 20604 CR), (mR, ei g 20604 RR), (mN, ei g 20604 NR), (mE, ei g 50 ER), (mL, ei g 50 LR), (mB, ei g 50 BR), (mU, ei g 50 UR)] [.ref hM, .int (iZ (i)), .int (iZ (w))] (fun u => ((¬ ((0 ≤ i ∧ i ≤ 49) ∧ (0 ≤ w ∧ w ≤ 10000))) ∧ u = (XR, -1)) ∨ (((0 ≤ i ∧ i ≤ 49) ∧ (0 ≤ w ∧ w ≤ 10000)) ∧ u = (uZ XR i w, 1))) (fun u => u.2) (fun u => [(hM, eo 6 [.int (iZ (n)), .ref mK, .ref mW, .ref mT, .ref mS, .ref mV, .ref mM, .ref mX, .ref mY, .ref mI, .ref mJ, .ref mG, .ref mC, .ref mR, .ref mN, .int (iZ (lk)), .int (iZ (bd)), .int (iZ (so)), .long (lZ (dm)), .int (iZ (tt)), .ref mE, .ref mL, .ref mB, .ref mU, .long (lZ (sm)), .int (iZ (po))]), (mK, ei g 100 KR), (mW, ei g 100 WR), (mT, ei g 100 TR), (mS, ei g 100 SR), (mV, ei g 100 VR), (mM, ez g 100 MR), (mX, ei g 50 u.1), (mY, ei g 3 YR), (mI, ei g 101 IR), (mJ, ei g 101 JR), (mG, ei g 101 GR), (mC, el g 20604 CR), (mR, ei g 20604 RR), (mN, ei g 20604 NR), (mE, ei g 50 ER), (mL, ei g 50 LR), (mB, ei g 50 BR), (mU, ei g 50 UR)]) 0 0 := by
  refine z_beWi (cc := cX6_shape) (nL := 3) (ret := some .int) (plainFor_of_name (by decide +kernel)) rfl (Or.inl rfl) (Nat.le_of_ble_eq_true rfl) ?_
  intro X A hC hN hR
  have hC : zC X g cX6_shape RX6 wsX6_shape rm_X6_shape 3 := hC
  show ZG X g (zD X A) 0 0 [(hM, eo 6 [.int (iZ (n)), .ref mK, .ref mW, .ref mT, .ref mS, .ref mV, .ref mM, .ref mX, .ref mY, .ref mI, .ref mJ, .ref mG, .ref mC, .ref mR, .ref mN, .int (iZ (lk)), .int (iZ (bd)), .int (iZ (so)), .long (lZ (dm)), .int (iZ (tt)), .ref mE, .ref mL, .ref mB, .ref mU, .long (lZ (sm)), .int (iZ (po))]), (mK, ei g 100 KR), (mW, ei g 100 WR), (mT, ei g 100 TR), (mS, ei g 100 SR), (mV, ei g 100 VR), (mM, ez g 100 MR), (mX, ei g 50 XR), (mY, ei g 3 YR), (mI, ei g 101 IR), (mJ, ei g 101 JR), (mG, ei g 101 GR), (mC, el g 20604 CR), (mR, ei g 20604 RR), (mN, ei g 20604 NR), (mE, ei g 50 ER), (mL, ei g 50 LR), (mB, ei g 50 BR), (mU, ei g 50 UR)] [(0, .ref hM), (1, .int (iZ (i))), (2, .int (iZ (w)))] 0 []
  refine z_iload_n hC 1 dX6_shape_0 rfl rfl ?_
  refine z_iconst hC dX6_shape_1 ?_
  refine z_bip hC dX6_shape_2 (by decide) ?_
  refine z_sRi hC 3 (c_X6_in (xl X) g _ _ _ (by omega) (by omega) (by omega)) gX6_shape_X6_in rfl hd_X6_in_s (by decide) ⟨rfl, rfl⟩ [] (by decide) rfl rfl rfl (Nat.le_of_ble_eq_true rfl) dX6_shape_4 (by decide) ?_
  refine z_if_eq hC 21 dX6_shape_7 (by decide) (b2_r _) (fun c_7 => ?_) (fun c_7 => ?_)
  ·
    have c_7 := b2_f c_7
    refine z_iconst hC dX6_shape_21 ?_
    exact hR (XR, -1) _ _ _ [0, 1, 2, 3, 4, 5, 6, 7, 8, 9, 10, 11, 12, 13, 14, 15, 16, 17, 18] _ (by first | exact Or.inl ⟨by omega, rfl⟩ | exact Or.inr ⟨by omega, rfl⟩) rfl (by decide) rfl dX6_shape_22
  ·
    have c_7 := b2_t c_7
    refine z_iload_n hC 2 dX6_shape_10 rfl rfl ?_
    refine z_iconst hC dX6_shape_11 ?_
    refine z_sip hC dX6_shape_12 (by decide) ?_
    refine z_sRi hC 3 (c_X6_in (xl X) g _ _ _ (by omega) (by omega) (by omega)) gX6_shape_X6_in rfl hd_X6_in_s (by decide) ⟨rfl, rfl⟩ [] (by decide) rfl rfl rfl (Nat.le_of_ble_eq_true rfl) dX6_shape_15 (by decide) ?_
    refine z_if_ne hC 23 dX6_shape_18 (by decide) (b2_r _) (fun c_18 => ?_) (fun c_18 => ?_)
    ·
      have c_18 := b2_t c_18
      refine z_aload_n hC 0 dX6_shape_23 rfl rfl ?_
      refine z_get hC iX6_shape_6 0 7 rfl rfl (by decide) mX6_shape_f29 rfl dX6_shape_24 ?_
      refine z_iload_n hC 1 dX6_shape_27 rfl rfl ?_
      refine z_iload_n hC 2 dX6_shape_28 rfl rfl ?_
      refine z_iast hC 7 rfl (by omega) (by decide) dX6_shape_29 (ws' := [_, _, _, _, _, _, _, _, _, _, _, _, _, _, _, _, _, _, _]) rfl ?_
      refine z_iconst hC dX6_shape_30 ?_
      exact hR (uZ XR i w, 1) _ _ _ [0, 1, 2, 3, 4, 5, 6, 7, 8, 9, 10, 11, 12, 13, 14, 15, 16, 17, 18] _ (by first | exact Or.inl ⟨by omega, rfl⟩ | exact Or.inr ⟨by omega, rfl⟩) rfl (by decide) rfl dX6_shape_31
    ·
      have c_18 := b2_f c_18
      refine z_iconst hC dX6_shape_21 ?_
      exact hR (XR, -1) _ _ _ [0, 1, 2, 3, 4, 5, 6, 7, 8, 9, 10, 11, 12, 13, 14, 15, 16, 17, 18] _ (by first | exact Or.inl ⟨by omega, rfl⟩ | exact Or.inr ⟨by omega, rfl⟩) rfl (by decide) rfl dX6_shape_22
set_option maxRecDepth 20000 in
theorem mX6_setting_f32 : Cond.fieldLink RX6 32 "BreakSearchModel" "settings" "[I" ∈ wsX6_setting := by decide +kernel
set_option maxRecDepth 20000 in
theorem iX6_setting_6 : ∀ w ∈ u_ws RX6 TX6 26, w ∈ wsX6_setting := by decide +kernel
abbrev rm_X6_setting : Room := { frames := 2, cells := 0, slots := 0, locals := 34 }
set_option maxHeartbeats 4000000 in
set_option maxRecDepth 100000 in
theorem c_X6_setting (l : Launch) (g : zG) (hM mK mW mT mS mV mM mX mY mI mJ mG mC mR mN mE mL mB mU : Nat) (n lk bd so dm tt sm po : Int) (KR WR TR SR VR MR XR YR IR JR GR CR RR NR ER LR BR UR : Int → Int) (x v : Int) (h1 : -2147483648 ≤ x ∧ x ≤ 2147483647) (h2 : -2147483648 ≤ v ∧ v ≤ 2147483647) : zMWi (S := (Int → Int) × (Int)) l yX6_setting wsX6_setting rm_X6_setting g [(hM, eo 6 [.int (iZ (n)), .ref mK, .ref mW, .ref mT, .ref mS, .ref mV, .ref mM, .ref mX, .ref mY, .ref mI, .ref mJ, .ref mG, .ref mC, .ref mR, .ref mN, .int (iZ (lk)), .int (iZ (bd)), .int (iZ (so)), .long (lZ (dm)), .int (iZ (tt)), .ref mE, .ref mL, .ref mB, .ref mU, .long (lZ (sm)), .int (iZ (po))]), (mK, ei g 100 KR), (mW, ei g 100 WR), (mT, ei g 100 TR), (mS, ei g 100 SR), (mV, ei g 100 VR), (mM, ez g 100 MR), (mX, ei g 50 XR), (mY, ei g 3 YR), (mI, ei g 101 IR), (mJ, ei g 101 JR), (mG, ei g 101 GR), (mC, el g 20604 CR), (mR, ei g 20604 RR), (mN, ei g 20604 NR), (mE, ei g 50 ER), (mL, ei g 50 LR), (mB, ei g 50 BR), (mU, ei g 50 UR)] [.ref hM, .int (iZ (x)), .int (iZ (v))] (fun u => ((¬ ((0 ≤ x ∧ x ≤ 2) ∧ ((x = 2 ∧ 0 ≤ v) ∨ (¬ x = 2 ∧ -1 ≤ v)) ∧ v ≤ 10000)) ∧ u = (YR, -1)) ∨ (((0 ≤ x ∧ x ≤ 2) ∧ ((x = 2 ∧ 0 ≤ v) ∨ (¬ x = 2 ∧ -1 ≤ v)) ∧ v ≤ 10000) ∧ u = (uZ YR x v, 1))) (fun u => u.2) (fun u => [(hM, eo 6 [.int (iZ (n)), .ref mK, .ref mW, .ref mT, .ref mS, .ref mV, .ref mM, .ref mX, .ref mY, .ref mI, .ref mJ, .ref mG, .ref mC, .ref mR, .ref mN, .int (iZ (lk)), .int (iZ (bd)), .int (iZ (so)), .long (lZ (dm)), .int (iZ (tt)), .ref mE, .ref mL, .ref mB, .ref mU, .long (lZ (sm)), .int (iZ (po))]), (mK, ei g 100 KR), (mW, ei g 100 WR), (mT, ei g 100 TR), (mS, ei g 100 SR), (mV, ei g 100 VR), (mM, ez g 100 MR), (mX, ei g 50 XR), (mY, ei g 3 u.1), (mI, ei g 101 IR), (mJ, ei g 101 JR), (mG, ei g 101 GR), (mC, el g 20604 CR), (mR, ei g 20604 RR), (mN, ei g 20604 NR), (mE, ei g 50 ER), (mL, ei g 50 LR), (mB, ei g 50 BR), (mU, ei g 50 UR)]) 0 0 := by
  refine z_beWi (cc := cX6_setting) (nL := 3) (ret := some .int) (plainFor_of_name (by decide +kernel)) rfl (Or.inl rfl) (Nat.le_of_ble_eq_true rfl) ?_
  intro X A hC hN hR
  have hC : zC X g cX6_setting RX6 wsX6_setting rm_X6_setting 3 := hC
  show ZG X g (zD X A) 0 0 [(hM, eo 6 [.int (iZ (n)), .ref mK, .ref mW, .ref mT, .ref mS, .ref mV, .ref mM, .ref mX, .ref mY, .ref mI, .ref mJ, .ref mG, .ref mC, .ref mR, .ref mN, .int (iZ (lk)), .int (iZ (bd)), .int (iZ (so)), .long (lZ (dm)), .int (iZ (tt)), .ref mE, .ref mL, .ref mB, .ref mU, .long (lZ (sm)), .int (iZ (po))]), (mK, ei g 100 KR), (mW, ei g 100 WR), (mT, ei g 100 TR), (mS, ei g 100 SR), (mV, ei g 100 VR), (mM, ez g 100 MR), (mX, ei g 50 XR), (mY, ei g 3 YR), (mI, ei g 101 IR), (mJ, ei g 101 JR), (mG, ei g 101 GR), (mC, el g 20604 CR), (mR, ei g 20604 RR), (mN, ei g 20604 NR), (mE, ei g 50 ER), (mL, ei g 50 LR), (mB, ei g 50 BR), (mU, ei g 50 UR)] [(0, .ref hM), (1, .int (iZ (x))), (2, .int (iZ (v)))] 0 []
  refine z_iload_n hC 1 dX6_setting_0 rfl rfl ?_
  refine z_iconst hC dX6_setting_1 ?_
  refine z_iconst hC dX6_setting_2 ?_
  refine z_sRi hC 3 (c_X6_in (xl X) g _ _ _ (by omega) (by omega) (by omega)) gX6_setting_X6_in rfl hd_X6_in_s (by decide) ⟨rfl, rfl⟩ [] (by decide) rfl rfl rfl (Nat.le_of_ble_eq_true rfl) dX6_setting_3 (by decide) ?_
  refine z_if_eq hC 29 dX6_setting_6 (by decide) (b2_r _) (fun c_6 => ?_) (fun c_6 => ?_)
  ·
    have c_6 := b2_f c_6
    refine z_iconst hC dX6_setting_29 ?_
    exact hR (YR, -1) _ _ _ [0, 1, 2, 3, 4, 5, 6, 7, 8, 9, 10, 11, 12, 13, 14, 15, 16, 17, 18] _ (by first | exact Or.inl ⟨by omega, rfl⟩ | exact Or.inr ⟨by omega, rfl⟩) rfl (by decide) rfl dX6_setting_30
  ·
    have c_6 := b2_t c_6
    refine z_iload_n hC 2 dX6_setting_9 rfl rfl ?_
    refine z_iload_n hC 1 dX6_setting_10 rfl rfl ?_
    refine z_iconst hC dX6_setting_11 ?_
    refine z_icmp_ne hC 19 dX6_setting_12 (by decide) (by omega) (by omega) (fun c_12 => ?_) (fun c_12 => ?_)
    ·
      refine z_iconst hC dX6_setting_19 ?_
      refine z_sip hC dX6_setting_20 (by decide) ?_
      refine z_sRi hC 3 (c_X6_in (xl X) g _ _ _ (by omega) (by omega) (by omega)) gX6_setting_X6_in rfl hd_X6_in_s (by decide) ⟨rfl, rfl⟩ [] (by decide) rfl rfl rfl (Nat.le_of_ble_eq_true rfl) dX6_setting_23 (by decide) ?_
      refine z_if_ne hC 31 dX6_setting_26 (by decide) (b2_r _) (fun c_26 => ?_) (fun c_26 => ?_)
      ·
        have c_26 := b2_t c_26
        refine z_aload_n hC 0 dX6_setting_31 rfl rfl ?_
        refine z_get hC iX6_setting_6 0 8 rfl rfl (by decide) mX6_setting_f32 rfl dX6_setting_32 ?_
        refine z_iload_n hC 1 dX6_setting_35 rfl rfl ?_
        refine z_iload_n hC 2 dX6_setting_36 rfl rfl ?_
        refine z_iast hC 8 rfl (by omega) (by decide) dX6_setting_37 (ws' := [_, _, _, _, _, _, _, _, _, _, _, _, _, _, _, _, _, _, _]) rfl ?_
        refine z_iconst hC dX6_setting_38 ?_
        exact hR (uZ YR x v, 1) _ _ _ [0, 1, 2, 3, 4, 5, 6, 7, 8, 9, 10, 11, 12, 13, 14, 15, 16, 17, 18] _ (by first | exact Or.inl ⟨by omega, rfl⟩ | exact Or.inr ⟨by omega, rfl⟩) rfl (by decide) rfl dX6_setting_39
      ·
        have c_26 := b2_f c_26
        refine z_iconst hC dX6_setting_29 ?_
        exact hR (YR, -1) _ _ _ [0, 1, 2, 3, 4, 5, 6, 7, 8, 9, 10, 11, 12, 13, 14, 15, 16, 17, 18] _ (by first | exact Or.inl ⟨by omega, rfl⟩ | exact Or.inr ⟨by omega, rfl⟩) rfl (by decide) rfl dX6_setting_30
    ·
      refine z_iconst hC dX6_setting_15 ?_
      refine z_goto (tgt := 20) hC dX6_setting_16 (by decide) ?_
      refine z_sip hC dX6_setting_20 (by decide) ?_
      refine z_sRi hC 3 (c_X6_in (xl X) g _ _ _ (by omega) (by omega) (by omega)) gX6_setting_X6_in rfl hd_X6_in_s (by decide) ⟨rfl, rfl⟩ [] (by decide) rfl rfl rfl (Nat.le_of_ble_eq_true rfl) dX6_setting_23 (by decide) ?_
      refine z_if_ne hC 31 dX6_setting_26 (by decide) (b2_r _) (fun c_26 => ?_) (fun c_26 => ?_)
      ·
        have c_26 := b2_t c_26
        refine z_aload_n hC 0 dX6_setting_31 rfl rfl ?_
        refine z_get hC iX6_setting_6 0 8 rfl rfl (by decide) mX6_setting_f32 rfl dX6_setting_32 ?_
        refine z_iload_n hC 1 dX6_setting_35 rfl rfl ?_
        refine z_iload_n hC 2 dX6_setting_36 rfl rfl ?_
        refine z_iast hC 8 rfl (by omega) (by decide) dX6_setting_37 (ws' := [_, _, _, _, _, _, _, _, _, _, _, _, _, _, _, _, _, _, _]) rfl ?_
        refine z_iconst hC dX6_setting_38 ?_
        exact hR (uZ YR x v, 1) _ _ _ [0, 1, 2, 3, 4, 5, 6, 7, 8, 9, 10, 11, 12, 13, 14, 15, 16, 17, 18] _ (by first | exact Or.inl ⟨by omega, rfl⟩ | exact Or.inr ⟨by omega, rfl⟩) rfl (by decide) rfl dX6_setting_39
      ·
        have c_26 := b2_f c_26
        refine z_iconst hC dX6_setting_29 ?_
        exact hR (YR, -1) _ _ _ [0, 1, 2, 3, 4, 5, 6, 7, 8, 9, 10, 11, 12, 13, 14, 15, 16, 17, 18] _ (by first | exact Or.inl ⟨by omega, rfl⟩ | exact Or.inr ⟨by omega, rfl⟩) rfl (by decide) rfl dX6_setting_30
set_option maxRecDepth 20000 in
theorem mX6_at_f139 : Cond.fieldLink RX6 139 "BreakSearchModel" "told" "I" ∈ wsX6_at := by decide +kernel
set_option maxRecDepth 20000 in
theorem iX6_at_6 : ∀ w ∈ u_ws RX6 TX6 26, w ∈ wsX6_at := by decide +kernel
set_option maxRecDepth 20000 in
theorem mX6_at_f54 : Cond.fieldLink RX6 54 "BreakSearchModel" "ends" "[I" ∈ wsX6_at := by decide +kernel
abbrev rm_X6_at : Room := { frames := 2, cells := 0, slots := 0, locals := 34 }
set_option maxHeartbeats 4000000 in
set_option maxRecDepth 100000 in
theorem c_X6_at (l : Launch) (g : zG) (hM mK mW mT mS mV mM mX mY mI mJ mG mC mR mN mE mL mB mU : Nat) (n lk bd so dm tt sm po : Int) (KR WR TR SR VR MR XR YR IR JR GR CR RR NR ER LR BR UR : Int → Int) (p : Int) (h1 : 0 ≤ tt ∧ tt ≤ 50) (h2 : -2147483648 ≤ p ∧ p ≤ 2147483647) : zMRi l yX6_at wsX6_at rm_X6_at g [(hM, eo 6 [.int (iZ (n)), .ref mK, .ref mW, .ref mT, .ref mS, .ref mV, .ref mM, .ref mX, .ref mY, .ref mI, .ref mJ, .ref mG, .ref mC, .ref mR, .ref mN, .int (iZ (lk)), .int (iZ (bd)), .int (iZ (so)), .long (lZ (dm)), .int (iZ (tt)), .ref mE, .ref mL, .ref mB, .ref mU, .long (lZ (sm)), .int (iZ (po))]), (mK, ei g 100 KR), (mW, ei g 100 WR), (mT, ei g 100 TR), (mS, ei g 100 SR), (mV, ei g 100 VR), (mM, ez g 100 MR), (mX, ei g 50 XR), (mY, ei g 3 YR), (mI, ei g 101 IR), (mJ, ei g 101 JR), (mG, ei g 101 GR), (mC, el g 20604 CR), (mR, ei g 20604 RR), (mN, ei g 20604 NR), (mE, ei g 50 ER), (mL, ei g 50 LR), (mB, ei g 50 BR), (mU, ei g 50 UR)] [.ref hM, .int (iZ (p))] (if 0 ≤ p ∧ p < tt then ER p else -1) := by
  refine z_beRi (cc := cX6_at) (nL := 2) (ret := some .int) (plainFor_of_name (by decide +kernel)) rfl (Or.inl rfl) (Nat.le_of_ble_eq_true rfl) ?_
  intro X hC hR
  have hC : zC X g cX6_at RX6 wsX6_at rm_X6_at 2 := hC
  show ZG X g (zE X) 0 0 [(hM, eo 6 [.int (iZ (n)), .ref mK, .ref mW, .ref mT, .ref mS, .ref mV, .ref mM, .ref mX, .ref mY, .ref mI, .ref mJ, .ref mG, .ref mC, .ref mR, .ref mN, .int (iZ (lk)), .int (iZ (bd)), .int (iZ (so)), .long (lZ (dm)), .int (iZ (tt)), .ref mE, .ref mL, .ref mB, .ref mU, .long (lZ (sm)), .int (iZ (po))]), (mK, ei g 100 KR), (mW, ei g 100 WR), (mT, ei g 100 TR), (mS, ei g 100 SR), (mV, ei g 100 VR), (mM, ez g 100 MR), (mX, ei g 50 XR), (mY, ei g 3 YR), (mI, ei g 101 IR), (mJ, ei g 101 JR), (mG, ei g 101 GR), (mC, el g 20604 CR), (mR, ei g 20604 RR), (mN, ei g 20604 NR), (mE, ei g 50 ER), (mL, ei g 50 LR), (mB, ei g 50 BR), (mU, ei g 50 UR)] [(0, .ref hM), (1, .int (iZ (p)))] 0 []
  refine z_iload_n hC 1 dX6_at_0 rfl rfl ?_
  refine z_iconst hC dX6_at_1 ?_
  refine z_aload_n hC 0 dX6_at_2 rfl rfl ?_
  refine z_get hC iX6_at_6 0 19 rfl rfl (by decide) mX6_at_f139 rfl dX6_at_3 ?_
  refine z_iconst hC dX6_at_6 ?_
  refine z_isub hC dX6_at_7 ?_
  refine z_sRi hC 3 (c_X6_in (xl X) g _ _ _ (by omega) (by omega) (by omega)) gX6_at_X6_in rfl hd_X6_in_s (by decide) ⟨rfl, rfl⟩ [] (by decide) rfl rfl rfl (Nat.le_of_ble_eq_true rfl) dX6_at_8 (by decide) ?_
  refine z_if_eq hC 23 dX6_at_11 (by decide) (b2_r _) (fun c_11 => ?_) (fun c_11 => ?_)
  ·
    have c_11 := b2_f c_11
    refine z_iconst hC dX6_at_23 ?_
    exact hR _ _ _ _ (by first | exact (if_pos (by omega)).symm | exact (if_neg (by omega)).symm) dX6_at_24
  ·
    have c_11 := b2_t c_11
    refine z_aload_n hC 0 dX6_at_14 rfl rfl ?_
    refine z_get hC iX6_at_6 0 20 rfl rfl (by decide) mX6_at_f54 rfl dX6_at_15 ?_
    refine z_iload_n hC 1 dX6_at_18 rfl rfl ?_
    refine z_iald hC 15 rfl (by omega) (by decide) dX6_at_19 ?_
    refine z_goto (tgt := 24) hC dX6_at_20 (by decide) ?_
    exact hR _ _ _ _ (by first | exact (if_pos (by omega)).symm | exact (if_neg (by omega)).symm) dX6_at_24
set_option maxRecDepth 20000 in
theorem mX6_lacks_f139 : Cond.fieldLink RX6 139 "BreakSearchModel" "told" "I" ∈ wsX6_lacks := by decide +kernel
set_option maxRecDepth 20000 in
theorem iX6_lacks_6 : ∀ w ∈ u_ws RX6 TX6 26, w ∈ wsX6_lacks := by decide +kernel
set_option maxRecDepth 20000 in
theorem mX6_lacks_f57 : Cond.fieldLink RX6 57 "BreakSearchModel" "lacks" "[I" ∈ wsX6_lacks := by decide +kernel
abbrev rm_X6_lacks : Room := { frames := 2, cells := 0, slots := 0, locals := 34 }
set_option maxHeartbeats 4000000 in
set_option maxRecDepth 100000 in
theorem c_X6_lacks (l : Launch) (g : zG) (hM mK mW mT mS mV mM mX mY mI mJ mG mC mR mN mE mL mB mU : Nat) (n lk bd so dm tt sm po : Int) (KR WR TR SR VR MR XR YR IR JR GR CR RR NR ER LR BR UR : Int → Int) (p : Int) (h1 : 0 ≤ tt ∧ tt ≤ 50) (h2 : -2147483648 ≤ p ∧ p ≤ 2147483647) : zMRi l yX6_lacks wsX6_lacks rm_X6_lacks g [(hM, eo 6 [.int (iZ (n)), .ref mK, .ref mW, .ref mT, .ref mS, .ref mV, .ref mM, .ref mX, .ref mY, .ref mI, .ref mJ, .ref mG, .ref mC, .ref mR, .ref mN, .int (iZ (lk)), .int (iZ (bd)), .int (iZ (so)), .long (lZ (dm)), .int (iZ (tt)), .ref mE, .ref mL, .ref mB, .ref mU, .long (lZ (sm)), .int (iZ (po))]), (mK, ei g 100 KR), (mW, ei g 100 WR), (mT, ei g 100 TR), (mS, ei g 100 SR), (mV, ei g 100 VR), (mM, ez g 100 MR), (mX, ei g 50 XR), (mY, ei g 3 YR), (mI, ei g 101 IR), (mJ, ei g 101 JR), (mG, ei g 101 GR), (mC, el g 20604 CR), (mR, ei g 20604 RR), (mN, ei g 20604 NR), (mE, ei g 50 ER), (mL, ei g 50 LR), (mB, ei g 50 BR), (mU, ei g 50 UR)] [.ref hM, .int (iZ (p))] (if 0 ≤ p ∧ p < tt then LR p else 0) := by
  refine z_beRi (cc := cX6_lacks) (nL := 2) (ret := some .int) (plainFor_of_name (by decide +kernel)) rfl (Or.inl rfl) (Nat.le_of_ble_eq_true rfl) ?_
  intro X hC hR
  have hC : zC X g cX6_lacks RX6 wsX6_lacks rm_X6_lacks 2 := hC
  show ZG X g (zE X) 0 0 [(hM, eo 6 [.int (iZ (n)), .ref mK, .ref mW, .ref mT, .ref mS, .ref mV, .ref mM, .ref mX, .ref mY, .ref mI, .ref mJ, .ref mG, .ref mC, .ref mR, .ref mN, .int (iZ (lk)), .int (iZ (bd)), .int (iZ (so)), .long (lZ (dm)), .int (iZ (tt)), .ref mE, .ref mL, .ref mB, .ref mU, .long (lZ (sm)), .int (iZ (po))]), (mK, ei g 100 KR), (mW, ei g 100 WR), (mT, ei g 100 TR), (mS, ei g 100 SR), (mV, ei g 100 VR), (mM, ez g 100 MR), (mX, ei g 50 XR), (mY, ei g 3 YR), (mI, ei g 101 IR), (mJ, ei g 101 JR), (mG, ei g 101 GR), (mC, el g 20604 CR), (mR, ei g 20604 RR), (mN, ei g 20604 NR), (mE, ei g 50 ER), (mL, ei g 50 LR), (mB, ei g 50 BR), (mU, ei g 50 UR)] [(0, .ref hM), (1, .int (iZ (p)))] 0 []
  refine z_iload_n hC 1 dX6_lacks_0 rfl rfl ?_
  refine z_iconst hC dX6_lacks_1 ?_
  refine z_aload_n hC 0 dX6_lacks_2 rfl rfl ?_
  refine z_get hC iX6_lacks_6 0 19 rfl rfl (by decide) mX6_lacks_f139 rfl dX6_lacks_3 ?_
  refine z_iconst hC dX6_lacks_6 ?_
  refine z_isub hC dX6_lacks_7 ?_
  refine z_sRi hC 3 (c_X6_in (xl X) g _ _ _ (by omega) (by omega) (by omega)) gX6_lacks_X6_in rfl hd_X6_in_s (by decide) ⟨rfl, rfl⟩ [] (by decide) rfl rfl rfl (Nat.le_of_ble_eq_true rfl) dX6_lacks_8 (by decide) ?_
  refine z_if_eq hC 23 dX6_lacks_11 (by decide) (b2_r _) (fun c_11 => ?_) (fun c_11 => ?_)
  ·
    have c_11 := b2_f c_11
    refine z_iconst hC dX6_lacks_23 ?_
    exact hR _ _ _ _ (by first | exact (if_pos (by omega)).symm | exact (if_neg (by omega)).symm) dX6_lacks_24
  ·
    have c_11 := b2_t c_11
    refine z_aload_n hC 0 dX6_lacks_14 rfl rfl ?_
    refine z_get hC iX6_lacks_6 0 21 rfl rfl (by decide) mX6_lacks_f57 rfl dX6_lacks_15 ?_
    refine z_iload_n hC 1 dX6_lacks_18 rfl rfl ?_
    refine z_iald hC 16 rfl (by omega) (by decide) dX6_lacks_19 ?_
    refine z_goto (tgt := 24) hC dX6_lacks_20 (by decide) ?_
    exact hR _ _ _ _ (by first | exact (if_pos (by omega)).symm | exact (if_neg (by omega)).symm) dX6_lacks_24
set_option maxRecDepth 20000 in
theorem mX6_badness_f139 : Cond.fieldLink RX6 139 "BreakSearchModel" "told" "I" ∈ wsX6_badness := by decide +kernel
set_option maxRecDepth 20000 in
theorem iX6_badness_6 : ∀ w ∈ u_ws RX6 TX6 26, w ∈ wsX6_badness := by decide +kernel
set_option maxRecDepth 20000 in
theorem mX6_badness_f60 : Cond.fieldLink RX6 60 "BreakSearchModel" "bads" "[I" ∈ wsX6_badness := by decide +kernel
abbrev rm_X6_badness : Room := { frames := 2, cells := 0, slots := 0, locals := 34 }
set_option maxHeartbeats 4000000 in
set_option maxRecDepth 100000 in
theorem c_X6_badness (l : Launch) (g : zG) (hM mK mW mT mS mV mM mX mY mI mJ mG mC mR mN mE mL mB mU : Nat) (n lk bd so dm tt sm po : Int) (KR WR TR SR VR MR XR YR IR JR GR CR RR NR ER LR BR UR : Int → Int) (p : Int) (h1 : 0 ≤ tt ∧ tt ≤ 50) (h2 : -2147483648 ≤ p ∧ p ≤ 2147483647) : zMRi l yX6_badness wsX6_badness rm_X6_badness g [(hM, eo 6 [.int (iZ (n)), .ref mK, .ref mW, .ref mT, .ref mS, .ref mV, .ref mM, .ref mX, .ref mY, .ref mI, .ref mJ, .ref mG, .ref mC, .ref mR, .ref mN, .int (iZ (lk)), .int (iZ (bd)), .int (iZ (so)), .long (lZ (dm)), .int (iZ (tt)), .ref mE, .ref mL, .ref mB, .ref mU, .long (lZ (sm)), .int (iZ (po))]), (mK, ei g 100 KR), (mW, ei g 100 WR), (mT, ei g 100 TR), (mS, ei g 100 SR), (mV, ei g 100 VR), (mM, ez g 100 MR), (mX, ei g 50 XR), (mY, ei g 3 YR), (mI, ei g 101 IR), (mJ, ei g 101 JR), (mG, ei g 101 GR), (mC, el g 20604 CR), (mR, ei g 20604 RR), (mN, ei g 20604 NR), (mE, ei g 50 ER), (mL, ei g 50 LR), (mB, ei g 50 BR), (mU, ei g 50 UR)] [.ref hM, .int (iZ (p))] (if 0 ≤ p ∧ p < tt then BR p else 0) := by
  refine z_beRi (cc := cX6_badness) (nL := 2) (ret := some .int) (plainFor_of_name (by decide +kernel)) rfl (Or.inl rfl) (Nat.le_of_ble_eq_true rfl) ?_
  intro X hC hR
  have hC : zC X g cX6_badness RX6 wsX6_badness rm_X6_badness 2 := hC
  show ZG X g (zE X) 0 0 [(hM, eo 6 [.int (iZ (n)), .ref mK, .ref mW, .ref mT, .ref mS, .ref mV, .ref mM, .ref mX, .ref mY, .ref mI, .ref mJ, .ref mG, .ref mC, .ref mR, .ref mN, .int (iZ (lk)), .int (iZ (bd)), .int (iZ (so)), .long (lZ (dm)), .int (iZ (tt)), .ref mE, .ref mL, .ref mB, .ref mU, .long (lZ (sm)), .int (iZ (po))]), (mK, ei g 100 KR), (mW, ei g 100 WR), (mT, ei g 100 TR), (mS, ei g 100 SR), (mV, ei g 100 VR), (mM, ez g 100 MR), (mX, ei g 50 XR), (mY, ei g 3 YR), (mI, ei g 101 IR), (mJ, ei g 101 JR), (mG, ei g 101 GR), (mC, el g 20604 CR), (mR, ei g 20604 RR), (mN, ei g 20604 NR), (mE, ei g 50 ER), (mL, ei g 50 LR), (mB, ei g 50 BR), (mU, ei g 50 UR)] [(0, .ref hM), (1, .int (iZ (p)))] 0 []
  refine z_iload_n hC 1 dX6_badness_0 rfl rfl ?_
  refine z_iconst hC dX6_badness_1 ?_
  refine z_aload_n hC 0 dX6_badness_2 rfl rfl ?_
  refine z_get hC iX6_badness_6 0 19 rfl rfl (by decide) mX6_badness_f139 rfl dX6_badness_3 ?_
  refine z_iconst hC dX6_badness_6 ?_
  refine z_isub hC dX6_badness_7 ?_
  refine z_sRi hC 3 (c_X6_in (xl X) g _ _ _ (by omega) (by omega) (by omega)) gX6_badness_X6_in rfl hd_X6_in_s (by decide) ⟨rfl, rfl⟩ [] (by decide) rfl rfl rfl (Nat.le_of_ble_eq_true rfl) dX6_badness_8 (by decide) ?_
  refine z_if_eq hC 23 dX6_badness_11 (by decide) (b2_r _) (fun c_11 => ?_) (fun c_11 => ?_)
  ·
    have c_11 := b2_f c_11
    refine z_iconst hC dX6_badness_23 ?_
    exact hR _ _ _ _ (by first | exact (if_pos (by omega)).symm | exact (if_neg (by omega)).symm) dX6_badness_24
  ·
    have c_11 := b2_t c_11
    refine z_aload_n hC 0 dX6_badness_14 rfl rfl ?_
    refine z_get hC iX6_badness_6 0 22 rfl rfl (by decide) mX6_badness_f60 rfl dX6_badness_15 ?_
    refine z_iload_n hC 1 dX6_badness_18 rfl rfl ?_
    refine z_iald hC 17 rfl (by omega) (by decide) dX6_badness_19 ?_
    refine z_goto (tgt := 24) hC dX6_badness_20 (by decide) ?_
    exact hR _ _ _ _ (by first | exact (if_pos (by omega)).symm | exact (if_neg (by omega)).symm) dX6_badness_24
set_option maxRecDepth 20000 in
theorem mX6_classOf_f139 : Cond.fieldLink RX6 139 "BreakSearchModel" "told" "I" ∈ wsX6_classOf := by decide +kernel
set_option maxRecDepth 20000 in
theorem iX6_classOf_6 : ∀ w ∈ u_ws RX6 TX6 26, w ∈ wsX6_classOf := by decide +kernel
set_option maxRecDepth 20000 in
theorem mX6_classOf_f63 : Cond.fieldLink RX6 63 "BreakSearchModel" "classes" "[I" ∈ wsX6_classOf := by decide +kernel
abbrev rm_X6_classOf : Room := { frames := 2, cells := 0, slots := 0, locals := 34 }
set_option maxHeartbeats 4000000 in
set_option maxRecDepth 100000 in
theorem c_X6_classOf (l : Launch) (g : zG) (hM mK mW mT mS mV mM mX mY mI mJ mG mC mR mN mE mL mB mU : Nat) (n lk bd so dm tt sm po : Int) (KR WR TR SR VR MR XR YR IR JR GR CR RR NR ER LR BR UR : Int → Int) (p : Int) (h1 : 0 ≤ tt ∧ tt ≤ 50) (h2 : -2147483648 ≤ p ∧ p ≤ 2147483647) : zMRi l yX6_classOf wsX6_classOf rm_X6_classOf g [(hM, eo 6 [.int (iZ (n)), .ref mK, .ref mW, .ref mT, .ref mS, .ref mV, .ref mM, .ref mX, .ref mY, .ref mI, .ref mJ, .ref mG, .ref mC, .ref mR, .ref mN, .int (iZ (lk)), .int (iZ (bd)), .int (iZ (so)), .long (lZ (dm)), .int (iZ (tt)), .ref mE, .ref mL, .ref mB, .ref mU, .long (lZ (sm)), .int (iZ (po))]), (mK, ei g 100 KR), (mW, ei g 100 WR), (mT, ei g 100 TR), (mS, ei g 100 SR), (mV, ei g 100 VR), (mM, ez g 100 MR), (mX, ei g 50 XR), (mY, ei g 3 YR), (mI, ei g 101 IR), (mJ, ei g 101 JR), (mG, ei g 101 GR), (mC, el g 20604 CR), (mR, ei g 20604 RR), (mN, ei g 20604 NR), (mE, ei g 50 ER), (mL, ei g 50 LR), (mB, ei g 50 BR), (mU, ei g 50 UR)] [.ref hM, .int (iZ (p))] (if 0 ≤ p ∧ p < tt then UR p else 0) := by
  refine z_beRi (cc := cX6_classOf) (nL := 2) (ret := some .int) (plainFor_of_name (by decide +kernel)) rfl (Or.inl rfl) (Nat.le_of_ble_eq_true rfl) ?_
  intro X hC hR
  have hC : zC X g cX6_classOf RX6 wsX6_classOf rm_X6_classOf 2 := hC
  show ZG X g (zE X) 0 0 [(hM, eo 6 [.int (iZ (n)), .ref mK, .ref mW, .ref mT, .ref mS, .ref mV, .ref mM, .ref mX, .ref mY, .ref mI, .ref mJ, .ref mG, .ref mC, .ref mR, .ref mN, .int (iZ (lk)), .int (iZ (bd)), .int (iZ (so)), .long (lZ (dm)), .int (iZ (tt)), .ref mE, .ref mL, .ref mB, .ref mU, .long (lZ (sm)), .int (iZ (po))]), (mK, ei g 100 KR), (mW, ei g 100 WR), (mT, ei g 100 TR), (mS, ei g 100 SR), (mV, ei g 100 VR), (mM, ez g 100 MR), (mX, ei g 50 XR), (mY, ei g 3 YR), (mI, ei g 101 IR), (mJ, ei g 101 JR), (mG, ei g 101 GR), (mC, el g 20604 CR), (mR, ei g 20604 RR), (mN, ei g 20604 NR), (mE, ei g 50 ER), (mL, ei g 50 LR), (mB, ei g 50 BR), (mU, ei g 50 UR)] [(0, .ref hM), (1, .int (iZ (p)))] 0 []
  refine z_iload_n hC 1 dX6_classOf_0 rfl rfl ?_
  refine z_iconst hC dX6_classOf_1 ?_
  refine z_aload_n hC 0 dX6_classOf_2 rfl rfl ?_
  refine z_get hC iX6_classOf_6 0 19 rfl rfl (by decide) mX6_classOf_f139 rfl dX6_classOf_3 ?_
  refine z_iconst hC dX6_classOf_6 ?_
  refine z_isub hC dX6_classOf_7 ?_
  refine z_sRi hC 3 (c_X6_in (xl X) g _ _ _ (by omega) (by omega) (by omega)) gX6_classOf_X6_in rfl hd_X6_in_s (by decide) ⟨rfl, rfl⟩ [] (by decide) rfl rfl rfl (Nat.le_of_ble_eq_true rfl) dX6_classOf_8 (by decide) ?_
  refine z_if_eq hC 23 dX6_classOf_11 (by decide) (b2_r _) (fun c_11 => ?_) (fun c_11 => ?_)
  ·
    have c_11 := b2_f c_11
    refine z_iconst hC dX6_classOf_23 ?_
    exact hR _ _ _ _ (by first | exact (if_pos (by omega)).symm | exact (if_neg (by omega)).symm) dX6_classOf_24
  ·
    have c_11 := b2_t c_11
    refine z_aload_n hC 0 dX6_classOf_14 rfl rfl ?_
    refine z_get hC iX6_classOf_6 0 23 rfl rfl (by decide) mX6_classOf_f63 rfl dX6_classOf_15 ?_
    refine z_iload_n hC 1 dX6_classOf_18 rfl rfl ?_
    refine z_iald hC 18 rfl (by omega) (by decide) dX6_classOf_19 ?_
    refine z_goto (tgt := 24) hC dX6_classOf_20 (by decide) ?_
    exact hR _ _ _ _ (by first | exact (if_pos (by omega)).symm | exact (if_neg (by omega)).symm) dX6_classOf_24
set_option maxRecDepth 20000 in
theorem mX6_lines_f139 : Cond.fieldLink RX6 139 "BreakSearchModel" "told" "I" ∈ wsX6_lines := by decide +kernel
set_option maxRecDepth 20000 in
theorem iX6_lines_6 : ∀ w ∈ u_ws RX6 TX6 26, w ∈ wsX6_lines := by decide +kernel
abbrev rm_X6_lines : Room := { frames := 1, cells := 0, slots := 0, locals := 12 }
set_option maxHeartbeats 4000000 in
set_option maxRecDepth 100000 in
theorem c_X6_lines (l : Launch) (g : zG) (hM mK mW mT mS mV mM mX mY mI mJ mG mC mR mN mE mL mB mU : Nat) (n lk bd so dm tt sm po : Int) (KR WR TR SR VR MR XR YR IR JR GR CR RR NR ER LR BR UR : Int → Int)  : zMRi l yX6_lines wsX6_lines rm_X6_lines g [(hM, eo 6 [.int (iZ (n)), .ref mK, .ref mW, .ref mT, .ref mS, .ref mV, .ref mM, .ref mX, .ref mY, .ref mI, .ref mJ, .ref mG, .ref mC, .ref mR, .ref mN, .int (iZ (lk)), .int (iZ (bd)), .int (iZ (so)), .long (lZ (dm)), .int (iZ (tt)), .ref mE, .ref mL, .ref mB, .ref mU, .long (lZ (sm)), .int (iZ (po))]), (mK, ei g 100 KR), (mW, ei g 100 WR), (mT, ei g 100 TR), (mS, ei g 100 SR), (mV, ei g 100 VR), (mM, ez g 100 MR), (mX, ei g 50 XR), (mY, ei g 3 YR), (mI, ei g 101 IR), (mJ, ei g 101 JR), (mG, ei g 101 GR), (mC, el g 20604 CR), (mR, ei g 20604 RR), (mN, ei g 20604 NR), (mE, ei g 50 ER), (mL, ei g 50 LR), (mB, ei g 50 BR), (mU, ei g 50 UR)] [.ref hM] (tt) := by
  refine z_beRi (cc := cX6_lines) (nL := 1) (ret := some .int) (plainFor_of_name (by decide +kernel)) rfl (Or.inl rfl) (Nat.le_of_ble_eq_true rfl) ?_
  intro X hC hR
  have hC : zC X g cX6_lines RX6 wsX6_lines rm_X6_lines 1 := hC
  show ZG X g (zE X) 0 0 [(hM, eo 6 [.int (iZ (n)), .ref mK, .ref mW, .ref mT, .ref mS, .ref mV, .ref mM, .ref mX, .ref mY, .ref mI, .ref mJ, .ref mG, .ref mC, .ref mR, .ref mN, .int (iZ (lk)), .int (iZ (bd)), .int (iZ (so)), .long (lZ (dm)), .int (iZ (tt)), .ref mE, .ref mL, .ref mB, .ref mU, .long (lZ (sm)), .int (iZ (po))]), (mK, ei g 100 KR), (mW, ei g 100 WR), (mT, ei g 100 TR), (mS, ei g 100 SR), (mV, ei g 100 VR), (mM, ez g 100 MR), (mX, ei g 50 XR), (mY, ei g 3 YR), (mI, ei g 101 IR), (mJ, ei g 101 JR), (mG, ei g 101 GR), (mC, el g 20604 CR), (mR, ei g 20604 RR), (mN, ei g 20604 NR), (mE, ei g 50 ER), (mL, ei g 50 LR), (mB, ei g 50 BR), (mU, ei g 50 UR)] [(0, .ref hM)] 0 []
  refine z_aload_n hC 0 dX6_lines_0 rfl rfl ?_
  refine z_get hC iX6_lines_6 0 19 rfl rfl (by decide) mX6_lines_f139 rfl dX6_lines_1 ?_
  exact hR _ _ _ _ rfl dX6_lines_4
set_option maxRecDepth 20000 in
theorem mX6_pass_f142 : Cond.fieldLink RX6 142 "BreakSearchModel" "pass" "I" ∈ wsX6_pass := by decide +kernel
set_option maxRecDepth 20000 in
theorem iX6_pass_6 : ∀ w ∈ u_ws RX6 TX6 26, w ∈ wsX6_pass := by decide +kernel
abbrev rm_X6_pass : Room := { frames := 1, cells := 0, slots := 0, locals := 12 }
set_option maxHeartbeats 4000000 in
set_option maxRecDepth 100000 in
theorem c_X6_pass (l : Launch) (g : zG) (hM mK mW mT mS mV mM mX mY mI mJ mG mC mR mN mE mL mB mU : Nat) (n lk bd so dm tt sm po : Int) (KR WR TR SR VR MR XR YR IR JR GR CR RR NR ER LR BR UR : Int → Int)  : zMRi l yX6_pass wsX6_pass rm_X6_pass g [(hM, eo 6 [.int (iZ (n)), .ref mK, .ref mW, .ref mT, .ref mS, .ref mV, .ref mM, .ref mX, .ref mY, .ref mI, .ref mJ, .ref mG, .ref mC, .ref mR, .ref mN, .int (iZ (lk)), .int (iZ (bd)), .int (iZ (so)), .long (lZ (dm)), .int (iZ (tt)), .ref mE, .ref mL, .ref mB, .ref mU, .long (lZ (sm)), .int (iZ (po))]), (mK, ei g 100 KR), (mW, ei g 100 WR), (mT, ei g 100 TR), (mS, ei g 100 SR), (mV, ei g 100 VR), (mM, ez g 100 MR), (mX, ei g 50 XR), (mY, ei g 3 YR), (mI, ei g 101 IR), (mJ, ei g 101 JR), (mG, ei g 101 GR), (mC, el g 20604 CR), (mR, ei g 20604 RR), (mN, ei g 20604 NR), (mE, ei g 50 ER), (mL, ei g 50 LR), (mB, ei g 50 BR), (mU, ei g 50 UR)] [.ref hM] (po) := by
  refine z_beRi (cc := cX6_pass) (nL := 1) (ret := some .int) (plainFor_of_name (by decide +kernel)) rfl (Or.inl rfl) (Nat.le_of_ble_eq_true rfl) ?_
  intro X hC hR
  have hC : zC X g cX6_pass RX6 wsX6_pass rm_X6_pass 1 := hC
  show ZG X g (zE X) 0 0 [(hM, eo 6 [.int (iZ (n)), .ref mK, .ref mW, .ref mT, .ref mS, .ref mV, .ref mM, .ref mX, .ref mY, .ref mI, .ref mJ, .ref mG, .ref mC, .ref mR, .ref mN, .int (iZ (lk)), .int (iZ (bd)), .int (iZ (so)), .long (lZ (dm)), .int (iZ (tt)), .ref mE, .ref mL, .ref mB, .ref mU, .long (lZ (sm)), .int (iZ (po))]), (mK, ei g 100 KR), (mW, ei g 100 WR), (mT, ei g 100 TR), (mS, ei g 100 SR), (mV, ei g 100 VR), (mM, ez g 100 MR), (mX, ei g 50 XR), (mY, ei g 3 YR), (mI, ei g 101 IR), (mJ, ei g 101 JR), (mG, ei g 101 GR), (mC, el g 20604 CR), (mR, ei g 20604 RR), (mN, ei g 20604 NR), (mE, ei g 50 ER), (mL, ei g 50 LR), (mB, ei g 50 BR), (mU, ei g 50 UR)] [(0, .ref hM)] 0 []
  refine z_aload_n hC 0 dX6_pass_0 rfl rfl ?_
  refine z_get hC iX6_pass_6 0 25 rfl rfl (by decide) mX6_pass_f142 rfl dX6_pass_1 ?_
  exact hR _ _ _ _ rfl dX6_pass_4
set_option maxRecDepth 20000 in
theorem mX6_demerits_f136 : Cond.fieldLink RX6 136 "BreakSearchModel" "sum" "J" ∈ wsX6_demerits := by decide +kernel
set_option maxRecDepth 20000 in
theorem iX6_demerits_6 : ∀ w ∈ u_ws RX6 TX6 26, w ∈ wsX6_demerits := by decide +kernel
abbrev rm_X6_demerits : Room := { frames := 1, cells := 0, slots := 0, locals := 12 }
set_option maxHeartbeats 4000000 in
set_option maxRecDepth 100000 in
theorem c_X6_demerits (l : Launch) (g : zG) (hM mK mW mT mS mV mM mX mY mI mJ mG mC mR mN mE mL mB mU : Nat) (n lk bd so dm tt sm po : Int) (KR WR TR SR VR MR XR YR IR JR GR CR RR NR ER LR BR UR : Int → Int)  : zMRl l yX6_demerits wsX6_demerits rm_X6_demerits g [(hM, eo 6 [.int (iZ (n)), .ref mK, .ref mW, .ref mT, .ref mS, .ref mV, .ref mM, .ref mX, .ref mY, .ref mI, .ref mJ, .ref mG, .ref mC, .ref mR, .ref mN, .int (iZ (lk)), .int (iZ (bd)), .int (iZ (so)), .long (lZ (dm)), .int (iZ (tt)), .ref mE, .ref mL, .ref mB, .ref mU, .long (lZ (sm)), .int (iZ (po))]), (mK, ei g 100 KR), (mW, ei g 100 WR), (mT, ei g 100 TR), (mS, ei g 100 SR), (mV, ei g 100 VR), (mM, ez g 100 MR), (mX, ei g 50 XR), (mY, ei g 3 YR), (mI, ei g 101 IR), (mJ, ei g 101 JR), (mG, ei g 101 GR), (mC, el g 20604 CR), (mR, ei g 20604 RR), (mN, ei g 20604 NR), (mE, ei g 50 ER), (mL, ei g 50 LR), (mB, ei g 50 BR), (mU, ei g 50 UR)] [.ref hM] (sm) := by
  refine z_beRl (cc := cX6_demerits) (nL := 1) (plainFor_of_name (by decide +kernel)) rfl (Nat.le_of_ble_eq_true rfl) ?_
  intro X hC hR
  have hC : zC X g cX6_demerits RX6 wsX6_demerits rm_X6_demerits 1 := hC
  show ZG X g (zE X) 0 0 [(hM, eo 6 [.int (iZ (n)), .ref mK, .ref mW, .ref mT, .ref mS, .ref mV, .ref mM, .ref mX, .ref mY, .ref mI, .ref mJ, .ref mG, .ref mC, .ref mR, .ref mN, .int (iZ (lk)), .int (iZ (bd)), .int (iZ (so)), .long (lZ (dm)), .int (iZ (tt)), .ref mE, .ref mL, .ref mB, .ref mU, .long (lZ (sm)), .int (iZ (po))]), (mK, ei g 100 KR), (mW, ei g 100 WR), (mT, ei g 100 TR), (mS, ei g 100 SR), (mV, ei g 100 VR), (mM, ez g 100 MR), (mX, ei g 50 XR), (mY, ei g 3 YR), (mI, ei g 101 IR), (mJ, ei g 101 JR), (mG, ei g 101 GR), (mC, el g 20604 CR), (mR, ei g 20604 RR), (mN, ei g 20604 NR), (mE, ei g 50 ER), (mL, ei g 50 LR), (mB, ei g 50 BR), (mU, ei g 50 UR)] [(0, .ref hM)] 0 []
  refine z_aload_n hC 0 dX6_demerits_0 rfl rfl ?_
  refine z_get hC iX6_demerits_6 0 24 rfl rfl (by decide) mX6_demerits_f136 rfl dX6_demerits_1 ?_
  exact hR _ _ _ _ rfl dX6_demerits_4
set_option maxRecDepth 20000 in
theorem mX6_clear_f66 : Cond.fieldLink RX6 66 "BreakSearchModel" "items" "I" ∈ wsX6_clear := by decide +kernel
set_option maxRecDepth 20000 in
theorem iX6_clear_6 : ∀ w ∈ u_ws RX6 TX6 26, w ∈ wsX6_clear := by decide +kernel
abbrev rm_X6_clear : Room := { frames := 1, cells := 0, slots := 0, locals := 12 }
set_option maxHeartbeats 4000000 in
set_option maxRecDepth 100000 in
theorem c_X6_clear (l : Launch) (g : zG) (hM mK mW mT mS mV mM mX mY mI mJ mG mC mR mN mE mL mB mU : Nat) (n lk bd so dm tt sm po : Int) (KR WR TR SR VR MR XR YR IR JR GR CR RR NR ER LR BR UR : Int → Int)  : zMWi (S := Unit) l yX6_clear wsX6_clear rm_X6_clear g [(hM, eo 6 [.int (iZ (n)), .ref mK, .ref mW, .ref mT, .ref mS, .ref mV, .ref mM, .ref mX, .ref mY, .ref mI, .ref mJ, .ref mG, .ref mC, .ref mR, .ref mN, .int (iZ (lk)), .int (iZ (bd)), .int (iZ (so)), .long (lZ (dm)), .int (iZ (tt)), .ref mE, .ref mL, .ref mB, .ref mU, .long (lZ (sm)), .int (iZ (po))]), (mK, ei g 100 KR), (mW, ei g 100 WR), (mT, ei g 100 TR), (mS, ei g 100 SR), (mV, ei g 100 VR), (mM, ez g 100 MR), (mX, ei g 50 XR), (mY, ei g 3 YR), (mI, ei g 101 IR), (mJ, ei g 101 JR), (mG, ei g 101 GR), (mC, el g 20604 CR), (mR, ei g 20604 RR), (mN, ei g 20604 NR), (mE, ei g 50 ER), (mL, ei g 50 LR), (mB, ei g 50 BR), (mU, ei g 50 UR)] [.ref hM] (fun _ => True) (fun u => n) (fun u => [(hM, eo 6 [.int (iZ (0)), .ref mK, .ref mW, .ref mT, .ref mS, .ref mV, .ref mM, .ref mX, .ref mY, .ref mI, .ref mJ, .ref mG, .ref mC, .ref mR, .ref mN, .int (iZ (lk)), .int (iZ (bd)), .int (iZ (so)), .long (lZ (dm)), .int (iZ (tt)), .ref mE, .ref mL, .ref mB, .ref mU, .long (lZ (sm)), .int (iZ (po))]), (mK, ei g 100 KR), (mW, ei g 100 WR), (mT, ei g 100 TR), (mS, ei g 100 SR), (mV, ei g 100 VR), (mM, ez g 100 MR), (mX, ei g 50 XR), (mY, ei g 3 YR), (mI, ei g 101 IR), (mJ, ei g 101 JR), (mG, ei g 101 GR), (mC, el g 20604 CR), (mR, ei g 20604 RR), (mN, ei g 20604 NR), (mE, ei g 50 ER), (mL, ei g 50 LR), (mB, ei g 50 BR), (mU, ei g 50 UR)]) 0 0 := by
  refine z_beWi (cc := cX6_clear) (nL := 2) (ret := some .int) (plainFor_of_name (by decide +kernel)) rfl (Or.inl rfl) (Nat.le_of_ble_eq_true rfl) ?_
  intro X A hC hN hR
  have hC : zC X g cX6_clear RX6 wsX6_clear rm_X6_clear 2 := hC
  show ZG X g (zD X A) 0 0 [(hM, eo 6 [.int (iZ (n)), .ref mK, .ref mW, .ref mT, .ref mS, .ref mV, .ref mM, .ref mX, .ref mY, .ref mI, .ref mJ, .ref mG, .ref mC, .ref mR, .ref mN, .int (iZ (lk)), .int (iZ (bd)), .int (iZ (so)), .long (lZ (dm)), .int (iZ (tt)), .ref mE, .ref mL, .ref mB, .ref mU, .long (lZ (sm)), .int (iZ (po))]), (mK, ei g 100 KR), (mW, ei g 100 WR), (mT, ei g 100 TR), (mS, ei g 100 SR), (mV, ei g 100 VR), (mM, ez g 100 MR), (mX, ei g 50 XR), (mY, ei g 3 YR), (mI, ei g 101 IR), (mJ, ei g 101 JR), (mG, ei g 101 GR), (mC, el g 20604 CR), (mR, ei g 20604 RR), (mN, ei g 20604 NR), (mE, ei g 50 ER), (mL, ei g 50 LR), (mB, ei g 50 BR), (mU, ei g 50 UR)] [(0, .ref hM)] 0 []
  refine z_aload_n hC 0 dX6_clear_0 rfl rfl ?_
  refine z_get hC iX6_clear_6 0 0 rfl rfl (by decide) mX6_clear_f66 rfl dX6_clear_1 ?_
  refine z_istore_n hC (lv' := [(1, _), (0, _)]) dX6_clear_4 rfl (by decide) rfl ?_
  refine z_aload_n hC 1 dX6_clear_5 rfl rfl ?_
  refine z_iconst hC dX6_clear_6 ?_
  refine z_put hC iX6_clear_6 tyX6 tyX6_ok nmX6 0 0 rfl rfl (by decide) mX6_clear_f66 rfl rfl rfl (Nat.le_of_ble_eq_true rfl) dX6_clear_7 (ws' := [_, _, _, _, _, _, _, _, _, _, _, _, _, _, _, _, _, _, _]) rfl ?_
  refine z_iload_n hC 0 dX6_clear_10 rfl rfl ?_
  exact hR () _ _ _ [0, 1, 2, 3, 4, 5, 6, 7, 8, 9, 10, 11, 12, 13, 14, 15, 16, 17, 18] _ trivial rfl (by decide) rfl dX6_clear_11
