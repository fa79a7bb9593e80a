set_option maxRecDepth 20000 in
theorem mX6_tell_f44 : Cond.fieldLink RX6 44 "BreakSearchModel" "costs" "[J" ∈ wsX6_tell := by decide +kernel
set_option maxRecDepth 20000 in
theorem iX6_tell_6 : ∀ w ∈ u_ws RX6 TX6 26, w ∈ wsX6_tell := by decide +kernel
set_option maxRecDepth 20000 in
theorem mX6_tell_f136 : Cond.fieldLink RX6 136 "BreakSearchModel" "sum" "J" ∈ wsX6_tell := by decide +kernel
set_option maxRecDepth 20000 in
theorem mX6_tell_f48 : Cond.fieldLink RX6 48 "BreakSearchModel" "rest" "[I" ∈ wsX6_tell := by decide +kernel
set_option maxRecDepth 20000 in
theorem mX6_tell_f139 : Cond.fieldLink RX6 139 "BreakSearchModel" "told" "I" ∈ wsX6_tell := by decide +kernel
set_option maxRecDepth 20000 in
theorem mX6_tell_f142 : Cond.fieldLink RX6 142 "BreakSearchModel" "pass" "I" ∈ wsX6_tell := by decide +kernel
set_option maxRecDepth 20000 in
theorem mX6_tell_f51 : Cond.fieldLink RX6 51 "BreakSearchModel" "nexts" "[I" ∈ wsX6_tell := by decide +kernel
set_option maxRecDepth 20000 in
theorem mX6_tell_f54 : Cond.fieldLink RX6 54 "BreakSearchModel" "ends" "[I" ∈ wsX6_tell := by decide +kernel
set_option maxRecDepth 20000 in
theorem mX6_tell_f57 : Cond.fieldLink RX6 57 "BreakSearchModel" "lacks" "[I" ∈ wsX6_tell := by decide +kernel
set_option maxRecDepth 20000 in
theorem mX6_tell_f78 : Cond.fieldLink RX6 78 "BreakSearchModel" "lack" "I" ∈ wsX6_tell := by decide +kernel
set_option maxRecDepth 20000 in
theorem mX6_tell_f60 : Cond.fieldLink RX6 60 "BreakSearchModel" "bads" "[I" ∈ wsX6_tell := by decide +kernel
set_option maxRecDepth 20000 in
theorem mX6_tell_f81 : Cond.fieldLink RX6 81 "BreakSearchModel" "bad" "I" ∈ wsX6_tell := by decide +kernel
set_option maxRecDepth 20000 in
theorem mX6_tell_f63 : Cond.fieldLink RX6 63 "BreakSearchModel" "classes" "[I" ∈ wsX6_tell := by decide +kernel
set_option maxRecDepth 20000 in
theorem mX6_tell_f84 : Cond.fieldLink RX6 84 "BreakSearchModel" "sort" "I" ∈ wsX6_tell := by decide +kernel
set_option maxRecDepth 20000 in
theorem mX6_tell_f66 : Cond.fieldLink RX6 66 "BreakSearchModel" "items" "I" ∈ wsX6_tell := by decide +kernel
abbrev rm_X6_tell : Room := { frames := 3, cells := 0, slots := 0, locals := 66 }
set_option maxHeartbeats 4000000 in
set_option maxRecDepth 100000 in
theorem c_X6_tell (l : Launch) (g : zG) (hM mK mW mT mS mV mM mX mY mI mJ mG mC mR mN mE mL mB mU : Nat) (n lk bd so dm tt sm po : Int) (KR WR TR SR VR MR XR YR IR JR GR CR RR NR ER LR BR UR : Int → Int) (K V P M LB SB HB W T : Int → Int) (mt ex : Int) (d : zDP) (ps : Int) (h1 : zEnv n K V P M LB SB HB W T ps mt ex d) (h2 : zSm n K V P M KR WR VR MR) (h3 : zSu n LB SB HB IR JR GR) (h4 : zSx W T XR YR) (h5 : zO1 d K V M n mt (-1) CR RR NR) (h6 : ¬ (zVL d 0 (-1) 0).2.1 = 0) : zMWv (S := (Int) × (Int) × (Int) × (Int) × (Int) × (Int → Int) × (Int → Int) × (Int → Int) × (Int → Int) × (Int)) l yX6_tell wsX6_tell rm_X6_tell g [(hM, eo 6 [.int (iZ (n)), .ref mK, .ref mW, .ref mT, .ref mS, .ref mV, .ref mM, .ref mX, .ref mY, .ref mI, .ref mJ, .ref mG, .ref mC, .ref mR, .ref mN, .int (iZ (lk)), .int (iZ (bd)), .int (iZ (so)), .long (lZ (dm)), .int (iZ (tt)), .ref mE, .ref mL, .ref mB, .ref mU, .long (lZ (sm)), .int (iZ (po))]), (mK, ei g 100 KR), (mW, ei g 100 WR), (mT, ei g 100 TR), (mS, ei g 100 SR), (mV, ei g 100 VR), (mM, ez g 100 MR), (mX, ei g 50 XR), (mY, ei g 3 YR), (mI, ei g 101 IR), (mJ, ei g 101 JR), (mG, ei g 101 GR), (mC, el g 20604 CR), (mR, ei g 20604 RR), (mN, ei g 20604 NR), (mE, ei g 50 ER), (mL, ei g 50 LR), (mB, ei g 50 BR), (mU, ei g 50 UR)] [.ref hM, .int (iZ (ps))] (fun u => u.2.2.2.2.1 = (zVL d 0 (-1) 0).2.1 ∧ u.2.2.2.2.2.2.2.2.2 = (zVL d 0 (-1) 0).1 ∧ zWay n K P LB SB HB W (if ps = 3 then T 2 else 0) d u.2.2.2.2.1 u.2.2.2.2.2.1 u.2.2.2.2.2.2.1 u.2.2.2.2.2.2.2.1 u.2.2.2.2.2.2.2.2.1) (fun u => [(hM, eo 6 [.int (iZ (n)), .ref mK, .ref mW, .ref mT, .ref mS, .ref mV, .ref mM, .ref mX, .ref mY, .ref mI, .ref mJ, .ref mG, .ref mC, .ref mR, .ref mN, .int (iZ (u.1)), .int (iZ (u.2.1)), .int (iZ (u.2.2.1)), .long (lZ (u.2.2.2.1)), .int (iZ (u.2.2.2.2.1)), .ref mE, .ref mL, .ref mB, .ref mU, .long (lZ (u.2.2.2.2.2.2.2.2.2)), .int (iZ (ps))]), (mK, ei g 100 KR), (mW, ei g 100 WR), (mT, ei g 100 TR), (mS, ei g 100 SR), (mV, ei g 100 VR), (mM, ez g 100 MR), (mX, ei g 50 XR), (mY, ei g 3 YR), (mI, ei g 101 IR), (mJ, ei g 101 JR), (mG, ei g 101 GR), (mC, el g 20604 CR), (mR, ei g 20604 RR), (mN, ei g 20604 NR), (mE, ei g 50 u.2.2.2.2.2.1), (mL, ei g 50 u.2.2.2.2.2.2.1), (mB, ei g 50 u.2.2.2.2.2.2.2.1), (mU, ei g 50 u.2.2.2.2.2.2.2.2.1)]) 0 0 := by
  refine z_beWv (cc := cX6_tell) (nL := 7) (plainFor_of_name (by decide +kernel)) rfl (Nat.le_of_ble_eq_true rfl) ?_
  intro X A hC hN hR
  have hC : zC X g cX6_tell RX6 wsX6_tell rm_X6_tell 7 := hC
  show ZG X g (zD X A) 0 0 [(hM, eo 6 [.int (iZ (n)), .ref mK, .ref mW, .ref mT, .ref mS, .ref mV, .ref mM, .ref mX, .ref mY, .ref mI, .ref mJ, .ref mG, .ref mC, .ref mR, .ref mN, .int (iZ (lk)), .int (iZ (bd)), .int (iZ (so)), .long (lZ (dm)), .int (iZ (tt)), .ref mE, .ref mL, .ref mB, .ref mU, .long (lZ (sm)), .int (iZ (po))]), (mK, ei g 100 KR), (mW, ei g 100 WR), (mT, ei g 100 TR), (mS, ei g 100 SR), (mV, ei g 100 VR), (mM, ez g 100 MR), (mX, ei g 50 XR), (mY, ei g 3 YR), (mI, ei g 101 IR), (mJ, ei g 101 JR), (mG, ei g 101 GR), (mC, el g 20604 CR), (mR, ei g 20604 RR), (mN, ei g 20604 NR), (mE, ei g 50 ER), (mL, ei g 50 LR), (mB, ei g 50 BR), (mU, ei g 50 UR)] [(0, .ref hM), (1, .int (iZ (ps)))] 0 []
  have hB := zEnv_b h1
  obtain ⟨hI1, hI2, hI3, hI4, hI5, hI6, hI7, hI8, hd⟩ := id h1
  have hn := hI1.1
  have hCi : zCi n K V P M LB SB HB W T := ⟨hI1, hI2, hI3, hI4⟩
  have h0 : (zVL d 0 (-1) 0).2.1 ≠ 0 := h6
  have hd1 : d.1 = n := by rw [hd]; rfl
  have hb0 := zVL_in hB (i := 0) (by omega) (-1) 0
  unfold zNb at hb0
  have hC0 := h5 (-1) 0 0 (by omega) (by omega) (Or.inl ⟨rfl, rfl⟩) (by omega) (by omega)
  refine z_iconst hC dX6_tell_0 ?_
  refine z_iconst hC dX6_tell_1 ?_
  refine z_iconst hC dX6_tell_2 ?_
  refine z_sRi hC 3 (c_X6_index (xl X) g _ _ _) gX6_tell_X6_index rfl hd_X6_index_s (by decide) ⟨rfl, rfl⟩ [] (by decide) rfl rfl rfl (Nat.le_of_ble_eq_true rfl) dX6_tell_3 (by decide) ?_
  refine z_istore_n hC (lv' := [(2, _), (0, _), (1, _)]) dX6_tell_6 rfl (by decide) rfl ?_
  refine z_iconst hC dX6_tell_7 ?_
  refine z_istore_n hC (lv' := [(3, _), (2, _), (0, _), (1, _)]) dX6_tell_8 rfl (by decide) rfl ?_
  refine z_aload_n hC 2 dX6_tell_9 rfl rfl ?_
  refine z_aload_n hC 2 dX6_tell_10 rfl rfl ?_
  refine z_get hC iX6_tell_6 0 12 rfl rfl (by decide) mX6_tell_f44 rfl dX6_tell_11 ?_
  refine z_iload_n hC 1 dX6_tell_14 rfl rfl ?_
  refine z_lald hC 12 rfl (by omega) (by decide) dX6_tell_15 ?_
  refine z_topl (b := (zVL d 0 (-1) 0).1) (hC0.2 h0).1 ?_
  refine z_put hC iX6_tell_6 tyX6 tyX6_ok nmX6 0 24 rfl rfl (by decide) mX6_tell_f136 rfl rfl rfl (Nat.le_of_ble_eq_true rfl) dX6_tell_16 (ws' := [_, _, _, _, _, _, _, _, _, _, _, _, _, _, _, _, _, _, _]) rfl ?_
  refine z_aload_n hC 2 dX6_tell_19 rfl rfl ?_
  refine z_aload_n hC 2 dX6_tell_20 rfl rfl ?_
  refine z_get hC iX6_tell_6 0 13 rfl rfl (by decide) mX6_tell_f48 rfl dX6_tell_21 ?_
  refine z_iload_n hC 1 dX6_tell_24 rfl rfl ?_
  refine z_iald hC 13 rfl (by omega) (by decide) dX6_tell_25 ?_
  refine z_top (b := (zVL d 0 (-1) 0).2.1) hC0.1 ?_
  refine z_put hC iX6_tell_6 tyX6 tyX6_ok nmX6 0 19 rfl rfl (by decide) mX6_tell_f139 rfl rfl rfl (Nat.le_of_ble_eq_true rfl) dX6_tell_26 (ws' := [_, _, _, _, _, _, _, _, _, _, _, _, _, _, _, _, _, _, _]) rfl ?_
  refine z_aload_n hC 2 dX6_tell_29 rfl rfl ?_
  refine z_iload_n hC 3 dX6_tell_30 rfl rfl ?_
  refine z_put hC iX6_tell_6 tyX6 tyX6_ok nmX6 0 25 rfl rfl (by decide) mX6_tell_f142 rfl rfl rfl (Nat.le_of_ble_eq_true rfl) dX6_tell_31 (ws' := [_, _, _, _, _, _, _, _, _, _, _, _, _, _, _, _, _, _, _]) rfl ?_
  refine z_iconst hC dX6_tell_34 ?_
  refine z_istore hC (lv' := [(4, _), (3, _), (2, _), (0, _), (1, _)]) dX6_tell_35 (by decide) rfl ?_
  have L37 : ∀ (fu : Nat) (j : Nat) (ix : Int) (E2 L2 B2 U2 : Int → Int) (lk2 bd2 so2 dm2 : Int), ((j : Int) ≤ (zVL d 0 (-1) 0).2.1) → (zWay n K P LB SB HB W (if ps = 3 then T 2 else 0) d j E2 L2 B2 U2) → ((j : Int) < (zVL d 0 (-1) 0).2.1 → ix = (((zPth d j).1 + 1) * 51 + j) * 4 + (zPth d j).2) → (51 - (j : Int)).toNat < fu → ZG X g (zD X A) 0 0 [(hM, eo 6 [.int (iZ (n)), .ref mK, .ref mW, .ref mT, .ref mS, .ref mV, .ref mM, .ref mX, .ref mY, .ref mI, .ref mJ, .ref mG, .ref mC, .ref mR, .ref mN, .int (iZ (lk2)), .int (iZ (bd2)), .int (iZ (so2)), .long (lZ (dm2)), .int (iZ ((zVL d 0 (-1) 0).2.1)), .ref mE, .ref mL, .ref mB, .ref mU, .long (lZ ((zVL d 0 (-1) 0).1)), .int (iZ (ps))]), (mK, ei g 100 KR), (mW, ei g 100 WR), (mT, ei g 100 TR), (mS, ei g 100 SR), (mV, ei g 100 VR), (mM, ez g 100 MR), (mX, ei g 50 XR), (mY, ei g 3 YR), (mI, ei g 101 IR), (mJ, ei g 101 JR), (mG, ei g 101 GR), (mC, el g 20604 CR), (mR, ei g 20604 RR), (mN, ei g 20604 NR), (mE, ei g 50 E2), (mL, ei g 50 L2), (mB, ei g 50 B2), (mU, ei g 50 U2)] [(2, .int (iZ (ix))), (3, .int (iZ ((zPth d j).1))), (4, .int (iZ ((j : Int)))), (0, .ref hM), (1, .int (iZ (ps)))] 37 [] := by
    intro fu
    induction fu with
    | zero => intro j ix E2 L2 B2 U2 lk2 bd2 so2 dm2; intros; omega
    | succ fu ih_37 =>
      intro j ix E2 L2 B2 U2 lk2 bd2 so2 dm2 hj hW hx hn
      refine z_iload hC 2 dX6_tell_37 rfl ?_
      refine z_aload_n hC 3 dX6_tell_39 rfl rfl ?_
      refine z_get hC iX6_tell_6 0 19 rfl rfl (by decide) mX6_tell_f139 rfl dX6_tell_40 ?_
      refine z_icmp_ge hC 144 dX6_tell_43 (by decide) (by omega) (by omega) (fun c_43 => ?_) (fun c_43 => ?_)
      ·
        have hjL : (j : Int) = (zVL d 0 (-1) 0).2.1 := by omega
        rw [hjL] at hW
        exact hR (lk2, bd2, so2, dm2, (zVL d 0 (-1) 0).2.1, E2, L2, B2, U2, (zVL d 0 (-1) 0).1) _ _ _ [0, 1, 2, 3, 4, 5, 6, 7, 8, 9, 10, 11, 12, 13, 14, 15, 16, 17, 18] ⟨rfl, rfl, hW⟩ (by decide) rfl dX6_tell_144
      ·
        obtain ⟨g1, g2, g3, g4, g5⟩ := zPth_ok hB (by omega) h0 j c_43
        have hft0 := zPth_fit hB (by omega) h0 j c_43
        have hft : zFit n K V P M LB SB HB W (if ps = 1 then T 0 else T 1) (if ps = 3 then T 2 else 0) mt (zPth d j).1 (zPth d (j + 1)).1 j := by rw [hd] at hft0 ⊢; exact hft0
        have hcl : 0 ≤ (zPth d j).2 ∧ (zPth d j).2 ≤ 3 := by rw [hd]; exact zPth_cl j
        have hab := hft.1
        have hmy : ((zPth d j).1 = -1 ∧ (j : Int) = 0) ∨ (0 ≤ (zPth d j).1 ∧ (zPth d j).1 < n ∧ zMay K V M n (zPth d j).1 mt ∧ 1 ≤ (j : Int)) := by
          by_cases q : j = 0
          · exact Or.inl ⟨g5 q, by omega⟩
          · exact Or.inr ⟨(g4 (by omega)).1, by omega, zPth_may hd hB (by omega) h0 j c_43 (by omega), by omega⟩
        have hcell := h5 (zPth d j).1 j (zPth d j).2 (by omega) (by omega) hmy hcl.1 hcl.2
        have hix := hx c_43
        refine z_aload_n hC 3 dX6_tell_46 rfl rfl ?_
        refine z_get hC iX6_tell_6 0 14 rfl rfl (by decide) mX6_tell_f51 rfl dX6_tell_47 ?_
        refine z_iload_n hC 0 dX6_tell_50 rfl rfl ?_
        refine z_iald hC 14 rfl (by omega) (by decide) dX6_tell_51 ?_
        refine z_top (b := (zPth d (j + 1)).1) (by rw [hix]; exact (hcell.2 (by omega)).2) ?_
        refine z_istore hC (lv' := [(5, _), (2, _), (3, _), (4, _), (0, _), (1, _)]) dX6_tell_52 (by decide) rfl ?_
        refine z_aload_n hC 4 dX6_tell_54 rfl rfl ?_
        refine z_iload_n hC 2 dX6_tell_55 rfl rfl ?_
        refine z_iload hC 0 dX6_tell_56 rfl ?_
        refine z_iload hC 3 dX6_tell_58 rfl ?_
        refine z_iload_n hC 5 dX6_tell_60 rfl rfl ?_
        refine z_vWi (wr := []) hC 4 (c_X6_isLine (xl X) g _ _ _ _ _ _ _ _ _ _ _ _ _ _ _ _ _ _ _ _ _ _ _ _ _ _ _ _ _ _ _ _ _ _ _ _ _ _ _ _ _ _ _ _ _ K V P M LB SB HB W T _ _ _ _ hCi h2 h3 h4 (by omega) (by omega) hI5) gX6_tell_X6_isLine rfl hd_X6_isLine_v (by decide) ⟨rfl, rfl⟩ [0, 1, 2, 3, 4, 5, 6, 7, 8, 9, 10, 11, 12, 13, 14, 15, 16, 17, 18] [] (by decide) rfl rfl (by decide) (by decide) 0 6 rfl rfl rfl rfl rfl (Nat.le_of_ble_eq_true rfl) dX6_tell_61 (by decide) (fun u_61 p_61 => ?_)
        obtain ⟨lk1_61, bd1_61, so1_61, dm1_61, r1_61⟩ := u_61
        try dsimp only at p_61
        refine z_ws (ws' := [(hM, eo 6 [.int (iZ (n)), .ref mK, .ref mW, .ref mT, .ref mS, .ref mV, .ref mM, .ref mX, .ref mY, .ref mI, .ref mJ, .ref mG, .ref mC, .ref mR, .ref mN, .int (iZ (lk1_61)), .int (iZ (bd1_61)), .int (iZ (so1_61)), .long (lZ (dm1_61)), .int (iZ (((zVL d 0 (-1) 0).2.1))), .ref mE, .ref mL, .ref mB, .ref mU, .long (lZ (((zVL d 0 (-1) 0).1))), .int (iZ (ps))]), (mK, ei g 100 KR), (mW, ei g 100 WR), (mT, ei g 100 TR), (mS, ei g 100 SR), (mV, ei g 100 VR), (mM, ez g 100 MR), (mX, ei g 50 XR), (mY, ei g 3 YR), (mI, ei g 101 IR), (mJ, ei g 101 JR), (mG, ei g 101 GR), (mC, el g 20604 CR), (mR, ei g 20604 RR), (mN, ei g 20604 NR), (mE, ei g 50 E2), (mL, ei g 50 L2), (mB, ei g 50 B2), (mU, ei g 50 U2)]) [0, 1, 2, 3, 4, 5, 6, 7, 8, 9, 10, 11, 12, 13, 14, 15, 16, 17, 18] (by decide) rfl ?_
        refine z_top (b := r1_61) rfl ?_
        have hms := p_61.2.1 ⟨hft.2.2.2.1, hft.2.2.2.2⟩
        have hk2 : so1_61 = (zPth d (j + 1)).2 := by rw [hms.2.2.1, hd]; rfl
        refine z_istore hC (lv' := [(6, _), (5, _), (2, _), (3, _), (4, _), (0, _), (1, _)]) dX6_tell_64 (by decide) rfl ?_
        refine z_aload_n hC 5 dX6_tell_66 rfl rfl ?_
        refine z_get hC iX6_tell_6 0 20 rfl rfl (by decide) mX6_tell_f54 rfl dX6_tell_67 ?_
        refine z_iload hC 4 dX6_tell_70 rfl ?_
        refine z_iload hC 1 dX6_tell_72 rfl ?_
        refine z_iast hC 15 rfl (by omega) (by decide) dX6_tell_74 (ws' := [_, _, _, _, _, _, _, _, _, _, _, _, _, _, _, _, _, _, _]) rfl ?_
        refine z_aload_n hC 5 dX6_tell_75 rfl rfl ?_
        refine z_get hC iX6_tell_6 0 21 rfl rfl (by decide) mX6_tell_f57 rfl dX6_tell_76 ?_
        refine z_iload hC 4 dX6_tell_79 rfl ?_
        refine z_aload_n hC 5 dX6_tell_81 rfl rfl ?_
        refine z_get hC iX6_tell_6 0 15 rfl rfl (by decide) mX6_tell_f78 rfl dX6_tell_82 ?_
        refine z_iast hC 16 rfl (by omega) (by decide) dX6_tell_85 (ws' := [_, _, _, _, _, _, _, _, _, _, _, _, _, _, _, _, _, _, _]) rfl ?_
        refine z_aload_n hC 5 dX6_tell_86 rfl rfl ?_
        refine z_get hC iX6_tell_6 0 22 rfl rfl (by decide) mX6_tell_f60 rfl dX6_tell_87 ?_
        refine z_iload hC 4 dX6_tell_90 rfl ?_
        refine z_aload_n hC 5 dX6_tell_92 rfl rfl ?_
        refine z_get hC iX6_tell_6 0 16 rfl rfl (by decide) mX6_tell_f81 rfl dX6_tell_93 ?_
        refine z_iast hC 17 rfl (by omega) (by decide) dX6_tell_96 (ws' := [_, _, _, _, _, _, _, _, _, _, _, _, _, _, _, _, _, _, _]) rfl ?_
        refine z_aload_n hC 5 dX6_tell_97 rfl rfl ?_
        refine z_get hC iX6_tell_6 0 23 rfl rfl (by decide) mX6_tell_f63 rfl dX6_tell_98 ?_
        refine z_iload hC 4 dX6_tell_101 rfl ?_
        refine z_aload_n hC 5 dX6_tell_103 rfl rfl ?_
        refine z_get hC iX6_tell_6 0 17 rfl rfl (by decide) mX6_tell_f84 rfl dX6_tell_104 ?_
        refine z_iast hC 18 rfl (by omega) (by decide) dX6_tell_107 (ws' := [_, _, _, _, _, _, _, _, _, _, _, _, _, _, _, _, _, _, _]) rfl ?_
        refine z_iload hC 1 dX6_tell_108 rfl ?_
        refine z_istore_n hC (lv' := [(3, _), (6, _), (5, _), (2, _), (4, _), (0, _), (1, _)]) dX6_tell_110 rfl (by decide) rfl ?_
        have J137 : ∀ (x2 : Int), ((j : Int) + 1 < (zVL d 0 (-1) 0).2.1 → x2 = ((zPth d (j + 1)).1 + 1) * 51 * 4 + ((j : Int) + 1) * 4 + (zPth d (j + 1)).2) → ZG X g (zD X A) 0 0 [(hM, eo 6 [.int (iZ (n)), .ref mK, .ref mW, .ref mT, .ref mS, .ref mV, .ref mM, .ref mX, .ref mY, .ref mI, .ref mJ, .ref mG, .ref mC, .ref mR, .ref mN, .int (iZ (lk1_61)), .int (iZ (bd1_61)), .int (iZ (so1_61)), .long (lZ (dm1_61)), .int (iZ (((zVL d 0 (-1) 0).2.1))), .ref mE, .ref mL, .ref mB, .ref mU, .long (lZ (((zVL d 0 (-1) 0).1))), .int (iZ (ps))]), (mK, ei g 100 KR), (mW, ei g 100 WR), (mT, ei g 100 TR), (mS, ei g 100 SR), (mV, ei g 100 VR), (mM, ez g 100 MR), (mX, ei g 50 XR), (mY, ei g 3 YR), (mI, ei g 101 IR), (mJ, ei g 101 JR), (mG, ei g 101 GR), (mC, el g 20604 CR), (mR, ei g 20604 RR), (mN, ei g 20604 NR), (mE, ei g 50 (uZ E2 ((j : Int)) ((zPth d (j + 1)).1))), (mL, ei g 50 (uZ L2 ((j : Int)) lk1_61)), (mB, ei g 50 (uZ B2 ((j : Int)) bd1_61)), (mU, ei g 50 (uZ U2 ((j : Int)) so1_61))] [(3, .int (iZ ((zPth d (j + 1)).1))), (6, .int (iZ (r1_61))), (5, .int (iZ ((zPth d (j + 1)).1))), (2, .int (iZ (ix))), (4, .int (iZ ((j : Int)))), (0, .ref hM), (1, .int (iZ (ps)))] 137 [.int (iZ (x2))] := by
          intro x2 hx2
          refine z_istore_n hC (lv' := [(2, _), (3, _), (6, _), (5, _), (4, _), (0, _), (1, _)]) dX6_tell_137 rfl (by decide) rfl ?_
          refine z_iinc hC (lv' := [(4, _), (2, _), (3, _), (6, _), (5, _), (0, _), (1, _)]) 4 dX6_tell_138 rfl (by decide) rfl ?_
          refine z_goto (tgt := 37) hC dX6_tell_141 (by decide) ?_
          refine z_lv (lv' := [(2, _), (3, _), (4, _), (0, _), (1, _)]) [1, 2, 0, 5, 6] rfl ?_
          exact ih_37 (j + 1) _ _ _ _ _ _ _ _ _ (by omega) (zWay_s hW rfl p_61.1 hms.2.1 hk2) (fun q => by have := hx2 (by omega); omega) (by omega)
        refine z_iload hC 2 dX6_tell_111 rfl ?_
        refine z_aload_n hC 5 dX6_tell_113 rfl rfl ?_
        refine z_get hC iX6_tell_6 0 0 rfl rfl (by decide) mX6_tell_f66 rfl dX6_tell_114 ?_
        refine z_icmp_ge hC 136 dX6_tell_117 (by decide) (by omega) (by omega) (fun c_117 => ?_) (fun c_117 => ?_)
        ·
          refine z_iconst hC dX6_tell_136 ?_
          exact J137 _ (fun q => by first | (rw [← hk2]; omega) | (exfalso; have := (zPth_ok hB (by omega) h0 (j + 1) (by omega)).2.1; omega))
        ·
          refine z_iload hC 2 dX6_tell_120 rfl ?_
          refine z_iload hC 4 dX6_tell_122 rfl ?_
          refine z_iconst hC dX6_tell_124 ?_
          refine z_iadd hC dX6_tell_125 ?_
          refine z_aload_n hC 5 dX6_tell_126 rfl rfl ?_
          refine z_get hC iX6_tell_6 0 17 rfl rfl (by decide) mX6_tell_f84 rfl dX6_tell_127 ?_
          refine z_sRi hC 3 (c_X6_index (xl X) g _ _ _) gX6_tell_X6_index rfl hd_X6_index_s (by decide) ⟨rfl, rfl⟩ [] (by decide) rfl rfl rfl (Nat.le_of_ble_eq_true rfl) dX6_tell_130 (by decide) ?_
          refine z_goto (tgt := 137) hC dX6_tell_133 (by decide) ?_
          exact J137 _ (fun q => by first | (rw [← hk2]; omega) | (exfalso; have := (zPth_ok hB (by omega) h0 (j + 1) (by omega)).2.1; omega))
  refine z_lv (lv' := [(2, _), (3, _), (4, _), (0, _), (1, _)]) [2, 1, 0, 3, 4] rfl ?_
  exact L37 _ 0 _ _ _ _ _ _ _ _ _ (by omega) zWay_0 (fun _ => rfl) (Nat.lt_succ_self _)
