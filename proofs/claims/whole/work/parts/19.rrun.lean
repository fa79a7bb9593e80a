theorem hd_X6_search_v : yX6_search.cls = RX6 ∧ yX6_search.cls ≠ "java/lang/invoke/MethodHandle" ∧ yX6_search.cls ≠ "java/lang/invoke/VarHandle" ∧ (parseMethodDescriptor yX6_search.desc).map (fun d => d.parameters.length) = some 2 := by decide +kernel
theorem hd_X6_tell_v : yX6_tell.cls = RX6 ∧ yX6_tell.cls ≠ "java/lang/invoke/MethodHandle" ∧ yX6_tell.cls ≠ "java/lang/invoke/VarHandle" ∧ (parseMethodDescriptor yX6_tell.desc).map (fun d => d.parameters.length) = some 1 := by decide +kernel
theorem hd_X6_in_s : yX6_in.cls ≠ "java/lang/invoke/MethodHandle" ∧ yX6_in.cls ≠ "java/lang/invoke/VarHandle" ∧ (parseMethodDescriptor yX6_in.desc).map (fun d => d.parameters.length) = some 3 := by decide +kernel
set_option maxRecDepth 20000 in
theorem mX6_run_f139 : Cond.fieldLink RX6 139 "BreakSearchModel" "told" "I" ∈ wsX6_run := by decide +kernel
set_option maxRecDepth 20000 in
theorem iX6_run_6 : ∀ w ∈ u_ws RX6 TX6 26, w ∈ wsX6_run := by decide +kernel
set_option maxRecDepth 20000 in
theorem mX6_run_f136 : Cond.fieldLink RX6 136 "BreakSearchModel" "sum" "J" ∈ wsX6_run := by decide +kernel
set_option maxRecDepth 20000 in
theorem mX6_run_f142 : Cond.fieldLink RX6 142 "BreakSearchModel" "pass" "I" ∈ wsX6_run := by decide +kernel
set_option maxRecDepth 20000 in
theorem mX6_run_f48 : Cond.fieldLink RX6 48 "BreakSearchModel" "rest" "[I" ∈ wsX6_run := by decide +kernel
abbrev rm_X6_run : Room := { frames := 5, cells := 0, slots := 0, locals := 128 }
set_option maxHeartbeats 4000000 in
set_option maxRecDepth 100000 in
theorem c_X6_run (l : Launch) (g : zG) (hM mK mW mT mS mV mM mX mY mI mJ mG mC mR mN mE mL mB mU : Nat) (n lk bd so dm tt sm po : Int) (KR WR TR SR VR MR XR YR IR JR GR CR RR NR ER LR BR UR : Int → Int) (K V P M LB SB HB W T : Int → Int) (h1 : zCi n K V P M LB SB HB W T) (h2 : zSm n K V P M KR WR VR MR) (h3 : zSs n K LB SB HB WR TR SR) (h4 : zSx W T XR YR) (h5 : IR 0 = 0 ∧ JR 0 = 0 ∧ GR 0 = 0) : zMWi (S := (Int → Int) × (Int → Int) × (Int → Int) × (Int → Int) × (Int → Int) × (Int → Int) × (Int) × (Int) × (Int) × (Int) × (Int) × (Int → Int) × (Int → Int) × (Int → Int) × (Int → Int) × (Int) × (Int) × (Int)) l yX6_run wsX6_run rm_X6_run g [(hM, eo 6 [.int (iZ (n)), .ref mK, .ref mW, .ref mT, .ref mS, .ref mV, .ref mM, .ref mX, .ref mY, .ref mI, .ref mJ, .ref mG, .ref mC, .ref mR, .ref mN, .int (iZ (lk)), .int (iZ (bd)), .int (iZ (so)), .long (lZ (dm)), .int (iZ (tt)), .ref mE, .ref mL, .ref mB, .ref mU, .long (lZ (sm)), .int (iZ (po))]), (mK, ei g 100 KR), (mW, ei g 100 WR), (mT, ei g 100 TR), (mS, ei g 100 SR), (mV, ei g 100 VR), (mM, ez g 100 MR), (mX, ei g 50 XR), (mY, ei g 3 YR), (mI, ei g 101 IR), (mJ, ei g 101 JR), (mG, ei g 101 GR), (mC, el g 20604 CR), (mR, ei g 20604 RR), (mN, ei g 20604 NR), (mE, ei g 50 ER), (mL, ei g 50 LR), (mB, ei g 50 BR), (mU, ei g 50 UR)] [.ref hM] (fun u => zRun n K V P M LB SB HB W T u.2.2.2.2.2.2.2.2.2.2.1 u.2.2.2.2.2.2.2.2.2.2.2.2.2.2.2.2.1 u.2.2.2.2.2.2.2.2.2.2.2.2.2.2.2.1 u.2.2.2.2.2.2.2.2.2.2.2.1 u.2.2.2.2.2.2.2.2.2.2.2.2.1 u.2.2.2.2.2.2.2.2.2.2.2.2.2.1 u.2.2.2.2.2.2.2.2.2.2.2.2.2.2.1 ∧ (u.1 0 = 0 ∧ u.2.1 0 = 0 ∧ u.2.2.1 0 = 0) ∧ u.2.2.2.2.2.2.2.2.2.2.2.2.2.2.2.2.2 = u.2.2.2.2.2.2.2.2.2.2.1) (fun u => u.2.2.2.2.2.2.2.2.2.2.2.2.2.2.2.2.2) (fun u => [(hM, eo 6 [.int (iZ (n)), .ref mK, .ref mW, .ref mT, .ref mS, .ref mV, .ref mM, .ref mX, .ref mY, .ref mI, .ref mJ, .ref mG, .ref mC, .ref mR, .ref mN, .int (iZ (u.2.2.2.2.2.2.1)), .int (iZ (u.2.2.2.2.2.2.2.1)), .int (iZ (u.2.2.2.2.2.2.2.2.1)), .long (lZ (u.2.2.2.2.2.2.2.2.2.1)), .int (iZ (u.2.2.2.2.2.2.2.2.2.2.1)), .ref mE, .ref mL, .ref mB, .ref mU, .long (lZ (u.2.2.2.2.2.2.2.2.2.2.2.2.2.2.2.1)), .int (iZ (u.2.2.2.2.2.2.2.2.2.2.2.2.2.2.2.2.1))]), (mK, ei g 100 KR), (mW, ei g 100 WR), (mT, ei g 100 TR), (mS, ei g 100 SR), (mV, ei g 100 VR), (mM, ez g 100 MR), (mX, ei g 50 XR), (mY, ei g 3 YR), (mI, ei g 101 u.1), (mJ, ei g 101 u.2.1), (mG, ei g 101 u.2.2.1), (mC, el g 20604 u.2.2.2.1), (mR, ei g 20604 u.2.2.2.2.1), (mN, ei g 20604 u.2.2.2.2.2.1), (mE, ei g 50 u.2.2.2.2.2.2.2.2.2.2.2.1), (mL, ei g 50 u.2.2.2.2.2.2.2.2.2.2.2.2.1), (mB, ei g 50 u.2.2.2.2.2.2.2.2.2.2.2.2.2.1), (mU, ei g 50 u.2.2.2.2.2.2.2.2.2.2.2.2.2.2.1)]) 0 0 := by
  refine z_beWi (cc := cX6_run) (nL := 2) (ret := some .int) (plainFor_of_name (by decide +kernel)) rfl (Or.inl rfl) (Nat.le_of_ble_eq_true rfl) ?_
  intro X A hC hN hR
  have hC : zC X g cX6_run RX6 wsX6_run rm_X6_run 2 := hC
  show ZG X g (zD X A) 0 0 [(hM, eo 6 [.int (iZ (n)), .ref mK, .ref mW, .ref mT, .ref mS, .ref mV, .ref mM, .ref mX, .ref mY, .ref mI, .ref mJ, .ref mG, .ref mC, .ref mR, .ref mN, .int (iZ (lk)), .int (iZ (bd)), .int (iZ (so)), .long (lZ (dm)), .int (iZ (tt)), .ref mE, .ref mL, .ref mB, .ref mU, .long (lZ (sm)), .int (iZ (po))]), (mK, ei g 100 KR), (mW, ei g 100 WR), (mT, ei g 100 TR), (mS, ei g 100 SR), (mV, ei g 100 VR), (mM, ez g 100 MR), (mX, ei g 50 XR), (mY, ei g 3 YR), (mI, ei g 101 IR), (mJ, ei g 101 JR), (mG, ei g 101 GR), (mC, el g 20604 CR), (mR, ei g 20604 RR), (mN, ei g 20604 NR), (mE, ei g 50 ER), (mL, ei g 50 LR), (mB, ei g 50 BR), (mU, ei g 50 UR)] [(0, .ref hM)] 0 []
  refine z_aload_n hC 0 dX6_run_0 rfl rfl ?_
  refine z_iconst hC dX6_run_1 ?_
  refine z_put hC iX6_run_6 tyX6 tyX6_ok nmX6 0 19 rfl rfl (by decide) mX6_run_f139 rfl rfl rfl (Nat.le_of_ble_eq_true rfl) dX6_run_2 (ws' := [_, _, _, _, _, _, _, _, _, _, _, _, _, _, _, _, _, _, _]) rfl ?_
  refine z_aload_n hC 0 dX6_run_5 rfl rfl ?_
  refine z_lconst (z := 0) hC dX6_run_6 (by decide) ?_
  refine z_put hC iX6_run_6 tyX6 tyX6_ok nmX6 0 24 rfl rfl (by decide) mX6_run_f136 rfl rfl rfl (Nat.le_of_ble_eq_true rfl) dX6_run_7 (ws' := [_, _, _, _, _, _, _, _, _, _, _, _, _, _, _, _, _, _, _]) rfl ?_
  refine z_aload_n hC 0 dX6_run_10 rfl rfl ?_
  refine z_iconst hC dX6_run_11 ?_
  refine z_put hC iX6_run_6 tyX6 tyX6_ok nmX6 0 25 rfl rfl (by decide) mX6_run_f142 rfl rfl rfl (Nat.le_of_ble_eq_true rfl) dX6_run_12 (ws' := [_, _, _, _, _, _, _, _, _, _, _, _, _, _, _, _, _, _, _]) rfl ?_
  refine z_iconst hC dX6_run_15 ?_
  refine z_istore_n hC (lv' := [(1, _), (0, _)]) dX6_run_16 rfl (by decide) rfl ?_
  have L17 : ∀ (fu : Nat) (p : Int) (I2 J2 G2 C2 R2 N2 E2 L2 B2 U2 : Int → Int) (lk2 bd2 so2 dm2 tt2 sm2 po2 : Int), (1 ≤ p ∧ p ≤ 4) → (I2 0 = 0 ∧ J2 0 = 0 ∧ G2 0 = 0) → (0 ≤ po2 ∧ po2 ≤ 3) → ((po2 = 0 ∧ tt2 = 0 ∧ sm2 = 0 ∧ ∀ q, 1 ≤ q → q < p → ¬ zHas n K V P M LB SB HB W T q 0) ∨ ((1 ≤ po2 ∧ po2 ≤ 3) ∧ zRun n K V P M LB SB HB W T tt2 po2 sm2 E2 L2 B2 U2)) → (5 - p).toNat < fu → ZG X g (zD X A) 0 0 [(hM, eo 6 [.int (iZ (n)), .ref mK, .ref mW, .ref mT, .ref mS, .ref mV, .ref mM, .ref mX, .ref mY, .ref mI, .ref mJ, .ref mG, .ref mC, .ref mR, .ref mN, .int (iZ (lk2)), .int (iZ (bd2)), .int (iZ (so2)), .long (lZ (dm2)), .int (iZ (tt2)), .ref mE, .ref mL, .ref mB, .ref mU, .long (lZ (sm2)), .int (iZ (po2))]), (mK, ei g 100 KR), (mW, ei g 100 WR), (mT, ei g 100 TR), (mS, ei g 100 SR), (mV, ei g 100 VR), (mM, ez g 100 MR), (mX, ei g 50 XR), (mY, ei g 3 YR), (mI, ei g 101 I2), (mJ, ei g 101 J2), (mG, ei g 101 G2), (mC, el g 20604 C2), (mR, ei g 20604 R2), (mN, ei g 20604 N2), (mE, ei g 50 E2), (mL, ei g 50 L2), (mB, ei g 50 B2), (mU, ei g 50 U2)] [(1, .int (iZ (p))), (0, .ref hM)] 17 [] := by
    intro fu
    induction fu with
    | zero => intro p I2 J2 G2 C2 R2 N2 E2 L2 B2 U2 lk2 bd2 so2 dm2 tt2 sm2 po2; intros; omega
    | succ fu ih_17 =>
      intro p I2 J2 G2 C2 R2 N2 E2 L2 B2 U2 lk2 bd2 so2 dm2 tt2 sm2 po2 hp hI0 hpo hq hn
      refine z_iload_n hC 0 dX6_run_17 rfl rfl ?_
      refine z_iconst hC dX6_run_18 ?_
      refine z_icmp_ge hC 60 dX6_run_19 (by decide) (by omega) (by omega) (fun c_19 => ?_) (fun c_19 => ?_)
      ·
        have hzr : zRun n K V P M LB SB HB W T tt2 po2 sm2 E2 L2 B2 U2 := by
          rcases hq with ⟨q1, q2, q3, q4⟩ | ⟨-, q⟩
          · exact Or.inr ⟨fun q g1 g2 => q4 q g1 (by omega), q1, q2, q3⟩
          · exact q
        refine z_aload_n hC 1 dX6_run_60 rfl rfl ?_
        refine z_get hC iX6_run_6 0 19 rfl rfl (by decide) mX6_run_f139 rfl dX6_run_61 ?_
        exact hR (I2, J2, G2, C2, R2, N2, lk2, bd2, so2, dm2, tt2, E2, L2, B2, U2, sm2, po2, tt2) _ _ _ [0, 1, 2, 3, 4, 5, 6, 7, 8, 9, 10, 11, 12, 13, 14, 15, 16, 17, 18] _ ⟨hzr, hI0, rfl⟩ rfl (by decide) rfl dX6_run_64
      ·
        refine z_aload_n hC 1 dX6_run_22 rfl rfl ?_
        refine z_get hC iX6_run_6 0 25 rfl rfl (by decide) mX6_run_f142 rfl dX6_run_23 ?_
        refine z_if_ne hC 60 dX6_run_26 (by decide) (by omega) (fun c_26 => ?_) (fun c_26 => ?_)
        ·
          have hzr : zRun n K V P M LB SB HB W T tt2 po2 sm2 E2 L2 B2 U2 := (hq.resolve_left (fun z => c_26 z.1)).2
          refine z_aload_n hC 1 dX6_run_60 rfl rfl ?_
          refine z_get hC iX6_run_6 0 19 rfl rfl (by decide) mX6_run_f139 rfl dX6_run_61 ?_
          exact hR (I2, J2, G2, C2, R2, N2, lk2, bd2, so2, dm2, tt2, E2, L2, B2, U2, sm2, po2, tt2) _ _ _ [0, 1, 2, 3, 4, 5, 6, 7, 8, 9, 10, 11, 12, 13, 14, 15, 16, 17, 18] _ ⟨hzr, hI0, rfl⟩ rfl (by decide) rfl dX6_run_64
        ·
          have hz := hq.resolve_right (fun z => by have := z.1; omega)
          have he := zCi_env h1 (p := p) (ex := 0) (by omega) (by omega)
          refine z_aload_n hC 1 dX6_run_29 rfl rfl ?_
          refine z_iload_n hC 0 dX6_run_30 rfl rfl ?_
          refine z_iconst hC dX6_run_31 ?_
          refine z_vWv (wr := []) hC 2 (c_X6_search (xl X) g _ _ _ _ _ _ _ _ _ _ _ _ _ _ _ _ _ _ _ _ _ _ _ _ _ _ _ _ _ _ _ _ _ _ _ _ _ _ _ _ _ _ _ _ _ K V P M LB SB HB W T ((zMt p)) ((zDq n K V P M LB SB HB W T p 0)) _ 0 he h2 h3 h4 hI0) gX6_run_X6_search rfl hd_X6_search_v (by decide) ⟨rfl, rfl⟩ [0, 1, 2, 3, 4, 5, 6, 7, 8, 9, 10, 11, 12, 13, 14, 15, 16, 17, 18] [] (by decide) rfl rfl (by decide) (by decide) 0 6 rfl rfl rfl rfl rfl (Nat.le_of_ble_eq_true rfl) dX6_run_32 (by decide) (fun u_32 p_32 => ?_)
          obtain ⟨I1_32, J1_32, G1_32, C1_32, R1_32, N1_32, lk1_32, bd1_32, so1_32, dm1_32⟩ := u_32
          try dsimp only at p_32
          refine z_ws (ws' := [(hM, eo 6 [.int (iZ (n)), .ref mK, .ref mW, .ref mT, .ref mS, .ref mV, .ref mM, .ref mX, .ref mY, .ref mI, .ref mJ, .ref mG, .ref mC, .ref mR, .ref mN, .int (iZ (lk1_32)), .int (iZ (bd1_32)), .int (iZ (so1_32)), .long (lZ (dm1_32)), .int (iZ (tt2)), .ref mE, .ref mL, .ref mB, .ref mU, .long (lZ (sm2)), .int (iZ (po2))]), (mK, ei g 100 KR), (mW, ei g 100 WR), (mT, ei g 100 TR), (mS, ei g 100 SR), (mV, ei g 100 VR), (mM, ez g 100 MR), (mX, ei g 50 XR), (mY, ei g 3 YR), (mI, ei g 101 I1_32), (mJ, ei g 101 J1_32), (mG, ei g 101 G1_32), (mC, el g 20604 C1_32), (mR, ei g 20604 R1_32), (mN, ei g 20604 N1_32), (mE, ei g 50 E2), (mL, ei g 50 L2), (mB, ei g 50 B2), (mU, ei g 50 U2)]) [0, 1, 2, 3, 4, 5, 6, 7, 8, 9, 10, 11, 12, 13, 14, 15, 16, 17, 18] (by decide) rfl ?_
          have hB := zEnv_b he
          have hb0 := zVL_in hB (i := 0) (by omega) (-1) 0
          unfold zNb at hb0
          have hC0 := p_32.2.2 (-1) 0 0 (by omega) (by omega) (Or.inl ⟨rfl, rfl⟩) (by omega) (by omega)
          refine z_aload_n hC 1 dX6_run_35 rfl rfl ?_
          refine z_get hC iX6_run_6 0 13 rfl rfl (by decide) mX6_run_f48 rfl dX6_run_36 ?_
          refine z_iconst hC dX6_run_39 ?_
          refine z_iconst hC dX6_run_40 ?_
          refine z_iconst hC dX6_run_41 ?_
          refine z_sRi hC 3 (c_X6_index (xl X) g _ _ _) gX6_run_X6_index rfl hd_X6_index_s (by decide) ⟨rfl, rfl⟩ [] (by decide) rfl rfl rfl (Nat.le_of_ble_eq_true rfl) dX6_run_42 (by decide) ?_
          refine z_iald hC 13 rfl (by omega) (by decide) dX6_run_45 ?_
          refine z_top (b := (zVL (zDq n K V P M LB SB HB W T p 0) 0 (-1) 0).2.1) hC0.1 ?_
          refine z_if_le hC 54 dX6_run_46 (by decide) (by omega) (fun c_46 => ?_) (fun c_46 => ?_)
          ·
            refine z_iinc hC (lv' := [(1, _), (0, _)]) 0 dX6_run_54 rfl (by decide) rfl ?_
            refine z_goto (tgt := 17) hC dX6_run_57 (by decide) ?_
            exact ih_17 (p + 1) _ _ _ _ _ _ _ _ _ _ _ _ _ _ _ _ _ (by omega) p_32.2.1 hpo (Or.inl ⟨hz.1, hz.2.1, hz.2.2.1, fun q g1 g2 => by (by_cases e : q = p); (rw [e]; exact fun z => z (by omega)); (exact hz.2.2.2 q g1 (by omega))⟩) (by omega)
          ·
            refine z_aload_n hC 1 dX6_run_49 rfl rfl ?_
            refine z_iload_n hC 0 dX6_run_50 rfl rfl ?_
            refine z_vWv (wr := []) hC 1 (c_X6_tell (xl X) g _ _ _ _ _ _ _ _ _ _ _ _ _ _ _ _ _ _ _ _ _ _ _ _ _ _ _ _ _ _ _ _ _ _ _ _ _ _ _ _ _ _ _ _ _ K V P M LB SB HB W T ((zMt p)) 0 ((zDq n K V P M LB SB HB W T p 0)) _ he h2 p_32.1 h4 p_32.2.2 (by omega)) gX6_run_X6_tell rfl hd_X6_tell_v (by decide) ⟨rfl, rfl⟩ [0, 1, 2, 3, 4, 5, 6, 7, 8, 9, 10, 11, 12, 13, 14, 15, 16, 17, 18] [] (by decide) rfl rfl (by decide) (by decide) 0 6 rfl rfl rfl rfl rfl (Nat.le_of_ble_eq_true rfl) dX6_run_51 (by decide) (fun u_51 p_51 => ?_)
            obtain ⟨lk1_51, bd1_51, so1_51, dm1_51, tt1_51, E1_51, L1_51, B1_51, U1_51, sm1_51⟩ := u_51
            try dsimp only at p_51
            refine z_ws (ws' := [(hM, eo 6 [.int (iZ (n)), .ref mK, .ref mW, .ref mT, .ref mS, .ref mV, .ref mM, .ref mX, .ref mY, .ref mI, .ref mJ, .ref mG, .ref mC, .ref mR, .ref mN, .int (iZ (lk1_51)), .int (iZ (bd1_51)), .int (iZ (so1_51)), .long (lZ (dm1_51)), .int (iZ (tt1_51)), .ref mE, .ref mL, .ref mB, .ref mU, .long (lZ (sm1_51)), .int (iZ (p))]), (mK, ei g 100 KR), (mW, ei g 100 WR), (mT, ei g 100 TR), (mS, ei g 100 SR), (mV, ei g 100 VR), (mM, ez g 100 MR), (mX, ei g 50 XR), (mY, ei g 3 YR), (mI, ei g 101 I1_32), (mJ, ei g 101 J1_32), (mG, ei g 101 G1_32), (mC, el g 20604 C1_32), (mR, ei g 20604 R1_32), (mN, ei g 20604 N1_32), (mE, ei g 50 E1_51), (mL, ei g 50 L1_51), (mB, ei g 50 B1_51), (mU, ei g 50 U1_51)]) [0, 1, 2, 3, 4, 5, 6, 7, 8, 9, 10, 11, 12, 13, 14, 15, 16, 17, 18] (by decide) rfl ?_
            refine z_iinc hC (lv' := [(1, _), (0, _)]) 0 dX6_run_54 rfl (by decide) rfl ?_
            refine z_goto (tgt := 17) hC dX6_run_57 (by decide) ?_
            exact ih_17 (p + 1) _ _ _ _ _ _ _ _ _ _ _ _ _ _ _ _ _ (by omega) p_32.2.1 (by omega) (Or.inr ⟨by omega, Or.inl ⟨p, by omega, hz.2.2.2, rfl, fun z => by omega, p_51.1, p_51.2.1, p_51.2.2⟩⟩) (by omega)
  exact L17 _ 1 _ _ _ _ _ _ _ _ _ _ _ _ _ _ _ _ _ (by omega) h5 (by omega) (Or.inl ⟨rfl, rfl, rfl, fun q g1 g2 => by omega⟩) (Nat.lt_succ_self _)
set_option maxRecDepth 20000 in
theorem mX6_loose_f142 : Cond.fieldLink RX6 142 "BreakSearchModel" "pass" "I" ∈ wsX6_loose := by decide +kernel
set_option maxRecDepth 20000 in
theorem iX6_loose_6 : ∀ w ∈ u_ws RX6 TX6 26, w ∈ wsX6_loose := by decide +kernel
set_option maxRecDepth 20000 in
theorem mX6_loose_f48 : Cond.fieldLink RX6 48 "BreakSearchModel" "rest" "[I" ∈ wsX6_loose := by decide +kernel
abbrev rm_X6_loose : Room := { frames := 5, cells := 0, slots := 0, locals := 128 }
set_option maxHeartbeats 4000000 in
set_option maxRecDepth 100000 in
theorem c_X6_loose (l : Launch) (g : zG) (hM mK mW mT mS mV mM mX mY mI mJ mG mC mR mN mE mL mB mU : Nat) (n lk bd so dm tt sm po : Int) (KR WR TR SR VR MR XR YR IR JR GR CR RR NR ER LR BR UR : Int → Int) (K V P M LB SB HB W T : Int → Int) (x : Int) (h1 : zCi n K V P M LB SB HB W T) (h2 : zSm n K V P M KR WR VR MR) (h3 : zSs n K LB SB HB WR TR SR) (h4 : zSx W T XR YR) (h5 : IR 0 = 0 ∧ JR 0 = 0 ∧ GR 0 = 0) (h6 : -2147483648 ≤ x ∧ x ≤ 2147483647) (h7 : 0 ≤ po ∧ po ≤ 3) : zMWi (S := (Int → Int) × (Int → Int) × (Int → Int) × (Int → Int) × (Int → Int) × (Int → Int) × (Int) × (Int) × (Int) × (Int) × (Int) × (Int → Int) × (Int → Int) × (Int → Int) × (Int → Int) × (Int) × (Int) × (Int)) l yX6_loose wsX6_loose rm_X6_loose g [(hM, eo 6 [.int (iZ (n)), .ref mK, .ref mW, .ref mT, .ref mS, .ref mV, .ref mM, .ref mX, .ref mY, .ref mI, .ref mJ, .ref mG, .ref mC, .ref mR, .ref mN, .int (iZ (lk)), .int (iZ (bd)), .int (iZ (so)), .long (lZ (dm)), .int (iZ (tt)), .ref mE, .ref mL, .ref mB, .ref mU, .long (lZ (sm)), .int (iZ (po))]), (mK, ei g 100 KR), (mW, ei g 100 WR), (mT, ei g 100 TR), (mS, ei g 100 SR), (mV, ei g 100 VR), (mM, ez g 100 MR), (mX, ei g 50 XR), (mY, ei g 3 YR), (mI, ei g 101 IR), (mJ, ei g 101 JR), (mG, ei g 101 GR), (mC, el g 20604 CR), (mR, ei g 20604 RR), (mN, ei g 20604 NR), (mE, ei g 50 ER), (mL, ei g 50 LR), (mB, ei g 50 BR), (mU, ei g 50 UR)] [.ref hM, .int (iZ (x))] (fun u => (u.1 0 = 0 ∧ u.2.1 0 = 0 ∧ u.2.2.1 0 = 0) ∧ (((¬ (1 ≤ x ∧ x ≤ 50) ∨ po = 0) ∧ u.2.2.2.2.2.2.2.2.2.2.2.1 = ER ∧ u.2.2.2.2.2.2.2.2.2.2.2.2.1 = LR ∧ u.2.2.2.2.2.2.2.2.2.2.2.2.2.1 = BR ∧ u.2.2.2.2.2.2.2.2.2.2.2.2.2.2.1 = UR ∧ u.2.2.2.2.2.2.2.2.2.2.1 = tt ∧ u.2.2.2.2.2.2.2.2.2.2.2.2.2.2.2.2.1 = po ∧ u.2.2.2.2.2.2.2.2.2.2.2.2.2.2.2.1 = sm ∧ u.2.2.2.2.2.2.2.2.2.2.2.2.2.2.2.2.2 = -1) ∨ ((1 ≤ x ∧ x ≤ 50) ∧ ¬ po = 0 ∧ ¬ zHas n K V P M LB SB HB W T po x ∧ u.2.2.2.2.2.2.2.2.2.2.2.1 = ER ∧ u.2.2.2.2.2.2.2.2.2.2.2.2.1 = LR ∧ u.2.2.2.2.2.2.2.2.2.2.2.2.2.1 = BR ∧ u.2.2.2.2.2.2.2.2.2.2.2.2.2.2.1 = UR ∧ u.2.2.2.2.2.2.2.2.2.2.1 = tt ∧ u.2.2.2.2.2.2.2.2.2.2.2.2.2.2.2.2.1 = po ∧ u.2.2.2.2.2.2.2.2.2.2.2.2.2.2.2.1 = sm ∧ u.2.2.2.2.2.2.2.2.2.2.2.2.2.2.2.2.2 = 0) ∨ ((1 ≤ x ∧ x ≤ 50) ∧ ¬ po = 0 ∧ zTold n K V P M LB SB HB W T po x u.2.2.2.2.2.2.2.2.2.2.1 u.2.2.2.2.2.2.2.2.2.2.2.2.2.2.2.1 u.2.2.2.2.2.2.2.2.2.2.2.1 u.2.2.2.2.2.2.2.2.2.2.2.2.1 u.2.2.2.2.2.2.2.2.2.2.2.2.2.1 u.2.2.2.2.2.2.2.2.2.2.2.2.2.2.1 ∧ u.2.2.2.2.2.2.2.2.2.2.2.2.2.2.2.2.1 = po ∧ u.2.2.2.2.2.2.2.2.2.2.2.2.2.2.2.2.2 = 1))) (fun u => u.2.2.2.2.2.2.2.2.2.2.2.2.2.2.2.2.2) (fun u => [(hM, eo 6 [.int (iZ (n)), .ref mK, .ref mW, .ref mT, .ref mS, .ref mV, .ref mM, .ref mX, .ref mY, .ref mI, .ref mJ, .ref mG, .ref mC, .ref mR, .ref mN, .int (iZ (u.2.2.2.2.2.2.1)), .int (iZ (u.2.2.2.2.2.2.2.1)), .int (iZ (u.2.2.2.2.2.2.2.2.1)), .long (lZ (u.2.2.2.2.2.2.2.2.2.1)), .int (iZ (u.2.2.2.2.2.2.2.2.2.2.1)), .ref mE, .ref mL, .ref mB, .ref mU, .long (lZ (u.2.2.2.2.2.2.2.2.2.2.2.2.2.2.2.1)), .int (iZ (u.2.2.2.2.2.2.2.2.2.2.2.2.2.2.2.2.1))]), (mK, ei g 100 KR), (mW, ei g 100 WR), (mT, ei g 100 TR), (mS, ei g 100 SR), (mV, ei g 100 VR), (mM, ez g 100 MR), (mX, ei g 50 XR), (mY, ei g 3 YR), (mI, ei g 101 u.1), (mJ, ei g 101 u.2.1), (mG, ei g 101 u.2.2.1), (mC, el g 20604 u.2.2.2.1), (mR, ei g 20604 u.2.2.2.2.1), (mN, ei g 20604 u.2.2.2.2.2.1), (mE, ei g 50 u.2.2.2.2.2.2.2.2.2.2.2.1), (mL, ei g 50 u.2.2.2.2.2.2.2.2.2.2.2.2.1), (mB, ei g 50 u.2.2.2.2.2.2.2.2.2.2.2.2.2.1), (mU, ei g 50 u.2.2.2.2.2.2.2.2.2.2.2.2.2.2.1)]) 0 0 := by
  refine z_beWi (cc := cX6_loose) (nL := 2) (ret := some .int) (plainFor_of_name (by decide +kernel)) rfl (Or.inl rfl) (Nat.le_of_ble_eq_true rfl) ?_
  intro X A hC hN hR
  have hC : zC X g cX6_loose RX6 wsX6_loose rm_X6_loose 2 := hC
  show ZG X g (zD X A) 0 0 [(hM, eo 6 [.int (iZ (n)), .ref mK, .ref mW, .ref mT, .ref mS, .ref mV, .ref mM, .ref mX, .ref mY, .ref mI, .ref mJ, .ref mG, .ref mC, .ref mR, .ref mN, .int (iZ (lk)), .int (iZ (bd)), .int (iZ (so)), .long (lZ (dm)), .int (iZ (tt)), .ref mE, .ref mL, .ref mB, .ref mU, .long (lZ (sm)), .int (iZ (po))]), (mK, ei g 100 KR), (mW, ei g 100 WR), (mT, ei g 100 TR), (mS, ei g 100 SR), (mV, ei g 100 VR), (mM, ez g 100 MR), (mX, ei g 50 XR), (mY, ei g 3 YR), (mI, ei g 101 IR), (mJ, ei g 101 JR), (mG, ei g 101 GR), (mC, el g 20604 CR), (mR, ei g 20604 RR), (mN, ei g 20604 NR), (mE, ei g 50 ER), (mL, ei g 50 LR), (mB, ei g 50 BR), (mU, ei g 50 UR)] [(0, .ref hM), (1, .int (iZ (x)))] 0 []
  refine z_iload_n hC 1 dX6_loose_0 rfl rfl ?_
  refine z_iconst hC dX6_loose_1 ?_
  refine z_bip hC dX6_loose_2 (by decide) ?_
  refine z_sRi hC 3 (c_X6_in (xl X) g _ _ _ (by omega) (by omega) (by omega)) gX6_loose_X6_in rfl hd_X6_in_s (by decide) ⟨rfl, rfl⟩ [] (by decide) rfl rfl rfl (Nat.le_of_ble_eq_true rfl) dX6_loose_4 (by decide) ?_
  refine z_if_eq hC 17 dX6_loose_7 (by decide) (b2_r _) (fun c_7 => ?_) (fun c_7 => ?_)
  ·
    have c_7 := b2_f c_7
    refine z_iconst hC dX6_loose_17 ?_
    exact hR (IR, JR, GR, CR, RR, NR, lk, bd, so, dm, tt, ER, LR, BR, UR, sm, po, -1) _ _ _ [0, 1, 2, 3, 4, 5, 6, 7, 8, 9, 10, 11, 12, 13, 14, 15, 16, 17, 18] _ ⟨h5, Or.inl ⟨by omega, rfl, rfl, rfl, rfl, rfl, rfl, rfl, rfl⟩⟩ rfl (by decide) rfl dX6_loose_18
  ·
    have c_7 := b2_t c_7
    refine z_aload_n hC 0 dX6_loose_10 rfl rfl ?_
    refine z_get hC iX6_loose_6 0 25 rfl rfl (by decide) mX6_loose_f142 rfl dX6_loose_11 ?_
    refine z_if_ne hC 19 dX6_loose_14 (by decide) (by omega) (fun c_14 => ?_) (fun c_14 => ?_)
    ·
      have he := zCi_env h1 (p := po) (ex := x) (by omega) (by omega)
      refine z_aload_n hC 0 dX6_loose_19 rfl rfl ?_
      refine z_aload_n hC 0 dX6_loose_20 rfl rfl ?_
      refine z_get hC iX6_loose_6 0 25 rfl rfl (by decide) mX6_loose_f142 rfl dX6_loose_21 ?_
      refine z_iload_n hC 1 dX6_loose_24 rfl rfl ?_
      refine z_vWv (wr := []) hC 2 (c_X6_search (xl X) g _ _ _ _ _ _ _ _ _ _ _ _ _ _ _ _ _ _ _ _ _ _ _ _ _ _ _ _ _ _ _ _ _ _ _ _ _ _ _ _ _ _ _ _ _ K V P M LB SB HB W T ((zMt po)) ((zDq n K V P M LB SB HB W T po x)) _ x he h2 h3 h4 h5) gX6_loose_X6_search rfl hd_X6_search_v (by decide) ⟨rfl, rfl⟩ [0, 1, 2, 3, 4, 5, 6, 7, 8, 9, 10, 11, 12, 13, 14, 15, 16, 17, 18] [] (by decide) rfl rfl (by decide) (by decide) 0 6 rfl rfl rfl rfl rfl (Nat.le_of_ble_eq_true rfl) dX6_loose_25 (by decide) (fun u_25 p_25 => ?_)
      obtain ⟨I1_25, J1_25, G1_25, C1_25, R1_25, N1_25, lk1_25, bd1_25, so1_25, dm1_25⟩ := u_25
      try dsimp only at p_25
      refine z_ws (ws' := [(hM, eo 6 [.int (iZ (n)), .ref mK, .ref mW, .ref mT, .ref mS, .ref mV, .ref mM, .ref mX, .ref mY, .ref mI, .ref mJ, .ref mG, .ref mC, .ref mR, .ref mN, .int (iZ (lk1_25)), .int (iZ (bd1_25)), .int (iZ (so1_25)), .long (lZ (dm1_25)), .int (iZ (tt)), .ref mE, .ref mL, .ref mB, .ref mU, .long (lZ (sm)), .int (iZ (po))]), (mK, ei g 100 KR), (mW, ei g 100 WR), (mT, ei g 100 TR), (mS, ei g 100 SR), (mV, ei g 100 VR), (mM, ez g 100 MR), (mX, ei g 50 XR), (mY, ei g 3 YR), (mI, ei g 101 I1_25), (mJ, ei g 101 J1_25), (mG, ei g 101 G1_25), (mC, el g 20604 C1_25), (mR, ei g 20604 R1_25), (mN, ei g 20604 N1_25), (mE, ei g 50 ER), (mL, ei g 50 LR), (mB, ei g 50 BR), (mU, ei g 50 UR)]) [0, 1, 2, 3, 4, 5, 6, 7, 8, 9, 10, 11, 12, 13, 14, 15, 16, 17, 18] (by decide) rfl ?_
      have hB := zEnv_b he
      have hb0 := zVL_in hB (i := 0) (by omega) (-1) 0
      unfold zNb at hb0
      have hC0 := p_25.2.2 (-1) 0 0 (by omega) (by omega) (Or.inl ⟨rfl, rfl⟩) (by omega) (by omega)
      refine z_aload_n hC 0 dX6_loose_28 rfl rfl ?_
      refine z_get hC iX6_loose_6 0 13 rfl rfl (by decide) mX6_loose_f48 rfl dX6_loose_29 ?_
      refine z_iconst hC dX6_loose_32 ?_
      refine z_iconst hC dX6_loose_33 ?_
      refine z_iconst hC dX6_loose_34 ?_
      refine z_sRi hC 3 (c_X6_index (xl X) g _ _ _) gX6_loose_X6_index rfl hd_X6_index_s (by decide) ⟨rfl, rfl⟩ [] (by decide) rfl rfl rfl (Nat.le_of_ble_eq_true rfl) dX6_loose_35 (by decide) ?_
      refine z_iald hC 13 rfl (by omega) (by decide) dX6_loose_38 ?_
      refine z_top (b := (zVL (zDq n K V P M LB SB HB W T po x) 0 (-1) 0).2.1) hC0.1 ?_
      refine z_if_ne hC 44 dX6_loose_39 (by decide) (by omega) (fun c_39 => ?_) (fun c_39 => ?_)
      ·
        refine z_aload_n hC 0 dX6_loose_44 rfl rfl ?_
        refine z_aload_n hC 0 dX6_loose_45 rfl rfl ?_
        refine z_get hC iX6_loose_6 0 25 rfl rfl (by decide) mX6_loose_f142 rfl dX6_loose_46 ?_
        refine z_vWv (wr := []) hC 1 (c_X6_tell (xl X) g _ _ _ _ _ _ _ _ _ _ _ _ _ _ _ _ _ _ _ _ _ _ _ _ _ _ _ _ _ _ _ _ _ _ _ _ _ _ _ _ _ _ _ _ _ K V P M LB SB HB W T ((zMt po)) x ((zDq n K V P M LB SB HB W T po x)) _ he h2 p_25.1 h4 p_25.2.2 c_39) gX6_loose_X6_tell rfl hd_X6_tell_v (by decide) ⟨rfl, rfl⟩ [0, 1, 2, 3, 4, 5, 6, 7, 8, 9, 10, 11, 12, 13, 14, 15, 16, 17, 18] [] (by decide) rfl rfl (by decide) (by decide) 0 6 rfl rfl rfl rfl rfl (Nat.le_of_ble_eq_true rfl) dX6_loose_49 (by decide) (fun u_49 p_49 => ?_)
        obtain ⟨lk1_49, bd1_49, so1_49, dm1_49, tt1_49, E1_49, L1_49, B1_49, U1_49, sm1_49⟩ := u_49
        try dsimp only at p_49
        refine z_ws (ws' := [(hM, eo 6 [.int (iZ (n)), .ref mK, .ref mW, .ref mT, .ref mS, .ref mV, .ref mM, .ref mX, .ref mY, .ref mI, .ref mJ, .ref mG, .ref mC, .ref mR, .ref mN, .int (iZ (lk1_49)), .int (iZ (bd1_49)), .int (iZ (so1_49)), .long (lZ (dm1_49)), .int (iZ (tt1_49)), .ref mE, .ref mL, .ref mB, .ref mU, .long (lZ (sm1_49)), .int (iZ (po))]), (mK, ei g 100 KR), (mW, ei g 100 WR), (mT, ei g 100 TR), (mS, ei g 100 SR), (mV, ei g 100 VR), (mM, ez g 100 MR), (mX, ei g 50 XR), (mY, ei g 3 YR), (mI, ei g 101 I1_25), (mJ, ei g 101 J1_25), (mG, ei g 101 G1_25), (mC, el g 20604 C1_25), (mR, ei g 20604 R1_25), (mN, ei g 20604 N1_25), (mE, ei g 50 E1_49), (mL, ei g 50 L1_49), (mB, ei g 50 B1_49), (mU, ei g 50 U1_49)]) [0, 1, 2, 3, 4, 5, 6, 7, 8, 9, 10, 11, 12, 13, 14, 15, 16, 17, 18] (by decide) rfl ?_
        refine z_iconst hC dX6_loose_52 ?_
        exact hR (I1_25, J1_25, G1_25, C1_25, R1_25, N1_25, lk1_49, bd1_49, so1_49, dm1_49, tt1_49, E1_49, L1_49, B1_49, U1_49, sm1_49, po, 1) _ _ _ [0, 1, 2, 3, 4, 5, 6, 7, 8, 9, 10, 11, 12, 13, 14, 15, 16, 17, 18] _ ⟨p_25.2.1, Or.inr (Or.inr ⟨by omega, by omega, ⟨c_39, p_49.1, p_49.2.1, p_49.2.2⟩, rfl, rfl⟩)⟩ rfl (by decide) rfl dX6_loose_53
      ·
        refine z_iconst hC dX6_loose_42 ?_
        exact hR (I1_25, J1_25, G1_25, C1_25, R1_25, N1_25, lk1_25, bd1_25, so1_25, dm1_25, tt, ER, LR, BR, UR, sm, po, 0) _ _ _ [0, 1, 2, 3, 4, 5, 6, 7, 8, 9, 10, 11, 12, 13, 14, 15, 16, 17, 18] _ ⟨p_25.2.1, Or.inr (Or.inl ⟨by omega, by omega, fun z => z c_39, rfl, rfl, rfl, rfl, rfl, rfl, rfl, rfl⟩)⟩ rfl (by decide) rfl dX6_loose_43
    ·
      refine z_iconst hC dX6_loose_17 ?_
      exact hR (IR, JR, GR, CR, RR, NR, lk, bd, so, dm, tt, ER, LR, BR, UR, sm, po, -1) _ _ _ [0, 1, 2, 3, 4, 5, 6, 7, 8, 9, 10, 11, 12, 13, 14, 15, 16, 17, 18] _ ⟨h5, Or.inl ⟨by omega, rfl, rfl, rfl, rfl, rfl, rfl, rfl, rfl⟩⟩ rfl (by decide) rfl dX6_loose_18
