theorem hd_X6_sumUp_v : yX6_sumUp.cls = RX6 ∧ yX6_sumUp.cls ≠ "java/lang/invoke/MethodHandle" ∧ yX6_sumUp.cls ≠ "java/lang/invoke/VarHandle" ∧ (parseMethodDescriptor yX6_sumUp.desc).map (fun d => d.parameters.length) = some 0 := by decide +kernel
theorem hd_X6_goFrom_v : yX6_goFrom.cls = RX6 ∧ yX6_goFrom.cls ≠ "java/lang/invoke/MethodHandle" ∧ yX6_goFrom.cls ≠ "java/lang/invoke/VarHandle" ∧ (parseMethodDescriptor yX6_goFrom.desc).map (fun d => d.parameters.length) = some 5 := by decide +kernel
set_option maxRecDepth 20000 in
theorem mX6_search_f66 : Cond.fieldLink RX6 66 "BreakSearchModel" "items" "I" ∈ wsX6_search := by decide +kernel
set_option maxRecDepth 20000 in
theorem iX6_search_6 : ∀ w ∈ u_ws RX6 TX6 26, w ∈ wsX6_search := by decide +kernel
set_option maxRecDepth 20000 in
theorem mX6_search_f48 : Cond.fieldLink RX6 48 "BreakSearchModel" "rest" "[I" ∈ wsX6_search := by decide +kernel
abbrev rm_X6_search : Room := { frames := 4, cells := 0, slots := 0, locals := 103 }
set_option maxHeartbeats 4000000 in
set_option maxRecDepth 100000 in
theorem c_X6_search (l : Launch) (g : zG) (hM mK mW mT mS mV mM mX mY mI mJ mG mC mR mN mE mL mB mU : Nat) (n lk bd so dm tt sm po : Int) (KR WR TR SR VR MR XR YR IR JR GR CR RR NR ER LR BR UR : Int → Int) (K V P M LB SB HB W T : Int → Int) (mt : Int) (d : zDP) (ps ex : Int) (h1 : zEnv n K V P M LB SB HB W T ps mt ex d) (h2 : zSm n K V P M KR WR VR MR) (h3 : zSs n K LB SB HB WR TR SR) (h4 : zSx W T XR YR) (h5 : IR 0 = 0 ∧ JR 0 = 0 ∧ GR 0 = 0) : zMWv (S := (Int → Int) × (Int → Int) × (Int → Int) × (Int → Int) × (Int → Int) × (Int → Int) × (Int) × (Int) × (Int) × (Int)) l yX6_search wsX6_search rm_X6_search g [(hM, eo 6 [.int (iZ (n)), .ref mK, .ref mW, .ref mT, .ref mS, .ref mV, .ref mM, .ref mX, .ref mY, .ref mI, .ref mJ, .ref mG, .ref mC, .ref mR, .ref mN, .int (iZ (lk)), .int (iZ (bd)), .int (iZ (so)), .long (lZ (dm)), .int (iZ (tt)), .ref mE, .ref mL, .ref mB, .ref mU, .long (lZ (sm)), .int (iZ (po))]), (mK, ei g 100 KR), (mW, ei g 100 WR), (mT, ei g 100 TR), (mS, ei g 100 SR), (mV, ei g 100 VR), (mM, ez g 100 MR), (mX, ei g 50 XR), (mY, ei g 3 YR), (mI, ei g 101 IR), (mJ, ei g 101 JR), (mG, ei g 101 GR), (mC, el g 20604 CR), (mR, ei g 20604 RR), (mN, ei g 20604 NR), (mE, ei g 50 ER), (mL, ei g 50 LR), (mB, ei g 50 BR), (mU, ei g 50 UR)] [.ref hM, .int (iZ (ps)), .int (iZ (ex))] (fun u => zSu n LB SB HB u.1 u.2.1 u.2.2.1 ∧ (u.1 0 = 0 ∧ u.2.1 0 = 0 ∧ u.2.2.1 0 = 0) ∧ zO1 d K V M n mt (-1) u.2.2.2.1 u.2.2.2.2.1 u.2.2.2.2.2.1) (fun u => [(hM, eo 6 [.int (iZ (n)), .ref mK, .ref mW, .ref mT, .ref mS, .ref mV, .ref mM, .ref mX, .ref mY, .ref mI, .ref mJ, .ref mG, .ref mC, .ref mR, .ref mN, .int (iZ (u.2.2.2.2.2.2.1)), .int (iZ (u.2.2.2.2.2.2.2.1)), .int (iZ (u.2.2.2.2.2.2.2.2.1)), .long (lZ (u.2.2.2.2.2.2.2.2.2)), .int (iZ (tt)), .ref mE, .ref mL, .ref mB, .ref mU, .long (lZ (sm)), .int (iZ (po))]), (mK, ei g 100 KR), (mW, ei g 100 WR), (mT, ei g 100 TR), (mS, ei g 100 SR), (mV, ei g 100 VR), (mM, ez g 100 MR), (mX, ei g 50 XR), (mY, ei g 3 YR), (mI, ei g 101 u.1), (mJ, ei g 101 u.2.1), (mG, ei g 101 u.2.2.1), (mC, el g 20604 u.2.2.2.1), (mR, ei g 20604 u.2.2.2.2.1), (mN, ei g 20604 u.2.2.2.2.2.1), (mE, ei g 50 ER), (mL, ei g 50 LR), (mB, ei g 50 BR), (mU, ei g 50 UR)]) 0 0 := by
  refine z_beWv (cc := cX6_search) (nL := 6) (plainFor_of_name (by decide +kernel)) rfl (Nat.le_of_ble_eq_true rfl) ?_
  intro X A hC hN hR
  have hC : zC X g cX6_search RX6 wsX6_search rm_X6_search 6 := hC
  show ZG X g (zD X A) 0 0 [(hM, eo 6 [.int (iZ (n)), .ref mK, .ref mW, .ref mT, .ref mS, .ref mV, .ref mM, .ref mX, .ref mY, .ref mI, .ref mJ, .ref mG, .ref mC, .ref mR, .ref mN, .int (iZ (lk)), .int (iZ (bd)), .int (iZ (so)), .long (lZ (dm)), .int (iZ (tt)), .ref mE, .ref mL, .ref mB, .ref mU, .long (lZ (sm)), .int (iZ (po))]), (mK, ei g 100 KR), (mW, ei g 100 WR), (mT, ei g 100 TR), (mS, ei g 100 SR), (mV, ei g 100 VR), (mM, ez g 100 MR), (mX, ei g 50 XR), (mY, ei g 3 YR), (mI, ei g 101 IR), (mJ, ei g 101 JR), (mG, ei g 101 GR), (mC, el g 20604 CR), (mR, ei g 20604 RR), (mN, ei g 20604 NR), (mE, ei g 50 ER), (mL, ei g 50 LR), (mB, ei g 50 BR), (mU, ei g 50 UR)] [(0, .ref hM), (1, .int (iZ (ps))), (2, .int (iZ (ex)))] 0 []
  obtain ⟨hI1, hI2, hI3, hI4, hI5, hI6, hI7, hI8, hd⟩ := id h1
  have hn := hI1.1
  have hd2 : d.2.1 = ex := by rw [hd]; rfl
  refine z_aload_n hC 0 dX6_search_0 rfl rfl ?_
  refine z_vWv (wr := []) hC 0 (c_X6_sumUp (xl X) g _ _ _ _ _ _ _ _ _ _ _ _ _ _ _ _ _ _ _ _ _ _ _ _ _ _ _ _ _ _ _ _ _ _ _ _ _ _ _ _ _ _ _ _ _ K V P M LB SB HB W T hI1 h2 h3 h5) gX6_search_X6_sumUp rfl hd_X6_sumUp_v (by decide) ⟨rfl, rfl⟩ [0, 1, 2, 3, 4, 5, 6, 7, 8, 9, 10, 11, 12, 13, 14, 15, 16, 17, 18] [] (by decide) rfl rfl (by decide) (by decide) 0 6 rfl rfl rfl rfl rfl (Nat.le_of_ble_eq_true rfl) dX6_search_1 (by decide) (fun u_1 p_1 => ?_)
  obtain ⟨I1_1, J1_1, G1_1⟩ := u_1
  try dsimp only at p_1
  refine z_ws (ws' := [(hM, eo 6 [.int (iZ (n)), .ref mK, .ref mW, .ref mT, .ref mS, .ref mV, .ref mM, .ref mX, .ref mY, .ref mI, .ref mJ, .ref mG, .ref mC, .ref mR, .ref mN, .int (iZ (lk)), .int (iZ (bd)), .int (iZ (so)), .long (lZ (dm)), .int (iZ (tt)), .ref mE, .ref mL, .ref mB, .ref mU, .long (lZ (sm)), .int (iZ (po))]), (mK, ei g 100 KR), (mW, ei g 100 WR), (mT, ei g 100 TR), (mS, ei g 100 SR), (mV, ei g 100 VR), (mM, ez g 100 MR), (mX, ei g 50 XR), (mY, ei g 3 YR), (mI, ei g 101 I1_1), (mJ, ei g 101 J1_1), (mG, ei g 101 G1_1), (mC, el g 20604 CR), (mR, ei g 20604 RR), (mN, ei g 20604 NR), (mE, ei g 50 ER), (mL, ei g 50 LR), (mB, ei g 50 BR), (mU, ei g 50 UR)]) [0, 1, 2, 3, 4, 5, 6, 7, 8, 9, 10, 11, 12, 13, 14, 15, 16, 17, 18] (by decide) rfl ?_
  refine z_iconst hC dX6_search_4 ?_
  refine z_istore_n hC (lv' := [(3, _), (0, _), (1, _), (2, _)]) dX6_search_5 rfl (by decide) rfl ?_
  have L6 : ∀ (fu : Nat) (k : Int) (R2 : Int → Int), (0 ≤ k ∧ k ≤ 20604) → (∀ x, 0 ≤ x → x < k → R2 x = 0) → (20604 - k).toNat < fu → ZG X g (zD X A) 0 0 [(hM, eo 6 [.int (iZ (n)), .ref mK, .ref mW, .ref mT, .ref mS, .ref mV, .ref mM, .ref mX, .ref mY, .ref mI, .ref mJ, .ref mG, .ref mC, .ref mR, .ref mN, .int (iZ (lk)), .int (iZ (bd)), .int (iZ (so)), .long (lZ (dm)), .int (iZ (tt)), .ref mE, .ref mL, .ref mB, .ref mU, .long (lZ (sm)), .int (iZ (po))]), (mK, ei g 100 KR), (mW, ei g 100 WR), (mT, ei g 100 TR), (mS, ei g 100 SR), (mV, ei g 100 VR), (mM, ez g 100 MR), (mX, ei g 50 XR), (mY, ei g 3 YR), (mI, ei g 101 I1_1), (mJ, ei g 101 J1_1), (mG, ei g 101 G1_1), (mC, el g 20604 CR), (mR, ei g 20604 R2), (mN, ei g 20604 NR), (mE, ei g 50 ER), (mL, ei g 50 LR), (mB, ei g 50 BR), (mU, ei g 50 UR)] [(3, .int (iZ (k))), (0, .ref hM), (1, .int (iZ (ps))), (2, .int (iZ (ex)))] 6 [] := by
    intro fu
    induction fu with
    | zero => intro k R2; intros; omega
    | succ fu ih_6 =>
      intro k R2 hk hz hn
      refine z_iload_n hC 0 dX6_search_6 rfl rfl ?_
      refine z_sip hC dX6_search_7 (by decide) ?_
      refine z_icmp_ge hC 26 dX6_search_10 (by decide) (by omega) (by omega) (fun c_10 => ?_) (fun c_10 => ?_)
      ·
        have J36 : ∀ (la : Int), (0 < ex ∧ la = ex) ∨ (ex = 0 ∧ la = 50) → ZG X g (zD X A) 0 0 [(hM, eo 6 [.int (iZ (n)), .ref mK, .ref mW, .ref mT, .ref mS, .ref mV, .ref mM, .ref mX, .ref mY, .ref mI, .ref mJ, .ref mG, .ref mC, .ref mR, .ref mN, .int (iZ (lk)), .int (iZ (bd)), .int (iZ (so)), .long (lZ (dm)), .int (iZ (tt)), .ref mE, .ref mL, .ref mB, .ref mU, .long (lZ (sm)), .int (iZ (po))]), (mK, ei g 100 KR), (mW, ei g 100 WR), (mT, ei g 100 TR), (mS, ei g 100 SR), (mV, ei g 100 VR), (mM, ez g 100 MR), (mX, ei g 50 XR), (mY, ei g 3 YR), (mI, ei g 101 I1_1), (mJ, ei g 101 J1_1), (mG, ei g 101 G1_1), (mC, el g 20604 CR), (mR, ei g 20604 R2), (mN, ei g 20604 NR), (mE, ei g 50 ER), (mL, ei g 50 LR), (mB, ei g 50 BR), (mU, ei g 50 UR)] [(3, .int (iZ (k))), (0, .ref hM), (1, .int (iZ (ps))), (2, .int (iZ (ex)))] 36 [.int (iZ (la))] := by
          intro la hla
          refine z_istore_n hC (lv' := [(3, _), (0, _), (1, _), (2, _)]) dX6_search_36 rfl (by decide) rfl ?_
          refine z_iload_n hC 0 dX6_search_37 rfl rfl ?_
          refine z_iconst hC dX6_search_38 ?_
          refine z_isub hC dX6_search_39 ?_
          refine z_istore hC (lv' := [(4, _), (3, _), (0, _), (1, _), (2, _)]) dX6_search_40 (by decide) rfl ?_
          have L42 : ∀ (fu : Nat) (i : Int) (C2 R3 N2 : Int → Int) (lk2 bd2 so2 dm2 : Int), (-1 ≤ i ∧ i < la) → (zO1 d K V M n mt i C2 R3 N2 ∧ zO2 n i R3) → (i + 1).toNat < fu → ZG X g (zD X A) 0 0 [(hM, eo 6 [.int (iZ (n)), .ref mK, .ref mW, .ref mT, .ref mS, .ref mV, .ref mM, .ref mX, .ref mY, .ref mI, .ref mJ, .ref mG, .ref mC, .ref mR, .ref mN, .int (iZ (lk2)), .int (iZ (bd2)), .int (iZ (so2)), .long (lZ (dm2)), .int (iZ (tt)), .ref mE, .ref mL, .ref mB, .ref mU, .long (lZ (sm)), .int (iZ (po))]), (mK, ei g 100 KR), (mW, ei g 100 WR), (mT, ei g 100 TR), (mS, ei g 100 SR), (mV, ei g 100 VR), (mM, ez g 100 MR), (mX, ei g 50 XR), (mY, ei g 3 YR), (mI, ei g 101 I1_1), (mJ, ei g 101 J1_1), (mG, ei g 101 G1_1), (mC, el g 20604 C2), (mR, ei g 20604 R3), (mN, ei g 20604 N2), (mE, ei g 50 ER), (mL, ei g 50 LR), (mB, ei g 50 BR), (mU, ei g 50 UR)] [(4, .int (iZ (i))), (3, .int (iZ (la))), (0, .ref hM), (1, .int (iZ (ps))), (2, .int (iZ (ex)))] 42 [] := by
            intro fu
            induction fu with
            | zero => intro i C2 R3 N2 lk2 bd2 so2 dm2; intros; omega
            | succ fu ih_42 =>
              intro i C2 R3 N2 lk2 bd2 so2 dm2 hi hO hn
              refine z_iload hC 0 dX6_search_42 rfl ?_
              refine z_if_lt hC 115 dX6_search_44 (by decide) (by omega) (fun c_44 => ?_) (fun c_44 => ?_)
              ·
                exact hR (I1_1, J1_1, G1_1, C2, R3, N2, lk2, bd2, so2, dm2) _ _ _ [0, 1, 2, 3, 4, 5, 6, 7, 8, 9, 10, 11, 12, 13, 14, 15, 16, 17, 18] ⟨p_1.1, p_1.2, by rw [show i = -1 by omega] at hO; exact hO.1⟩ (by decide) rfl dX6_search_115
              ·
                have J57 : ∀ (a0 : Int), (i = 0 ∧ a0 = -1) ∨ (¬ i = 0 ∧ a0 = 0) → ZG X g (zD X A) 0 0 [(hM, eo 6 [.int (iZ (n)), .ref mK, .ref mW, .ref mT, .ref mS, .ref mV, .ref mM, .ref mX, .ref mY, .ref mI, .ref mJ, .ref mG, .ref mC, .ref mR, .ref mN, .int (iZ (lk2)), .int (iZ (bd2)), .int (iZ (so2)), .long (lZ (dm2)), .int (iZ (tt)), .ref mE, .ref mL, .ref mB, .ref mU, .long (lZ (sm)), .int (iZ (po))]), (mK, ei g 100 KR), (mW, ei g 100 WR), (mT, ei g 100 TR), (mS, ei g 100 SR), (mV, ei g 100 VR), (mM, ez g 100 MR), (mX, ei g 50 XR), (mY, ei g 3 YR), (mI, ei g 101 I1_1), (mJ, ei g 101 J1_1), (mG, ei g 101 G1_1), (mC, el g 20604 C2), (mR, ei g 20604 R3), (mN, ei g 20604 N2), (mE, ei g 50 ER), (mL, ei g 50 LR), (mB, ei g 50 BR), (mU, ei g 50 UR)] [(4, .int (iZ (i))), (3, .int (iZ (la))), (0, .ref hM), (1, .int (iZ (ps))), (2, .int (iZ (ex)))] 57 [.int (iZ (a0))] := by
                  intro a0 ha0
                  refine z_istore hC (lv' := [(5, _), (4, _), (3, _), (0, _), (1, _), (2, _)]) dX6_search_57 (by decide) rfl ?_
                  have L59 : ∀ (fu : Nat) (a : Int) (C3 R4 N3 : Int → Int) (lk3 bd3 so3 dm3 : Int), ((i = 0 ∧ -1 ≤ a ∧ a ≤ 0) ∨ (¬ i = 0 ∧ 0 ≤ a ∧ a ≤ n)) → (zOO d K V M n mt i a C3 R4 N3) → (n + 1 - a).toNat < fu → ZG X g (zD X A) 0 0 [(hM, eo 6 [.int (iZ (n)), .ref mK, .ref mW, .ref mT, .ref mS, .ref mV, .ref mM, .ref mX, .ref mY, .ref mI, .ref mJ, .ref mG, .ref mC, .ref mR, .ref mN, .int (iZ (lk3)), .int (iZ (bd3)), .int (iZ (so3)), .long (lZ (dm3)), .int (iZ (tt)), .ref mE, .ref mL, .ref mB, .ref mU, .long (lZ (sm)), .int (iZ (po))]), (mK, ei g 100 KR), (mW, ei g 100 WR), (mT, ei g 100 TR), (mS, ei g 100 SR), (mV, ei g 100 VR), (mM, ez g 100 MR), (mX, ei g 50 XR), (mY, ei g 3 YR), (mI, ei g 101 I1_1), (mJ, ei g 101 J1_1), (mG, ei g 101 G1_1), (mC, el g 20604 C3), (mR, ei g 20604 R4), (mN, ei g 20604 N3), (mE, ei g 50 ER), (mL, ei g 50 LR), (mB, ei g 50 BR), (mU, ei g 50 UR)] [(5, .int (iZ (a))), (4, .int (iZ (i))), (3, .int (iZ (la))), (0, .ref hM), (1, .int (iZ (ps))), (2, .int (iZ (ex)))] 59 [] := by
                    intro fu
                    induction fu with
                    | zero => intro a C3 R4 N3 lk3 bd3 so3 dm3; intros; omega
                    | succ fu ih_59 =>
                      intro a C3 R4 N3 lk3 bd3 so3 dm3 ha hOO hn
                      refine z_iload hC 0 dX6_search_59 rfl ?_
                      have J74 : ∀ (bo : Int), (i = 0 ∧ bo = 0) ∨ (¬ i = 0 ∧ bo = n) → ZG X g (zD X A) 0 0 [(hM, eo 6 [.int (iZ (n)), .ref mK, .ref mW, .ref mT, .ref mS, .ref mV, .ref mM, .ref mX, .ref mY, .ref mI, .ref mJ, .ref mG, .ref mC, .ref mR, .ref mN, .int (iZ (lk3)), .int (iZ (bd3)), .int (iZ (so3)), .long (lZ (dm3)), .int (iZ (tt)), .ref mE, .ref mL, .ref mB, .ref mU, .long (lZ (sm)), .int (iZ (po))]), (mK, ei g 100 KR), (mW, ei g 100 WR), (mT, ei g 100 TR), (mS, ei g 100 SR), (mV, ei g 100 VR), (mM, ez g 100 MR), (mX, ei g 50 XR), (mY, ei g 3 YR), (mI, ei g 101 I1_1), (mJ, ei g 101 J1_1), (mG, ei g 101 G1_1), (mC, el g 20604 C3), (mR, ei g 20604 R4), (mN, ei g 20604 N3), (mE, ei g 50 ER), (mL, ei g 50 LR), (mB, ei g 50 BR), (mU, ei g 50 UR)] [(5, .int (iZ (a))), (4, .int (iZ (i))), (3, .int (iZ (la))), (0, .ref hM), (1, .int (iZ (ps))), (2, .int (iZ (ex)))] 74 [.int (iZ (bo)), .int (iZ (a))] := by
                        intro bo hbo
                        refine z_icmp_ge hC 109 dX6_search_74 (by decide) (by omega) (by omega) (fun c_74 => ?_) (fun c_74 => ?_)
                        ·
                          refine z_iinc hC (lv' := [(4, _), (5, _), (3, _), (0, _), (1, _), (2, _)]) 1 dX6_search_109 rfl (by decide) rfl ?_
                          refine z_goto (tgt := 42) hC dX6_search_112 (by decide) ?_
                          refine z_lv (lv' := [(4, _), (3, _), (0, _), (1, _), (2, _)]) [0, 2, 3, 4, 5] rfl ?_
                          exact ih_42 (i + (-1)) _ _ _ _ _ _ _ (by omega) (by rw [show i + (-1) = i - 1 by omega]; exact zOO_next hOO (by omega)) (by omega)
                        ·
                          refine z_iload hC 0 dX6_search_77 rfl ?_
                          refine z_if_lt hC 92 dX6_search_79 (by decide) (by omega) (fun c_79 => ?_) (fun c_79 => ?_)
                          ·
                            refine z_aload_n hC 3 dX6_search_92 rfl rfl ?_
                            refine z_iload hC 0 dX6_search_93 rfl ?_
                            refine z_iload hC 1 dX6_search_95 rfl ?_
                            refine z_iload_n hC 4 dX6_search_97 rfl rfl ?_
                            refine z_iload_n hC 5 dX6_search_98 rfl rfl ?_
                            refine z_iload_n hC 2 dX6_search_99 rfl rfl ?_
                            refine z_vWv (wr := []) hC 5 (c_X6_goFrom (xl X) g _ _ _ _ _ _ _ _ _ _ _ _ _ _ _ _ _ _ _ _ _ _ _ _ _ _ _ _ _ _ _ _ _ _ _ _ _ _ _ _ _ _ _ _ _ K V P M LB SB HB W T _ _ _ _ _ _ _ h1 h2 p_1.1 h4 (by omega) (by omega) hla (fun c g1 g2 => hOO.2.2.2 a c (by omega) (by omega) (by omega) g1 g2) (fun b s g1 g2 g3 g4 g5 g6 => hOO.1 b (i + 1) s (by omega) (by omega) (Or.inr ⟨by omega, g2, g3, by omega⟩) g5 g6)) gX6_search_X6_goFrom rfl hd_X6_goFrom_v (by decide) ⟨rfl, rfl⟩ [0, 1, 2, 3, 4, 5, 6, 7, 8, 9, 10, 11, 12, 13, 14, 15, 16, 17, 18] [] (by decide) rfl rfl (by decide) (by decide) 0 6 rfl rfl rfl rfl rfl (Nat.le_of_ble_eq_true rfl) dX6_search_100 (by decide) (fun u_100 p_100 => ?_)
                            obtain ⟨C1_100, R1_100, N1_100, lk1_100, bd1_100, so1_100, dm1_100⟩ := u_100
                            try dsimp only at p_100
                            refine z_ws (ws' := [(hM, eo 6 [.int (iZ (n)), .ref mK, .ref mW, .ref mT, .ref mS, .ref mV, .ref mM, .ref mX, .ref mY, .ref mI, .ref mJ, .ref mG, .ref mC, .ref mR, .ref mN, .int (iZ (lk1_100)), .int (iZ (bd1_100)), .int (iZ (so1_100)), .long (lZ (dm1_100)), .int (iZ (tt)), .ref mE, .ref mL, .ref mB, .ref mU, .long (lZ (sm)), .int (iZ (po))]), (mK, ei g 100 KR), (mW, ei g 100 WR), (mT, ei g 100 TR), (mS, ei g 100 SR), (mV, ei g 100 VR), (mM, ez g 100 MR), (mX, ei g 50 XR), (mY, ei g 3 YR), (mI, ei g 101 I1_1), (mJ, ei g 101 J1_1), (mG, ei g 101 G1_1), (mC, el g 20604 C1_100), (mR, ei g 20604 R1_100), (mN, ei g 20604 N1_100), (mE, ei g 50 ER), (mL, ei g 50 LR), (mB, ei g 50 BR), (mU, ei g 50 UR)]) [0, 1, 2, 3, 4, 5, 6, 7, 8, 9, 10, 11, 12, 13, 14, 15, 16, 17, 18] (by decide) rfl ?_
                            refine z_iinc hC (lv' := [(5, _), (4, _), (3, _), (0, _), (1, _), (2, _)]) 0 dX6_search_103 rfl (by decide) rfl ?_
                            refine z_goto (tgt := 59) hC dX6_search_106 (by decide) ?_
                            exact ih_59 (a + 1) _ _ _ _ _ _ _ (by omega) (zOO_go (by omega) (by omega) hOO p_100.1 p_100.2) (by omega)
                          ·
                            refine z_aload_n hC 3 dX6_search_82 rfl rfl ?_
                            refine z_iload hC 0 dX6_search_83 rfl ?_
                            refine z_iload_n hC 4 dX6_search_85 rfl rfl ?_
                            refine z_vRi hC 2 (c_X6_mayBreak (xl X) g _ _ _ _ _ _ _ _ _ _ _ _ _ _ _ _ _ _ _ _ _ _ _ _ _ _ _ _ _ _ _ _ _ _ _ _ _ _ _ _ _ _ _ _ _ K V P M LB SB HB W T _ _ _ hI1 h2 (by omega) hI5 ⟨hI6, hI7⟩) gX6_search_X6_mayBreak rfl hd_X6_mayBreak_v (by decide) ⟨rfl, rfl⟩ [0, 1, 2, 3, 4, 5, 6, 7, 8, 9, 10, 11, 12, 13, 14, 15, 16, 17, 18] (by decide) rfl 0 6 rfl rfl rfl rfl rfl (Nat.le_of_ble_eq_true rfl) dX6_search_86 (by decide) ?_
                            refine z_if_eq hC 103 dX6_search_89 (by decide) (b2_r _) (fun c_89 => ?_) (fun c_89 => ?_)
                            ·
                              have c_89 := b2_f c_89
                              refine z_iinc hC (lv' := [(5, _), (4, _), (3, _), (0, _), (1, _), (2, _)]) 0 dX6_search_103 rfl (by decide) rfl ?_
                              refine z_goto (tgt := 59) hC dX6_search_106 (by decide) ?_
                              exact ih_59 (a + 1) _ _ _ _ _ _ _ (by omega) (zOO_no hOO c_89 (by omega)) (by omega)
                            ·
                              have c_89 := b2_t c_89
                              refine z_aload_n hC 3 dX6_search_92 rfl rfl ?_
                              refine z_iload hC 0 dX6_search_93 rfl ?_
                              refine z_iload hC 1 dX6_search_95 rfl ?_
                              refine z_iload_n hC 4 dX6_search_97 rfl rfl ?_
                              refine z_iload_n hC 5 dX6_search_98 rfl rfl ?_
                              refine z_iload_n hC 2 dX6_search_99 rfl rfl ?_
                              refine z_vWv (wr := []) hC 5 (c_X6_goFrom (xl X) g _ _ _ _ _ _ _ _ _ _ _ _ _ _ _ _ _ _ _ _ _ _ _ _ _ _ _ _ _ _ _ _ _ _ _ _ _ _ _ _ _ _ _ _ _ K V P M LB SB HB W T _ _ _ _ _ _ _ h1 h2 p_1.1 h4 (by omega) (by omega) hla (fun c g1 g2 => hOO.2.2.2 a c (by omega) (by omega) (by omega) g1 g2) (fun b s g1 g2 g3 g4 g5 g6 => hOO.1 b (i + 1) s (by omega) (by omega) (Or.inr ⟨by omega, g2, g3, by omega⟩) g5 g6)) gX6_search_X6_goFrom rfl hd_X6_goFrom_v (by decide) ⟨rfl, rfl⟩ [0, 1, 2, 3, 4, 5, 6, 7, 8, 9, 10, 11, 12, 13, 14, 15, 16, 17, 18] [] (by decide) rfl rfl (by decide) (by decide) 0 6 rfl rfl rfl rfl rfl (Nat.le_of_ble_eq_true rfl) dX6_search_100 (by decide) (fun u_100 p_100 => ?_)
                              obtain ⟨C1_100, R1_100, N1_100, lk1_100, bd1_100, so1_100, dm1_100⟩ := u_100
                              try dsimp only at p_100
                              refine z_ws (ws' := [(hM, eo 6 [.int (iZ (n)), .ref mK, .ref mW, .ref mT, .ref mS, .ref mV, .ref mM, .ref mX, .ref mY, .ref mI, .ref mJ, .ref mG, .ref mC, .ref mR, .ref mN, .int (iZ (lk1_100)), .int (iZ (bd1_100)), .int (iZ (so1_100)), .long (lZ (dm1_100)), .int (iZ (tt)), .ref mE, .ref mL, .ref mB, .ref mU, .long (lZ (sm)), .int (iZ (po))]), (mK, ei g 100 KR), (mW, ei g 100 WR), (mT, ei g 100 TR), (mS, ei g 100 SR), (mV, ei g 100 VR), (mM, ez g 100 MR), (mX, ei g 50 XR), (mY, ei g 3 YR), (mI, ei g 101 I1_1), (mJ, ei g 101 J1_1), (mG, ei g 101 G1_1), (mC, el g 20604 C1_100), (mR, ei g 20604 R1_100), (mN, ei g 20604 N1_100), (mE, ei g 50 ER), (mL, ei g 50 LR), (mB, ei g 50 BR), (mU, ei g 50 UR)]) [0, 1, 2, 3, 4, 5, 6, 7, 8, 9, 10, 11, 12, 13, 14, 15, 16, 17, 18] (by decide) rfl ?_
                              refine z_iinc hC (lv' := [(5, _), (4, _), (3, _), (0, _), (1, _), (2, _)]) 0 dX6_search_103 rfl (by decide) rfl ?_
                              refine z_goto (tgt := 59) hC dX6_search_106 (by decide) ?_
                              exact ih_59 (a + 1) _ _ _ _ _ _ _ (by omega) (zOO_go (by omega) (by omega) hOO p_100.1 p_100.2) (by omega)
                      refine z_iload hC 1 dX6_search_61 rfl ?_
                      refine z_if_ne hC 70 dX6_search_63 (by decide) (by omega) (fun c_63 => ?_) (fun c_63 => ?_)
                      ·
                        refine z_aload_n hC 3 dX6_search_70 rfl rfl ?_
                        refine z_get hC iX6_search_6 0 0 rfl rfl (by decide) mX6_search_f66 rfl dX6_search_71 ?_
                        exact J74 _ (by omega)
                      ·
                        refine z_iconst hC dX6_search_66 ?_
                        refine z_goto (tgt := 74) hC dX6_search_67 (by decide) ?_
                        exact J74 _ (by omega)
                  exact L59 _ a0 _ _ _ _ _ _ _ (by omega) (zOO_0 hO (by omega) ha0) (Nat.lt_succ_self _)
                refine z_iload hC 0 dX6_search_47 rfl ?_
                refine z_if_ne hC 56 dX6_search_49 (by decide) (by omega) (fun c_49 => ?_) (fun c_49 => ?_)
                ·
                  refine z_iconst hC dX6_search_56 ?_
                  exact J57 _ (by omega)
                ·
                  refine z_iconst hC dX6_search_52 ?_
                  refine z_goto (tgt := 57) hC dX6_search_53 (by decide) ?_
                  exact J57 _ (by omega)
          exact L42 _ (la - 1) _ _ _ _ _ _ _ (by omega) (zO1_0 hd2 hla (by omega) (by omega) (fun x g1 g2 => hz x g1 (by omega))) (Nat.lt_succ_self _)
        refine z_iload_n hC 3 dX6_search_26 rfl rfl ?_
        refine z_if_le hC 34 dX6_search_27 (by decide) (by omega) (fun c_27 => ?_) (fun c_27 => ?_)
        ·
          refine z_bip hC dX6_search_34 (by decide) ?_
          exact J36 _ (by omega)
        ·
          refine z_iload_n hC 3 dX6_search_30 rfl rfl ?_
          refine z_goto (tgt := 36) hC dX6_search_31 (by decide) ?_
          exact J36 _ (by omega)
      ·
        refine z_aload_n hC 1 dX6_search_13 rfl rfl ?_
        refine z_get hC iX6_search_6 0 13 rfl rfl (by decide) mX6_search_f48 rfl dX6_search_14 ?_
        refine z_iload_n hC 0 dX6_search_17 rfl rfl ?_
        refine z_iconst hC dX6_search_18 ?_
        refine z_iast hC 13 rfl (by omega) (by decide) dX6_search_19 (ws' := [_, _, _, _, _, _, _, _, _, _, _, _, _, _, _, _, _, _, _]) rfl ?_
        refine z_iinc hC (lv' := [(3, _), (0, _), (1, _), (2, _)]) 0 dX6_search_20 rfl (by decide) rfl ?_
        refine z_goto (tgt := 6) hC dX6_search_23 (by decide) ?_
        exact ih_6 (k + 1) _ (by omega) (fun x g1 g2 => by (by_cases e : x = k); (rw [e, uZ_s]); (rw [uZ_n _ _ e]; exact hz x g1 (by omega))) (by omega)
  exact L6 _ 0 _ (by omega) (fun x g1 g2 => by omega) (Nat.lt_succ_self _)
