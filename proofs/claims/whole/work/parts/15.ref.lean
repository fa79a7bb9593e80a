theorem zRs_e {d : zDP} {Vk : Int → Int → z3} {b s : Int} (h : b = d.1) : zRs d Vk b s = (0, 0, 0) := if_pos h
theorem zRs_n {d : zDP} {Vk : Int → Int → z3} {b s : Int} (h : ¬ b = d.1) : zRs d Vk b s = Vk b s := if_neg h
theorem gf_ft {d : zDP} {n ex la i a b : Int} (hd1 : d.1 = n) (hd2 : d.2.1 = ex) (hla : (0 < ex ∧ la = ex) ∨ (ex = 0 ∧ la = 50)) (hi : 0 ≤ i ∧ i < la) (hx : ex ≤ 50) (hb : b ≤ n) (h : ¬ ((b = n → (ex = 0 ∨ i + 1 = ex)) ∧ (b < n → i + 1 < la))) : ¬ zOkc d (zVL d (i + 1)) i a b := by
  intro q
  by_cases e : b = n
  · have := q.2.1 (by omega)
    omega
  · have q2 := q.2.2 (by omega)
    rcases hla with g | g
    · rw [zVL_ex (by omega) (by omega) (by omega)] at q2
      exact q2 rfl
    · rw [show i + 1 = 50 by omega, zVL_50] at q2
      exact q2 rfl
theorem hd_X6_cube_s : yX6_cube.cls ≠ "java/lang/invoke/MethodHandle" ∧ yX6_cube.cls ≠ "java/lang/invoke/VarHandle" ∧ (parseMethodDescriptor yX6_cube.desc).map (fun d => d.parameters.length) = some 1 := by decide +kernel
abbrev rm_X6_in : Room := { frames := 1, cells := 0, slots := 0, locals := 12 }
set_option maxHeartbeats 4000000 in
set_option maxRecDepth 100000 in
theorem c_X6_in (l : Launch) (g : zG) (v a b : Int) (h1 : -2147483648 ≤ v ∧ v ≤ 2147483647) (h2 : -2147483648 ≤ a ∧ a ≤ 2147483647) (h3 : -2147483648 ≤ b ∧ b ≤ 2147483647) : zMRi l yX6_in wsX6_in rm_X6_in g [] [.int (iZ (v)), .int (iZ (a)), .int (iZ (b))] (b2 (a ≤ v ∧ v ≤ b)) := by
  refine z_beRi (cc := cX6_in) (nL := 3) (ret := some .boolean) (plainFor_of_name (by decide +kernel)) rfl (Or.inr ⟨rfl, b2_01 _⟩) (Nat.le_of_ble_eq_true rfl) ?_
  intro X hC hR
  have hC : zC X g cX6_in RX6 wsX6_in rm_X6_in 3 := hC
  show ZG X g (zE X) 0 0 [] [(0, .int (iZ (v))), (1, .int (iZ (a))), (2, .int (iZ (b)))] 0 []
  refine z_iload_n hC 0 dX6_in_0 rfl rfl ?_
  refine z_iload_n hC 1 dX6_in_1 rfl rfl ?_
  refine z_icmp_lt hC 14 dX6_in_2 (by decide) (by omega) (by omega) (fun c_2 => ?_) (fun c_2 => ?_)
  ·
    refine z_iconst hC dX6_in_14 ?_
    exact hR _ _ _ _ (by first | exact b2_1' (by omega) | exact b2_0' (by omega) | exact b2_eq (by omega)) dX6_in_15
  ·
    refine z_iload_n hC 0 dX6_in_5 rfl rfl ?_
    refine z_iload_n hC 2 dX6_in_6 rfl rfl ?_
    refine z_icmp_gt hC 14 dX6_in_7 (by decide) (by omega) (by omega) (fun c_7 => ?_) (fun c_7 => ?_)
    ·
      refine z_iconst hC dX6_in_14 ?_
      exact hR _ _ _ _ (by first | exact b2_1' (by omega) | exact b2_0' (by omega) | exact b2_eq (by omega)) dX6_in_15
    ·
      refine z_iconst hC dX6_in_10 ?_
      refine z_goto (tgt := 15) hC dX6_in_11 (by decide) ?_
      exact hR _ _ _ _ (by first | exact b2_1' (by omega) | exact b2_0' (by omega) | exact b2_eq (by omega)) dX6_in_15
abbrev rm_X6_cube : Room := { frames := 1, cells := 0, slots := 0, locals := 12 }
set_option maxHeartbeats 4000000 in
set_option maxRecDepth 100000 in
theorem c_X6_cube (l : Launch) (g : zG) (x : Int)  : zMRl l yX6_cube wsX6_cube rm_X6_cube g [] [.long (lZ (x))] (x * x * x) := by
  refine z_beRl (cc := cX6_cube) (nL := 2) (plainFor_of_name (by decide +kernel)) rfl (Nat.le_of_ble_eq_true rfl) ?_
  intro X hC hR
  have hC : zC X g cX6_cube RX6 wsX6_cube rm_X6_cube 2 := hC
  show ZG X g (zE X) 0 0 [] [(0, .long (lZ (x)))] 0 []
  refine z_lload_n hC 0 dX6_cube_0 rfl rfl ?_
  refine z_lload_n hC 0 dX6_cube_1 rfl rfl ?_
  refine z_lmul hC dX6_cube_2 ?_
  refine z_lload_n hC 0 dX6_cube_3 rfl rfl ?_
  refine z_lmul hC dX6_cube_4 ?_
  exact hR _ _ _ _ rfl dX6_cube_5
abbrev rm_X6_index : Room := { frames := 1, cells := 0, slots := 0, locals := 12 }
set_option maxHeartbeats 4000000 in
set_option maxRecDepth 100000 in
theorem c_X6_index (l : Launch) (g : zG) (p i c : Int)  : zMRi l yX6_index wsX6_index rm_X6_index g [] [.int (iZ (p)), .int (iZ (i)), .int (iZ (c))] (((p + 1) * 51 + i) * 4 + c) := by
  refine z_beRi (cc := cX6_index) (nL := 3) (ret := some .int) (plainFor_of_name (by decide +kernel)) rfl (Or.inl rfl) (Nat.le_of_ble_eq_true rfl) ?_
  intro X hC hR
  have hC : zC X g cX6_index RX6 wsX6_index rm_X6_index 3 := hC
  show ZG X g (zE X) 0 0 [] [(0, .int (iZ (p))), (1, .int (iZ (i))), (2, .int (iZ (c)))] 0 []
  refine z_iload_n hC 0 dX6_index_0 rfl rfl ?_
  refine z_iconst hC dX6_index_1 ?_
  refine z_iadd hC dX6_index_2 ?_
  refine z_bip hC dX6_index_3 (by decide) ?_
  refine z_imul hC dX6_index_5 ?_
  refine z_iload_n hC 1 dX6_index_6 rfl rfl ?_
  refine z_iadd hC dX6_index_7 ?_
  refine z_iconst hC dX6_index_8 ?_
  refine z_imul hC dX6_index_9 ?_
  refine z_iload_n hC 2 dX6_index_10 rfl rfl ?_
  refine z_iadd hC dX6_index_11 ?_
  exact hR _ _ _ _ rfl dX6_index_12
set_option maxRecDepth 20000 in
theorem mX6_mayBreak_f66 : Cond.fieldLink RX6 66 "BreakSearchModel" "items" "I" ∈ wsX6_mayBreak := by decide +kernel
set_option maxRecDepth 20000 in
theorem iX6_mayBreak_6 : ∀ w ∈ u_ws RX6 TX6 26, w ∈ wsX6_mayBreak := by decide +kernel
set_option maxRecDepth 20000 in
theorem mX6_mayBreak_f7 : Cond.fieldLink RX6 7 "BreakSearchModel" "kinds" "[I" ∈ wsX6_mayBreak := by decide +kernel
set_option maxRecDepth 20000 in
theorem mX6_mayBreak_f22 : Cond.fieldLink RX6 22 "BreakSearchModel" "values" "[I" ∈ wsX6_mayBreak := by decide +kernel
set_option maxRecDepth 20000 in
theorem mX6_mayBreak_f25 : Cond.fieldLink RX6 25 "BreakSearchModel" "marked" "[Z" ∈ wsX6_mayBreak := by decide +kernel
abbrev rm_X6_mayBreak : Room := { frames := 1, cells := 0, slots := 0, locals := 12 }
set_option maxHeartbeats 4000000 in
set_option maxRecDepth 100000 in
theorem c_X6_mayBreak (l : Launch) (g : zG) (hM mK mW mT mS mV mM mX mY mI mJ mG mC mR mN mE mL mB mU : Nat) (n lk bd so dm tt sm po : Int) (KR WR TR SR VR MR XR YR IR JR GR CR RR NR ER LR BR UR : Int → Int) (K V P M LB SB HB W T : Int → Int) (b ps mt : Int) (h1 : zIok n K V P M) (h2 : zSm n K V P M KR WR VR MR) (h3 : 0 ≤ b ∧ b ≤ n) (h4 : 1 ≤ ps ∧ ps ≤ 3) (h5 : (mt = 0 ∨ mt = 1) ∧ (mt = 1 ↔ ¬ ps = 1)) : zMRi l yX6_mayBreak wsX6_mayBreak rm_X6_mayBreak g [(hM, eo 6 [.int (iZ (n)), .ref mK, .ref mW, .ref mT, .ref mS, .ref mV, .ref mM, .ref mX, .ref mY, .ref mI, .ref mJ, .ref mG, .ref mC, .ref mR, .ref mN, .int (iZ (lk)), .int (iZ (bd)), .int (iZ (so)), .long (lZ (dm)), .int (iZ (tt)), .ref mE, .ref mL, .ref mB, .ref mU, .long (lZ (sm)), .int (iZ (po))]), (mK, ei g 100 KR), (mW, ei g 100 WR), (mT, ei g 100 TR), (mS, ei g 100 SR), (mV, ei g 100 VR), (mM, ez g 100 MR), (mX, ei g 50 XR), (mY, ei g 3 YR), (mI, ei g 101 IR), (mJ, ei g 101 JR), (mG, ei g 101 GR), (mC, el g 20604 CR), (mR, ei g 20604 RR), (mN, ei g 20604 NR), (mE, ei g 50 ER), (mL, ei g 50 LR), (mB, ei g 50 BR), (mU, ei g 50 UR)] [.ref hM, .int (iZ (b)), .int (iZ (ps))] (b2 (zMay K V M n b mt)) := by
  refine z_beRi (cc := cX6_mayBreak) (nL := 3) (ret := some .boolean) (plainFor_of_name (by decide +kernel)) rfl (Or.inr ⟨rfl, b2_01 _⟩) (Nat.le_of_ble_eq_true rfl) ?_
  intro X hC hR
  have hC : zC X g cX6_mayBreak RX6 wsX6_mayBreak rm_X6_mayBreak 3 := hC
  show ZG X g (zE X) 0 0 [(hM, eo 6 [.int (iZ (n)), .ref mK, .ref mW, .ref mT, .ref mS, .ref mV, .ref mM, .ref mX, .ref mY, .ref mI, .ref mJ, .ref mG, .ref mC, .ref mR, .ref mN, .int (iZ (lk)), .int (iZ (bd)), .int (iZ (so)), .long (lZ (dm)), .int (iZ (tt)), .ref mE, .ref mL, .ref mB, .ref mU, .long (lZ (sm)), .int (iZ (po))]), (mK, ei g 100 KR), (mW, ei g 100 WR), (mT, ei g 100 TR), (mS, ei g 100 SR), (mV, ei g 100 VR), (mM, ez g 100 MR), (mX, ei g 50 XR), (mY, ei g 3 YR), (mI, ei g 101 IR), (mJ, ei g 101 JR), (mG, ei g 101 GR), (mC, el g 20604 CR), (mR, ei g 20604 RR), (mN, ei g 20604 NR), (mE, ei g 50 ER), (mL, ei g 50 LR), (mB, ei g 50 BR), (mU, ei g 50 UR)] [(0, .ref hM), (1, .int (iZ (b))), (2, .int (iZ (ps)))] 0 []
  have ⟨hn, hK, hV⟩ := h1
  refine z_iload_n hC 1 dX6_mayBreak_0 rfl rfl ?_
  refine z_aload_n hC 0 dX6_mayBreak_1 rfl rfl ?_
  refine z_get hC iX6_mayBreak_6 0 0 rfl rfl (by decide) mX6_mayBreak_f66 rfl dX6_mayBreak_2 ?_
  refine z_icmp_ne hC 10 dX6_mayBreak_5 (by decide) (by omega) (by omega) (fun c_5 => ?_) (fun c_5 => ?_)
  ·
    have sb := h2 b (by omega) (by omega)
    have kb := hK b (by omega) (by omega)
    have vb := hV b (by omega) (by omega)
    refine z_aload_n hC 0 dX6_mayBreak_10 rfl rfl ?_
    refine z_get hC iX6_mayBreak_6 0 1 rfl rfl (by decide) mX6_mayBreak_f7 rfl dX6_mayBreak_11 ?_
    refine z_iload_n hC 1 dX6_mayBreak_14 rfl rfl ?_
    refine z_iald hC 1 rfl (by omega) (by decide) dX6_mayBreak_15 ?_
    refine z_iconst hC dX6_mayBreak_16 ?_
    refine z_icmp_ne hC 41 dX6_mayBreak_17 (by decide) (by omega) (by omega) (fun c_17 => ?_) (fun c_17 => ?_)
    ·
      refine z_aload_n hC 0 dX6_mayBreak_41 rfl rfl ?_
      refine z_get hC iX6_mayBreak_6 0 1 rfl rfl (by decide) mX6_mayBreak_f7 rfl dX6_mayBreak_42 ?_
      refine z_iload_n hC 1 dX6_mayBreak_45 rfl rfl ?_
      refine z_iald hC 1 rfl (by omega) (by decide) dX6_mayBreak_46 ?_
      refine z_iconst hC dX6_mayBreak_47 ?_
      refine z_icmp_ne hC 81 dX6_mayBreak_48 (by decide) (by omega) (by omega) (fun c_48 => ?_) (fun c_48 => ?_)
      ·
        refine z_iconst hC dX6_mayBreak_81 ?_
        exact hR _ _ _ _ (by first | exact b2_1' (by unfold zMay; omega) | exact b2_0' (by unfold zMay; omega) | exact b2_eq (by unfold zMay; omega)) dX6_mayBreak_82
      ·
        refine z_aload_n hC 0 dX6_mayBreak_51 rfl rfl ?_
        refine z_get hC iX6_mayBreak_6 0 5 rfl rfl (by decide) mX6_mayBreak_f22 rfl dX6_mayBreak_52 ?_
        refine z_iload_n hC 1 dX6_mayBreak_55 rfl rfl ?_
        refine z_iald hC 5 rfl (by omega) (by decide) dX6_mayBreak_56 ?_
        refine z_sip hC dX6_mayBreak_57 (by decide) ?_
        refine z_icmp_ge hC 81 dX6_mayBreak_60 (by decide) (by omega) (by omega) (fun c_60 => ?_) (fun c_60 => ?_)
        ·
          refine z_iconst hC dX6_mayBreak_81 ?_
          exact hR _ _ _ _ (by first | exact b2_1' (by unfold zMay; omega) | exact b2_0' (by unfold zMay; omega) | exact b2_eq (by unfold zMay; omega)) dX6_mayBreak_82
        ·
          refine z_iload_n hC 2 dX6_mayBreak_63 rfl rfl ?_
          refine z_iconst hC dX6_mayBreak_64 ?_
          refine z_icmp_ne hC 77 dX6_mayBreak_65 (by decide) (by omega) (by omega) (fun c_65 => ?_) (fun c_65 => ?_)
          ·
            refine z_iconst hC dX6_mayBreak_77 ?_
            refine z_goto (tgt := 82) hC dX6_mayBreak_78 (by decide) ?_
            exact hR _ _ _ _ (by first | exact b2_1' (by unfold zMay; omega) | exact b2_0' (by unfold zMay; omega) | exact b2_eq (by unfold zMay; omega)) dX6_mayBreak_82
          ·
            refine z_aload_n hC 0 dX6_mayBreak_68 rfl rfl ?_
            refine z_get hC iX6_mayBreak_6 0 6 rfl rfl (by decide) mX6_mayBreak_f25 rfl dX6_mayBreak_69 ?_
            refine z_iload_n hC 1 dX6_mayBreak_72 rfl rfl ?_
            refine z_zald hC 6 rfl (by omega) (by decide) dX6_mayBreak_73 ?_
            refine z_if_ne hC 81 dX6_mayBreak_74 (by decide) (by omega) (fun c_74 => ?_) (fun c_74 => ?_)
            ·
              refine z_iconst hC dX6_mayBreak_81 ?_
              exact hR _ _ _ _ (by first | exact b2_1' (by unfold zMay; omega) | exact b2_0' (by unfold zMay; omega) | exact b2_eq (by unfold zMay; omega)) dX6_mayBreak_82
            ·
              refine z_iconst hC dX6_mayBreak_77 ?_
              refine z_goto (tgt := 82) hC dX6_mayBreak_78 (by decide) ?_
              exact hR _ _ _ _ (by first | exact b2_1' (by unfold zMay; omega) | exact b2_0' (by unfold zMay; omega) | exact b2_eq (by unfold zMay; omega)) dX6_mayBreak_82
    ·
      refine z_iload_n hC 1 dX6_mayBreak_20 rfl rfl ?_
      refine z_if_le hC 39 dX6_mayBreak_21 (by decide) (by omega) (fun c_21 => ?_) (fun c_21 => ?_)
      ·
        refine z_iconst hC dX6_mayBreak_39 ?_
        exact hR _ _ _ _ (by first | exact b2_1' (by unfold zMay; omega) | exact b2_0' (by unfold zMay; omega) | exact b2_eq (by unfold zMay; omega)) dX6_mayBreak_40
      ·
        have sb1 := h2 (b - 1) (by omega) (by omega)
        have kb1 := hK (b - 1) (by omega) (by omega)
        refine z_aload_n hC 0 dX6_mayBreak_24 rfl rfl ?_
        refine z_get hC iX6_mayBreak_6 0 1 rfl rfl (by decide) mX6_mayBreak_f7 rfl dX6_mayBreak_25 ?_
        refine z_iload_n hC 1 dX6_mayBreak_28 rfl rfl ?_
        refine z_iconst hC dX6_mayBreak_29 ?_
        refine z_isub hC dX6_mayBreak_30 ?_
        refine z_iald hC 1 rfl (by omega) (by decide) dX6_mayBreak_31 ?_
        refine z_if_ne hC 39 dX6_mayBreak_32 (by decide) (by omega) (fun c_32 => ?_) (fun c_32 => ?_)
        ·
          refine z_iconst hC dX6_mayBreak_39 ?_
          exact hR _ _ _ _ (by first | exact b2_1' (by unfold zMay; omega) | exact b2_0' (by unfold zMay; omega) | exact b2_eq (by unfold zMay; omega)) dX6_mayBreak_40
        ·
          refine z_iconst hC dX6_mayBreak_35 ?_
          refine z_goto (tgt := 40) hC dX6_mayBreak_36 (by decide) ?_
          exact hR _ _ _ _ (by first | exact b2_1' (by unfold zMay; omega) | exact b2_0' (by unfold zMay; omega) | exact b2_eq (by unfold zMay; omega)) dX6_mayBreak_40
  ·
    refine z_iconst hC dX6_mayBreak_8 ?_
    exact hR _ _ _ _ (by first | exact b2_1' (by unfold zMay; omega) | exact b2_0' (by unfold zMay; omega) | exact b2_eq (by unfold zMay; omega)) dX6_mayBreak_9
set_option maxRecDepth 20000 in
theorem mX6_mustBreak_f66 : Cond.fieldLink RX6 66 "BreakSearchModel" "items" "I" ∈ wsX6_mustBreak := by decide +kernel
set_option maxRecDepth 20000 in
theorem iX6_mustBreak_6 : ∀ w ∈ u_ws RX6 TX6 26, w ∈ wsX6_mustBreak := by decide +kernel
set_option maxRecDepth 20000 in
theorem mX6_mustBreak_f7 : Cond.fieldLink RX6 7 "BreakSearchModel" "kinds" "[I" ∈ wsX6_mustBreak := by decide +kernel
set_option maxRecDepth 20000 in
theorem mX6_mustBreak_f22 : Cond.fieldLink RX6 22 "BreakSearchModel" "values" "[I" ∈ wsX6_mustBreak := by decide +kernel
abbrev rm_X6_mustBreak : Room := { frames := 1, cells := 0, slots := 0, locals := 12 }
set_option maxHeartbeats 4000000 in
set_option maxRecDepth 100000 in
theorem c_X6_mustBreak (l : Launch) (g : zG) (hM mK mW mT mS mV mM mX mY mI mJ mG mC mR mN mE mL mB mU : Nat) (n lk bd so dm tt sm po : Int) (KR WR TR SR VR MR XR YR IR JR GR CR RR NR ER LR BR UR : Int → Int) (K V P M LB SB HB W T : Int → Int) (b : Int) (h1 : zIok n K V P M) (h2 : zSm n K V P M KR WR VR MR) (h3 : 0 ≤ b ∧ b ≤ n) : zMRi l yX6_mustBreak wsX6_mustBreak rm_X6_mustBreak g [(hM, eo 6 [.int (iZ (n)), .ref mK, .ref mW, .ref mT, .ref mS, .ref mV, .ref mM, .ref mX, .ref mY, .ref mI, .ref mJ, .ref mG, .ref mC, .ref mR, .ref mN, .int (iZ (lk)), .int (iZ (bd)), .int (iZ (so)), .long (lZ (dm)), .int (iZ (tt)), .ref mE, .ref mL, .ref mB, .ref mU, .long (lZ (sm)), .int (iZ (po))]), (mK, ei g 100 KR), (mW, ei g 100 WR), (mT, ei g 100 TR), (mS, ei g 100 SR), (mV, ei g 100 VR), (mM, ez g 100 MR), (mX, ei g 50 XR), (mY, ei g 3 YR), (mI, ei g 101 IR), (mJ, ei g 101 JR), (mG, ei g 101 GR), (mC, el g 20604 CR), (mR, ei g 20604 RR), (mN, ei g 20604 NR), (mE, ei g 50 ER), (mL, ei g 50 LR), (mB, ei g 50 BR), (mU, ei g 50 UR)] [.ref hM, .int (iZ (b))] (b2 (zMust K V n b)) := by
  refine z_beRi (cc := cX6_mustBreak) (nL := 2) (ret := some .boolean) (plainFor_of_name (by decide +kernel)) rfl (Or.inr ⟨rfl, b2_01 _⟩) (Nat.le_of_ble_eq_true rfl) ?_
  intro X hC hR
  have hC : zC X g cX6_mustBreak RX6 wsX6_mustBreak rm_X6_mustBreak 2 := hC
  show ZG X g (zE X) 0 0 [(hM, eo 6 [.int (iZ (n)), .ref mK, .ref mW, .ref mT, .ref mS, .ref mV, .ref mM, .ref mX, .ref mY, .ref mI, .ref mJ, .ref mG, .ref mC, .ref mR, .ref mN, .int (iZ (lk)), .int (iZ (bd)), .int (iZ (so)), .long (lZ (dm)), .int (iZ (tt)), .ref mE, .ref mL, .ref mB, .ref mU, .long (lZ (sm)), .int (iZ (po))]), (mK, ei g 100 KR), (mW, ei g 100 WR), (mT, ei g 100 TR), (mS, ei g 100 SR), (mV, ei g 100 VR), (mM, ez g 100 MR), (mX, ei g 50 XR), (mY, ei g 3 YR), (mI, ei g 101 IR), (mJ, ei g 101 JR), (mG, ei g 101 GR), (mC, el g 20604 CR), (mR, ei g 20604 RR), (mN, ei g 20604 NR), (mE, ei g 50 ER), (mL, ei g 50 LR), (mB, ei g 50 BR), (mU, ei g 50 UR)] [(0, .ref hM), (1, .int (iZ (b)))] 0 []
  have ⟨hn, hK, hV⟩ := h1
  refine z_iload_n hC 1 dX6_mustBreak_0 rfl rfl ?_
  refine z_aload_n hC 0 dX6_mustBreak_1 rfl rfl ?_
  refine z_get hC iX6_mustBreak_6 0 0 rfl rfl (by decide) mX6_mustBreak_f66 rfl dX6_mustBreak_2 ?_
  refine z_icmp_ge hC 34 dX6_mustBreak_5 (by decide) (by omega) (by omega) (fun c_5 => ?_) (fun c_5 => ?_)
  ·
    refine z_iconst hC dX6_mustBreak_34 ?_
    exact hR _ _ _ _ (by first | exact b2_1' (by unfold zMust; omega) | exact b2_0' (by unfold zMust; omega) | exact b2_eq (by unfold zMust; omega)) dX6_mustBreak_35
  ·
    have sb := h2 b (by omega) (by omega)
    have kb := hK b (by omega) (by omega)
    have vb := hV b (by omega) (by omega)
    refine z_aload_n hC 0 dX6_mustBreak_8 rfl rfl ?_
    refine z_get hC iX6_mustBreak_6 0 1 rfl rfl (by decide) mX6_mustBreak_f7 rfl dX6_mustBreak_9 ?_
    refine z_iload_n hC 1 dX6_mustBreak_12 rfl rfl ?_
    refine z_iald hC 1 rfl (by omega) (by decide) dX6_mustBreak_13 ?_
    refine z_iconst hC dX6_mustBreak_14 ?_
    refine z_icmp_ne hC 34 dX6_mustBreak_15 (by decide) (by omega) (by omega) (fun c_15 => ?_) (fun c_15 => ?_)
    ·
      refine z_iconst hC dX6_mustBreak_34 ?_
      exact hR _ _ _ _ (by first | exact b2_1' (by unfold zMust; omega) | exact b2_0' (by unfold zMust; omega) | exact b2_eq (by unfold zMust; omega)) dX6_mustBreak_35
    ·
      refine z_aload_n hC 0 dX6_mustBreak_18 rfl rfl ?_
      refine z_get hC iX6_mustBreak_6 0 5 rfl rfl (by decide) mX6_mustBreak_f22 rfl dX6_mustBreak_19 ?_
      refine z_iload_n hC 1 dX6_mustBreak_22 rfl rfl ?_
      refine z_iald hC 5 rfl (by omega) (by decide) dX6_mustBreak_23 ?_
      refine z_sip hC dX6_mustBreak_24 (by decide) ?_
      refine z_icmp_ne hC 34 dX6_mustBreak_27 (by decide) (by omega) (by omega) (fun c_27 => ?_) (fun c_27 => ?_)
      ·
        refine z_iconst hC dX6_mustBreak_34 ?_
        exact hR _ _ _ _ (by first | exact b2_1' (by unfold zMust; omega) | exact b2_0' (by unfold zMust; omega) | exact b2_eq (by unfold zMust; omega)) dX6_mustBreak_35
      ·
        refine z_iconst hC dX6_mustBreak_30 ?_
        refine z_goto (tgt := 35) hC dX6_mustBreak_31 (by decide) ?_
        exact hR _ _ _ _ (by first | exact b2_1' (by unfold zMust; omega) | exact b2_0' (by unfold zMust; omega) | exact b2_eq (by unfold zMust; omega)) dX6_mustBreak_35
set_option maxRecDepth 20000 in
theorem mX6_sumUp_f66 : Cond.fieldLink RX6 66 "BreakSearchModel" "items" "I" ∈ wsX6_sumUp := by decide +kernel
set_option maxRecDepth 20000 in
theorem iX6_sumUp_6 : ∀ w ∈ u_ws RX6 TX6 26, w ∈ wsX6_sumUp := by decide +kernel
set_option maxRecDepth 20000 in
theorem mX6_sumUp_f7 : Cond.fieldLink RX6 7 "BreakSearchModel" "kinds" "[I" ∈ wsX6_sumUp := by decide +kernel
set_option maxRecDepth 20000 in
theorem mX6_sumUp_f35 : Cond.fieldLink RX6 35 "BreakSearchModel" "wide" "[I" ∈ wsX6_sumUp := by decide +kernel
set_option maxRecDepth 20000 in
theorem mX6_sumUp_f38 : Cond.fieldLink RX6 38 "BreakSearchModel" "stretchy" "[I" ∈ wsX6_sumUp := by decide +kernel
set_option maxRecDepth 20000 in
theorem mX6_sumUp_f16 : Cond.fieldLink RX6 16 "BreakSearchModel" "stretches" "[I" ∈ wsX6_sumUp := by decide +kernel
set_option maxRecDepth 20000 in
theorem mX6_sumUp_f41 : Cond.fieldLink RX6 41 "BreakSearchModel" "shrinking" "[I" ∈ wsX6_sumUp := by decide +kernel
set_option maxRecDepth 20000 in
theorem mX6_sumUp_f19 : Cond.fieldLink RX6 19 "BreakSearchModel" "shrinks" "[I" ∈ wsX6_sumUp := by decide +kernel
set_option maxRecDepth 20000 in
theorem mX6_sumUp_f13 : Cond.fieldLink RX6 13 "BreakSearchModel" "widths" "[I" ∈ wsX6_sumUp := by decide +kernel
abbrev rm_X6_sumUp : Room := { frames := 1, cells := 0, slots := 0, locals := 12 }
set_option maxHeartbeats 4000000 in
set_option maxRecDepth 100000 in
theorem c_X6_sumUp (l : Launch) (g : zG) (hM mK mW mT mS mV mM mX mY mI mJ mG mC mR mN mE mL mB mU : Nat) (n lk bd so dm tt sm po : Int) (KR WR TR SR VR MR XR YR IR JR GR CR RR NR ER LR BR UR : Int → Int) (K V P M LB SB HB W T : Int → Int) (h1 : zIok n K V P M) (h2 : zSm n K V P M KR WR VR MR) (h3 : zSs n K LB SB HB WR TR SR) (h4 : IR 0 = 0 ∧ JR 0 = 0 ∧ GR 0 = 0) : zMWv (S := (Int → Int) × (Int → Int) × (Int → Int)) l yX6_sumUp wsX6_sumUp rm_X6_sumUp g [(hM, eo 6 [.int (iZ (n)), .ref mK, .ref mW, .ref mT, .ref mS, .ref mV, .ref mM, .ref mX, .ref mY, .ref mI, .ref mJ, .ref mG, .ref mC, .ref mR, .ref mN, .int (iZ (lk)), .int (iZ (bd)), .int (iZ (so)), .long (lZ (dm)), .int (iZ (tt)), .ref mE, .ref mL, .ref mB, .ref mU, .long (lZ (sm)), .int (iZ (po))]), (mK, ei g 100 KR), (mW, ei g 100 WR), (mT, ei g 100 TR), (mS, ei g 100 SR), (mV, ei g 100 VR), (mM, ez g 100 MR), (mX, ei g 50 XR), (mY, ei g 3 YR), (mI, ei g 101 IR), (mJ, ei g 101 JR), (mG, ei g 101 GR), (mC, el g 20604 CR), (mR, ei g 20604 RR), (mN, ei g 20604 NR), (mE, ei g 50 ER), (mL, ei g 50 LR), (mB, ei g 50 BR), (mU, ei g 50 UR)] [.ref hM] (fun u => zSu n LB SB HB u.1 u.2.1 u.2.2 ∧ u.1 0 = 0 ∧ u.2.1 0 = 0 ∧ u.2.2 0 = 0) (fun u => [(hM, eo 6 [.int (iZ (n)), .ref mK, .ref mW, .ref mT, .ref mS, .ref mV, .ref mM, .ref mX, .ref mY, .ref mI, .ref mJ, .ref mG, .ref mC, .ref mR, .ref mN, .int (iZ (lk)), .int (iZ (bd)), .int (iZ (so)), .long (lZ (dm)), .int (iZ (tt)), .ref mE, .ref mL, .ref mB, .ref mU, .long (lZ (sm)), .int (iZ (po))]), (mK, ei g 100 KR), (mW, ei g 100 WR), (mT, ei g 100 TR), (mS, ei g 100 SR), (mV, ei g 100 VR), (mM, ez g 100 MR), (mX, ei g 50 XR), (mY, ei g 3 YR), (mI, ei g 101 u.1), (mJ, ei g 101 u.2.1), (mG, ei g 101 u.2.2), (mC, el g 20604 CR), (mR, ei g 20604 RR), (mN, ei g 20604 NR), (mE, ei g 50 ER), (mL, ei g 50 LR), (mB, ei g 50 BR), (mU, ei g 50 UR)]) 0 0 := by
  refine z_beWv (cc := cX6_sumUp) (nL := 3) (plainFor_of_name (by decide +kernel)) rfl (Nat.le_of_ble_eq_true rfl) ?_
  intro X A hC hN hR
  have hC : zC X g cX6_sumUp RX6 wsX6_sumUp rm_X6_sumUp 3 := hC
  show ZG X g (zD X A) 0 0 [(hM, eo 6 [.int (iZ (n)), .ref mK, .ref mW, .ref mT, .ref mS, .ref mV, .ref mM, .ref mX, .ref mY, .ref mI, .ref mJ, .ref mG, .ref mC, .ref mR, .ref mN, .int (iZ (lk)), .int (iZ (bd)), .int (iZ (so)), .long (lZ (dm)), .int (iZ (tt)), .ref mE, .ref mL, .ref mB, .ref mU, .long (lZ (sm)), .int (iZ (po))]), (mK, ei g 100 KR), (mW, ei g 100 WR), (mT, ei g 100 TR), (mS, ei g 100 SR), (mV, ei g 100 VR), (mM, ez g 100 MR), (mX, ei g 50 XR), (mY, ei g 3 YR), (mI, ei g 101 IR), (mJ, ei g 101 JR), (mG, ei g 101 GR), (mC, el g 20604 CR), (mR, ei g 20604 RR), (mN, ei g 20604 NR), (mE, ei g 50 ER), (mL, ei g 50 LR), (mB, ei g 50 BR), (mU, ei g 50 UR)] [(0, .ref hM)] 0 []
  have ⟨hn, hK, hV⟩ := h1
  have hs0 := h3.1
  refine z_iconst hC dX6_sumUp_0 ?_
  refine z_istore_n hC (lv' := [(1, _), (0, _)]) dX6_sumUp_1 rfl (by decide) rfl ?_
  have L2 : ∀ (fu : Nat) (k : Int) (I2 J2 G2 : Int → Int), (0 ≤ k ∧ k ≤ n) → (∀ j, 0 ≤ j → j ≤ k → I2 j = LB j ∧ J2 j = SB j ∧ G2 j = HB j) → (n - k).toNat < fu → ZG X g (zD X A) 0 0 [(hM, eo 6 [.int (iZ (n)), .ref mK, .ref mW, .ref mT, .ref mS, .ref mV, .ref mM, .ref mX, .ref mY, .ref mI, .ref mJ, .ref mG, .ref mC, .ref mR, .ref mN, .int (iZ (lk)), .int (iZ (bd)), .int (iZ (so)), .long (lZ (dm)), .int (iZ (tt)), .ref mE, .ref mL, .ref mB, .ref mU, .long (lZ (sm)), .int (iZ (po))]), (mK, ei g 100 KR), (mW, ei g 100 WR), (mT, ei g 100 TR), (mS, ei g 100 SR), (mV, ei g 100 VR), (mM, ez g 100 MR), (mX, ei g 50 XR), (mY, ei g 3 YR), (mI, ei g 101 I2), (mJ, ei g 101 J2), (mG, ei g 101 G2), (mC, el g 20604 CR), (mR, ei g 20604 RR), (mN, ei g 20604 NR), (mE, ei g 50 ER), (mL, ei g 50 LR), (mB, ei g 50 BR), (mU, ei g 50 UR)] [(1, .int (iZ (k))), (0, .ref hM)] 2 [] := by
    intro fu
    induction fu with
    | zero => intro k I2 J2 G2; intros; omega
    | succ fu ih_2 =>
      intro k I2 J2 G2 hk hs hn
      refine z_iload_n hC 0 dX6_sumUp_2 rfl rfl ?_
      refine z_aload_n hC 1 dX6_sumUp_3 rfl rfl ?_
      refine z_get hC iX6_sumUp_6 0 0 rfl rfl (by decide) mX6_sumUp_f66 rfl dX6_sumUp_4 ?_
      refine z_icmp_ge hC 103 dX6_sumUp_7 (by decide) (by omega) (by omega) (fun c_7 => ?_) (fun c_7 => ?_)
      ·
        exact hR (I2, J2, G2) _ _ _ [0, 1, 2, 3, 4, 5, 6, 7, 8, 9, 10, 11, 12, 13, 14, 15, 16, 17, 18] ⟨fun j g1 g2 => hs j g1 (by omega), by have := hs 0 (by omega) (by omega); show I2 0 = 0 ∧ J2 0 = 0 ∧ G2 0 = 0; omega⟩ (by decide) rfl dX6_sumUp_103
      ·
        have kk := hK k (by omega) (by omega)
        have sk := h2 k (by omega) (by omega)
        refine z_aload_n hC 1 dX6_sumUp_10 rfl rfl ?_
        refine z_get hC iX6_sumUp_6 0 1 rfl rfl (by decide) mX6_sumUp_f7 rfl dX6_sumUp_11 ?_
        refine z_iload_n hC 0 dX6_sumUp_14 rfl rfl ?_
        refine z_iald hC 1 rfl (by omega) (by decide) dX6_sumUp_15 ?_
        refine z_iconst hC dX6_sumUp_16 ?_
        refine z_icmp_eq hC 24 dX6_sumUp_17 (by decide) (by omega) (by omega) (fun c_17 => ?_) (fun c_17 => ?_)
        ·
          refine z_iconst hC dX6_sumUp_24 ?_
          refine z_istore_n hC (lv' := [(2, _), (1, _), (0, _)]) dX6_sumUp_25 rfl (by decide) rfl ?_
          refine z_aload_n hC 2 dX6_sumUp_26 rfl rfl ?_
          refine z_get hC iX6_sumUp_6 0 9 rfl rfl (by decide) mX6_sumUp_f35 rfl dX6_sumUp_27 ?_
          refine z_iload_n hC 1 dX6_sumUp_30 rfl rfl ?_
          refine z_iconst hC dX6_sumUp_31 ?_
          refine z_iadd hC dX6_sumUp_32 ?_
          refine z_aload_n hC 2 dX6_sumUp_33 rfl rfl ?_
          refine z_get hC iX6_sumUp_6 0 9 rfl rfl (by decide) mX6_sumUp_f35 rfl dX6_sumUp_34 ?_
          refine z_iload_n hC 1 dX6_sumUp_37 rfl rfl ?_
          refine z_iald hC 9 rfl (by omega) (by decide) dX6_sumUp_38 ?_
          refine z_iload_n hC 0 dX6_sumUp_39 rfl rfl ?_
          refine z_if_eq hC 52 dX6_sumUp_40 (by decide) (by omega) (fun c_40 => ?_) (fun c_40 => ?_)
          ·
            refine z_iconst hC dX6_sumUp_52 ?_
            refine z_iadd hC dX6_sumUp_53 ?_
            refine z_iast hC 9 rfl (by omega) (by decide) dX6_sumUp_54 (ws' := [_, _, _, _, _, _, _, _, _, _, _, _, _, _, _, _, _, _, _]) rfl ?_
            refine z_aload_n hC 2 dX6_sumUp_55 rfl rfl ?_
            refine z_get hC iX6_sumUp_6 0 10 rfl rfl (by decide) mX6_sumUp_f38 rfl dX6_sumUp_56 ?_
            refine z_iload_n hC 1 dX6_sumUp_59 rfl rfl ?_
            refine z_iconst hC dX6_sumUp_60 ?_
            refine z_iadd hC dX6_sumUp_61 ?_
            refine z_aload_n hC 2 dX6_sumUp_62 rfl rfl ?_
            refine z_get hC iX6_sumUp_6 0 10 rfl rfl (by decide) mX6_sumUp_f38 rfl dX6_sumUp_63 ?_
            refine z_iload_n hC 1 dX6_sumUp_66 rfl rfl ?_
            refine z_iald hC 10 rfl (by omega) (by decide) dX6_sumUp_67 ?_
            refine z_aload_n hC 2 dX6_sumUp_68 rfl rfl ?_
            refine z_get hC iX6_sumUp_6 0 3 rfl rfl (by decide) mX6_sumUp_f16 rfl dX6_sumUp_69 ?_
            refine z_iload_n hC 1 dX6_sumUp_72 rfl rfl ?_
            refine z_iald hC 3 rfl (by omega) (by decide) dX6_sumUp_73 ?_
            refine z_iadd hC dX6_sumUp_74 ?_
            refine z_iast hC 10 rfl (by omega) (by decide) dX6_sumUp_75 (ws' := [_, _, _, _, _, _, _, _, _, _, _, _, _, _, _, _, _, _, _]) rfl ?_
            refine z_aload_n hC 2 dX6_sumUp_76 rfl rfl ?_
            refine z_get hC iX6_sumUp_6 0 11 rfl rfl (by decide) mX6_sumUp_f41 rfl dX6_sumUp_77 ?_
            refine z_iload_n hC 1 dX6_sumUp_80 rfl rfl ?_
            refine z_iconst hC dX6_sumUp_81 ?_
            refine z_iadd hC dX6_sumUp_82 ?_
            refine z_aload_n hC 2 dX6_sumUp_83 rfl rfl ?_
            refine z_get hC iX6_sumUp_6 0 11 rfl rfl (by decide) mX6_sumUp_f41 rfl dX6_sumUp_84 ?_
            refine z_iload_n hC 1 dX6_sumUp_87 rfl rfl ?_
            refine z_iald hC 11 rfl (by omega) (by decide) dX6_sumUp_88 ?_
            refine z_aload_n hC 2 dX6_sumUp_89 rfl rfl ?_
            refine z_get hC iX6_sumUp_6 0 4 rfl rfl (by decide) mX6_sumUp_f19 rfl dX6_sumUp_90 ?_
            refine z_iload_n hC 1 dX6_sumUp_93 rfl rfl ?_
            refine z_iald hC 4 rfl (by omega) (by decide) dX6_sumUp_94 ?_
            refine z_iadd hC dX6_sumUp_95 ?_
            refine z_iast hC 11 rfl (by omega) (by decide) dX6_sumUp_96 (ws' := [_, _, _, _, _, _, _, _, _, _, _, _, _, _, _, _, _, _, _]) rfl ?_
            refine z_iinc hC (lv' := [(1, _), (2, _), (0, _)]) 1 dX6_sumUp_97 rfl (by decide) rfl ?_
            refine z_goto (tgt := 2) hC dX6_sumUp_100 (by decide) ?_
            refine z_lv (lv' := [(1, _), (0, _)]) [0, 2] rfl ?_
            exact ih_2 (k + 1) _ _ _ (by omega) (fun j g1 g2 => by (by_cases e : j = k + 1); (rw [e, uZ_s, uZ_s, uZ_s]; have s1 := h3.2 k (by omega) (by omega); have s2 := hs k (by omega) (by omega); (first | rw [if_pos (by omega)] at s1 | rw [if_neg (by omega)] at s1); omega); (rw [uZ_n _ _ e, uZ_n _ _ e, uZ_n _ _ e]; exact hs j g1 (by omega))) (by omega)
          ·
            exfalso; omega
        ·
          refine z_iconst hC dX6_sumUp_20 ?_
          refine z_goto (tgt := 25) hC dX6_sumUp_21 (by decide) ?_
          refine z_istore_n hC (lv' := [(2, _), (1, _), (0, _)]) dX6_sumUp_25 rfl (by decide) rfl ?_
          refine z_aload_n hC 2 dX6_sumUp_26 rfl rfl ?_
          refine z_get hC iX6_sumUp_6 0 9 rfl rfl (by decide) mX6_sumUp_f35 rfl dX6_sumUp_27 ?_
          refine z_iload_n hC 1 dX6_sumUp_30 rfl rfl ?_
          refine z_iconst hC dX6_sumUp_31 ?_
          refine z_iadd hC dX6_sumUp_32 ?_
          refine z_aload_n hC 2 dX6_sumUp_33 rfl rfl ?_
          refine z_get hC iX6_sumUp_6 0 9 rfl rfl (by decide) mX6_sumUp_f35 rfl dX6_sumUp_34 ?_
          refine z_iload_n hC 1 dX6_sumUp_37 rfl rfl ?_
          refine z_iald hC 9 rfl (by omega) (by decide) dX6_sumUp_38 ?_
          refine z_iload_n hC 0 dX6_sumUp_39 rfl rfl ?_
          refine z_if_eq hC 52 dX6_sumUp_40 (by decide) (by omega) (fun c_40 => ?_) (fun c_40 => ?_)
          ·
            exfalso; omega
          ·
            refine z_aload_n hC 2 dX6_sumUp_43 rfl rfl ?_
            refine z_get hC iX6_sumUp_6 0 2 rfl rfl (by decide) mX6_sumUp_f13 rfl dX6_sumUp_44 ?_
            refine z_iload_n hC 1 dX6_sumUp_47 rfl rfl ?_
            refine z_iald hC 2 rfl (by omega) (by decide) dX6_sumUp_48 ?_
            refine z_goto (tgt := 53) hC dX6_sumUp_49 (by decide) ?_
            refine z_iadd hC dX6_sumUp_53 ?_
            refine z_iast hC 9 rfl (by omega) (by decide) dX6_sumUp_54 (ws' := [_, _, _, _, _, _, _, _, _, _, _, _, _, _, _, _, _, _, _]) rfl ?_
            refine z_aload_n hC 2 dX6_sumUp_55 rfl rfl ?_
            refine z_get hC iX6_sumUp_6 0 10 rfl rfl (by decide) mX6_sumUp_f38 rfl dX6_sumUp_56 ?_
            refine z_iload_n hC 1 dX6_sumUp_59 rfl rfl ?_
            refine z_iconst hC dX6_sumUp_60 ?_
            refine z_iadd hC dX6_sumUp_61 ?_
            refine z_aload_n hC 2 dX6_sumUp_62 rfl rfl ?_
            refine z_get hC iX6_sumUp_6 0 10 rfl rfl (by decide) mX6_sumUp_f38 rfl dX6_sumUp_63 ?_
            refine z_iload_n hC 1 dX6_sumUp_66 rfl rfl ?_
            refine z_iald hC 10 rfl (by omega) (by decide) dX6_sumUp_67 ?_
            refine z_aload_n hC 2 dX6_sumUp_68 rfl rfl ?_
            refine z_get hC iX6_sumUp_6 0 3 rfl rfl (by decide) mX6_sumUp_f16 rfl dX6_sumUp_69 ?_
            refine z_iload_n hC 1 dX6_sumUp_72 rfl rfl ?_
            refine z_iald hC 3 rfl (by omega) (by decide) dX6_sumUp_73 ?_
            refine z_iadd hC dX6_sumUp_74 ?_
            refine z_iast hC 10 rfl (by omega) (by decide) dX6_sumUp_75 (ws' := [_, _, _, _, _, _, _, _, _, _, _, _, _, _, _, _, _, _, _]) rfl ?_
            refine z_aload_n hC 2 dX6_sumUp_76 rfl rfl ?_
            refine z_get hC iX6_sumUp_6 0 11 rfl rfl (by decide) mX6_sumUp_f41 rfl dX6_sumUp_77 ?_
            refine z_iload_n hC 1 dX6_sumUp_80 rfl rfl ?_
            refine z_iconst hC dX6_sumUp_81 ?_
            refine z_iadd hC dX6_sumUp_82 ?_
            refine z_aload_n hC 2 dX6_sumUp_83 rfl rfl ?_
            refine z_get hC iX6_sumUp_6 0 11 rfl rfl (by decide) mX6_sumUp_f41 rfl dX6_sumUp_84 ?_
            refine z_iload_n hC 1 dX6_sumUp_87 rfl rfl ?_
            refine z_iald hC 11 rfl (by omega) (by decide) dX6_sumUp_88 ?_
            refine z_aload_n hC 2 dX6_sumUp_89 rfl rfl ?_
            refine z_get hC iX6_sumUp_6 0 4 rfl rfl (by decide) mX6_sumUp_f19 rfl dX6_sumUp_90 ?_
            refine z_iload_n hC 1 dX6_sumUp_93 rfl rfl ?_
            refine z_iald hC 4 rfl (by omega) (by decide) dX6_sumUp_94 ?_
            refine z_iadd hC dX6_sumUp_95 ?_
            refine z_iast hC 11 rfl (by omega) (by decide) dX6_sumUp_96 (ws' := [_, _, _, _, _, _, _, _, _, _, _, _, _, _, _, _, _, _, _]) rfl ?_
            refine z_iinc hC (lv' := [(1, _), (2, _), (0, _)]) 1 dX6_sumUp_97 rfl (by decide) rfl ?_
            refine z_goto (tgt := 2) hC dX6_sumUp_100 (by decide) ?_
            refine z_lv (lv' := [(1, _), (0, _)]) [0, 2] rfl ?_
            exact ih_2 (k + 1) _ _ _ (by omega) (fun j g1 g2 => by (by_cases e : j = k + 1); (rw [e, uZ_s, uZ_s, uZ_s]; have s1 := h3.2 k (by omega) (by omega); have s2 := hs k (by omega) (by omega); (first | rw [if_pos (by omega)] at s1 | rw [if_neg (by omega)] at s1); omega); (rw [uZ_n _ _ e, uZ_n _ _ e, uZ_n _ _ e]; exact hs j g1 (by omega))) (by omega)
  exact L2 _ 0 _ _ _ (by omega) (fun j g1 g2 => by rw [show j = 0 by omega]; omega) (Nat.lt_succ_self _)
set_option maxRecDepth 20000 in
theorem mX6_isLine_f35 : Cond.fieldLink RX6 35 "BreakSearchModel" "wide" "[I" ∈ wsX6_isLine := by decide +kernel
set_option maxRecDepth 20000 in
theorem iX6_isLine_6 : ∀ w ∈ u_ws RX6 TX6 26, w ∈ wsX6_isLine := by decide +kernel
set_option maxRecDepth 20000 in
theorem mX6_isLine_f29 : Cond.fieldLink RX6 29 "BreakSearchModel" "shapes" "[I" ∈ wsX6_isLine := by decide +kernel
set_option maxRecDepth 20000 in
theorem mX6_isLine_f78 : Cond.fieldLink RX6 78 "BreakSearchModel" "lack" "I" ∈ wsX6_isLine := by decide +kernel
set_option maxRecDepth 20000 in
theorem mX6_isLine_f81 : Cond.fieldLink RX6 81 "BreakSearchModel" "bad" "I" ∈ wsX6_isLine := by decide +kernel
set_option maxRecDepth 20000 in
theorem mX6_isLine_f84 : Cond.fieldLink RX6 84 "BreakSearchModel" "sort" "I" ∈ wsX6_isLine := by decide +kernel
set_option maxRecDepth 20000 in
theorem mX6_isLine_k99 : Cond.constantLong RX6 99 (10) ∈ wsX6_isLine := by decide +kernel
set_option maxRecDepth 20000 in
theorem mX6_isLine_f101 : Cond.fieldLink RX6 101 "BreakSearchModel" "demerit" "J" ∈ wsX6_isLine := by decide +kernel
set_option maxRecDepth 20000 in
theorem mX6_isLine_f32 : Cond.fieldLink RX6 32 "BreakSearchModel" "settings" "[I" ∈ wsX6_isLine := by decide +kernel
set_option maxRecDepth 20000 in
theorem mX6_isLine_f22 : Cond.fieldLink RX6 22 "BreakSearchModel" "values" "[I" ∈ wsX6_isLine := by decide +kernel
set_option maxRecDepth 20000 in
theorem mX6_isLine_k89 : Cond.constantLong RX6 89 (100) ∈ wsX6_isLine := by decide +kernel
set_option maxRecDepth 20000 in
theorem mX6_isLine_k97 : Cond.constantLong RX6 97 (-2) ∈ wsX6_isLine := by decide +kernel
set_option maxRecDepth 20000 in
theorem mX6_isLine_f66 : Cond.fieldLink RX6 66 "BreakSearchModel" "items" "I" ∈ wsX6_isLine := by decide +kernel
set_option maxRecDepth 20000 in
theorem mX6_isLine_k87 : Cond.constantLong RX6 87 (10000) ∈ wsX6_isLine := by decide +kernel
set_option maxRecDepth 20000 in
theorem mX6_isLine_k95 : Cond.constantLong RX6 95 (2) ∈ wsX6_isLine := by decide +kernel
set_option maxRecDepth 20000 in
theorem mX6_isLine_f38 : Cond.fieldLink RX6 38 "BreakSearchModel" "stretchy" "[I" ∈ wsX6_isLine := by decide +kernel
set_option maxRecDepth 20000 in
theorem mX6_isLine_f41 : Cond.fieldLink RX6 41 "BreakSearchModel" "shrinking" "[I" ∈ wsX6_isLine := by decide +kernel
set_option maxRecDepth 20000 in
theorem mX6_isLine_f13 : Cond.fieldLink RX6 13 "BreakSearchModel" "widths" "[I" ∈ wsX6_isLine := by decide +kernel
set_option maxRecDepth 20000 in
theorem mX6_isLine_f7 : Cond.fieldLink RX6 7 "BreakSearchModel" "kinds" "[I" ∈ wsX6_isLine := by decide +kernel
abbrev rm_X6_isLine : Room := { frames := 2, cells := 0, slots := 0, locals := 33 }
set_option maxHeartbeats 4000000 in
set_option maxRecDepth 100000 in
theorem c_X6_isLine (l : Launch) (g : zG) (hM mK mW mT mS mV mM mX mY mI mJ mG mC mR mN mE mL mB mU : Nat) (n lk bd so dm tt sm po : Int) (KR WR TR SR VR MR XR YR IR JR GR CR RR NR ER LR BR UR : Int → Int) (K V P M LB SB HB W T : Int → Int) (a b i ps : Int) (h1 : zCi n K V P M LB SB HB W T) (h2 : zSm n K V P M KR WR VR MR) (h3 : zSu n LB SB HB IR JR GR) (h4 : zSx W T XR YR) (h5 : -1 ≤ a ∧ a < b ∧ b ≤ n) (h6 : 0 ≤ i ∧ i ≤ 49) (h7 : 1 ≤ ps ∧ ps ≤ 3) : zMWi (S := (Int) × (Int) × (Int) × (Int) × (Int)) l yX6_isLine wsX6_isLine rm_X6_isLine g [(hM, eo 6 [.int (iZ (n)), .ref mK, .ref mW, .ref mT, .ref mS, .ref mV, .ref mM, .ref mX, .ref mY, .ref mI, .ref mJ, .ref mG, .ref mC, .ref mR, .ref mN, .int (iZ (lk)), .int (iZ (bd)), .int (iZ (so)), .long (lZ (dm)), .int (iZ (tt)), .ref mE, .ref mL, .ref mB, .ref mU, .long (lZ (sm)), .int (iZ (po))]), (mK, ei g 100 KR), (mW, ei g 100 WR), (mT, ei g 100 TR), (mS, ei g 100 SR), (mV, ei g 100 VR), (mM, ez g 100 MR), (mX, ei g 50 XR), (mY, ei g 3 YR), (mI, ei g 101 IR), (mJ, ei g 101 JR), (mG, ei g 101 GR), (mC, el g 20604 CR), (mR, ei g 20604 RR), (mN, ei g 20604 NR), (mE, ei g 50 ER), (mL, ei g 50 LR), (mB, ei g 50 BR), (mU, ei g 50 UR)] [.ref hM, .int (iZ (a)), .int (iZ (b)), .int (iZ (i)), .int (iZ (ps))] (fun u => u.1 = lLk n K P LB W a b i ∧ (zFl n K P LB SB HB W (if ps = 1 then T 0 else T 1) (if ps = 3 then T 2 else 0) a b i → u.2.2.2.2 = 1 ∧ u.2.1 = lUg n K P LB SB HB W (if ps = 3 then T 2 else 0) a b i ∧ u.2.2.1 = lCl n K P LB SB HB W (if ps = 3 then T 2 else 0) a b i ∧ u.2.2.2.1 = (10 + lUg n K P LB SB HB W (if ps = 3 then T 2 else 0) a b i) * (10 + lUg n K P LB SB HB W (if ps = 3 then T 2 else 0) a b i) + zPen K V n b) ∧ (¬ zFl n K P LB SB HB W (if ps = 1 then T 0 else T 1) (if ps = 3 then T 2 else 0) a b i → u.2.2.2.2 = 0)) (fun u => u.2.2.2.2) (fun u => [(hM, eo 6 [.int (iZ (n)), .ref mK, .ref mW, .ref mT, .ref mS, .ref mV, .ref mM, .ref mX, .ref mY, .ref mI, .ref mJ, .ref mG, .ref mC, .ref mR, .ref mN, .int (iZ (u.1)), .int (iZ (u.2.1)), .int (iZ (u.2.2.1)), .long (lZ (u.2.2.2.1)), .int (iZ (tt)), .ref mE, .ref mL, .ref mB, .ref mU, .long (lZ (sm)), .int (iZ (po))]), (mK, ei g 100 KR), (mW, ei g 100 WR), (mT, ei g 100 TR), (mS, ei g 100 SR), (mV, ei g 100 VR), (mM, ez g 100 MR), (mX, ei g 50 XR), (mY, ei g 3 YR), (mI, ei g 101 IR), (mJ, ei g 101 JR), (mG, ei g 101 GR), (mC, el g 20604 CR), (mR, ei g 20604 RR), (mN, ei g 20604 NR), (mE, ei g 50 ER), (mL, ei g 50 LR), (mB, ei g 50 BR), (mU, ei g 50 UR)]) 0 0 := by
  refine z_beWi (cc := cX6_isLine) (nL := 14) (ret := some .boolean) (plainFor_of_name (by decide +kernel)) rfl (Or.inr ⟨rfl, fun u h => by (by_cases q : zFl n K P LB SB HB W (if ps = 1 then T 0 else T 1) (if ps = 3 then T 2 else 0) a b i); (exact Or.inr (h.2.1 q).1); (exact Or.inl (h.2.2 q))⟩) (Nat.le_of_ble_eq_true rfl) ?_
  intro X A hC hN hR
  have hC : zC X g cX6_isLine RX6 wsX6_isLine rm_X6_isLine 14 := hC
  show ZG X g (zD X A) 0 0 [(hM, eo 6 [.int (iZ (n)), .ref mK, .ref mW, .ref mT, .ref mS, .ref mV, .ref mM, .ref mX, .ref mY, .ref mI, .ref mJ, .ref mG, .ref mC, .ref mR, .ref mN, .int (iZ (lk)), .int (iZ (bd)), .int (iZ (so)), .long (lZ (dm)), .int (iZ (tt)), .ref mE, .ref mL, .ref mB, .ref mU, .long (lZ (sm)), .int (iZ (po))]), (mK, ei g 100 KR), (mW, ei g 100 WR), (mT, ei g 100 TR), (mS, ei g 100 SR), (mV, ei g 100 VR), (mM, ez g 100 MR), (mX, ei g 50 XR), (mY, ei g 3 YR), (mI, ei g 101 IR), (mJ, ei g 101 JR), (mG, ei g 101 GR), (mC, el g 20604 CR), (mR, ei g 20604 RR), (mN, ei g 20604 NR), (mE, ei g 50 ER), (mL, ei g 50 LR), (mB, ei g 50 BR), (mU, ei g 50 UR)] [(0, .ref hM), (1, .int (iZ (a))), (2, .int (iZ (b))), (3, .int (iZ (i))), (4, .int (iZ (ps)))] 0 []
  obtain ⟨hI1, hI2, hI3, hI4⟩ := id h1
  have hn := hI1.1
  have su_b := h3 b (by omega) (by omega)
  have hX := h4.1 i (by omega) (by omega)
  have hWi := hI3 i (by omega) (by omega)
  have hY := h4.2
  have J31 : ∀ (f : Int), f = min (zSt K n a) b → ZG X g (zD X A) 0 0 [(hM, eo 6 [.int (iZ (n)), .ref mK, .ref mW, .ref mT, .ref mS, .ref mV, .ref mM, .ref mX, .ref mY, .ref mI, .ref mJ, .ref mG, .ref mC, .ref mR, .ref mN, .int (iZ (lk)), .int (iZ (bd)), .int (iZ (so)), .long (lZ (dm)), .int (iZ (tt)), .ref mE, .ref mL, .ref mB, .ref mU, .long (lZ (sm)), .int (iZ (po))]), (mK, ei g 100 KR), (mW, ei g 100 WR), (mT, ei g 100 TR), (mS, ei g 100 SR), (mV, ei g 100 VR), (mM, ez g 100 MR), (mX, ei g 50 XR), (mY, ei g 3 YR), (mI, ei g 101 IR), (mJ, ei g 101 JR), (mG, ei g 101 GR), (mC, el g 20604 CR), (mR, ei g 20604 RR), (mN, ei g 20604 NR), (mE, ei g 50 ER), (mL, ei g 50 LR), (mB, ei g 50 BR), (mU, ei g 50 UR)] [(5, .int (iZ (f))), (0, .ref hM), (1, .int (iZ (a))), (2, .int (iZ (b))), (3, .int (iZ (i))), (4, .int (iZ (ps)))] 31 [] := by
    intro f hf
    have hfr := zSt_in (K := K) (n := n) (a := a) (by omega) (by omega)
    have su_f := h3 f (by omega) (by omega)
    have b1 := hI2.1 b (by omega) (by omega)
    have b2 := hI2.1 f (by omega) (by omega)
    have b3 := hI2.2 f b (by omega) (by omega) (by omega)
    have J54 : ∀ (pn : Int), (pn = 1 ∧ b < n ∧ K b = 2) ∨ (pn = 0 ∧ ¬ (b < n ∧ K b = 2)) → ZG X g (zD X A) 0 0 [(hM, eo 6 [.int (iZ (n)), .ref mK, .ref mW, .ref mT, .ref mS, .ref mV, .ref mM, .ref mX, .ref mY, .ref mI, .ref mJ, .ref mG, .ref mC, .ref mR, .ref mN, .int (iZ (lk)), .int (iZ (bd)), .int (iZ (so)), .long (lZ (dm)), .int (iZ (tt)), .ref mE, .ref mL, .ref mB, .ref mU, .long (lZ (sm)), .int (iZ (po))]), (mK, ei g 100 KR), (mW, ei g 100 WR), (mT, ei g 100 TR), (mS, ei g 100 SR), (mV, ei g 100 VR), (mM, ez g 100 MR), (mX, ei g 50 XR), (mY, ei g 3 YR), (mI, ei g 101 IR), (mJ, ei g 101 JR), (mG, ei g 101 GR), (mC, el g 20604 CR), (mR, ei g 20604 RR), (mN, ei g 20604 NR), (mE, ei g 50 ER), (mL, ei g 50 LR), (mB, ei g 50 BR), (mU, ei g 50 UR)] [(5, .int (iZ (f))), (0, .ref hM), (1, .int (iZ (a))), (2, .int (iZ (b))), (3, .int (iZ (i))), (4, .int (iZ (ps)))] 54 [.int (iZ (pn))] := by
      intro pn hpn
      refine z_istore hC (lv' := [(6, _), (5, _), (0, _), (1, _), (2, _), (3, _), (4, _)]) dX6_isLine_54 (by decide) rfl ?_
      refine z_aload_n hC 2 dX6_isLine_56 rfl rfl ?_
      refine z_get hC iX6_isLine_6 0 9 rfl rfl (by decide) mX6_isLine_f35 rfl dX6_isLine_57 ?_
      refine z_iload_n hC 4 dX6_isLine_60 rfl rfl ?_
      refine z_iald hC 9 rfl (by omega) (by decide) dX6_isLine_61 ?_
      refine z_aload_n hC 2 dX6_isLine_62 rfl rfl ?_
      refine z_get hC iX6_isLine_6 0 9 rfl rfl (by decide) mX6_isLine_f35 rfl dX6_isLine_63 ?_
      refine z_iload hC 1 dX6_isLine_66 rfl ?_
      refine z_iald hC 9 rfl (by omega) (by decide) dX6_isLine_68 ?_
      refine z_isub hC dX6_isLine_69 ?_
      have J85 : ∀ (pw : Int), pw = (if 0 ≤ b ∧ b < n ∧ K b = 2 then P b else 0) → ZG X g (zD X A) 0 0 [(hM, eo 6 [.int (iZ (n)), .ref mK, .ref mW, .ref mT, .ref mS, .ref mV, .ref mM, .ref mX, .ref mY, .ref mI, .ref mJ, .ref mG, .ref mC, .ref mR, .ref mN, .int (iZ (lk)), .int (iZ (bd)), .int (iZ (so)), .long (lZ (dm)), .int (iZ (tt)), .ref mE, .ref mL, .ref mB, .ref mU, .long (lZ (sm)), .int (iZ (po))]), (mK, ei g 100 KR), (mW, ei g 100 WR), (mT, ei g 100 TR), (mS, ei g 100 SR), (mV, ei g 100 VR), (mM, ez g 100 MR), (mX, ei g 50 XR), (mY, ei g 3 YR), (mI, ei g 101 IR), (mJ, ei g 101 JR), (mG, ei g 101 GR), (mC, el g 20604 CR), (mR, ei g 20604 RR), (mN, ei g 20604 NR), (mE, ei g 50 ER), (mL, ei g 50 LR), (mB, ei g 50 BR), (mU, ei g 50 UR)] [(6, .int (iZ (pn))), (5, .int (iZ (f))), (0, .ref hM), (1, .int (iZ (a))), (2, .int (iZ (b))), (3, .int (iZ (i))), (4, .int (iZ (ps)))] 85 [.int (iZ (pw)), .int (iZ ((IR b) - (IR f)))] := by
        intro pw hpw
        have hpwr : 0 ≤ pw ∧ pw ≤ 10000 := by rw [hpw]; by_cases q : 0 ≤ b ∧ b < n ∧ K b = 2; rw [if_pos q]; have := hI1.2.2 b (by omega) (by omega) (by omega); omega; rw [if_neg q]; omega
        refine z_iadd hC dX6_isLine_85 ?_
        refine z_istore hC (lv' := [(7, _), (6, _), (5, _), (0, _), (1, _), (2, _), (3, _), (4, _)]) dX6_isLine_86 (by decide) rfl ?_
        refine z_aload_n hC 3 dX6_isLine_88 rfl rfl ?_
        refine z_aload_n hC 3 dX6_isLine_89 rfl rfl ?_
        refine z_get hC iX6_isLine_6 0 7 rfl rfl (by decide) mX6_isLine_f29 rfl dX6_isLine_90 ?_
        refine z_iload_n hC 6 dX6_isLine_93 rfl rfl ?_
        refine z_iald hC 7 rfl (by omega) (by decide) dX6_isLine_94 ?_
        refine z_iload hC 0 dX6_isLine_95 rfl ?_
        refine z_isub hC dX6_isLine_97 ?_
        have hlk : XR i - (IR b - IR f + pw) = lLk n K P LB W a b i := by unfold lLk zLk; rw [← hf, ← hpw]; omega
        have hlr : -1100000 ≤ lLk n K P LB W a b i ∧ lLk n K P LB W a b i ≤ 20000 := by rw [← hlk]; omega
        refine z_top hlk ?_
        clear hlk
        generalize hL : lLk n K P LB W a b i = L at hlr ⊢
        refine z_put hC iX6_isLine_6 tyX6 tyX6_ok nmX6 0 15 rfl rfl (by decide) mX6_isLine_f78 rfl rfl rfl (Nat.le_of_ble_eq_true rfl) dX6_isLine_98 (ws' := [_, _, _, _, _, _, _, _, _, _, _, _, _, _, _, _, _, _, _]) rfl ?_
        refine z_aload_n hC 3 dX6_isLine_101 rfl rfl ?_
        refine z_get hC iX6_isLine_6 0 15 rfl rfl (by decide) mX6_isLine_f78 rfl dX6_isLine_102 ?_
        refine z_i2l hC dX6_isLine_105 (by omega) ?_
        refine z_lstore hC (lv' := [(8, _), (7, _), (6, _), (5, _), (0, _), (1, _), (2, _), (3, _), (4, _)]) dX6_isLine_106 (by decide) rfl ?_
        have J165 : ∀ (s : Int), (L < 0 → s = lSh n K HB a b) ∧ (¬ L < 0 → s = lSt n K SB (if ps = 3 then T 2 else 0) a b) → ZG X g (zD X A) 0 0 [(hM, eo 6 [.int (iZ (n)), .ref mK, .ref mW, .ref mT, .ref mS, .ref mV, .ref mM, .ref mX, .ref mY, .ref mI, .ref mJ, .ref mG, .ref mC, .ref mR, .ref mN, .int (iZ (L)), .int (iZ (bd)), .int (iZ (so)), .long (lZ (dm)), .int (iZ (tt)), .ref mE, .ref mL, .ref mB, .ref mU, .long (lZ (sm)), .int (iZ (po))]), (mK, ei g 100 KR), (mW, ei g 100 WR), (mT, ei g 100 TR), (mS, ei g 100 SR), (mV, ei g 100 VR), (mM, ez g 100 MR), (mX, ei g 50 XR), (mY, ei g 3 YR), (mI, ei g 101 IR), (mJ, ei g 101 JR), (mG, ei g 101 GR), (mC, el g 20604 CR), (mR, ei g 20604 RR), (mN, ei g 20604 NR), (mE, ei g 50 ER), (mL, ei g 50 LR), (mB, ei g 50 BR), (mU, ei g 50 UR)] [(8, .long (lZ (L))), (7, .int (iZ (((IR b) - (IR f)) + pw))), (6, .int (iZ (pn))), (5, .int (iZ (f))), (0, .ref hM), (1, .int (iZ (a))), (2, .int (iZ (b))), (3, .int (iZ (i))), (4, .int (iZ (ps)))] 165 [.long (lZ (s))] := by
          intro s hs
          have hsr : 0 ≤ s ∧ s ≤ 1010000 := by
            by_cases q : L < 0
            · rw [hs.1 q]; unfold lSh; rw [← hf]; omega
            · rw [hs.2 q]; unfold lSt; rw [← hf]; split <;> omega
          refine z_lstore hC (lv' := [(10, _), (8, _), (7, _), (6, _), (5, _), (0, _), (1, _), (2, _), (3, _), (4, _)]) dX6_isLine_165 (by decide) rfl ?_
          refine z_lload hC 1 dX6_isLine_167 rfl ?_
          refine z_lneg hC dX6_isLine_169 ?_
          refine z_lload hC 0 dX6_isLine_170 rfl ?_
          refine z_lc_le hC 178 dX6_isLine_172 dX6_isLine_173 (by decide) (by omega) (by omega) (fun c_172 => ?_) (fun c_172 => ?_)
          ·
            have hok : zOk (lLk n K P LB W a b i) (lSh n K HB a b) := by unfold zOk; rw [hL]; intro q; have := hs.1 q.1; omega
            refine z_aload_n hC 5 dX6_isLine_178 rfl rfl ?_
            refine z_iconst hC dX6_isLine_179 ?_
            refine z_put hC iX6_isLine_6 tyX6 tyX6_ok nmX6 0 16 rfl rfl (by decide) mX6_isLine_f81 rfl rfl rfl (Nat.le_of_ble_eq_true rfl) dX6_isLine_180 (ws' := [_, _, _, _, _, _, _, _, _, _, _, _, _, _, _, _, _, _, _]) rfl ?_
            refine z_aload_n hC 5 dX6_isLine_183 rfl rfl ?_
            refine z_iconst hC dX6_isLine_184 ?_
            refine z_put hC iX6_isLine_6 tyX6 tyX6_ok nmX6 0 17 rfl rfl (by decide) mX6_isLine_f84 rfl rfl rfl (Nat.le_of_ble_eq_true rfl) dX6_isLine_185 (ws' := [_, _, _, _, _, _, _, _, _, _, _, _, _, _, _, _, _, _, _]) rfl ?_
            have J340 : ∀ (bq sq : Int), bq = lUg n K P LB SB HB W (if ps = 3 then T 2 else 0) a b i ∧ sq = lCl n K P LB SB HB W (if ps = 3 then T 2 else 0) a b i → ZG X g (zD X A) 0 0 [(hM, eo 6 [.int (iZ (n)), .ref mK, .ref mW, .ref mT, .ref mS, .ref mV, .ref mM, .ref mX, .ref mY, .ref mI, .ref mJ, .ref mG, .ref mC, .ref mR, .ref mN, .int (iZ (L)), .int (iZ (bq)), .int (iZ (sq)), .long (lZ (dm)), .int (iZ (tt)), .ref mE, .ref mL, .ref mB, .ref mU, .long (lZ (sm)), .int (iZ (po))]), (mK, ei g 100 KR), (mW, ei g 100 WR), (mT, ei g 100 TR), (mS, ei g 100 SR), (mV, ei g 100 VR), (mM, ez g 100 MR), (mX, ei g 50 XR), (mY, ei g 3 YR), (mI, ei g 101 IR), (mJ, ei g 101 JR), (mG, ei g 101 GR), (mC, el g 20604 CR), (mR, ei g 20604 RR), (mN, ei g 20604 NR), (mE, ei g 50 ER), (mL, ei g 50 LR), (mB, ei g 50 BR), (mU, ei g 50 UR)] [(10, .long (lZ (s))), (8, .long (lZ (L))), (7, .int (iZ (((IR b) - (IR f)) + pw))), (6, .int (iZ (pn))), (5, .int (iZ (f))), (0, .ref hM), (1, .int (iZ (a))), (2, .int (iZ (b))), (3, .int (iZ (i))), (4, .int (iZ (ps)))] 340 [] := by
              intro bq sq hb
              have hbr : 0 ≤ bq ∧ bq ≤ 10000 := by rw [hb.1]; exact zUg_in
              refine z_aload_n hC 5 dX6_isLine_340 rfl rfl ?_
              refine z_ldc2 hC (10) mX6_isLine_k99 (by decide) dX6_isLine_341 ?_
              refine z_aload_n hC 5 dX6_isLine_344 rfl rfl ?_
              refine z_get hC iX6_isLine_6 0 16 rfl rfl (by decide) mX6_isLine_f81 rfl dX6_isLine_345 ?_
              refine z_i2l hC dX6_isLine_348 (by omega) ?_
              refine z_ladd hC dX6_isLine_349 ?_
              refine z_ldc2 hC (10) mX6_isLine_k99 (by decide) dX6_isLine_350 ?_
              refine z_aload_n hC 5 dX6_isLine_353 rfl rfl ?_
              refine z_get hC iX6_isLine_6 0 16 rfl rfl (by decide) mX6_isLine_f81 rfl dX6_isLine_354 ?_
              refine z_i2l hC dX6_isLine_357 (by omega) ?_
              refine z_ladd hC dX6_isLine_358 ?_
              refine z_lmul hC dX6_isLine_359 ?_
              refine z_put hC iX6_isLine_6 tyX6 tyX6_ok nmX6 0 18 rfl rfl (by decide) mX6_isLine_f101 rfl rfl rfl (Nat.le_of_ble_eq_true rfl) dX6_isLine_360 (ws' := [_, _, _, _, _, _, _, _, _, _, _, _, _, _, _, _, _, _, _]) rfl ?_
              have J419 : ∀ (dq : Int), dq = (10 + bq) * (10 + bq) + zPen K V n b → ZG X g (zD X A) 0 0 [(hM, eo 6 [.int (iZ (n)), .ref mK, .ref mW, .ref mT, .ref mS, .ref mV, .ref mM, .ref mX, .ref mY, .ref mI, .ref mJ, .ref mG, .ref mC, .ref mR, .ref mN, .int (iZ (L)), .int (iZ (bq)), .int (iZ (sq)), .long (lZ (dq)), .int (iZ (tt)), .ref mE, .ref mL, .ref mB, .ref mU, .long (lZ (sm)), .int (iZ (po))]), (mK, ei g 100 KR), (mW, ei g 100 WR), (mT, ei g 100 TR), (mS, ei g 100 SR), (mV, ei g 100 VR), (mM, ez g 100 MR), (mX, ei g 50 XR), (mY, ei g 3 YR), (mI, ei g 101 IR), (mJ, ei g 101 JR), (mG, ei g 101 GR), (mC, el g 20604 CR), (mR, ei g 20604 RR), (mN, ei g 20604 NR), (mE, ei g 50 ER), (mL, ei g 50 LR), (mB, ei g 50 BR), (mU, ei g 50 UR)] [(10, .long (lZ (s))), (8, .long (lZ (L))), (7, .int (iZ (((IR b) - (IR f)) + pw))), (6, .int (iZ (pn))), (5, .int (iZ (f))), (0, .ref hM), (1, .int (iZ (a))), (2, .int (iZ (b))), (3, .int (iZ (i))), (4, .int (iZ (ps)))] 419 [] := by
                intro dq hdq
                refine z_aload_n hC 5 dX6_isLine_419 rfl rfl ?_
                refine z_get hC iX6_isLine_6 0 16 rfl rfl (by decide) mX6_isLine_f81 rfl dX6_isLine_420 ?_
                refine z_aload_n hC 5 dX6_isLine_423 rfl rfl ?_
                refine z_get hC iX6_isLine_6 0 8 rfl rfl (by decide) mX6_isLine_f32 rfl dX6_isLine_424 ?_
                refine z_iload hC 9 dX6_isLine_427 rfl ?_
                refine z_iconst hC dX6_isLine_429 ?_
                refine z_icmp_ne hC 437 dX6_isLine_430 (by decide) (by omega) (by omega) (fun c_430 => ?_) (fun c_430 => ?_)
                ·
                  refine z_iconst hC dX6_isLine_437 ?_
                  refine z_iald hC 8 rfl (by omega) (by decide) dX6_isLine_438 ?_
                  refine z_icmp_gt hC 446 dX6_isLine_439 (by decide) (by omega) (by omega) (fun c_439 => ?_) (fun c_439 => ?_)
                  ·
                    refine z_iconst hC dX6_isLine_446 ?_
                    exact hR (L, bq, sq, dq, 0) _ _ _ [0, 1, 2, 3, 4, 5, 6, 7, 8, 9, 10, 11, 12, 13, 14, 15, 16, 17, 18] _ ⟨hL.symm, fun q => absurd q.2 (by rw [← hb.1]; first | (rw [if_pos (by omega)]; omega) | (rw [if_neg (by omega)]; omega)), fun _ => rfl⟩ rfl (by decide) rfl dX6_isLine_447
                  ·
                    refine z_iconst hC dX6_isLine_442 ?_
                    refine z_goto (tgt := 447) hC dX6_isLine_443 (by decide) ?_
                    exact hR (L, bq, sq, dq, 1) _ _ _ [0, 1, 2, 3, 4, 5, 6, 7, 8, 9, 10, 11, 12, 13, 14, 15, 16, 17, 18] _ ⟨hL.symm, fun _ => ⟨rfl, hb.1, hb.2, by rw [← hb.1]; exact hdq⟩, fun q => absurd ⟨hok, (by rw [← hb.1]; first | (rw [if_pos (by omega)]; omega) | (rw [if_neg (by omega)]; omega))⟩ q⟩ rfl (by decide) rfl dX6_isLine_447
                ·
                  refine z_iconst hC dX6_isLine_433 ?_
                  refine z_goto (tgt := 438) hC dX6_isLine_434 (by decide) ?_
                  refine z_iald hC 8 rfl (by omega) (by decide) dX6_isLine_438 ?_
                  refine z_icmp_gt hC 446 dX6_isLine_439 (by decide) (by omega) (by omega) (fun c_439 => ?_) (fun c_439 => ?_)
                  ·
                    refine z_iconst hC dX6_isLine_446 ?_
                    exact hR (L, bq, sq, dq, 0) _ _ _ [0, 1, 2, 3, 4, 5, 6, 7, 8, 9, 10, 11, 12, 13, 14, 15, 16, 17, 18] _ ⟨hL.symm, fun q => absurd q.2 (by rw [← hb.1]; first | (rw [if_pos (by omega)]; omega) | (rw [if_neg (by omega)]; omega)), fun _ => rfl⟩ rfl (by decide) rfl dX6_isLine_447
                  ·
                    refine z_iconst hC dX6_isLine_442 ?_
                    refine z_goto (tgt := 447) hC dX6_isLine_443 (by decide) ?_
                    exact hR (L, bq, sq, dq, 1) _ _ _ [0, 1, 2, 3, 4, 5, 6, 7, 8, 9, 10, 11, 12, 13, 14, 15, 16, 17, 18] _ ⟨hL.symm, fun _ => ⟨rfl, hb.1, hb.2, by rw [← hb.1]; exact hdq⟩, fun q => absurd ⟨hok, (by rw [← hb.1]; first | (rw [if_pos (by omega)]; omega) | (rw [if_neg (by omega)]; omega))⟩ q⟩ rfl (by decide) rfl dX6_isLine_447
              refine z_iload hC 3 dX6_isLine_363 rfl ?_
              refine z_if_eq hC 419 dX6_isLine_365 (by decide) (by omega) (fun c_365 => ?_) (fun c_365 => ?_)
              ·
                exact J419 _ (by first | (rw [← zPen_0 (by omega)]; omega) | (rw [(sb.2 (by omega)).1, ← zPen_n (by omega) (by omega)]) | (rw [(sb.2 (by omega)).1, ← zPen_p (by omega) (by omega)]))
              ·
                have sb := h2 b (by omega) (by omega)
                have vb := hI1.2.2 b (by omega) (by omega) (by omega)
                refine z_aload_n hC 5 dX6_isLine_368 rfl rfl ?_
                refine z_get hC iX6_isLine_6 0 5 rfl rfl (by decide) mX6_isLine_f22 rfl dX6_isLine_369 ?_
                refine z_iload_n hC 7 dX6_isLine_372 rfl rfl ?_
                refine z_iald hC 5 rfl (by omega) (by decide) dX6_isLine_373 ?_
                refine z_sip hC dX6_isLine_374 (by decide) ?_
                refine z_icmp_le hC 419 dX6_isLine_377 (by decide) (by omega) (by omega) (fun c_377 => ?_) (fun c_377 => ?_)
                ·
                  exact J419 _ (by first | (rw [← zPen_0 (by omega)]; omega) | (rw [(sb.2 (by omega)).1, ← zPen_n (by omega) (by omega)]) | (rw [(sb.2 (by omega)).1, ← zPen_p (by omega) (by omega)]))
                ·
                  refine z_aload_n hC 5 dX6_isLine_380 rfl rfl ?_
                  refine z_get hC iX6_isLine_6 0 5 rfl rfl (by decide) mX6_isLine_f22 rfl dX6_isLine_381 ?_
                  refine z_iload_n hC 7 dX6_isLine_384 rfl rfl ?_
                  refine z_iald hC 5 rfl (by omega) (by decide) dX6_isLine_385 ?_
                  refine z_i2l hC dX6_isLine_386 (by omega) ?_
                  refine z_lstore hC (lv' := [(12, _), (10, _), (8, _), (7, _), (6, _), (5, _), (0, _), (1, _), (2, _), (3, _), (4, _)]) dX6_isLine_387 (by decide) rfl ?_
                  refine z_aload_n hC 6 dX6_isLine_389 rfl rfl ?_
                  refine z_dup hC dX6_isLine_390 rfl ?_
                  refine z_get hC iX6_isLine_6 0 18 rfl rfl (by decide) mX6_isLine_f101 rfl dX6_isLine_391 ?_
                  refine z_lload hC 0 dX6_isLine_394 rfl ?_
                  refine z_lconst (z := 0) hC dX6_isLine_396 (by decide) ?_
                  refine z_lc_ge hC 410 dX6_isLine_397 dX6_isLine_398 (by decide) (by omega) (by omega) (fun c_397 => ?_) (fun c_397 => ?_)
                  ·
                    refine z_lload hC 0 dX6_isLine_410 rfl ?_
                    refine z_lload hC 0 dX6_isLine_412 rfl ?_
                    refine z_lmul hC dX6_isLine_414 ?_
                    refine z_ladd hC dX6_isLine_415 ?_
                    refine z_put hC iX6_isLine_6 tyX6 tyX6_ok nmX6 0 18 rfl rfl (by decide) mX6_isLine_f101 rfl rfl rfl (Nat.le_of_ble_eq_true rfl) dX6_isLine_416 (ws' := [_, _, _, _, _, _, _, _, _, _, _, _, _, _, _, _, _, _, _]) rfl ?_
                    refine z_lv (lv' := [(10, _), (8, _), (7, _), (6, _), (5, _), (0, _), (1, _), (2, _), (3, _), (4, _)]) [1, 2, 3, 4, 5, 6, 7, 8, 9, 10] rfl ?_
                    exact J419 _ (by first | (rw [← zPen_0 (by omega)]; omega) | (rw [(sb.2 (by omega)).1, ← zPen_n (by omega) (by omega)]) | (rw [(sb.2 (by omega)).1, ← zPen_p (by omega) (by omega)]))
                  ·
                    refine z_lload hC 0 dX6_isLine_401 rfl ?_
                    refine z_lneg hC dX6_isLine_403 ?_
                    refine z_lload hC 0 dX6_isLine_404 rfl ?_
                    refine z_lmul hC dX6_isLine_406 ?_
                    refine z_goto (tgt := 415) hC dX6_isLine_407 (by decide) ?_
                    refine z_ladd hC dX6_isLine_415 ?_
                    refine z_put hC iX6_isLine_6 tyX6 tyX6_ok nmX6 0 18 rfl rfl (by decide) mX6_isLine_f101 rfl rfl rfl (Nat.le_of_ble_eq_true rfl) dX6_isLine_416 (ws' := [_, _, _, _, _, _, _, _, _, _, _, _, _, _, _, _, _, _, _]) rfl ?_
                    refine z_lv (lv' := [(10, _), (8, _), (7, _), (6, _), (5, _), (0, _), (1, _), (2, _), (3, _), (4, _)]) [1, 2, 3, 4, 5, 6, 7, 8, 9, 10] rfl ?_
                    exact J419 _ (by first | (rw [← zPen_0 (by omega)]; omega) | (rw [(sb.2 (by omega)).1, ← zPen_n (by omega) (by omega)]) | (rw [(sb.2 (by omega)).1, ← zPen_p (by omega) (by omega)]))
            refine z_lload hC 1 dX6_isLine_188 rfl ?_
            refine z_lconst (z := 0) hC dX6_isLine_190 (by decide) ?_
            refine z_lc_le hC 291 dX6_isLine_191 dX6_isLine_192 (by decide) (by omega) (by omega) (fun c_191 => ?_) (fun c_191 => ?_)
            ·
              refine z_lload hC 1 dX6_isLine_291 rfl ?_
              refine z_lconst (z := 0) hC dX6_isLine_293 (by decide) ?_
              refine z_lc_ge hC 340 dX6_isLine_294 dX6_isLine_295 (by decide) (by omega) (by omega) (fun c_294 => ?_) (fun c_294 => ?_)
              ·
                exact J340 _ _ (by first | (exfalso; omega) | (exact ⟨by unfold lUg; rw [hL, zUg_w (by omega) (by omega), ← hs.2 (by omega), hv.2.2]; omega, by unfold lCl; rw [hL, zCl_w (by omega) (by omega), ← hs.2 (by omega)]; unfold zWid; (repeat (first | rw [if_pos (by omega)] | rw [if_neg (by omega)]))⟩) | (exact ⟨by unfold lUg; rw [hL, zUg_z (by omega) (by omega)], by unfold lCl; rw [hL, zCl_z (by omega) (by omega)]⟩) | (exact ⟨by unfold lUg; rw [hL, zUg_n (by omega), ← hs.1 (by omega)]; unfold zBad; rw [if_neg (by omega)]; omega, by unfold lCl; rw [hL, zCl_n (by omega), ← hs.1 (by omega)]; (repeat (first | rw [if_pos (by omega)] | rw [if_neg (by omega)]))⟩))
              ·
                have hsh : L < 0 → s ≤ 100000 := fun q => by rw [hs.1 q]; unfold lSh; rw [← hf]; omega
                have hsh2 := hsh (by omega)
                have q1 := cube_in (x := -L) (b := 100000) (by omega) (by omega)
                have q2 := cube_in (x := s) (b := 1010000) (by omega) (by omega)
                have q3 := cube_pos (x := s) (by omega)
                have q4 := zq_in (a := 100 * (-L * -L * -L)) (b := s * s * s) (by omega) (by omega)
                have q5 := zq_100 (x := -L * -L * -L) (y := s * s * s) (by omega) (cube_mono (by omega) (by omega)) (by omega)
                refine z_aload_n hC 5 dX6_isLine_298 rfl rfl ?_
                refine z_ldc2 hC (100) mX6_isLine_k89 (by decide) dX6_isLine_299 ?_
                refine z_lload hC 1 dX6_isLine_302 rfl ?_
                refine z_lneg hC dX6_isLine_304 ?_
                refine z_sRl hC 1 (c_X6_cube (xl X) g _) gX6_isLine_X6_cube rfl hd_X6_cube_s (by decide) ⟨rfl, rfl⟩ [] (by decide) rfl rfl rfl (Nat.le_of_ble_eq_true rfl) dX6_isLine_305 (by decide) ?_
                refine z_lmul hC dX6_isLine_308 ?_
                refine z_lload hC 0 dX6_isLine_309 rfl ?_
                refine z_sRl hC 1 (c_X6_cube (xl X) g _) gX6_isLine_X6_cube rfl hd_X6_cube_s (by decide) ⟨rfl, rfl⟩ [] (by decide) rfl rfl rfl (Nat.le_of_ble_eq_true rfl) dX6_isLine_311 (by decide) ?_
                refine z_ldiv hC dX6_isLine_314 (by omega) (by omega) ?_
                refine z_l2i hC dX6_isLine_315 ?_
                refine z_put hC iX6_isLine_6 tyX6 tyX6_ok nmX6 0 16 rfl rfl (by decide) mX6_isLine_f81 rfl rfl rfl (Nat.le_of_ble_eq_true rfl) dX6_isLine_316 (ws' := [_, _, _, _, _, _, _, _, _, _, _, _, _, _, _, _, _, _, _]) rfl ?_
                refine z_aload_n hC 5 dX6_isLine_319 rfl rfl ?_
                refine z_ldc2 hC (-2) mX6_isLine_k97 (by decide) dX6_isLine_320 ?_
                refine z_lload hC 1 dX6_isLine_323 rfl ?_
                refine z_lmul hC dX6_isLine_325 ?_
                refine z_lload hC 0 dX6_isLine_326 rfl ?_
                refine z_lc_le hC 336 dX6_isLine_328 dX6_isLine_329 (by decide) (by omega) (by omega) (fun c_328 => ?_) (fun c_328 => ?_)
                ·
                  refine z_iconst hC dX6_isLine_336 ?_
                  refine z_put hC iX6_isLine_6 tyX6 tyX6_ok nmX6 0 17 rfl rfl (by decide) mX6_isLine_f84 rfl rfl rfl (Nat.le_of_ble_eq_true rfl) dX6_isLine_337 (ws' := [_, _, _, _, _, _, _, _, _, _, _, _, _, _, _, _, _, _, _]) rfl ?_
                  exact J340 _ _ (by first | (exfalso; omega) | (exact ⟨by unfold lUg; rw [hL, zUg_w (by omega) (by omega), ← hs.2 (by omega), hv.2.2]; omega, by unfold lCl; rw [hL, zCl_w (by omega) (by omega), ← hs.2 (by omega)]; unfold zWid; (repeat (first | rw [if_pos (by omega)] | rw [if_neg (by omega)]))⟩) | (exact ⟨by unfold lUg; rw [hL, zUg_z (by omega) (by omega)], by unfold lCl; rw [hL, zCl_z (by omega) (by omega)]⟩) | (exact ⟨by unfold lUg; rw [hL, zUg_n (by omega), ← hs.1 (by omega)]; unfold zBad; rw [if_neg (by omega)]; omega, by unfold lCl; rw [hL, zCl_n (by omega), ← hs.1 (by omega)]; (repeat (first | rw [if_pos (by omega)] | rw [if_neg (by omega)]))⟩))
                ·
                  refine z_iconst hC dX6_isLine_332 ?_
                  refine z_goto (tgt := 337) hC dX6_isLine_333 (by decide) ?_
                  refine z_put hC iX6_isLine_6 tyX6 tyX6_ok nmX6 0 17 rfl rfl (by decide) mX6_isLine_f84 rfl rfl rfl (Nat.le_of_ble_eq_true rfl) dX6_isLine_337 (ws' := [_, _, _, _, _, _, _, _, _, _, _, _, _, _, _, _, _, _, _]) rfl ?_
                  exact J340 _ _ (by first | (exfalso; omega) | (exact ⟨by unfold lUg; rw [hL, zUg_w (by omega) (by omega), ← hs.2 (by omega), hv.2.2]; omega, by unfold lCl; rw [hL, zCl_w (by omega) (by omega), ← hs.2 (by omega)]; unfold zWid; (repeat (first | rw [if_pos (by omega)] | rw [if_neg (by omega)]))⟩) | (exact ⟨by unfold lUg; rw [hL, zUg_z (by omega) (by omega)], by unfold lCl; rw [hL, zCl_z (by omega) (by omega)]⟩) | (exact ⟨by unfold lUg; rw [hL, zUg_n (by omega), ← hs.1 (by omega)]; unfold zBad; rw [if_neg (by omega)]; omega, by unfold lCl; rw [hL, zCl_n (by omega), ← hs.1 (by omega)]; (repeat (first | rw [if_pos (by omega)] | rw [if_neg (by omega)]))⟩))
            ·
              refine z_iload_n hC 7 dX6_isLine_195 rfl rfl ?_
              refine z_aload_n hC 5 dX6_isLine_196 rfl rfl ?_
              refine z_get hC iX6_isLine_6 0 0 rfl rfl (by decide) mX6_isLine_f66 rfl dX6_isLine_197 ?_
              refine z_icmp_ge hC 291 dX6_isLine_200 (by decide) (by omega) (by omega) (fun c_200 => ?_) (fun c_200 => ?_)
              ·
                refine z_lload hC 1 dX6_isLine_291 rfl ?_
                refine z_lconst (z := 0) hC dX6_isLine_293 (by decide) ?_
                refine z_lc_ge hC 340 dX6_isLine_294 dX6_isLine_295 (by decide) (by omega) (by omega) (fun c_294 => ?_) (fun c_294 => ?_)
                ·
                  exact J340 _ _ (by first | (exfalso; omega) | (exact ⟨by unfold lUg; rw [hL, zUg_w (by omega) (by omega), ← hs.2 (by omega), hv.2.2]; omega, by unfold lCl; rw [hL, zCl_w (by omega) (by omega), ← hs.2 (by omega)]; unfold zWid; (repeat (first | rw [if_pos (by omega)] | rw [if_neg (by omega)]))⟩) | (exact ⟨by unfold lUg; rw [hL, zUg_z (by omega) (by omega)], by unfold lCl; rw [hL, zCl_z (by omega) (by omega)]⟩) | (exact ⟨by unfold lUg; rw [hL, zUg_n (by omega), ← hs.1 (by omega)]; unfold zBad; rw [if_neg (by omega)]; omega, by unfold lCl; rw [hL, zCl_n (by omega), ← hs.1 (by omega)]; (repeat (first | rw [if_pos (by omega)] | rw [if_neg (by omega)]))⟩))
                ·
                  have hsh : L < 0 → s ≤ 100000 := fun q => by rw [hs.1 q]; unfold lSh; rw [← hf]; omega
                  have hsh2 := hsh (by omega)
                  have q1 := cube_in (x := -L) (b := 100000) (by omega) (by omega)
                  have q2 := cube_in (x := s) (b := 1010000) (by omega) (by omega)
                  have q3 := cube_pos (x := s) (by omega)
                  have q4 := zq_in (a := 100 * (-L * -L * -L)) (b := s * s * s) (by omega) (by omega)
                  have q5 := zq_100 (x := -L * -L * -L) (y := s * s * s) (by omega) (cube_mono (by omega) (by omega)) (by omega)
                  refine z_aload_n hC 5 dX6_isLine_298 rfl rfl ?_
                  refine z_ldc2 hC (100) mX6_isLine_k89 (by decide) dX6_isLine_299 ?_
                  refine z_lload hC 1 dX6_isLine_302 rfl ?_
                  refine z_lneg hC dX6_isLine_304 ?_
                  refine z_sRl hC 1 (c_X6_cube (xl X) g _) gX6_isLine_X6_cube rfl hd_X6_cube_s (by decide) ⟨rfl, rfl⟩ [] (by decide) rfl rfl rfl (Nat.le_of_ble_eq_true rfl) dX6_isLine_305 (by decide) ?_
                  refine z_lmul hC dX6_isLine_308 ?_
                  refine z_lload hC 0 dX6_isLine_309 rfl ?_
                  refine z_sRl hC 1 (c_X6_cube (xl X) g _) gX6_isLine_X6_cube rfl hd_X6_cube_s (by decide) ⟨rfl, rfl⟩ [] (by decide) rfl rfl rfl (Nat.le_of_ble_eq_true rfl) dX6_isLine_311 (by decide) ?_
                  refine z_ldiv hC dX6_isLine_314 (by omega) (by omega) ?_
                  refine z_l2i hC dX6_isLine_315 ?_
                  refine z_put hC iX6_isLine_6 tyX6 tyX6_ok nmX6 0 16 rfl rfl (by decide) mX6_isLine_f81 rfl rfl rfl (Nat.le_of_ble_eq_true rfl) dX6_isLine_316 (ws' := [_, _, _, _, _, _, _, _, _, _, _, _, _, _, _, _, _, _, _]) rfl ?_
                  refine z_aload_n hC 5 dX6_isLine_319 rfl rfl ?_
                  refine z_ldc2 hC (-2) mX6_isLine_k97 (by decide) dX6_isLine_320 ?_
                  refine z_lload hC 1 dX6_isLine_323 rfl ?_
                  refine z_lmul hC dX6_isLine_325 ?_
                  refine z_lload hC 0 dX6_isLine_326 rfl ?_
                  refine z_lc_le hC 336 dX6_isLine_328 dX6_isLine_329 (by decide) (by omega) (by omega) (fun c_328 => ?_) (fun c_328 => ?_)
                  ·
                    refine z_iconst hC dX6_isLine_336 ?_
                    refine z_put hC iX6_isLine_6 tyX6 tyX6_ok nmX6 0 17 rfl rfl (by decide) mX6_isLine_f84 rfl rfl rfl (Nat.le_of_ble_eq_true rfl) dX6_isLine_337 (ws' := [_, _, _, _, _, _, _, _, _, _, _, _, _, _, _, _, _, _, _]) rfl ?_
                    exact J340 _ _ (by first | (exfalso; omega) | (exact ⟨by unfold lUg; rw [hL, zUg_w (by omega) (by omega), ← hs.2 (by omega), hv.2.2]; omega, by unfold lCl; rw [hL, zCl_w (by omega) (by omega), ← hs.2 (by omega)]; unfold zWid; (repeat (first | rw [if_pos (by omega)] | rw [if_neg (by omega)]))⟩) | (exact ⟨by unfold lUg; rw [hL, zUg_z (by omega) (by omega)], by unfold lCl; rw [hL, zCl_z (by omega) (by omega)]⟩) | (exact ⟨by unfold lUg; rw [hL, zUg_n (by omega), ← hs.1 (by omega)]; unfold zBad; rw [if_neg (by omega)]; omega, by unfold lCl; rw [hL, zCl_n (by omega), ← hs.1 (by omega)]; (repeat (first | rw [if_pos (by omega)] | rw [if_neg (by omega)]))⟩))
                  ·
                    refine z_iconst hC dX6_isLine_332 ?_
                    refine z_goto (tgt := 337) hC dX6_isLine_333 (by decide) ?_
                    refine z_put hC iX6_isLine_6 tyX6 tyX6_ok nmX6 0 17 rfl rfl (by decide) mX6_isLine_f84 rfl rfl rfl (Nat.le_of_ble_eq_true rfl) dX6_isLine_337 (ws' := [_, _, _, _, _, _, _, _, _, _, _, _, _, _, _, _, _, _, _]) rfl ?_
                    exact J340 _ _ (by first | (exfalso; omega) | (exact ⟨by unfold lUg; rw [hL, zUg_w (by omega) (by omega), ← hs.2 (by omega), hv.2.2]; omega, by unfold lCl; rw [hL, zCl_w (by omega) (by omega), ← hs.2 (by omega)]; unfold zWid; (repeat (first | rw [if_pos (by omega)] | rw [if_neg (by omega)]))⟩) | (exact ⟨by unfold lUg; rw [hL, zUg_z (by omega) (by omega)], by unfold lCl; rw [hL, zCl_z (by omega) (by omega)]⟩) | (exact ⟨by unfold lUg; rw [hL, zUg_n (by omega), ← hs.1 (by omega)]; unfold zBad; rw [if_neg (by omega)]; omega, by unfold lCl; rw [hL, zCl_n (by omega), ← hs.1 (by omega)]; (repeat (first | rw [if_pos (by omega)] | rw [if_neg (by omega)]))⟩))
              ·
                have J231 : ∀ (v : Int), 0 ≤ v ∧ v ≤ 900000000000000000 ∧ zBad L s = min v 10000 → ZG X g (zD X A) 0 0 [(hM, eo 6 [.int (iZ (n)), .ref mK, .ref mW, .ref mT, .ref mS, .ref mV, .ref mM, .ref mX, .ref mY, .ref mI, .ref mJ, .ref mG, .ref mC, .ref mR, .ref mN, .int (iZ (L)), .int (iZ (0)), .int (iZ (1)), .long (lZ (dm)), .int (iZ (tt)), .ref mE, .ref mL, .ref mB, .ref mU, .long (lZ (sm)), .int (iZ (po))]), (mK, ei g 100 KR), (mW, ei g 100 WR), (mT, ei g 100 TR), (mS, ei g 100 SR), (mV, ei g 100 VR), (mM, ez g 100 MR), (mX, ei g 50 XR), (mY, ei g 3 YR), (mI, ei g 101 IR), (mJ, ei g 101 JR), (mG, ei g 101 GR), (mC, el g 20604 CR), (mR, ei g 20604 RR), (mN, ei g 20604 NR), (mE, ei g 50 ER), (mL, ei g 50 LR), (mB, ei g 50 BR), (mU, ei g 50 UR)] [(10, .long (lZ (s))), (8, .long (lZ (L))), (7, .int (iZ (((IR b) - (IR f)) + pw))), (6, .int (iZ (pn))), (5, .int (iZ (f))), (0, .ref hM), (1, .int (iZ (a))), (2, .int (iZ (b))), (3, .int (iZ (i))), (4, .int (iZ (ps)))] 231 [.long (lZ (v))] := by
                  intro v hv
                  refine z_lstore hC (lv' := [(12, _), (10, _), (8, _), (7, _), (6, _), (5, _), (0, _), (1, _), (2, _), (3, _), (4, _)]) dX6_isLine_231 (by decide) rfl ?_
                  refine z_aload_n hC 6 dX6_isLine_233 rfl rfl ?_
                  refine z_lload hC 0 dX6_isLine_234 rfl ?_
                  refine z_ldc2 hC (10000) mX6_isLine_k87 (by decide) dX6_isLine_236 ?_
                  refine z_lc_le hC 249 dX6_isLine_239 dX6_isLine_240 (by decide) (by omega) (by omega) (fun c_239 => ?_) (fun c_239 => ?_)
                  ·
                    refine z_lload hC 0 dX6_isLine_249 rfl ?_
                    refine z_l2i hC dX6_isLine_251 ?_
                    refine z_put hC iX6_isLine_6 tyX6 tyX6_ok nmX6 0 16 rfl rfl (by decide) mX6_isLine_f81 rfl rfl rfl (Nat.le_of_ble_eq_true rfl) dX6_isLine_252 (ws' := [_, _, _, _, _, _, _, _, _, _, _, _, _, _, _, _, _, _, _]) rfl ?_
                    refine z_aload_n hC 6 dX6_isLine_255 rfl rfl ?_
                    refine z_lload hC 2 dX6_isLine_256 rfl ?_
                    refine z_lload hC 1 dX6_isLine_258 rfl ?_
                    refine z_lc_le hC 268 dX6_isLine_260 dX6_isLine_261 (by decide) (by omega) (by omega) (fun c_260 => ?_) (fun c_260 => ?_)
                    ·
                      refine z_ldc2 hC (2) mX6_isLine_k95 (by decide) dX6_isLine_268 ?_
                      refine z_lload hC 2 dX6_isLine_271 rfl ?_
                      refine z_lmul hC dX6_isLine_273 ?_
                      refine z_lload hC 1 dX6_isLine_274 rfl ?_
                      refine z_lc_le hC 284 dX6_isLine_276 dX6_isLine_277 (by decide) (by omega) (by omega) (fun c_276 => ?_) (fun c_276 => ?_)
                      ·
                        refine z_iconst hC dX6_isLine_284 ?_
                        refine z_put hC iX6_isLine_6 tyX6 tyX6_ok nmX6 0 17 rfl rfl (by decide) mX6_isLine_f84 rfl rfl rfl (Nat.le_of_ble_eq_true rfl) dX6_isLine_285 (ws' := [_, _, _, _, _, _, _, _, _, _, _, _, _, _, _, _, _, _, _]) rfl ?_
                        refine z_goto (tgt := 340) hC dX6_isLine_288 (by decide) ?_
                        refine z_lv (lv' := [(10, _), (8, _), (7, _), (6, _), (5, _), (0, _), (1, _), (2, _), (3, _), (4, _)]) [1, 2, 3, 4, 5, 6, 7, 8, 9, 10] rfl ?_
                        exact J340 _ _ (by first | (exfalso; omega) | (exact ⟨by unfold lUg; rw [hL, zUg_w (by omega) (by omega), ← hs.2 (by omega), hv.2.2]; omega, by unfold lCl; rw [hL, zCl_w (by omega) (by omega), ← hs.2 (by omega)]; unfold zWid; (repeat (first | rw [if_pos (by omega)] | rw [if_neg (by omega)]))⟩) | (exact ⟨by unfold lUg; rw [hL, zUg_z (by omega) (by omega)], by unfold lCl; rw [hL, zCl_z (by omega) (by omega)]⟩) | (exact ⟨by unfold lUg; rw [hL, zUg_n (by omega), ← hs.1 (by omega)]; unfold zBad; rw [if_neg (by omega)]; omega, by unfold lCl; rw [hL, zCl_n (by omega), ← hs.1 (by omega)]; (repeat (first | rw [if_pos (by omega)] | rw [if_neg (by omega)]))⟩))
                      ·
                        refine z_iconst hC dX6_isLine_280 ?_
                        refine z_goto (tgt := 285) hC dX6_isLine_281 (by decide) ?_
                        refine z_put hC iX6_isLine_6 tyX6 tyX6_ok nmX6 0 17 rfl rfl (by decide) mX6_isLine_f84 rfl rfl rfl (Nat.le_of_ble_eq_true rfl) dX6_isLine_285 (ws' := [_, _, _, _, _, _, _, _, _, _, _, _, _, _, _, _, _, _, _]) rfl ?_
                        refine z_goto (tgt := 340) hC dX6_isLine_288 (by decide) ?_
                        refine z_lv (lv' := [(10, _), (8, _), (7, _), (6, _), (5, _), (0, _), (1, _), (2, _), (3, _), (4, _)]) [1, 2, 3, 4, 5, 6, 7, 8, 9, 10] rfl ?_
                        exact J340 _ _ (by first | (exfalso; omega) | (exact ⟨by unfold lUg; rw [hL, zUg_w (by omega) (by omega), ← hs.2 (by omega), hv.2.2]; omega, by unfold lCl; rw [hL, zCl_w (by omega) (by omega), ← hs.2 (by omega)]; unfold zWid; (repeat (first | rw [if_pos (by omega)] | rw [if_neg (by omega)]))⟩) | (exact ⟨by unfold lUg; rw [hL, zUg_z (by omega) (by omega)], by unfold lCl; rw [hL, zCl_z (by omega) (by omega)]⟩) | (exact ⟨by unfold lUg; rw [hL, zUg_n (by omega), ← hs.1 (by omega)]; unfold zBad; rw [if_neg (by omega)]; omega, by unfold lCl; rw [hL, zCl_n (by omega), ← hs.1 (by omega)]; (repeat (first | rw [if_pos (by omega)] | rw [if_neg (by omega)]))⟩))
                    ·
                      refine z_iconst hC dX6_isLine_264 ?_
                      refine z_goto (tgt := 285) hC dX6_isLine_265 (by decide) ?_
                      refine z_put hC iX6_isLine_6 tyX6 tyX6_ok nmX6 0 17 rfl rfl (by decide) mX6_isLine_f84 rfl rfl rfl (Nat.le_of_ble_eq_true rfl) dX6_isLine_285 (ws' := [_, _, _, _, _, _, _, _, _, _, _, _, _, _, _, _, _, _, _]) rfl ?_
                      refine z_goto (tgt := 340) hC dX6_isLine_288 (by decide) ?_
                      refine z_lv (lv' := [(10, _), (8, _), (7, _), (6, _), (5, _), (0, _), (1, _), (2, _), (3, _), (4, _)]) [1, 2, 3, 4, 5, 6, 7, 8, 9, 10] rfl ?_
                      exact J340 _ _ (by first | (exfalso; omega) | (exact ⟨by unfold lUg; rw [hL, zUg_w (by omega) (by omega), ← hs.2 (by omega), hv.2.2]; omega, by unfold lCl; rw [hL, zCl_w (by omega) (by omega), ← hs.2 (by omega)]; unfold zWid; (repeat (first | rw [if_pos (by omega)] | rw [if_neg (by omega)]))⟩) | (exact ⟨by unfold lUg; rw [hL, zUg_z (by omega) (by omega)], by unfold lCl; rw [hL, zCl_z (by omega) (by omega)]⟩) | (exact ⟨by unfold lUg; rw [hL, zUg_n (by omega), ← hs.1 (by omega)]; unfold zBad; rw [if_neg (by omega)]; omega, by unfold lCl; rw [hL, zCl_n (by omega), ← hs.1 (by omega)]; (repeat (first | rw [if_pos (by omega)] | rw [if_neg (by omega)]))⟩))
                  ·
                    refine z_sip hC dX6_isLine_243 (by decide) ?_
                    refine z_goto (tgt := 252) hC dX6_isLine_246 (by decide) ?_
                    refine z_put hC iX6_isLine_6 tyX6 tyX6_ok nmX6 0 16 rfl rfl (by decide) mX6_isLine_f81 rfl rfl rfl (Nat.le_of_ble_eq_true rfl) dX6_isLine_252 (ws' := [_, _, _, _, _, _, _, _, _, _, _, _, _, _, _, _, _, _, _]) rfl ?_
                    refine z_aload_n hC 6 dX6_isLine_255 rfl rfl ?_
                    refine z_lload hC 2 dX6_isLine_256 rfl ?_
                    refine z_lload hC 1 dX6_isLine_258 rfl ?_
                    refine z_lc_le hC 268 dX6_isLine_260 dX6_isLine_261 (by decide) (by omega) (by omega) (fun c_260 => ?_) (fun c_260 => ?_)
                    ·
                      refine z_ldc2 hC (2) mX6_isLine_k95 (by decide) dX6_isLine_268 ?_
                      refine z_lload hC 2 dX6_isLine_271 rfl ?_
                      refine z_lmul hC dX6_isLine_273 ?_
                      refine z_lload hC 1 dX6_isLine_274 rfl ?_
                      refine z_lc_le hC 284 dX6_isLine_276 dX6_isLine_277 (by decide) (by omega) (by omega) (fun c_276 => ?_) (fun c_276 => ?_)
                      ·
                        refine z_iconst hC dX6_isLine_284 ?_
                        refine z_put hC iX6_isLine_6 tyX6 tyX6_ok nmX6 0 17 rfl rfl (by decide) mX6_isLine_f84 rfl rfl rfl (Nat.le_of_ble_eq_true rfl) dX6_isLine_285 (ws' := [_, _, _, _, _, _, _, _, _, _, _, _, _, _, _, _, _, _, _]) rfl ?_
                        refine z_goto (tgt := 340) hC dX6_isLine_288 (by decide) ?_
                        refine z_lv (lv' := [(10, _), (8, _), (7, _), (6, _), (5, _), (0, _), (1, _), (2, _), (3, _), (4, _)]) [1, 2, 3, 4, 5, 6, 7, 8, 9, 10] rfl ?_
                        exact J340 _ _ (by first | (exfalso; omega) | (exact ⟨by unfold lUg; rw [hL, zUg_w (by omega) (by omega), ← hs.2 (by omega), hv.2.2]; omega, by unfold lCl; rw [hL, zCl_w (by omega) (by omega), ← hs.2 (by omega)]; unfold zWid; (repeat (first | rw [if_pos (by omega)] | rw [if_neg (by omega)]))⟩) | (exact ⟨by unfold lUg; rw [hL, zUg_z (by omega) (by omega)], by unfold lCl; rw [hL, zCl_z (by omega) (by omega)]⟩) | (exact ⟨by unfold lUg; rw [hL, zUg_n (by omega), ← hs.1 (by omega)]; unfold zBad; rw [if_neg (by omega)]; omega, by unfold lCl; rw [hL, zCl_n (by omega), ← hs.1 (by omega)]; (repeat (first | rw [if_pos (by omega)] | rw [if_neg (by omega)]))⟩))
                      ·
                        refine z_iconst hC dX6_isLine_280 ?_
                        refine z_goto (tgt := 285) hC dX6_isLine_281 (by decide) ?_
                        refine z_put hC iX6_isLine_6 tyX6 tyX6_ok nmX6 0 17 rfl rfl (by decide) mX6_isLine_f84 rfl rfl rfl (Nat.le_of_ble_eq_true rfl) dX6_isLine_285 (ws' := [_, _, _, _, _, _, _, _, _, _, _, _, _, _, _, _, _, _, _]) rfl ?_
                        refine z_goto (tgt := 340) hC dX6_isLine_288 (by decide) ?_
                        refine z_lv (lv' := [(10, _), (8, _), (7, _), (6, _), (5, _), (0, _), (1, _), (2, _), (3, _), (4, _)]) [1, 2, 3, 4, 5, 6, 7, 8, 9, 10] rfl ?_
                        exact J340 _ _ (by first | (exfalso; omega) | (exact ⟨by unfold lUg; rw [hL, zUg_w (by omega) (by omega), ← hs.2 (by omega), hv.2.2]; omega, by unfold lCl; rw [hL, zCl_w (by omega) (by omega), ← hs.2 (by omega)]; unfold zWid; (repeat (first | rw [if_pos (by omega)] | rw [if_neg (by omega)]))⟩) | (exact ⟨by unfold lUg; rw [hL, zUg_z (by omega) (by omega)], by unfold lCl; rw [hL, zCl_z (by omega) (by omega)]⟩) | (exact ⟨by unfold lUg; rw [hL, zUg_n (by omega), ← hs.1 (by omega)]; unfold zBad; rw [if_neg (by omega)]; omega, by unfold lCl; rw [hL, zCl_n (by omega), ← hs.1 (by omega)]; (repeat (first | rw [if_pos (by omega)] | rw [if_neg (by omega)]))⟩))
                    ·
                      refine z_iconst hC dX6_isLine_264 ?_
                      refine z_goto (tgt := 285) hC dX6_isLine_265 (by decide) ?_
                      refine z_put hC iX6_isLine_6 tyX6 tyX6_ok nmX6 0 17 rfl rfl (by decide) mX6_isLine_f84 rfl rfl rfl (Nat.le_of_ble_eq_true rfl) dX6_isLine_285 (ws' := [_, _, _, _, _, _, _, _, _, _, _, _, _, _, _, _, _, _, _]) rfl ?_
                      refine z_goto (tgt := 340) hC dX6_isLine_288 (by decide) ?_
                      refine z_lv (lv' := [(10, _), (8, _), (7, _), (6, _), (5, _), (0, _), (1, _), (2, _), (3, _), (4, _)]) [1, 2, 3, 4, 5, 6, 7, 8, 9, 10] rfl ?_
                      exact J340 _ _ (by first | (exfalso; omega) | (exact ⟨by unfold lUg; rw [hL, zUg_w (by omega) (by omega), ← hs.2 (by omega), hv.2.2]; omega, by unfold lCl; rw [hL, zCl_w (by omega) (by omega), ← hs.2 (by omega)]; unfold zWid; (repeat (first | rw [if_pos (by omega)] | rw [if_neg (by omega)]))⟩) | (exact ⟨by unfold lUg; rw [hL, zUg_z (by omega) (by omega)], by unfold lCl; rw [hL, zCl_z (by omega) (by omega)]⟩) | (exact ⟨by unfold lUg; rw [hL, zUg_n (by omega), ← hs.1 (by omega)]; unfold zBad; rw [if_neg (by omega)]; omega, by unfold lCl; rw [hL, zCl_n (by omega), ← hs.1 (by omega)]; (repeat (first | rw [if_pos (by omega)] | rw [if_neg (by omega)]))⟩))
                refine z_lload hC 0 dX6_isLine_203 rfl ?_
                refine z_lconst (z := 0) hC dX6_isLine_205 (by decide) ?_
                refine z_lc_ne hC 216 dX6_isLine_206 dX6_isLine_207 (by decide) (by omega) (by omega) (fun c_206 => ?_) (fun c_206 => ?_)
                ·
                  have q1 := cube_in (x := L) (b := 20000) (by omega) (by omega)
                  have q2 := cube_in (x := s) (b := 1010000) (by omega) (by omega)
                  have q3 := cube_pos (x := s) (by omega)
                  have q4 := zq_in (a := 100 * (L * L * L)) (b := s * s * s) (by omega) (by omega)
                  refine z_ldc2 hC (100) mX6_isLine_k89 (by decide) dX6_isLine_216 ?_
                  refine z_lload hC 1 dX6_isLine_219 rfl ?_
                  refine z_sRl hC 1 (c_X6_cube (xl X) g _) gX6_isLine_X6_cube rfl hd_X6_cube_s (by decide) ⟨rfl, rfl⟩ [] (by decide) rfl rfl rfl (Nat.le_of_ble_eq_true rfl) dX6_isLine_221 (by decide) ?_
                  refine z_lmul hC dX6_isLine_224 ?_
                  refine z_lload hC 0 dX6_isLine_225 rfl ?_
                  refine z_sRl hC 1 (c_X6_cube (xl X) g _) gX6_isLine_X6_cube rfl hd_X6_cube_s (by decide) ⟨rfl, rfl⟩ [] (by decide) rfl rfl rfl (Nat.le_of_ble_eq_true rfl) dX6_isLine_227 (by decide) ?_
                  refine z_ldiv hC dX6_isLine_230 (by omega) (by omega) ?_
                  exact J231 _ ⟨by omega, by omega, by unfold zBad; first | (rw [if_pos (by omega)]; omega) | (rw [if_neg (by omega)])⟩
                ·
                  refine z_ldc2 hC (10000) mX6_isLine_k87 (by decide) dX6_isLine_210 ?_
                  refine z_goto (tgt := 231) hC dX6_isLine_213 (by decide) ?_
                  exact J231 _ ⟨by omega, by omega, by unfold zBad; first | (rw [if_pos (by omega)]; omega) | (rw [if_neg (by omega)])⟩
          ·
            refine z_iconst hC dX6_isLine_176 ?_
            exact hR (L, bd, so, dm, 0) _ _ _ [0, 1, 2, 3, 4, 5, 6, 7, 8, 9, 10, 11, 12, 13, 14, 15, 16, 17, 18] _ ⟨hL.symm, fun q => absurd q.1 (by unfold zOk; rw [hL]; intro z; have z2 : L < 0 := (by omega); have := hs.1 z2; exact z ⟨z2, by omega⟩), fun _ => rfl⟩ rfl (by decide) rfl dX6_isLine_177
        refine z_lload hC 0 dX6_isLine_108 rfl ?_
        refine z_lconst (z := 0) hC dX6_isLine_110 (by decide) ?_
        refine z_lc_ge hC 133 dX6_isLine_111 dX6_isLine_112 (by decide) (by omega) (by omega) (fun c_111 => ?_) (fun c_111 => ?_)
        ·
          refine z_aload_n hC 4 dX6_isLine_133 rfl rfl ?_
          refine z_get hC iX6_isLine_6 0 10 rfl rfl (by decide) mX6_isLine_f38 rfl dX6_isLine_134 ?_
          refine z_iload_n hC 6 dX6_isLine_137 rfl rfl ?_
          refine z_iald hC 10 rfl (by omega) (by decide) dX6_isLine_138 ?_
          refine z_aload_n hC 4 dX6_isLine_139 rfl rfl ?_
          refine z_get hC iX6_isLine_6 0 10 rfl rfl (by decide) mX6_isLine_f38 rfl dX6_isLine_140 ?_
          refine z_iload hC 3 dX6_isLine_143 rfl ?_
          refine z_iald hC 10 rfl (by omega) (by decide) dX6_isLine_145 ?_
          refine z_isub hC dX6_isLine_146 ?_
          refine z_iload hC 8 dX6_isLine_147 rfl ?_
          refine z_iconst hC dX6_isLine_149 ?_
          refine z_icmp_ne hC 162 dX6_isLine_150 (by decide) (by omega) (by omega) (fun c_150 => ?_) (fun c_150 => ?_)
          ·
            refine z_iconst hC dX6_isLine_162 ?_
            refine z_iadd hC dX6_isLine_163 ?_
            refine z_i2l hC dX6_isLine_164 (by omega) ?_
            exact J165 _ ⟨fun q => by first | (exfalso; omega) | (unfold lSh; rw [← hf]; omega), fun q => by first | (exfalso; omega) | (unfold lSt; rw [← hf, if_pos (by omega)]; omega) | (unfold lSt; rw [← hf, if_neg (by omega)]; omega)⟩
          ·
            refine z_aload_n hC 4 dX6_isLine_153 rfl rfl ?_
            refine z_get hC iX6_isLine_6 0 8 rfl rfl (by decide) mX6_isLine_f32 rfl dX6_isLine_154 ?_
            refine z_iconst hC dX6_isLine_157 ?_
            refine z_iald hC 8 rfl (by omega) (by decide) dX6_isLine_158 ?_
            refine z_goto (tgt := 163) hC dX6_isLine_159 (by decide) ?_
            refine z_iadd hC dX6_isLine_163 ?_
            refine z_i2l hC dX6_isLine_164 (by omega) ?_
            exact J165 _ ⟨fun q => by first | (exfalso; omega) | (unfold lSh; rw [← hf]; omega), fun q => by first | (exfalso; omega) | (unfold lSt; rw [← hf, if_pos (by omega)]; omega) | (unfold lSt; rw [← hf, if_neg (by omega)]; omega)⟩
        ·
          refine z_aload_n hC 4 dX6_isLine_115 rfl rfl ?_
          refine z_get hC iX6_isLine_6 0 11 rfl rfl (by decide) mX6_isLine_f41 rfl dX6_isLine_116 ?_
          refine z_iload_n hC 6 dX6_isLine_119 rfl rfl ?_
          refine z_iald hC 11 rfl (by omega) (by decide) dX6_isLine_120 ?_
          refine z_aload_n hC 4 dX6_isLine_121 rfl rfl ?_
          refine z_get hC iX6_isLine_6 0 11 rfl rfl (by decide) mX6_isLine_f41 rfl dX6_isLine_122 ?_
          refine z_iload hC 3 dX6_isLine_125 rfl ?_
          refine z_iald hC 11 rfl (by omega) (by decide) dX6_isLine_127 ?_
          refine z_isub hC dX6_isLine_128 ?_
          refine z_i2l hC dX6_isLine_129 (by omega) ?_
          refine z_goto (tgt := 165) hC dX6_isLine_130 (by decide) ?_
          exact J165 _ ⟨fun q => by first | (exfalso; omega) | (unfold lSh; rw [← hf]; omega), fun q => by first | (exfalso; omega) | (unfold lSt; rw [← hf, if_pos (by omega)]; omega) | (unfold lSt; rw [← hf, if_neg (by omega)]; omega)⟩
      refine z_iload hC 0 dX6_isLine_70 rfl ?_
      refine z_if_eq hC 84 dX6_isLine_72 (by decide) (by omega) (fun c_72 => ?_) (fun c_72 => ?_)
      ·
        refine z_iconst hC dX6_isLine_84 ?_
        exact J85 _ (by first | (rw [if_pos (by omega)]; exact (sb.2 (by omega)).2.1) | (rw [if_neg (by omega)]))
      ·
        have sb := h2 b (by omega) (by omega)
        refine z_aload_n hC 2 dX6_isLine_75 rfl rfl ?_
        refine z_get hC iX6_isLine_6 0 2 rfl rfl (by decide) mX6_isLine_f13 rfl dX6_isLine_76 ?_
        refine z_iload_n hC 4 dX6_isLine_79 rfl rfl ?_
        refine z_iald hC 2 rfl (by omega) (by decide) dX6_isLine_80 ?_
        refine z_goto (tgt := 85) hC dX6_isLine_81 (by decide) ?_
        exact J85 _ (by first | (rw [if_pos (by omega)]; exact (sb.2 (by omega)).2.1) | (rw [if_neg (by omega)]))
    refine z_iload_n hC 3 dX6_isLine_31 rfl rfl ?_
    refine z_aload_n hC 1 dX6_isLine_32 rfl rfl ?_
    refine z_get hC iX6_isLine_6 0 0 rfl rfl (by decide) mX6_isLine_f66 rfl dX6_isLine_33 ?_
    refine z_icmp_ge hC 53 dX6_isLine_36 (by decide) (by omega) (by omega) (fun c_36 => ?_) (fun c_36 => ?_)
    ·
      refine z_iconst hC dX6_isLine_53 ?_
      exact J54 _ (by omega)
    ·
      have sb := h2 b (by omega) (by omega)
      have kb := hI1.2.1 b (by omega) (by omega)
      refine z_aload_n hC 1 dX6_isLine_39 rfl rfl ?_
      refine z_get hC iX6_isLine_6 0 1 rfl rfl (by decide) mX6_isLine_f7 rfl dX6_isLine_40 ?_
      refine z_iload_n hC 3 dX6_isLine_43 rfl rfl ?_
      refine z_iald hC 1 rfl (by omega) (by decide) dX6_isLine_44 ?_
      refine z_iconst hC dX6_isLine_45 ?_
      refine z_icmp_ne hC 53 dX6_isLine_46 (by decide) (by omega) (by omega) (fun c_46 => ?_) (fun c_46 => ?_)
      ·
        refine z_iconst hC dX6_isLine_53 ?_
        exact J54 _ (by omega)
      ·
        refine z_iconst hC dX6_isLine_49 ?_
        refine z_goto (tgt := 54) hC dX6_isLine_50 (by decide) ?_
        exact J54 _ (by omega)
  refine z_iload_n hC 1 dX6_isLine_0 rfl rfl ?_
  refine z_iconst hC dX6_isLine_1 ?_
  refine z_iadd hC dX6_isLine_2 ?_
  refine z_istore hC (lv' := [(5, _), (0, _), (1, _), (2, _), (3, _), (4, _)]) dX6_isLine_3 (by decide) rfl ?_
  have L5 : ∀ (fu : Nat) (j : Int), (a + 1 ≤ j ∧ j ≤ b) → (0 ≤ a → nb K b j = nb K b (a + 1)) → (a < 0 → j = a + 1) → (b - j).toNat < fu → ZG X g (zD X A) 0 0 [(hM, eo 6 [.int (iZ (n)), .ref mK, .ref mW, .ref mT, .ref mS, .ref mV, .ref mM, .ref mX, .ref mY, .ref mI, .ref mJ, .ref mG, .ref mC, .ref mR, .ref mN, .int (iZ (lk)), .int (iZ (bd)), .int (iZ (so)), .long (lZ (dm)), .int (iZ (tt)), .ref mE, .ref mL, .ref mB, .ref mU, .long (lZ (sm)), .int (iZ (po))]), (mK, ei g 100 KR), (mW, ei g 100 WR), (mT, ei g 100 TR), (mS, ei g 100 SR), (mV, ei g 100 VR), (mM, ez g 100 MR), (mX, ei g 50 XR), (mY, ei g 3 YR), (mI, ei g 101 IR), (mJ, ei g 101 JR), (mG, ei g 101 GR), (mC, el g 20604 CR), (mR, ei g 20604 RR), (mN, ei g 20604 NR), (mE, ei g 50 ER), (mL, ei g 50 LR), (mB, ei g 50 BR), (mU, ei g 50 UR)] [(5, .int (iZ (j))), (0, .ref hM), (1, .int (iZ (a))), (2, .int (iZ (b))), (3, .int (iZ (i))), (4, .int (iZ (ps)))] 5 [] := by
    intro fu
    induction fu with
    | zero => intro j; intros; omega
    | succ fu ih_5 =>
      intro j hj hj2 hj3 hn
      refine z_iload_n hC 2 dX6_isLine_5 rfl rfl ?_
      refine z_if_lt hC 31 dX6_isLine_6 (by decide) (by omega) (fun c_6 => ?_) (fun c_6 => ?_)
      ·
        exact J31 _ (by first | (rw [hj3 (by omega)]; unfold zSt; rw [if_pos (by omega)]; omega) | (rw [← zSt_b (by omega) (by omega), ← hj2 (by omega)]; first | exact (nb_end (by omega)).symm | exact (nb_box (by omega)).symm))
      ·
        refine z_iload hC 0 dX6_isLine_9 rfl ?_
        refine z_iload_n hC 3 dX6_isLine_11 rfl rfl ?_
        refine z_icmp_ge hC 31 dX6_isLine_12 (by decide) (by omega) (by omega) (fun c_12 => ?_) (fun c_12 => ?_)
        ·
          exact J31 _ (by first | (rw [hj3 (by omega)]; unfold zSt; rw [if_pos (by omega)]; omega) | (rw [← zSt_b (by omega) (by omega), ← hj2 (by omega)]; first | exact (nb_end (by omega)).symm | exact (nb_box (by omega)).symm))
        ·
          have sj := h2 j (by omega) (by omega)
          have kj := hI1.2.1 j (by omega) (by omega)
          refine z_aload_n hC 1 dX6_isLine_15 rfl rfl ?_
          refine z_get hC iX6_isLine_6 0 1 rfl rfl (by decide) mX6_isLine_f7 rfl dX6_isLine_16 ?_
          refine z_iload hC 0 dX6_isLine_19 rfl ?_
          refine z_iald hC 1 rfl (by omega) (by decide) dX6_isLine_21 ?_
          refine z_if_eq hC 31 dX6_isLine_22 (by decide) (by omega) (fun c_22 => ?_) (fun c_22 => ?_)
          ·
            exact J31 _ (by first | (rw [hj3 (by omega)]; unfold zSt; rw [if_pos (by omega)]; omega) | (rw [← zSt_b (by omega) (by omega), ← hj2 (by omega)]; first | exact (nb_end (by omega)).symm | exact (nb_box (by omega)).symm))
          ·
            refine z_iinc hC (lv' := [(5, _), (0, _), (1, _), (2, _), (3, _), (4, _)]) 0 dX6_isLine_25 rfl (by decide) rfl ?_
            refine z_goto (tgt := 5) hC dX6_isLine_28 (by decide) ?_
            exact ih_5 (j + 1) (by omega) (fun q => by rw [← nb_go (by omega) (by omega)]; exact hj2 q) (fun q => by omega) (by omega)
  exact L5 _ (a + 1) (by omega) (fun _ => rfl) (fun _ => rfl) (Nat.lt_succ_self _)
set_option maxRecDepth 20000 in
theorem mX6_keep_f48 : Cond.fieldLink RX6 48 "BreakSearchModel" "rest" "[I" ∈ wsX6_keep := by decide +kernel
set_option maxRecDepth 20000 in
theorem iX6_keep_6 : ∀ w ∈ u_ws RX6 TX6 26, w ∈ wsX6_keep := by decide +kernel
set_option maxRecDepth 20000 in
theorem mX6_keep_f44 : Cond.fieldLink RX6 44 "BreakSearchModel" "costs" "[J" ∈ wsX6_keep := by decide +kernel
set_option maxRecDepth 20000 in
theorem mX6_keep_f51 : Cond.fieldLink RX6 51 "BreakSearchModel" "nexts" "[I" ∈ wsX6_keep := by decide +kernel
abbrev rm_X6_keep : Room := { frames := 1, cells := 0, slots := 0, locals := 12 }
set_option maxHeartbeats 4000000 in
set_option maxRecDepth 100000 in
theorem c_X6_keep (l : Launch) (g : zG) (hM mK mW mT mS mV mM mX mY mI mJ mG mC mR mN mE mL mB mU : Nat) (n lk bd so dm tt sm po : Int) (KR WR TR SR VR MR XR YR IR JR GR CR RR NR ER LR BR UR : Int → Int) (e cs ls b : Int) (h1 : 0 ≤ e ∧ e < 20604) (h2 : -1000000000000 ≤ cs ∧ cs ≤ 1000000000000) (h3 : 0 ≤ ls ∧ ls ≤ 100) (h4 : 0 ≤ RR e ∧ RR e ≤ 100) (h5 : ¬ RR e = 0 → -1000000000000 ≤ CR e ∧ CR e ≤ 1000000000000) : zMWv (S := (Int → Int) × (Int → Int) × (Int → Int)) l yX6_keep wsX6_keep rm_X6_keep g [(hM, eo 6 [.int (iZ (n)), .ref mK, .ref mW, .ref mT, .ref mS, .ref mV, .ref mM, .ref mX, .ref mY, .ref mI, .ref mJ, .ref mG, .ref mC, .ref mR, .ref mN, .int (iZ (lk)), .int (iZ (bd)), .int (iZ (so)), .long (lZ (dm)), .int (iZ (tt)), .ref mE, .ref mL, .ref mB, .ref mU, .long (lZ (sm)), .int (iZ (po))]), (mK, ei g 100 KR), (mW, ei g 100 WR), (mT, ei g 100 TR), (mS, ei g 100 SR), (mV, ei g 100 VR), (mM, ez g 100 MR), (mX, ei g 50 XR), (mY, ei g 3 YR), (mI, ei g 101 IR), (mJ, ei g 101 JR), (mG, ei g 101 GR), (mC, el g 20604 CR), (mR, ei g 20604 RR), (mN, ei g 20604 NR), (mE, ei g 50 ER), (mL, ei g 50 LR), (mB, ei g 50 BR), (mU, ei g 50 UR)] [.ref hM, .int (iZ (e)), .long (lZ (cs)), .int (iZ (ls)), .int (iZ (b))] (fun u => ((RR e = 0 ∨ cs < CR e ∨ (cs = CR e ∧ ls < RR e)) ∧ u = (uZ CR e cs, uZ RR e ls, uZ NR e b)) ∨ ((¬ (RR e = 0 ∨ cs < CR e ∨ (cs = CR e ∧ ls < RR e))) ∧ u = (CR, RR, NR))) (fun u => [(hM, eo 6 [.int (iZ (n)), .ref mK, .ref mW, .ref mT, .ref mS, .ref mV, .ref mM, .ref mX, .ref mY, .ref mI, .ref mJ, .ref mG, .ref mC, .ref mR, .ref mN, .int (iZ (lk)), .int (iZ (bd)), .int (iZ (so)), .long (lZ (dm)), .int (iZ (tt)), .ref mE, .ref mL, .ref mB, .ref mU, .long (lZ (sm)), .int (iZ (po))]), (mK, ei g 100 KR), (mW, ei g 100 WR), (mT, ei g 100 TR), (mS, ei g 100 SR), (mV, ei g 100 VR), (mM, ez g 100 MR), (mX, ei g 50 XR), (mY, ei g 3 YR), (mI, ei g 101 IR), (mJ, ei g 101 JR), (mG, ei g 101 GR), (mC, el g 20604 u.1), (mR, ei g 20604 u.2.1), (mN, ei g 20604 u.2.2), (mE, ei g 50 ER), (mL, ei g 50 LR), (mB, ei g 50 BR), (mU, ei g 50 UR)]) 0 0 := by
  refine z_beWv (cc := cX6_keep) (nL := 7) (plainFor_of_name (by decide +kernel)) rfl (Nat.le_of_ble_eq_true rfl) ?_
  intro X A hC hN hR
  have hC : zC X g cX6_keep RX6 wsX6_keep rm_X6_keep 7 := hC
  show ZG X g (zD X A) 0 0 [(hM, eo 6 [.int (iZ (n)), .ref mK, .ref mW, .ref mT, .ref mS, .ref mV, .ref mM, .ref mX, .ref mY, .ref mI, .ref mJ, .ref mG, .ref mC, .ref mR, .ref mN, .int (iZ (lk)), .int (iZ (bd)), .int (iZ (so)), .long (lZ (dm)), .int (iZ (tt)), .ref mE, .ref mL, .ref mB, .ref mU, .long (lZ (sm)), .int (iZ (po))]), (mK, ei g 100 KR), (mW, ei g 100 WR), (mT, ei g 100 TR), (mS, ei g 100 SR), (mV, ei g 100 VR), (mM, ez g 100 MR), (mX, ei g 50 XR), (mY, ei g 3 YR), (mI, ei g 101 IR), (mJ, ei g 101 JR), (mG, ei g 101 GR), (mC, el g 20604 CR), (mR, ei g 20604 RR), (mN, ei g 20604 NR), (mE, ei g 50 ER), (mL, ei g 50 LR), (mB, ei g 50 BR), (mU, ei g 50 UR)] [(0, .ref hM), (1, .int (iZ (e))), (2, .long (lZ (cs))), (4, .int (iZ (ls))), (5, .int (iZ (b)))] 0 []
  refine z_aload_n hC 0 dX6_keep_0 rfl rfl ?_
  refine z_get hC iX6_keep_6 0 13 rfl rfl (by decide) mX6_keep_f48 rfl dX6_keep_1 ?_
  refine z_iload_n hC 1 dX6_keep_4 rfl rfl ?_
  refine z_iald hC 13 rfl (by omega) (by decide) dX6_keep_5 ?_
  refine z_if_eq hC 42 dX6_keep_6 (by decide) (by omega) (fun c_6 => ?_) (fun c_6 => ?_)
  ·
    refine z_iconst hC dX6_keep_42 ?_
    refine z_goto (tgt := 47) hC dX6_keep_43 (by decide) ?_
    refine z_istore hC (lv' := [(6, _), (0, _), (1, _), (2, _), (4, _), (5, _)]) dX6_keep_47 (by decide) rfl ?_
    refine z_iload hC 0 dX6_keep_49 rfl ?_
    refine z_if_eq hC 77 dX6_keep_51 (by decide) (by omega) (fun c_51 => ?_) (fun c_51 => ?_)
    ·
      exfalso; omega
    ·
      refine z_aload_n hC 1 dX6_keep_54 rfl rfl ?_
      refine z_get hC iX6_keep_6 0 12 rfl rfl (by decide) mX6_keep_f44 rfl dX6_keep_55 ?_
      refine z_iload_n hC 2 dX6_keep_58 rfl rfl ?_
      refine z_lload_n hC 3 dX6_keep_59 rfl rfl ?_
      refine z_last hC 12 rfl (by omega) (by decide) dX6_keep_60 (ws' := [_, _, _, _, _, _, _, _, _, _, _, _, _, _, _, _, _, _, _]) rfl ?_
      refine z_aload_n hC 1 dX6_keep_61 rfl rfl ?_
      refine z_get hC iX6_keep_6 0 13 rfl rfl (by decide) mX6_keep_f48 rfl dX6_keep_62 ?_
      refine z_iload_n hC 2 dX6_keep_65 rfl rfl ?_
      refine z_iload hC 4 dX6_keep_66 rfl ?_
      refine z_iast hC 13 rfl (by omega) (by decide) dX6_keep_68 (ws' := [_, _, _, _, _, _, _, _, _, _, _, _, _, _, _, _, _, _, _]) rfl ?_
      refine z_aload_n hC 1 dX6_keep_69 rfl rfl ?_
      refine z_get hC iX6_keep_6 0 14 rfl rfl (by decide) mX6_keep_f51 rfl dX6_keep_70 ?_
      refine z_iload_n hC 2 dX6_keep_73 rfl rfl ?_
      refine z_iload hC 5 dX6_keep_74 rfl ?_
      refine z_iast hC 14 rfl (by omega) (by decide) dX6_keep_76 (ws' := [_, _, _, _, _, _, _, _, _, _, _, _, _, _, _, _, _, _, _]) rfl ?_
      exact hR (uZ CR e cs, uZ RR e ls, uZ NR e b) _ _ _ [0, 1, 2, 3, 4, 5, 6, 7, 8, 9, 10, 11, 12, 13, 14, 15, 16, 17, 18] (by first | exact Or.inl ⟨by omega, rfl⟩ | exact Or.inr ⟨by omega, rfl⟩) (by decide) rfl dX6_keep_77
  ·
    have h5e := h5 (by omega)
    refine z_lload_n hC 2 dX6_keep_9 rfl rfl ?_
    refine z_aload_n hC 0 dX6_keep_10 rfl rfl ?_
    refine z_get hC iX6_keep_6 0 12 rfl rfl (by decide) mX6_keep_f44 rfl dX6_keep_11 ?_
    refine z_iload_n hC 1 dX6_keep_14 rfl rfl ?_
    refine z_lald hC 12 rfl (by omega) (by decide) dX6_keep_15 ?_
    refine z_lc_lt hC 42 dX6_keep_16 dX6_keep_17 (by decide) (by omega) (by omega) (fun c_16 => ?_) (fun c_16 => ?_)
    ·
      refine z_iconst hC dX6_keep_42 ?_
      refine z_goto (tgt := 47) hC dX6_keep_43 (by decide) ?_
      refine z_istore hC (lv' := [(6, _), (0, _), (1, _), (2, _), (4, _), (5, _)]) dX6_keep_47 (by decide) rfl ?_
      refine z_iload hC 0 dX6_keep_49 rfl ?_
      refine z_if_eq hC 77 dX6_keep_51 (by decide) (by omega) (fun c_51 => ?_) (fun c_51 => ?_)
      ·
        exfalso; omega
      ·
        refine z_aload_n hC 1 dX6_keep_54 rfl rfl ?_
        refine z_get hC iX6_keep_6 0 12 rfl rfl (by decide) mX6_keep_f44 rfl dX6_keep_55 ?_
        refine z_iload_n hC 2 dX6_keep_58 rfl rfl ?_
        refine z_lload_n hC 3 dX6_keep_59 rfl rfl ?_
        refine z_last hC 12 rfl (by omega) (by decide) dX6_keep_60 (ws' := [_, _, _, _, _, _, _, _, _, _, _, _, _, _, _, _, _, _, _]) rfl ?_
        refine z_aload_n hC 1 dX6_keep_61 rfl rfl ?_
        refine z_get hC iX6_keep_6 0 13 rfl rfl (by decide) mX6_keep_f48 rfl dX6_keep_62 ?_
        refine z_iload_n hC 2 dX6_keep_65 rfl rfl ?_
        refine z_iload hC 4 dX6_keep_66 rfl ?_
        refine z_iast hC 13 rfl (by omega) (by decide) dX6_keep_68 (ws' := [_, _, _, _, _, _, _, _, _, _, _, _, _, _, _, _, _, _, _]) rfl ?_
        refine z_aload_n hC 1 dX6_keep_69 rfl rfl ?_
        refine z_get hC iX6_keep_6 0 14 rfl rfl (by decide) mX6_keep_f51 rfl dX6_keep_70 ?_
        refine z_iload_n hC 2 dX6_keep_73 rfl rfl ?_
        refine z_iload hC 5 dX6_keep_74 rfl ?_
        refine z_iast hC 14 rfl (by omega) (by decide) dX6_keep_76 (ws' := [_, _, _, _, _, _, _, _, _, _, _, _, _, _, _, _, _, _, _]) rfl ?_
        exact hR (uZ CR e cs, uZ RR e ls, uZ NR e b) _ _ _ [0, 1, 2, 3, 4, 5, 6, 7, 8, 9, 10, 11, 12, 13, 14, 15, 16, 17, 18] (by first | exact Or.inl ⟨by omega, rfl⟩ | exact Or.inr ⟨by omega, rfl⟩) (by decide) rfl dX6_keep_77
    ·
      refine z_lload_n hC 2 dX6_keep_20 rfl rfl ?_
      refine z_aload_n hC 0 dX6_keep_21 rfl rfl ?_
      refine z_get hC iX6_keep_6 0 12 rfl rfl (by decide) mX6_keep_f44 rfl dX6_keep_22 ?_
      refine z_iload_n hC 1 dX6_keep_25 rfl rfl ?_
      refine z_lald hC 12 rfl (by omega) (by decide) dX6_keep_26 ?_
      refine z_lc_ne hC 46 dX6_keep_27 dX6_keep_28 (by decide) (by omega) (by omega) (fun c_27 => ?_) (fun c_27 => ?_)
      ·
        refine z_iconst hC dX6_keep_46 ?_
        refine z_istore hC (lv' := [(6, _), (0, _), (1, _), (2, _), (4, _), (5, _)]) dX6_keep_47 (by decide) rfl ?_
        refine z_iload hC 0 dX6_keep_49 rfl ?_
        refine z_if_eq hC 77 dX6_keep_51 (by decide) (by omega) (fun c_51 => ?_) (fun c_51 => ?_)
        ·
          exact hR (CR, RR, NR) _ _ _ [0, 1, 2, 3, 4, 5, 6, 7, 8, 9, 10, 11, 12, 13, 14, 15, 16, 17, 18] (by first | exact Or.inl ⟨by omega, rfl⟩ | exact Or.inr ⟨by omega, rfl⟩) (by decide) rfl dX6_keep_77
        ·
          exfalso; omega
      ·
        refine z_iload hC 3 dX6_keep_31 rfl ?_
        refine z_aload_n hC 0 dX6_keep_33 rfl rfl ?_
        refine z_get hC iX6_keep_6 0 13 rfl rfl (by decide) mX6_keep_f48 rfl dX6_keep_34 ?_
        refine z_iload_n hC 1 dX6_keep_37 rfl rfl ?_
        refine z_iald hC 13 rfl (by omega) (by decide) dX6_keep_38 ?_
        refine z_icmp_ge hC 46 dX6_keep_39 (by decide) (by omega) (by omega) (fun c_39 => ?_) (fun c_39 => ?_)
        ·
          refine z_iconst hC dX6_keep_46 ?_
          refine z_istore hC (lv' := [(6, _), (0, _), (1, _), (2, _), (4, _), (5, _)]) dX6_keep_47 (by decide) rfl ?_
          refine z_iload hC 0 dX6_keep_49 rfl ?_
          refine z_if_eq hC 77 dX6_keep_51 (by decide) (by omega) (fun c_51 => ?_) (fun c_51 => ?_)
          ·
            exact hR (CR, RR, NR) _ _ _ [0, 1, 2, 3, 4, 5, 6, 7, 8, 9, 10, 11, 12, 13, 14, 15, 16, 17, 18] (by first | exact Or.inl ⟨by omega, rfl⟩ | exact Or.inr ⟨by omega, rfl⟩) (by decide) rfl dX6_keep_77
          ·
            exfalso; omega
        ·
          refine z_iconst hC dX6_keep_42 ?_
          refine z_goto (tgt := 47) hC dX6_keep_43 (by decide) ?_
          refine z_istore hC (lv' := [(6, _), (0, _), (1, _), (2, _), (4, _), (5, _)]) dX6_keep_47 (by decide) rfl ?_
          refine z_iload hC 0 dX6_keep_49 rfl ?_
          refine z_if_eq hC 77 dX6_keep_51 (by decide) (by omega) (fun c_51 => ?_) (fun c_51 => ?_)
          ·
            exfalso; omega
          ·
            refine z_aload_n hC 1 dX6_keep_54 rfl rfl ?_
            refine z_get hC iX6_keep_6 0 12 rfl rfl (by decide) mX6_keep_f44 rfl dX6_keep_55 ?_
            refine z_iload_n hC 2 dX6_keep_58 rfl rfl ?_
            refine z_lload_n hC 3 dX6_keep_59 rfl rfl ?_
            refine z_last hC 12 rfl (by omega) (by decide) dX6_keep_60 (ws' := [_, _, _, _, _, _, _, _, _, _, _, _, _, _, _, _, _, _, _]) rfl ?_
            refine z_aload_n hC 1 dX6_keep_61 rfl rfl ?_
            refine z_get hC iX6_keep_6 0 13 rfl rfl (by decide) mX6_keep_f48 rfl dX6_keep_62 ?_
            refine z_iload_n hC 2 dX6_keep_65 rfl rfl ?_
            refine z_iload hC 4 dX6_keep_66 rfl ?_
            refine z_iast hC 13 rfl (by omega) (by decide) dX6_keep_68 (ws' := [_, _, _, _, _, _, _, _, _, _, _, _, _, _, _, _, _, _, _]) rfl ?_
            refine z_aload_n hC 1 dX6_keep_69 rfl rfl ?_
            refine z_get hC iX6_keep_6 0 14 rfl rfl (by decide) mX6_keep_f51 rfl dX6_keep_70 ?_
            refine z_iload_n hC 2 dX6_keep_73 rfl rfl ?_
            refine z_iload hC 5 dX6_keep_74 rfl ?_
            refine z_iast hC 14 rfl (by omega) (by decide) dX6_keep_76 (ws' := [_, _, _, _, _, _, _, _, _, _, _, _, _, _, _, _, _, _, _]) rfl ?_
            exact hR (uZ CR e cs, uZ RR e ls, uZ NR e b) _ _ _ [0, 1, 2, 3, 4, 5, 6, 7, 8, 9, 10, 11, 12, 13, 14, 15, 16, 17, 18] (by first | exact Or.inl ⟨by omega, rfl⟩ | exact Or.inr ⟨by omega, rfl⟩) (by decide) rfl dX6_keep_77
