theorem zDm_t {n : Int} {K V M : Int → Int} {a b ug : Int} (h : (0 ≤ a ∧ a < n ∧ K a = 2 ∧ M a = 1) ∧ (0 ≤ b ∧ b < n ∧ K b = 2 ∧ M b = 1)) : (10 + ug) * (10 + ug) + zPen K V n b + 3000 = zDm n K V M a b ug := by unfold zDm; rw [if_pos h]
theorem zDm_f {n : Int} {K V M : Int → Int} {a b ug : Int} (h : ¬ ((0 ≤ a ∧ a < n ∧ K a = 2 ∧ M a = 1) ∧ (0 ≤ b ∧ b < n ∧ K b = 2 ∧ M b = 1))) : (10 + ug) * (10 + ug) + zPen K V n b = zDm n K V M a b ug := by unfold zDm; rw [if_neg h]; omega
theorem nf_RX3_53 : (RX3, 53, "BreakSearch$Items", "count", "I", "BreakSearch") ∈ zNF := by decide +kernel
theorem hd_X3_cellOf_s : yX3_cellOf.cls ≠ "java/lang/invoke/MethodHandle" ∧ yX3_cellOf.cls ≠ "java/lang/invoke/VarHandle" ∧ (parseMethodDescriptor yX3_cellOf.desc).map (fun d => d.parameters.length) = some 3 := by decide +kernel
theorem nf_RX3_126 : (RX3, 126, "BreakSearch$Line", "ugliness", "I", "BreakSearch") ∈ zNF := by decide +kernel
theorem nm_RX3_129 : (RX3, 129, yX0_penaltyDemerits, "BreakSearch") ∈ zNM := by decide +kernel
theorem hd_X0_penaltyDemerits_s : yX0_penaltyDemerits.cls ≠ "java/lang/invoke/MethodHandle" ∧ yX0_penaltyDemerits.cls ≠ "java/lang/invoke/VarHandle" ∧ (parseMethodDescriptor yX0_penaltyDemerits.desc).map (fun d => d.parameters.length) = some 1 := by decide +kernel
theorem nm_RX3_133 : (RX3, 133, yX0_isMarked, "BreakSearch") ∈ zNM := by decide +kernel
theorem hd_X0_isMarked_s : yX0_isMarked.cls ≠ "java/lang/invoke/MethodHandle" ∧ yX0_isMarked.cls ≠ "java/lang/invoke/VarHandle" ∧ (parseMethodDescriptor yX0_isMarked.desc).map (fun d => d.parameters.length) = some 1 := by decide +kernel
theorem nf_RX3_109 : (RX3, 109, "BreakSearch$Line", "looks", "I", "BreakSearch") ∈ zNF := by decide +kernel
theorem hd_X3_demeritsOfLine_v : yX3_demeritsOfLine.cls = RX3 ∧ yX3_demeritsOfLine.cls ≠ "java/lang/invoke/MethodHandle" ∧ yX3_demeritsOfLine.cls ≠ "java/lang/invoke/VarHandle" ∧ (parseMethodDescriptor yX3_demeritsOfLine.desc).map (fun d => d.parameters.length) = some 2 := by decide +kernel
theorem nm_RX3_118 : (RX3, 118, yX1_isUnlike, "BreakSearch") ∈ zNM := by decide +kernel
theorem hd_X1_isUnlike_s : yX1_isUnlike.cls ≠ "java/lang/invoke/MethodHandle" ∧ yX1_isUnlike.cls ≠ "java/lang/invoke/VarHandle" ∧ (parseMethodDescriptor yX1_isUnlike.desc).map (fun d => d.parameters.length) = some 2 := by decide +kernel
theorem nm_RX3_83 : (RX3, 83, yX2_toleranceIn, "BreakSearch") ∈ zNM := by decide +kernel
theorem hd_X2_toleranceIn_s : yX2_toleranceIn.cls ≠ "java/lang/invoke/MethodHandle" ∧ yX2_toleranceIn.cls ≠ "java/lang/invoke/VarHandle" ∧ (parseMethodDescriptor yX2_toleranceIn.desc).map (fun d => d.parameters.length) = some 1 := by decide +kernel
theorem nm_RX3_86 : (RX3, 86, yX2_moreStretchIn, "BreakSearch") ∈ zNM := by decide +kernel
theorem hd_X2_moreStretchIn_s : yX2_moreStretchIn.cls ≠ "java/lang/invoke/MethodHandle" ∧ yX2_moreStretchIn.cls ≠ "java/lang/invoke/VarHandle" ∧ (parseMethodDescriptor yX2_moreStretchIn.desc).map (fun d => d.parameters.length) = some 1 := by decide +kernel
theorem nm_RX3_103 : (RX3, 103, yX1_isToleratedBy, "BreakSearch") ∈ zNM := by decide +kernel
theorem hd_X1_isToleratedBy_s : yX1_isToleratedBy.cls ≠ "java/lang/invoke/MethodHandle" ∧ yX1_isToleratedBy.cls ≠ "java/lang/invoke/VarHandle" ∧ (parseMethodDescriptor yX1_isToleratedBy.desc).map (fun d => d.parameters.length) = some 1 := by decide +kernel
theorem hd_X3_enterLine_v : yX3_enterLine.cls = RX3 ∧ yX3_enterLine.cls ≠ "java/lang/invoke/MethodHandle" ∧ yX3_enterLine.cls ≠ "java/lang/invoke/VarHandle" ∧ (parseMethodDescriptor yX3_enterLine.desc).map (fun d => d.parameters.length) = some 3 := by decide +kernel
theorem nf_RX3_95 : (RX3, 95, "BreakSearch$Rules", "widths", "[I", "BreakSearch") ∈ zNF := by decide +kernel
theorem nm_RX3_99 : (RX3, 99, yX1_measure, "BreakSearch") ∈ zNM := by decide +kernel
theorem hd_X1_measure_s : yX1_measure.cls ≠ "java/lang/invoke/MethodHandle" ∧ yX1_measure.cls ≠ "java/lang/invoke/VarHandle" ∧ (parseMethodDescriptor yX1_measure.desc).map (fun d => d.parameters.length) = some 5 := by decide +kernel
theorem nm_RX3_72 : (RX3, 72, yX0_startBehind, "BreakSearch") ∈ zNM := by decide +kernel
theorem hd_X0_startBehind_s : yX0_startBehind.cls ≠ "java/lang/invoke/MethodHandle" ∧ yX0_startBehind.cls ≠ "java/lang/invoke/VarHandle" ∧ (parseMethodDescriptor yX0_startBehind.desc).map (fun d => d.parameters.length) = some 1 := by decide +kernel
theorem nm_RX3_80 : (RX3, 80, yX0_hasToBreakAt, "BreakSearch") ∈ zNM := by decide +kernel
theorem hd_X0_hasToBreakAt_s : yX0_hasToBreakAt.cls ≠ "java/lang/invoke/MethodHandle" ∧ yX0_hasToBreakAt.cls ≠ "java/lang/invoke/VarHandle" ∧ (parseMethodDescriptor yX0_hasToBreakAt.desc).map (fun d => d.parameters.length) = some 1 := by decide +kernel
theorem nm_RX3_58 : (RX3, 58, yX0_mayBreakAt, "BreakSearch") ∈ zNM := by decide +kernel
theorem hd_X0_mayBreakAt_s : yX0_mayBreakAt.cls ≠ "java/lang/invoke/MethodHandle" ∧ yX0_mayBreakAt.cls ≠ "java/lang/invoke/VarHandle" ∧ (parseMethodDescriptor yX0_mayBreakAt.desc).map (fun d => d.parameters.length) = some 2 := by decide +kernel
theorem hd_X3_tryLine_v : yX3_tryLine.cls = RX3 ∧ yX3_tryLine.cls ≠ "java/lang/invoke/MethodHandle" ∧ yX3_tryLine.cls ≠ "java/lang/invoke/VarHandle" ∧ (parseMethodDescriptor yX3_tryLine.desc).map (fun d => d.parameters.length) = some 3 := by decide +kernel
theorem hd_X3_closeAll_v : yX3_closeAll.cls = RX3 ∧ yX3_closeAll.cls ≠ "java/lang/invoke/MethodHandle" ∧ yX3_closeAll.cls ≠ "java/lang/invoke/VarHandle" ∧ (parseMethodDescriptor yX3_closeAll.desc).map (fun d => d.parameters.length) = some 0 := by decide +kernel
theorem hd_X3_openEnd_v : yX3_openEnd.cls = RX3 ∧ yX3_openEnd.cls ≠ "java/lang/invoke/MethodHandle" ∧ yX3_openEnd.cls ≠ "java/lang/invoke/VarHandle" ∧ (parseMethodDescriptor yX3_openEnd.desc).map (fun d => d.parameters.length) = some 1 := by decide +kernel
theorem nm_RX3_47 : (RX3, 47, yX2_breaksAtMarksIn, "BreakSearch") ∈ zNM := by decide +kernel
theorem hd_X2_breaksAtMarksIn_s : yX2_breaksAtMarksIn.cls ≠ "java/lang/invoke/MethodHandle" ∧ yX2_breaksAtMarksIn.cls ≠ "java/lang/invoke/VarHandle" ∧ (parseMethodDescriptor yX2_breaksAtMarksIn.desc).map (fun d => d.parameters.length) = some 1 := by decide +kernel
theorem hd_X3_tryLinesBehind_v : yX3_tryLinesBehind.cls = RX3 ∧ yX3_tryLinesBehind.cls ≠ "java/lang/invoke/MethodHandle" ∧ yX3_tryLinesBehind.cls ≠ "java/lang/invoke/VarHandle" ∧ (parseMethodDescriptor yX3_tryLinesBehind.desc).map (fun d => d.parameters.length) = some 2 := by decide +kernel
abbrev rm_J9_floorDiv_f86c9 : Room := { frames := 1, cells := 0, slots := 0, locals := 12 }
set_option maxHeartbeats 4000000 in
set_option maxRecDepth 100000 in
theorem c_J9_floorDiv_f86c9 (l : Launch) (g : zG) (a : Int) (h1 : -1000000000000 ≤ a ∧ a ≤ 1000000000000) : zMRl l yJ9_floorDiv_f86c9 wsJ9_floorDiv_f86c9 rm_J9_floorDiv_f86c9 g [] [.long (lZ (a)), .long (lZ (64))] (a / 64) := by
  refine z_beRl (cc := cJ9_floorDiv_f86c9) (nL := 6) (by decide +kernel) rfl (Nat.le_of_ble_eq_true rfl) ?_
  intro X hC hR
  have hC : zC X g cJ9_floorDiv_f86c9 RJ9 wsJ9_floorDiv_f86c9 rm_J9_floorDiv_f86c9 6 := hC
  show ZG X g (zE X) 0 0 [] [(0, .long (lZ (a))), (2, .long (lZ (64)))] 0 []
  refine z_lload_n hC 0 dJ9_floorDiv_f86c9_0 rfl rfl ?_
  refine z_lload_n hC 1 dJ9_floorDiv_f86c9_1 rfl rfl ?_
  refine z_ldiv hC dJ9_floorDiv_f86c9_2 (by omega) (by omega) ?_
  refine z_lstore hC (lv' := [(4, _), (0, _), (2, _)]) dJ9_floorDiv_f86c9_3 (by decide) rfl ?_
  refine z_lload_n hC 1 dJ9_floorDiv_f86c9_5 rfl rfl ?_
  refine z_lload_n hC 2 dJ9_floorDiv_f86c9_6 rfl rfl ?_
  refine z_lxor64 hC dJ9_floorDiv_f86c9_7 (by omega) (fun v_7 r_7 g_7 => ?_)
  refine z_lconst (z := 0) hC dJ9_floorDiv_f86c9_8 (by decide) ?_
  refine z_lc_ge hC 27 dJ9_floorDiv_f86c9_9 dJ9_floorDiv_f86c9_10 (by decide) (by omega) (by omega) (fun c_9 => ?_) (fun c_9 => ?_)
  ·
    refine z_lload hC 0 dJ9_floorDiv_f86c9_27 rfl ?_
    exact hR _ _ _ _ (by rw [tdiv64] at *; split at * <;> omega) dJ9_floorDiv_f86c9_29
  ·
    refine z_lload hC 0 dJ9_floorDiv_f86c9_13 rfl ?_
    refine z_lload_n hC 2 dJ9_floorDiv_f86c9_15 rfl rfl ?_
    refine z_lmul hC dJ9_floorDiv_f86c9_16 ?_
    refine z_lload_n hC 1 dJ9_floorDiv_f86c9_17 rfl rfl ?_
    refine z_lc_eq hC 27 dJ9_floorDiv_f86c9_18 dJ9_floorDiv_f86c9_19 (by decide) (by rw [tdiv64]; split <;> omega) (by omega) (fun c_18 => ?_) (fun c_18 => ?_)
    ·
      refine z_lload hC 0 dJ9_floorDiv_f86c9_27 rfl ?_
      exact hR _ _ _ _ (by rw [tdiv64] at *; split at * <;> omega) dJ9_floorDiv_f86c9_29
    ·
      refine z_lload hC 0 dJ9_floorDiv_f86c9_22 rfl ?_
      refine z_lconst (z := 1) hC dJ9_floorDiv_f86c9_24 (by decide) ?_
      refine z_lsub hC dJ9_floorDiv_f86c9_25 ?_
      exact hR _ _ _ _ (by rw [tdiv64] at *; split at * <;> omega) dJ9_floorDiv_f86c9_26
abbrev rm_X3_cellOf : Room := { frames := 1, cells := 0, slots := 0, locals := 12 }
set_option maxHeartbeats 4000000 in
set_option maxRecDepth 100000 in
theorem c_X3_cellOf (l : Launch) (g : zG) (p i c : Int)  : zMRi l yX3_cellOf wsX3_cellOf rm_X3_cellOf g [] [.int (iZ (p)), .int (iZ (i)), .int (iZ (c))] (((p + 1) * 51 + i) * 4 + c) := by
  refine z_beRi (cc := cX3_cellOf) (nL := 3) (ret := some .int) (plainFor_of_name (by decide +kernel)) rfl (Or.inl rfl) (Nat.le_of_ble_eq_true rfl) ?_
  intro X hC hR
  have hC : zC X g cX3_cellOf RX3 wsX3_cellOf rm_X3_cellOf 3 := hC
  show ZG X g (zE X) 0 0 [] [(0, .int (iZ (p))), (1, .int (iZ (i))), (2, .int (iZ (c)))] 0 []
  refine z_iload_n hC 0 dX3_cellOf_0 rfl rfl ?_
  refine z_iconst hC dX3_cellOf_1 ?_
  refine z_iadd hC dX3_cellOf_2 ?_
  refine z_bip hC dX3_cellOf_3 (by decide) ?_
  refine z_imul hC dX3_cellOf_5 ?_
  refine z_iload_n hC 1 dX3_cellOf_6 rfl rfl ?_
  refine z_iadd hC dX3_cellOf_7 ?_
  refine z_iconst hC dX3_cellOf_8 ?_
  refine z_imul hC dX3_cellOf_9 ?_
  refine z_iload_n hC 2 dX3_cellOf_10 rfl rfl ?_
  refine z_iadd hC dX3_cellOf_11 ?_
  exact hR _ _ _ _ rfl dX3_cellOf_12
set_option maxRecDepth 20000 in
theorem mX3_closeAll_f28 : Cond.fieldLink RX3 28 "BreakSearch$Search" "items" "LBreakSearch$Items;" ∈ wsX3_closeAll := by decide +kernel
set_option maxRecDepth 20000 in
theorem iX3_closeAll_3 : ∀ w ∈ u_ws RX3 TX3 6, w ∈ wsX3_closeAll := by decide +kernel
set_option maxRecDepth 20000 in
theorem iX3_closeAll_0 : ∀ w ∈ u_ws RX0 TX0 8, w ∈ wsX3_closeAll := by decide +kernel
set_option maxRecDepth 20000 in
theorem mX3_closeAll_f20 : Cond.fieldLink RX3 20 "BreakSearch$Search" "costs" "[J" ∈ wsX3_closeAll := by decide +kernel
set_option maxRecDepth 20000 in
theorem mX3_closeAll_k70 : Cond.constantLong RX3 70 (9223372036854775807) ∈ wsX3_closeAll := by decide +kernel
abbrev rm_X3_closeAll : Room := { frames := 2, cells := 0, slots := 0, locals := 34 }
set_option maxHeartbeats 4000000 in
set_option maxRecDepth 100000 in
theorem c_X3_closeAll (l : Launch) (g : zG) (hS aC aN : Nat) (ps : Int) (C N : Int → Int) (hL oR : Nat) (hI aK aV aP aM aL aS aH : Nat) (n : Int) (K V P M LB SB HB : Int → Int) (h1 : 0 ≤ n ∧ n ≤ 100) : zMWv (S := (Int → Int)) l yX3_closeAll wsX3_closeAll rm_X3_closeAll g [(hS, eo 3 [.ref hI, .ref oR, .ref hL, .ref aC, .ref aN, .int (iZ (ps))]), (aC, el g 20808 C), (aN, eb g 20808 N), (hI, eo 0 [.ref aK, .ref aV, .ref aP, .ref aM, .ref aL, .ref aS, .ref aH, .int (iZ (n))]), (aK, ei g 100 K), (aV, ei g 100 V), (aP, ei g 100 P), (aM, ez g 100 M), (aL, ei g 101 LB), (aS, ei g 101 SB), (aH, ei g 101 HB)] [.ref hS] (fun u => ∀ x, ((0 ≤ x ∧ x < (n + 2) * 204) → u x = 9223372036854775807) ∧ (¬ (0 ≤ x ∧ x < (n + 2) * 204) → u x = C x)) (fun u => [(hS, eo 3 [.ref hI, .ref oR, .ref hL, .ref aC, .ref aN, .int (iZ (ps))]), (aC, el g 20808 u), (aN, eb g 20808 N), (hI, eo 0 [.ref aK, .ref aV, .ref aP, .ref aM, .ref aL, .ref aS, .ref aH, .int (iZ (n))]), (aK, ei g 100 K), (aV, ei g 100 V), (aP, ei g 100 P), (aM, ez g 100 M), (aL, ei g 101 LB), (aS, ei g 101 SB), (aH, ei g 101 HB)]) 0 0 := by
  refine z_beWv (cc := cX3_closeAll) (nL := 3) (plainFor_of_name (by decide +kernel)) rfl (Nat.le_of_ble_eq_true rfl) ?_
  intro X A hC hN hR
  have hC : zC X g cX3_closeAll RX3 wsX3_closeAll rm_X3_closeAll 3 := hC
  show ZG X g (zD X A) 0 0 [(hS, eo 3 [.ref hI, .ref oR, .ref hL, .ref aC, .ref aN, .int (iZ (ps))]), (aC, el g 20808 C), (aN, eb g 20808 N), (hI, eo 0 [.ref aK, .ref aV, .ref aP, .ref aM, .ref aL, .ref aS, .ref aH, .int (iZ (n))]), (aK, ei g 100 K), (aV, ei g 100 V), (aP, ei g 100 P), (aM, ez g 100 M), (aL, ei g 101 LB), (aS, ei g 101 SB), (aH, ei g 101 HB)] [(0, .ref hS)] 0 []
  refine z_aload_n hC 0 dX3_closeAll_0 rfl rfl ?_
  refine z_get hC iX3_closeAll_3 0 0 rfl rfl (by decide) mX3_closeAll_f28 rfl dX3_closeAll_1 ?_
  refine z_getN hC iX3_closeAll_0 3 7 rfl rfl (by decide) nf_RX3_53 rfl dX3_closeAll_4 ?_
  refine z_iconst hC dX3_closeAll_7 ?_
  refine z_iadd hC dX3_closeAll_8 ?_
  refine z_iconst hC dX3_closeAll_9 ?_
  refine z_iconst hC dX3_closeAll_10 ?_
  refine z_sRi hC 3 (c_X3_cellOf (xl X) g _ _ _) gX3_closeAll_X3_cellOf rfl hd_X3_cellOf_s (by decide) ⟨rfl, rfl⟩ [] (by decide) rfl rfl rfl (Nat.le_of_ble_eq_true rfl) dX3_closeAll_11 (by decide) ?_
  refine z_istore_n hC (lv' := [(1, _), (0, _)]) dX3_closeAll_14 rfl (by decide) rfl ?_
  refine z_iconst hC dX3_closeAll_15 ?_
  refine z_istore_n hC (lv' := [(2, _), (1, _), (0, _)]) dX3_closeAll_16 rfl (by decide) rfl ?_
  have L17 : ∀ (fu : Nat) (j : Int) (C2 : Int → Int), (0 ≤ j ∧ j ≤ (n + 2) * 204) → (∀ x, ((0 ≤ x ∧ x < j) → C2 x = 9223372036854775807) ∧ (¬ (0 ≤ x ∧ x < j) → C2 x = C x)) → (20808 - j).toNat < fu → ZG X g (zD X A) 0 0 [(hS, eo 3 [.ref hI, .ref oR, .ref hL, .ref aC, .ref aN, .int (iZ (ps))]), (aC, el g 20808 C2), (aN, eb g 20808 N), (hI, eo 0 [.ref aK, .ref aV, .ref aP, .ref aM, .ref aL, .ref aS, .ref aH, .int (iZ (n))]), (aK, ei g 100 K), (aV, ei g 100 V), (aP, ei g 100 P), (aM, ez g 100 M), (aL, ei g 101 LB), (aS, ei g 101 SB), (aH, ei g 101 HB)] [(2, .int (iZ (j))), (1, .int (iZ ((((n + 1) + 1) * 51 + 0) * 4 + 0))), (0, .ref hS)] 17 [] := by
    intro fu
    induction fu with
    | zero => intro j C2; intros; omega
    | succ fu ih_17 =>
      intro j C2 hj hc hn
      refine z_iload_n hC 0 dX3_closeAll_17 rfl rfl ?_
      refine z_iload_n hC 1 dX3_closeAll_18 rfl rfl ?_
      refine z_icmp_ge hC 44 dX3_closeAll_19 (by decide) (by omega) (by omega) (fun c_19 => ?_) (fun c_19 => ?_)
      ·
        exact hR (C2) _ _ _ [0, 1, 2, 3, 4, 5, 6, 7, 8, 9, 10] (by intro x; have := hc x; exact ⟨fun q => this.1 (by omega), fun q => this.2 (by omega)⟩) (by decide) rfl dX3_closeAll_44
      ·
        refine z_iload_n hC 0 dX3_closeAll_22 rfl rfl ?_
        refine z_sip hC dX3_closeAll_23 (by decide) ?_
        refine z_icmp_ge hC 44 dX3_closeAll_26 (by decide) (by omega) (by omega) (fun c_26 => ?_) (fun c_26 => ?_)
        ·
          exact hR (C2) _ _ _ [0, 1, 2, 3, 4, 5, 6, 7, 8, 9, 10] (by intro x; have := hc x; exact ⟨fun q => this.1 (by omega), fun q => this.2 (by omega)⟩) (by decide) rfl dX3_closeAll_44
        ·
          refine z_aload_n hC 2 dX3_closeAll_29 rfl rfl ?_
          refine z_get hC iX3_closeAll_3 0 3 rfl rfl (by decide) mX3_closeAll_f20 rfl dX3_closeAll_30 ?_
          refine z_iload_n hC 0 dX3_closeAll_33 rfl rfl ?_
          refine z_ldc2 hC (9223372036854775807) mX3_closeAll_k70 (by decide) dX3_closeAll_34 ?_
          refine z_last hC 1 rfl (by omega) (by decide) dX3_closeAll_37 (ws' := [_, _, _, _, _, _, _, _, _, _, _]) rfl ?_
          refine z_iinc hC (lv' := [(2, _), (1, _), (0, _)]) 0 dX3_closeAll_38 rfl (by decide) rfl ?_
          refine z_goto (tgt := 17) hC dX3_closeAll_41 (by decide) ?_
          exact ih_17 (j + 1) (uZ C2 j 9223372036854775807) (by omega) (fun x => ⟨fun q => by (by_cases e : x = j); (rw [e, uZ_s]); (rw [uZ_n _ _ e]; exact (hc x).1 (by omega)), fun q => by rw [uZ_n _ _ (by omega)]; exact (hc x).2 (by omega)⟩) (by omega)
  exact L17 _ 0 C (by omega) (fun x => ⟨fun q => by omega, fun _ => rfl⟩) (Nat.lt_succ_self _)
set_option maxRecDepth 20000 in
theorem mX3_openEnd_f20 : Cond.fieldLink RX3 20 "BreakSearch$Search" "costs" "[J" ∈ wsX3_openEnd := by decide +kernel
set_option maxRecDepth 20000 in
theorem iX3_openEnd_3 : ∀ w ∈ u_ws RX3 TX3 6, w ∈ wsX3_openEnd := by decide +kernel
set_option maxRecDepth 20000 in
theorem mX3_openEnd_f28 : Cond.fieldLink RX3 28 "BreakSearch$Search" "items" "LBreakSearch$Items;" ∈ wsX3_openEnd := by decide +kernel
set_option maxRecDepth 20000 in
theorem iX3_openEnd_0 : ∀ w ∈ u_ws RX0 TX0 8, w ∈ wsX3_openEnd := by decide +kernel
abbrev rm_X3_openEnd : Room := { frames := 2, cells := 0, slots := 0, locals := 34 }
set_option maxHeartbeats 4000000 in
set_option maxRecDepth 100000 in
theorem c_X3_openEnd (l : Launch) (g : zG) (hS aC aN : Nat) (ps : Int) (C N : Int → Int) (hL oR : Nat) (hI aK aV aP aM aL aS aH : Nat) (n : Int) (K V P M LB SB HB : Int → Int) (ex : Int) (h1 : 0 ≤ n ∧ n ≤ 100) (h2 : 0 ≤ ex ∧ ex ≤ 50) : zMWv (S := (Int → Int)) l yX3_openEnd wsX3_openEnd rm_X3_openEnd g [(hS, eo 3 [.ref hI, .ref oR, .ref hL, .ref aC, .ref aN, .int (iZ (ps))]), (aC, el g 20808 C), (aN, eb g 20808 N), (hI, eo 0 [.ref aK, .ref aV, .ref aP, .ref aM, .ref aL, .ref aS, .ref aH, .int (iZ (n))]), (aK, ei g 100 K), (aV, ei g 100 V), (aP, ei g 100 P), (aM, ez g 100 M), (aL, ei g 101 LB), (aS, ei g 101 SB), (aH, ei g 101 HB)] [.ref hS, .int (iZ (ex))] (fun u => (∀ x, x < (n + 1) * 204 ∨ (n + 2) * 204 ≤ x → u x = C x) ∧ (∀ i c, 0 ≤ i → i ≤ 50 → 0 ≤ c → c ≤ 3 → ((ex = 0 ∧ 1 ≤ i) ∨ (i = ex ∧ ¬ ex = 0) → u (((n + 1) * 51 + i) * 4 + c) = 0) ∧ (¬ ((ex = 0 ∧ 1 ≤ i) ∨ (i = ex ∧ ¬ ex = 0)) → u (((n + 1) * 51 + i) * 4 + c) = C (((n + 1) * 51 + i) * 4 + c)))) (fun u => [(hS, eo 3 [.ref hI, .ref oR, .ref hL, .ref aC, .ref aN, .int (iZ (ps))]), (aC, el g 20808 u), (aN, eb g 20808 N), (hI, eo 0 [.ref aK, .ref aV, .ref aP, .ref aM, .ref aL, .ref aS, .ref aH, .int (iZ (n))]), (aK, ei g 100 K), (aV, ei g 100 V), (aP, ei g 100 P), (aM, ez g 100 M), (aL, ei g 101 LB), (aS, ei g 101 SB), (aH, ei g 101 HB)]) 0 0 := by
  refine z_beWv (cc := cX3_openEnd) (nL := 6) (plainFor_of_name (by decide +kernel)) rfl (Nat.le_of_ble_eq_true rfl) ?_
  intro X A hC hN hR
  have hC : zC X g cX3_openEnd RX3 wsX3_openEnd rm_X3_openEnd 6 := hC
  show ZG X g (zD X A) 0 0 [(hS, eo 3 [.ref hI, .ref oR, .ref hL, .ref aC, .ref aN, .int (iZ (ps))]), (aC, el g 20808 C), (aN, eb g 20808 N), (hI, eo 0 [.ref aK, .ref aV, .ref aP, .ref aM, .ref aL, .ref aS, .ref aH, .int (iZ (n))]), (aK, ei g 100 K), (aV, ei g 100 V), (aP, ei g 100 P), (aM, ez g 100 M), (aL, ei g 101 LB), (aS, ei g 101 SB), (aH, ei g 101 HB)] [(0, .ref hS), (1, .int (iZ (ex)))] 0 []
  have J9 : ∀ (le : Int), (ex = 0 ∧ le = 1) ∨ (¬ ex = 0 ∧ le = ex) → ZG X g (zD X A) 0 0 [(hS, eo 3 [.ref hI, .ref oR, .ref hL, .ref aC, .ref aN, .int (iZ (ps))]), (aC, el g 20808 C), (aN, eb g 20808 N), (hI, eo 0 [.ref aK, .ref aV, .ref aP, .ref aM, .ref aL, .ref aS, .ref aH, .int (iZ (n))]), (aK, ei g 100 K), (aV, ei g 100 V), (aP, ei g 100 P), (aM, ez g 100 M), (aL, ei g 101 LB), (aS, ei g 101 SB), (aH, ei g 101 HB)] [(0, .ref hS), (1, .int (iZ (ex)))] 9 [.int (iZ (le))] := by
    intro le hle
    refine z_istore_n hC (lv' := [(2, _), (0, _), (1, _)]) dX3_openEnd_9 rfl (by decide) rfl ?_
    have J20 : ∀ (mx : Int), (ex = 0 ∧ mx = 50) ∨ (¬ ex = 0 ∧ mx = ex) → ZG X g (zD X A) 0 0 [(hS, eo 3 [.ref hI, .ref oR, .ref hL, .ref aC, .ref aN, .int (iZ (ps))]), (aC, el g 20808 C), (aN, eb g 20808 N), (hI, eo 0 [.ref aK, .ref aV, .ref aP, .ref aM, .ref aL, .ref aS, .ref aH, .int (iZ (n))]), (aK, ei g 100 K), (aV, ei g 100 V), (aP, ei g 100 P), (aM, ez g 100 M), (aL, ei g 101 LB), (aS, ei g 101 SB), (aH, ei g 101 HB)] [(2, .int (iZ (le))), (0, .ref hS), (1, .int (iZ (ex)))] 20 [.int (iZ (mx))] := by
      intro mx hmx
      refine z_istore_n hC (lv' := [(3, _), (2, _), (0, _), (1, _)]) dX3_openEnd_20 rfl (by decide) rfl ?_
      refine z_iload_n hC 1 dX3_openEnd_21 rfl rfl ?_
      refine z_istore hC (lv' := [(4, _), (3, _), (2, _), (0, _), (1, _)]) dX3_openEnd_22 (by decide) rfl ?_
      have L24 : ∀ (fu : Nat) (i : Int) (C2 : Int → Int), (le ≤ i ∧ i ≤ mx + 1) → (∀ x, ((((n + 1) * 51 + le) * 4 ≤ x ∧ x < ((n + 1) * 51 + i) * 4) → C2 x = 0) ∧ (¬ (((n + 1) * 51 + le) * 4 ≤ x ∧ x < ((n + 1) * 51 + i) * 4) → C2 x = C x)) → (51 - i).toNat < fu → ZG X g (zD X A) 0 0 [(hS, eo 3 [.ref hI, .ref oR, .ref hL, .ref aC, .ref aN, .int (iZ (ps))]), (aC, el g 20808 C2), (aN, eb g 20808 N), (hI, eo 0 [.ref aK, .ref aV, .ref aP, .ref aM, .ref aL, .ref aS, .ref aH, .int (iZ (n))]), (aK, ei g 100 K), (aV, ei g 100 V), (aP, ei g 100 P), (aM, ez g 100 M), (aL, ei g 101 LB), (aS, ei g 101 SB), (aH, ei g 101 HB)] [(4, .int (iZ (i))), (3, .int (iZ (mx))), (2, .int (iZ (le))), (0, .ref hS), (1, .int (iZ (ex)))] 24 [] := by
        intro fu
        induction fu with
        | zero => intro i C2; intros; omega
        | succ fu ih_24 =>
          intro i C2 hi hc hn
          refine z_iload hC 0 dX3_openEnd_24 rfl ?_
          refine z_iload_n hC 1 dX3_openEnd_26 rfl rfl ?_
          refine z_icmp_gt hC 71 dX3_openEnd_27 (by decide) (by omega) (by omega) (fun c_27 => ?_) (fun c_27 => ?_)
          ·
            exact hR (C2) _ _ _ [0, 1, 2, 3, 4, 5, 6, 7, 8, 9, 10] (by refine ⟨fun x hx => (hc x).2 (by omega), fun i2 c2 g1 g2 g3 g4 => ⟨fun q => (hc _).1 (by omega), fun q => (hc _).2 (by omega)⟩⟩) (by decide) rfl dX3_openEnd_71
          ·
            refine z_iconst hC dX3_openEnd_30 ?_
            refine z_istore hC (lv' := [(5, _), (4, _), (3, _), (2, _), (0, _), (1, _)]) dX3_openEnd_31 (by decide) rfl ?_
            have L33 : ∀ (fu : Nat) (c : Int) (C2 : Int → Int), (0 ≤ c ∧ c ≤ 4) → (∀ x, ((((n + 1) * 51 + le) * 4 ≤ x ∧ x < ((n + 1) * 51 + i) * 4 + c) → C2 x = 0) ∧ (¬ (((n + 1) * 51 + le) * 4 ≤ x ∧ x < ((n + 1) * 51 + i) * 4 + c) → C2 x = C x)) → (4 - c).toNat < fu → ZG X g (zD X A) 0 0 [(hS, eo 3 [.ref hI, .ref oR, .ref hL, .ref aC, .ref aN, .int (iZ (ps))]), (aC, el g 20808 C2), (aN, eb g 20808 N), (hI, eo 0 [.ref aK, .ref aV, .ref aP, .ref aM, .ref aL, .ref aS, .ref aH, .int (iZ (n))]), (aK, ei g 100 K), (aV, ei g 100 V), (aP, ei g 100 P), (aM, ez g 100 M), (aL, ei g 101 LB), (aS, ei g 101 SB), (aH, ei g 101 HB)] [(5, .int (iZ (c))), (4, .int (iZ (i))), (3, .int (iZ (mx))), (2, .int (iZ (le))), (0, .ref hS), (1, .int (iZ (ex)))] 33 [] := by
              intro fu
              induction fu with
              | zero => intro c C2; intros; omega
              | succ fu ih_33 =>
                intro c C2 hc1 hc2 hn
                refine z_iload hC 0 dX3_openEnd_33 rfl ?_
                refine z_iconst hC dX3_openEnd_35 ?_
                refine z_icmp_ge hC 65 dX3_openEnd_36 (by decide) (by omega) (by omega) (fun c_36 => ?_) (fun c_36 => ?_)
                ·
                  refine z_iinc hC (lv' := [(4, _), (5, _), (3, _), (2, _), (0, _), (1, _)]) 1 dX3_openEnd_65 rfl (by decide) rfl ?_
                  refine z_goto (tgt := 24) hC dX3_openEnd_68 (by decide) ?_
                  refine z_lv (lv' := [(4, _), (3, _), (2, _), (0, _), (1, _)]) [0, 2, 3, 4, 5] rfl ?_
                  exact ih_24 (i + 1) _ (by omega) (fun x => ⟨fun q => (hc2 x).1 (by omega), fun q => (hc2 x).2 (by omega)⟩) (by omega)
                ·
                  refine z_aload_n hC 4 dX3_openEnd_39 rfl rfl ?_
                  refine z_get hC iX3_openEnd_3 0 3 rfl rfl (by decide) mX3_openEnd_f20 rfl dX3_openEnd_40 ?_
                  refine z_aload_n hC 4 dX3_openEnd_43 rfl rfl ?_
                  refine z_get hC iX3_openEnd_3 0 0 rfl rfl (by decide) mX3_openEnd_f28 rfl dX3_openEnd_44 ?_
                  refine z_getN hC iX3_openEnd_0 3 7 rfl rfl (by decide) nf_RX3_53 rfl dX3_openEnd_47 ?_
                  refine z_iload hC 1 dX3_openEnd_50 rfl ?_
                  refine z_iload hC 0 dX3_openEnd_52 rfl ?_
                  refine z_sRi hC 3 (c_X3_cellOf (xl X) g _ _ _) gX3_openEnd_X3_cellOf rfl hd_X3_cellOf_s (by decide) ⟨rfl, rfl⟩ [] (by decide) rfl rfl rfl (Nat.le_of_ble_eq_true rfl) dX3_openEnd_54 (by decide) ?_
                  refine z_lconst (z := 0) hC dX3_openEnd_57 (by decide) ?_
                  refine z_last hC 1 rfl (by omega) (by decide) dX3_openEnd_58 (ws' := [_, _, _, _, _, _, _, _, _, _, _]) rfl ?_
                  refine z_iinc hC (lv' := [(5, _), (4, _), (3, _), (2, _), (0, _), (1, _)]) 0 dX3_openEnd_59 rfl (by decide) rfl ?_
                  refine z_goto (tgt := 33) hC dX3_openEnd_62 (by decide) ?_
                  exact ih_33 (c + 1) _ (by omega) (fun x => ⟨fun q => by (by_cases e : x = ((n + 1) * 51 + i) * 4 + c); (rw [e, uZ_s]); (rw [uZ_n _ _ e]; exact (hc2 x).1 (by omega)), fun q => by rw [uZ_n _ _ (by omega)]; exact (hc2 x).2 (by omega)⟩) (by omega)
            exact L33 _ 0 _ (by omega) (fun x => ⟨fun q => (hc x).1 (by omega), fun q => (hc x).2 (by omega)⟩) (Nat.lt_succ_self _)
      exact L24 _ le C (by omega) (fun x => ⟨fun q => by omega, fun _ => rfl⟩) (Nat.lt_succ_self _)
    refine z_iload_n hC 2 dX3_openEnd_10 rfl rfl ?_
    refine z_if_ne hC 19 dX3_openEnd_11 (by decide) (by omega) (fun c_11 => ?_) (fun c_11 => ?_)
    ·
      refine z_iload_n hC 2 dX3_openEnd_19 rfl rfl ?_
      exact J20 _ (by omega)
    ·
      refine z_bip hC dX3_openEnd_14 (by decide) ?_
      refine z_goto (tgt := 20) hC dX3_openEnd_16 (by decide) ?_
      exact J20 _ (by omega)
  refine z_iload_n hC 1 dX3_openEnd_0 rfl rfl ?_
  refine z_if_ne hC 8 dX3_openEnd_1 (by decide) (by omega) (fun c_1 => ?_) (fun c_1 => ?_)
  ·
    refine z_iload_n hC 1 dX3_openEnd_8 rfl rfl ?_
    exact J9 _ (by omega)
  ·
    refine z_iconst hC dX3_openEnd_4 ?_
    refine z_goto (tgt := 9) hC dX3_openEnd_5 (by decide) ?_
    exact J9 _ (by omega)
set_option maxRecDepth 20000 in
theorem mX3_demeritsOfLine_k124 : Cond.constantLong RX3 124 (10) ∈ wsX3_demeritsOfLine := by decide +kernel
set_option maxRecDepth 20000 in
theorem mX3_demeritsOfLine_f16 : Cond.fieldLink RX3 16 "BreakSearch$Search" "line" "LBreakSearch$Line;" ∈ wsX3_demeritsOfLine := by decide +kernel
set_option maxRecDepth 20000 in
theorem iX3_demeritsOfLine_3 : ∀ w ∈ u_ws RX3 TX3 6, w ∈ wsX3_demeritsOfLine := by decide +kernel
set_option maxRecDepth 20000 in
theorem iX3_demeritsOfLine_1 : ∀ w ∈ u_ws RX1 TX1 4, w ∈ wsX3_demeritsOfLine := by decide +kernel
set_option maxRecDepth 20000 in
theorem mX3_demeritsOfLine_f28 : Cond.fieldLink RX3 28 "BreakSearch$Search" "items" "LBreakSearch$Items;" ∈ wsX3_demeritsOfLine := by decide +kernel
set_option maxRecDepth 20000 in
theorem mX3_demeritsOfLine_iniRX0 : Cond.initialized RX0 ∈ wsX3_demeritsOfLine := by decide +kernel
set_option maxRecDepth 20000 in
theorem mX3_demeritsOfLine_im_X0_penaltyDemerits : Cond.instanceMethod yX0_penaltyDemerits ∈ wsX3_demeritsOfLine := by decide +kernel
set_option maxRecDepth 20000 in
theorem mX3_demeritsOfLine_se_X0_penaltyDemerits : Cond.selects RX0 yX0_penaltyDemerits yX0_penaltyDemerits ∈ wsX3_demeritsOfLine := by decide +kernel
set_option maxRecDepth 20000 in
theorem mX3_demeritsOfLine_im_X0_isMarked : Cond.instanceMethod yX0_isMarked ∈ wsX3_demeritsOfLine := by decide +kernel
set_option maxRecDepth 20000 in
theorem mX3_demeritsOfLine_se_X0_isMarked : Cond.selects RX0 yX0_isMarked yX0_isMarked ∈ wsX3_demeritsOfLine := by decide +kernel
set_option maxRecDepth 20000 in
theorem mX3_demeritsOfLine_k136 : Cond.constantLong RX3 136 (3000) ∈ wsX3_demeritsOfLine := by decide +kernel
abbrev rm_X3_demeritsOfLine : Room := { frames := 3, cells := 0, slots := 0, locals := 57 }
set_option maxHeartbeats 4000000 in
set_option maxRecDepth 100000 in
theorem c_X3_demeritsOfLine (l : Launch) (g : zG) (hS aC aN : Nat) (ps : Int) (C N : Int → Int) (hI aK aV aP aM aL aS aH : Nat) (n : Int) (K V P M LB SB HB : Int → Int) (hL : Nat) (k ug lo sd : Int) (oR : Nat) (a b : Int) (h1 : zIok n K V P M) (h2 : -1 ≤ a ∧ a < b ∧ b ≤ n) (h3 : 0 ≤ ug ∧ ug ≤ 10000) : zMRl l yX3_demeritsOfLine wsX3_demeritsOfLine rm_X3_demeritsOfLine g [(hS, eo 3 [.ref hI, .ref oR, .ref hL, .ref aC, .ref aN, .int (iZ (ps))]), (aC, el g 20808 C), (aN, eb g 20808 N), (hI, eo 0 [.ref aK, .ref aV, .ref aP, .ref aM, .ref aL, .ref aS, .ref aH, .int (iZ (n))]), (aK, ei g 100 K), (aV, ei g 100 V), (aP, ei g 100 P), (aM, ez g 100 M), (aL, ei g 101 LB), (aS, ei g 101 SB), (aH, ei g 101 HB), (hL, eo 1 [.int (iZ (k)), .int (iZ (ug)), .int (iZ (lo)), .int (iZ (sd))])] [.ref hS, .int (iZ (a)), .int (iZ (b))] (zDm n K V M a b ug) := by
  refine z_beRl (cc := cX3_demeritsOfLine) (nL := 7) (plainFor_of_name (by decide +kernel)) rfl (Nat.le_of_ble_eq_true rfl) ?_
  intro X hC hR
  have hC : zC X g cX3_demeritsOfLine RX3 wsX3_demeritsOfLine rm_X3_demeritsOfLine 7 := hC
  show ZG X g (zE X) 0 0 [(hS, eo 3 [.ref hI, .ref oR, .ref hL, .ref aC, .ref aN, .int (iZ (ps))]), (aC, el g 20808 C), (aN, eb g 20808 N), (hI, eo 0 [.ref aK, .ref aV, .ref aP, .ref aM, .ref aL, .ref aS, .ref aH, .int (iZ (n))]), (aK, ei g 100 K), (aV, ei g 100 V), (aP, ei g 100 P), (aM, ez g 100 M), (aL, ei g 101 LB), (aS, ei g 101 SB), (aH, ei g 101 HB), (hL, eo 1 [.int (iZ (k)), .int (iZ (ug)), .int (iZ (lo)), .int (iZ (sd))])] [(0, .ref hS), (1, .int (iZ (a))), (2, .int (iZ (b)))] 0 []
  have hn := h1.1
  refine z_ldc2 hC (10) mX3_demeritsOfLine_k124 (by decide) dX3_demeritsOfLine_0 ?_
  refine z_aload_n hC 0 dX3_demeritsOfLine_3 rfl rfl ?_
  refine z_get hC iX3_demeritsOfLine_3 0 2 rfl rfl (by decide) mX3_demeritsOfLine_f16 rfl dX3_demeritsOfLine_4 ?_
  refine z_getN hC iX3_demeritsOfLine_1 11 1 rfl rfl (by decide) nf_RX3_126 rfl dX3_demeritsOfLine_7 ?_
  refine z_i2l hC dX3_demeritsOfLine_10 (by omega) ?_
  refine z_ladd hC dX3_demeritsOfLine_11 ?_
  refine z_lstore_n hC (lv' := [(3, _), (0, _), (1, _), (2, _)]) dX3_demeritsOfLine_12 rfl (by decide) rfl ?_
  refine z_lload_n hC 0 dX3_demeritsOfLine_13 rfl rfl ?_
  refine z_lload_n hC 0 dX3_demeritsOfLine_14 rfl rfl ?_
  refine z_lmul hC dX3_demeritsOfLine_15 ?_
  refine z_aload_n hC 1 dX3_demeritsOfLine_16 rfl rfl ?_
  refine z_get hC iX3_demeritsOfLine_3 0 0 rfl rfl (by decide) mX3_demeritsOfLine_f28 rfl dX3_demeritsOfLine_17 ?_
  refine z_iload_n hC 3 dX3_demeritsOfLine_20 rfl rfl ?_
  refine z_vnRl hC 1 (c_X0_penaltyDemerits (xl X) g _ _ _ _ _ _ _ _ _ _ _ _ _ _ _ _ _ h1 (by omega)) gX3_demeritsOfLine_X0_penaltyDemerits_n129 nm_RX3_129 mX3_demeritsOfLine_iniRX0 mX3_demeritsOfLine_im_X0_penaltyDemerits mX3_demeritsOfLine_se_X0_penaltyDemerits rfl hd_X0_penaltyDemerits_s (by decide) ⟨rfl, rfl⟩ [3, 4, 5, 6, 7, 8, 9, 10] (by decide) rfl 3 0 rfl rfl rfl rfl rfl (Nat.le_of_ble_eq_true rfl) dX3_demeritsOfLine_21 (by decide) ?_
  refine z_ladd hC dX3_demeritsOfLine_24 ?_
  refine z_lstore hC (lv' := [(5, _), (3, _), (0, _), (1, _), (2, _)]) dX3_demeritsOfLine_25 (by decide) rfl ?_
  refine z_aload_n hC 2 dX3_demeritsOfLine_27 rfl rfl ?_
  refine z_get hC iX3_demeritsOfLine_3 0 0 rfl rfl (by decide) mX3_demeritsOfLine_f28 rfl dX3_demeritsOfLine_28 ?_
  refine z_iload_n hC 3 dX3_demeritsOfLine_31 rfl rfl ?_
  refine z_vnRi hC 1 (c_X0_isMarked (xl X) g _ _ _ _ _ _ _ _ _ _ _ _ _ _ _ _ _ (by omega) (by omega)) gX3_demeritsOfLine_X0_isMarked_n133 nm_RX3_133 mX3_demeritsOfLine_iniRX0 mX3_demeritsOfLine_im_X0_isMarked mX3_demeritsOfLine_se_X0_isMarked rfl hd_X0_isMarked_s (by decide) ⟨rfl, rfl⟩ [3, 4, 5, 6, 7, 8, 9, 10] (by decide) rfl 3 0 rfl rfl rfl rfl rfl (Nat.le_of_ble_eq_true rfl) dX3_demeritsOfLine_32 (by decide) ?_
  refine z_if_eq hC 58 dX3_demeritsOfLine_35 (by decide) (b2_r _) (fun c_35 => ?_) (fun c_35 => ?_)
  ·
    have c_35 := b2_f c_35
    refine z_lload hC 0 dX3_demeritsOfLine_58 rfl ?_
    exact hR _ _ _ _ (by first | exact zDm_t (by omega) | exact zDm_f (by omega)) dX3_demeritsOfLine_60
  ·
    have c_35 := b2_t c_35
    refine z_aload_n hC 2 dX3_demeritsOfLine_38 rfl rfl ?_
    refine z_get hC iX3_demeritsOfLine_3 0 0 rfl rfl (by decide) mX3_demeritsOfLine_f28 rfl dX3_demeritsOfLine_39 ?_
    refine z_iload_n hC 4 dX3_demeritsOfLine_42 rfl rfl ?_
    refine z_vnRi hC 1 (c_X0_isMarked (xl X) g _ _ _ _ _ _ _ _ _ _ _ _ _ _ _ _ _ (by omega) (by omega)) gX3_demeritsOfLine_X0_isMarked_n133 nm_RX3_133 mX3_demeritsOfLine_iniRX0 mX3_demeritsOfLine_im_X0_isMarked mX3_demeritsOfLine_se_X0_isMarked rfl hd_X0_isMarked_s (by decide) ⟨rfl, rfl⟩ [3, 4, 5, 6, 7, 8, 9, 10] (by decide) rfl 3 0 rfl rfl rfl rfl rfl (Nat.le_of_ble_eq_true rfl) dX3_demeritsOfLine_43 (by decide) ?_
    refine z_if_eq hC 58 dX3_demeritsOfLine_46 (by decide) (b2_r _) (fun c_46 => ?_) (fun c_46 => ?_)
    ·
      have c_46 := b2_f c_46
      refine z_lload hC 0 dX3_demeritsOfLine_58 rfl ?_
      exact hR _ _ _ _ (by first | exact zDm_t (by omega) | exact zDm_f (by omega)) dX3_demeritsOfLine_60
    ·
      have c_46 := b2_t c_46
      refine z_lload hC 0 dX3_demeritsOfLine_49 rfl ?_
      refine z_ldc2 hC (3000) mX3_demeritsOfLine_k136 (by decide) dX3_demeritsOfLine_51 ?_
      refine z_ladd hC dX3_demeritsOfLine_54 ?_
      refine z_goto (tgt := 60) hC dX3_demeritsOfLine_55 (by decide) ?_
      exact hR _ _ _ _ (by first | exact zDm_t (by omega) | exact zDm_f (by omega)) dX3_demeritsOfLine_60
set_option maxRecDepth 20000 in
theorem mX3_enterLine_f20 : Cond.fieldLink RX3 20 "BreakSearch$Search" "costs" "[J" ∈ wsX3_enterLine := by decide +kernel
set_option maxRecDepth 20000 in
theorem iX3_enterLine_3 : ∀ w ∈ u_ws RX3 TX3 6, w ∈ wsX3_enterLine := by decide +kernel
set_option maxRecDepth 20000 in
theorem mX3_enterLine_f16 : Cond.fieldLink RX3 16 "BreakSearch$Search" "line" "LBreakSearch$Line;" ∈ wsX3_enterLine := by decide +kernel
set_option maxRecDepth 20000 in
theorem iX3_enterLine_1 : ∀ w ∈ u_ws RX1 TX1 4, w ∈ wsX3_enterLine := by decide +kernel
set_option maxRecDepth 20000 in
theorem mX3_enterLine_k70 : Cond.constantLong RX3 70 (9223372036854775807) ∈ wsX3_enterLine := by decide +kernel
set_option maxRecDepth 20000 in
theorem mX3_enterLine_k112 : Cond.constantLong RX3 112 (64) ∈ wsX3_enterLine := by decide +kernel
set_option maxRecDepth 20000 in
theorem mX3_enterLine_f24 : Cond.fieldLink RX3 24 "BreakSearch$Search" "nextBreaks" "[B" ∈ wsX3_enterLine := by decide +kernel
set_option maxRecDepth 20000 in
theorem mX3_enterLine_iniRX1 : Cond.initialized RX1 ∈ wsX3_enterLine := by decide +kernel
set_option maxRecDepth 20000 in
theorem mX3_enterLine_sa_X1_isUnlike : Cond.static yX1_isUnlike ∈ wsX3_enterLine := by decide +kernel
set_option maxRecDepth 20000 in
theorem mX3_enterLine_k122 : Cond.constantLong RX3 122 (128000) ∈ wsX3_enterLine := by decide +kernel
abbrev rm_X3_enterLine : Room := { frames := 4, cells := 0, slots := 0, locals := 83 }
set_option maxHeartbeats 4000000 in
set_option maxRecDepth 100000 in
theorem c_X3_enterLine (l : Launch) (g : zG) (hS aC aN : Nat) (ps : Int) (C N : Int → Int) (hI aK aV aP aM aL aS aH : Nat) (n : Int) (K V P M LB SB HB : Int → Int) (hL : Nat) (k ug lo sd : Int) (oR : Nat) (a b i : Int) (h1 : zIok n K V P M) (h2 : -1 ≤ a ∧ a < b ∧ b ≤ n) (h3 : 0 ≤ i ∧ i ≤ 49) (h4 : (0 ≤ ug ∧ ug ≤ 10000) ∧ (0 ≤ lo ∧ lo ≤ 3)) (h5 : C (((b + 1) * 51 + (i + 1)) * 4 + lo) = 9223372036854775807 ∨ (-1000000000000 ≤ C (((b + 1) * 51 + (i + 1)) * 4 + lo) ∧ C (((b + 1) * 51 + (i + 1)) * 4 + lo) ≤ 1000000000000)) (h6 : ∀ c, 0 ≤ c → c ≤ 3 → C (((a + 1) * 51 + i) * 4 + c) = 9223372036854775807 ∨ (-1000000000000 ≤ C (((a + 1) * 51 + i) * 4 + c) ∧ C (((a + 1) * 51 + i) * 4 + c) ≤ 1000000000000)) : zMWv (S := (Int → Int) × (Int → Int)) l yX3_enterLine wsX3_enterLine rm_X3_enterLine g [(hS, eo 3 [.ref hI, .ref oR, .ref hL, .ref aC, .ref aN, .int (iZ (ps))]), (aC, el g 20808 C), (aN, eb g 20808 N), (hI, eo 0 [.ref aK, .ref aV, .ref aP, .ref aM, .ref aL, .ref aS, .ref aH, .int (iZ (n))]), (aK, ei g 100 K), (aV, ei g 100 V), (aP, ei g 100 P), (aM, ez g 100 M), (aL, ei g 101 LB), (aS, ei g 101 SB), (aH, ei g 101 HB), (hL, eo 1 [.int (iZ (k)), .int (iZ (ug)), .int (iZ (lo)), .int (iZ (sd))])] [.ref hS, .int (iZ (a)), .int (iZ (b)), .int (iZ (i))] (fun u => (C (((b + 1) * 51 + (i + 1)) * 4 + lo) = 9223372036854775807 → u.1 = C ∧ u.2 = N) ∧ (¬ C (((b + 1) * 51 + (i + 1)) * 4 + lo) = 9223372036854775807 → zEnt 4 a b (((a + 1) * 51 + i) * 4) (C (((b + 1) * 51 + (i + 1)) * 4 + lo)) (zDm n K V M a b ug) lo C N u.1 u.2)) (fun u => [(hS, eo 3 [.ref hI, .ref oR, .ref hL, .ref aC, .ref aN, .int (iZ (ps))]), (aC, el g 20808 u.1), (aN, eb g 20808 u.2), (hI, eo 0 [.ref aK, .ref aV, .ref aP, .ref aM, .ref aL, .ref aS, .ref aH, .int (iZ (n))]), (aK, ei g 100 K), (aV, ei g 100 V), (aP, ei g 100 P), (aM, ez g 100 M), (aL, ei g 101 LB), (aS, ei g 101 SB), (aH, ei g 101 HB), (hL, eo 1 [.int (iZ (k)), .int (iZ (ug)), .int (iZ (lo)), .int (iZ (sd))])]) 0 0 := by
  refine z_beWv (cc := cX3_enterLine) (nL := 13) (plainFor_of_name (by decide +kernel)) rfl (Nat.le_of_ble_eq_true rfl) ?_
  intro X A hC hN hR
  have hC : zC X g cX3_enterLine RX3 wsX3_enterLine rm_X3_enterLine 13 := hC
  show ZG X g (zD X A) 0 0 [(hS, eo 3 [.ref hI, .ref oR, .ref hL, .ref aC, .ref aN, .int (iZ (ps))]), (aC, el g 20808 C), (aN, eb g 20808 N), (hI, eo 0 [.ref aK, .ref aV, .ref aP, .ref aM, .ref aL, .ref aS, .ref aH, .int (iZ (n))]), (aK, ei g 100 K), (aV, ei g 100 V), (aP, ei g 100 P), (aM, ez g 100 M), (aL, ei g 101 LB), (aS, ei g 101 SB), (aH, ei g 101 HB), (hL, eo 1 [.int (iZ (k)), .int (iZ (ug)), .int (iZ (lo)), .int (iZ (sd))])] [(0, .ref hS), (1, .int (iZ (a))), (2, .int (iZ (b))), (3, .int (iZ (i)))] 0 []
  have hn := h1.1
  have hE := zDm_in (a := a) (b := b) (ug := ug) h1 (by omega) h4.1
  refine z_aload_n hC 0 dX3_enterLine_0 rfl rfl ?_
  refine z_get hC iX3_enterLine_3 0 3 rfl rfl (by decide) mX3_enterLine_f20 rfl dX3_enterLine_1 ?_
  refine z_iload_n hC 2 dX3_enterLine_4 rfl rfl ?_
  refine z_iload_n hC 3 dX3_enterLine_5 rfl rfl ?_
  refine z_iconst hC dX3_enterLine_6 ?_
  refine z_iadd hC dX3_enterLine_7 ?_
  refine z_aload_n hC 0 dX3_enterLine_8 rfl rfl ?_
  refine z_get hC iX3_enterLine_3 0 2 rfl rfl (by decide) mX3_enterLine_f16 rfl dX3_enterLine_9 ?_
  refine z_getN hC iX3_enterLine_1 11 2 rfl rfl (by decide) nf_RX3_109 rfl dX3_enterLine_12 ?_
  refine z_sRi hC 3 (c_X3_cellOf (xl X) g _ _ _) gX3_enterLine_X3_cellOf rfl hd_X3_cellOf_s (by decide) ⟨rfl, rfl⟩ [] (by decide) rfl rfl rfl (Nat.le_of_ble_eq_true rfl) dX3_enterLine_15 (by decide) ?_
  refine z_lald hC 1 rfl (by omega) (by decide) dX3_enterLine_18 ?_
  refine z_lstore hC (lv' := [(4, _), (0, _), (1, _), (2, _), (3, _)]) dX3_enterLine_19 (by decide) rfl ?_
  refine z_lload hC 0 dX3_enterLine_21 rfl ?_
  refine z_ldc2 hC (9223372036854775807) mX3_enterLine_k70 (by decide) dX3_enterLine_23 ?_
  refine z_lc_ne hC 31 dX3_enterLine_26 dX3_enterLine_27 (by decide) (by omega) (by omega) (fun c_26 => ?_) (fun c_26 => ?_)
  ·
    refine z_lload hC 0 dX3_enterLine_31 rfl ?_
    refine z_lconst (z := 1) hC dX3_enterLine_33 (by decide) ?_
    refine z_ladd hC dX3_enterLine_34 ?_
    refine z_ldc2 hC (64) mX3_enterLine_k112 (by decide) dX3_enterLine_35 ?_
    refine z_aload_n hC 1 dX3_enterLine_38 rfl rfl ?_
    refine z_iload_n hC 2 dX3_enterLine_39 rfl rfl ?_
    refine z_iload_n hC 3 dX3_enterLine_40 rfl rfl ?_
    refine z_vRl hC 2 (c_X3_demeritsOfLine (xl X) g _ _ _ _ _ _ _ _ _ _ _ _ _ _ _ _ _ _ _ _ _ _ _ _ _ _ _ _ _ _ h1 (by omega) (by omega)) gX3_enterLine_X3_demeritsOfLine rfl hd_X3_demeritsOfLine_v (by decide) ⟨rfl, rfl⟩ [0, 1, 2, 3, 4, 5, 6, 7, 8, 9, 10, 11] (by decide) rfl 0 3 rfl rfl rfl rfl rfl (Nat.le_of_ble_eq_true rfl) dX3_enterLine_41 (by decide) ?_
    refine z_lmul hC dX3_enterLine_44 ?_
    refine z_ladd hC dX3_enterLine_45 ?_
    refine z_nml (fun v_46 e_46 => ?_)
    refine z_lstore hC (lv' := [(6, _), (4, _), (0, _), (1, _), (2, _), (3, _)]) dX3_enterLine_46 (by decide) rfl ?_
    refine z_iconst hC dX3_enterLine_48 ?_
    refine z_istore hC (lv' := [(8, _), (6, _), (4, _), (0, _), (1, _), (2, _), (3, _)]) dX3_enterLine_49 (by decide) rfl ?_
    have L51 : ∀ (fu : Nat) (u : Int) (C2 N2 : Int → Int), (0 ≤ u ∧ u ≤ 4) → (zEnt u a b (((a + 1) * 51 + i) * 4) (C (((b + 1) * 51 + (i + 1)) * 4 + lo)) (zDm n K V M a b ug) lo C N C2 N2) → (4 - u).toNat < fu → ZG X g (zD X A) 0 0 [(hS, eo 3 [.ref hI, .ref oR, .ref hL, .ref aC, .ref aN, .int (iZ (ps))]), (aC, el g 20808 C2), (aN, eb g 20808 N2), (hI, eo 0 [.ref aK, .ref aV, .ref aP, .ref aM, .ref aL, .ref aS, .ref aH, .int (iZ (n))]), (aK, ei g 100 K), (aV, ei g 100 V), (aP, ei g 100 P), (aM, ez g 100 M), (aL, ei g 101 LB), (aS, ei g 101 SB), (aH, ei g 101 HB), (hL, eo 1 [.int (iZ (k)), .int (iZ (ug)), .int (iZ (lo)), .int (iZ (sd))])] [(8, .int (iZ (u))), (6, .long (lZ (v_46))), (4, .long (lZ (C (((b + 1) * 51 + (i + 1)) * 4 + lo)))), (0, .ref hS), (1, .int (iZ (a))), (2, .int (iZ (b))), (3, .int (iZ (i)))] 51 [] := by
      intro fu
      induction fu with
      | zero => intro u C2 N2; intros; omega
      | succ fu ih_51 =>
        intro u C2 N2 hu hz hn
        refine z_iload hC 0 dX3_enterLine_51 rfl ?_
        refine z_iconst hC dX3_enterLine_53 ?_
        refine z_icmp_ge hC 148 dX3_enterLine_54 (by decide) (by omega) (by omega) (fun c_54 => ?_) (fun c_54 => ?_)
        ·
          exact hR (C2, N2) _ _ _ [0, 1, 2, 3, 4, 5, 6, 7, 8, 9, 10, 11] (by first | (refine ⟨fun _ => ⟨rfl, rfl⟩, fun q => absurd c_26 q⟩) | (refine ⟨fun q => absurd q c_26, fun _ => ?_⟩; rw [show u = 4 by omega] at hz; exact hz)) (by decide) rfl dX3_enterLine_148
        ·
          refine z_iload_n hC 4 dX3_enterLine_57 rfl rfl ?_
          refine z_iconst hC dX3_enterLine_58 ?_
          refine z_icmp_eq hC 81 dX3_enterLine_59 (by decide) (by omega) (by omega) (fun c_59 => ?_) (fun c_59 => ?_)
          ·
            refine z_iconst hC dX3_enterLine_81 ?_
            refine z_istore hC (lv' := [(9, _), (8, _), (6, _), (4, _), (0, _), (1, _), (2, _), (3, _)]) dX3_enterLine_82 (by decide) rfl ?_
            refine z_iload hC 0 dX3_enterLine_84 rfl ?_
            refine z_if_eq hC 98 dX3_enterLine_86 (by decide) (by omega) (fun c_86 => ?_) (fun c_86 => ?_)
            ·
              refine z_lload hC 2 dX3_enterLine_98 rfl ?_
              refine z_nml (fun v_100 e_100 => ?_)
              have hw : v_100 = zWh a u lo (C (((b + 1) * 51 + (i + 1)) * 4 + lo)) (zDm n K V M a b ug) := by rw [e_100]; (try rw [e_46]); first | exact zWh_t (by omega) (by omega) | exact zWh_f (by omega)
              have hcu := (hz.1 (((a + 1) * 51 + i) * 4 + u) (by omega)).1
              have h6u := h6 u (by omega) (by omega)
              rw [← hcu] at h6u
              refine z_lstore hC (lv' := [(10, _), (9, _), (8, _), (6, _), (4, _), (0, _), (1, _), (2, _), (3, _)]) dX3_enterLine_100 (by decide) rfl ?_
              refine z_iload_n hC 6 dX3_enterLine_102 rfl rfl ?_
              refine z_iload_n hC 8 dX3_enterLine_103 rfl rfl ?_
              refine z_iload hC 2 dX3_enterLine_104 rfl ?_
              refine z_sRi hC 3 (c_X3_cellOf (xl X) g _ _ _) gX3_enterLine_X3_cellOf rfl hd_X3_cellOf_s (by decide) ⟨rfl, rfl⟩ [] (by decide) rfl rfl rfl (Nat.le_of_ble_eq_true rfl) dX3_enterLine_106 (by decide) ?_
              refine z_istore hC (lv' := [(12, _), (10, _), (9, _), (8, _), (6, _), (4, _), (0, _), (1, _), (2, _), (3, _)]) dX3_enterLine_109 (by decide) rfl ?_
              refine z_lload hC 1 dX3_enterLine_111 rfl ?_
              refine z_aload_n hC 6 dX3_enterLine_113 rfl rfl ?_
              refine z_get hC iX3_enterLine_3 0 3 rfl rfl (by decide) mX3_enterLine_f20 rfl dX3_enterLine_114 ?_
              refine z_iload hC 0 dX3_enterLine_117 rfl ?_
              refine z_lald hC 1 rfl (by omega) (by decide) dX3_enterLine_119 ?_
              refine z_lc_ge hC 142 dX3_enterLine_120 dX3_enterLine_121 (by decide) (by omega) (by omega) (fun c_120 => ?_) (fun c_120 => ?_)
              ·
                refine z_iinc hC (lv' := [(8, _), (12, _), (10, _), (9, _), (6, _), (4, _), (0, _), (1, _), (2, _), (3, _)]) 3 dX3_enterLine_142 rfl (by decide) rfl ?_
                refine z_goto (tgt := 51) hC dX3_enterLine_145 (by decide) ?_
                refine z_lv (lv' := [(8, _), (6, _), (4, _), (0, _), (1, _), (2, _), (3, _)]) [0, 4, 5, 6, 7, 8, 9] rfl ?_
                exact ih_51 (u + 1) C2 N2 (by omega) (zEnt_x (by omega) hz hw (by rw [← hcu]; omega)) (by omega)
              ·
                refine z_aload_n hC 6 dX3_enterLine_124 rfl rfl ?_
                refine z_get hC iX3_enterLine_3 0 3 rfl rfl (by decide) mX3_enterLine_f20 rfl dX3_enterLine_125 ?_
                refine z_iload hC 0 dX3_enterLine_128 rfl ?_
                refine z_lload hC 1 dX3_enterLine_130 rfl ?_
                refine z_last hC 1 rfl (by omega) (by decide) dX3_enterLine_132 (ws' := [_, _, _, _, _, _, _, _, _, _, _, _]) rfl ?_
                refine z_aload_n hC 6 dX3_enterLine_133 rfl rfl ?_
                refine z_get hC iX3_enterLine_3 0 4 rfl rfl (by decide) mX3_enterLine_f24 rfl dX3_enterLine_134 ?_
                refine z_iload hC 0 dX3_enterLine_137 rfl ?_
                refine z_iload_n hC 8 dX3_enterLine_139 rfl rfl ?_
                refine z_i2b hC dX3_enterLine_140 (by omega) ?_
                refine z_bast hC 2 rfl (by omega) (by decide) (by omega) dX3_enterLine_141 (ws' := [_, _, _, _, _, _, _, _, _, _, _, _]) rfl ?_
                refine z_iinc hC (lv' := [(8, _), (12, _), (10, _), (9, _), (6, _), (4, _), (0, _), (1, _), (2, _), (3, _)]) 3 dX3_enterLine_142 rfl (by decide) rfl ?_
                refine z_goto (tgt := 51) hC dX3_enterLine_145 (by decide) ?_
                refine z_lv (lv' := [(8, _), (6, _), (4, _), (0, _), (1, _), (2, _), (3, _)]) [0, 4, 5, 6, 7, 8, 9] rfl ?_
                exact ih_51 (u + 1) _ _ (by omega) (zEnt_y (by omega) hz hw (by rw [← hcu]; omega)) (by omega)
            ·
              exfalso; omega
          ·
            refine z_iload hC 0 dX3_enterLine_62 rfl ?_
            refine z_aload_n hC 3 dX3_enterLine_64 rfl rfl ?_
            refine z_get hC iX3_enterLine_3 0 2 rfl rfl (by decide) mX3_enterLine_f16 rfl dX3_enterLine_65 ?_
            refine z_getN hC iX3_enterLine_1 11 2 rfl rfl (by decide) nf_RX3_109 rfl dX3_enterLine_68 ?_
            refine z_snRi hC 2 (c_X1_isUnlike (xl X) g _ _ (by omega) (by omega)) gX3_enterLine_X1_isUnlike_n118 nm_RX3_118 mX3_enterLine_iniRX1 mX3_enterLine_sa_X1_isUnlike rfl hd_X1_isUnlike_s (by decide) ⟨rfl, rfl⟩ [] (by decide) rfl rfl rfl (Nat.le_of_ble_eq_true rfl) dX3_enterLine_71 (by decide) ?_
            refine z_if_eq hC 81 dX3_enterLine_74 (by decide) (b2_r _) (fun c_74 => ?_) (fun c_74 => ?_)
            ·
              have c_74 := b2_f c_74
              refine z_iconst hC dX3_enterLine_81 ?_
              refine z_istore hC (lv' := [(9, _), (8, _), (6, _), (4, _), (0, _), (1, _), (2, _), (3, _)]) dX3_enterLine_82 (by decide) rfl ?_
              refine z_iload hC 0 dX3_enterLine_84 rfl ?_
              refine z_if_eq hC 98 dX3_enterLine_86 (by decide) (by omega) (fun c_86 => ?_) (fun c_86 => ?_)
              ·
                refine z_lload hC 2 dX3_enterLine_98 rfl ?_
                refine z_nml (fun v_100 e_100 => ?_)
                have hw : v_100 = zWh a u lo (C (((b + 1) * 51 + (i + 1)) * 4 + lo)) (zDm n K V M a b ug) := by rw [e_100]; (try rw [e_46]); first | exact zWh_t (by omega) (by omega) | exact zWh_f (by omega)
                have hcu := (hz.1 (((a + 1) * 51 + i) * 4 + u) (by omega)).1
                have h6u := h6 u (by omega) (by omega)
                rw [← hcu] at h6u
                refine z_lstore hC (lv' := [(10, _), (9, _), (8, _), (6, _), (4, _), (0, _), (1, _), (2, _), (3, _)]) dX3_enterLine_100 (by decide) rfl ?_
                refine z_iload_n hC 6 dX3_enterLine_102 rfl rfl ?_
                refine z_iload_n hC 8 dX3_enterLine_103 rfl rfl ?_
                refine z_iload hC 2 dX3_enterLine_104 rfl ?_
                refine z_sRi hC 3 (c_X3_cellOf (xl X) g _ _ _) gX3_enterLine_X3_cellOf rfl hd_X3_cellOf_s (by decide) ⟨rfl, rfl⟩ [] (by decide) rfl rfl rfl (Nat.le_of_ble_eq_true rfl) dX3_enterLine_106 (by decide) ?_
                refine z_istore hC (lv' := [(12, _), (10, _), (9, _), (8, _), (6, _), (4, _), (0, _), (1, _), (2, _), (3, _)]) dX3_enterLine_109 (by decide) rfl ?_
                refine z_lload hC 1 dX3_enterLine_111 rfl ?_
                refine z_aload_n hC 6 dX3_enterLine_113 rfl rfl ?_
                refine z_get hC iX3_enterLine_3 0 3 rfl rfl (by decide) mX3_enterLine_f20 rfl dX3_enterLine_114 ?_
                refine z_iload hC 0 dX3_enterLine_117 rfl ?_
                refine z_lald hC 1 rfl (by omega) (by decide) dX3_enterLine_119 ?_
                refine z_lc_ge hC 142 dX3_enterLine_120 dX3_enterLine_121 (by decide) (by omega) (by omega) (fun c_120 => ?_) (fun c_120 => ?_)
                ·
                  refine z_iinc hC (lv' := [(8, _), (12, _), (10, _), (9, _), (6, _), (4, _), (0, _), (1, _), (2, _), (3, _)]) 3 dX3_enterLine_142 rfl (by decide) rfl ?_
                  refine z_goto (tgt := 51) hC dX3_enterLine_145 (by decide) ?_
                  refine z_lv (lv' := [(8, _), (6, _), (4, _), (0, _), (1, _), (2, _), (3, _)]) [0, 4, 5, 6, 7, 8, 9] rfl ?_
                  exact ih_51 (u + 1) C2 N2 (by omega) (zEnt_x (by omega) hz hw (by rw [← hcu]; omega)) (by omega)
                ·
                  refine z_aload_n hC 6 dX3_enterLine_124 rfl rfl ?_
                  refine z_get hC iX3_enterLine_3 0 3 rfl rfl (by decide) mX3_enterLine_f20 rfl dX3_enterLine_125 ?_
                  refine z_iload hC 0 dX3_enterLine_128 rfl ?_
                  refine z_lload hC 1 dX3_enterLine_130 rfl ?_
                  refine z_last hC 1 rfl (by omega) (by decide) dX3_enterLine_132 (ws' := [_, _, _, _, _, _, _, _, _, _, _, _]) rfl ?_
                  refine z_aload_n hC 6 dX3_enterLine_133 rfl rfl ?_
                  refine z_get hC iX3_enterLine_3 0 4 rfl rfl (by decide) mX3_enterLine_f24 rfl dX3_enterLine_134 ?_
                  refine z_iload hC 0 dX3_enterLine_137 rfl ?_
                  refine z_iload_n hC 8 dX3_enterLine_139 rfl rfl ?_
                  refine z_i2b hC dX3_enterLine_140 (by omega) ?_
                  refine z_bast hC 2 rfl (by omega) (by decide) (by omega) dX3_enterLine_141 (ws' := [_, _, _, _, _, _, _, _, _, _, _, _]) rfl ?_
                  refine z_iinc hC (lv' := [(8, _), (12, _), (10, _), (9, _), (6, _), (4, _), (0, _), (1, _), (2, _), (3, _)]) 3 dX3_enterLine_142 rfl (by decide) rfl ?_
                  refine z_goto (tgt := 51) hC dX3_enterLine_145 (by decide) ?_
                  refine z_lv (lv' := [(8, _), (6, _), (4, _), (0, _), (1, _), (2, _), (3, _)]) [0, 4, 5, 6, 7, 8, 9] rfl ?_
                  exact ih_51 (u + 1) _ _ (by omega) (zEnt_y (by omega) hz hw (by rw [← hcu]; omega)) (by omega)
              ·
                exfalso; omega
            ·
              have c_74 := b2_t c_74
              refine z_iconst hC dX3_enterLine_77 ?_
              refine z_goto (tgt := 82) hC dX3_enterLine_78 (by decide) ?_
              refine z_istore hC (lv' := [(9, _), (8, _), (6, _), (4, _), (0, _), (1, _), (2, _), (3, _)]) dX3_enterLine_82 (by decide) rfl ?_
              refine z_iload hC 0 dX3_enterLine_84 rfl ?_
              refine z_if_eq hC 98 dX3_enterLine_86 (by decide) (by omega) (fun c_86 => ?_) (fun c_86 => ?_)
              ·
                exfalso; omega
              ·
                refine z_lload hC 2 dX3_enterLine_89 rfl ?_
                refine z_ldc2 hC (128000) mX3_enterLine_k122 (by decide) dX3_enterLine_91 ?_
                refine z_ladd hC dX3_enterLine_94 ?_
                refine z_goto (tgt := 100) hC dX3_enterLine_95 (by decide) ?_
                refine z_nml (fun v_100 e_100 => ?_)
                have hw : v_100 = zWh a u lo (C (((b + 1) * 51 + (i + 1)) * 4 + lo)) (zDm n K V M a b ug) := by rw [e_100]; (try rw [e_46]); first | exact zWh_t (by omega) (by omega) | exact zWh_f (by omega)
                have hcu := (hz.1 (((a + 1) * 51 + i) * 4 + u) (by omega)).1
                have h6u := h6 u (by omega) (by omega)
                rw [← hcu] at h6u
                refine z_lstore hC (lv' := [(10, _), (9, _), (8, _), (6, _), (4, _), (0, _), (1, _), (2, _), (3, _)]) dX3_enterLine_100 (by decide) rfl ?_
                refine z_iload_n hC 6 dX3_enterLine_102 rfl rfl ?_
                refine z_iload_n hC 8 dX3_enterLine_103 rfl rfl ?_
                refine z_iload hC 2 dX3_enterLine_104 rfl ?_
                refine z_sRi hC 3 (c_X3_cellOf (xl X) g _ _ _) gX3_enterLine_X3_cellOf rfl hd_X3_cellOf_s (by decide) ⟨rfl, rfl⟩ [] (by decide) rfl rfl rfl (Nat.le_of_ble_eq_true rfl) dX3_enterLine_106 (by decide) ?_
                refine z_istore hC (lv' := [(12, _), (10, _), (9, _), (8, _), (6, _), (4, _), (0, _), (1, _), (2, _), (3, _)]) dX3_enterLine_109 (by decide) rfl ?_
                refine z_lload hC 1 dX3_enterLine_111 rfl ?_
                refine z_aload_n hC 6 dX3_enterLine_113 rfl rfl ?_
                refine z_get hC iX3_enterLine_3 0 3 rfl rfl (by decide) mX3_enterLine_f20 rfl dX3_enterLine_114 ?_
                refine z_iload hC 0 dX3_enterLine_117 rfl ?_
                refine z_lald hC 1 rfl (by omega) (by decide) dX3_enterLine_119 ?_
                refine z_lc_ge hC 142 dX3_enterLine_120 dX3_enterLine_121 (by decide) (by omega) (by omega) (fun c_120 => ?_) (fun c_120 => ?_)
                ·
                  refine z_iinc hC (lv' := [(8, _), (12, _), (10, _), (9, _), (6, _), (4, _), (0, _), (1, _), (2, _), (3, _)]) 3 dX3_enterLine_142 rfl (by decide) rfl ?_
                  refine z_goto (tgt := 51) hC dX3_enterLine_145 (by decide) ?_
                  refine z_lv (lv' := [(8, _), (6, _), (4, _), (0, _), (1, _), (2, _), (3, _)]) [0, 4, 5, 6, 7, 8, 9] rfl ?_
                  exact ih_51 (u + 1) C2 N2 (by omega) (zEnt_x (by omega) hz hw (by rw [← hcu]; omega)) (by omega)
                ·
                  refine z_aload_n hC 6 dX3_enterLine_124 rfl rfl ?_
                  refine z_get hC iX3_enterLine_3 0 3 rfl rfl (by decide) mX3_enterLine_f20 rfl dX3_enterLine_125 ?_
                  refine z_iload hC 0 dX3_enterLine_128 rfl ?_
                  refine z_lload hC 1 dX3_enterLine_130 rfl ?_
                  refine z_last hC 1 rfl (by omega) (by decide) dX3_enterLine_132 (ws' := [_, _, _, _, _, _, _, _, _, _, _, _]) rfl ?_
                  refine z_aload_n hC 6 dX3_enterLine_133 rfl rfl ?_
                  refine z_get hC iX3_enterLine_3 0 4 rfl rfl (by decide) mX3_enterLine_f24 rfl dX3_enterLine_134 ?_
                  refine z_iload hC 0 dX3_enterLine_137 rfl ?_
                  refine z_iload_n hC 8 dX3_enterLine_139 rfl rfl ?_
                  refine z_i2b hC dX3_enterLine_140 (by omega) ?_
                  refine z_bast hC 2 rfl (by omega) (by decide) (by omega) dX3_enterLine_141 (ws' := [_, _, _, _, _, _, _, _, _, _, _, _]) rfl ?_
                  refine z_iinc hC (lv' := [(8, _), (12, _), (10, _), (9, _), (6, _), (4, _), (0, _), (1, _), (2, _), (3, _)]) 3 dX3_enterLine_142 rfl (by decide) rfl ?_
                  refine z_goto (tgt := 51) hC dX3_enterLine_145 (by decide) ?_
                  refine z_lv (lv' := [(8, _), (6, _), (4, _), (0, _), (1, _), (2, _), (3, _)]) [0, 4, 5, 6, 7, 8, 9] rfl ?_
                  exact ih_51 (u + 1) _ _ (by omega) (zEnt_y (by omega) hz hw (by rw [← hcu]; omega)) (by omega)
    exact L51 _ 0 C N (by omega) zEnt_0 (Nat.lt_succ_self _)
  ·
    exact hR (C, N) _ _ _ [0, 1, 2, 3, 4, 5, 6, 7, 8, 9, 10, 11] (by first | (refine ⟨fun _ => ⟨rfl, rfl⟩, fun q => absurd c_26 q⟩) | (refine ⟨fun q => absurd q c_26, fun _ => ?_⟩; rw [show u = 4 by omega] at hz; exact hz)) (by decide) rfl dX3_enterLine_30
set_option maxRecDepth 20000 in
theorem mX3_tryLine_f32 : Cond.fieldLink RX3 32 "BreakSearch$Search" "rules" "LBreakSearch$Rules;" ∈ wsX3_tryLine := by decide +kernel
set_option maxRecDepth 20000 in
theorem iX3_tryLine_3 : ∀ w ∈ u_ws RX3 TX3 6, w ∈ wsX3_tryLine := by decide +kernel
set_option maxRecDepth 20000 in
theorem mX3_tryLine_f36 : Cond.fieldLink RX3 36 "BreakSearch$Search" "pass" "I" ∈ wsX3_tryLine := by decide +kernel
set_option maxRecDepth 20000 in
theorem mX3_tryLine_iniRX2 : Cond.initialized RX2 ∈ wsX3_tryLine := by decide +kernel
set_option maxRecDepth 20000 in
theorem mX3_tryLine_im_X2_toleranceIn : Cond.instanceMethod yX2_toleranceIn ∈ wsX3_tryLine := by decide +kernel
set_option maxRecDepth 20000 in
theorem mX3_tryLine_se_X2_toleranceIn : Cond.selects RX2 yX2_toleranceIn yX2_toleranceIn ∈ wsX3_tryLine := by decide +kernel
set_option maxRecDepth 20000 in
theorem mX3_tryLine_im_X2_moreStretchIn : Cond.instanceMethod yX2_moreStretchIn ∈ wsX3_tryLine := by decide +kernel
set_option maxRecDepth 20000 in
theorem mX3_tryLine_se_X2_moreStretchIn : Cond.selects RX2 yX2_moreStretchIn yX2_moreStretchIn ∈ wsX3_tryLine := by decide +kernel
set_option maxRecDepth 20000 in
theorem mX3_tryLine_l89 : Cond.methodLink RX3 89 Lib.Math.min.name ∈ wsX3_tryLine := by decide +kernel
set_option maxRecDepth 20000 in
theorem mX3_tryLine_ls89 : Cond.static Lib.Math.min.name ∈ wsX3_tryLine := by decide +kernel
set_option maxRecDepth 20000 in
theorem mX3_tryLine_li : Cond.initialized "java/lang/Math" ∈ wsX3_tryLine := by decide +kernel
set_option maxRecDepth 20000 in
theorem mX3_tryLine_lc89 : Cond.code Lib.Math.min.name Lib.Math.min.code 2 (some .int) ∈ wsX3_tryLine := by decide +kernel
set_option maxRecDepth 20000 in
theorem mX3_tryLine_f16 : Cond.fieldLink RX3 16 "BreakSearch$Search" "line" "LBreakSearch$Line;" ∈ wsX3_tryLine := by decide +kernel
set_option maxRecDepth 20000 in
theorem mX3_tryLine_iniRX1 : Cond.initialized RX1 ∈ wsX3_tryLine := by decide +kernel
set_option maxRecDepth 20000 in
theorem mX3_tryLine_im_X1_isToleratedBy : Cond.instanceMethod yX1_isToleratedBy ∈ wsX3_tryLine := by decide +kernel
set_option maxRecDepth 20000 in
theorem mX3_tryLine_se_X1_isToleratedBy : Cond.selects RX1 yX1_isToleratedBy yX1_isToleratedBy ∈ wsX3_tryLine := by decide +kernel
set_option maxRecDepth 20000 in
theorem mX3_tryLine_f28 : Cond.fieldLink RX3 28 "BreakSearch$Search" "items" "LBreakSearch$Items;" ∈ wsX3_tryLine := by decide +kernel
set_option maxRecDepth 20000 in
theorem iX3_tryLine_2 : ∀ w ∈ u_ws RX2 TX2 2, w ∈ wsX3_tryLine := by decide +kernel
set_option maxRecDepth 20000 in
theorem mX3_tryLine_im_X1_measure : Cond.instanceMethod yX1_measure ∈ wsX3_tryLine := by decide +kernel
set_option maxRecDepth 20000 in
theorem mX3_tryLine_se_X1_measure : Cond.selects RX1 yX1_measure yX1_measure ∈ wsX3_tryLine := by decide +kernel
abbrev rm_X3_tryLine : Room := { frames := 5, cells := 0, slots := 0, locals := 115 }
set_option maxHeartbeats 4000000 in
set_option maxRecDepth 100000 in
theorem c_X3_tryLine (l : Launch) (g : zG) (hS aC aN : Nat) (ps : Int) (C N : Int → Int) (hI aK aV aP aM aL aS aH : Nat) (n : Int) (K V P M LB SB HB : Int → Int) (oR aW aT : Nat) (W T : Int → Int) (hL : Nat) (k ug lo sd : Int) (mt ex : Int) (d : zDP) (a s b : Int) (h1 : zEnv n K V P M LB SB HB W T ps mt ex d) (h2 : -1 ≤ a ∧ a < b ∧ b ≤ n) (h3 : s = zSt K n a) (h4 : zMay K V M n b mt ∧ ∀ m, a < m → m < b → ¬ zMust K V n m) (h5 : zRow d a (zLe a) (min (a + 1) 49 + 1) (b - a - 1).toNat C N) (h6 : ∀ i s, zLe a ≤ i → i < (min (a + 1) 49 + 1) → 0 ≤ s → s ≤ 3 → zRst d C b (i + 1) s) : zMWv (S := (Int → Int) × (Int → Int) × (Int) × (Int) × (Int) × (Int)) l yX3_tryLine wsX3_tryLine rm_X3_tryLine g [(hS, eo 3 [.ref hI, .ref oR, .ref hL, .ref aC, .ref aN, .int (iZ (ps))]), (aC, el g 20808 C), (aN, eb g 20808 N), (hI, eo 0 [.ref aK, .ref aV, .ref aP, .ref aM, .ref aL, .ref aS, .ref aH, .int (iZ (n))]), (aK, ei g 100 K), (aV, ei g 100 V), (aP, ei g 100 P), (aM, ez g 100 M), (aL, ei g 101 LB), (aS, ei g 101 SB), (aH, ei g 101 HB), (oR, eo 2 [.ref aW, .ref aT]), (aW, ei g 50 W), (aT, ei g 3 T), (hL, eo 1 [.int (iZ (k)), .int (iZ (ug)), .int (iZ (lo)), .int (iZ (sd))])] [.ref hS, .int (iZ (a)), .int (iZ (s)), .int (iZ (b))] (fun u => zFr a (zLe a) (min (a + 1) 49 + 1) C N u.1 u.2.1 ∧ zRow d a (zLe a) (min (a + 1) 49 + 1) (b - a).toNat u.1 u.2.1) (fun u => [(hS, eo 3 [.ref hI, .ref oR, .ref hL, .ref aC, .ref aN, .int (iZ (ps))]), (aC, el g 20808 u.1), (aN, eb g 20808 u.2.1), (hI, eo 0 [.ref aK, .ref aV, .ref aP, .ref aM, .ref aL, .ref aS, .ref aH, .int (iZ (n))]), (aK, ei g 100 K), (aV, ei g 100 V), (aP, ei g 100 P), (aM, ez g 100 M), (aL, ei g 101 LB), (aS, ei g 101 SB), (aH, ei g 101 HB), (oR, eo 2 [.ref aW, .ref aT]), (aW, ei g 50 W), (aT, ei g 3 T), (hL, eo 1 [.int (iZ (u.2.2.1)), .int (iZ (u.2.2.2.1)), .int (iZ (u.2.2.2.2.1)), .int (iZ (u.2.2.2.2.2))])]) 0 0 := by
  refine z_beWv (cc := cX3_tryLine) (nL := 9) (plainFor_of_name (by decide +kernel)) rfl (Nat.le_of_ble_eq_true rfl) ?_
  intro X A hC hN hR
  have hC : zC X g cX3_tryLine RX3 wsX3_tryLine rm_X3_tryLine 9 := hC
  show ZG X g (zD X A) 0 0 [(hS, eo 3 [.ref hI, .ref oR, .ref hL, .ref aC, .ref aN, .int (iZ (ps))]), (aC, el g 20808 C), (aN, eb g 20808 N), (hI, eo 0 [.ref aK, .ref aV, .ref aP, .ref aM, .ref aL, .ref aS, .ref aH, .int (iZ (n))]), (aK, ei g 100 K), (aV, ei g 100 V), (aP, ei g 100 P), (aM, ez g 100 M), (aL, ei g 101 LB), (aS, ei g 101 SB), (aH, ei g 101 HB), (oR, eo 2 [.ref aW, .ref aT]), (aW, ei g 50 W), (aT, ei g 3 T), (hL, eo 1 [.int (iZ (k)), .int (iZ (ug)), .int (iZ (lo)), .int (iZ (sd))])] [(0, .ref hS), (1, .int (iZ (a))), (2, .int (iZ (s))), (3, .int (iZ (b)))] 0 []
  have hB := zEnv_b h1
  obtain ⟨hI1, hI2, hI3, hI4, hI5, hI6, hI7, hI8, hd⟩ := id h1
  have hn := hI1.1
  have hst : 0 ≤ s ∧ s ≤ n := by rw [h3]; unfold zSt; split; omega; have := nb_le (K := K) (e := n) (j := a + 1) (by omega); omega
  have hle := zLe_e a
  refine z_aload_n hC 0 dX3_tryLine_0 rfl rfl ?_
  refine z_get hC iX3_tryLine_3 0 1 rfl rfl (by decide) mX3_tryLine_f32 rfl dX3_tryLine_1 ?_
  refine z_aload_n hC 0 dX3_tryLine_4 rfl rfl ?_
  refine z_get hC iX3_tryLine_3 0 5 rfl rfl (by decide) mX3_tryLine_f36 rfl dX3_tryLine_5 ?_
  refine z_vnRi hC 1 (c_X2_toleranceIn (xl X) g _ _ _ _ _ _ (by omega)) gX3_tryLine_X2_toleranceIn_n83 nm_RX3_83 mX3_tryLine_iniRX2 mX3_tryLine_im_X2_toleranceIn mX3_tryLine_se_X2_toleranceIn rfl hd_X2_toleranceIn_s (by decide) ⟨rfl, rfl⟩ [11, 12, 13] (by decide) rfl 11 2 rfl rfl rfl rfl rfl (Nat.le_of_ble_eq_true rfl) dX3_tryLine_8 (by decide) ?_
  refine z_nm (fun v_11 e_11 => ?_)
  rw [← e_11] at hd
  have hv11 : -1 ≤ v_11 ∧ v_11 ≤ 10000 := by rw [e_11]; split <;> omega
  refine z_istore hC (lv' := [(4, _), (0, _), (1, _), (2, _), (3, _)]) dX3_tryLine_11 (by decide) rfl ?_
  refine z_aload_n hC 1 dX3_tryLine_13 rfl rfl ?_
  refine z_get hC iX3_tryLine_3 0 1 rfl rfl (by decide) mX3_tryLine_f32 rfl dX3_tryLine_14 ?_
  refine z_aload_n hC 1 dX3_tryLine_17 rfl rfl ?_
  refine z_get hC iX3_tryLine_3 0 5 rfl rfl (by decide) mX3_tryLine_f36 rfl dX3_tryLine_18 ?_
  refine z_vnRi hC 1 (c_X2_moreStretchIn (xl X) g _ _ _ _ _ _ (by omega)) gX3_tryLine_X2_moreStretchIn_n86 nm_RX3_86 mX3_tryLine_iniRX2 mX3_tryLine_im_X2_moreStretchIn mX3_tryLine_se_X2_moreStretchIn rfl hd_X2_moreStretchIn_s (by decide) ⟨rfl, rfl⟩ [11, 12, 13] (by decide) rfl 11 2 rfl rfl rfl rfl rfl (Nat.le_of_ble_eq_true rfl) dX3_tryLine_21 (by decide) ?_
  refine z_nm (fun v_24 e_24 => ?_)
  rw [← e_24] at hd
  have hv24 : 0 ≤ v_24 ∧ v_24 ≤ 10000 := by rw [e_24]; split <;> omega
  refine z_istore hC (lv' := [(5, _), (4, _), (0, _), (1, _), (2, _), (3, _)]) dX3_tryLine_24 (by decide) rfl ?_
  have J36 : ∀ (le : Int), le = zLe a → ZG X g (zD X A) 0 0 [(hS, eo 3 [.ref hI, .ref oR, .ref hL, .ref aC, .ref aN, .int (iZ (ps))]), (aC, el g 20808 C), (aN, eb g 20808 N), (hI, eo 0 [.ref aK, .ref aV, .ref aP, .ref aM, .ref aL, .ref aS, .ref aH, .int (iZ (n))]), (aK, ei g 100 K), (aV, ei g 100 V), (aP, ei g 100 P), (aM, ez g 100 M), (aL, ei g 101 LB), (aS, ei g 101 SB), (aH, ei g 101 HB), (oR, eo 2 [.ref aW, .ref aT]), (aW, ei g 50 W), (aT, ei g 3 T), (hL, eo 1 [.int (iZ (k)), .int (iZ (ug)), .int (iZ (lo)), .int (iZ (sd))])] [(5, .int (iZ (v_24))), (4, .int (iZ (v_11))), (0, .ref hS), (1, .int (iZ (a))), (2, .int (iZ (s))), (3, .int (iZ (b)))] 36 [.int (iZ (le))] := by
    intro le hle2
    refine z_istore hC (lv' := [(6, _), (5, _), (4, _), (0, _), (1, _), (2, _), (3, _)]) dX3_tryLine_36 (by decide) rfl ?_
    refine z_iload_n hC 4 dX3_tryLine_38 rfl rfl ?_
    refine z_iconst hC dX3_tryLine_39 ?_
    refine z_iadd hC dX3_tryLine_40 ?_
    refine z_bip hC dX3_tryLine_41 (by decide) ?_
    refine z_min hC mX3_tryLine_l89 mX3_tryLine_ls89 mX3_tryLine_li mX3_tryLine_lc89 (by omega) (by omega) (by decide) (Nat.le_of_ble_eq_true rfl) (by decide) (by decide) dX3_tryLine_43 ?_
    refine z_istore hC (lv' := [(7, _), (6, _), (5, _), (4, _), (0, _), (1, _), (2, _), (3, _)]) dX3_tryLine_46 (by decide) rfl ?_
    refine z_iload hC 1 dX3_tryLine_48 rfl ?_
    refine z_istore hC (lv' := [(8, _), (7, _), (6, _), (5, _), (4, _), (0, _), (1, _), (2, _), (3, _)]) dX3_tryLine_50 (by decide) rfl ?_
    have L52 : ∀ (fu : Nat) (i : Int) (C2 N2 : Int → Int) (l2 u2 k2 d2 : Int), (zLe a ≤ i ∧ i ≤ min (a + 1) 49 + 1) → (zFr a (zLe a) i C N C2 N2) → (zRow d a (zLe a) i (b - a).toNat C2 N2) → (zLe a < i → zMeas n K P LB SB HB W v_24 a b (i - 1) l2 u2 k2 d2) → (51 - i).toNat < fu → ZG X g (zD X A) 0 0 [(hS, eo 3 [.ref hI, .ref oR, .ref hL, .ref aC, .ref aN, .int (iZ (ps))]), (aC, el g 20808 C2), (aN, eb g 20808 N2), (hI, eo 0 [.ref aK, .ref aV, .ref aP, .ref aM, .ref aL, .ref aS, .ref aH, .int (iZ (n))]), (aK, ei g 100 K), (aV, ei g 100 V), (aP, ei g 100 P), (aM, ez g 100 M), (aL, ei g 101 LB), (aS, ei g 101 SB), (aH, ei g 101 HB), (oR, eo 2 [.ref aW, .ref aT]), (aW, ei g 50 W), (aT, ei g 3 T), (hL, eo 1 [.int (iZ (l2)), .int (iZ (u2)), .int (iZ (k2)), .int (iZ (d2))])] [(8, .int (iZ (i))), (7, .int (iZ (min (a + 1) 49))), (6, .int (iZ (le))), (5, .int (iZ (v_24))), (4, .int (iZ (v_11))), (0, .ref hS), (1, .int (iZ (a))), (2, .int (iZ (s))), (3, .int (iZ (b)))] 52 [] := by
      intro fu
      induction fu with
      | zero => intro i C2 N2 l2 u2 k2 d2; intros; omega
      | succ fu ih_52 =>
        intro i C2 N2 l2 u2 k2 d2 hi hF hRw hm hn
        refine z_iload hC 0 dX3_tryLine_52 rfl ?_
        refine z_iload hC 1 dX3_tryLine_54 rfl ?_
        refine z_icmp_gt hC 142 dX3_tryLine_56 (by decide) (by omega) (by omega) (fun c_56 => ?_) (fun c_56 => ?_)
        ·
          exact hR (C2, N2, l2, u2, k2, d2) _ _ _ [0, 1, 2, 3, 4, 5, 6, 7, 8, 9, 10, 11, 12, 13, 14] (by rw [show i = min (a + 1) 49 + 1 by omega] at hF hRw; exact ⟨hF, hRw⟩) (by decide) rfl dX3_tryLine_142
        ·
          have J116 : ∀ (l3 u3 k3 d3 : Int), zMeas n K P LB SB HB W v_24 a b i l3 u3 k3 d3 → ZG X g (zD X A) 0 0 [(hS, eo 3 [.ref hI, .ref oR, .ref hL, .ref aC, .ref aN, .int (iZ (ps))]), (aC, el g 20808 C2), (aN, eb g 20808 N2), (hI, eo 0 [.ref aK, .ref aV, .ref aP, .ref aM, .ref aL, .ref aS, .ref aH, .int (iZ (n))]), (aK, ei g 100 K), (aV, ei g 100 V), (aP, ei g 100 P), (aM, ez g 100 M), (aL, ei g 101 LB), (aS, ei g 101 SB), (aH, ei g 101 HB), (oR, eo 2 [.ref aW, .ref aT]), (aW, ei g 50 W), (aT, ei g 3 T), (hL, eo 1 [.int (iZ (l3)), .int (iZ (u3)), .int (iZ (k3)), .int (iZ (d3))])] [(8, .int (iZ (i))), (7, .int (iZ (min (a + 1) 49))), (6, .int (iZ (le))), (5, .int (iZ (v_24))), (4, .int (iZ (v_11))), (0, .ref hS), (1, .int (iZ (a))), (2, .int (iZ (s))), (3, .int (iZ (b)))] 116 [] := by
            intro l3 u3 k3 d3 hm3
            have hm3z := zMeas_01 hm3
            refine z_aload_n hC 5 dX3_tryLine_116 rfl rfl ?_
            refine z_get hC iX3_tryLine_3 0 2 rfl rfl (by decide) mX3_tryLine_f16 rfl dX3_tryLine_117 ?_
            refine z_iload hC 4 dX3_tryLine_120 rfl ?_
            refine z_vnRi hC 1 (c_X1_isToleratedBy (xl X) g _ _ _ _ _ _ hm3z.1 (fun q => (hm3z.2 q).2.2.2.1) (by omega)) gX3_tryLine_X1_isToleratedBy_n103 nm_RX3_103 mX3_tryLine_iniRX1 mX3_tryLine_im_X1_isToleratedBy mX3_tryLine_se_X1_isToleratedBy rfl hd_X1_isToleratedBy_s (by decide) ⟨rfl, rfl⟩ [14] (by decide) rfl 14 1 rfl rfl rfl rfl rfl (Nat.le_of_ble_eq_true rfl) dX3_tryLine_122 (by decide) ?_
            refine z_if_eq hC 136 dX3_tryLine_125 (by decide) (b2_r _) (fun c_125 => ?_) (fun c_125 => ?_)
            ·
              have c_125 := b2_f c_125
              refine z_iinc hC (lv' := [(8, _), (7, _), (6, _), (5, _), (4, _), (0, _), (1, _), (2, _), (3, _)]) 0 dX3_tryLine_136 rfl (by decide) rfl ?_
              refine z_goto (tgt := 52) hC dX3_tryLine_139 (by decide) ?_
              have hno := tl_no (d := d) (a := a) (b := b) (j := (b - a - 1).toNat) (by omega) (by omega) (by omega) hF hRw (fun c g1 g2 => h5 i c (by omega) (by omega) g1 g2) (by rw [hd]; intro q; have q4 : zOk (lLk n K P LB W a b i) (lSh n K HB a b) := q.2.2.2.1; have q5 : lUg n K P LB SB HB W v_24 a b i ≤ v_11 := q.2.2.2.2; have q6 := hm3.2.1 q4; exact c_125 ⟨q6.1, by rw [q6.2.1]; exact q5⟩)
              exact ih_52 (i + 1) _ _ _ _ _ _ (by omega) hno.1 hno.2 (fun _ => by rw [show i + 1 - 1 = i by omega]; exact hm3) (by omega)
            ·
              have c_125 := b2_t c_125
              have hs1 := (hm3z.2 c_125.1)
              have hft : d.2.2.1 a b i := by rw [hd]; exact ⟨by omega, h4.1, h4.2, hs1.1, by rw [← hs1.2.1]; exact c_125.2⟩
              have hcl : d.2.2.2.2 a b i = k3 := by rw [hs1.2.2.1, hd]; rfl
              have hdl : d.2.2.2.1 a b i = zDm n K V M a b u3 := by rw [hs1.2.1, hd]; rfl
              have hrs := h6 i k3 (by omega) (by omega) (by omega) (by omega)
              have hrk : zRst d C2 b (i + 1) k3 := zRst_kept hrs (hF _ (by omega)).1
              have hrin := zRst_in hB (by omega) hrk
              have hcin : ∀ c, 0 ≤ c → c ≤ 3 → C2 (((a + 1) * 51 + i) * 4 + c) = 9223372036854775807 ∨ (-1000000000000 ≤ C2 (((a + 1) * 51 + i) * 4 + c) ∧ C2 (((a + 1) * 51 + i) * 4 + c) ≤ 1000000000000) := fun c g1 g2 => by rw [(hF _ (by omega)).1]; exact zCc_in hB (by omega) (zF_in2 hB (by omega) a c _) (h5 i c (by omega) (by omega) g1 g2)
              refine z_aload_n hC 5 dX3_tryLine_128 rfl rfl ?_
              refine z_iload_n hC 6 dX3_tryLine_129 rfl rfl ?_
              refine z_iload_n hC 8 dX3_tryLine_130 rfl rfl ?_
              refine z_iload hC 0 dX3_tryLine_131 rfl ?_
              refine z_vWv (wr := [_, _, _]) hC 3 (c_X3_enterLine (xl X) g _ _ _ _ _ _ _ _ _ _ _ _ _ _ _ _ _ _ _ _ _ _ _ _ _ _ _ _ _ _ _ hI1 (by omega) (by omega) (by omega) hrin hcin) gX3_tryLine_X3_enterLine rfl hd_X3_enterLine_v (by decide) ⟨rfl, rfl⟩ [0, 1, 2, 3, 4, 5, 6, 7, 8, 9, 10, 14] [11, 12, 13] (by decide) rfl rfl (by decide) (by decide) 0 3 rfl rfl rfl rfl rfl (Nat.le_of_ble_eq_true rfl) dX3_tryLine_133 (by decide) (fun u_133 p_133 => ?_)
              obtain ⟨C1_133, N1_133⟩ := u_133
              try dsimp only at p_133
              refine z_ws (ws' := [(hS, eo 3 [.ref hI, .ref oR, .ref hL, .ref aC, .ref aN, .int (iZ (ps))]), (aC, el g 20808 C1_133), (aN, eb g 20808 N1_133), (hI, eo 0 [.ref aK, .ref aV, .ref aP, .ref aM, .ref aL, .ref aS, .ref aH, .int (iZ (n))]), (aK, ei g 100 K), (aV, ei g 100 V), (aP, ei g 100 P), (aM, ez g 100 M), (aL, ei g 101 LB), (aS, ei g 101 SB), (aH, ei g 101 HB), (oR, eo 2 [.ref aW, .ref aT]), (aW, ei g 50 W), (aT, ei g 3 T), (hL, eo 1 [.int (iZ (l3)), .int (iZ (u3)), .int (iZ (k3)), .int (iZ (d3))])]) [3, 4, 5, 6, 7, 8, 9, 10, 11, 12, 13, 0, 1, 2, 14] (by decide) rfl ?_
              refine z_iinc hC (lv' := [(8, _), (7, _), (6, _), (5, _), (4, _), (0, _), (1, _), (2, _), (3, _)]) 0 dX3_tryLine_136 rfl (by decide) rfl ?_
              refine z_goto (tgt := 52) hC dX3_tryLine_139 (by decide) ?_
              have hen := tl_en (d := d) hB (a := a) (b := b) (j := (b - a - 1).toNat) (by omega) (by omega) (by omega) (by omega) (by omega) hF hRw (fun c g1 g2 => h5 i c (by omega) (by omega) g1 g2) hft (by rw [hcl]; omega) (by rw [hcl]; exact hrs) (by rw [hcl]; exact p_133.1) (by rw [hcl, hdl]; exact p_133.2)
              exact ih_52 (i + 1) _ _ _ _ _ _ (by omega) hen.1 hen.2 (fun _ => by rw [show i + 1 - 1 = i by omega]; exact hm3) (by omega)
          refine z_iload hC 0 dX3_tryLine_59 rfl ?_
          refine z_iload hC 2 dX3_tryLine_61 rfl ?_
          refine z_icmp_eq hC 91 dX3_tryLine_63 (by decide) (by omega) (by omega) (fun c_63 => ?_) (fun c_63 => ?_)
          ·
            refine z_aload_n hC 5 dX3_tryLine_91 rfl rfl ?_
            refine z_get hC iX3_tryLine_3 0 2 rfl rfl (by decide) mX3_tryLine_f16 rfl dX3_tryLine_92 ?_
            refine z_aload_n hC 5 dX3_tryLine_95 rfl rfl ?_
            refine z_get hC iX3_tryLine_3 0 0 rfl rfl (by decide) mX3_tryLine_f28 rfl dX3_tryLine_96 ?_
            refine z_iload_n hC 7 dX3_tryLine_99 rfl rfl ?_
            refine z_iload_n hC 8 dX3_tryLine_100 rfl rfl ?_
            refine z_aload_n hC 5 dX3_tryLine_101 rfl rfl ?_
            refine z_get hC iX3_tryLine_3 0 1 rfl rfl (by decide) mX3_tryLine_f32 rfl dX3_tryLine_102 ?_
            refine z_getN hC iX3_tryLine_2 11 0 rfl rfl (by decide) nf_RX3_95 rfl dX3_tryLine_105 ?_
            refine z_iload hC 0 dX3_tryLine_108 rfl ?_
            refine z_iald hC 12 rfl (by omega) (by decide) dX3_tryLine_110 ?_
            refine z_iload hC 3 dX3_tryLine_111 rfl ?_
            refine z_vnWv (wr := [_, _, _, _, _, _]) hC 5 (c_X1_measure (xl X) g _ _ _ _ _ _ _ _ _ _ _ _ _ _ _ _ _ _ _ _ _ _ _ _ _ hI1 hI2 (by omega) (by have := hI3 i (by omega) (by omega); omega)) gX3_tryLine_X1_measure_n99 nm_RX3_99 mX3_tryLine_iniRX1 mX3_tryLine_im_X1_measure mX3_tryLine_se_X1_measure rfl hd_X1_measure_s (by decide) ⟨rfl, rfl⟩ [14, 3, 4, 5, 6, 7, 8, 9, 10] [0, 1, 2, 11, 12, 13] (by decide) rfl rfl (by decide) (by decide) 14 1 rfl rfl rfl rfl rfl (Nat.le_of_ble_eq_true rfl) dX3_tryLine_113 (by decide) (fun u_113 p_113 => ?_)
            obtain ⟨l1_113, u1_113, k1_113, d1_113⟩ := u_113
            try dsimp only at p_113
            refine z_ws (ws' := [(hS, eo 3 [.ref hI, .ref oR, .ref hL, .ref aC, .ref aN, .int (iZ (ps))]), (aC, el g 20808 C2), (aN, eb g 20808 N2), (hI, eo 0 [.ref aK, .ref aV, .ref aP, .ref aM, .ref aL, .ref aS, .ref aH, .int (iZ (n))]), (aK, ei g 100 K), (aV, ei g 100 V), (aP, ei g 100 P), (aM, ez g 100 M), (aL, ei g 101 LB), (aS, ei g 101 SB), (aH, ei g 101 HB), (oR, eo 2 [.ref aW, .ref aT]), (aW, ei g 50 W), (aT, ei g 3 T), (hL, eo 1 [.int (iZ (l1_113)), .int (iZ (u1_113)), .int (iZ (k1_113)), .int (iZ (d1_113))])]) [0, 1, 2, 7, 8, 9, 10, 11, 12, 13, 14, 3, 4, 5, 6] (by decide) rfl ?_
            exact J116 _ _ _ _ (by unfold zMeas lUg lCl lLk lSt lSh; rw [← h3]; exact p_113)
          ·
            refine z_aload_n hC 5 dX3_tryLine_66 rfl rfl ?_
            refine z_get hC iX3_tryLine_3 0 1 rfl rfl (by decide) mX3_tryLine_f32 rfl dX3_tryLine_67 ?_
            refine z_getN hC iX3_tryLine_2 11 0 rfl rfl (by decide) nf_RX3_95 rfl dX3_tryLine_70 ?_
            refine z_iload hC 0 dX3_tryLine_73 rfl ?_
            refine z_iald hC 12 rfl (by omega) (by decide) dX3_tryLine_75 ?_
            refine z_aload_n hC 5 dX3_tryLine_76 rfl rfl ?_
            refine z_get hC iX3_tryLine_3 0 1 rfl rfl (by decide) mX3_tryLine_f32 rfl dX3_tryLine_77 ?_
            refine z_getN hC iX3_tryLine_2 11 0 rfl rfl (by decide) nf_RX3_95 rfl dX3_tryLine_80 ?_
            refine z_iload hC 0 dX3_tryLine_83 rfl ?_
            refine z_iconst hC dX3_tryLine_85 ?_
            refine z_isub hC dX3_tryLine_86 ?_
            refine z_iald hC 12 rfl (by omega) (by decide) dX3_tryLine_87 ?_
            refine z_icmp_eq hC 116 dX3_tryLine_88 (by decide) (by have := hI3 i (by omega) (by omega); omega) (by have := hI3 (i - 1) (by omega) (by omega); omega) (fun c_88 => ?_) (fun c_88 => ?_)
            ·
              exact J116 _ _ _ _ (zMeas_same (hm (by omega)) c_88)
            ·
              refine z_aload_n hC 5 dX3_tryLine_91 rfl rfl ?_
              refine z_get hC iX3_tryLine_3 0 2 rfl rfl (by decide) mX3_tryLine_f16 rfl dX3_tryLine_92 ?_
              refine z_aload_n hC 5 dX3_tryLine_95 rfl rfl ?_
              refine z_get hC iX3_tryLine_3 0 0 rfl rfl (by decide) mX3_tryLine_f28 rfl dX3_tryLine_96 ?_
              refine z_iload_n hC 7 dX3_tryLine_99 rfl rfl ?_
              refine z_iload_n hC 8 dX3_tryLine_100 rfl rfl ?_
              refine z_aload_n hC 5 dX3_tryLine_101 rfl rfl ?_
              refine z_get hC iX3_tryLine_3 0 1 rfl rfl (by decide) mX3_tryLine_f32 rfl dX3_tryLine_102 ?_
              refine z_getN hC iX3_tryLine_2 11 0 rfl rfl (by decide) nf_RX3_95 rfl dX3_tryLine_105 ?_
              refine z_iload hC 0 dX3_tryLine_108 rfl ?_
              refine z_iald hC 12 rfl (by omega) (by decide) dX3_tryLine_110 ?_
              refine z_iload hC 3 dX3_tryLine_111 rfl ?_
              refine z_vnWv (wr := [_, _, _, _, _, _]) hC 5 (c_X1_measure (xl X) g _ _ _ _ _ _ _ _ _ _ _ _ _ _ _ _ _ _ _ _ _ _ _ _ _ hI1 hI2 (by omega) (by have := hI3 i (by omega) (by omega); omega)) gX3_tryLine_X1_measure_n99 nm_RX3_99 mX3_tryLine_iniRX1 mX3_tryLine_im_X1_measure mX3_tryLine_se_X1_measure rfl hd_X1_measure_s (by decide) ⟨rfl, rfl⟩ [14, 3, 4, 5, 6, 7, 8, 9, 10] [0, 1, 2, 11, 12, 13] (by decide) rfl rfl (by decide) (by decide) 14 1 rfl rfl rfl rfl rfl (Nat.le_of_ble_eq_true rfl) dX3_tryLine_113 (by decide) (fun u_113 p_113 => ?_)
              obtain ⟨l1_113, u1_113, k1_113, d1_113⟩ := u_113
              try dsimp only at p_113
              refine z_ws (ws' := [(hS, eo 3 [.ref hI, .ref oR, .ref hL, .ref aC, .ref aN, .int (iZ (ps))]), (aC, el g 20808 C2), (aN, eb g 20808 N2), (hI, eo 0 [.ref aK, .ref aV, .ref aP, .ref aM, .ref aL, .ref aS, .ref aH, .int (iZ (n))]), (aK, ei g 100 K), (aV, ei g 100 V), (aP, ei g 100 P), (aM, ez g 100 M), (aL, ei g 101 LB), (aS, ei g 101 SB), (aH, ei g 101 HB), (oR, eo 2 [.ref aW, .ref aT]), (aW, ei g 50 W), (aT, ei g 3 T), (hL, eo 1 [.int (iZ (l1_113)), .int (iZ (u1_113)), .int (iZ (k1_113)), .int (iZ (d1_113))])]) [0, 1, 2, 7, 8, 9, 10, 11, 12, 13, 14, 3, 4, 5, 6] (by decide) rfl ?_
              exact J116 _ _ _ _ (by unfold zMeas lUg lCl lLk lSt lSh; rw [← h3]; exact p_113)
    exact L52 _ le C N _ _ _ _ (by omega) (by rw [hle2]; exact zFr_0) (by rw [hle2]; exact zRow_0) (fun q => by omega) (Nat.lt_succ_self _)
  refine z_iload_n hC 3 dX3_tryLine_26 rfl rfl ?_
  refine z_iconst hC dX3_tryLine_27 ?_
  refine z_icmp_ne hC 35 dX3_tryLine_28 (by decide) (by omega) (by omega) (fun c_28 => ?_) (fun c_28 => ?_)
  ·
    refine z_iconst hC dX3_tryLine_35 ?_
    exact J36 _ (by omega)
  ·
    refine z_iconst hC dX3_tryLine_31 ?_
    refine z_goto (tgt := 36) hC dX3_tryLine_32 (by decide) ?_
    exact J36 _ (by omega)
set_option maxRecDepth 20000 in
theorem mX3_tryLinesBehind_f28 : Cond.fieldLink RX3 28 "BreakSearch$Search" "items" "LBreakSearch$Items;" ∈ wsX3_tryLinesBehind := by decide +kernel
set_option maxRecDepth 20000 in
theorem iX3_tryLinesBehind_3 : ∀ w ∈ u_ws RX3 TX3 6, w ∈ wsX3_tryLinesBehind := by decide +kernel
set_option maxRecDepth 20000 in
theorem mX3_tryLinesBehind_iniRX0 : Cond.initialized RX0 ∈ wsX3_tryLinesBehind := by decide +kernel
set_option maxRecDepth 20000 in
theorem mX3_tryLinesBehind_im_X0_startBehind : Cond.instanceMethod yX0_startBehind ∈ wsX3_tryLinesBehind := by decide +kernel
set_option maxRecDepth 20000 in
theorem mX3_tryLinesBehind_se_X0_startBehind : Cond.selects RX0 yX0_startBehind yX0_startBehind ∈ wsX3_tryLinesBehind := by decide +kernel
set_option maxRecDepth 20000 in
theorem iX3_tryLinesBehind_0 : ∀ w ∈ u_ws RX0 TX0 8, w ∈ wsX3_tryLinesBehind := by decide +kernel
set_option maxRecDepth 20000 in
theorem mX3_tryLinesBehind_im_X0_hasToBreakAt : Cond.instanceMethod yX0_hasToBreakAt ∈ wsX3_tryLinesBehind := by decide +kernel
set_option maxRecDepth 20000 in
theorem mX3_tryLinesBehind_se_X0_hasToBreakAt : Cond.selects RX0 yX0_hasToBreakAt yX0_hasToBreakAt ∈ wsX3_tryLinesBehind := by decide +kernel
set_option maxRecDepth 20000 in
theorem mX3_tryLinesBehind_im_X0_mayBreakAt : Cond.instanceMethod yX0_mayBreakAt ∈ wsX3_tryLinesBehind := by decide +kernel
set_option maxRecDepth 20000 in
theorem mX3_tryLinesBehind_se_X0_mayBreakAt : Cond.selects RX0 yX0_mayBreakAt yX0_mayBreakAt ∈ wsX3_tryLinesBehind := by decide +kernel
abbrev rm_X3_tryLinesBehind : Room := { frames := 6, cells := 0, slots := 0, locals := 143 }
set_option maxHeartbeats 4000000 in
set_option maxRecDepth 100000 in
theorem c_X3_tryLinesBehind (l : Launch) (g : zG) (hS aC aN : Nat) (ps : Int) (C N : Int → Int) (hI aK aV aP aM aL aS aH : Nat) (n : Int) (K V P M LB SB HB : Int → Int) (oR aW aT : Nat) (W T : Int → Int) (hL : Nat) (k ug lo sd : Int) (mt ex : Int) (d : zDP) (a : Int) (h1 : zEnv n K V P M LB SB HB W T ps mt ex d) (h2 : -1 ≤ a ∧ a < n ∨ (a = -1 ∧ n = 0)) (h3 : ∀ i c, zLe a ≤ i → i < (min (a + 1) 49 + 1) → 0 ≤ c → c ≤ 3 → C (((a + 1) * 51 + i) * 4 + c) = 9223372036854775807) (h4 : ∀ b i s, a < b → b ≤ n → zMay K V M n b mt → zLe a ≤ i → i < (min (a + 1) 49 + 1) → 0 ≤ s → s ≤ 3 → zRst d C b (i + 1) s) : zMWv (S := (Int → Int) × (Int → Int) × (Int) × (Int) × (Int) × (Int)) l yX3_tryLinesBehind wsX3_tryLinesBehind rm_X3_tryLinesBehind g [(hS, eo 3 [.ref hI, .ref oR, .ref hL, .ref aC, .ref aN, .int (iZ (ps))]), (aC, el g 20808 C), (aN, eb g 20808 N), (hI, eo 0 [.ref aK, .ref aV, .ref aP, .ref aM, .ref aL, .ref aS, .ref aH, .int (iZ (n))]), (aK, ei g 100 K), (aV, ei g 100 V), (aP, ei g 100 P), (aM, ez g 100 M), (aL, ei g 101 LB), (aS, ei g 101 SB), (aH, ei g 101 HB), (oR, eo 2 [.ref aW, .ref aT]), (aW, ei g 50 W), (aT, ei g 3 T), (hL, eo 1 [.int (iZ (k)), .int (iZ (ug)), .int (iZ (lo)), .int (iZ (sd))])] [.ref hS, .int (iZ (a)), .int (iZ (mt))] (fun u => zFr a (zLe a) (min (a + 1) 49 + 1) C N u.1 u.2.1 ∧ ∀ i c, zLe a ≤ i → i < (min (a + 1) 49 + 1) → 0 ≤ c → c ≤ 3 → zCc u.1 u.2.1 a i c (zVL d i a c)) (fun u => [(hS, eo 3 [.ref hI, .ref oR, .ref hL, .ref aC, .ref aN, .int (iZ (ps))]), (aC, el g 20808 u.1), (aN, eb g 20808 u.2.1), (hI, eo 0 [.ref aK, .ref aV, .ref aP, .ref aM, .ref aL, .ref aS, .ref aH, .int (iZ (n))]), (aK, ei g 100 K), (aV, ei g 100 V), (aP, ei g 100 P), (aM, ez g 100 M), (aL, ei g 101 LB), (aS, ei g 101 SB), (aH, ei g 101 HB), (oR, eo 2 [.ref aW, .ref aT]), (aW, ei g 50 W), (aT, ei g 3 T), (hL, eo 1 [.int (iZ (u.2.2.1)), .int (iZ (u.2.2.2.1)), .int (iZ (u.2.2.2.2.1)), .int (iZ (u.2.2.2.2.2))])]) 0 0 := by
  refine z_beWv (cc := cX3_tryLinesBehind) (nL := 5) (plainFor_of_name (by decide +kernel)) rfl (Nat.le_of_ble_eq_true rfl) ?_
  intro X A hC hN hR
  have hC : zC X g cX3_tryLinesBehind RX3 wsX3_tryLinesBehind rm_X3_tryLinesBehind 5 := hC
  show ZG X g (zD X A) 0 0 [(hS, eo 3 [.ref hI, .ref oR, .ref hL, .ref aC, .ref aN, .int (iZ (ps))]), (aC, el g 20808 C), (aN, eb g 20808 N), (hI, eo 0 [.ref aK, .ref aV, .ref aP, .ref aM, .ref aL, .ref aS, .ref aH, .int (iZ (n))]), (aK, ei g 100 K), (aV, ei g 100 V), (aP, ei g 100 P), (aM, ez g 100 M), (aL, ei g 101 LB), (aS, ei g 101 SB), (aH, ei g 101 HB), (oR, eo 2 [.ref aW, .ref aT]), (aW, ei g 50 W), (aT, ei g 3 T), (hL, eo 1 [.int (iZ (k)), .int (iZ (ug)), .int (iZ (lo)), .int (iZ (sd))])] [(0, .ref hS), (1, .int (iZ (a))), (2, .int (iZ (mt)))] 0 []
  obtain ⟨hI1, hI2, hI3, hI4, hI5, hI6, hI7, hI8, hd⟩ := id h1
  have hn := hI1.1
  have hle := zLe_e a
  refine z_aload_n hC 0 dX3_tryLinesBehind_0 rfl rfl ?_
  refine z_get hC iX3_tryLinesBehind_3 0 0 rfl rfl (by decide) mX3_tryLinesBehind_f28 rfl dX3_tryLinesBehind_1 ?_
  refine z_iload_n hC 1 dX3_tryLinesBehind_4 rfl rfl ?_
  refine z_vnRi hC 1 (c_X0_startBehind (xl X) g _ _ _ _ _ _ _ _ _ _ _ _ _ _ _ _ _ hI1 (by omega)) gX3_tryLinesBehind_X0_startBehind_n72 nm_RX3_72 mX3_tryLinesBehind_iniRX0 mX3_tryLinesBehind_im_X0_startBehind mX3_tryLinesBehind_se_X0_startBehind rfl hd_X0_startBehind_s (by decide) ⟨rfl, rfl⟩ [3, 4, 5, 6, 7, 8, 9, 10] (by decide) rfl 3 0 rfl rfl rfl rfl rfl (Nat.le_of_ble_eq_true rfl) dX3_tryLinesBehind_5 (by decide) ?_
  refine z_istore_n hC (lv' := [(3, _), (0, _), (1, _), (2, _)]) dX3_tryLinesBehind_8 rfl (by decide) rfl ?_
  refine z_iload_n hC 2 dX3_tryLinesBehind_9 rfl rfl ?_
  refine z_iconst hC dX3_tryLinesBehind_10 ?_
  refine z_iadd hC dX3_tryLinesBehind_11 ?_
  refine z_istore hC (lv' := [(4, _), (3, _), (0, _), (1, _), (2, _)]) dX3_tryLinesBehind_12 (by decide) rfl ?_
  have L14 : ∀ (fu : Nat) (b : Int) (C2 N2 : Int → Int) (l2 u2 k2 d2 : Int), (a + 1 ≤ b ∧ b ≤ n) → (∀ m, a < m → m < b → ¬ zMust K V n m) → (zFr a (zLe a) (min (a + 1) 49 + 1) C N C2 N2) → (zRow d a (zLe a) (min (a + 1) 49 + 1) (b - a - 1).toNat C2 N2) → (101 - b).toNat < fu → ZG X g (zD X A) 0 0 [(hS, eo 3 [.ref hI, .ref oR, .ref hL, .ref aC, .ref aN, .int (iZ (ps))]), (aC, el g 20808 C2), (aN, eb g 20808 N2), (hI, eo 0 [.ref aK, .ref aV, .ref aP, .ref aM, .ref aL, .ref aS, .ref aH, .int (iZ (n))]), (aK, ei g 100 K), (aV, ei g 100 V), (aP, ei g 100 P), (aM, ez g 100 M), (aL, ei g 101 LB), (aS, ei g 101 SB), (aH, ei g 101 HB), (oR, eo 2 [.ref aW, .ref aT]), (aW, ei g 50 W), (aT, ei g 3 T), (hL, eo 1 [.int (iZ (l2)), .int (iZ (u2)), .int (iZ (k2)), .int (iZ (d2))])] [(4, .int (iZ (b))), (3, .int (iZ (zSt K n a))), (0, .ref hS), (1, .int (iZ (a))), (2, .int (iZ (mt)))] 14 [] := by
    intro fu
    induction fu with
    | zero => intro b C2 N2 l2 u2 k2 d2; intros; omega
    | succ fu ih_14 =>
      intro b C2 N2 l2 u2 k2 d2 hb hmm hF hRw hn
      refine z_iload hC 0 dX3_tryLinesBehind_14 rfl ?_
      refine z_aload_n hC 2 dX3_tryLinesBehind_16 rfl rfl ?_
      refine z_get hC iX3_tryLinesBehind_3 0 0 rfl rfl (by decide) mX3_tryLinesBehind_f28 rfl dX3_tryLinesBehind_17 ?_
      refine z_getN hC iX3_tryLinesBehind_0 3 7 rfl rfl (by decide) nf_RX3_53 rfl dX3_tryLinesBehind_20 ?_
      refine z_icmp_gt hC 66 dX3_tryLinesBehind_23 (by decide) (by omega) (by omega) (fun c_23 => ?_) (fun c_23 => ?_)
      ·
        exfalso; omega
      ·
        have J47 : ∀ (C3 N3 : Int → Int) (l3 u3 k3 d3 : Int), zFr a (zLe a) (min (a + 1) 49 + 1) C N C3 N3 → zRow d a (zLe a) (min (a + 1) 49 + 1) (b - a).toNat C3 N3 → ZG X g (zD X A) 0 0 [(hS, eo 3 [.ref hI, .ref oR, .ref hL, .ref aC, .ref aN, .int (iZ (ps))]), (aC, el g 20808 C3), (aN, eb g 20808 N3), (hI, eo 0 [.ref aK, .ref aV, .ref aP, .ref aM, .ref aL, .ref aS, .ref aH, .int (iZ (n))]), (aK, ei g 100 K), (aV, ei g 100 V), (aP, ei g 100 P), (aM, ez g 100 M), (aL, ei g 101 LB), (aS, ei g 101 SB), (aH, ei g 101 HB), (oR, eo 2 [.ref aW, .ref aT]), (aW, ei g 50 W), (aT, ei g 3 T), (hL, eo 1 [.int (iZ (l3)), .int (iZ (u3)), .int (iZ (k3)), .int (iZ (d3))])] [(4, .int (iZ (b))), (3, .int (iZ (zSt K n a))), (0, .ref hS), (1, .int (iZ (a))), (2, .int (iZ (mt)))] 47 [] := by
          intro C3 N3 l3 u3 k3 d3 hF3 hR3
          refine z_aload_n hC 2 dX3_tryLinesBehind_47 rfl rfl ?_
          refine z_get hC iX3_tryLinesBehind_3 0 0 rfl rfl (by decide) mX3_tryLinesBehind_f28 rfl dX3_tryLinesBehind_48 ?_
          refine z_iload hC 0 dX3_tryLinesBehind_51 rfl ?_
          refine z_vnRi hC 1 (c_X0_hasToBreakAt (xl X) g _ _ _ _ _ _ _ _ _ _ _ _ _ _ _ _ _ hI1 (by omega)) gX3_tryLinesBehind_X0_hasToBreakAt_n80 nm_RX3_80 mX3_tryLinesBehind_iniRX0 mX3_tryLinesBehind_im_X0_hasToBreakAt mX3_tryLinesBehind_se_X0_hasToBreakAt rfl hd_X0_hasToBreakAt_s (by decide) ⟨rfl, rfl⟩ [3, 4, 5, 6, 7, 8, 9, 10] (by decide) rfl 3 0 rfl rfl rfl rfl rfl (Nat.le_of_ble_eq_true rfl) dX3_tryLinesBehind_53 (by decide) ?_
          refine z_if_eq hC 60 dX3_tryLinesBehind_56 (by decide) (b2_r _) (fun c_56 => ?_) (fun c_56 => ?_)
          ·
            have c_56 := b2_f c_56
            refine z_iinc hC (lv' := [(4, _), (3, _), (0, _), (1, _), (2, _)]) 0 dX3_tryLinesBehind_60 rfl (by decide) rfl ?_
            refine z_goto (tgt := 14) hC dX3_tryLinesBehind_63 (by decide) ?_
            exact ih_14 (b + 1) _ _ _ _ _ _ (by omega) (fun m g1 g2 => by (by_cases e : m = b); (rw [e]; exact fun q => c_56 (Or.inr q)); (exact hmm m g1 (by omega))) hF3 (by rw [show (b + 1 - a - 1).toNat = (b - a).toNat by omega]; exact hR3) (by omega)
          ·
            have c_56 := b2_t c_56
            exact hR (C3, N3, l3, u3, k3, d3) _ _ _ [0, 1, 2, 3, 4, 5, 6, 7, 8, 9, 10, 11, 12, 13, 14] ⟨hF3, by rw [hd] at hR3 ⊢; exact tb_end (by omega) c_56 (by omega) (by omega) hR3⟩ (by decide) rfl dX3_tryLinesBehind_59
        refine z_aload_n hC 2 dX3_tryLinesBehind_26 rfl rfl ?_
        refine z_get hC iX3_tryLinesBehind_3 0 0 rfl rfl (by decide) mX3_tryLinesBehind_f28 rfl dX3_tryLinesBehind_27 ?_
        refine z_iload hC 0 dX3_tryLinesBehind_30 rfl ?_
        refine z_iload_n hC 4 dX3_tryLinesBehind_32 rfl rfl ?_
        refine z_vnRi hC 2 (c_X0_mayBreakAt (xl X) g _ _ _ _ _ _ _ _ _ _ _ _ _ _ _ _ _ _ hI1 (by omega) hI6) gX3_tryLinesBehind_X0_mayBreakAt_n58 nm_RX3_58 mX3_tryLinesBehind_iniRX0 mX3_tryLinesBehind_im_X0_mayBreakAt mX3_tryLinesBehind_se_X0_mayBreakAt rfl hd_X0_mayBreakAt_s (by decide) ⟨rfl, rfl⟩ [3, 4, 5, 6, 7, 8, 9, 10] (by decide) rfl 3 0 rfl rfl rfl rfl rfl (Nat.le_of_ble_eq_true rfl) dX3_tryLinesBehind_33 (by decide) ?_
        refine z_if_eq hC 47 dX3_tryLinesBehind_36 (by decide) (b2_r _) (fun c_36 => ?_) (fun c_36 => ?_)
        ·
          have c_36 := b2_f c_36
          exact J47 _ _ _ _ _ _ hF (fun i c g1 g2 g3 g4 => zCc_no (j := (b - a - 1).toNat) (b := b) (by omega) (by omega) (hRw i c g1 g2 g3 g4) (by rw [hd]; exact fun q => c_36 q.2.1))
        ·
          have c_36 := b2_t c_36
          refine z_aload_n hC 2 dX3_tryLinesBehind_39 rfl rfl ?_
          refine z_iload_n hC 3 dX3_tryLinesBehind_40 rfl rfl ?_
          refine z_iload_n hC 1 dX3_tryLinesBehind_41 rfl rfl ?_
          refine z_iload hC 0 dX3_tryLinesBehind_42 rfl ?_
          refine z_vWv (wr := []) hC 3 (c_X3_tryLine (xl X) g _ _ _ _ _ _ _ _ _ _ _ _ _ _ _ _ _ _ _ _ _ _ _ _ _ _ _ _ _ _ _ _ mt ex d _ _ _ h1 (by omega) rfl ⟨c_36, hmm⟩ hRw (fun i s g1 g2 g3 g4 => zRst_kept (h4 b i s (by omega) (by omega) c_36 g1 g2 g3 g4) (hF _ (by omega)).1)) gX3_tryLinesBehind_X3_tryLine rfl hd_X3_tryLine_v (by decide) ⟨rfl, rfl⟩ [0, 1, 2, 3, 4, 5, 6, 7, 8, 9, 10, 11, 12, 13, 14] [] (by decide) rfl rfl (by decide) (by decide) 0 3 rfl rfl rfl rfl rfl (Nat.le_of_ble_eq_true rfl) dX3_tryLinesBehind_44 (by decide) (fun u_44 p_44 => ?_)
          obtain ⟨C1_44, N1_44, l1_44, u1_44, k1_44, d1_44⟩ := u_44
          try dsimp only at p_44
          refine z_ws (ws' := [(hS, eo 3 [.ref hI, .ref oR, .ref hL, .ref aC, .ref aN, .int (iZ (ps))]), (aC, el g 20808 C1_44), (aN, eb g 20808 N1_44), (hI, eo 0 [.ref aK, .ref aV, .ref aP, .ref aM, .ref aL, .ref aS, .ref aH, .int (iZ (n))]), (aK, ei g 100 K), (aV, ei g 100 V), (aP, ei g 100 P), (aM, ez g 100 M), (aL, ei g 101 LB), (aS, ei g 101 SB), (aH, ei g 101 HB), (oR, eo 2 [.ref aW, .ref aT]), (aW, ei g 50 W), (aT, ei g 3 T), (hL, eo 1 [.int (iZ (l1_44)), .int (iZ (u1_44)), .int (iZ (k1_44)), .int (iZ (d1_44))])]) [0, 1, 2, 3, 4, 5, 6, 7, 8, 9, 10, 11, 12, 13, 14] (by decide) rfl ?_
          exact J47 _ _ _ _ _ _ (fun x hx => ⟨(p_44.1 x hx).1.trans (hF x hx).1, (p_44.1 x hx).2.trans (hF x hx).2⟩) p_44.2
  exact L14 _ (a + 1) C N _ _ _ _ (by omega) (fun m g1 g2 => by omega) (fun _ _ => ⟨rfl, rfl⟩) (fun i c g1 g2 g3 g4 => by rw [show (a + 1 - a - 1).toNat = 0 by omega]; exact ⟨fun _ => h3 i c g1 g2 g3 g4, fun q => absurd rfl q⟩) (Nat.lt_succ_self _)
set_option maxRecDepth 20000 in
theorem mX3_findsWay_f36 : Cond.fieldLink RX3 36 "BreakSearch$Search" "pass" "I" ∈ wsX3_findsWay := by decide +kernel
set_option maxRecDepth 20000 in
theorem iX3_findsWay_3 : ∀ w ∈ u_ws RX3 TX3 6, w ∈ wsX3_findsWay := by decide +kernel
set_option maxRecDepth 20000 in
theorem mX3_findsWay_f32 : Cond.fieldLink RX3 32 "BreakSearch$Search" "rules" "LBreakSearch$Rules;" ∈ wsX3_findsWay := by decide +kernel
set_option maxRecDepth 20000 in
theorem mX3_findsWay_iniRX2 : Cond.initialized RX2 ∈ wsX3_findsWay := by decide +kernel
set_option maxRecDepth 20000 in
theorem mX3_findsWay_im_X2_breaksAtMarksIn : Cond.instanceMethod yX2_breaksAtMarksIn ∈ wsX3_findsWay := by decide +kernel
set_option maxRecDepth 20000 in
theorem mX3_findsWay_se_X2_breaksAtMarksIn : Cond.selects RX2 yX2_breaksAtMarksIn yX2_breaksAtMarksIn ∈ wsX3_findsWay := by decide +kernel
set_option maxRecDepth 20000 in
theorem mX3_findsWay_f28 : Cond.fieldLink RX3 28 "BreakSearch$Search" "items" "LBreakSearch$Items;" ∈ wsX3_findsWay := by decide +kernel
set_option maxRecDepth 20000 in
theorem iX3_findsWay_0 : ∀ w ∈ u_ws RX0 TX0 8, w ∈ wsX3_findsWay := by decide +kernel
set_option maxRecDepth 20000 in
theorem mX3_findsWay_f20 : Cond.fieldLink RX3 20 "BreakSearch$Search" "costs" "[J" ∈ wsX3_findsWay := by decide +kernel
set_option maxRecDepth 20000 in
theorem mX3_findsWay_k70 : Cond.constantLong RX3 70 (9223372036854775807) ∈ wsX3_findsWay := by decide +kernel
set_option maxRecDepth 20000 in
theorem mX3_findsWay_iniRX0 : Cond.initialized RX0 ∈ wsX3_findsWay := by decide +kernel
set_option maxRecDepth 20000 in
theorem mX3_findsWay_im_X0_mayBreakAt : Cond.instanceMethod yX0_mayBreakAt ∈ wsX3_findsWay := by decide +kernel
set_option maxRecDepth 20000 in
theorem mX3_findsWay_se_X0_mayBreakAt : Cond.selects RX0 yX0_mayBreakAt yX0_mayBreakAt ∈ wsX3_findsWay := by decide +kernel
abbrev rm_X3_findsWay : Room := { frames := 7, cells := 0, slots := 0, locals := 167 }
set_option maxHeartbeats 4000000 in
set_option maxRecDepth 100000 in
theorem c_X3_findsWay (l : Launch) (g : zG) (po : Int) (hS aC aN : Nat) (ps : Int) (C N : Int → Int) (hI aK aV aP aM aL aS aH : Nat) (n : Int) (K V P M LB SB HB : Int → Int) (oR aW aT : Nat) (W T : Int → Int) (hL : Nat) (k ug lo sd : Int) (mt ex : Int) (d : zDP) (h1 : zEnv n K V P M LB SB HB W T ps mt ex d) : zMWi (S := (Int → Int) × (Int → Int) × (Int) × (Int) × (Int) × (Int) × (Int)) l yX3_findsWay wsX3_findsWay rm_X3_findsWay g [(hS, eo 3 [.ref hI, .ref oR, .ref hL, .ref aC, .ref aN, .int (iZ (po))]), (aC, el g 20808 C), (aN, eb g 20808 N), (hI, eo 0 [.ref aK, .ref aV, .ref aP, .ref aM, .ref aL, .ref aS, .ref aH, .int (iZ (n))]), (aK, ei g 100 K), (aV, ei g 100 V), (aP, ei g 100 P), (aM, ez g 100 M), (aL, ei g 101 LB), (aS, ei g 101 SB), (aH, ei g 101 HB), (oR, eo 2 [.ref aW, .ref aT]), (aW, ei g 50 W), (aT, ei g 3 T), (hL, eo 1 [.int (iZ (k)), .int (iZ (ug)), .int (iZ (lo)), .int (iZ (sd))])] [.ref hS, .int (iZ (ps)), .int (iZ (ex))] (fun u => zTab d K V M n mt u.1 u.2.1 ∧ u.2.2.2.2.2.2 = b2 (¬ (zVL d 0 (-1) 0).2.1 = 0)) (fun u => u.2.2.2.2.2.2) (fun u => [(hS, eo 3 [.ref hI, .ref oR, .ref hL, .ref aC, .ref aN, .int (iZ (ps))]), (aC, el g 20808 u.1), (aN, eb g 20808 u.2.1), (hI, eo 0 [.ref aK, .ref aV, .ref aP, .ref aM, .ref aL, .ref aS, .ref aH, .int (iZ (n))]), (aK, ei g 100 K), (aV, ei g 100 V), (aP, ei g 100 P), (aM, ez g 100 M), (aL, ei g 101 LB), (aS, ei g 101 SB), (aH, ei g 101 HB), (oR, eo 2 [.ref aW, .ref aT]), (aW, ei g 50 W), (aT, ei g 3 T), (hL, eo 1 [.int (iZ (u.2.2.1)), .int (iZ (u.2.2.2.1)), .int (iZ (u.2.2.2.2.1)), .int (iZ (u.2.2.2.2.2.1))])]) 0 0 := by
  refine z_beWi (cc := cX3_findsWay) (nL := 5) (ret := some .boolean) (plainFor_of_name (by decide +kernel)) rfl (Or.inr ⟨rfl, fun u h => by rw [h.2]; exact b2_01 _⟩) (Nat.le_of_ble_eq_true rfl) ?_
  intro X A hC hN hR
  have hC : zC X g cX3_findsWay RX3 wsX3_findsWay rm_X3_findsWay 5 := hC
  show ZG X g (zD X A) 0 0 [(hS, eo 3 [.ref hI, .ref oR, .ref hL, .ref aC, .ref aN, .int (iZ (po))]), (aC, el g 20808 C), (aN, eb g 20808 N), (hI, eo 0 [.ref aK, .ref aV, .ref aP, .ref aM, .ref aL, .ref aS, .ref aH, .int (iZ (n))]), (aK, ei g 100 K), (aV, ei g 100 V), (aP, ei g 100 P), (aM, ez g 100 M), (aL, ei g 101 LB), (aS, ei g 101 SB), (aH, ei g 101 HB), (oR, eo 2 [.ref aW, .ref aT]), (aW, ei g 50 W), (aT, ei g 3 T), (hL, eo 1 [.int (iZ (k)), .int (iZ (ug)), .int (iZ (lo)), .int (iZ (sd))])] [(0, .ref hS), (1, .int (iZ (ps))), (2, .int (iZ (ex)))] 0 []
  have hB := zEnv_b h1
  obtain ⟨hI1, hI2, hI3, hI4, hI5, hI6, hI7, hI8, hd⟩ := id h1
  have hn := hI1.1
  refine z_aload_n hC 0 dX3_findsWay_0 rfl rfl ?_
  refine z_iload_n hC 1 dX3_findsWay_1 rfl rfl ?_
  refine z_put hC iX3_findsWay_3 tyX3 tyX3_ok nmX3 0 5 rfl rfl (by decide) mX3_findsWay_f36 rfl rfl rfl (Nat.le_of_ble_eq_true rfl) dX3_findsWay_2 (ws' := [_, _, _, _, _, _, _, _, _, _, _, _, _, _, _]) rfl ?_
  refine z_aload_n hC 0 dX3_findsWay_5 rfl rfl ?_
  refine z_vWv (wr := [_, _, _, _]) hC 0 (c_X3_closeAll (xl X) g _ _ _ _ _ _ _ _ _ _ _ _ _ _ _ _ _ _ _ _ _ _ _ _ hn) gX3_findsWay_X3_closeAll rfl hd_X3_closeAll_v (by decide) ⟨rfl, rfl⟩ [0, 1, 2, 3, 4, 5, 6, 7, 8, 9, 10] [11, 12, 13, 14] (by decide) rfl rfl (by decide) (by decide) 0 3 rfl rfl rfl rfl rfl (Nat.le_of_ble_eq_true rfl) dX3_findsWay_6 (by decide) (fun u_6 p_6 => ?_)
  obtain ⟨C1_6, rfl⟩ : ∃ z, z = u_6 := ⟨_, rfl⟩
  try dsimp only at p_6
  refine z_ws (ws' := [(hS, eo 3 [.ref hI, .ref oR, .ref hL, .ref aC, .ref aN, .int (iZ (ps))]), (aC, el g 20808 C1_6), (aN, eb g 20808 N), (hI, eo 0 [.ref aK, .ref aV, .ref aP, .ref aM, .ref aL, .ref aS, .ref aH, .int (iZ (n))]), (aK, ei g 100 K), (aV, ei g 100 V), (aP, ei g 100 P), (aM, ez g 100 M), (aL, ei g 101 LB), (aS, ei g 101 SB), (aH, ei g 101 HB), (oR, eo 2 [.ref aW, .ref aT]), (aW, ei g 50 W), (aT, ei g 3 T), (hL, eo 1 [.int (iZ (k)), .int (iZ (ug)), .int (iZ (lo)), .int (iZ (sd))])]) [4, 5, 6, 7, 8, 9, 10, 11, 12, 13, 14, 0, 1, 2, 3] (by decide) rfl ?_
  refine z_aload_n hC 0 dX3_findsWay_9 rfl rfl ?_
  refine z_iload_n hC 2 dX3_findsWay_10 rfl rfl ?_
  refine z_vWv (wr := [_, _, _, _]) hC 1 (c_X3_openEnd (xl X) g _ _ _ _ _ _ _ _ _ _ _ _ _ _ _ _ _ _ _ _ _ _ _ _ _ hn hI8) gX3_findsWay_X3_openEnd rfl hd_X3_openEnd_v (by decide) ⟨rfl, rfl⟩ [0, 1, 2, 3, 4, 5, 6, 7, 8, 9, 10] [11, 12, 13, 14] (by decide) rfl rfl (by decide) (by decide) 0 3 rfl rfl rfl rfl rfl (Nat.le_of_ble_eq_true rfl) dX3_findsWay_11 (by decide) (fun u_11 p_11 => ?_)
  obtain ⟨C1_11, rfl⟩ : ∃ z, z = u_11 := ⟨_, rfl⟩
  try dsimp only at p_11
  refine z_ws (ws' := [(hS, eo 3 [.ref hI, .ref oR, .ref hL, .ref aC, .ref aN, .int (iZ (ps))]), (aC, el g 20808 C1_11), (aN, eb g 20808 N), (hI, eo 0 [.ref aK, .ref aV, .ref aP, .ref aM, .ref aL, .ref aS, .ref aH, .int (iZ (n))]), (aK, ei g 100 K), (aV, ei g 100 V), (aP, ei g 100 P), (aM, ez g 100 M), (aL, ei g 101 LB), (aS, ei g 101 SB), (aH, ei g 101 HB), (oR, eo 2 [.ref aW, .ref aT]), (aW, ei g 50 W), (aT, ei g 3 T), (hL, eo 1 [.int (iZ (k)), .int (iZ (ug)), .int (iZ (lo)), .int (iZ (sd))])]) [4, 5, 6, 7, 8, 9, 10, 11, 12, 13, 14, 0, 1, 2, 3] (by decide) rfl ?_
  refine z_aload_n hC 0 dX3_findsWay_14 rfl rfl ?_
  refine z_get hC iX3_findsWay_3 0 1 rfl rfl (by decide) mX3_findsWay_f32 rfl dX3_findsWay_15 ?_
  refine z_aload_n hC 0 dX3_findsWay_18 rfl rfl ?_
  refine z_get hC iX3_findsWay_3 0 5 rfl rfl (by decide) mX3_findsWay_f36 rfl dX3_findsWay_19 ?_
  refine z_vnRi hC 1 (c_X2_breaksAtMarksIn (xl X) g _ _ _ _ _ _ (by omega)) gX3_findsWay_X2_breaksAtMarksIn_n47 nm_RX3_47 mX3_findsWay_iniRX2 mX3_findsWay_im_X2_breaksAtMarksIn mX3_findsWay_se_X2_breaksAtMarksIn rfl hd_X2_breaksAtMarksIn_s (by decide) ⟨rfl, rfl⟩ [11, 12, 13] (by decide) rfl 11 2 rfl rfl rfl rfl rfl (Nat.le_of_ble_eq_true rfl) dX3_findsWay_22 (by decide) ?_
  have hmt : b2 (¬ ps = 1) = mt := by (by_cases q : ps = 1); (rw [b2_0 (fun z => z q)]; omega); (rw [b2_1 q]; omega)
  refine z_top hmt ?_
  refine z_istore_n hC (lv' := [(3, _), (0, _), (1, _), (2, _)]) dX3_findsWay_25 rfl (by decide) rfl ?_
  refine z_aload_n hC 1 dX3_findsWay_26 rfl rfl ?_
  refine z_get hC iX3_findsWay_3 0 0 rfl rfl (by decide) mX3_findsWay_f28 rfl dX3_findsWay_27 ?_
  refine z_getN hC iX3_findsWay_0 3 7 rfl rfl (by decide) nf_RX3_53 rfl dX3_findsWay_30 ?_
  refine z_iconst hC dX3_findsWay_33 ?_
  refine z_isub hC dX3_findsWay_34 ?_
  refine z_istore hC (lv' := [(4, _), (3, _), (0, _), (1, _), (2, _)]) dX3_findsWay_35 (by decide) rfl ?_
  have L37 : ∀ (fu : Nat) (f : Int) (C2 N2 : Int → Int) (l2 u2 k2 d2 : Int), (-2 ≤ f ∧ f < n) → (zTT d K V M n mt f C2 N2) → (f + 2).toNat < fu → ZG X g (zD X A) 0 0 [(hS, eo 3 [.ref hI, .ref oR, .ref hL, .ref aC, .ref aN, .int (iZ (ps))]), (aC, el g 20808 C2), (aN, eb g 20808 N2), (hI, eo 0 [.ref aK, .ref aV, .ref aP, .ref aM, .ref aL, .ref aS, .ref aH, .int (iZ (n))]), (aK, ei g 100 K), (aV, ei g 100 V), (aP, ei g 100 P), (aM, ez g 100 M), (aL, ei g 101 LB), (aS, ei g 101 SB), (aH, ei g 101 HB), (oR, eo 2 [.ref aW, .ref aT]), (aW, ei g 50 W), (aT, ei g 3 T), (hL, eo 1 [.int (iZ (l2)), .int (iZ (u2)), .int (iZ (k2)), .int (iZ (d2))])] [(4, .int (iZ (f))), (3, .int (iZ (mt))), (0, .ref hS), (1, .int (iZ (ps))), (2, .int (iZ (ex)))] 37 [] := by
    intro fu
    induction fu with
    | zero => intro f C2 N2 l2 u2 k2 d2; intros; omega
    | succ fu ih_37 =>
      intro f C2 N2 l2 u2 k2 d2 hf hT hn
      have hle := zLe_e f
      refine z_iload hC 0 dX3_findsWay_37 rfl ?_
      refine z_iconst hC dX3_findsWay_39 ?_
      refine z_icmp_lt hC 75 dX3_findsWay_40 (by decide) (by omega) (by omega) (fun c_40 => ?_) (fun c_40 => ?_)
      ·
        refine z_aload_n hC 2 dX3_findsWay_75 rfl rfl ?_
        refine z_get hC iX3_findsWay_3 0 3 rfl rfl (by decide) mX3_findsWay_f20 rfl dX3_findsWay_76 ?_
        refine z_iconst hC dX3_findsWay_79 ?_
        refine z_iconst hC dX3_findsWay_80 ?_
        refine z_iconst hC dX3_findsWay_81 ?_
        refine z_sRi hC 3 (c_X3_cellOf (xl X) g _ _ _) gX3_findsWay_X3_cellOf rfl hd_X3_cellOf_s (by decide) ⟨rfl, rfl⟩ [] (by decide) rfl rfl rfl (Nat.le_of_ble_eq_true rfl) dX3_findsWay_82 (by decide) ?_
        have hle := zLe_e (-1)
        have hC0 := hT.1 (-1) 0 0 (by omega) (by omega) (Or.inl rfl) (by omega) (by omega) (by omega) (by omega)
        have hb0 := zVL_in hB (i := 0) (by omega) (-1) 0
        have hc0 := zCc_in hB (by omega) hb0 hC0
        refine z_lald hC 1 rfl (by omega) (by decide) dX3_findsWay_85 ?_
        refine z_ldc2 hC (9223372036854775807) mX3_findsWay_k70 (by decide) dX3_findsWay_86 ?_
        refine z_lc_eq hC 97 dX3_findsWay_89 dX3_findsWay_90 (by decide) (by omega) (by omega) (fun c_89 => ?_) (fun c_89 => ?_)
        ·
          refine z_iconst hC dX3_findsWay_97 ?_
          exact hR (C2, N2, l2, u2, k2, d2, 0) _ _ _ [0, 1, 2, 3, 4, 5, 6, 7, 8, 9, 10, 11, 12, 13, 14] _ ⟨by rw [show f = -2 by omega] at hT; exact hT.1, by first | exact b2_1' (fun q => c_89 (hC0.1 q)) | exact b2_0' (fun q => by have := (hC0.2 q).1; unfold zNb at hb0; omega)⟩ rfl (by decide) rfl dX3_findsWay_98
        ·
          refine z_iconst hC dX3_findsWay_93 ?_
          refine z_goto (tgt := 98) hC dX3_findsWay_94 (by decide) ?_
          exact hR (C2, N2, l2, u2, k2, d2, 1) _ _ _ [0, 1, 2, 3, 4, 5, 6, 7, 8, 9, 10, 11, 12, 13, 14] _ ⟨by rw [show f = -2 by omega] at hT; exact hT.1, by first | exact b2_1' (fun q => c_89 (hC0.1 q)) | exact b2_0' (fun q => by have := (hC0.2 q).1; unfold zNb at hb0; omega)⟩ rfl (by decide) rfl dX3_findsWay_98
      ·
        refine z_iload hC 0 dX3_findsWay_43 rfl ?_
        refine z_iconst hC dX3_findsWay_45 ?_
        refine z_icmp_eq hC 62 dX3_findsWay_46 (by decide) (by omega) (by omega) (fun c_46 => ?_) (fun c_46 => ?_)
        ·
          refine z_aload_n hC 2 dX3_findsWay_62 rfl rfl ?_
          refine z_iload hC 0 dX3_findsWay_63 rfl ?_
          refine z_iload_n hC 1 dX3_findsWay_65 rfl rfl ?_
          refine z_vWv (wr := []) hC 2 (c_X3_tryLinesBehind (xl X) g _ _ _ _ _ _ _ _ _ _ _ _ _ _ _ _ _ _ _ _ _ _ _ _ _ _ _ _ _ _ _ _ mt ex d _ h1 (by omega) (fun i c g1 g2 g3 g4 => hT.2.1 f i c (by omega) (by omega) (by omega) (by omega) g3 g4) (fw_rst (by rw [hd]; rfl) (by omega) hT)) gX3_findsWay_X3_tryLinesBehind rfl hd_X3_tryLinesBehind_v (by decide) ⟨rfl, rfl⟩ [0, 1, 2, 3, 4, 5, 6, 7, 8, 9, 10, 11, 12, 13, 14] [] (by decide) rfl rfl (by decide) (by decide) 0 3 rfl rfl rfl rfl rfl (Nat.le_of_ble_eq_true rfl) dX3_findsWay_66 (by decide) (fun u_66 p_66 => ?_)
          obtain ⟨C1_66, N1_66, l1_66, u1_66, k1_66, d1_66⟩ := u_66
          try dsimp only at p_66
          refine z_ws (ws' := [(hS, eo 3 [.ref hI, .ref oR, .ref hL, .ref aC, .ref aN, .int (iZ (ps))]), (aC, el g 20808 C1_66), (aN, eb g 20808 N1_66), (hI, eo 0 [.ref aK, .ref aV, .ref aP, .ref aM, .ref aL, .ref aS, .ref aH, .int (iZ (n))]), (aK, ei g 100 K), (aV, ei g 100 V), (aP, ei g 100 P), (aM, ez g 100 M), (aL, ei g 101 LB), (aS, ei g 101 SB), (aH, ei g 101 HB), (oR, eo 2 [.ref aW, .ref aT]), (aW, ei g 50 W), (aT, ei g 3 T), (hL, eo 1 [.int (iZ (l1_66)), .int (iZ (u1_66)), .int (iZ (k1_66)), .int (iZ (d1_66))])]) [0, 1, 2, 3, 4, 5, 6, 7, 8, 9, 10, 11, 12, 13, 14] (by decide) rfl ?_
          refine z_iinc hC (lv' := [(4, _), (3, _), (0, _), (1, _), (2, _)]) 0 dX3_findsWay_69 rfl (by decide) rfl ?_
          refine z_goto (tgt := 37) hC dX3_findsWay_72 (by decide) ?_
          exact ih_37 (f - 1) _ _ _ _ _ _ (by omega) (fw_go (by omega) hT p_66.1 p_66.2) (by omega)
        ·
          refine z_aload_n hC 2 dX3_findsWay_49 rfl rfl ?_
          refine z_get hC iX3_findsWay_3 0 0 rfl rfl (by decide) mX3_findsWay_f28 rfl dX3_findsWay_50 ?_
          refine z_iload hC 0 dX3_findsWay_53 rfl ?_
          refine z_iload_n hC 1 dX3_findsWay_55 rfl rfl ?_
          refine z_vnRi hC 2 (c_X0_mayBreakAt (xl X) g _ _ _ _ _ _ _ _ _ _ _ _ _ _ _ _ _ _ hI1 (by omega) hI6) gX3_findsWay_X0_mayBreakAt_n58 nm_RX3_58 mX3_findsWay_iniRX0 mX3_findsWay_im_X0_mayBreakAt mX3_findsWay_se_X0_mayBreakAt rfl hd_X0_mayBreakAt_s (by decide) ⟨rfl, rfl⟩ [3, 4, 5, 6, 7, 8, 9, 10] (by decide) rfl 3 0 rfl rfl rfl rfl rfl (Nat.le_of_ble_eq_true rfl) dX3_findsWay_56 (by decide) ?_
          refine z_if_eq hC 69 dX3_findsWay_59 (by decide) (b2_r _) (fun c_59 => ?_) (fun c_59 => ?_)
          ·
            have c_59 := b2_f c_59
            refine z_iinc hC (lv' := [(4, _), (3, _), (0, _), (1, _), (2, _)]) 0 dX3_findsWay_69 rfl (by decide) rfl ?_
            refine z_goto (tgt := 37) hC dX3_findsWay_72 (by decide) ?_
            exact ih_37 (f - 1) _ _ _ _ _ _ (by omega) (fw_no hT (by rintro (q | q); exact c_46 q; exact c_59 q)) (by omega)
          ·
            have c_59 := b2_t c_59
            refine z_aload_n hC 2 dX3_findsWay_62 rfl rfl ?_
            refine z_iload hC 0 dX3_findsWay_63 rfl ?_
            refine z_iload_n hC 1 dX3_findsWay_65 rfl rfl ?_
            refine z_vWv (wr := []) hC 2 (c_X3_tryLinesBehind (xl X) g _ _ _ _ _ _ _ _ _ _ _ _ _ _ _ _ _ _ _ _ _ _ _ _ _ _ _ _ _ _ _ _ mt ex d _ h1 (by omega) (fun i c g1 g2 g3 g4 => hT.2.1 f i c (by omega) (by omega) (by omega) (by omega) g3 g4) (fw_rst (by rw [hd]; rfl) (by omega) hT)) gX3_findsWay_X3_tryLinesBehind rfl hd_X3_tryLinesBehind_v (by decide) ⟨rfl, rfl⟩ [0, 1, 2, 3, 4, 5, 6, 7, 8, 9, 10, 11, 12, 13, 14] [] (by decide) rfl rfl (by decide) (by decide) 0 3 rfl rfl rfl rfl rfl (Nat.le_of_ble_eq_true rfl) dX3_findsWay_66 (by decide) (fun u_66 p_66 => ?_)
            obtain ⟨C1_66, N1_66, l1_66, u1_66, k1_66, d1_66⟩ := u_66
            try dsimp only at p_66
            refine z_ws (ws' := [(hS, eo 3 [.ref hI, .ref oR, .ref hL, .ref aC, .ref aN, .int (iZ (ps))]), (aC, el g 20808 C1_66), (aN, eb g 20808 N1_66), (hI, eo 0 [.ref aK, .ref aV, .ref aP, .ref aM, .ref aL, .ref aS, .ref aH, .int (iZ (n))]), (aK, ei g 100 K), (aV, ei g 100 V), (aP, ei g 100 P), (aM, ez g 100 M), (aL, ei g 101 LB), (aS, ei g 101 SB), (aH, ei g 101 HB), (oR, eo 2 [.ref aW, .ref aT]), (aW, ei g 50 W), (aT, ei g 3 T), (hL, eo 1 [.int (iZ (l1_66)), .int (iZ (u1_66)), .int (iZ (k1_66)), .int (iZ (d1_66))])]) [0, 1, 2, 3, 4, 5, 6, 7, 8, 9, 10, 11, 12, 13, 14] (by decide) rfl ?_
            refine z_iinc hC (lv' := [(4, _), (3, _), (0, _), (1, _), (2, _)]) 0 dX3_findsWay_69 rfl (by decide) rfl ?_
            refine z_goto (tgt := 37) hC dX3_findsWay_72 (by decide) ?_
            exact ih_37 (f - 1) _ _ _ _ _ _ (by omega) (fw_go (by omega) hT p_66.1 p_66.2) (by omega)
  exact L37 _ (n - 1) _ _ _ _ _ _ (by omega) (fw_0 (by rw [hd]; rfl) (by rw [hd]; rfl) (by omega) hI8 (fun x g1 g2 => (p_6 x).1 ⟨g1, g2⟩) p_11.1 p_11.2) (Nat.lt_succ_self _)
