/-- 100 times the cube of what is wanted by the cube of what is given, at most 10000 -/
def zBad (gap give : Int) : Int := if give ≤ 0 then 10000 else min ((100 * (gap * gap * gap)).tdiv (give * give * give)) 10000
theorem cube_in {x b : Int} (h0 : 0 ≤ x) (h : x ≤ b) : 0 ≤ x * x * x ∧ x * x * x ≤ b * b * b := by
  have h1 : 0 ≤ x * x := Int.mul_nonneg h0 h0
  have hb : 0 ≤ b := Int.le_trans h0 h
  have h2 : x * x ≤ b * b := Int.mul_le_mul h h h0 hb
  exact ⟨Int.mul_nonneg h1 h0, Int.mul_le_mul h2 h h0 (Int.mul_nonneg hb hb)⟩
theorem cube_pos {x : Int} (h : 0 < x) : 0 < x * x * x := Int.mul_pos (Int.mul_pos h h) h
theorem zBad_in {gap give : Int} (h : 0 ≤ gap) : 0 ≤ zBad gap give ∧ zBad gap give ≤ 10000 := by
  unfold zBad
  split
  · omega
  · next hg =>
    have h1 : 0 ≤ gap * gap * gap := Int.mul_nonneg (Int.mul_nonneg h h) h
    have h2 : 0 < give * give * give := cube_pos (by omega)
    have h3 : 0 ≤ (100 * (gap * gap * gap)).tdiv (give * give * give) := Int.tdiv_nonneg (by omega) (by omega)
    omega
theorem zq_in {a b : Int} (ha : 0 ≤ a ∧ a ≤ 900000000000000000) (hb : 0 < b) : 0 ≤ a.tdiv b ∧ a.tdiv b ≤ 900000000000000000 := by
  refine ⟨Int.tdiv_nonneg ha.1 (by omega), ?_⟩
  have := Int.natAbs_tdiv_le_natAbs a b
  omega
def zWid (k s : Int) : Int := if s < k then 3 else if s < 2 * k then 2 else 1
/-- a line's numbers out of what it lacks, and by how much it may give -/
def zOk (lk sh : Int) : Prop := ¬ (lk < 0 ∧ sh < -lk)
def zUg (n e lk st sh : Int) : Int := if lk < 0 then zBad (-lk) sh else if lk = 0 ∨ n ≤ e then 0 else zBad lk st
def zCl (n e lk st sh : Int) : Int := if lk < 0 then (if sh < 2 * -lk then 0 else 1) else if lk = 0 ∨ n ≤ e then 1 else zWid lk st
theorem zUg_n {n e lk st sh : Int} (h : lk < 0) : zUg n e lk st sh = zBad (-lk) sh := if_pos h
theorem zUg_z {n e lk st sh : Int} (h : ¬ lk < 0) (h2 : lk = 0 ∨ n ≤ e) : zUg n e lk st sh = 0 := by unfold zUg; rw [if_neg h, if_pos h2]
theorem zUg_w {n e lk st sh : Int} (h : ¬ lk < 0) (h2 : ¬ (lk = 0 ∨ n ≤ e)) : zUg n e lk st sh = zBad lk st := by unfold zUg; rw [if_neg h, if_neg h2]
theorem zCl_n {n e lk st sh : Int} (h : lk < 0) : zCl n e lk st sh = if sh < 2 * -lk then 0 else 1 := if_pos h
theorem zCl_z {n e lk st sh : Int} (h : ¬ lk < 0) (h2 : lk = 0 ∨ n ≤ e) : zCl n e lk st sh = 1 := by unfold zCl; rw [if_neg h, if_pos h2]
theorem zCl_w {n e lk st sh : Int} (h : ¬ lk < 0) (h2 : ¬ (lk = 0 ∨ n ≤ e)) : zCl n e lk st sh = zWid lk st := by unfold zCl; rw [if_neg h, if_neg h2]
/-- the sums over what stands before an item -/
def zPok (n : Int) (LB SB HB : Int → Int) : Prop := (∀ j, 0 ≤ j → j ≤ n → (0 ≤ LB j ∧ LB j ≤ 1000000) ∧ (0 ≤ SB j ∧ SB j ≤ 1000000) ∧ (0 ≤ HB j ∧ HB j ≤ 100000)) ∧ ∀ i j, 0 ≤ i → i ≤ j → j ≤ n → LB i ≤ LB j ∧ SB i ≤ SB j ∧ HB i ≤ HB j
/-- what the line from s to e lacks -/
def zLk (n : Int) (K P LB : Int → Int) (s e w : Int) : Int := w - (LB e - LB (min s e)) - (if 0 ≤ e ∧ e < n ∧ K e = 2 then P e else 0)
theorem hd_X1_badnessOf_s : yX1_badnessOf.cls ≠ "java/lang/invoke/MethodHandle" ∧ yX1_badnessOf.cls ≠ "java/lang/invoke/VarHandle" ∧ (parseMethodDescriptor yX1_badnessOf.desc).map (fun d => d.parameters.length) = some 2 := by decide +kernel
theorem hd_X1_settle_v : yX1_settle.cls = RX1 ∧ yX1_settle.cls ≠ "java/lang/invoke/MethodHandle" ∧ yX1_settle.cls ≠ "java/lang/invoke/VarHandle" ∧ (parseMethodDescriptor yX1_settle.desc).map (fun d => d.parameters.length) = some 2 := by decide +kernel
theorem nf_RX1_15 : (RX1, 15, "BreakSearch$Items", "lengthBefore", "[I", "BreakSearch") ∈ zNF := by decide +kernel
theorem nm_RX1_21 : (RX1, 21, yX0_widthEndingAt, "BreakSearch") ∈ zNM := by decide +kernel
theorem hd_X0_widthEndingAt_s : yX0_widthEndingAt.cls ≠ "java/lang/invoke/MethodHandle" ∧ yX0_widthEndingAt.cls ≠ "java/lang/invoke/VarHandle" ∧ (parseMethodDescriptor yX0_widthEndingAt.desc).map (fun d => d.parameters.length) = some 1 := by decide +kernel
theorem nm_RX1_38 : (RX1, 38, yX0_isEnd, "BreakSearch") ∈ zNM := by decide +kernel
theorem hd_X0_isEnd_s : yX0_isEnd.cls ≠ "java/lang/invoke/MethodHandle" ∧ yX0_isEnd.cls ≠ "java/lang/invoke/VarHandle" ∧ (parseMethodDescriptor yX0_isEnd.desc).map (fun d => d.parameters.length) = some 1 := by decide +kernel
theorem nf_RX1_46 : (RX1, 46, "BreakSearch$Items", "stretchBefore", "[I", "BreakSearch") ∈ zNF := by decide +kernel
theorem hd_X1_widen_v : yX1_widen.cls = RX1 ∧ yX1_widen.cls ≠ "java/lang/invoke/MethodHandle" ∧ yX1_widen.cls ≠ "java/lang/invoke/VarHandle" ∧ (parseMethodDescriptor yX1_widen.desc).map (fun d => d.parameters.length) = some 1 := by decide +kernel
theorem nf_RX1_31 : (RX1, 31, "BreakSearch$Items", "shrinkBefore", "[I", "BreakSearch") ∈ zNF := by decide +kernel
theorem hd_X1_squeeze_v : yX1_squeeze.cls = RX1 ∧ yX1_squeeze.cls ≠ "java/lang/invoke/MethodHandle" ∧ yX1_squeeze.cls ≠ "java/lang/invoke/VarHandle" ∧ (parseMethodDescriptor yX1_squeeze.desc).map (fun d => d.parameters.length) = some 1 := by decide +kernel
theorem nf_RX4_35 : (RX4, 35, "BreakSearch$Line", "lack", "I", "BreakSearch") ∈ zNF := by decide +kernel
theorem nf_RX4_40 : (RX4, 40, "BreakSearch$Line", "ugliness", "I", "BreakSearch") ∈ zNF := by decide +kernel
theorem nf_RX4_43 : (RX4, 43, "BreakSearch$Line", "looks", "I", "BreakSearch") ∈ zNF := by decide +kernel
set_option maxRecDepth 20000 in
theorem mX2_toleranceIn_f15 : Cond.fieldLink RX2 15 "BreakSearch$Rules" "settings" "[I" ∈ wsX2_toleranceIn := by decide +kernel
set_option maxRecDepth 20000 in
theorem iX2_toleranceIn_2 : ∀ w ∈ u_ws RX2 TX2 2, w ∈ wsX2_toleranceIn := by decide +kernel
abbrev rm_X2_toleranceIn : Room := { frames := 1, cells := 0, slots := 0, locals := 12 }
set_option maxHeartbeats 4000000 in
set_option maxRecDepth 100000 in
theorem c_X2_toleranceIn (l : Launch) (g : zG) (oR aW aT : Nat) (W T : Int → Int) (ps : Int) (h1 : -2147483648 ≤ ps ∧ ps ≤ 2147483647) : zMRi l yX2_toleranceIn wsX2_toleranceIn rm_X2_toleranceIn g [(oR, eo 2 [.ref aW, .ref aT]), (aW, ei g 50 W), (aT, ei g 3 T)] [.ref oR, .int (iZ (ps))] (if ps = 1 then T 0 else T 1) := by
  refine z_beRi (cc := cX2_toleranceIn) (nL := 2) (ret := some .int) (plainFor_of_name (by decide +kernel)) rfl (Or.inl rfl) (Nat.le_of_ble_eq_true rfl) ?_
  intro X hC hR
  have hC : zC X g cX2_toleranceIn RX2 wsX2_toleranceIn rm_X2_toleranceIn 2 := hC
  show ZG X g (zE X) 0 0 [(oR, eo 2 [.ref aW, .ref aT]), (aW, ei g 50 W), (aT, ei g 3 T)] [(0, .ref oR), (1, .int (iZ (ps)))] 0 []
  refine z_aload_n hC 0 dX2_toleranceIn_0 rfl rfl ?_
  refine z_get hC iX2_toleranceIn_2 0 1 rfl rfl (by decide) mX2_toleranceIn_f15 rfl dX2_toleranceIn_1 ?_
  refine z_iload_n hC 1 dX2_toleranceIn_4 rfl rfl ?_
  refine z_iconst hC dX2_toleranceIn_5 ?_
  refine z_icmp_ne hC 13 dX2_toleranceIn_6 (by decide) (by omega) (by omega) (fun c_6 => ?_) (fun c_6 => ?_)
  ·
    refine z_iconst hC dX2_toleranceIn_13 ?_
    refine z_iald hC 2 rfl (by omega) (by decide) dX2_toleranceIn_14 ?_
    exact hR _ _ _ _ (by first | exact (if_pos (by omega)).symm | exact (if_neg (by omega)).symm) dX2_toleranceIn_15
  ·
    refine z_iconst hC dX2_toleranceIn_9 ?_
    refine z_goto (tgt := 14) hC dX2_toleranceIn_10 (by decide) ?_
    refine z_iald hC 2 rfl (by omega) (by decide) dX2_toleranceIn_14 ?_
    exact hR _ _ _ _ (by first | exact (if_pos (by omega)).symm | exact (if_neg (by omega)).symm) dX2_toleranceIn_15
abbrev rm_X2_breaksAtMarksIn : Room := { frames := 1, cells := 0, slots := 0, locals := 12 }
set_option maxHeartbeats 4000000 in
set_option maxRecDepth 100000 in
theorem c_X2_breaksAtMarksIn (l : Launch) (g : zG) (oR aW aT : Nat) (W T : Int → Int) (ps : Int) (h1 : -2147483648 ≤ ps ∧ ps ≤ 2147483647) : zMRi l yX2_breaksAtMarksIn wsX2_breaksAtMarksIn rm_X2_breaksAtMarksIn g [(oR, eo 2 [.ref aW, .ref aT]), (aW, ei g 50 W), (aT, ei g 3 T)] [.ref oR, .int (iZ (ps))] (b2 (¬ ps = 1)) := by
  refine z_beRi (cc := cX2_breaksAtMarksIn) (nL := 2) (ret := some .boolean) (plainFor_of_name (by decide +kernel)) rfl (Or.inr ⟨rfl, b2_01 _⟩) (Nat.le_of_ble_eq_true rfl) ?_
  intro X hC hR
  have hC : zC X g cX2_breaksAtMarksIn RX2 wsX2_breaksAtMarksIn rm_X2_breaksAtMarksIn 2 := hC
  show ZG X g (zE X) 0 0 [(oR, eo 2 [.ref aW, .ref aT]), (aW, ei g 50 W), (aT, ei g 3 T)] [(0, .ref oR), (1, .int (iZ (ps)))] 0 []
  refine z_iload_n hC 1 dX2_breaksAtMarksIn_0 rfl rfl ?_
  refine z_iconst hC dX2_breaksAtMarksIn_1 ?_
  refine z_icmp_eq hC 9 dX2_breaksAtMarksIn_2 (by decide) (by omega) (by omega) (fun c_2 => ?_) (fun c_2 => ?_)
  ·
    refine z_iconst hC dX2_breaksAtMarksIn_9 ?_
    exact hR _ _ _ _ (by first | exact b2_1' (by omega) | exact b2_0' (by omega) | exact b2_eq (by omega)) dX2_breaksAtMarksIn_10
  ·
    refine z_iconst hC dX2_breaksAtMarksIn_5 ?_
    refine z_goto (tgt := 10) hC dX2_breaksAtMarksIn_6 (by decide) ?_
    exact hR _ _ _ _ (by first | exact b2_1' (by omega) | exact b2_0' (by omega) | exact b2_eq (by omega)) dX2_breaksAtMarksIn_10
set_option maxRecDepth 20000 in
theorem mX2_moreStretchIn_f15 : Cond.fieldLink RX2 15 "BreakSearch$Rules" "settings" "[I" ∈ wsX2_moreStretchIn := by decide +kernel
set_option maxRecDepth 20000 in
theorem iX2_moreStretchIn_2 : ∀ w ∈ u_ws RX2 TX2 2, w ∈ wsX2_moreStretchIn := by decide +kernel
abbrev rm_X2_moreStretchIn : Room := { frames := 1, cells := 0, slots := 0, locals := 12 }
set_option maxHeartbeats 4000000 in
set_option maxRecDepth 100000 in
theorem c_X2_moreStretchIn (l : Launch) (g : zG) (oR aW aT : Nat) (W T : Int → Int) (ps : Int) (h1 : -2147483648 ≤ ps ∧ ps ≤ 2147483647) : zMRi l yX2_moreStretchIn wsX2_moreStretchIn rm_X2_moreStretchIn g [(oR, eo 2 [.ref aW, .ref aT]), (aW, ei g 50 W), (aT, ei g 3 T)] [.ref oR, .int (iZ (ps))] (if ps = 3 then T 2 else 0) := by
  refine z_beRi (cc := cX2_moreStretchIn) (nL := 2) (ret := some .int) (plainFor_of_name (by decide +kernel)) rfl (Or.inl rfl) (Nat.le_of_ble_eq_true rfl) ?_
  intro X hC hR
  have hC : zC X g cX2_moreStretchIn RX2 wsX2_moreStretchIn rm_X2_moreStretchIn 2 := hC
  show ZG X g (zE X) 0 0 [(oR, eo 2 [.ref aW, .ref aT]), (aW, ei g 50 W), (aT, ei g 3 T)] [(0, .ref oR), (1, .int (iZ (ps)))] 0 []
  refine z_iload_n hC 1 dX2_moreStretchIn_0 rfl rfl ?_
  refine z_iconst hC dX2_moreStretchIn_1 ?_
  refine z_icmp_ne hC 14 dX2_moreStretchIn_2 (by decide) (by omega) (by omega) (fun c_2 => ?_) (fun c_2 => ?_)
  ·
    refine z_iconst hC dX2_moreStretchIn_14 ?_
    exact hR _ _ _ _ (by first | exact (if_pos (by omega)).symm | exact (if_neg (by omega)).symm) dX2_moreStretchIn_15
  ·
    refine z_aload_n hC 0 dX2_moreStretchIn_5 rfl rfl ?_
    refine z_get hC iX2_moreStretchIn_2 0 1 rfl rfl (by decide) mX2_moreStretchIn_f15 rfl dX2_moreStretchIn_6 ?_
    refine z_iconst hC dX2_moreStretchIn_9 ?_
    refine z_iald hC 2 rfl (by omega) (by decide) dX2_moreStretchIn_10 ?_
    refine z_goto (tgt := 15) hC dX2_moreStretchIn_11 (by decide) ?_
    exact hR _ _ _ _ (by first | exact (if_pos (by omega)).symm | exact (if_neg (by omega)).symm) dX2_moreStretchIn_15
set_option maxRecDepth 20000 in
theorem mX1_badnessOf_k65 : Cond.constantLong RX1 65 (100) ∈ wsX1_badnessOf := by decide +kernel
set_option maxRecDepth 20000 in
theorem mX1_badnessOf_k67 : Cond.constantLong RX1 67 (10000) ∈ wsX1_badnessOf := by decide +kernel
set_option maxRecDepth 20000 in
theorem mX1_badnessOf_l69 : Cond.methodLink RX1 69 Lib.MathLoose.min_long.x ∈ wsX1_badnessOf := by decide +kernel
set_option maxRecDepth 20000 in
theorem mX1_badnessOf_ls69 : Cond.static Lib.MathLoose.min_long.x ∈ wsX1_badnessOf := by decide +kernel
set_option maxRecDepth 20000 in
theorem mX1_badnessOf_li : Cond.initialized "java/lang/Math" ∈ wsX1_badnessOf := by decide +kernel
set_option maxRecDepth 20000 in
theorem mX1_badnessOf_lc69 : Cond.code Lib.MathLoose.min_long.x Lib.MathLoose.min_long.code 4 (some .long) ∈ wsX1_badnessOf := by decide +kernel
abbrev rm_X1_badnessOf : Room := { frames := 1, cells := 0, slots := 0, locals := 23 }
set_option maxHeartbeats 4000000 in
set_option maxRecDepth 100000 in
theorem c_X1_badnessOf (l : Launch) (g : zG) (gap give : Int) (h1 : 0 ≤ gap ∧ gap ≤ 200000) (h2 : -2147483648 ≤ give ∧ give ≤ 2000000) : zMRi l yX1_badnessOf wsX1_badnessOf rm_X1_badnessOf g [] [.int (iZ (gap)), .int (iZ (give))] (zBad gap give) := by
  refine z_beRi (cc := cX1_badnessOf) (nL := 6) (ret := some .int) (plainFor_of_name (by decide +kernel)) rfl (Or.inl rfl) (Nat.le_of_ble_eq_true rfl) ?_
  intro X hC hR
  have hC : zC X g cX1_badnessOf RX1 wsX1_badnessOf rm_X1_badnessOf 6 := hC
  show ZG X g (zE X) 0 0 [] [(0, .int (iZ (gap))), (1, .int (iZ (give)))] 0 []
  refine z_iload_n hC 1 dX1_badnessOf_0 rfl rfl ?_
  refine z_if_gt hC 8 dX1_badnessOf_1 (by decide) (by omega) (fun c_1 => ?_) (fun c_1 => ?_)
  ·
    have q1 := cube_in h1.1 h1.2
    have q2 := cube_in (x := give) (b := 2000000) (by omega) (by omega)
    have q3 := cube_pos (x := give) (by omega)
    have q4 := zq_in (a := 100 * (gap * gap * gap)) (b := give * give * give) (by omega) (by omega)
    refine z_iload_n hC 0 dX1_badnessOf_8 rfl rfl ?_
    refine z_i2l hC dX1_badnessOf_9 (by omega) ?_
    refine z_iload_n hC 0 dX1_badnessOf_10 rfl rfl ?_
    refine z_i2l hC dX1_badnessOf_11 (by omega) ?_
    refine z_lmul hC dX1_badnessOf_12 ?_
    refine z_iload_n hC 0 dX1_badnessOf_13 rfl rfl ?_
    refine z_i2l hC dX1_badnessOf_14 (by omega) ?_
    refine z_lmul hC dX1_badnessOf_15 ?_
    refine z_lstore_n hC (lv' := [(2, _), (0, _), (1, _)]) dX1_badnessOf_16 rfl (by decide) rfl ?_
    refine z_iload_n hC 2 dX1_badnessOf_17 rfl rfl ?_
    refine z_i2l hC dX1_badnessOf_18 (by omega) ?_
    refine z_iload_n hC 2 dX1_badnessOf_19 rfl rfl ?_
    refine z_i2l hC dX1_badnessOf_20 (by omega) ?_
    refine z_lmul hC dX1_badnessOf_21 ?_
    refine z_iload_n hC 2 dX1_badnessOf_22 rfl rfl ?_
    refine z_i2l hC dX1_badnessOf_23 (by omega) ?_
    refine z_lmul hC dX1_badnessOf_24 ?_
    refine z_lstore hC (lv' := [(4, _), (2, _), (0, _), (1, _)]) dX1_badnessOf_25 (by decide) rfl ?_
    refine z_ldc2 hC (100) mX1_badnessOf_k65 (by decide) dX1_badnessOf_27 ?_
    refine z_lload_n hC 1 dX1_badnessOf_30 rfl rfl ?_
    refine z_lmul hC dX1_badnessOf_31 ?_
    refine z_lload hC 0 dX1_badnessOf_32 rfl ?_
    refine z_ldiv hC dX1_badnessOf_34 (by omega) (by omega) ?_
    refine z_ldc2 hC (10000) mX1_badnessOf_k67 (by decide) dX1_badnessOf_35 ?_
    refine z_minl hC mX1_badnessOf_l69 mX1_badnessOf_ls69 mX1_badnessOf_li mX1_badnessOf_lc69 (by omega) (by omega) (by decide) (Nat.le_of_ble_eq_true rfl) (by decide) (by decide) dX1_badnessOf_38 ?_
    refine z_l2i hC dX1_badnessOf_41 ?_
    exact hR _ _ _ _ (by unfold zBad; first | exact (if_pos (by omega)).symm | exact (if_neg (by omega)).symm) dX1_badnessOf_42
  ·
    refine z_sip hC dX1_badnessOf_4 (by decide) ?_
    exact hR _ _ _ _ (by unfold zBad; first | exact (if_pos (by omega)).symm | exact (if_neg (by omega)).symm) dX1_badnessOf_7
set_option maxRecDepth 20000 in
theorem mX1_settle_f52 : Cond.fieldLink RX1 52 "BreakSearch$Line" "stands" "Z" ∈ wsX1_settle := by decide +kernel
set_option maxRecDepth 20000 in
theorem iX1_settle_1 : ∀ w ∈ u_ws RX1 TX1 4, w ∈ wsX1_settle := by decide +kernel
set_option maxRecDepth 20000 in
theorem mX1_settle_f56 : Cond.fieldLink RX1 56 "BreakSearch$Line" "ugliness" "I" ∈ wsX1_settle := by decide +kernel
set_option maxRecDepth 20000 in
theorem mX1_settle_f59 : Cond.fieldLink RX1 59 "BreakSearch$Line" "looks" "I" ∈ wsX1_settle := by decide +kernel
abbrev rm_X1_settle : Room := { frames := 1, cells := 0, slots := 0, locals := 12 }
set_option maxHeartbeats 4000000 in
set_option maxRecDepth 100000 in
theorem c_X1_settle (l : Launch) (g : zG) (hL : Nat) (k ug lo sd : Int) (b c : Int)  : zMWv (S := Unit) l yX1_settle wsX1_settle rm_X1_settle g [(hL, eo 1 [.int (iZ (k)), .int (iZ (ug)), .int (iZ (lo)), .int (iZ (sd))])] [.ref hL, .int (iZ (b)), .int (iZ (c))] (fun _ => True) (fun u => [(hL, eo 1 [.int (iZ (k)), .int (iZ (b)), .int (iZ (c)), .int (iZ (1))])]) 0 0 := by
  refine z_beWv (cc := cX1_settle) (nL := 3) (plainFor_of_name (by decide +kernel)) rfl (Nat.le_of_ble_eq_true rfl) ?_
  intro X A hC hN hR
  have hC : zC X g cX1_settle RX1 wsX1_settle rm_X1_settle 3 := hC
  show ZG X g (zD X A) 0 0 [(hL, eo 1 [.int (iZ (k)), .int (iZ (ug)), .int (iZ (lo)), .int (iZ (sd))])] [(0, .ref hL), (1, .int (iZ (b))), (2, .int (iZ (c)))] 0 []
  refine z_aload_n hC 0 dX1_settle_0 rfl rfl ?_
  refine z_iconst hC dX1_settle_1 ?_
  refine z_put hC iX1_settle_1 tyX1 tyX1_ok nmX1 0 3 rfl rfl (by decide) mX1_settle_f52 rfl (nar_bool (by omega)) (fit_bool (by omega)) (Nat.le_of_ble_eq_true rfl) dX1_settle_2 (ws' := [_]) rfl ?_
  refine z_aload_n hC 0 dX1_settle_5 rfl rfl ?_
  refine z_iload_n hC 1 dX1_settle_6 rfl rfl ?_
  refine z_put hC iX1_settle_1 tyX1 tyX1_ok nmX1 0 1 rfl rfl (by decide) mX1_settle_f56 rfl rfl rfl (Nat.le_of_ble_eq_true rfl) dX1_settle_7 (ws' := [_]) rfl ?_
  refine z_aload_n hC 0 dX1_settle_10 rfl rfl ?_
  refine z_iload_n hC 2 dX1_settle_11 rfl rfl ?_
  refine z_put hC iX1_settle_1 tyX1 tyX1_ok nmX1 0 2 rfl rfl (by decide) mX1_settle_f59 rfl rfl rfl (Nat.le_of_ble_eq_true rfl) dX1_settle_12 (ws' := [_]) rfl ?_
  exact hR () _ _ _ [0] trivial (by decide) rfl dX1_settle_15
set_option maxRecDepth 20000 in
theorem mX1_squeeze_f25 : Cond.fieldLink RX1 25 "BreakSearch$Line" "lack" "I" ∈ wsX1_squeeze := by decide +kernel
set_option maxRecDepth 20000 in
theorem iX1_squeeze_1 : ∀ w ∈ u_ws RX1 TX1 4, w ∈ wsX1_squeeze := by decide +kernel
set_option maxRecDepth 20000 in
theorem mX1_squeeze_f52 : Cond.fieldLink RX1 52 "BreakSearch$Line" "stands" "Z" ∈ wsX1_squeeze := by decide +kernel
abbrev rm_X1_squeeze : Room := { frames := 2, cells := 0, slots := 0, locals := 48 }
set_option maxHeartbeats 4000000 in
set_option maxRecDepth 100000 in
theorem c_X1_squeeze (l : Launch) (g : zG) (hL : Nat) (k ug lo sd : Int) (s : Int) (h1 : -2000000 ≤ k ∧ k < 0) (h2 : 0 ≤ s ∧ s ≤ 200000) : zMWv (S := (Int) × (Int) × (Int)) l yX1_squeeze wsX1_squeeze rm_X1_squeeze g [(hL, eo 1 [.int (iZ (k)), .int (iZ (ug)), .int (iZ (lo)), .int (iZ (sd))])] [.ref hL, .int (iZ (s))] (fun u => ((s < -k) ∧ u = (ug, lo, 0)) ∨ ((-k ≤ s) ∧ u = (zBad (-k) s, if s < 2 * -k then 0 else 1, 1))) (fun u => [(hL, eo 1 [.int (iZ (k)), .int (iZ (u.1)), .int (iZ (u.2.1)), .int (iZ (u.2.2))])]) 0 0 := by
  refine z_beWv (cc := cX1_squeeze) (nL := 3) (plainFor_of_name (by decide +kernel)) rfl (Nat.le_of_ble_eq_true rfl) ?_
  intro X A hC hN hR
  have hC : zC X g cX1_squeeze RX1 wsX1_squeeze rm_X1_squeeze 3 := hC
  show ZG X g (zD X A) 0 0 [(hL, eo 1 [.int (iZ (k)), .int (iZ (ug)), .int (iZ (lo)), .int (iZ (sd))])] [(0, .ref hL), (1, .int (iZ (s)))] 0 []
  refine z_aload_n hC 0 dX1_squeeze_0 rfl rfl ?_
  refine z_get hC iX1_squeeze_1 0 0 rfl rfl (by decide) mX1_squeeze_f25 rfl dX1_squeeze_1 ?_
  refine z_ineg hC dX1_squeeze_4 ?_
  refine z_istore_n hC (lv' := [(2, _), (0, _), (1, _)]) dX1_squeeze_5 rfl (by decide) rfl ?_
  refine z_iload_n hC 0 dX1_squeeze_6 rfl rfl ?_
  refine z_iload_n hC 2 dX1_squeeze_7 rfl rfl ?_
  refine z_icmp_le hC 17 dX1_squeeze_8 (by decide) (by omega) (by omega) (fun c_8 => ?_) (fun c_8 => ?_)
  ·
    refine z_aload_n hC 1 dX1_squeeze_17 rfl rfl ?_
    refine z_iload_n hC 0 dX1_squeeze_18 rfl rfl ?_
    refine z_iload_n hC 2 dX1_squeeze_19 rfl rfl ?_
    refine z_sRi hC 2 (c_X1_badnessOf (xl X) g _ _ (by omega) (by omega)) gX1_squeeze_X1_badnessOf rfl hd_X1_badnessOf_s (by decide) ⟨rfl, rfl⟩ [] (by decide) rfl rfl rfl (Nat.le_of_ble_eq_true rfl) dX1_squeeze_20 (by decide) ?_
    refine z_iconst hC dX1_squeeze_23 ?_
    refine z_iload_n hC 0 dX1_squeeze_24 rfl rfl ?_
    refine z_imul hC dX1_squeeze_25 ?_
    refine z_iload_n hC 2 dX1_squeeze_26 rfl rfl ?_
    refine z_icmp_le hC 34 dX1_squeeze_27 (by decide) (by omega) (by omega) (fun c_27 => ?_) (fun c_27 => ?_)
    ·
      refine z_iconst hC dX1_squeeze_34 ?_
      refine z_vWv (wr := []) hC 2 (c_X1_settle (xl X) g _ _ _ _ _ _ _) gX1_squeeze_X1_settle rfl hd_X1_settle_v (by decide) ⟨rfl, rfl⟩ [0] [] (by decide) rfl rfl (by decide) (by decide) 0 1 rfl rfl rfl rfl rfl (Nat.le_of_ble_eq_true rfl) dX1_squeeze_35 (by decide) (fun u_35 p_35 => ?_)
      refine z_ws (ws' := [(hL, eo 1 [.int (iZ (k)), .int (iZ ((zBad (-k) s))), .int (iZ (1)), .int (iZ (1))])]) [0] (by decide) rfl ?_
      exact hR ((zBad (-k) s), 1, 1) _ _ _ [0] (by first | exact Or.inl ⟨by omega, rfl⟩ | (refine Or.inr ⟨by omega, ?_⟩; (repeat (first | rw [if_pos (by omega)] | rw [if_neg (by omega)])))) (by decide) rfl dX1_squeeze_38
    ·
      refine z_iconst hC dX1_squeeze_30 ?_
      refine z_goto (tgt := 35) hC dX1_squeeze_31 (by decide) ?_
      refine z_vWv (wr := []) hC 2 (c_X1_settle (xl X) g _ _ _ _ _ _ _) gX1_squeeze_X1_settle rfl hd_X1_settle_v (by decide) ⟨rfl, rfl⟩ [0] [] (by decide) rfl rfl (by decide) (by decide) 0 1 rfl rfl rfl rfl rfl (Nat.le_of_ble_eq_true rfl) dX1_squeeze_35 (by decide) (fun u_35 p_35 => ?_)
      refine z_ws (ws' := [(hL, eo 1 [.int (iZ (k)), .int (iZ ((zBad (-k) s))), .int (iZ (0)), .int (iZ (1))])]) [0] (by decide) rfl ?_
      exact hR ((zBad (-k) s), 0, 1) _ _ _ [0] (by first | exact Or.inl ⟨by omega, rfl⟩ | (refine Or.inr ⟨by omega, ?_⟩; (repeat (first | rw [if_pos (by omega)] | rw [if_neg (by omega)])))) (by decide) rfl dX1_squeeze_38
  ·
    refine z_aload_n hC 1 dX1_squeeze_11 rfl rfl ?_
    refine z_iconst hC dX1_squeeze_12 ?_
    refine z_put hC iX1_squeeze_1 tyX1 tyX1_ok nmX1 0 3 rfl rfl (by decide) mX1_squeeze_f52 rfl (nar_bool (by omega)) (fit_bool (by omega)) (Nat.le_of_ble_eq_true rfl) dX1_squeeze_13 (ws' := [_]) rfl ?_
    exact hR (ug, lo, 0) _ _ _ [0] (by first | exact Or.inl ⟨by omega, rfl⟩ | (refine Or.inr ⟨by omega, ?_⟩; (repeat (first | rw [if_pos (by omega)] | rw [if_neg (by omega)])))) (by decide) rfl dX1_squeeze_16
set_option maxRecDepth 20000 in
theorem mX1_widen_f25 : Cond.fieldLink RX1 25 "BreakSearch$Line" "lack" "I" ∈ wsX1_widen := by decide +kernel
set_option maxRecDepth 20000 in
theorem iX1_widen_1 : ∀ w ∈ u_ws RX1 TX1 4, w ∈ wsX1_widen := by decide +kernel
abbrev rm_X1_widen : Room := { frames := 2, cells := 0, slots := 0, locals := 48 }
set_option maxHeartbeats 4000000 in
set_option maxRecDepth 100000 in
theorem c_X1_widen (l : Launch) (g : zG) (hL : Nat) (k ug lo sd : Int) (s : Int) (h1 : 0 < k ∧ k ≤ 200000) (h2 : 0 ≤ s ∧ s ≤ 2000000) : zMWv (S := (Int) × (Int) × (Int)) l yX1_widen wsX1_widen rm_X1_widen g [(hL, eo 1 [.int (iZ (k)), .int (iZ (ug)), .int (iZ (lo)), .int (iZ (sd))])] [.ref hL, .int (iZ (s))] (fun u => u.1 = zBad k s ∧ u.2.1 = zWid k s ∧ u.2.2 = 1) (fun u => [(hL, eo 1 [.int (iZ (k)), .int (iZ (u.1)), .int (iZ (u.2.1)), .int (iZ (u.2.2))])]) 0 0 := by
  refine z_beWv (cc := cX1_widen) (nL := 3) (plainFor_of_name (by decide +kernel)) rfl (Nat.le_of_ble_eq_true rfl) ?_
  intro X A hC hN hR
  have hC : zC X g cX1_widen RX1 wsX1_widen rm_X1_widen 3 := hC
  show ZG X g (zD X A) 0 0 [(hL, eo 1 [.int (iZ (k)), .int (iZ (ug)), .int (iZ (lo)), .int (iZ (sd))])] [(0, .ref hL), (1, .int (iZ (s)))] 0 []
  refine z_iconst hC dX1_widen_0 ?_
  refine z_istore_n hC (lv' := [(2, _), (0, _), (1, _)]) dX1_widen_1 rfl (by decide) rfl ?_
  refine z_aload_n hC 1 dX1_widen_2 rfl rfl ?_
  refine z_get hC iX1_widen_1 0 0 rfl rfl (by decide) mX1_widen_f25 rfl dX1_widen_3 ?_
  refine z_iload_n hC 2 dX1_widen_6 rfl rfl ?_
  refine z_icmp_le hC 15 dX1_widen_7 (by decide) (by omega) (by omega) (fun c_7 => ?_) (fun c_7 => ?_)
  ·
    refine z_iconst hC dX1_widen_15 ?_
    refine z_aload_n hC 1 dX1_widen_16 rfl rfl ?_
    refine z_get hC iX1_widen_1 0 0 rfl rfl (by decide) mX1_widen_f25 rfl dX1_widen_17 ?_
    refine z_imul hC dX1_widen_20 ?_
    refine z_iload_n hC 2 dX1_widen_21 rfl rfl ?_
    refine z_icmp_le hC 27 dX1_widen_22 (by decide) (by omega) (by omega) (fun c_22 => ?_) (fun c_22 => ?_)
    ·
      refine z_aload_n hC 1 dX1_widen_27 rfl rfl ?_
      refine z_aload_n hC 1 dX1_widen_28 rfl rfl ?_
      refine z_get hC iX1_widen_1 0 0 rfl rfl (by decide) mX1_widen_f25 rfl dX1_widen_29 ?_
      refine z_iload_n hC 2 dX1_widen_32 rfl rfl ?_
      refine z_sRi hC 2 (c_X1_badnessOf (xl X) g _ _ (by omega) (by omega)) gX1_widen_X1_badnessOf rfl hd_X1_badnessOf_s (by decide) ⟨rfl, rfl⟩ [] (by decide) rfl rfl rfl (Nat.le_of_ble_eq_true rfl) dX1_widen_33 (by decide) ?_
      refine z_iload_n hC 0 dX1_widen_36 rfl rfl ?_
      refine z_vWv (wr := []) hC 2 (c_X1_settle (xl X) g _ _ _ _ _ _ _) gX1_widen_X1_settle rfl hd_X1_settle_v (by decide) ⟨rfl, rfl⟩ [0] [] (by decide) rfl rfl (by decide) (by decide) 0 1 rfl rfl rfl rfl rfl (Nat.le_of_ble_eq_true rfl) dX1_widen_37 (by decide) (fun u_37 p_37 => ?_)
      refine z_ws (ws' := [(hL, eo 1 [.int (iZ (k)), .int (iZ ((zBad k s))), .int (iZ (1)), .int (iZ (1))])]) [0] (by decide) rfl ?_
      exact hR ((zBad k s), 1, 1) _ _ _ [0] ⟨rfl, by unfold zWid; (repeat (first | rw [if_pos (by omega)] | rw [if_neg (by omega)])), rfl⟩ (by decide) rfl dX1_widen_40
    ·
      refine z_iconst hC dX1_widen_25 ?_
      refine z_istore_n hC (lv' := [(2, _), (0, _), (1, _)]) dX1_widen_26 rfl (by decide) rfl ?_
      refine z_aload_n hC 1 dX1_widen_27 rfl rfl ?_
      refine z_aload_n hC 1 dX1_widen_28 rfl rfl ?_
      refine z_get hC iX1_widen_1 0 0 rfl rfl (by decide) mX1_widen_f25 rfl dX1_widen_29 ?_
      refine z_iload_n hC 2 dX1_widen_32 rfl rfl ?_
      refine z_sRi hC 2 (c_X1_badnessOf (xl X) g _ _ (by omega) (by omega)) gX1_widen_X1_badnessOf rfl hd_X1_badnessOf_s (by decide) ⟨rfl, rfl⟩ [] (by decide) rfl rfl rfl (Nat.le_of_ble_eq_true rfl) dX1_widen_33 (by decide) ?_
      refine z_iload_n hC 0 dX1_widen_36 rfl rfl ?_
      refine z_vWv (wr := []) hC 2 (c_X1_settle (xl X) g _ _ _ _ _ _ _) gX1_widen_X1_settle rfl hd_X1_settle_v (by decide) ⟨rfl, rfl⟩ [0] [] (by decide) rfl rfl (by decide) (by decide) 0 1 rfl rfl rfl rfl rfl (Nat.le_of_ble_eq_true rfl) dX1_widen_37 (by decide) (fun u_37 p_37 => ?_)
      refine z_ws (ws' := [(hL, eo 1 [.int (iZ (k)), .int (iZ ((zBad k s))), .int (iZ (2)), .int (iZ (1))])]) [0] (by decide) rfl ?_
      exact hR ((zBad k s), 2, 1) _ _ _ [0] ⟨rfl, by unfold zWid; (repeat (first | rw [if_pos (by omega)] | rw [if_neg (by omega)])), rfl⟩ (by decide) rfl dX1_widen_40
  ·
    refine z_iconst hC dX1_widen_10 ?_
    refine z_istore_n hC (lv' := [(2, _), (0, _), (1, _)]) dX1_widen_11 rfl (by decide) rfl ?_
    refine z_goto (tgt := 27) hC dX1_widen_12 (by decide) ?_
    refine z_aload_n hC 1 dX1_widen_27 rfl rfl ?_
    refine z_aload_n hC 1 dX1_widen_28 rfl rfl ?_
    refine z_get hC iX1_widen_1 0 0 rfl rfl (by decide) mX1_widen_f25 rfl dX1_widen_29 ?_
    refine z_iload_n hC 2 dX1_widen_32 rfl rfl ?_
    refine z_sRi hC 2 (c_X1_badnessOf (xl X) g _ _ (by omega) (by omega)) gX1_widen_X1_badnessOf rfl hd_X1_badnessOf_s (by decide) ⟨rfl, rfl⟩ [] (by decide) rfl rfl rfl (Nat.le_of_ble_eq_true rfl) dX1_widen_33 (by decide) ?_
    refine z_iload_n hC 0 dX1_widen_36 rfl rfl ?_
    refine z_vWv (wr := []) hC 2 (c_X1_settle (xl X) g _ _ _ _ _ _ _) gX1_widen_X1_settle rfl hd_X1_settle_v (by decide) ⟨rfl, rfl⟩ [0] [] (by decide) rfl rfl (by decide) (by decide) 0 1 rfl rfl rfl rfl rfl (Nat.le_of_ble_eq_true rfl) dX1_widen_37 (by decide) (fun u_37 p_37 => ?_)
    refine z_ws (ws' := [(hL, eo 1 [.int (iZ (k)), .int (iZ ((zBad k s))), .int (iZ (3)), .int (iZ (1))])]) [0] (by decide) rfl ?_
    exact hR ((zBad k s), 3, 1) _ _ _ [0] ⟨rfl, by unfold zWid; (repeat (first | rw [if_pos (by omega)] | rw [if_neg (by omega)])), rfl⟩ (by decide) rfl dX1_widen_40
set_option maxRecDepth 20000 in
theorem mX1_isToleratedBy_f52 : Cond.fieldLink RX1 52 "BreakSearch$Line" "stands" "Z" ∈ wsX1_isToleratedBy := by decide +kernel
set_option maxRecDepth 20000 in
theorem iX1_isToleratedBy_1 : ∀ w ∈ u_ws RX1 TX1 4, w ∈ wsX1_isToleratedBy := by decide +kernel
set_option maxRecDepth 20000 in
theorem mX1_isToleratedBy_f56 : Cond.fieldLink RX1 56 "BreakSearch$Line" "ugliness" "I" ∈ wsX1_isToleratedBy := by decide +kernel
abbrev rm_X1_isToleratedBy : Room := { frames := 1, cells := 0, slots := 0, locals := 12 }
set_option maxHeartbeats 4000000 in
set_option maxRecDepth 100000 in
theorem c_X1_isToleratedBy (l : Launch) (g : zG) (hL : Nat) (k ug lo sd : Int) (t : Int) (h1 : sd = 0 ∨ sd = 1) (h2 : sd = 1 → 0 ≤ ug ∧ ug ≤ 10000) (h3 : -2147483648 ≤ t ∧ t ≤ 2147483647) : zMRi l yX1_isToleratedBy wsX1_isToleratedBy rm_X1_isToleratedBy g [(hL, eo 1 [.int (iZ (k)), .int (iZ (ug)), .int (iZ (lo)), .int (iZ (sd))])] [.ref hL, .int (iZ (t))] (b2 (sd = 1 ∧ ug ≤ t)) := by
  refine z_beRi (cc := cX1_isToleratedBy) (nL := 2) (ret := some .boolean) (plainFor_of_name (by decide +kernel)) rfl (Or.inr ⟨rfl, b2_01 _⟩) (Nat.le_of_ble_eq_true rfl) ?_
  intro X hC hR
  have hC : zC X g cX1_isToleratedBy RX1 wsX1_isToleratedBy rm_X1_isToleratedBy 2 := hC
  show ZG X g (zE X) 0 0 [(hL, eo 1 [.int (iZ (k)), .int (iZ (ug)), .int (iZ (lo)), .int (iZ (sd))])] [(0, .ref hL), (1, .int (iZ (t)))] 0 []
  refine z_aload_n hC 0 dX1_isToleratedBy_0 rfl rfl ?_
  refine z_get hC iX1_isToleratedBy_1 0 3 rfl rfl (by decide) mX1_isToleratedBy_f52 rfl dX1_isToleratedBy_1 ?_
  refine z_if_eq hC 19 dX1_isToleratedBy_4 (by decide) (by omega) (fun c_4 => ?_) (fun c_4 => ?_)
  ·
    refine z_iconst hC dX1_isToleratedBy_19 ?_
    exact hR _ _ _ _ (by first | exact b2_1' (by omega) | exact b2_0' (by omega) | exact b2_eq (by omega)) dX1_isToleratedBy_20
  ·
    have h2u := h2 (by omega)
    refine z_aload_n hC 0 dX1_isToleratedBy_7 rfl rfl ?_
    refine z_get hC iX1_isToleratedBy_1 0 1 rfl rfl (by decide) mX1_isToleratedBy_f56 rfl dX1_isToleratedBy_8 ?_
    refine z_iload_n hC 1 dX1_isToleratedBy_11 rfl rfl ?_
    refine z_icmp_gt hC 19 dX1_isToleratedBy_12 (by decide) (by omega) (by omega) (fun c_12 => ?_) (fun c_12 => ?_)
    ·
      refine z_iconst hC dX1_isToleratedBy_19 ?_
      exact hR _ _ _ _ (by first | exact b2_1' (by omega) | exact b2_0' (by omega) | exact b2_eq (by omega)) dX1_isToleratedBy_20
    ·
      refine z_iconst hC dX1_isToleratedBy_15 ?_
      refine z_goto (tgt := 20) hC dX1_isToleratedBy_16 (by decide) ?_
      exact hR _ _ _ _ (by first | exact b2_1' (by omega) | exact b2_0' (by omega) | exact b2_eq (by omega)) dX1_isToleratedBy_20
set_option maxRecDepth 20000 in
theorem mX1_isUnlike_l72 : Cond.methodLink RX1 72 Lib.Math.abs.name ∈ wsX1_isUnlike := by decide +kernel
set_option maxRecDepth 20000 in
theorem mX1_isUnlike_ls72 : Cond.static Lib.Math.abs.name ∈ wsX1_isUnlike := by decide +kernel
set_option maxRecDepth 20000 in
theorem mX1_isUnlike_li : Cond.initialized "java/lang/Math" ∈ wsX1_isUnlike := by decide +kernel
set_option maxRecDepth 20000 in
theorem mX1_isUnlike_lc72 : Cond.code Lib.Math.abs.name Lib.Math.abs.code 1 (some .int) ∈ wsX1_isUnlike := by decide +kernel
abbrev rm_X1_isUnlike : Room := { frames := 1, cells := 0, slots := 0, locals := 21 }
set_option maxHeartbeats 4000000 in
set_option maxRecDepth 100000 in
theorem c_X1_isUnlike (l : Launch) (g : zG) (a b : Int) (h1 : 0 ≤ a ∧ a ≤ 3) (h2 : 0 ≤ b ∧ b ≤ 3) : zMRi l yX1_isUnlike wsX1_isUnlike rm_X1_isUnlike g [] [.int (iZ (a)), .int (iZ (b))] (b2 (1 < a - b ∨ 1 < b - a)) := by
  refine z_beRi (cc := cX1_isUnlike) (nL := 2) (ret := some .boolean) (plainFor_of_name (by decide +kernel)) rfl (Or.inr ⟨rfl, b2_01 _⟩) (Nat.le_of_ble_eq_true rfl) ?_
  intro X hC hR
  have hC : zC X g cX1_isUnlike RX1 wsX1_isUnlike rm_X1_isUnlike 2 := hC
  show ZG X g (zE X) 0 0 [] [(0, .int (iZ (a))), (1, .int (iZ (b)))] 0 []
  refine z_iload_n hC 0 dX1_isUnlike_0 rfl rfl ?_
  refine z_iload_n hC 1 dX1_isUnlike_1 rfl rfl ?_
  refine z_isub hC dX1_isUnlike_2 ?_
  refine z_abs hC mX1_isUnlike_l72 mX1_isUnlike_ls72 mX1_isUnlike_li mX1_isUnlike_lc72 (by omega) (by decide) (Nat.le_of_ble_eq_true rfl) (by decide) (by decide) dX1_isUnlike_3 ?_
  refine z_nm (fun v_6 e_6 => ?_)
  have f_6 : (0 ≤ a - b ∧ v_6 = a - b) ∨ (a - b < 0 ∧ v_6 = -(a - b)) := by rw [e_6]; by_cases q : 0 ≤ a - b; exact Or.inl ⟨q, if_pos q⟩; exact Or.inr ⟨by omega, if_neg q⟩
  refine z_iconst hC dX1_isUnlike_6 ?_
  refine z_icmp_le hC 14 dX1_isUnlike_7 (by decide) (by omega) (by omega) (fun c_7 => ?_) (fun c_7 => ?_)
  ·
    refine z_iconst hC dX1_isUnlike_14 ?_
    exact hR _ _ _ _ (by first | exact b2_1' (by omega) | exact b2_0' (by omega) | exact b2_eq (by omega)) dX1_isUnlike_15
  ·
    refine z_iconst hC dX1_isUnlike_10 ?_
    refine z_goto (tgt := 15) hC dX1_isUnlike_11 (by decide) ?_
    exact hR _ _ _ _ (by first | exact b2_1' (by omega) | exact b2_0' (by omega) | exact b2_eq (by omega)) dX1_isUnlike_15
set_option maxRecDepth 20000 in
theorem mX1_measure_l9 : Cond.methodLink RX1 9 Lib.Math.min.name ∈ wsX1_measure := by decide +kernel
set_option maxRecDepth 20000 in
theorem mX1_measure_ls9 : Cond.static Lib.Math.min.name ∈ wsX1_measure := by decide +kernel
set_option maxRecDepth 20000 in
theorem mX1_measure_li : Cond.initialized "java/lang/Math" ∈ wsX1_measure := by decide +kernel
set_option maxRecDepth 20000 in
theorem mX1_measure_lc9 : Cond.code Lib.Math.min.name Lib.Math.min.code 2 (some .int) ∈ wsX1_measure := by decide +kernel
set_option maxRecDepth 20000 in
theorem iX1_measure_0 : ∀ w ∈ u_ws RX0 TX0 8, w ∈ wsX1_measure := by decide +kernel
set_option maxRecDepth 20000 in
theorem mX1_measure_iniRX0 : Cond.initialized RX0 ∈ wsX1_measure := by decide +kernel
set_option maxRecDepth 20000 in
theorem mX1_measure_im_X0_widthEndingAt : Cond.instanceMethod yX0_widthEndingAt ∈ wsX1_measure := by decide +kernel
set_option maxRecDepth 20000 in
theorem mX1_measure_se_X0_widthEndingAt : Cond.selects RX0 yX0_widthEndingAt yX0_widthEndingAt ∈ wsX1_measure := by decide +kernel
set_option maxRecDepth 20000 in
theorem mX1_measure_f25 : Cond.fieldLink RX1 25 "BreakSearch$Line" "lack" "I" ∈ wsX1_measure := by decide +kernel
set_option maxRecDepth 20000 in
theorem iX1_measure_1 : ∀ w ∈ u_ws RX1 TX1 4, w ∈ wsX1_measure := by decide +kernel
set_option maxRecDepth 20000 in
theorem mX1_measure_im_X0_isEnd : Cond.instanceMethod yX0_isEnd ∈ wsX1_measure := by decide +kernel
set_option maxRecDepth 20000 in
theorem mX1_measure_se_X0_isEnd : Cond.selects RX0 yX0_isEnd yX0_isEnd ∈ wsX1_measure := by decide +kernel
abbrev rm_X1_measure : Room := { frames := 3, cells := 0, slots := 0, locals := 70 }
set_option maxHeartbeats 4000000 in
set_option maxRecDepth 100000 in
theorem c_X1_measure (l : Launch) (g : zG) (hL : Nat) (k ug lo sd : Int) (hI aK aV aP aM aL aS aH : Nat) (n : Int) (K V P M LB SB HB : Int → Int) (s e w mo : Int) (h1 : zIok n K V P M) (h2 : zPok n LB SB HB) (h3 : (0 ≤ s ∧ s ≤ n) ∧ (0 ≤ e ∧ e ≤ n)) (h4 : (0 ≤ w ∧ w ≤ 20000) ∧ (0 ≤ mo ∧ mo ≤ 10000)) : zMWv (S := (Int) × (Int) × (Int) × (Int)) l yX1_measure wsX1_measure rm_X1_measure g [(hL, eo 1 [.int (iZ (k)), .int (iZ (ug)), .int (iZ (lo)), .int (iZ (sd))]), (hI, eo 0 [.ref aK, .ref aV, .ref aP, .ref aM, .ref aL, .ref aS, .ref aH, .int (iZ (n))]), (aK, ei g 100 K), (aV, ei g 100 V), (aP, ei g 100 P), (aM, ez g 100 M), (aL, ei g 101 LB), (aS, ei g 101 SB), (aH, ei g 101 HB)] [.ref hL, .ref hI, .int (iZ (s)), .int (iZ (e)), .int (iZ (w)), .int (iZ (mo))] (fun u => u.1 = zLk n K P LB s e w ∧ (zOk (zLk n K P LB s e w) (HB e - HB (min s e)) → u.2.2.2 = 1 ∧ u.2.1 = zUg n e (zLk n K P LB s e w) (SB e - SB (min s e) + mo) (HB e - HB (min s e)) ∧ u.2.2.1 = zCl n e (zLk n K P LB s e w) (SB e - SB (min s e) + mo) (HB e - HB (min s e))) ∧ (¬ zOk (zLk n K P LB s e w) (HB e - HB (min s e)) → u.2.2.2 = 0)) (fun u => [(hL, eo 1 [.int (iZ (u.1)), .int (iZ (u.2.1)), .int (iZ (u.2.2.1)), .int (iZ (u.2.2.2))]), (hI, eo 0 [.ref aK, .ref aV, .ref aP, .ref aM, .ref aL, .ref aS, .ref aH, .int (iZ (n))]), (aK, ei g 100 K), (aV, ei g 100 V), (aP, ei g 100 P), (aM, ez g 100 M), (aL, ei g 101 LB), (aS, ei g 101 SB), (aH, ei g 101 HB)]) 0 0 := by
  refine z_beWv (cc := cX1_measure) (nL := 8) (plainFor_of_name (by decide +kernel)) rfl (Nat.le_of_ble_eq_true rfl) ?_
  intro X A hC hN hR
  have hC : zC X g cX1_measure RX1 wsX1_measure rm_X1_measure 8 := hC
  show ZG X g (zD X A) 0 0 [(hL, eo 1 [.int (iZ (k)), .int (iZ (ug)), .int (iZ (lo)), .int (iZ (sd))]), (hI, eo 0 [.ref aK, .ref aV, .ref aP, .ref aM, .ref aL, .ref aS, .ref aH, .int (iZ (n))]), (aK, ei g 100 K), (aV, ei g 100 V), (aP, ei g 100 P), (aM, ez g 100 M), (aL, ei g 101 LB), (aS, ei g 101 SB), (aH, ei g 101 HB)] [(0, .ref hL), (1, .ref hI), (2, .int (iZ (s))), (3, .int (iZ (e))), (4, .int (iZ (w))), (5, .int (iZ (mo)))] 0 []
  have ⟨hn, hK, hV⟩ := h1
  have hp := h2
  refine z_iload_n hC 2 dX1_measure_0 rfl rfl ?_
  refine z_iload_n hC 3 dX1_measure_1 rfl rfl ?_
  refine z_min hC mX1_measure_l9 mX1_measure_ls9 mX1_measure_li mX1_measure_lc9 (by omega) (by omega) (by decide) (Nat.le_of_ble_eq_true rfl) (by decide) (by decide) dX1_measure_2 ?_
  refine z_istore hC (lv' := [(6, _), (0, _), (1, _), (2, _), (3, _), (4, _), (5, _)]) dX1_measure_5 (by decide) rfl ?_
  refine z_aload_n hC 2 dX1_measure_7 rfl rfl ?_
  refine z_getN hC iX1_measure_0 1 4 rfl rfl (by decide) nf_RX1_15 rfl dX1_measure_8 ?_
  refine z_iload_n hC 4 dX1_measure_11 rfl rfl ?_
  refine z_iald hC 6 rfl (by omega) (by decide) dX1_measure_12 ?_
  refine z_aload_n hC 2 dX1_measure_13 rfl rfl ?_
  refine z_getN hC iX1_measure_0 1 4 rfl rfl (by decide) nf_RX1_15 rfl dX1_measure_14 ?_
  refine z_iload hC 0 dX1_measure_17 rfl ?_
  refine z_iald hC 6 rfl (by omega) (by decide) dX1_measure_19 ?_
  refine z_isub hC dX1_measure_20 ?_
  refine z_istore hC (lv' := [(7, _), (6, _), (0, _), (1, _), (2, _), (3, _), (4, _), (5, _)]) dX1_measure_21 (by decide) rfl ?_
  refine z_aload_n hC 2 dX1_measure_23 rfl rfl ?_
  refine z_iload hC 6 dX1_measure_24 rfl ?_
  refine z_iload hC 0 dX1_measure_26 rfl ?_
  refine z_isub hC dX1_measure_28 ?_
  refine z_aload_n hC 3 dX1_measure_29 rfl rfl ?_
  refine z_iload_n hC 5 dX1_measure_30 rfl rfl ?_
  refine z_vnRi hC 1 (c_X0_widthEndingAt (xl X) g _ _ _ _ _ _ _ _ _ _ _ _ _ _ _ _ _ h1 (by omega)) gX1_measure_X0_widthEndingAt_n21 nm_RX1_21 mX1_measure_iniRX0 mX1_measure_im_X0_widthEndingAt mX1_measure_se_X0_widthEndingAt rfl hd_X0_widthEndingAt_s (by decide) ⟨rfl, rfl⟩ [1, 2, 3, 4, 5, 6, 7, 8] (by decide) rfl 1 0 rfl rfl rfl rfl rfl (Nat.le_of_ble_eq_true rfl) dX1_measure_31 (by decide) ?_
  refine z_isub hC dX1_measure_34 ?_
  have hlk : w - (LB e - LB (min s e)) - (if 0 ≤ e ∧ e < n ∧ K e = 2 then P e else 0) = zLk n K P LB s e w := rfl
  refine z_top hlk ?_
  have hpw : 0 ≤ (if 0 ≤ e ∧ e < n ∧ K e = 2 then P e else 0) ∧ (if 0 ≤ e ∧ e < n ∧ K e = 2 then P e else 0) ≤ 10000 := by by_cases q : 0 ≤ e ∧ e < n ∧ K e = 2; rw [if_pos q]; have := hV e (by omega) (by omega) (by omega); omega; rw [if_neg q]; omega
  have b1 := hp.1 e (by omega) (by omega)
  have b2 := hp.1 (min s e) (by omega) (by omega)
  have b3 := hp.2 (min s e) e (by omega) (by omega) (by omega)
  have hlr : -1100000 ≤ zLk n K P LB s e w ∧ zLk n K P LB s e w ≤ 20000 := by rw [← hlk]; omega
  clear hlk
  generalize zLk n K P LB s e w = lk at *
  refine z_put hC iX1_measure_1 tyX1 tyX1_ok nmX1 0 0 rfl rfl (by decide) mX1_measure_f25 rfl rfl rfl (Nat.le_of_ble_eq_true rfl) dX1_measure_35 (ws' := [_, _, _, _, _, _, _, _, _]) rfl ?_
  refine z_aload_n hC 2 dX1_measure_38 rfl rfl ?_
  refine z_get hC iX1_measure_1 0 0 rfl rfl (by decide) mX1_measure_f25 rfl dX1_measure_39 ?_
  refine z_if_ge hC 66 dX1_measure_42 (by decide) (by omega) (fun c_42 => ?_) (fun c_42 => ?_)
  ·
    refine z_aload_n hC 2 dX1_measure_66 rfl rfl ?_
    refine z_get hC iX1_measure_1 0 0 rfl rfl (by decide) mX1_measure_f25 rfl dX1_measure_67 ?_
    refine z_if_eq hC 81 dX1_measure_70 (by decide) (by omega) (fun c_70 => ?_) (fun c_70 => ?_)
    ·
      refine z_aload_n hC 2 dX1_measure_81 rfl rfl ?_
      refine z_iconst hC dX1_measure_82 ?_
      refine z_iconst hC dX1_measure_83 ?_
      refine z_vWv (wr := [_, _, _, _, _, _, _, _]) hC 2 (c_X1_settle (xl X) g _ _ _ _ _ _ _) gX1_measure_X1_settle rfl hd_X1_settle_v (by decide) ⟨rfl, rfl⟩ [0] [1, 2, 3, 4, 5, 6, 7, 8] (by decide) rfl rfl (by decide) (by decide) 0 1 rfl rfl rfl rfl rfl (Nat.le_of_ble_eq_true rfl) dX1_measure_84 (by decide) (fun u_84 p_84 => ?_)
      refine z_ws (ws' := [(hL, eo 1 [.int (iZ (lk)), .int (iZ (0)), .int (iZ (1)), .int (iZ (1))]), (hI, eo 0 [.ref aK, .ref aV, .ref aP, .ref aM, .ref aL, .ref aS, .ref aH, .int (iZ (n))]), (aK, ei g 100 K), (aV, ei g 100 V), (aP, ei g 100 P), (aM, ez g 100 M), (aL, ei g 101 LB), (aS, ei g 101 SB), (aH, ei g 101 HB)]) [8, 0, 1, 2, 3, 4, 5, 6, 7] (by decide) rfl ?_
      refine z_goto (tgt := 111) hC dX1_measure_87 (by decide) ?_
      exact hR (lk, 0, 1, 1) _ _ _ [0, 1, 2, 3, 4, 5, 6, 7, 8] (by refine ⟨rfl, fun q => ?_, fun q => ?_⟩ <;> unfold zOk at q <;> first | (exfalso; omega) | rfl | (exact ⟨rfl, (zUg_n (by omega)).symm, (zCl_n (by omega)).symm⟩) | (exact ⟨rfl, (zUg_z (by omega) (by omega)).symm, (zCl_z (by omega) (by omega)).symm⟩) | (exact ⟨p3, p1.trans (zUg_w (by omega) (by omega)).symm, p2.trans (zCl_w (by omega) (by omega)).symm⟩)) (by decide) rfl dX1_measure_111
    ·
      refine z_aload_n hC 3 dX1_measure_73 rfl rfl ?_
      refine z_iload_n hC 5 dX1_measure_74 rfl rfl ?_
      refine z_vnRi hC 1 (c_X0_isEnd (xl X) g _ _ _ _ _ _ _ _ _ _ _ _ _ _ _ _ _ hn (by omega)) gX1_measure_X0_isEnd_n38 nm_RX1_38 mX1_measure_iniRX0 mX1_measure_im_X0_isEnd mX1_measure_se_X0_isEnd rfl hd_X0_isEnd_s (by decide) ⟨rfl, rfl⟩ [1, 2, 3, 4, 5, 6, 7, 8] (by decide) rfl 1 0 rfl rfl rfl rfl rfl (Nat.le_of_ble_eq_true rfl) dX1_measure_75 (by decide) ?_
      refine z_if_eq hC 90 dX1_measure_78 (by decide) (b2_r _) (fun c_78 => ?_) (fun c_78 => ?_)
      ·
        have c_78 := b2_f c_78
        refine z_aload_n hC 2 dX1_measure_90 rfl rfl ?_
        refine z_aload_n hC 3 dX1_measure_91 rfl rfl ?_
        refine z_getN hC iX1_measure_0 1 5 rfl rfl (by decide) nf_RX1_46 rfl dX1_measure_92 ?_
        refine z_iload_n hC 5 dX1_measure_95 rfl rfl ?_
        refine z_iald hC 7 rfl (by omega) (by decide) dX1_measure_96 ?_
        refine z_aload_n hC 3 dX1_measure_97 rfl rfl ?_
        refine z_getN hC iX1_measure_0 1 5 rfl rfl (by decide) nf_RX1_46 rfl dX1_measure_98 ?_
        refine z_iload hC 1 dX1_measure_101 rfl ?_
        refine z_iald hC 7 rfl (by omega) (by decide) dX1_measure_103 ?_
        refine z_isub hC dX1_measure_104 ?_
        refine z_iload hC 7 dX1_measure_105 rfl ?_
        refine z_iadd hC dX1_measure_107 ?_
        refine z_vWv (wr := [_, _, _, _, _, _, _, _]) hC 1 (c_X1_widen (xl X) g _ _ _ _ _ _ (by omega) (by omega)) gX1_measure_X1_widen rfl hd_X1_widen_v (by decide) ⟨rfl, rfl⟩ [0] [1, 2, 3, 4, 5, 6, 7, 8] (by decide) rfl rfl (by decide) (by decide) 0 1 rfl rfl rfl rfl rfl (Nat.le_of_ble_eq_true rfl) dX1_measure_108 (by decide) (fun u_108 p_108 => ?_)
        obtain ⟨u1_108, k1_108, d1_108⟩ := u_108
        try dsimp only at p_108
        refine z_ws (ws' := [(hL, eo 1 [.int (iZ (lk)), .int (iZ (u1_108)), .int (iZ (k1_108)), .int (iZ (d1_108))]), (hI, eo 0 [.ref aK, .ref aV, .ref aP, .ref aM, .ref aL, .ref aS, .ref aH, .int (iZ (n))]), (aK, ei g 100 K), (aV, ei g 100 V), (aP, ei g 100 P), (aM, ez g 100 M), (aL, ei g 101 LB), (aS, ei g 101 SB), (aH, ei g 101 HB)]) [8, 0, 1, 2, 3, 4, 5, 6, 7] (by decide) rfl ?_
        obtain ⟨p1, p2, p3⟩ := p_108
        exact hR (lk, u1_108, k1_108, d1_108) _ _ _ [0, 1, 2, 3, 4, 5, 6, 7, 8] (by refine ⟨rfl, fun q => ?_, fun q => ?_⟩ <;> unfold zOk at q <;> first | (exfalso; omega) | rfl | (exact ⟨rfl, (zUg_n (by omega)).symm, (zCl_n (by omega)).symm⟩) | (exact ⟨rfl, (zUg_z (by omega) (by omega)).symm, (zCl_z (by omega) (by omega)).symm⟩) | (exact ⟨p3, p1.trans (zUg_w (by omega) (by omega)).symm, p2.trans (zCl_w (by omega) (by omega)).symm⟩)) (by decide) rfl dX1_measure_111
      ·
        have c_78 := b2_t c_78
        refine z_aload_n hC 2 dX1_measure_81 rfl rfl ?_
        refine z_iconst hC dX1_measure_82 ?_
        refine z_iconst hC dX1_measure_83 ?_
        refine z_vWv (wr := [_, _, _, _, _, _, _, _]) hC 2 (c_X1_settle (xl X) g _ _ _ _ _ _ _) gX1_measure_X1_settle rfl hd_X1_settle_v (by decide) ⟨rfl, rfl⟩ [0] [1, 2, 3, 4, 5, 6, 7, 8] (by decide) rfl rfl (by decide) (by decide) 0 1 rfl rfl rfl rfl rfl (Nat.le_of_ble_eq_true rfl) dX1_measure_84 (by decide) (fun u_84 p_84 => ?_)
        refine z_ws (ws' := [(hL, eo 1 [.int (iZ (lk)), .int (iZ (0)), .int (iZ (1)), .int (iZ (1))]), (hI, eo 0 [.ref aK, .ref aV, .ref aP, .ref aM, .ref aL, .ref aS, .ref aH, .int (iZ (n))]), (aK, ei g 100 K), (aV, ei g 100 V), (aP, ei g 100 P), (aM, ez g 100 M), (aL, ei g 101 LB), (aS, ei g 101 SB), (aH, ei g 101 HB)]) [8, 0, 1, 2, 3, 4, 5, 6, 7] (by decide) rfl ?_
        refine z_goto (tgt := 111) hC dX1_measure_87 (by decide) ?_
        exact hR (lk, 0, 1, 1) _ _ _ [0, 1, 2, 3, 4, 5, 6, 7, 8] (by refine ⟨rfl, fun q => ?_, fun q => ?_⟩ <;> unfold zOk at q <;> first | (exfalso; omega) | rfl | (exact ⟨rfl, (zUg_n (by omega)).symm, (zCl_n (by omega)).symm⟩) | (exact ⟨rfl, (zUg_z (by omega) (by omega)).symm, (zCl_z (by omega) (by omega)).symm⟩) | (exact ⟨p3, p1.trans (zUg_w (by omega) (by omega)).symm, p2.trans (zCl_w (by omega) (by omega)).symm⟩)) (by decide) rfl dX1_measure_111
  ·
    refine z_aload_n hC 2 dX1_measure_45 rfl rfl ?_
    refine z_aload_n hC 3 dX1_measure_46 rfl rfl ?_
    refine z_getN hC iX1_measure_0 1 6 rfl rfl (by decide) nf_RX1_31 rfl dX1_measure_47 ?_
    refine z_iload_n hC 5 dX1_measure_50 rfl rfl ?_
    refine z_iald hC 8 rfl (by omega) (by decide) dX1_measure_51 ?_
    refine z_aload_n hC 3 dX1_measure_52 rfl rfl ?_
    refine z_getN hC iX1_measure_0 1 6 rfl rfl (by decide) nf_RX1_31 rfl dX1_measure_53 ?_
    refine z_iload hC 1 dX1_measure_56 rfl ?_
    refine z_iald hC 8 rfl (by omega) (by decide) dX1_measure_58 ?_
    refine z_isub hC dX1_measure_59 ?_
    refine z_vWv (wr := [_, _, _, _, _, _, _, _]) hC 1 (c_X1_squeeze (xl X) g _ _ _ _ _ _ (by omega) (by omega)) gX1_measure_X1_squeeze rfl hd_X1_squeeze_v (by decide) ⟨rfl, rfl⟩ [0] [1, 2, 3, 4, 5, 6, 7, 8] (by decide) rfl rfl (by decide) (by decide) 0 1 rfl rfl rfl rfl rfl (Nat.le_of_ble_eq_true rfl) dX1_measure_60 (by decide) (fun u_60 p_60 => ?_)
    rcases p_60 with ⟨a_60, rfl⟩ | ⟨a_60, rfl⟩
    ·
      refine z_ws (ws' := [(hL, eo 1 [.int (iZ (lk)), .int (iZ (ug)), .int (iZ (lo)), .int (iZ (0))]), (hI, eo 0 [.ref aK, .ref aV, .ref aP, .ref aM, .ref aL, .ref aS, .ref aH, .int (iZ (n))]), (aK, ei g 100 K), (aV, ei g 100 V), (aP, ei g 100 P), (aM, ez g 100 M), (aL, ei g 101 LB), (aS, ei g 101 SB), (aH, ei g 101 HB)]) [8, 0, 1, 2, 3, 4, 5, 6, 7] (by decide) rfl ?_
      refine z_goto (tgt := 111) hC dX1_measure_63 (by decide) ?_
      exact hR (lk, ug, lo, 0) _ _ _ [0, 1, 2, 3, 4, 5, 6, 7, 8] (by refine ⟨rfl, fun q => ?_, fun q => ?_⟩ <;> unfold zOk at q <;> first | (exfalso; omega) | rfl | (exact ⟨rfl, (zUg_n (by omega)).symm, (zCl_n (by omega)).symm⟩) | (exact ⟨rfl, (zUg_z (by omega) (by omega)).symm, (zCl_z (by omega) (by omega)).symm⟩) | (exact ⟨p3, p1.trans (zUg_w (by omega) (by omega)).symm, p2.trans (zCl_w (by omega) (by omega)).symm⟩)) (by decide) rfl dX1_measure_111
    ·
      refine z_ws (ws' := [(hL, eo 1 [.int (iZ (lk)), .int (iZ ((zBad (-lk) ((HB e) - (HB (min s e)))))), .int (iZ ((if ((HB e) - (HB (min s e))) < 2 * -lk then 0 else 1))), .int (iZ (1))]), (hI, eo 0 [.ref aK, .ref aV, .ref aP, .ref aM, .ref aL, .ref aS, .ref aH, .int (iZ (n))]), (aK, ei g 100 K), (aV, ei g 100 V), (aP, ei g 100 P), (aM, ez g 100 M), (aL, ei g 101 LB), (aS, ei g 101 SB), (aH, ei g 101 HB)]) [8, 0, 1, 2, 3, 4, 5, 6, 7] (by decide) rfl ?_
      refine z_goto (tgt := 111) hC dX1_measure_63 (by decide) ?_
      exact hR (lk, (zBad (-lk) ((HB e) - (HB (min s e)))), (if ((HB e) - (HB (min s e))) < 2 * -lk then 0 else 1), 1) _ _ _ [0, 1, 2, 3, 4, 5, 6, 7, 8] (by refine ⟨rfl, fun q => ?_, fun q => ?_⟩ <;> unfold zOk at q <;> first | (exfalso; omega) | rfl | (exact ⟨rfl, (zUg_n (by omega)).symm, (zCl_n (by omega)).symm⟩) | (exact ⟨rfl, (zUg_z (by omega) (by omega)).symm, (zCl_z (by omega) (by omega)).symm⟩) | (exact ⟨p3, p1.trans (zUg_w (by omega) (by omega)).symm, p2.trans (zCl_w (by omega) (by omega)).symm⟩)) (by decide) rfl dX1_measure_111
set_option maxRecDepth 20000 in
theorem mX4_forget_f24 : Cond.fieldLink RX4 24 "BreakSearch$Way" "count" "I" ∈ wsX4_forget := by decide +kernel
set_option maxRecDepth 20000 in
theorem iX4_forget_4 : ∀ w ∈ u_ws RX4 TX4 7, w ∈ wsX4_forget := by decide +kernel
set_option maxRecDepth 20000 in
theorem mX4_forget_f28 : Cond.fieldLink RX4 28 "BreakSearch$Way" "pass" "I" ∈ wsX4_forget := by decide +kernel
set_option maxRecDepth 20000 in
theorem mX4_forget_f31 : Cond.fieldLink RX4 31 "BreakSearch$Way" "demerits" "J" ∈ wsX4_forget := by decide +kernel
abbrev rm_X4_forget : Room := { frames := 1, cells := 0, slots := 0, locals := 12 }
set_option maxHeartbeats 4000000 in
set_option maxRecDepth 100000 in
theorem c_X4_forget (l : Launch) (g : zG) (hY aE aQ aB aU : Nat) (tc tp td : Int) (E Q B U : Int → Int)  : zMWv (S := Unit) l yX4_forget wsX4_forget rm_X4_forget g [(hY, eo 4 [.ref aE, .ref aQ, .ref aB, .ref aU, .int (iZ (tc)), .int (iZ (tp)), .long (lZ (td))]), (aE, ei g 50 E), (aQ, ei g 50 Q), (aB, ei g 50 B), (aU, ei g 50 U)] [.ref hY] (fun _ => True) (fun u => [(hY, eo 4 [.ref aE, .ref aQ, .ref aB, .ref aU, .int (iZ (0)), .int (iZ (0)), .long (lZ (0))]), (aE, ei g 50 E), (aQ, ei g 50 Q), (aB, ei g 50 B), (aU, ei g 50 U)]) 0 0 := by
  refine z_beWv (cc := cX4_forget) (nL := 1) (plainFor_of_name (by decide +kernel)) rfl (Nat.le_of_ble_eq_true rfl) ?_
  intro X A hC hN hR
  have hC : zC X g cX4_forget RX4 wsX4_forget rm_X4_forget 1 := hC
  show ZG X g (zD X A) 0 0 [(hY, eo 4 [.ref aE, .ref aQ, .ref aB, .ref aU, .int (iZ (tc)), .int (iZ (tp)), .long (lZ (td))]), (aE, ei g 50 E), (aQ, ei g 50 Q), (aB, ei g 50 B), (aU, ei g 50 U)] [(0, .ref hY)] 0 []
  refine z_aload_n hC 0 dX4_forget_0 rfl rfl ?_
  refine z_iconst hC dX4_forget_1 ?_
  refine z_put hC iX4_forget_4 tyX4 tyX4_ok nmX4 0 4 rfl rfl (by decide) mX4_forget_f24 rfl rfl rfl (Nat.le_of_ble_eq_true rfl) dX4_forget_2 (ws' := [_, _, _, _, _]) rfl ?_
  refine z_aload_n hC 0 dX4_forget_5 rfl rfl ?_
  refine z_iconst hC dX4_forget_6 ?_
  refine z_put hC iX4_forget_4 tyX4 tyX4_ok nmX4 0 5 rfl rfl (by decide) mX4_forget_f28 rfl rfl rfl (Nat.le_of_ble_eq_true rfl) dX4_forget_7 (ws' := [_, _, _, _, _]) rfl ?_
  refine z_aload_n hC 0 dX4_forget_10 rfl rfl ?_
  refine z_lconst (z := 0) hC dX4_forget_11 (by decide) ?_
  refine z_put hC iX4_forget_4 tyX4 tyX4_ok nmX4 0 6 rfl rfl (by decide) mX4_forget_f31 rfl rfl rfl (Nat.le_of_ble_eq_true rfl) dX4_forget_12 (ws' := [_, _, _, _, _]) rfl ?_
  exact hR () _ _ _ [0, 1, 2, 3, 4] trivial (by decide) rfl dX4_forget_15
set_option maxRecDepth 20000 in
theorem mX4_hasLine_f24 : Cond.fieldLink RX4 24 "BreakSearch$Way" "count" "I" ∈ wsX4_hasLine := by decide +kernel
set_option maxRecDepth 20000 in
theorem iX4_hasLine_4 : ∀ w ∈ u_ws RX4 TX4 7, w ∈ wsX4_hasLine := by decide +kernel
abbrev rm_X4_hasLine : Room := { frames := 1, cells := 0, slots := 0, locals := 12 }
set_option maxHeartbeats 4000000 in
set_option maxRecDepth 100000 in
theorem c_X4_hasLine (l : Launch) (g : zG) (hY aE aQ aB aU : Nat) (tc tp td : Int) (E Q B U : Int → Int) (p : Int) (h1 : 0 ≤ tc ∧ tc ≤ 50) (h2 : -2147483648 ≤ p ∧ p ≤ 2147483647) : zMRi l yX4_hasLine wsX4_hasLine rm_X4_hasLine g [(hY, eo 4 [.ref aE, .ref aQ, .ref aB, .ref aU, .int (iZ (tc)), .int (iZ (tp)), .long (lZ (td))]), (aE, ei g 50 E), (aQ, ei g 50 Q), (aB, ei g 50 B), (aU, ei g 50 U)] [.ref hY, .int (iZ (p))] (b2 (0 ≤ p ∧ p < tc)) := by
  refine z_beRi (cc := cX4_hasLine) (nL := 2) (ret := some .boolean) (plainFor_of_name (by decide +kernel)) rfl (Or.inr ⟨rfl, b2_01 _⟩) (Nat.le_of_ble_eq_true rfl) ?_
  intro X hC hR
  have hC : zC X g cX4_hasLine RX4 wsX4_hasLine rm_X4_hasLine 2 := hC
  show ZG X g (zE X) 0 0 [(hY, eo 4 [.ref aE, .ref aQ, .ref aB, .ref aU, .int (iZ (tc)), .int (iZ (tp)), .long (lZ (td))]), (aE, ei g 50 E), (aQ, ei g 50 Q), (aB, ei g 50 B), (aU, ei g 50 U)] [(0, .ref hY), (1, .int (iZ (p)))] 0 []
  refine z_iload_n hC 1 dX4_hasLine_0 rfl rfl ?_
  refine z_if_lt hC 16 dX4_hasLine_1 (by decide) (by omega) (fun c_1 => ?_) (fun c_1 => ?_)
  ·
    refine z_iconst hC dX4_hasLine_16 ?_
    exact hR _ _ _ _ (by first | exact b2_1' (by omega) | exact b2_0' (by omega) | exact b2_eq (by omega)) dX4_hasLine_17
  ·
    refine z_iload_n hC 1 dX4_hasLine_4 rfl rfl ?_
    refine z_aload_n hC 0 dX4_hasLine_5 rfl rfl ?_
    refine z_get hC iX4_hasLine_4 0 4 rfl rfl (by decide) mX4_hasLine_f24 rfl dX4_hasLine_6 ?_
    refine z_icmp_ge hC 16 dX4_hasLine_9 (by decide) (by omega) (by omega) (fun c_9 => ?_) (fun c_9 => ?_)
    ·
      refine z_iconst hC dX4_hasLine_16 ?_
      exact hR _ _ _ _ (by first | exact b2_1' (by omega) | exact b2_0' (by omega) | exact b2_eq (by omega)) dX4_hasLine_17
    ·
      refine z_iconst hC dX4_hasLine_12 ?_
      refine z_goto (tgt := 17) hC dX4_hasLine_13 (by decide) ?_
      exact hR _ _ _ _ (by first | exact b2_1' (by omega) | exact b2_0' (by omega) | exact b2_eq (by omega)) dX4_hasLine_17
set_option maxRecDepth 20000 in
theorem mX4_append_f24 : Cond.fieldLink RX4 24 "BreakSearch$Way" "count" "I" ∈ wsX4_append := by decide +kernel
set_option maxRecDepth 20000 in
theorem iX4_append_4 : ∀ w ∈ u_ws RX4 TX4 7, w ∈ wsX4_append := by decide +kernel
set_option maxRecDepth 20000 in
theorem mX4_append_f9 : Cond.fieldLink RX4 9 "BreakSearch$Way" "ends" "[I" ∈ wsX4_append := by decide +kernel
set_option maxRecDepth 20000 in
theorem mX4_append_f15 : Cond.fieldLink RX4 15 "BreakSearch$Way" "lacks" "[I" ∈ wsX4_append := by decide +kernel
set_option maxRecDepth 20000 in
theorem iX4_append_1 : ∀ w ∈ u_ws RX1 TX1 4, w ∈ wsX4_append := by decide +kernel
set_option maxRecDepth 20000 in
theorem mX4_append_f18 : Cond.fieldLink RX4 18 "BreakSearch$Way" "badnesses" "[I" ∈ wsX4_append := by decide +kernel
set_option maxRecDepth 20000 in
theorem mX4_append_f21 : Cond.fieldLink RX4 21 "BreakSearch$Way" "classes" "[I" ∈ wsX4_append := by decide +kernel
abbrev rm_X4_append : Room := { frames := 1, cells := 0, slots := 0, locals := 12 }
set_option maxHeartbeats 4000000 in
set_option maxRecDepth 100000 in
theorem c_X4_append (l : Launch) (g : zG) (hY aE aQ aB aU : Nat) (tc tp td : Int) (E Q B U : Int → Int) (hL : Nat) (k ug lo sd : Int) (e : Int) (h1 : 0 ≤ tc ∧ tc ≤ 50) : zMWv (S := (Int → Int) × (Int → Int) × (Int → Int) × (Int → Int) × (Int)) l yX4_append wsX4_append rm_X4_append g [(hY, eo 4 [.ref aE, .ref aQ, .ref aB, .ref aU, .int (iZ (tc)), .int (iZ (tp)), .long (lZ (td))]), (aE, ei g 50 E), (aQ, ei g 50 Q), (aB, ei g 50 B), (aU, ei g 50 U), (hL, eo 1 [.int (iZ (k)), .int (iZ (ug)), .int (iZ (lo)), .int (iZ (sd))])] [.ref hY, .int (iZ (e)), .ref hL] (fun u => ((50 ≤ tc) ∧ u = (E, Q, B, U, tc)) ∨ ((tc < 50) ∧ u = (uZ E tc e, uZ Q tc k, uZ B tc ug, uZ U tc lo, tc + 1))) (fun u => [(hY, eo 4 [.ref aE, .ref aQ, .ref aB, .ref aU, .int (iZ (u.2.2.2.2)), .int (iZ (tp)), .long (lZ (td))]), (aE, ei g 50 u.1), (aQ, ei g 50 u.2.1), (aB, ei g 50 u.2.2.1), (aU, ei g 50 u.2.2.2.1), (hL, eo 1 [.int (iZ (k)), .int (iZ (ug)), .int (iZ (lo)), .int (iZ (sd))])]) 0 0 := by
  refine z_beWv (cc := cX4_append) (nL := 3) (plainFor_of_name (by decide +kernel)) rfl (Nat.le_of_ble_eq_true rfl) ?_
  intro X A hC hN hR
  have hC : zC X g cX4_append RX4 wsX4_append rm_X4_append 3 := hC
  show ZG X g (zD X A) 0 0 [(hY, eo 4 [.ref aE, .ref aQ, .ref aB, .ref aU, .int (iZ (tc)), .int (iZ (tp)), .long (lZ (td))]), (aE, ei g 50 E), (aQ, ei g 50 Q), (aB, ei g 50 B), (aU, ei g 50 U), (hL, eo 1 [.int (iZ (k)), .int (iZ (ug)), .int (iZ (lo)), .int (iZ (sd))])] [(0, .ref hY), (1, .int (iZ (e))), (2, .ref hL)] 0 []
  refine z_aload_n hC 0 dX4_append_0 rfl rfl ?_
  refine z_get hC iX4_append_4 0 4 rfl rfl (by decide) mX4_append_f24 rfl dX4_append_1 ?_
  refine z_bip hC dX4_append_4 (by decide) ?_
  refine z_icmp_lt hC 10 dX4_append_6 (by decide) (by omega) (by omega) (fun c_6 => ?_) (fun c_6 => ?_)
  ·
    refine z_aload_n hC 0 dX4_append_10 rfl rfl ?_
    refine z_get hC iX4_append_4 0 0 rfl rfl (by decide) mX4_append_f9 rfl dX4_append_11 ?_
    refine z_aload_n hC 0 dX4_append_14 rfl rfl ?_
    refine z_get hC iX4_append_4 0 4 rfl rfl (by decide) mX4_append_f24 rfl dX4_append_15 ?_
    refine z_iload_n hC 1 dX4_append_18 rfl rfl ?_
    refine z_iast hC 1 rfl (by omega) (by decide) dX4_append_19 (ws' := [_, _, _, _, _, _]) rfl ?_
    refine z_aload_n hC 0 dX4_append_20 rfl rfl ?_
    refine z_get hC iX4_append_4 0 1 rfl rfl (by decide) mX4_append_f15 rfl dX4_append_21 ?_
    refine z_aload_n hC 0 dX4_append_24 rfl rfl ?_
    refine z_get hC iX4_append_4 0 4 rfl rfl (by decide) mX4_append_f24 rfl dX4_append_25 ?_
    refine z_aload_n hC 2 dX4_append_28 rfl rfl ?_
    refine z_getN hC iX4_append_1 5 0 rfl rfl (by decide) nf_RX4_35 rfl dX4_append_29 ?_
    refine z_iast hC 2 rfl (by omega) (by decide) dX4_append_32 (ws' := [_, _, _, _, _, _]) rfl ?_
    refine z_aload_n hC 0 dX4_append_33 rfl rfl ?_
    refine z_get hC iX4_append_4 0 2 rfl rfl (by decide) mX4_append_f18 rfl dX4_append_34 ?_
    refine z_aload_n hC 0 dX4_append_37 rfl rfl ?_
    refine z_get hC iX4_append_4 0 4 rfl rfl (by decide) mX4_append_f24 rfl dX4_append_38 ?_
    refine z_aload_n hC 2 dX4_append_41 rfl rfl ?_
    refine z_getN hC iX4_append_1 5 1 rfl rfl (by decide) nf_RX4_40 rfl dX4_append_42 ?_
    refine z_iast hC 3 rfl (by omega) (by decide) dX4_append_45 (ws' := [_, _, _, _, _, _]) rfl ?_
    refine z_aload_n hC 0 dX4_append_46 rfl rfl ?_
    refine z_get hC iX4_append_4 0 3 rfl rfl (by decide) mX4_append_f21 rfl dX4_append_47 ?_
    refine z_aload_n hC 0 dX4_append_50 rfl rfl ?_
    refine z_get hC iX4_append_4 0 4 rfl rfl (by decide) mX4_append_f24 rfl dX4_append_51 ?_
    refine z_aload_n hC 2 dX4_append_54 rfl rfl ?_
    refine z_getN hC iX4_append_1 5 2 rfl rfl (by decide) nf_RX4_43 rfl dX4_append_55 ?_
    refine z_iast hC 4 rfl (by omega) (by decide) dX4_append_58 (ws' := [_, _, _, _, _, _]) rfl ?_
    refine z_aload_n hC 0 dX4_append_59 rfl rfl ?_
    refine z_dup hC dX4_append_60 rfl ?_
    refine z_get hC iX4_append_4 0 4 rfl rfl (by decide) mX4_append_f24 rfl dX4_append_61 ?_
    refine z_iconst hC dX4_append_64 ?_
    refine z_iadd hC dX4_append_65 ?_
    refine z_put hC iX4_append_4 tyX4 tyX4_ok nmX4 0 4 rfl rfl (by decide) mX4_append_f24 rfl rfl rfl (Nat.le_of_ble_eq_true rfl) dX4_append_66 (ws' := [_, _, _, _, _, _]) rfl ?_
    exact hR (uZ E tc e, uZ Q tc k, uZ B tc ug, uZ U tc lo, tc + 1) _ _ _ [0, 1, 2, 3, 4, 5] (by first | exact Or.inl ⟨by omega, rfl⟩ | exact Or.inr ⟨by omega, rfl⟩) (by decide) rfl dX4_append_69
  ·
    exact hR (E, Q, B, U, tc) _ _ _ [0, 1, 2, 3, 4, 5] (by first | exact Or.inl ⟨by omega, rfl⟩ | exact Or.inr ⟨by omega, rfl⟩) (by decide) rfl dX4_append_9
