def zMt (p : Int) : Int := if p = 1 then 0 else 1
def zDq (n : Int) (K V P M LB SB HB W T : Int → Int) (p ex : Int) : zDP := zMk n K V P M LB SB HB W (if p = 1 then T 0 else T 1) (if p = 3 then T 2 else 0) (zMt p) ex
def zHas (n : Int) (K V P M LB SB HB W T : Int → Int) (p ex : Int) : Prop := ¬ (zVL (zDq n K V P M LB SB HB W T p ex) 0 (-1) 0).2.1 = 0
def zTold (n : Int) (K V P M LB SB HB W T : Int → Int) (p ex tc td : Int) (E Q B U : Int → Int) : Prop := zHas n K V P M LB SB HB W T p ex ∧ tc = (zVL (zDq n K V P M LB SB HB W T p ex) 0 (-1) 0).2.1 ∧ td = (zVL (zDq n K V P M LB SB HB W T p ex) 0 (-1) 0).1 ∧ zWay n K P LB SB HB W (if p = 3 then T 2 else 0) (zDq n K V P M LB SB HB W T p ex) tc E Q B U
def zRun (n : Int) (K V P M LB SB HB W T : Int → Int) (tc tp td : Int) (E Q B U : Int → Int) : Prop := (∃ p, (1 ≤ p ∧ p ≤ 3) ∧ (∀ q, 1 ≤ q → q < p → ¬ zHas n K V P M LB SB HB W T q 0) ∧ tp = p ∧ zTold n K V P M LB SB HB W T p 0 tc td E Q B U) ∨ ((∀ q, 1 ≤ q → q ≤ 3 → ¬ zHas n K V P M LB SB HB W T q 0) ∧ tp = 0 ∧ tc = 0 ∧ td = 0)
def zCi (n : Int) (K V P M LB SB HB W T : Int → Int) : Prop := zIok n K V P M ∧ zPok n LB SB HB ∧ (∀ i, 0 ≤ i → i ≤ 49 → 0 ≤ W i ∧ W i ≤ 20000) ∧ ((-1 ≤ T 0 ∧ T 0 ≤ 10000) ∧ (-1 ≤ T 1 ∧ T 1 ≤ 10000) ∧ (0 ≤ T 2 ∧ T 2 ≤ 10000))
theorem zCi_env {n : Int} {K V P M LB SB HB W T : Int → Int} (h : zCi n K V P M LB SB HB W T) {p ex : Int} (hp : 1 ≤ p ∧ p ≤ 3) (hx : 0 ≤ ex ∧ ex ≤ 50) : zEnv n K V P M LB SB HB W T p (zMt p) ex (zDq n K V P M LB SB HB W T p ex) := by
  refine ⟨h.1, h.2.1, h.2.2.1, h.2.2.2, hp, ?_, ?_, hx, rfl⟩
  · unfold zMt; split <;> omega
  · unfold zMt; split <;> omega
theorem hd_X5_isWithin_s : yX5_isWithin.cls ≠ "java/lang/invoke/MethodHandle" ∧ yX5_isWithin.cls ≠ "java/lang/invoke/VarHandle" ∧ (parseMethodDescriptor yX5_isWithin.desc).map (fun d => d.parameters.length) = some 3 := by decide +kernel
theorem nm_RX5_45 : (RX5, 45, yX0_append, "BreakSearch") ∈ zNM := by decide +kernel
theorem hd_X0_append_s : yX0_append.cls ≠ "java/lang/invoke/MethodHandle" ∧ yX0_append.cls ≠ "java/lang/invoke/VarHandle" ∧ (parseMethodDescriptor yX0_append.desc).map (fun d => d.parameters.length) = some 4 := by decide +kernel
theorem nm_RX5_49 : (RX5, 49, yX0_appendPenalty, "BreakSearch") ∈ zNM := by decide +kernel
theorem hd_X0_appendPenalty_s : yX0_appendPenalty.cls ≠ "java/lang/invoke/MethodHandle" ∧ yX0_appendPenalty.cls ≠ "java/lang/invoke/VarHandle" ∧ (parseMethodDescriptor yX0_appendPenalty.desc).map (fun d => d.parameters.length) = some 3 := by decide +kernel
theorem nf_RX5_53 : (RX5, 53, "BreakSearch$Rules", "widths", "[I", "BreakSearch") ∈ zNF := by decide +kernel
theorem nf_RX5_57 : (RX5, 57, "BreakSearch$Rules", "settings", "[I", "BreakSearch") ∈ zNF := by decide +kernel
theorem nm_RX5_78 : (RX5, 78, yX4_hasLine, "BreakSearch") ∈ zNM := by decide +kernel
theorem hd_X4_hasLine_s : yX4_hasLine.cls ≠ "java/lang/invoke/MethodHandle" ∧ yX4_hasLine.cls ≠ "java/lang/invoke/VarHandle" ∧ (parseMethodDescriptor yX4_hasLine.desc).map (fun d => d.parameters.length) = some 1 := by decide +kernel
theorem nf_RX5_82 : (RX5, 82, "BreakSearch$Way", "ends", "[I", "BreakSearch") ∈ zNF := by decide +kernel
theorem nf_RX5_85 : (RX5, 85, "BreakSearch$Way", "lacks", "[I", "BreakSearch") ∈ zNF := by decide +kernel
theorem nf_RX5_88 : (RX5, 88, "BreakSearch$Way", "badnesses", "[I", "BreakSearch") ∈ zNF := by decide +kernel
theorem nf_RX5_91 : (RX5, 91, "BreakSearch$Way", "classes", "[I", "BreakSearch") ∈ zNF := by decide +kernel
theorem nf_RX5_71 : (RX5, 71, "BreakSearch$Way", "count", "I", "BreakSearch") ∈ zNF := by decide +kernel
theorem nf_RX5_75 : (RX5, 75, "BreakSearch$Way", "pass", "I", "BreakSearch") ∈ zNF := by decide +kernel
theorem nf_RX5_94 : (RX5, 94, "BreakSearch$Way", "demerits", "J", "BreakSearch") ∈ zNF := by decide +kernel
theorem nf_RX5_98 : (RX5, 98, "BreakSearch$Items", "count", "I", "BreakSearch") ∈ zNF := by decide +kernel
theorem nm_RX5_60 : (RX5, 60, yX4_forget, "BreakSearch") ∈ zNM := by decide +kernel
theorem nm_RX5_63 : (RX5, 63, yX3_findsWay, "BreakSearch") ∈ zNM := by decide +kernel
theorem hd_X3_findsWay_s : yX3_findsWay.cls ≠ "java/lang/invoke/MethodHandle" ∧ yX3_findsWay.cls ≠ "java/lang/invoke/VarHandle" ∧ (parseMethodDescriptor yX3_findsWay.desc).map (fun d => d.parameters.length) = some 2 := by decide +kernel
theorem nm_RX5_67 : (RX5, 67, yX3_tell, "BreakSearch") ∈ zNM := by decide +kernel
theorem hd_X3_tell_s : yX3_tell.cls ≠ "java/lang/invoke/MethodHandle" ∧ yX3_tell.cls ≠ "java/lang/invoke/VarHandle" ∧ (parseMethodDescriptor yX3_tell.desc).map (fun d => d.parameters.length) = some 1 := by decide +kernel
abbrev rm_X5_isWithin : Room := { frames := 1, cells := 0, slots := 0, locals := 12 }
set_option maxHeartbeats 4000000 in
set_option maxRecDepth 100000 in
theorem c_X5_isWithin (l : Launch) (g : zG) (v a b : Int) (h1 : -2147483648 ≤ v ∧ v ≤ 2147483647) (h2 : -2147483648 ≤ a ∧ a ≤ 2147483647) (h3 : -2147483648 ≤ b ∧ b ≤ 2147483647) : zMRi l yX5_isWithin wsX5_isWithin rm_X5_isWithin g [] [.int (iZ (v)), .int (iZ (a)), .int (iZ (b))] (b2 (a ≤ v ∧ v ≤ b)) := by
  refine z_beRi (cc := cX5_isWithin) (nL := 3) (ret := some .boolean) (plainFor_of_name (by decide +kernel)) rfl (Or.inr ⟨rfl, b2_01 _⟩) (Nat.le_of_ble_eq_true rfl) ?_
  intro X hC hR
  have hC : zC X g cX5_isWithin RX5 wsX5_isWithin rm_X5_isWithin 3 := hC
  show ZG X g (zE X) 0 0 [] [(0, .int (iZ (v))), (1, .int (iZ (a))), (2, .int (iZ (b)))] 0 []
  refine z_iload_n hC 0 dX5_isWithin_0 rfl rfl ?_
  refine z_iload_n hC 1 dX5_isWithin_1 rfl rfl ?_
  refine z_icmp_lt hC 14 dX5_isWithin_2 (by decide) (by omega) (by omega) (fun c_2 => ?_) (fun c_2 => ?_)
  ·
    refine z_iconst hC dX5_isWithin_14 ?_
    exact hR _ _ _ _ (by first | exact b2_1' (by omega) | exact b2_0' (by omega) | exact b2_eq (by omega)) dX5_isWithin_15
  ·
    refine z_iload_n hC 0 dX5_isWithin_5 rfl rfl ?_
    refine z_iload_n hC 2 dX5_isWithin_6 rfl rfl ?_
    refine z_icmp_gt hC 14 dX5_isWithin_7 (by decide) (by omega) (by omega) (fun c_7 => ?_) (fun c_7 => ?_)
    ·
      refine z_iconst hC dX5_isWithin_14 ?_
      exact hR _ _ _ _ (by first | exact b2_1' (by omega) | exact b2_0' (by omega) | exact b2_eq (by omega)) dX5_isWithin_15
    ·
      refine z_iconst hC dX5_isWithin_10 ?_
      refine z_goto (tgt := 15) hC dX5_isWithin_11 (by decide) ?_
      exact hR _ _ _ _ (by first | exact b2_1' (by omega) | exact b2_0' (by omega) | exact b2_eq (by omega)) dX5_isWithin_15
set_option maxRecDepth 20000 in
theorem mX5_box_f10 : Cond.fieldLink RX5 10 "BreakSearch" "items" "LBreakSearch$Items;" ∈ wsX5_box := by decide +kernel
set_option maxRecDepth 20000 in
theorem iX5_box_5 : ∀ w ∈ u_ws RX5 TX5 4, w ∈ wsX5_box := by decide +kernel
set_option maxRecDepth 20000 in
theorem mX5_box_iniRX0 : Cond.initialized RX0 ∈ wsX5_box := by decide +kernel
set_option maxRecDepth 20000 in
theorem mX5_box_im_X0_append : Cond.instanceMethod yX0_append ∈ wsX5_box := by decide +kernel
set_option maxRecDepth 20000 in
theorem mX5_box_se_X0_append : Cond.selects RX0 yX0_append yX0_append ∈ wsX5_box := by decide +kernel
abbrev rm_X5_box : Room := { frames := 2, cells := 0, slots := 0, locals := 37 }
set_option maxHeartbeats 4000000 in
set_option maxRecDepth 100000 in
theorem c_X5_box (l : Launch) (g : zG) (hB oR hS hY : Nat) (hI aK aV aP aM aL aS aH : Nat) (n : Int) (K V P M LB SB HB : Int → Int) (w : Int) (h1 : 0 ≤ n ∧ n ≤ 100) (h2 : -2147483648 ≤ w ∧ w ≤ 2147483647) : zMWi (S := (Int → Int) × (Int → Int) × (Int → Int) × (Int → Int) × (Int) × (Int)) l yX5_box wsX5_box rm_X5_box g [(hB, eo 5 [.ref hI, .ref oR, .ref hS, .ref hY]), (hI, eo 0 [.ref aK, .ref aV, .ref aP, .ref aM, .ref aL, .ref aS, .ref aH, .int (iZ (n))]), (aK, ei g 100 K), (aV, ei g 100 V), (aP, ei g 100 P), (aM, ez g 100 M), (aL, ei g 101 LB), (aS, ei g 101 SB), (aH, ei g 101 HB)] [.ref hB, .int (iZ (w))] (fun u => ((¬ (0 ≤ w ∧ w ≤ 10000)) ∧ u = (K, LB, SB, HB, n, -1)) ∨ (((0 ≤ w ∧ w ≤ 10000) ∧ 100 ≤ n) ∧ u = (K, LB, SB, HB, n, -2)) ∨ (((0 ≤ w ∧ w ≤ 10000) ∧ n < 100) ∧ u = (uZ K n 0, uZ LB (n + 1) (LB n + w), uZ SB (n + 1) (SB n + 0), uZ HB (n + 1) (HB n + 0), n + 1, n))) (fun u => u.2.2.2.2.2) (fun u => [(hB, eo 5 [.ref hI, .ref oR, .ref hS, .ref hY]), (hI, eo 0 [.ref aK, .ref aV, .ref aP, .ref aM, .ref aL, .ref aS, .ref aH, .int (iZ (u.2.2.2.2.1))]), (aK, ei g 100 u.1), (aV, ei g 100 V), (aP, ei g 100 P), (aM, ez g 100 M), (aL, ei g 101 u.2.1), (aS, ei g 101 u.2.2.1), (aH, ei g 101 u.2.2.2.1)]) 0 0 := by
  refine z_beWi (cc := cX5_box) (nL := 2) (ret := some .int) (plainFor_of_name (by decide +kernel)) rfl (Or.inl rfl) (Nat.le_of_ble_eq_true rfl) ?_
  intro X A hC hN hR
  have hC : zC X g cX5_box RX5 wsX5_box rm_X5_box 2 := hC
  show ZG X g (zD X A) 0 0 [(hB, eo 5 [.ref hI, .ref oR, .ref hS, .ref hY]), (hI, eo 0 [.ref aK, .ref aV, .ref aP, .ref aM, .ref aL, .ref aS, .ref aH, .int (iZ (n))]), (aK, ei g 100 K), (aV, ei g 100 V), (aP, ei g 100 P), (aM, ez g 100 M), (aL, ei g 101 LB), (aS, ei g 101 SB), (aH, ei g 101 HB)] [(0, .ref hB), (1, .int (iZ (w)))] 0 []
  refine z_iload_n hC 1 dX5_box_0 rfl rfl ?_
  refine z_iconst hC dX5_box_1 ?_
  refine z_sip hC dX5_box_2 (by decide) ?_
  refine z_sRi hC 3 (c_X5_isWithin (xl X) g _ _ _ (by omega) (by omega) (by omega)) gX5_box_X5_isWithin rfl hd_X5_isWithin_s (by decide) ⟨rfl, rfl⟩ [] (by decide) rfl rfl rfl (Nat.le_of_ble_eq_true rfl) dX5_box_5 (by decide) ?_
  refine z_if_ne hC 13 dX5_box_8 (by decide) (b2_r _) (fun c_8 => ?_) (fun c_8 => ?_)
  ·
    have c_8 := b2_t c_8
    refine z_aload_n hC 0 dX5_box_13 rfl rfl ?_
    refine z_get hC iX5_box_5 0 0 rfl rfl (by decide) mX5_box_f10 rfl dX5_box_14 ?_
    refine z_iconst hC dX5_box_17 ?_
    refine z_iload_n hC 1 dX5_box_18 rfl rfl ?_
    refine z_iconst hC dX5_box_19 ?_
    refine z_iconst hC dX5_box_20 ?_
    refine z_vnWi (wr := [_]) hC 4 (c_X0_append (xl X) g _ _ _ _ _ _ _ _ _ _ _ _ _ _ _ _ _ _ _ _ (by omega)) gX5_box_X0_append_n45 nm_RX5_45 mX5_box_iniRX0 mX5_box_im_X0_append mX5_box_se_X0_append rfl hd_X0_append_s (by decide) ⟨rfl, rfl⟩ [1, 2, 3, 4, 5, 6, 7, 8] [0] (by decide) rfl rfl (by decide) (by decide) 1 0 rfl rfl rfl rfl rfl (Nat.le_of_ble_eq_true rfl) dX5_box_21 (by decide) (fun u_21 p_21 => ?_)
    rcases p_21 with ⟨a_21, rfl⟩ | ⟨a_21, rfl⟩
    ·
      refine z_ws (ws' := [(hB, eo 5 [.ref hI, .ref oR, .ref hS, .ref hY]), (hI, eo 0 [.ref aK, .ref aV, .ref aP, .ref aM, .ref aL, .ref aS, .ref aH, .int (iZ (n))]), (aK, ei g 100 K), (aV, ei g 100 V), (aP, ei g 100 P), (aM, ez g 100 M), (aL, ei g 101 LB), (aS, ei g 101 SB), (aH, ei g 101 HB)]) [0, 1, 2, 3, 4, 5, 6, 7, 8] (by decide) rfl ?_
      refine z_top (b := (-2)) rfl ?_
      exact hR (K, LB, SB, HB, n, (-2)) _ _ _ [0, 1, 2, 3, 4, 5, 6, 7, 8] _ (by first | exact Or.inl ⟨by omega, rfl⟩ | exact Or.inr (Or.inl ⟨by omega, rfl⟩) | exact Or.inr (Or.inr ⟨by omega, rfl⟩)) rfl (by decide) rfl dX5_box_24
    ·
      refine z_ws (ws' := [(hB, eo 5 [.ref hI, .ref oR, .ref hS, .ref hY]), (hI, eo 0 [.ref aK, .ref aV, .ref aP, .ref aM, .ref aL, .ref aS, .ref aH, .int (iZ ((n + 1)))]), (aK, ei g 100 ((uZ K n 0))), (aV, ei g 100 V), (aP, ei g 100 P), (aM, ez g 100 M), (aL, ei g 101 ((uZ LB (n + 1) (LB n + w)))), (aS, ei g 101 ((uZ SB (n + 1) (SB n + 0)))), (aH, ei g 101 ((uZ HB (n + 1) (HB n + 0))))]) [0, 1, 2, 3, 4, 5, 6, 7, 8] (by decide) rfl ?_
      refine z_top (b := n) rfl ?_
      exact hR ((uZ K n 0), (uZ LB (n + 1) (LB n + w)), (uZ SB (n + 1) (SB n + 0)), (uZ HB (n + 1) (HB n + 0)), (n + 1), n) _ _ _ [0, 1, 2, 3, 4, 5, 6, 7, 8] _ (by first | exact Or.inl ⟨by omega, rfl⟩ | exact Or.inr (Or.inl ⟨by omega, rfl⟩) | exact Or.inr (Or.inr ⟨by omega, rfl⟩)) rfl (by decide) rfl dX5_box_24
  ·
    have c_8 := b2_f c_8
    refine z_iconst hC dX5_box_11 ?_
    exact hR (K, LB, SB, HB, n, -1) _ _ _ [0, 1, 2, 3, 4, 5, 6, 7, 8] _ (by first | exact Or.inl ⟨by omega, rfl⟩ | exact Or.inr (Or.inl ⟨by omega, rfl⟩) | exact Or.inr (Or.inr ⟨by omega, rfl⟩)) rfl (by decide) rfl dX5_box_12
set_option maxRecDepth 20000 in
theorem mX5_glue_f10 : Cond.fieldLink RX5 10 "BreakSearch" "items" "LBreakSearch$Items;" ∈ wsX5_glue := by decide +kernel
set_option maxRecDepth 20000 in
theorem iX5_glue_5 : ∀ w ∈ u_ws RX5 TX5 4, w ∈ wsX5_glue := by decide +kernel
set_option maxRecDepth 20000 in
theorem mX5_glue_iniRX0 : Cond.initialized RX0 ∈ wsX5_glue := by decide +kernel
set_option maxRecDepth 20000 in
theorem mX5_glue_im_X0_append : Cond.instanceMethod yX0_append ∈ wsX5_glue := by decide +kernel
set_option maxRecDepth 20000 in
theorem mX5_glue_se_X0_append : Cond.selects RX0 yX0_append yX0_append ∈ wsX5_glue := by decide +kernel
abbrev rm_X5_glue : Room := { frames := 2, cells := 0, slots := 0, locals := 37 }
set_option maxHeartbeats 4000000 in
set_option maxRecDepth 100000 in
theorem c_X5_glue (l : Launch) (g : zG) (hB oR hS hY : Nat) (hI aK aV aP aM aL aS aH : Nat) (n : Int) (K V P M LB SB HB : Int → Int) (w t s : Int) (h1 : 0 ≤ n ∧ n ≤ 100) (h2 : -2147483648 ≤ w ∧ w ≤ 2147483647) (h3 : -2147483648 ≤ t ∧ t ≤ 2147483647) (h4 : -2147483648 ≤ s ∧ s ≤ 2147483647) : zMWi (S := (Int → Int) × (Int → Int) × (Int → Int) × (Int → Int) × (Int) × (Int)) l yX5_glue wsX5_glue rm_X5_glue g [(hB, eo 5 [.ref hI, .ref oR, .ref hS, .ref hY]), (hI, eo 0 [.ref aK, .ref aV, .ref aP, .ref aM, .ref aL, .ref aS, .ref aH, .int (iZ (n))]), (aK, ei g 100 K), (aV, ei g 100 V), (aP, ei g 100 P), (aM, ez g 100 M), (aL, ei g 101 LB), (aS, ei g 101 SB), (aH, ei g 101 HB)] [.ref hB, .int (iZ (w)), .int (iZ (t)), .int (iZ (s))] (fun u => ((¬ ((0 ≤ w ∧ w ≤ 10000) ∧ (0 ≤ t ∧ t ≤ 10000) ∧ (0 ≤ s ∧ s ≤ 1000))) ∧ u = (K, LB, SB, HB, n, -1)) ∨ ((((0 ≤ w ∧ w ≤ 10000) ∧ (0 ≤ t ∧ t ≤ 10000) ∧ (0 ≤ s ∧ s ≤ 1000)) ∧ 100 ≤ n) ∧ u = (K, LB, SB, HB, n, -2)) ∨ ((((0 ≤ w ∧ w ≤ 10000) ∧ (0 ≤ t ∧ t ≤ 10000) ∧ (0 ≤ s ∧ s ≤ 1000)) ∧ n < 100) ∧ u = (uZ K n 1, uZ LB (n + 1) (LB n + w), uZ SB (n + 1) (SB n + t), uZ HB (n + 1) (HB n + s), n + 1, n))) (fun u => u.2.2.2.2.2) (fun u => [(hB, eo 5 [.ref hI, .ref oR, .ref hS, .ref hY]), (hI, eo 0 [.ref aK, .ref aV, .ref aP, .ref aM, .ref aL, .ref aS, .ref aH, .int (iZ (u.2.2.2.2.1))]), (aK, ei g 100 u.1), (aV, ei g 100 V), (aP, ei g 100 P), (aM, ez g 100 M), (aL, ei g 101 u.2.1), (aS, ei g 101 u.2.2.1), (aH, ei g 101 u.2.2.2.1)]) 0 0 := by
  refine z_beWi (cc := cX5_glue) (nL := 4) (ret := some .int) (plainFor_of_name (by decide +kernel)) rfl (Or.inl rfl) (Nat.le_of_ble_eq_true rfl) ?_
  intro X A hC hN hR
  have hC : zC X g cX5_glue RX5 wsX5_glue rm_X5_glue 4 := hC
  show ZG X g (zD X A) 0 0 [(hB, eo 5 [.ref hI, .ref oR, .ref hS, .ref hY]), (hI, eo 0 [.ref aK, .ref aV, .ref aP, .ref aM, .ref aL, .ref aS, .ref aH, .int (iZ (n))]), (aK, ei g 100 K), (aV, ei g 100 V), (aP, ei g 100 P), (aM, ez g 100 M), (aL, ei g 101 LB), (aS, ei g 101 SB), (aH, ei g 101 HB)] [(0, .ref hB), (1, .int (iZ (w))), (2, .int (iZ (t))), (3, .int (iZ (s)))] 0 []
  refine z_iload_n hC 1 dX5_glue_0 rfl rfl ?_
  refine z_iconst hC dX5_glue_1 ?_
  refine z_sip hC dX5_glue_2 (by decide) ?_
  refine z_sRi hC 3 (c_X5_isWithin (xl X) g _ _ _ (by omega) (by omega) (by omega)) gX5_glue_X5_isWithin rfl hd_X5_isWithin_s (by decide) ⟨rfl, rfl⟩ [] (by decide) rfl rfl rfl (Nat.le_of_ble_eq_true rfl) dX5_glue_5 (by decide) ?_
  refine z_if_eq hC 33 dX5_glue_8 (by decide) (b2_r _) (fun c_8 => ?_) (fun c_8 => ?_)
  ·
    have c_8 := b2_f c_8
    refine z_iconst hC dX5_glue_33 ?_
    exact hR (K, LB, SB, HB, n, -1) _ _ _ [0, 1, 2, 3, 4, 5, 6, 7, 8] _ (by first | exact Or.inl ⟨by omega, rfl⟩ | exact Or.inr (Or.inl ⟨by omega, rfl⟩) | exact Or.inr (Or.inr ⟨by omega, rfl⟩)) rfl (by decide) rfl dX5_glue_34
  ·
    have c_8 := b2_t c_8
    refine z_iload_n hC 2 dX5_glue_11 rfl rfl ?_
    refine z_iconst hC dX5_glue_12 ?_
    refine z_sip hC dX5_glue_13 (by decide) ?_
    refine z_sRi hC 3 (c_X5_isWithin (xl X) g _ _ _ (by omega) (by omega) (by omega)) gX5_glue_X5_isWithin rfl hd_X5_isWithin_s (by decide) ⟨rfl, rfl⟩ [] (by decide) rfl rfl rfl (Nat.le_of_ble_eq_true rfl) dX5_glue_16 (by decide) ?_
    refine z_if_eq hC 33 dX5_glue_19 (by decide) (b2_r _) (fun c_19 => ?_) (fun c_19 => ?_)
    ·
      have c_19 := b2_f c_19
      refine z_iconst hC dX5_glue_33 ?_
      exact hR (K, LB, SB, HB, n, -1) _ _ _ [0, 1, 2, 3, 4, 5, 6, 7, 8] _ (by first | exact Or.inl ⟨by omega, rfl⟩ | exact Or.inr (Or.inl ⟨by omega, rfl⟩) | exact Or.inr (Or.inr ⟨by omega, rfl⟩)) rfl (by decide) rfl dX5_glue_34
    ·
      have c_19 := b2_t c_19
      refine z_iload_n hC 3 dX5_glue_22 rfl rfl ?_
      refine z_iconst hC dX5_glue_23 ?_
      refine z_sip hC dX5_glue_24 (by decide) ?_
      refine z_sRi hC 3 (c_X5_isWithin (xl X) g _ _ _ (by omega) (by omega) (by omega)) gX5_glue_X5_isWithin rfl hd_X5_isWithin_s (by decide) ⟨rfl, rfl⟩ [] (by decide) rfl rfl rfl (Nat.le_of_ble_eq_true rfl) dX5_glue_27 (by decide) ?_
      refine z_if_ne hC 35 dX5_glue_30 (by decide) (b2_r _) (fun c_30 => ?_) (fun c_30 => ?_)
      ·
        have c_30 := b2_t c_30
        refine z_aload_n hC 0 dX5_glue_35 rfl rfl ?_
        refine z_get hC iX5_glue_5 0 0 rfl rfl (by decide) mX5_glue_f10 rfl dX5_glue_36 ?_
        refine z_iconst hC dX5_glue_39 ?_
        refine z_iload_n hC 1 dX5_glue_40 rfl rfl ?_
        refine z_iload_n hC 2 dX5_glue_41 rfl rfl ?_
        refine z_iload_n hC 3 dX5_glue_42 rfl rfl ?_
        refine z_vnWi (wr := [_]) hC 4 (c_X0_append (xl X) g _ _ _ _ _ _ _ _ _ _ _ _ _ _ _ _ _ _ _ _ (by omega)) gX5_glue_X0_append_n45 nm_RX5_45 mX5_glue_iniRX0 mX5_glue_im_X0_append mX5_glue_se_X0_append rfl hd_X0_append_s (by decide) ⟨rfl, rfl⟩ [1, 2, 3, 4, 5, 6, 7, 8] [0] (by decide) rfl rfl (by decide) (by decide) 1 0 rfl rfl rfl rfl rfl (Nat.le_of_ble_eq_true rfl) dX5_glue_43 (by decide) (fun u_43 p_43 => ?_)
        rcases p_43 with ⟨a_43, rfl⟩ | ⟨a_43, rfl⟩
        ·
          refine z_ws (ws' := [(hB, eo 5 [.ref hI, .ref oR, .ref hS, .ref hY]), (hI, eo 0 [.ref aK, .ref aV, .ref aP, .ref aM, .ref aL, .ref aS, .ref aH, .int (iZ (n))]), (aK, ei g 100 K), (aV, ei g 100 V), (aP, ei g 100 P), (aM, ez g 100 M), (aL, ei g 101 LB), (aS, ei g 101 SB), (aH, ei g 101 HB)]) [0, 1, 2, 3, 4, 5, 6, 7, 8] (by decide) rfl ?_
          refine z_top (b := (-2)) rfl ?_
          exact hR (K, LB, SB, HB, n, (-2)) _ _ _ [0, 1, 2, 3, 4, 5, 6, 7, 8] _ (by first | exact Or.inl ⟨by omega, rfl⟩ | exact Or.inr (Or.inl ⟨by omega, rfl⟩) | exact Or.inr (Or.inr ⟨by omega, rfl⟩)) rfl (by decide) rfl dX5_glue_46
        ·
          refine z_ws (ws' := [(hB, eo 5 [.ref hI, .ref oR, .ref hS, .ref hY]), (hI, eo 0 [.ref aK, .ref aV, .ref aP, .ref aM, .ref aL, .ref aS, .ref aH, .int (iZ ((n + 1)))]), (aK, ei g 100 ((uZ K n 1))), (aV, ei g 100 V), (aP, ei g 100 P), (aM, ez g 100 M), (aL, ei g 101 ((uZ LB (n + 1) (LB n + w)))), (aS, ei g 101 ((uZ SB (n + 1) (SB n + t)))), (aH, ei g 101 ((uZ HB (n + 1) (HB n + s))))]) [0, 1, 2, 3, 4, 5, 6, 7, 8] (by decide) rfl ?_
          refine z_top (b := n) rfl ?_
          exact hR ((uZ K n 1), (uZ LB (n + 1) (LB n + w)), (uZ SB (n + 1) (SB n + t)), (uZ HB (n + 1) (HB n + s)), (n + 1), n) _ _ _ [0, 1, 2, 3, 4, 5, 6, 7, 8] _ (by first | exact Or.inl ⟨by omega, rfl⟩ | exact Or.inr (Or.inl ⟨by omega, rfl⟩) | exact Or.inr (Or.inr ⟨by omega, rfl⟩)) rfl (by decide) rfl dX5_glue_46
      ·
        have c_30 := b2_f c_30
        refine z_iconst hC dX5_glue_33 ?_
        exact hR (K, LB, SB, HB, n, -1) _ _ _ [0, 1, 2, 3, 4, 5, 6, 7, 8] _ (by first | exact Or.inl ⟨by omega, rfl⟩ | exact Or.inr (Or.inl ⟨by omega, rfl⟩) | exact Or.inr (Or.inr ⟨by omega, rfl⟩)) rfl (by decide) rfl dX5_glue_34
set_option maxRecDepth 20000 in
theorem mX5_penalty_f10 : Cond.fieldLink RX5 10 "BreakSearch" "items" "LBreakSearch$Items;" ∈ wsX5_penalty := by decide +kernel
set_option maxRecDepth 20000 in
theorem iX5_penalty_5 : ∀ w ∈ u_ws RX5 TX5 4, w ∈ wsX5_penalty := by decide +kernel
set_option maxRecDepth 20000 in
theorem mX5_penalty_iniRX0 : Cond.initialized RX0 ∈ wsX5_penalty := by decide +kernel
set_option maxRecDepth 20000 in
theorem mX5_penalty_im_X0_appendPenalty : Cond.instanceMethod yX0_appendPenalty ∈ wsX5_penalty := by decide +kernel
set_option maxRecDepth 20000 in
theorem mX5_penalty_se_X0_appendPenalty : Cond.selects RX0 yX0_appendPenalty yX0_appendPenalty ∈ wsX5_penalty := by decide +kernel
abbrev rm_X5_penalty : Room := { frames := 3, cells := 0, slots := 0, locals := 61 }
set_option maxHeartbeats 4000000 in
set_option maxRecDepth 100000 in
theorem c_X5_penalty (l : Launch) (g : zG) (hB oR hS hY : Nat) (hI aK aV aP aM aL aS aH : Nat) (n : Int) (K V P M LB SB HB : Int → Int) (x w mk : Int) (h1 : 0 ≤ n ∧ n ≤ 100) (h2 : -2147483648 ≤ x ∧ x ≤ 2147483647) (h3 : -2147483648 ≤ w ∧ w ≤ 2147483647) (h4 : mk = 0 ∨ mk = 1) : zMWi (S := (Int → Int) × (Int → Int) × (Int → Int) × (Int → Int) × (Int → Int) × (Int → Int) × (Int → Int) × (Int) × (Int)) l yX5_penalty wsX5_penalty rm_X5_penalty g [(hB, eo 5 [.ref hI, .ref oR, .ref hS, .ref hY]), (hI, eo 0 [.ref aK, .ref aV, .ref aP, .ref aM, .ref aL, .ref aS, .ref aH, .int (iZ (n))]), (aK, ei g 100 K), (aV, ei g 100 V), (aP, ei g 100 P), (aM, ez g 100 M), (aL, ei g 101 LB), (aS, ei g 101 SB), (aH, ei g 101 HB)] [.ref hB, .int (iZ (x)), .int (iZ (w)), .int (iZ (mk))] (fun u => ((¬ ((-10000 ≤ x ∧ x ≤ 10000) ∧ (0 ≤ w ∧ w ≤ 10000))) ∧ u = (K, V, P, M, LB, SB, HB, n, -1)) ∨ ((((-10000 ≤ x ∧ x ≤ 10000) ∧ (0 ≤ w ∧ w ≤ 10000)) ∧ 100 ≤ n) ∧ u = (K, V, P, M, LB, SB, HB, n, -2)) ∨ ((((-10000 ≤ x ∧ x ≤ 10000) ∧ (0 ≤ w ∧ w ≤ 10000)) ∧ n < 100) ∧ u = (uZ K n 2, uZ V n x, uZ P n w, uZ M n mk, uZ LB (n + 1) (LB n + 0), uZ SB (n + 1) (SB n + 0), uZ HB (n + 1) (HB n + 0), n + 1, n))) (fun u => u.2.2.2.2.2.2.2.2) (fun u => [(hB, eo 5 [.ref hI, .ref oR, .ref hS, .ref hY]), (hI, eo 0 [.ref aK, .ref aV, .ref aP, .ref aM, .ref aL, .ref aS, .ref aH, .int (iZ (u.2.2.2.2.2.2.2.1))]), (aK, ei g 100 u.1), (aV, ei g 100 u.2.1), (aP, ei g 100 u.2.2.1), (aM, ez g 100 u.2.2.2.1), (aL, ei g 101 u.2.2.2.2.1), (aS, ei g 101 u.2.2.2.2.2.1), (aH, ei g 101 u.2.2.2.2.2.2.1)]) 0 0 := by
  refine z_beWi (cc := cX5_penalty) (nL := 4) (ret := some .int) (plainFor_of_name (by decide +kernel)) rfl (Or.inl rfl) (Nat.le_of_ble_eq_true rfl) ?_
  intro X A hC hN hR
  have hC : zC X g cX5_penalty RX5 wsX5_penalty rm_X5_penalty 4 := hC
  show ZG X g (zD X A) 0 0 [(hB, eo 5 [.ref hI, .ref oR, .ref hS, .ref hY]), (hI, eo 0 [.ref aK, .ref aV, .ref aP, .ref aM, .ref aL, .ref aS, .ref aH, .int (iZ (n))]), (aK, ei g 100 K), (aV, ei g 100 V), (aP, ei g 100 P), (aM, ez g 100 M), (aL, ei g 101 LB), (aS, ei g 101 SB), (aH, ei g 101 HB)] [(0, .ref hB), (1, .int (iZ (x))), (2, .int (iZ (w))), (3, .int (iZ (mk)))] 0 []
  refine z_iload_n hC 1 dX5_penalty_0 rfl rfl ?_
  refine z_sip hC dX5_penalty_1 (by decide) ?_
  refine z_sip hC dX5_penalty_4 (by decide) ?_
  refine z_sRi hC 3 (c_X5_isWithin (xl X) g _ _ _ (by omega) (by omega) (by omega)) gX5_penalty_X5_isWithin rfl hd_X5_isWithin_s (by decide) ⟨rfl, rfl⟩ [] (by decide) rfl rfl rfl (Nat.le_of_ble_eq_true rfl) dX5_penalty_7 (by decide) ?_
  refine z_if_eq hC 24 dX5_penalty_10 (by decide) (b2_r _) (fun c_10 => ?_) (fun c_10 => ?_)
  ·
    have c_10 := b2_f c_10
    refine z_iconst hC dX5_penalty_24 ?_
    exact hR (K, V, P, M, LB, SB, HB, n, -1) _ _ _ [0, 1, 2, 3, 4, 5, 6, 7, 8] _ (by first | exact Or.inl ⟨by omega, rfl⟩ | exact Or.inr (Or.inl ⟨by omega, rfl⟩) | exact Or.inr (Or.inr ⟨by omega, rfl⟩)) rfl (by decide) rfl dX5_penalty_25
  ·
    have c_10 := b2_t c_10
    refine z_iload_n hC 2 dX5_penalty_13 rfl rfl ?_
    refine z_iconst hC dX5_penalty_14 ?_
    refine z_sip hC dX5_penalty_15 (by decide) ?_
    refine z_sRi hC 3 (c_X5_isWithin (xl X) g _ _ _ (by omega) (by omega) (by omega)) gX5_penalty_X5_isWithin rfl hd_X5_isWithin_s (by decide) ⟨rfl, rfl⟩ [] (by decide) rfl rfl rfl (Nat.le_of_ble_eq_true rfl) dX5_penalty_18 (by decide) ?_
    refine z_if_ne hC 26 dX5_penalty_21 (by decide) (b2_r _) (fun c_21 => ?_) (fun c_21 => ?_)
    ·
      have c_21 := b2_t c_21
      refine z_aload_n hC 0 dX5_penalty_26 rfl rfl ?_
      refine z_get hC iX5_penalty_5 0 0 rfl rfl (by decide) mX5_penalty_f10 rfl dX5_penalty_27 ?_
      refine z_iload_n hC 1 dX5_penalty_30 rfl rfl ?_
      refine z_iload_n hC 2 dX5_penalty_31 rfl rfl ?_
      refine z_iload_n hC 3 dX5_penalty_32 rfl rfl ?_
      refine z_vnWi (wr := [_]) hC 3 (c_X0_appendPenalty (xl X) g _ _ _ _ _ _ _ _ _ _ _ _ _ _ _ _ _ _ _ (by omega) (by omega)) gX5_penalty_X0_appendPenalty_n49 nm_RX5_49 mX5_penalty_iniRX0 mX5_penalty_im_X0_appendPenalty mX5_penalty_se_X0_appendPenalty rfl hd_X0_appendPenalty_s (by decide) ⟨rfl, rfl⟩ [1, 2, 3, 4, 5, 6, 7, 8] [0] (by decide) rfl rfl (by decide) (by decide) 1 0 rfl rfl rfl rfl rfl (Nat.le_of_ble_eq_true rfl) dX5_penalty_33 (by decide) (fun u_33 p_33 => ?_)
      rcases p_33 with ⟨a_33, rfl⟩ | ⟨a_33, rfl⟩
      ·
        refine z_ws (ws' := [(hB, eo 5 [.ref hI, .ref oR, .ref hS, .ref hY]), (hI, eo 0 [.ref aK, .ref aV, .ref aP, .ref aM, .ref aL, .ref aS, .ref aH, .int (iZ (n))]), (aK, ei g 100 K), (aV, ei g 100 V), (aP, ei g 100 P), (aM, ez g 100 M), (aL, ei g 101 LB), (aS, ei g 101 SB), (aH, ei g 101 HB)]) [0, 1, 2, 3, 4, 5, 6, 7, 8] (by decide) rfl ?_
        refine z_top (b := (-2)) rfl ?_
        exact hR (K, V, P, M, LB, SB, HB, n, (-2)) _ _ _ [0, 1, 2, 3, 4, 5, 6, 7, 8] _ (by first | exact Or.inl ⟨by omega, rfl⟩ | exact Or.inr (Or.inl ⟨by omega, rfl⟩) | exact Or.inr (Or.inr ⟨by omega, rfl⟩)) rfl (by decide) rfl dX5_penalty_36
      ·
        refine z_ws (ws' := [(hB, eo 5 [.ref hI, .ref oR, .ref hS, .ref hY]), (hI, eo 0 [.ref aK, .ref aV, .ref aP, .ref aM, .ref aL, .ref aS, .ref aH, .int (iZ ((n + 1)))]), (aK, ei g 100 ((uZ K n 2))), (aV, ei g 100 ((uZ V n x))), (aP, ei g 100 ((uZ P n w))), (aM, ez g 100 ((uZ M n mk))), (aL, ei g 101 ((uZ LB (n + 1) (LB n + 0)))), (aS, ei g 101 ((uZ SB (n + 1) (SB n + 0)))), (aH, ei g 101 ((uZ HB (n + 1) (HB n + 0))))]) [0, 1, 2, 3, 4, 5, 6, 7, 8] (by decide) rfl ?_
        refine z_top (b := n) rfl ?_
        exact hR ((uZ K n 2), (uZ V n x), (uZ P n w), (uZ M n mk), (uZ LB (n + 1) (LB n + 0)), (uZ SB (n + 1) (SB n + 0)), (uZ HB (n + 1) (HB n + 0)), (n + 1), n) _ _ _ [0, 1, 2, 3, 4, 5, 6, 7, 8] _ (by first | exact Or.inl ⟨by omega, rfl⟩ | exact Or.inr (Or.inl ⟨by omega, rfl⟩) | exact Or.inr (Or.inr ⟨by omega, rfl⟩)) rfl (by decide) rfl dX5_penalty_36
    ·
      have c_21 := b2_f c_21
      refine z_iconst hC dX5_penalty_24 ?_
      exact hR (K, V, P, M, LB, SB, HB, n, -1) _ _ _ [0, 1, 2, 3, 4, 5, 6, 7, 8] _ (by first | exact Or.inl ⟨by omega, rfl⟩ | exact Or.inr (Or.inl ⟨by omega, rfl⟩) | exact Or.inr (Or.inr ⟨by omega, rfl⟩)) rfl (by decide) rfl dX5_penalty_25
set_option maxRecDepth 20000 in
theorem mX5_shape_f21 : Cond.fieldLink RX5 21 "BreakSearch" "rules" "LBreakSearch$Rules;" ∈ wsX5_shape := by decide +kernel
set_option maxRecDepth 20000 in
theorem iX5_shape_5 : ∀ w ∈ u_ws RX5 TX5 4, w ∈ wsX5_shape := by decide +kernel
set_option maxRecDepth 20000 in
theorem iX5_shape_2 : ∀ w ∈ u_ws RX2 TX2 2, w ∈ wsX5_shape := by decide +kernel
abbrev rm_X5_shape : Room := { frames := 2, cells := 0, slots := 0, locals := 34 }
set_option maxHeartbeats 4000000 in
set_option maxRecDepth 100000 in
theorem c_X5_shape (l : Launch) (g : zG) (hB hI hS hY : Nat) (oR aW aT : Nat) (W T : Int → Int) (i w : Int) (h1 : -2147483648 ≤ i ∧ i ≤ 2147483647) (h2 : -2147483648 ≤ w ∧ w ≤ 2147483647) : zMWi (S := (Int → Int) × (Int)) l yX5_shape wsX5_shape rm_X5_shape g [(hB, eo 5 [.ref hI, .ref oR, .ref hS, .ref hY]), (oR, eo 2 [.ref aW, .ref aT]), (aW, ei g 50 W), (aT, ei g 3 T)] [.ref hB, .int (iZ (i)), .int (iZ (w))] (fun u => ((¬ ((0 ≤ i ∧ i ≤ 49) ∧ (0 ≤ w ∧ w ≤ 10000))) ∧ u = (W, -1)) ∨ (((0 ≤ i ∧ i ≤ 49) ∧ (0 ≤ w ∧ w ≤ 10000)) ∧ u = (uZ W i w, 1))) (fun u => u.2) (fun u => [(hB, eo 5 [.ref hI, .ref oR, .ref hS, .ref hY]), (oR, eo 2 [.ref aW, .ref aT]), (aW, ei g 50 u.1), (aT, ei g 3 T)]) 0 0 := by
  refine z_beWi (cc := cX5_shape) (nL := 3) (ret := some .int) (plainFor_of_name (by decide +kernel)) rfl (Or.inl rfl) (Nat.le_of_ble_eq_true rfl) ?_
  intro X A hC hN hR
  have hC : zC X g cX5_shape RX5 wsX5_shape rm_X5_shape 3 := hC
  show ZG X g (zD X A) 0 0 [(hB, eo 5 [.ref hI, .ref oR, .ref hS, .ref hY]), (oR, eo 2 [.ref aW, .ref aT]), (aW, ei g 50 W), (aT, ei g 3 T)] [(0, .ref hB), (1, .int (iZ (i))), (2, .int (iZ (w)))] 0 []
  refine z_iload_n hC 1 dX5_shape_0 rfl rfl ?_
  refine z_iconst hC dX5_shape_1 ?_
  refine z_bip hC dX5_shape_2 (by decide) ?_
  refine z_sRi hC 3 (c_X5_isWithin (xl X) g _ _ _ (by omega) (by omega) (by omega)) gX5_shape_X5_isWithin rfl hd_X5_isWithin_s (by decide) ⟨rfl, rfl⟩ [] (by decide) rfl rfl rfl (Nat.le_of_ble_eq_true rfl) dX5_shape_4 (by decide) ?_
  refine z_if_eq hC 21 dX5_shape_7 (by decide) (b2_r _) (fun c_7 => ?_) (fun c_7 => ?_)
  ·
    have c_7 := b2_f c_7
    refine z_iconst hC dX5_shape_21 ?_
    exact hR (W, -1) _ _ _ [0, 1, 2, 3] _ (by first | exact Or.inl ⟨by omega, rfl⟩ | exact Or.inr ⟨by omega, rfl⟩) rfl (by decide) rfl dX5_shape_22
  ·
    have c_7 := b2_t c_7
    refine z_iload_n hC 2 dX5_shape_10 rfl rfl ?_
    refine z_iconst hC dX5_shape_11 ?_
    refine z_sip hC dX5_shape_12 (by decide) ?_
    refine z_sRi hC 3 (c_X5_isWithin (xl X) g _ _ _ (by omega) (by omega) (by omega)) gX5_shape_X5_isWithin rfl hd_X5_isWithin_s (by decide) ⟨rfl, rfl⟩ [] (by decide) rfl rfl rfl (Nat.le_of_ble_eq_true rfl) dX5_shape_15 (by decide) ?_
    refine z_if_ne hC 23 dX5_shape_18 (by decide) (b2_r _) (fun c_18 => ?_) (fun c_18 => ?_)
    ·
      have c_18 := b2_t c_18
      refine z_aload_n hC 0 dX5_shape_23 rfl rfl ?_
      refine z_get hC iX5_shape_5 0 1 rfl rfl (by decide) mX5_shape_f21 rfl dX5_shape_24 ?_
      refine z_getN hC iX5_shape_2 1 0 rfl rfl (by decide) nf_RX5_53 rfl dX5_shape_27 ?_
      refine z_iload_n hC 1 dX5_shape_30 rfl rfl ?_
      refine z_iload_n hC 2 dX5_shape_31 rfl rfl ?_
      refine z_iast hC 2 rfl (by omega) (by decide) dX5_shape_32 (ws' := [_, _, _, _]) rfl ?_
      refine z_iconst hC dX5_shape_33 ?_
      exact hR (uZ W i w, 1) _ _ _ [0, 1, 2, 3] _ (by first | exact Or.inl ⟨by omega, rfl⟩ | exact Or.inr ⟨by omega, rfl⟩) rfl (by decide) rfl dX5_shape_34
    ·
      have c_18 := b2_f c_18
      refine z_iconst hC dX5_shape_21 ?_
      exact hR (W, -1) _ _ _ [0, 1, 2, 3] _ (by first | exact Or.inl ⟨by omega, rfl⟩ | exact Or.inr ⟨by omega, rfl⟩) rfl (by decide) rfl dX5_shape_22
set_option maxRecDepth 20000 in
theorem mX5_setting_f21 : Cond.fieldLink RX5 21 "BreakSearch" "rules" "LBreakSearch$Rules;" ∈ wsX5_setting := by decide +kernel
set_option maxRecDepth 20000 in
theorem iX5_setting_5 : ∀ w ∈ u_ws RX5 TX5 4, w ∈ wsX5_setting := by decide +kernel
set_option maxRecDepth 20000 in
theorem iX5_setting_2 : ∀ w ∈ u_ws RX2 TX2 2, w ∈ wsX5_setting := by decide +kernel
abbrev rm_X5_setting : Room := { frames := 2, cells := 0, slots := 0, locals := 34 }
set_option maxHeartbeats 4000000 in
set_option maxRecDepth 100000 in
theorem c_X5_setting (l : Launch) (g : zG) (hB hI hS hY : Nat) (oR aW aT : Nat) (W T : Int → Int) (x v : Int) (h1 : -2147483648 ≤ x ∧ x ≤ 2147483647) (h2 : -2147483648 ≤ v ∧ v ≤ 2147483647) : zMWi (S := (Int → Int) × (Int)) l yX5_setting wsX5_setting rm_X5_setting g [(hB, eo 5 [.ref hI, .ref oR, .ref hS, .ref hY]), (oR, eo 2 [.ref aW, .ref aT]), (aW, ei g 50 W), (aT, ei g 3 T)] [.ref hB, .int (iZ (x)), .int (iZ (v))] (fun u => ((¬ ((0 ≤ x ∧ x ≤ 2) ∧ ((x = 2 ∧ 0 ≤ v) ∨ (¬ x = 2 ∧ -1 ≤ v)) ∧ v ≤ 10000)) ∧ u = (T, -1)) ∨ (((0 ≤ x ∧ x ≤ 2) ∧ ((x = 2 ∧ 0 ≤ v) ∨ (¬ x = 2 ∧ -1 ≤ v)) ∧ v ≤ 10000) ∧ u = (uZ T x v, 1))) (fun u => u.2) (fun u => [(hB, eo 5 [.ref hI, .ref oR, .ref hS, .ref hY]), (oR, eo 2 [.ref aW, .ref aT]), (aW, ei g 50 W), (aT, ei g 3 u.1)]) 0 0 := by
  refine z_beWi (cc := cX5_setting) (nL := 4) (ret := some .int) (plainFor_of_name (by decide +kernel)) rfl (Or.inl rfl) (Nat.le_of_ble_eq_true rfl) ?_
  intro X A hC hN hR
  have hC : zC X g cX5_setting RX5 wsX5_setting rm_X5_setting 4 := hC
  show ZG X g (zD X A) 0 0 [(hB, eo 5 [.ref hI, .ref oR, .ref hS, .ref hY]), (oR, eo 2 [.ref aW, .ref aT]), (aW, ei g 50 W), (aT, ei g 3 T)] [(0, .ref hB), (1, .int (iZ (x))), (2, .int (iZ (v)))] 0 []
  refine z_iload_n hC 1 dX5_setting_0 rfl rfl ?_
  refine z_iconst hC dX5_setting_1 ?_
  refine z_iconst hC dX5_setting_2 ?_
  refine z_sRi hC 3 (c_X5_isWithin (xl X) g _ _ _ (by omega) (by omega) (by omega)) gX5_setting_X5_isWithin rfl hd_X5_isWithin_s (by decide) ⟨rfl, rfl⟩ [] (by decide) rfl rfl rfl (Nat.le_of_ble_eq_true rfl) dX5_setting_3 (by decide) ?_
  refine z_if_ne hC 11 dX5_setting_6 (by decide) (b2_r _) (fun c_6 => ?_) (fun c_6 => ?_)
  ·
    have c_6 := b2_t c_6
    refine z_iload_n hC 1 dX5_setting_11 rfl rfl ?_
    refine z_iconst hC dX5_setting_12 ?_
    refine z_icmp_ne hC 20 dX5_setting_13 (by decide) (by omega) (by omega) (fun c_13 => ?_) (fun c_13 => ?_)
    ·
      refine z_iconst hC dX5_setting_20 ?_
      refine z_istore_n hC (lv' := [(3, _), (0, _), (1, _), (2, _)]) dX5_setting_21 rfl (by decide) rfl ?_
      refine z_iload_n hC 3 dX5_setting_22 rfl rfl ?_
      refine z_iload_n hC 0 dX5_setting_23 rfl rfl ?_
      refine z_sip hC dX5_setting_24 (by decide) ?_
      refine z_sRi hC 3 (c_X5_isWithin (xl X) g _ _ _ (by omega) (by omega) (by omega)) gX5_setting_X5_isWithin rfl hd_X5_isWithin_s (by decide) ⟨rfl, rfl⟩ [] (by decide) rfl rfl rfl (Nat.le_of_ble_eq_true rfl) dX5_setting_27 (by decide) ?_
      refine z_if_ne hC 35 dX5_setting_30 (by decide) (b2_r _) (fun c_30 => ?_) (fun c_30 => ?_)
      ·
        have c_30 := b2_t c_30
        refine z_aload_n hC 1 dX5_setting_35 rfl rfl ?_
        refine z_get hC iX5_setting_5 0 1 rfl rfl (by decide) mX5_setting_f21 rfl dX5_setting_36 ?_
        refine z_getN hC iX5_setting_2 1 1 rfl rfl (by decide) nf_RX5_57 rfl dX5_setting_39 ?_
        refine z_iload_n hC 2 dX5_setting_42 rfl rfl ?_
        refine z_iload_n hC 3 dX5_setting_43 rfl rfl ?_
        refine z_iast hC 3 rfl (by omega) (by decide) dX5_setting_44 (ws' := [_, _, _, _]) rfl ?_
        refine z_iconst hC dX5_setting_45 ?_
        exact hR (uZ T x v, 1) _ _ _ [0, 1, 2, 3] _ (by first | exact Or.inl ⟨by omega, rfl⟩ | exact Or.inr ⟨by omega, rfl⟩) rfl (by decide) rfl dX5_setting_46
      ·
        have c_30 := b2_f c_30
        refine z_iconst hC dX5_setting_33 ?_
        exact hR (T, -1) _ _ _ [0, 1, 2, 3] _ (by first | exact Or.inl ⟨by omega, rfl⟩ | exact Or.inr ⟨by omega, rfl⟩) rfl (by decide) rfl dX5_setting_34
    ·
      refine z_iconst hC dX5_setting_16 ?_
      refine z_goto (tgt := 21) hC dX5_setting_17 (by decide) ?_
      refine z_istore_n hC (lv' := [(3, _), (0, _), (1, _), (2, _)]) dX5_setting_21 rfl (by decide) rfl ?_
      refine z_iload_n hC 3 dX5_setting_22 rfl rfl ?_
      refine z_iload_n hC 0 dX5_setting_23 rfl rfl ?_
      refine z_sip hC dX5_setting_24 (by decide) ?_
      refine z_sRi hC 3 (c_X5_isWithin (xl X) g _ _ _ (by omega) (by omega) (by omega)) gX5_setting_X5_isWithin rfl hd_X5_isWithin_s (by decide) ⟨rfl, rfl⟩ [] (by decide) rfl rfl rfl (Nat.le_of_ble_eq_true rfl) dX5_setting_27 (by decide) ?_
      refine z_if_ne hC 35 dX5_setting_30 (by decide) (b2_r _) (fun c_30 => ?_) (fun c_30 => ?_)
      ·
        have c_30 := b2_t c_30
        refine z_aload_n hC 1 dX5_setting_35 rfl rfl ?_
        refine z_get hC iX5_setting_5 0 1 rfl rfl (by decide) mX5_setting_f21 rfl dX5_setting_36 ?_
        refine z_getN hC iX5_setting_2 1 1 rfl rfl (by decide) nf_RX5_57 rfl dX5_setting_39 ?_
        refine z_iload_n hC 2 dX5_setting_42 rfl rfl ?_
        refine z_iload_n hC 3 dX5_setting_43 rfl rfl ?_
        refine z_iast hC 3 rfl (by omega) (by decide) dX5_setting_44 (ws' := [_, _, _, _]) rfl ?_
        refine z_iconst hC dX5_setting_45 ?_
        exact hR (uZ T x v, 1) _ _ _ [0, 1, 2, 3] _ (by first | exact Or.inl ⟨by omega, rfl⟩ | exact Or.inr ⟨by omega, rfl⟩) rfl (by decide) rfl dX5_setting_46
      ·
        have c_30 := b2_f c_30
        refine z_iconst hC dX5_setting_33 ?_
        exact hR (T, -1) _ _ _ [0, 1, 2, 3] _ (by first | exact Or.inl ⟨by omega, rfl⟩ | exact Or.inr ⟨by omega, rfl⟩) rfl (by decide) rfl dX5_setting_34
  ·
    have c_6 := b2_f c_6
    refine z_iconst hC dX5_setting_9 ?_
    exact hR (T, -1) _ _ _ [0, 1, 2, 3] _ (by first | exact Or.inl ⟨by omega, rfl⟩ | exact Or.inr ⟨by omega, rfl⟩) rfl (by decide) rfl dX5_setting_10
set_option maxRecDepth 20000 in
theorem mX5_at_f37 : Cond.fieldLink RX5 37 "BreakSearch" "told" "LBreakSearch$Way;" ∈ wsX5_at := by decide +kernel
set_option maxRecDepth 20000 in
theorem iX5_at_5 : ∀ w ∈ u_ws RX5 TX5 4, w ∈ wsX5_at := by decide +kernel
set_option maxRecDepth 20000 in
theorem mX5_at_iniRX4 : Cond.initialized RX4 ∈ wsX5_at := by decide +kernel
set_option maxRecDepth 20000 in
theorem mX5_at_im_X4_hasLine : Cond.instanceMethod yX4_hasLine ∈ wsX5_at := by decide +kernel
set_option maxRecDepth 20000 in
theorem mX5_at_se_X4_hasLine : Cond.selects RX4 yX4_hasLine yX4_hasLine ∈ wsX5_at := by decide +kernel
set_option maxRecDepth 20000 in
theorem iX5_at_4 : ∀ w ∈ u_ws RX4 TX4 7, w ∈ wsX5_at := by decide +kernel
abbrev rm_X5_at : Room := { frames := 2, cells := 0, slots := 0, locals := 33 }
set_option maxHeartbeats 4000000 in
set_option maxRecDepth 100000 in
theorem c_X5_at (l : Launch) (g : zG) (hB hI oR hS : Nat) (hY aE aQ aB aU : Nat) (tc tp td : Int) (E Q B U : Int → Int) (p : Int) (h1 : 0 ≤ tc ∧ tc ≤ 50) (h2 : -2147483648 ≤ p ∧ p ≤ 2147483647) : zMRi l yX5_at wsX5_at rm_X5_at g [(hB, eo 5 [.ref hI, .ref oR, .ref hS, .ref hY]), (hY, eo 4 [.ref aE, .ref aQ, .ref aB, .ref aU, .int (iZ (tc)), .int (iZ (tp)), .long (lZ (td))]), (aE, ei g 50 E), (aQ, ei g 50 Q), (aB, ei g 50 B), (aU, ei g 50 U)] [.ref hB, .int (iZ (p))] (if 0 ≤ p ∧ p < tc then E p else -1) := by
  refine z_beRi (cc := cX5_at) (nL := 2) (ret := some .int) (plainFor_of_name (by decide +kernel)) rfl (Or.inl rfl) (Nat.le_of_ble_eq_true rfl) ?_
  intro X hC hR
  have hC : zC X g cX5_at RX5 wsX5_at rm_X5_at 2 := hC
  show ZG X g (zE X) 0 0 [(hB, eo 5 [.ref hI, .ref oR, .ref hS, .ref hY]), (hY, eo 4 [.ref aE, .ref aQ, .ref aB, .ref aU, .int (iZ (tc)), .int (iZ (tp)), .long (lZ (td))]), (aE, ei g 50 E), (aQ, ei g 50 Q), (aB, ei g 50 B), (aU, ei g 50 U)] [(0, .ref hB), (1, .int (iZ (p)))] 0 []
  refine z_aload_n hC 0 dX5_at_0 rfl rfl ?_
  refine z_get hC iX5_at_5 0 3 rfl rfl (by decide) mX5_at_f37 rfl dX5_at_1 ?_
  refine z_iload_n hC 1 dX5_at_4 rfl rfl ?_
  refine z_vnRi hC 1 (c_X4_hasLine (xl X) g _ _ _ _ _ _ _ _ _ _ _ _ _ (by omega) (by omega)) gX5_at_X4_hasLine_n78 nm_RX5_78 mX5_at_iniRX4 mX5_at_im_X4_hasLine mX5_at_se_X4_hasLine rfl hd_X4_hasLine_s (by decide) ⟨rfl, rfl⟩ [1, 2, 3, 4, 5] (by decide) rfl 1 4 rfl rfl rfl rfl rfl (Nat.le_of_ble_eq_true rfl) dX5_at_5 (by decide) ?_
  refine z_if_eq hC 23 dX5_at_8 (by decide) (b2_r _) (fun c_8 => ?_) (fun c_8 => ?_)
  ·
    have c_8 := b2_f c_8
    refine z_iconst hC dX5_at_23 ?_
    exact hR _ _ _ _ (by first | exact (if_pos (by omega)).symm | exact (if_neg (by omega)).symm) dX5_at_24
  ·
    have c_8 := b2_t c_8
    refine z_aload_n hC 0 dX5_at_11 rfl rfl ?_
    refine z_get hC iX5_at_5 0 3 rfl rfl (by decide) mX5_at_f37 rfl dX5_at_12 ?_
    refine z_getN hC iX5_at_4 1 0 rfl rfl (by decide) nf_RX5_82 rfl dX5_at_15 ?_
    refine z_iload_n hC 1 dX5_at_18 rfl rfl ?_
    refine z_iald hC 2 rfl (by omega) (by decide) dX5_at_19 ?_
    refine z_goto (tgt := 24) hC dX5_at_20 (by decide) ?_
    exact hR _ _ _ _ (by first | exact (if_pos (by omega)).symm | exact (if_neg (by omega)).symm) dX5_at_24
set_option maxRecDepth 20000 in
theorem mX5_lacks_f37 : Cond.fieldLink RX5 37 "BreakSearch" "told" "LBreakSearch$Way;" ∈ wsX5_lacks := by decide +kernel
set_option maxRecDepth 20000 in
theorem iX5_lacks_5 : ∀ w ∈ u_ws RX5 TX5 4, w ∈ wsX5_lacks := by decide +kernel
set_option maxRecDepth 20000 in
theorem mX5_lacks_iniRX4 : Cond.initialized RX4 ∈ wsX5_lacks := by decide +kernel
set_option maxRecDepth 20000 in
theorem mX5_lacks_im_X4_hasLine : Cond.instanceMethod yX4_hasLine ∈ wsX5_lacks := by decide +kernel
set_option maxRecDepth 20000 in
theorem mX5_lacks_se_X4_hasLine : Cond.selects RX4 yX4_hasLine yX4_hasLine ∈ wsX5_lacks := by decide +kernel
set_option maxRecDepth 20000 in
theorem iX5_lacks_4 : ∀ w ∈ u_ws RX4 TX4 7, w ∈ wsX5_lacks := by decide +kernel
abbrev rm_X5_lacks : Room := { frames := 2, cells := 0, slots := 0, locals := 33 }
set_option maxHeartbeats 4000000 in
set_option maxRecDepth 100000 in
theorem c_X5_lacks (l : Launch) (g : zG) (hB hI oR hS : Nat) (hY aE aQ aB aU : Nat) (tc tp td : Int) (E Q B U : Int → Int) (p : Int) (h1 : 0 ≤ tc ∧ tc ≤ 50) (h2 : -2147483648 ≤ p ∧ p ≤ 2147483647) : zMRi l yX5_lacks wsX5_lacks rm_X5_lacks g [(hB, eo 5 [.ref hI, .ref oR, .ref hS, .ref hY]), (hY, eo 4 [.ref aE, .ref aQ, .ref aB, .ref aU, .int (iZ (tc)), .int (iZ (tp)), .long (lZ (td))]), (aE, ei g 50 E), (aQ, ei g 50 Q), (aB, ei g 50 B), (aU, ei g 50 U)] [.ref hB, .int (iZ (p))] (if 0 ≤ p ∧ p < tc then Q p else 0) := by
  refine z_beRi (cc := cX5_lacks) (nL := 2) (ret := some .int) (plainFor_of_name (by decide +kernel)) rfl (Or.inl rfl) (Nat.le_of_ble_eq_true rfl) ?_
  intro X hC hR
  have hC : zC X g cX5_lacks RX5 wsX5_lacks rm_X5_lacks 2 := hC
  show ZG X g (zE X) 0 0 [(hB, eo 5 [.ref hI, .ref oR, .ref hS, .ref hY]), (hY, eo 4 [.ref aE, .ref aQ, .ref aB, .ref aU, .int (iZ (tc)), .int (iZ (tp)), .long (lZ (td))]), (aE, ei g 50 E), (aQ, ei g 50 Q), (aB, ei g 50 B), (aU, ei g 50 U)] [(0, .ref hB), (1, .int (iZ (p)))] 0 []
  refine z_aload_n hC 0 dX5_lacks_0 rfl rfl ?_
  refine z_get hC iX5_lacks_5 0 3 rfl rfl (by decide) mX5_lacks_f37 rfl dX5_lacks_1 ?_
  refine z_iload_n hC 1 dX5_lacks_4 rfl rfl ?_
  refine z_vnRi hC 1 (c_X4_hasLine (xl X) g _ _ _ _ _ _ _ _ _ _ _ _ _ (by omega) (by omega)) gX5_lacks_X4_hasLine_n78 nm_RX5_78 mX5_lacks_iniRX4 mX5_lacks_im_X4_hasLine mX5_lacks_se_X4_hasLine rfl hd_X4_hasLine_s (by decide) ⟨rfl, rfl⟩ [1, 2, 3, 4, 5] (by decide) rfl 1 4 rfl rfl rfl rfl rfl (Nat.le_of_ble_eq_true rfl) dX5_lacks_5 (by decide) ?_
  refine z_if_eq hC 23 dX5_lacks_8 (by decide) (b2_r _) (fun c_8 => ?_) (fun c_8 => ?_)
  ·
    have c_8 := b2_f c_8
    refine z_iconst hC dX5_lacks_23 ?_
    exact hR _ _ _ _ (by first | exact (if_pos (by omega)).symm | exact (if_neg (by omega)).symm) dX5_lacks_24
  ·
    have c_8 := b2_t c_8
    refine z_aload_n hC 0 dX5_lacks_11 rfl rfl ?_
    refine z_get hC iX5_lacks_5 0 3 rfl rfl (by decide) mX5_lacks_f37 rfl dX5_lacks_12 ?_
    refine z_getN hC iX5_lacks_4 1 1 rfl rfl (by decide) nf_RX5_85 rfl dX5_lacks_15 ?_
    refine z_iload_n hC 1 dX5_lacks_18 rfl rfl ?_
    refine z_iald hC 3 rfl (by omega) (by decide) dX5_lacks_19 ?_
    refine z_goto (tgt := 24) hC dX5_lacks_20 (by decide) ?_
    exact hR _ _ _ _ (by first | exact (if_pos (by omega)).symm | exact (if_neg (by omega)).symm) dX5_lacks_24
set_option maxRecDepth 20000 in
theorem mX5_badness_f37 : Cond.fieldLink RX5 37 "BreakSearch" "told" "LBreakSearch$Way;" ∈ wsX5_badness := by decide +kernel
set_option maxRecDepth 20000 in
theorem iX5_badness_5 : ∀ w ∈ u_ws RX5 TX5 4, w ∈ wsX5_badness := by decide +kernel
set_option maxRecDepth 20000 in
theorem mX5_badness_iniRX4 : Cond.initialized RX4 ∈ wsX5_badness := by decide +kernel
set_option maxRecDepth 20000 in
theorem mX5_badness_im_X4_hasLine : Cond.instanceMethod yX4_hasLine ∈ wsX5_badness := by decide +kernel
set_option maxRecDepth 20000 in
theorem mX5_badness_se_X4_hasLine : Cond.selects RX4 yX4_hasLine yX4_hasLine ∈ wsX5_badness := by decide +kernel
set_option maxRecDepth 20000 in
theorem iX5_badness_4 : ∀ w ∈ u_ws RX4 TX4 7, w ∈ wsX5_badness := by decide +kernel
abbrev rm_X5_badness : Room := { frames := 2, cells := 0, slots := 0, locals := 33 }
set_option maxHeartbeats 4000000 in
set_option maxRecDepth 100000 in
theorem c_X5_badness (l : Launch) (g : zG) (hB hI oR hS : Nat) (hY aE aQ aB aU : Nat) (tc tp td : Int) (E Q B U : Int → Int) (p : Int) (h1 : 0 ≤ tc ∧ tc ≤ 50) (h2 : -2147483648 ≤ p ∧ p ≤ 2147483647) : zMRi l yX5_badness wsX5_badness rm_X5_badness g [(hB, eo 5 [.ref hI, .ref oR, .ref hS, .ref hY]), (hY, eo 4 [.ref aE, .ref aQ, .ref aB, .ref aU, .int (iZ (tc)), .int (iZ (tp)), .long (lZ (td))]), (aE, ei g 50 E), (aQ, ei g 50 Q), (aB, ei g 50 B), (aU, ei g 50 U)] [.ref hB, .int (iZ (p))] (if 0 ≤ p ∧ p < tc then B p else 0) := by
  refine z_beRi (cc := cX5_badness) (nL := 2) (ret := some .int) (plainFor_of_name (by decide +kernel)) rfl (Or.inl rfl) (Nat.le_of_ble_eq_true rfl) ?_
  intro X hC hR
  have hC : zC X g cX5_badness RX5 wsX5_badness rm_X5_badness 2 := hC
  show ZG X g (zE X) 0 0 [(hB, eo 5 [.ref hI, .ref oR, .ref hS, .ref hY]), (hY, eo 4 [.ref aE, .ref aQ, .ref aB, .ref aU, .int (iZ (tc)), .int (iZ (tp)), .long (lZ (td))]), (aE, ei g 50 E), (aQ, ei g 50 Q), (aB, ei g 50 B), (aU, ei g 50 U)] [(0, .ref hB), (1, .int (iZ (p)))] 0 []
  refine z_aload_n hC 0 dX5_badness_0 rfl rfl ?_
  refine z_get hC iX5_badness_5 0 3 rfl rfl (by decide) mX5_badness_f37 rfl dX5_badness_1 ?_
  refine z_iload_n hC 1 dX5_badness_4 rfl rfl ?_
  refine z_vnRi hC 1 (c_X4_hasLine (xl X) g _ _ _ _ _ _ _ _ _ _ _ _ _ (by omega) (by omega)) gX5_badness_X4_hasLine_n78 nm_RX5_78 mX5_badness_iniRX4 mX5_badness_im_X4_hasLine mX5_badness_se_X4_hasLine rfl hd_X4_hasLine_s (by decide) ⟨rfl, rfl⟩ [1, 2, 3, 4, 5] (by decide) rfl 1 4 rfl rfl rfl rfl rfl (Nat.le_of_ble_eq_true rfl) dX5_badness_5 (by decide) ?_
  refine z_if_eq hC 23 dX5_badness_8 (by decide) (b2_r _) (fun c_8 => ?_) (fun c_8 => ?_)
  ·
    have c_8 := b2_f c_8
    refine z_iconst hC dX5_badness_23 ?_
    exact hR _ _ _ _ (by first | exact (if_pos (by omega)).symm | exact (if_neg (by omega)).symm) dX5_badness_24
  ·
    have c_8 := b2_t c_8
    refine z_aload_n hC 0 dX5_badness_11 rfl rfl ?_
    refine z_get hC iX5_badness_5 0 3 rfl rfl (by decide) mX5_badness_f37 rfl dX5_badness_12 ?_
    refine z_getN hC iX5_badness_4 1 2 rfl rfl (by decide) nf_RX5_88 rfl dX5_badness_15 ?_
    refine z_iload_n hC 1 dX5_badness_18 rfl rfl ?_
    refine z_iald hC 4 rfl (by omega) (by decide) dX5_badness_19 ?_
    refine z_goto (tgt := 24) hC dX5_badness_20 (by decide) ?_
    exact hR _ _ _ _ (by first | exact (if_pos (by omega)).symm | exact (if_neg (by omega)).symm) dX5_badness_24
set_option maxRecDepth 20000 in
theorem mX5_classOf_f37 : Cond.fieldLink RX5 37 "BreakSearch" "told" "LBreakSearch$Way;" ∈ wsX5_classOf := by decide +kernel
set_option maxRecDepth 20000 in
theorem iX5_classOf_5 : ∀ w ∈ u_ws RX5 TX5 4, w ∈ wsX5_classOf := by decide +kernel
set_option maxRecDepth 20000 in
theorem mX5_classOf_iniRX4 : Cond.initialized RX4 ∈ wsX5_classOf := by decide +kernel
set_option maxRecDepth 20000 in
theorem mX5_classOf_im_X4_hasLine : Cond.instanceMethod yX4_hasLine ∈ wsX5_classOf := by decide +kernel
set_option maxRecDepth 20000 in
theorem mX5_classOf_se_X4_hasLine : Cond.selects RX4 yX4_hasLine yX4_hasLine ∈ wsX5_classOf := by decide +kernel
set_option maxRecDepth 20000 in
theorem iX5_classOf_4 : ∀ w ∈ u_ws RX4 TX4 7, w ∈ wsX5_classOf := by decide +kernel
abbrev rm_X5_classOf : Room := { frames := 2, cells := 0, slots := 0, locals := 33 }
set_option maxHeartbeats 4000000 in
set_option maxRecDepth 100000 in
theorem c_X5_classOf (l : Launch) (g : zG) (hB hI oR hS : Nat) (hY aE aQ aB aU : Nat) (tc tp td : Int) (E Q B U : Int → Int) (p : Int) (h1 : 0 ≤ tc ∧ tc ≤ 50) (h2 : -2147483648 ≤ p ∧ p ≤ 2147483647) : zMRi l yX5_classOf wsX5_classOf rm_X5_classOf g [(hB, eo 5 [.ref hI, .ref oR, .ref hS, .ref hY]), (hY, eo 4 [.ref aE, .ref aQ, .ref aB, .ref aU, .int (iZ (tc)), .int (iZ (tp)), .long (lZ (td))]), (aE, ei g 50 E), (aQ, ei g 50 Q), (aB, ei g 50 B), (aU, ei g 50 U)] [.ref hB, .int (iZ (p))] (if 0 ≤ p ∧ p < tc then U p else 0) := by
  refine z_beRi (cc := cX5_classOf) (nL := 2) (ret := some .int) (plainFor_of_name (by decide +kernel)) rfl (Or.inl rfl) (Nat.le_of_ble_eq_true rfl) ?_
  intro X hC hR
  have hC : zC X g cX5_classOf RX5 wsX5_classOf rm_X5_classOf 2 := hC
  show ZG X g (zE X) 0 0 [(hB, eo 5 [.ref hI, .ref oR, .ref hS, .ref hY]), (hY, eo 4 [.ref aE, .ref aQ, .ref aB, .ref aU, .int (iZ (tc)), .int (iZ (tp)), .long (lZ (td))]), (aE, ei g 50 E), (aQ, ei g 50 Q), (aB, ei g 50 B), (aU, ei g 50 U)] [(0, .ref hB), (1, .int (iZ (p)))] 0 []
  refine z_aload_n hC 0 dX5_classOf_0 rfl rfl ?_
  refine z_get hC iX5_classOf_5 0 3 rfl rfl (by decide) mX5_classOf_f37 rfl dX5_classOf_1 ?_
  refine z_iload_n hC 1 dX5_classOf_4 rfl rfl ?_
  refine z_vnRi hC 1 (c_X4_hasLine (xl X) g _ _ _ _ _ _ _ _ _ _ _ _ _ (by omega) (by omega)) gX5_classOf_X4_hasLine_n78 nm_RX5_78 mX5_classOf_iniRX4 mX5_classOf_im_X4_hasLine mX5_classOf_se_X4_hasLine rfl hd_X4_hasLine_s (by decide) ⟨rfl, rfl⟩ [1, 2, 3, 4, 5] (by decide) rfl 1 4 rfl rfl rfl rfl rfl (Nat.le_of_ble_eq_true rfl) dX5_classOf_5 (by decide) ?_
  refine z_if_eq hC 23 dX5_classOf_8 (by decide) (b2_r _) (fun c_8 => ?_) (fun c_8 => ?_)
  ·
    have c_8 := b2_f c_8
    refine z_iconst hC dX5_classOf_23 ?_
    exact hR _ _ _ _ (by first | exact (if_pos (by omega)).symm | exact (if_neg (by omega)).symm) dX5_classOf_24
  ·
    have c_8 := b2_t c_8
    refine z_aload_n hC 0 dX5_classOf_11 rfl rfl ?_
    refine z_get hC iX5_classOf_5 0 3 rfl rfl (by decide) mX5_classOf_f37 rfl dX5_classOf_12 ?_
    refine z_getN hC iX5_classOf_4 1 3 rfl rfl (by decide) nf_RX5_91 rfl dX5_classOf_15 ?_
    refine z_iload_n hC 1 dX5_classOf_18 rfl rfl ?_
    refine z_iald hC 5 rfl (by omega) (by decide) dX5_classOf_19 ?_
    refine z_goto (tgt := 24) hC dX5_classOf_20 (by decide) ?_
    exact hR _ _ _ _ (by first | exact (if_pos (by omega)).symm | exact (if_neg (by omega)).symm) dX5_classOf_24
set_option maxRecDepth 20000 in
theorem mX5_lines_f37 : Cond.fieldLink RX5 37 "BreakSearch" "told" "LBreakSearch$Way;" ∈ wsX5_lines := by decide +kernel
set_option maxRecDepth 20000 in
theorem iX5_lines_5 : ∀ w ∈ u_ws RX5 TX5 4, w ∈ wsX5_lines := by decide +kernel
set_option maxRecDepth 20000 in
theorem iX5_lines_4 : ∀ w ∈ u_ws RX4 TX4 7, w ∈ wsX5_lines := by decide +kernel
abbrev rm_X5_lines : Room := { frames := 1, cells := 0, slots := 0, locals := 12 }
set_option maxHeartbeats 4000000 in
set_option maxRecDepth 100000 in
theorem c_X5_lines (l : Launch) (g : zG) (hB hI oR hS : Nat) (hY aE aQ aB aU : Nat) (tc tp td : Int) (E Q B U : Int → Int)  : zMRi l yX5_lines wsX5_lines rm_X5_lines g [(hB, eo 5 [.ref hI, .ref oR, .ref hS, .ref hY]), (hY, eo 4 [.ref aE, .ref aQ, .ref aB, .ref aU, .int (iZ (tc)), .int (iZ (tp)), .long (lZ (td))]), (aE, ei g 50 E), (aQ, ei g 50 Q), (aB, ei g 50 B), (aU, ei g 50 U)] [.ref hB] (tc) := by
  refine z_beRi (cc := cX5_lines) (nL := 1) (ret := some .int) (plainFor_of_name (by decide +kernel)) rfl (Or.inl rfl) (Nat.le_of_ble_eq_true rfl) ?_
  intro X hC hR
  have hC : zC X g cX5_lines RX5 wsX5_lines rm_X5_lines 1 := hC
  show ZG X g (zE X) 0 0 [(hB, eo 5 [.ref hI, .ref oR, .ref hS, .ref hY]), (hY, eo 4 [.ref aE, .ref aQ, .ref aB, .ref aU, .int (iZ (tc)), .int (iZ (tp)), .long (lZ (td))]), (aE, ei g 50 E), (aQ, ei g 50 Q), (aB, ei g 50 B), (aU, ei g 50 U)] [(0, .ref hB)] 0 []
  refine z_aload_n hC 0 dX5_lines_0 rfl rfl ?_
  refine z_get hC iX5_lines_5 0 3 rfl rfl (by decide) mX5_lines_f37 rfl dX5_lines_1 ?_
  refine z_getN hC iX5_lines_4 1 4 rfl rfl (by decide) nf_RX5_71 rfl dX5_lines_4 ?_
  exact hR _ _ _ _ rfl dX5_lines_7
set_option maxRecDepth 20000 in
theorem mX5_pass_f37 : Cond.fieldLink RX5 37 "BreakSearch" "told" "LBreakSearch$Way;" ∈ wsX5_pass := by decide +kernel
set_option maxRecDepth 20000 in
theorem iX5_pass_5 : ∀ w ∈ u_ws RX5 TX5 4, w ∈ wsX5_pass := by decide +kernel
set_option maxRecDepth 20000 in
theorem iX5_pass_4 : ∀ w ∈ u_ws RX4 TX4 7, w ∈ wsX5_pass := by decide +kernel
abbrev rm_X5_pass : Room := { frames := 1, cells := 0, slots := 0, locals := 12 }
set_option maxHeartbeats 4000000 in
set_option maxRecDepth 100000 in
theorem c_X5_pass (l : Launch) (g : zG) (hB hI oR hS : Nat) (hY aE aQ aB aU : Nat) (tc tp td : Int) (E Q B U : Int → Int)  : zMRi l yX5_pass wsX5_pass rm_X5_pass g [(hB, eo 5 [.ref hI, .ref oR, .ref hS, .ref hY]), (hY, eo 4 [.ref aE, .ref aQ, .ref aB, .ref aU, .int (iZ (tc)), .int (iZ (tp)), .long (lZ (td))]), (aE, ei g 50 E), (aQ, ei g 50 Q), (aB, ei g 50 B), (aU, ei g 50 U)] [.ref hB] (tp) := by
  refine z_beRi (cc := cX5_pass) (nL := 1) (ret := some .int) (plainFor_of_name (by decide +kernel)) rfl (Or.inl rfl) (Nat.le_of_ble_eq_true rfl) ?_
  intro X hC hR
  have hC : zC X g cX5_pass RX5 wsX5_pass rm_X5_pass 1 := hC
  show ZG X g (zE X) 0 0 [(hB, eo 5 [.ref hI, .ref oR, .ref hS, .ref hY]), (hY, eo 4 [.ref aE, .ref aQ, .ref aB, .ref aU, .int (iZ (tc)), .int (iZ (tp)), .long (lZ (td))]), (aE, ei g 50 E), (aQ, ei g 50 Q), (aB, ei g 50 B), (aU, ei g 50 U)] [(0, .ref hB)] 0 []
  refine z_aload_n hC 0 dX5_pass_0 rfl rfl ?_
  refine z_get hC iX5_pass_5 0 3 rfl rfl (by decide) mX5_pass_f37 rfl dX5_pass_1 ?_
  refine z_getN hC iX5_pass_4 1 5 rfl rfl (by decide) nf_RX5_75 rfl dX5_pass_4 ?_
  exact hR _ _ _ _ rfl dX5_pass_7
set_option maxRecDepth 20000 in
theorem mX5_demerits_f37 : Cond.fieldLink RX5 37 "BreakSearch" "told" "LBreakSearch$Way;" ∈ wsX5_demerits := by decide +kernel
set_option maxRecDepth 20000 in
theorem iX5_demerits_5 : ∀ w ∈ u_ws RX5 TX5 4, w ∈ wsX5_demerits := by decide +kernel
set_option maxRecDepth 20000 in
theorem iX5_demerits_4 : ∀ w ∈ u_ws RX4 TX4 7, w ∈ wsX5_demerits := by decide +kernel
abbrev rm_X5_demerits : Room := { frames := 1, cells := 0, slots := 0, locals := 12 }
set_option maxHeartbeats 4000000 in
set_option maxRecDepth 100000 in
theorem c_X5_demerits (l : Launch) (g : zG) (hB hI oR hS : Nat) (hY aE aQ aB aU : Nat) (tc tp td : Int) (E Q B U : Int → Int)  : zMRl l yX5_demerits wsX5_demerits rm_X5_demerits g [(hB, eo 5 [.ref hI, .ref oR, .ref hS, .ref hY]), (hY, eo 4 [.ref aE, .ref aQ, .ref aB, .ref aU, .int (iZ (tc)), .int (iZ (tp)), .long (lZ (td))]), (aE, ei g 50 E), (aQ, ei g 50 Q), (aB, ei g 50 B), (aU, ei g 50 U)] [.ref hB] (td) := by
  refine z_beRl (cc := cX5_demerits) (nL := 1) (plainFor_of_name (by decide +kernel)) rfl (Nat.le_of_ble_eq_true rfl) ?_
  intro X hC hR
  have hC : zC X g cX5_demerits RX5 wsX5_demerits rm_X5_demerits 1 := hC
  show ZG X g (zE X) 0 0 [(hB, eo 5 [.ref hI, .ref oR, .ref hS, .ref hY]), (hY, eo 4 [.ref aE, .ref aQ, .ref aB, .ref aU, .int (iZ (tc)), .int (iZ (tp)), .long (lZ (td))]), (aE, ei g 50 E), (aQ, ei g 50 Q), (aB, ei g 50 B), (aU, ei g 50 U)] [(0, .ref hB)] 0 []
  refine z_aload_n hC 0 dX5_demerits_0 rfl rfl ?_
  refine z_get hC iX5_demerits_5 0 3 rfl rfl (by decide) mX5_demerits_f37 rfl dX5_demerits_1 ?_
  refine z_getN hC iX5_demerits_4 1 6 rfl rfl (by decide) nf_RX5_94 rfl dX5_demerits_4 ?_
  exact hR _ _ _ _ rfl dX5_demerits_7
set_option maxRecDepth 20000 in
theorem mX5_clear_f10 : Cond.fieldLink RX5 10 "BreakSearch" "items" "LBreakSearch$Items;" ∈ wsX5_clear := by decide +kernel
set_option maxRecDepth 20000 in
theorem iX5_clear_5 : ∀ w ∈ u_ws RX5 TX5 4, w ∈ wsX5_clear := by decide +kernel
set_option maxRecDepth 20000 in
theorem iX5_clear_0 : ∀ w ∈ u_ws RX0 TX0 8, w ∈ wsX5_clear := by decide +kernel
abbrev rm_X5_clear : Room := { frames := 1, cells := 0, slots := 0, locals := 12 }
set_option maxHeartbeats 4000000 in
set_option maxRecDepth 100000 in
theorem c_X5_clear (l : Launch) (g : zG) (hB oR hS hY : Nat) (hI aK aV aP aM aL aS aH : Nat) (n : Int) (K V P M LB SB HB : Int → Int)  : zMWi (S := Unit) l yX5_clear wsX5_clear rm_X5_clear g [(hB, eo 5 [.ref hI, .ref oR, .ref hS, .ref hY]), (hI, eo 0 [.ref aK, .ref aV, .ref aP, .ref aM, .ref aL, .ref aS, .ref aH, .int (iZ (n))]), (aK, ei g 100 K), (aV, ei g 100 V), (aP, ei g 100 P), (aM, ez g 100 M), (aL, ei g 101 LB), (aS, ei g 101 SB), (aH, ei g 101 HB)] [.ref hB] (fun _ => True) (fun u => n) (fun u => [(hB, eo 5 [.ref hI, .ref oR, .ref hS, .ref hY]), (hI, eo 0 [.ref aK, .ref aV, .ref aP, .ref aM, .ref aL, .ref aS, .ref aH, .int (iZ (0))]), (aK, ei g 100 K), (aV, ei g 100 V), (aP, ei g 100 P), (aM, ez g 100 M), (aL, ei g 101 LB), (aS, ei g 101 SB), (aH, ei g 101 HB)]) 0 0 := by
  refine z_beWi (cc := cX5_clear) (nL := 2) (ret := some .int) (plainFor_of_name (by decide +kernel)) rfl (Or.inl rfl) (Nat.le_of_ble_eq_true rfl) ?_
  intro X A hC hN hR
  have hC : zC X g cX5_clear RX5 wsX5_clear rm_X5_clear 2 := hC
  show ZG X g (zD X A) 0 0 [(hB, eo 5 [.ref hI, .ref oR, .ref hS, .ref hY]), (hI, eo 0 [.ref aK, .ref aV, .ref aP, .ref aM, .ref aL, .ref aS, .ref aH, .int (iZ (n))]), (aK, ei g 100 K), (aV, ei g 100 V), (aP, ei g 100 P), (aM, ez g 100 M), (aL, ei g 101 LB), (aS, ei g 101 SB), (aH, ei g 101 HB)] [(0, .ref hB)] 0 []
  refine z_aload_n hC 0 dX5_clear_0 rfl rfl ?_
  refine z_get hC iX5_clear_5 0 0 rfl rfl (by decide) mX5_clear_f10 rfl dX5_clear_1 ?_
  refine z_getN hC iX5_clear_0 1 7 rfl rfl (by decide) nf_RX5_98 rfl dX5_clear_4 ?_
  refine z_istore_n hC (lv' := [(1, _), (0, _)]) dX5_clear_7 rfl (by decide) rfl ?_
  refine z_aload_n hC 1 dX5_clear_8 rfl rfl ?_
  refine z_get hC iX5_clear_5 0 0 rfl rfl (by decide) mX5_clear_f10 rfl dX5_clear_9 ?_
  refine z_iconst hC dX5_clear_12 ?_
  refine z_putN hC iX5_clear_0 tyX0 tyX0_ok nmX0 1 7 rfl rfl (by decide) nf_RX5_98 rfl rfl rfl (Nat.le_of_ble_eq_true rfl) dX5_clear_13 (ws' := [_, _, _, _, _, _, _, _, _]) rfl ?_
  refine z_iload_n hC 0 dX5_clear_16 rfl rfl ?_
  exact hR () _ _ _ [0, 1, 2, 3, 4, 5, 6, 7, 8] _ trivial rfl (by decide) rfl dX5_clear_17
set_option maxRecDepth 20000 in
theorem mX5_run_f37 : Cond.fieldLink RX5 37 "BreakSearch" "told" "LBreakSearch$Way;" ∈ wsX5_run := by decide +kernel
set_option maxRecDepth 20000 in
theorem iX5_run_5 : ∀ w ∈ u_ws RX5 TX5 4, w ∈ wsX5_run := by decide +kernel
set_option maxRecDepth 20000 in
theorem mX5_run_iniRX4 : Cond.initialized RX4 ∈ wsX5_run := by decide +kernel
set_option maxRecDepth 20000 in
theorem mX5_run_im_X4_forget : Cond.instanceMethod yX4_forget ∈ wsX5_run := by decide +kernel
set_option maxRecDepth 20000 in
theorem mX5_run_se_X4_forget : Cond.selects RX4 yX4_forget yX4_forget ∈ wsX5_run := by decide +kernel
set_option maxRecDepth 20000 in
theorem mX5_run_f30 : Cond.fieldLink RX5 30 "BreakSearch" "search" "LBreakSearch$Search;" ∈ wsX5_run := by decide +kernel
set_option maxRecDepth 20000 in
theorem mX5_run_iniRX3 : Cond.initialized RX3 ∈ wsX5_run := by decide +kernel
set_option maxRecDepth 20000 in
theorem mX5_run_im_X3_findsWay : Cond.instanceMethod yX3_findsWay ∈ wsX5_run := by decide +kernel
set_option maxRecDepth 20000 in
theorem mX5_run_se_X3_findsWay : Cond.selects RX3 yX3_findsWay yX3_findsWay ∈ wsX5_run := by decide +kernel
set_option maxRecDepth 20000 in
theorem mX5_run_im_X3_tell : Cond.instanceMethod yX3_tell ∈ wsX5_run := by decide +kernel
set_option maxRecDepth 20000 in
theorem mX5_run_se_X3_tell : Cond.selects RX3 yX3_tell yX3_tell ∈ wsX5_run := by decide +kernel
set_option maxRecDepth 20000 in
theorem iX5_run_4 : ∀ w ∈ u_ws RX4 TX4 7, w ∈ wsX5_run := by decide +kernel
abbrev rm_X5_run : Room := { frames := 8, cells := 0, slots := 0, locals := 191 }
set_option maxHeartbeats 4000000 in
set_option maxRecDepth 100000 in
theorem c_X5_run (l : Launch) (g : zG) (hB : Nat) (hS aC aN : Nat) (ps : Int) (C N : Int → Int) (hI aK aV aP aM aL aS aH : Nat) (n : Int) (K V P M LB SB HB : Int → Int) (oR aW aT : Nat) (W T : Int → Int) (hL : Nat) (k ug lo sd : Int) (hY aE aQ aB aU : Nat) (tc tp td : Int) (E Q B U : Int → Int) (h1 : zCi n K V P M LB SB HB W T) : zMWi (S := (Int → Int) × (Int → Int) × (Int) × (Int) × (Int) × (Int) × (Int) × (Int → Int) × (Int → Int) × (Int → Int) × (Int → Int) × (Int) × (Int) × (Int) × (Int)) l yX5_run wsX5_run rm_X5_run g [(hB, eo 5 [.ref hI, .ref oR, .ref hS, .ref hY]), (hS, eo 3 [.ref hI, .ref oR, .ref hL, .ref aC, .ref aN, .int (iZ (ps))]), (aC, el g 20808 C), (aN, eb g 20808 N), (hI, eo 0 [.ref aK, .ref aV, .ref aP, .ref aM, .ref aL, .ref aS, .ref aH, .int (iZ (n))]), (aK, ei g 100 K), (aV, ei g 100 V), (aP, ei g 100 P), (aM, ez g 100 M), (aL, ei g 101 LB), (aS, ei g 101 SB), (aH, ei g 101 HB), (oR, eo 2 [.ref aW, .ref aT]), (aW, ei g 50 W), (aT, ei g 3 T), (hL, eo 1 [.int (iZ (k)), .int (iZ (ug)), .int (iZ (lo)), .int (iZ (sd))]), (hY, eo 4 [.ref aE, .ref aQ, .ref aB, .ref aU, .int (iZ (tc)), .int (iZ (tp)), .long (lZ (td))]), (aE, ei g 50 E), (aQ, ei g 50 Q), (aB, ei g 50 B), (aU, ei g 50 U)] [.ref hB] (fun u => zRun n K V P M LB SB HB W T u.2.2.2.2.2.2.2.2.2.2.2.1 u.2.2.2.2.2.2.2.2.2.2.2.2.1 u.2.2.2.2.2.2.2.2.2.2.2.2.2.1 u.2.2.2.2.2.2.2.1 u.2.2.2.2.2.2.2.2.1 u.2.2.2.2.2.2.2.2.2.1 u.2.2.2.2.2.2.2.2.2.2.1 ∧ u.2.2.2.2.2.2.2.2.2.2.2.2.2.2 = u.2.2.2.2.2.2.2.2.2.2.2.1) (fun u => u.2.2.2.2.2.2.2.2.2.2.2.2.2.2) (fun u => [(hB, eo 5 [.ref hI, .ref oR, .ref hS, .ref hY]), (hS, eo 3 [.ref hI, .ref oR, .ref hL, .ref aC, .ref aN, .int (iZ (u.2.2.1))]), (aC, el g 20808 u.1), (aN, eb g 20808 u.2.1), (hI, eo 0 [.ref aK, .ref aV, .ref aP, .ref aM, .ref aL, .ref aS, .ref aH, .int (iZ (n))]), (aK, ei g 100 K), (aV, ei g 100 V), (aP, ei g 100 P), (aM, ez g 100 M), (aL, ei g 101 LB), (aS, ei g 101 SB), (aH, ei g 101 HB), (oR, eo 2 [.ref aW, .ref aT]), (aW, ei g 50 W), (aT, ei g 3 T), (hL, eo 1 [.int (iZ (u.2.2.2.1)), .int (iZ (u.2.2.2.2.1)), .int (iZ (u.2.2.2.2.2.1)), .int (iZ (u.2.2.2.2.2.2.1))]), (hY, eo 4 [.ref aE, .ref aQ, .ref aB, .ref aU, .int (iZ (u.2.2.2.2.2.2.2.2.2.2.2.1)), .int (iZ (u.2.2.2.2.2.2.2.2.2.2.2.2.1)), .long (lZ (u.2.2.2.2.2.2.2.2.2.2.2.2.2.1))]), (aE, ei g 50 u.2.2.2.2.2.2.2.1), (aQ, ei g 50 u.2.2.2.2.2.2.2.2.1), (aB, ei g 50 u.2.2.2.2.2.2.2.2.2.1), (aU, ei g 50 u.2.2.2.2.2.2.2.2.2.2.1)]) 0 0 := by
  refine z_beWi (cc := cX5_run) (nL := 2) (ret := some .int) (plainFor_of_name (by decide +kernel)) rfl (Or.inl rfl) (Nat.le_of_ble_eq_true rfl) ?_
  intro X A hC hN hR
  have hC : zC X g cX5_run RX5 wsX5_run rm_X5_run 2 := hC
  show ZG X g (zD X A) 0 0 [(hB, eo 5 [.ref hI, .ref oR, .ref hS, .ref hY]), (hS, eo 3 [.ref hI, .ref oR, .ref hL, .ref aC, .ref aN, .int (iZ (ps))]), (aC, el g 20808 C), (aN, eb g 20808 N), (hI, eo 0 [.ref aK, .ref aV, .ref aP, .ref aM, .ref aL, .ref aS, .ref aH, .int (iZ (n))]), (aK, ei g 100 K), (aV, ei g 100 V), (aP, ei g 100 P), (aM, ez g 100 M), (aL, ei g 101 LB), (aS, ei g 101 SB), (aH, ei g 101 HB), (oR, eo 2 [.ref aW, .ref aT]), (aW, ei g 50 W), (aT, ei g 3 T), (hL, eo 1 [.int (iZ (k)), .int (iZ (ug)), .int (iZ (lo)), .int (iZ (sd))]), (hY, eo 4 [.ref aE, .ref aQ, .ref aB, .ref aU, .int (iZ (tc)), .int (iZ (tp)), .long (lZ (td))]), (aE, ei g 50 E), (aQ, ei g 50 Q), (aB, ei g 50 B), (aU, ei g 50 U)] [(0, .ref hB)] 0 []
  refine z_aload_n hC 0 dX5_run_0 rfl rfl ?_
  refine z_get hC iX5_run_5 0 3 rfl rfl (by decide) mX5_run_f37 rfl dX5_run_1 ?_
  refine z_vnWv (wr := [_, _, _, _, _, _, _, _, _, _, _, _, _, _, _, _]) hC 0 (c_X4_forget (xl X) g _ _ _ _ _ _ _ _ _ _ _ _) gX5_run_X4_forget_n60 nm_RX5_60 mX5_run_iniRX4 mX5_run_im_X4_forget mX5_run_se_X4_forget rfl hd_X4_forget_s (by decide) ⟨rfl, rfl⟩ [16, 17, 18, 19, 20] [0, 1, 2, 3, 4, 5, 6, 7, 8, 9, 10, 11, 12, 13, 14, 15] (by decide) rfl rfl (by decide) (by decide) 16 4 rfl rfl rfl rfl rfl (Nat.le_of_ble_eq_true rfl) dX5_run_4 (by decide) (fun u_4 p_4 => ?_)
  refine z_ws (ws' := [(hB, eo 5 [.ref hI, .ref oR, .ref hS, .ref hY]), (hS, eo 3 [.ref hI, .ref oR, .ref hL, .ref aC, .ref aN, .int (iZ (ps))]), (aC, el g 20808 C), (aN, eb g 20808 N), (hI, eo 0 [.ref aK, .ref aV, .ref aP, .ref aM, .ref aL, .ref aS, .ref aH, .int (iZ (n))]), (aK, ei g 100 K), (aV, ei g 100 V), (aP, ei g 100 P), (aM, ez g 100 M), (aL, ei g 101 LB), (aS, ei g 101 SB), (aH, ei g 101 HB), (oR, eo 2 [.ref aW, .ref aT]), (aW, ei g 50 W), (aT, ei g 3 T), (hL, eo 1 [.int (iZ (k)), .int (iZ (ug)), .int (iZ (lo)), .int (iZ (sd))]), (hY, eo 4 [.ref aE, .ref aQ, .ref aB, .ref aU, .int (iZ (0)), .int (iZ (0)), .long (lZ (0))]), (aE, ei g 50 E), (aQ, ei g 50 Q), (aB, ei g 50 B), (aU, ei g 50 U)]) [0, 1, 2, 3, 4, 5, 6, 7, 8, 9, 10, 11, 12, 13, 14, 15, 16, 17, 18, 19, 20] (by decide) rfl ?_
  refine z_iconst hC dX5_run_7 ?_
  refine z_istore_n hC (lv' := [(1, _), (0, _)]) dX5_run_8 rfl (by decide) rfl ?_
  have L9 : ∀ (fu : Nat) (p : Int) (C2 N2 : Int → Int) (s2 l2 u2 k2 d2 : Int), (1 ≤ p ∧ p ≤ 4) → (∀ q, 1 ≤ q → q < p → ¬ zHas n K V P M LB SB HB W T q 0) → (5 - p).toNat < fu → ZG X g (zD X A) 0 0 [(hB, eo 5 [.ref hI, .ref oR, .ref hS, .ref hY]), (hS, eo 3 [.ref hI, .ref oR, .ref hL, .ref aC, .ref aN, .int (iZ (s2))]), (aC, el g 20808 C2), (aN, eb g 20808 N2), (hI, eo 0 [.ref aK, .ref aV, .ref aP, .ref aM, .ref aL, .ref aS, .ref aH, .int (iZ (n))]), (aK, ei g 100 K), (aV, ei g 100 V), (aP, ei g 100 P), (aM, ez g 100 M), (aL, ei g 101 LB), (aS, ei g 101 SB), (aH, ei g 101 HB), (oR, eo 2 [.ref aW, .ref aT]), (aW, ei g 50 W), (aT, ei g 3 T), (hL, eo 1 [.int (iZ (l2)), .int (iZ (u2)), .int (iZ (k2)), .int (iZ (d2))]), (hY, eo 4 [.ref aE, .ref aQ, .ref aB, .ref aU, .int (iZ (0)), .int (iZ (0)), .long (lZ (0))]), (aE, ei g 50 E), (aQ, ei g 50 Q), (aB, ei g 50 B), (aU, ei g 50 U)] [(1, .int (iZ (p))), (0, .ref hB)] 9 [] := by
    intro fu
    induction fu with
    | zero => intro p C2 N2 s2 l2 u2 k2 d2; intros; omega
    | succ fu ih_9 =>
      intro p C2 N2 s2 l2 u2 k2 d2 hp hq hn
      refine z_iload_n hC 0 dX5_run_9 rfl rfl ?_
      refine z_iconst hC dX5_run_10 ?_
      refine z_icmp_gt hC 51 dX5_run_11 (by decide) (by omega) (by omega) (fun c_11 => ?_) (fun c_11 => ?_)
      ·
        refine z_iconst hC dX5_run_51 ?_
        exact hR (C2, N2, s2, l2, u2, k2, d2, E, Q, B, U, 0, 0, 0, 0) _ _ _ [0, 1, 2, 3, 4, 5, 6, 7, 8, 9, 10, 11, 12, 13, 14, 15, 16, 17, 18, 19, 20] _ ⟨Or.inr ⟨fun q g1 g2 => hq q g1 (by omega), rfl, rfl, rfl⟩, rfl⟩ rfl (by decide) rfl dX5_run_52
      ·
        have he := zCi_env h1 (p := p) (ex := 0) (by omega) (by omega)
        refine z_aload_n hC 1 dX5_run_14 rfl rfl ?_
        refine z_get hC iX5_run_5 0 2 rfl rfl (by decide) mX5_run_f30 rfl dX5_run_15 ?_
        refine z_iload_n hC 0 dX5_run_18 rfl rfl ?_
        refine z_iconst hC dX5_run_19 ?_
        refine z_vnWi (wr := [_, _, _, _, _, _]) hC 2 (c_X3_findsWay (xl X) g _ _ _ _ _ _ _ _ _ _ _ _ _ _ _ _ _ _ _ _ _ _ _ _ _ _ _ _ _ _ _ _ _ ((zMt p)) _ ((zDq n K V P M LB SB HB W T p 0)) he) gX5_run_X3_findsWay_n63 nm_RX5_63 mX5_run_iniRX3 mX5_run_im_X3_findsWay mX5_run_se_X3_findsWay rfl hd_X3_findsWay_s (by decide) ⟨rfl, rfl⟩ [1, 2, 3, 4, 5, 6, 7, 8, 9, 10, 11, 12, 13, 14, 15] [0, 16, 17, 18, 19, 20] (by decide) rfl rfl (by decide) (by decide) 1 3 rfl rfl rfl rfl rfl (Nat.le_of_ble_eq_true rfl) dX5_run_20 (by decide) (fun u_20 p_20 => ?_)
        obtain ⟨C1_20, N1_20, l1_20, u1_20, k1_20, d1_20, r1_20⟩ := u_20
        try dsimp only at p_20
        refine z_ws (ws' := [(hB, eo 5 [.ref hI, .ref oR, .ref hS, .ref hY]), (hS, eo 3 [.ref hI, .ref oR, .ref hL, .ref aC, .ref aN, .int (iZ (p))]), (aC, el g 20808 C1_20), (aN, eb g 20808 N1_20), (hI, eo 0 [.ref aK, .ref aV, .ref aP, .ref aM, .ref aL, .ref aS, .ref aH, .int (iZ (n))]), (aK, ei g 100 K), (aV, ei g 100 V), (aP, ei g 100 P), (aM, ez g 100 M), (aL, ei g 101 LB), (aS, ei g 101 SB), (aH, ei g 101 HB), (oR, eo 2 [.ref aW, .ref aT]), (aW, ei g 50 W), (aT, ei g 3 T), (hL, eo 1 [.int (iZ (l1_20)), .int (iZ (u1_20)), .int (iZ (k1_20)), .int (iZ (d1_20))]), (hY, eo 4 [.ref aE, .ref aQ, .ref aB, .ref aU, .int (iZ (0)), .int (iZ (0)), .long (lZ (0))]), (aE, ei g 50 E), (aQ, ei g 50 Q), (aB, ei g 50 B), (aU, ei g 50 U)]) [0, 6, 7, 8, 9, 10, 11, 12, 13, 14, 15, 16, 17, 18, 19, 20, 1, 2, 3, 4, 5] (by decide) rfl ?_
        refine z_top (b := r1_20) rfl ?_
        obtain ⟨hTab, hr⟩ := p_20
        refine z_top hr ?_
        refine z_if_eq hC 45 dX5_run_23 (by decide) (b2_r _) (fun c_23 => ?_) (fun c_23 => ?_)
        ·
          have c_23 := b2_f c_23
          refine z_iinc hC (lv' := [(1, _), (0, _)]) 0 dX5_run_45 rfl (by decide) rfl ?_
          refine z_goto (tgt := 9) hC dX5_run_48 (by decide) ?_
          exact ih_9 (p + 1) _ _ _ _ _ _ _ (by omega) (fun q g1 g2 => by (by_cases e : q = p); (rw [e]; exact c_23); (exact hq q g1 (by omega))) (by omega)
        ·
          have c_23 := b2_t c_23
          refine z_aload_n hC 1 dX5_run_26 rfl rfl ?_
          refine z_get hC iX5_run_5 0 2 rfl rfl (by decide) mX5_run_f30 rfl dX5_run_27 ?_
          refine z_aload_n hC 1 dX5_run_30 rfl rfl ?_
          refine z_get hC iX5_run_5 0 3 rfl rfl (by decide) mX5_run_f37 rfl dX5_run_31 ?_
          refine z_vnWv (wr := [_]) hC 1 (c_X3_tell (xl X) g _ _ _ _ _ _ _ _ _ _ _ _ _ _ _ _ _ _ _ _ _ _ _ _ _ _ _ _ _ _ _ _ _ _ _ _ _ _ _ _ _ _ _ _ ((zMt p)) 0 ((zDq n K V P M LB SB HB W T p 0)) he hTab c_23) gX5_run_X3_tell_n67 nm_RX5_67 mX5_run_iniRX3 mX5_run_im_X3_tell mX5_run_se_X3_tell rfl hd_X3_tell_s (by decide) ⟨rfl, rfl⟩ [1, 2, 3, 4, 5, 6, 7, 8, 9, 10, 11, 12, 13, 14, 15, 16, 17, 18, 19, 20] [0] (by decide) rfl rfl (by decide) (by decide) 1 3 rfl rfl rfl rfl rfl (Nat.le_of_ble_eq_true rfl) dX5_run_34 (by decide) (fun u_34 p_34 => ?_)
          obtain ⟨l1_34, u1_34, k1_34, d1_34, E1_34, Q1_34, B1_34, U1_34, c1_34⟩ := u_34
          try dsimp only at p_34
          refine z_ws (ws' := [(hB, eo 5 [.ref hI, .ref oR, .ref hS, .ref hY]), (hS, eo 3 [.ref hI, .ref oR, .ref hL, .ref aC, .ref aN, .int (iZ (p))]), (aC, el g 20808 C1_20), (aN, eb g 20808 N1_20), (hI, eo 0 [.ref aK, .ref aV, .ref aP, .ref aM, .ref aL, .ref aS, .ref aH, .int (iZ (n))]), (aK, ei g 100 K), (aV, ei g 100 V), (aP, ei g 100 P), (aM, ez g 100 M), (aL, ei g 101 LB), (aS, ei g 101 SB), (aH, ei g 101 HB), (oR, eo 2 [.ref aW, .ref aT]), (aW, ei g 50 W), (aT, ei g 3 T), (hL, eo 1 [.int (iZ (l1_34)), .int (iZ (u1_34)), .int (iZ (k1_34)), .int (iZ (d1_34))]), (hY, eo 4 [.ref aE, .ref aQ, .ref aB, .ref aU, .int (iZ (c1_34)), .int (iZ (p)), .long (lZ ((zVL ((zDq n K V P M LB SB HB W T p 0)) 0 (-1) 0).1))]), (aE, ei g 50 E1_34), (aQ, ei g 50 Q1_34), (aB, ei g 50 B1_34), (aU, ei g 50 U1_34)]) [0, 1, 2, 3, 4, 5, 6, 7, 8, 9, 10, 11, 12, 13, 14, 15, 16, 17, 18, 19, 20] (by decide) rfl ?_
          refine z_aload_n hC 1 dX5_run_37 rfl rfl ?_
          refine z_get hC iX5_run_5 0 3 rfl rfl (by decide) mX5_run_f37 rfl dX5_run_38 ?_
          refine z_getN hC iX5_run_4 16 4 rfl rfl (by decide) nf_RX5_71 rfl dX5_run_41 ?_
          exact hR (C1_20, N1_20, p, l1_34, u1_34, k1_34, d1_34, E1_34, Q1_34, B1_34, U1_34, c1_34, p, (zVL ((zDq n K V P M LB SB HB W T p 0)) 0 (-1) 0).1, c1_34) _ _ _ [0, 1, 2, 3, 4, 5, 6, 7, 8, 9, 10, 11, 12, 13, 14, 15, 16, 17, 18, 19, 20] _ ⟨Or.inl ⟨p, by omega, hq, rfl, c_23, p_34.1, rfl, p_34.2⟩, rfl⟩ rfl (by decide) rfl dX5_run_44
  exact L9 _ 1 _ _ _ _ _ _ _ (by omega) (fun q g1 g2 => by omega) (Nat.lt_succ_self _)
set_option maxRecDepth 20000 in
theorem mX5_loose_f37 : Cond.fieldLink RX5 37 "BreakSearch" "told" "LBreakSearch$Way;" ∈ wsX5_loose := by decide +kernel
set_option maxRecDepth 20000 in
theorem iX5_loose_5 : ∀ w ∈ u_ws RX5 TX5 4, w ∈ wsX5_loose := by decide +kernel
set_option maxRecDepth 20000 in
theorem iX5_loose_4 : ∀ w ∈ u_ws RX4 TX4 7, w ∈ wsX5_loose := by decide +kernel
set_option maxRecDepth 20000 in
theorem mX5_loose_f30 : Cond.fieldLink RX5 30 "BreakSearch" "search" "LBreakSearch$Search;" ∈ wsX5_loose := by decide +kernel
set_option maxRecDepth 20000 in
theorem mX5_loose_iniRX3 : Cond.initialized RX3 ∈ wsX5_loose := by decide +kernel
set_option maxRecDepth 20000 in
theorem mX5_loose_im_X3_findsWay : Cond.instanceMethod yX3_findsWay ∈ wsX5_loose := by decide +kernel
set_option maxRecDepth 20000 in
theorem mX5_loose_se_X3_findsWay : Cond.selects RX3 yX3_findsWay yX3_findsWay ∈ wsX5_loose := by decide +kernel
set_option maxRecDepth 20000 in
theorem mX5_loose_im_X3_tell : Cond.instanceMethod yX3_tell ∈ wsX5_loose := by decide +kernel
set_option maxRecDepth 20000 in
theorem mX5_loose_se_X3_tell : Cond.selects RX3 yX3_tell yX3_tell ∈ wsX5_loose := by decide +kernel
abbrev rm_X5_loose : Room := { frames := 8, cells := 0, slots := 0, locals := 191 }
set_option maxHeartbeats 4000000 in
set_option maxRecDepth 100000 in
theorem c_X5_loose (l : Launch) (g : zG) (hB : Nat) (hS aC aN : Nat) (ps : Int) (C N : Int → Int) (hI aK aV aP aM aL aS aH : Nat) (n : Int) (K V P M LB SB HB : Int → Int) (oR aW aT : Nat) (W T : Int → Int) (hL : Nat) (k ug lo sd : Int) (hY aE aQ aB aU : Nat) (tc tp td : Int) (E Q B U : Int → Int) (x : Int) (h1 : zCi n K V P M LB SB HB W T) (h2 : -2147483648 ≤ x ∧ x ≤ 2147483647) (h3 : (0 ≤ tc ∧ tc ≤ 50) ∧ (¬ tc = 0 → 1 ≤ tp ∧ tp ≤ 3)) : zMWi (S := (Int → Int) × (Int → Int) × (Int) × (Int) × (Int) × (Int) × (Int) × (Int → Int) × (Int → Int) × (Int → Int) × (Int → Int) × (Int) × (Int) × (Int) × (Int)) l yX5_loose wsX5_loose rm_X5_loose g [(hB, eo 5 [.ref hI, .ref oR, .ref hS, .ref hY]), (hS, eo 3 [.ref hI, .ref oR, .ref hL, .ref aC, .ref aN, .int (iZ (ps))]), (aC, el g 20808 C), (aN, eb g 20808 N), (hI, eo 0 [.ref aK, .ref aV, .ref aP, .ref aM, .ref aL, .ref aS, .ref aH, .int (iZ (n))]), (aK, ei g 100 K), (aV, ei g 100 V), (aP, ei g 100 P), (aM, ez g 100 M), (aL, ei g 101 LB), (aS, ei g 101 SB), (aH, ei g 101 HB), (oR, eo 2 [.ref aW, .ref aT]), (aW, ei g 50 W), (aT, ei g 3 T), (hL, eo 1 [.int (iZ (k)), .int (iZ (ug)), .int (iZ (lo)), .int (iZ (sd))]), (hY, eo 4 [.ref aE, .ref aQ, .ref aB, .ref aU, .int (iZ (tc)), .int (iZ (tp)), .long (lZ (td))]), (aE, ei g 50 E), (aQ, ei g 50 Q), (aB, ei g 50 B), (aU, ei g 50 U)] [.ref hB, .int (iZ (x))] (fun u => ((¬ (1 ≤ x ∧ x ≤ 50) ∨ tc = 0) ∧ u.2.2.2.2.2.2.2.1 = E ∧ u.2.2.2.2.2.2.2.2.1 = Q ∧ u.2.2.2.2.2.2.2.2.2.1 = B ∧ u.2.2.2.2.2.2.2.2.2.2.1 = U ∧ u.2.2.2.2.2.2.2.2.2.2.2.1 = tc ∧ u.2.2.2.2.2.2.2.2.2.2.2.2.1 = tp ∧ u.2.2.2.2.2.2.2.2.2.2.2.2.2.1 = td ∧ u.2.2.2.2.2.2.2.2.2.2.2.2.2.2 = -1) ∨ ((1 ≤ x ∧ x ≤ 50) ∧ ¬ tc = 0 ∧ ¬ zHas n K V P M LB SB HB W T tp x ∧ u.2.2.2.2.2.2.2.1 = E ∧ u.2.2.2.2.2.2.2.2.1 = Q ∧ u.2.2.2.2.2.2.2.2.2.1 = B ∧ u.2.2.2.2.2.2.2.2.2.2.1 = U ∧ u.2.2.2.2.2.2.2.2.2.2.2.1 = tc ∧ u.2.2.2.2.2.2.2.2.2.2.2.2.1 = tp ∧ u.2.2.2.2.2.2.2.2.2.2.2.2.2.1 = td ∧ u.2.2.2.2.2.2.2.2.2.2.2.2.2.2 = 0) ∨ ((1 ≤ x ∧ x ≤ 50) ∧ ¬ tc = 0 ∧ zTold n K V P M LB SB HB W T tp x u.2.2.2.2.2.2.2.2.2.2.2.1 u.2.2.2.2.2.2.2.2.2.2.2.2.2.1 u.2.2.2.2.2.2.2.1 u.2.2.2.2.2.2.2.2.1 u.2.2.2.2.2.2.2.2.2.1 u.2.2.2.2.2.2.2.2.2.2.1 ∧ u.2.2.2.2.2.2.2.2.2.2.2.2.1 = tp ∧ u.2.2.2.2.2.2.2.2.2.2.2.2.2.2 = 1)) (fun u => u.2.2.2.2.2.2.2.2.2.2.2.2.2.2) (fun u => [(hB, eo 5 [.ref hI, .ref oR, .ref hS, .ref hY]), (hS, eo 3 [.ref hI, .ref oR, .ref hL, .ref aC, .ref aN, .int (iZ (u.2.2.1))]), (aC, el g 20808 u.1), (aN, eb g 20808 u.2.1), (hI, eo 0 [.ref aK, .ref aV, .ref aP, .ref aM, .ref aL, .ref aS, .ref aH, .int (iZ (n))]), (aK, ei g 100 K), (aV, ei g 100 V), (aP, ei g 100 P), (aM, ez g 100 M), (aL, ei g 101 LB), (aS, ei g 101 SB), (aH, ei g 101 HB), (oR, eo 2 [.ref aW, .ref aT]), (aW, ei g 50 W), (aT, ei g 3 T), (hL, eo 1 [.int (iZ (u.2.2.2.1)), .int (iZ (u.2.2.2.2.1)), .int (iZ (u.2.2.2.2.2.1)), .int (iZ (u.2.2.2.2.2.2.1))]), (hY, eo 4 [.ref aE, .ref aQ, .ref aB, .ref aU, .int (iZ (u.2.2.2.2.2.2.2.2.2.2.2.1)), .int (iZ (u.2.2.2.2.2.2.2.2.2.2.2.2.1)), .long (lZ (u.2.2.2.2.2.2.2.2.2.2.2.2.2.1))]), (aE, ei g 50 u.2.2.2.2.2.2.2.1), (aQ, ei g 50 u.2.2.2.2.2.2.2.2.1), (aB, ei g 50 u.2.2.2.2.2.2.2.2.2.1), (aU, ei g 50 u.2.2.2.2.2.2.2.2.2.2.1)]) 0 0 := by
  refine z_beWi (cc := cX5_loose) (nL := 2) (ret := some .int) (plainFor_of_name (by decide +kernel)) rfl (Or.inl rfl) (Nat.le_of_ble_eq_true rfl) ?_
  intro X A hC hN hR
  have hC : zC X g cX5_loose RX5 wsX5_loose rm_X5_loose 2 := hC
  show ZG X g (zD X A) 0 0 [(hB, eo 5 [.ref hI, .ref oR, .ref hS, .ref hY]), (hS, eo 3 [.ref hI, .ref oR, .ref hL, .ref aC, .ref aN, .int (iZ (ps))]), (aC, el g 20808 C), (aN, eb g 20808 N), (hI, eo 0 [.ref aK, .ref aV, .ref aP, .ref aM, .ref aL, .ref aS, .ref aH, .int (iZ (n))]), (aK, ei g 100 K), (aV, ei g 100 V), (aP, ei g 100 P), (aM, ez g 100 M), (aL, ei g 101 LB), (aS, ei g 101 SB), (aH, ei g 101 HB), (oR, eo 2 [.ref aW, .ref aT]), (aW, ei g 50 W), (aT, ei g 3 T), (hL, eo 1 [.int (iZ (k)), .int (iZ (ug)), .int (iZ (lo)), .int (iZ (sd))]), (hY, eo 4 [.ref aE, .ref aQ, .ref aB, .ref aU, .int (iZ (tc)), .int (iZ (tp)), .long (lZ (td))]), (aE, ei g 50 E), (aQ, ei g 50 Q), (aB, ei g 50 B), (aU, ei g 50 U)] [(0, .ref hB), (1, .int (iZ (x)))] 0 []
  refine z_iload_n hC 1 dX5_loose_0 rfl rfl ?_
  refine z_iconst hC dX5_loose_1 ?_
  refine z_bip hC dX5_loose_2 (by decide) ?_
  refine z_sRi hC 3 (c_X5_isWithin (xl X) g _ _ _ (by omega) (by omega) (by omega)) gX5_loose_X5_isWithin rfl hd_X5_isWithin_s (by decide) ⟨rfl, rfl⟩ [] (by decide) rfl rfl rfl (Nat.le_of_ble_eq_true rfl) dX5_loose_4 (by decide) ?_
  refine z_if_eq hC 20 dX5_loose_7 (by decide) (b2_r _) (fun c_7 => ?_) (fun c_7 => ?_)
  ·
    have c_7 := b2_f c_7
    refine z_iconst hC dX5_loose_20 ?_
    exact hR (C, N, ps, k, ug, lo, sd, E, Q, B, U, tc, tp, td, -1) _ _ _ [0, 1, 2, 3, 4, 5, 6, 7, 8, 9, 10, 11, 12, 13, 14, 15, 16, 17, 18, 19, 20] _ (Or.inl ⟨by omega, rfl, rfl, rfl, rfl, rfl, rfl, rfl, rfl⟩) rfl (by decide) rfl dX5_loose_21
  ·
    have c_7 := b2_t c_7
    refine z_aload_n hC 0 dX5_loose_10 rfl rfl ?_
    refine z_get hC iX5_loose_5 0 3 rfl rfl (by decide) mX5_loose_f37 rfl dX5_loose_11 ?_
    refine z_getN hC iX5_loose_4 16 4 rfl rfl (by decide) nf_RX5_71 rfl dX5_loose_14 ?_
    refine z_if_ne hC 22 dX5_loose_17 (by decide) (by omega) (fun c_17 => ?_) (fun c_17 => ?_)
    ·
      have he := zCi_env h1 (p := tp) (ex := x) (by omega) (by omega)
      refine z_aload_n hC 0 dX5_loose_22 rfl rfl ?_
      refine z_get hC iX5_loose_5 0 2 rfl rfl (by decide) mX5_loose_f30 rfl dX5_loose_23 ?_
      refine z_aload_n hC 0 dX5_loose_26 rfl rfl ?_
      refine z_get hC iX5_loose_5 0 3 rfl rfl (by decide) mX5_loose_f37 rfl dX5_loose_27 ?_
      refine z_getN hC iX5_loose_4 16 5 rfl rfl (by decide) nf_RX5_75 rfl dX5_loose_30 ?_
      refine z_iload_n hC 1 dX5_loose_33 rfl rfl ?_
      refine z_vnWi (wr := [_, _, _, _, _, _]) hC 2 (c_X3_findsWay (xl X) g _ _ _ _ _ _ _ _ _ _ _ _ _ _ _ _ _ _ _ _ _ _ _ _ _ _ _ _ _ _ _ _ _ ((zMt tp)) _ ((zDq n K V P M LB SB HB W T tp x)) he) gX5_loose_X3_findsWay_n63 nm_RX5_63 mX5_loose_iniRX3 mX5_loose_im_X3_findsWay mX5_loose_se_X3_findsWay rfl hd_X3_findsWay_s (by decide) ⟨rfl, rfl⟩ [1, 2, 3, 4, 5, 6, 7, 8, 9, 10, 11, 12, 13, 14, 15] [0, 16, 17, 18, 19, 20] (by decide) rfl rfl (by decide) (by decide) 1 3 rfl rfl rfl rfl rfl (Nat.le_of_ble_eq_true rfl) dX5_loose_34 (by decide) (fun u_34 p_34 => ?_)
      obtain ⟨C1_34, N1_34, l1_34, u1_34, k1_34, d1_34, r1_34⟩ := u_34
      try dsimp only at p_34
      refine z_ws (ws' := [(hB, eo 5 [.ref hI, .ref oR, .ref hS, .ref hY]), (hS, eo 3 [.ref hI, .ref oR, .ref hL, .ref aC, .ref aN, .int (iZ (tp))]), (aC, el g 20808 C1_34), (aN, eb g 20808 N1_34), (hI, eo 0 [.ref aK, .ref aV, .ref aP, .ref aM, .ref aL, .ref aS, .ref aH, .int (iZ (n))]), (aK, ei g 100 K), (aV, ei g 100 V), (aP, ei g 100 P), (aM, ez g 100 M), (aL, ei g 101 LB), (aS, ei g 101 SB), (aH, ei g 101 HB), (oR, eo 2 [.ref aW, .ref aT]), (aW, ei g 50 W), (aT, ei g 3 T), (hL, eo 1 [.int (iZ (l1_34)), .int (iZ (u1_34)), .int (iZ (k1_34)), .int (iZ (d1_34))]), (hY, eo 4 [.ref aE, .ref aQ, .ref aB, .ref aU, .int (iZ (tc)), .int (iZ (tp)), .long (lZ (td))]), (aE, ei g 50 E), (aQ, ei g 50 Q), (aB, ei g 50 B), (aU, ei g 50 U)]) [0, 6, 7, 8, 9, 10, 11, 12, 13, 14, 15, 16, 17, 18, 19, 20, 1, 2, 3, 4, 5] (by decide) rfl ?_
      refine z_top (b := r1_34) rfl ?_
      obtain ⟨hTab, hr⟩ := p_34
      refine z_top hr ?_
      refine z_if_ne hC 42 dX5_loose_37 (by decide) (b2_r _) (fun c_37 => ?_) (fun c_37 => ?_)
      ·
        have c_37 := b2_t c_37
        refine z_aload_n hC 0 dX5_loose_42 rfl rfl ?_
        refine z_get hC iX5_loose_5 0 2 rfl rfl (by decide) mX5_loose_f30 rfl dX5_loose_43 ?_
        refine z_aload_n hC 0 dX5_loose_46 rfl rfl ?_
        refine z_get hC iX5_loose_5 0 3 rfl rfl (by decide) mX5_loose_f37 rfl dX5_loose_47 ?_
        refine z_vnWv (wr := [_]) hC 1 (c_X3_tell (xl X) g _ _ _ _ _ _ _ _ _ _ _ _ _ _ _ _ _ _ _ _ _ _ _ _ _ _ _ _ _ _ _ _ _ _ _ _ _ _ _ _ _ _ _ _ ((zMt tp)) x ((zDq n K V P M LB SB HB W T tp x)) he hTab c_37) gX5_loose_X3_tell_n67 nm_RX5_67 mX5_loose_iniRX3 mX5_loose_im_X3_tell mX5_loose_se_X3_tell rfl hd_X3_tell_s (by decide) ⟨rfl, rfl⟩ [1, 2, 3, 4, 5, 6, 7, 8, 9, 10, 11, 12, 13, 14, 15, 16, 17, 18, 19, 20] [0] (by decide) rfl rfl (by decide) (by decide) 1 3 rfl rfl rfl rfl rfl (Nat.le_of_ble_eq_true rfl) dX5_loose_50 (by decide) (fun u_50 p_50 => ?_)
        obtain ⟨l1_50, u1_50, k1_50, d1_50, E1_50, Q1_50, B1_50, U1_50, c1_50⟩ := u_50
        try dsimp only at p_50
        refine z_ws (ws' := [(hB, eo 5 [.ref hI, .ref oR, .ref hS, .ref hY]), (hS, eo 3 [.ref hI, .ref oR, .ref hL, .ref aC, .ref aN, .int (iZ (tp))]), (aC, el g 20808 C1_34), (aN, eb g 20808 N1_34), (hI, eo 0 [.ref aK, .ref aV, .ref aP, .ref aM, .ref aL, .ref aS, .ref aH, .int (iZ (n))]), (aK, ei g 100 K), (aV, ei g 100 V), (aP, ei g 100 P), (aM, ez g 100 M), (aL, ei g 101 LB), (aS, ei g 101 SB), (aH, ei g 101 HB), (oR, eo 2 [.ref aW, .ref aT]), (aW, ei g 50 W), (aT, ei g 3 T), (hL, eo 1 [.int (iZ (l1_50)), .int (iZ (u1_50)), .int (iZ (k1_50)), .int (iZ (d1_50))]), (hY, eo 4 [.ref aE, .ref aQ, .ref aB, .ref aU, .int (iZ (c1_50)), .int (iZ (tp)), .long (lZ ((zVL ((zDq n K V P M LB SB HB W T tp x)) 0 (-1) 0).1))]), (aE, ei g 50 E1_50), (aQ, ei g 50 Q1_50), (aB, ei g 50 B1_50), (aU, ei g 50 U1_50)]) [0, 1, 2, 3, 4, 5, 6, 7, 8, 9, 10, 11, 12, 13, 14, 15, 16, 17, 18, 19, 20] (by decide) rfl ?_
        refine z_iconst hC dX5_loose_53 ?_
        exact hR (C1_34, N1_34, tp, l1_50, u1_50, k1_50, d1_50, E1_50, Q1_50, B1_50, U1_50, c1_50, tp, (zVL ((zDq n K V P M LB SB HB W T tp x)) 0 (-1) 0).1, 1) _ _ _ [0, 1, 2, 3, 4, 5, 6, 7, 8, 9, 10, 11, 12, 13, 14, 15, 16, 17, 18, 19, 20] _ (Or.inr (Or.inr ⟨by omega, by omega, ⟨c_37, p_50.1, rfl, p_50.2⟩, rfl, rfl⟩)) rfl (by decide) rfl dX5_loose_54
      ·
        have c_37 := b2_f c_37
        refine z_iconst hC dX5_loose_40 ?_
        exact hR (C1_34, N1_34, tp, l1_34, u1_34, k1_34, d1_34, E, Q, B, U, tc, tp, td, 0) _ _ _ [0, 1, 2, 3, 4, 5, 6, 7, 8, 9, 10, 11, 12, 13, 14, 15, 16, 17, 18, 19, 20] _ (Or.inr (Or.inl ⟨by omega, by omega, c_37, rfl, rfl, rfl, rfl, rfl, rfl, rfl, rfl⟩)) rfl (by decide) rfl dX5_loose_41
    ·
      refine z_iconst hC dX5_loose_20 ?_
      exact hR (C, N, ps, k, ug, lo, sd, E, Q, B, U, tc, tp, td, -1) _ _ _ [0, 1, 2, 3, 4, 5, 6, 7, 8, 9, 10, 11, 12, 13, 14, 15, 16, 17, 18, 19, 20] _ (Or.inl ⟨by omega, rfl, rfl, rfl, rfl, rfl, rfl, rfl, rfl⟩) rfl (by decide) rfl dX5_loose_21
