theorem zSt_in {K : Int → Int} {n a : Int} (h0 : 0 ≤ n) (h : -1 ≤ a ∧ (a < n ∨ a < 0)) : 0 ≤ zSt K n a ∧ zSt K n a ≤ n := by
  unfold zSt
  split
  · omega
  · have := nb_le (K := K) (e := n) (j := a + 1) (by omega); omega
theorem zPth_cl {n : Int} {K V P M LB SB HB W : Int → Int} {tol mo mt ex : Int} (j : Nat) : 0 ≤ (zPth (zMk n K V P M LB SB HB W tol mo mt ex) j).2 ∧ (zPth (zMk n K V P M LB SB HB W tol mo mt ex) j).2 ≤ 3 := by
  cases j with
  | zero => show (0 : Int) ≤ 0 ∧ (0 : Int) ≤ 3; omega
  | succ j => exact zCl_in
theorem zPth_may {n : Int} {K V P M LB SB HB W : Int → Int} {tol mo mt ex : Int} {d : zDP} (hd : d = zMk n K V P M LB SB HB W tol mo mt ex) (hB : zDb d) (hn : 0 ≤ n) (h0 : (zVL d 0 (-1) 0).2.1 ≠ 0) (j : Nat) (hj : (j : Int) < (zVL d 0 (-1) 0).2.1) (h1 : 0 < j) : zMay K V M n (zPth d j).1 mt := by
  obtain ⟨i, rfl⟩ : ∃ i, j = i + 1 := ⟨j - 1, by omega⟩
  have hf := zPth_fit hB (by rw [hd]; exact hn) h0 i (by omega)
  subst hd
  exact hf.2.1
theorem zPth_rg {d : zDP} (hB : zDb d) (hn : 0 ≤ d.1) (h0 : (zVL d 0 (-1) 0).2.1 ≠ 0) (j : Nat) (hj : (j : Int) ≤ (zVL d 0 (-1) 0).2.1) : -1 ≤ (zPth d j).1 ∧ (zPth d j).1 ≤ d.1 := by
  by_cases q : (j : Int) < (zVL d 0 (-1) 0).2.1
  · have := zPth_ok hB hn h0 j q
    omega
  · by_cases z : j = 0
    · subst z; show (-1 : Int) ≤ -1 ∧ (-1 : Int) ≤ d.1; omega
    · obtain ⟨i, rfl⟩ : ∃ i, j = i + 1 := ⟨j - 1, by omega⟩
      have := zPth_end hB hn h0 i (by omega)
      omega
theorem nm_RX3_138 : (RX3, 138, yX4_forget, "BreakSearch") ∈ zNM := by decide +kernel
theorem hd_X4_forget_s : yX4_forget.cls ≠ "java/lang/invoke/MethodHandle" ∧ yX4_forget.cls ≠ "java/lang/invoke/VarHandle" ∧ (parseMethodDescriptor yX4_forget.desc).map (fun d => d.parameters.length) = some 0 := by decide +kernel
theorem nf_RX3_143 : (RX3, 143, "BreakSearch$Way", "pass", "I", "BreakSearch") ∈ zNF := by decide +kernel
theorem hd_J9_floorDiv_f86c9_s : yJ9_floorDiv_f86c9.cls ≠ "java/lang/invoke/MethodHandle" ∧ yJ9_floorDiv_f86c9.cls ≠ "java/lang/invoke/VarHandle" ∧ (parseMethodDescriptor yJ9_floorDiv_f86c9.desc).map (fun d => d.parameters.length) = some 2 := by decide +kernel
theorem nf_RX3_148 : (RX3, 148, "BreakSearch$Way", "demerits", "J", "BreakSearch") ∈ zNF := by decide +kernel
theorem nm_RX3_152 : (RX3, 152, yX4_append, "BreakSearch") ∈ zNM := by decide +kernel
theorem hd_X4_append_s : yX4_append.cls ≠ "java/lang/invoke/MethodHandle" ∧ yX4_append.cls ≠ "java/lang/invoke/VarHandle" ∧ (parseMethodDescriptor yX4_append.desc).map (fun d => d.parameters.length) = some 2 := by decide +kernel
set_option maxRecDepth 20000 in
theorem mX3_tell_iniRX4 : Cond.initialized RX4 ∈ wsX3_tell := by decide +kernel
set_option maxRecDepth 20000 in
theorem mX3_tell_im_X4_forget : Cond.instanceMethod yX4_forget ∈ wsX3_tell := by decide +kernel
set_option maxRecDepth 20000 in
theorem mX3_tell_se_X4_forget : Cond.selects RX4 yX4_forget yX4_forget ∈ wsX3_tell := by decide +kernel
set_option maxRecDepth 20000 in
theorem mX3_tell_f36 : Cond.fieldLink RX3 36 "BreakSearch$Search" "pass" "I" ∈ wsX3_tell := by decide +kernel
set_option maxRecDepth 20000 in
theorem iX3_tell_3 : ∀ w ∈ u_ws RX3 TX3 6, w ∈ wsX3_tell := by decide +kernel
set_option maxRecDepth 20000 in
theorem iX3_tell_4 : ∀ w ∈ u_ws RX4 TX4 7, w ∈ wsX3_tell := by decide +kernel
set_option maxRecDepth 20000 in
theorem mX3_tell_f20 : Cond.fieldLink RX3 20 "BreakSearch$Search" "costs" "[J" ∈ wsX3_tell := by decide +kernel
set_option maxRecDepth 20000 in
theorem mX3_tell_k112 : Cond.constantLong RX3 112 (64) ∈ wsX3_tell := by decide +kernel
set_option maxRecDepth 20000 in
theorem mX3_tell_f28 : Cond.fieldLink RX3 28 "BreakSearch$Search" "items" "LBreakSearch$Items;" ∈ wsX3_tell := by decide +kernel
set_option maxRecDepth 20000 in
theorem iX3_tell_0 : ∀ w ∈ u_ws RX0 TX0 8, w ∈ wsX3_tell := by decide +kernel
set_option maxRecDepth 20000 in
theorem mX3_tell_f24 : Cond.fieldLink RX3 24 "BreakSearch$Search" "nextBreaks" "[B" ∈ wsX3_tell := by decide +kernel
set_option maxRecDepth 20000 in
theorem mX3_tell_f16 : Cond.fieldLink RX3 16 "BreakSearch$Search" "line" "LBreakSearch$Line;" ∈ wsX3_tell := by decide +kernel
set_option maxRecDepth 20000 in
theorem mX3_tell_iniRX0 : Cond.initialized RX0 ∈ wsX3_tell := by decide +kernel
set_option maxRecDepth 20000 in
theorem mX3_tell_im_X0_startBehind : Cond.instanceMethod yX0_startBehind ∈ wsX3_tell := by decide +kernel
set_option maxRecDepth 20000 in
theorem mX3_tell_se_X0_startBehind : Cond.selects RX0 yX0_startBehind yX0_startBehind ∈ wsX3_tell := by decide +kernel
set_option maxRecDepth 20000 in
theorem mX3_tell_f32 : Cond.fieldLink RX3 32 "BreakSearch$Search" "rules" "LBreakSearch$Rules;" ∈ wsX3_tell := by decide +kernel
set_option maxRecDepth 20000 in
theorem iX3_tell_2 : ∀ w ∈ u_ws RX2 TX2 2, w ∈ wsX3_tell := by decide +kernel
set_option maxRecDepth 20000 in
theorem mX3_tell_iniRX2 : Cond.initialized RX2 ∈ wsX3_tell := by decide +kernel
set_option maxRecDepth 20000 in
theorem mX3_tell_im_X2_moreStretchIn : Cond.instanceMethod yX2_moreStretchIn ∈ wsX3_tell := by decide +kernel
set_option maxRecDepth 20000 in
theorem mX3_tell_se_X2_moreStretchIn : Cond.selects RX2 yX2_moreStretchIn yX2_moreStretchIn ∈ wsX3_tell := by decide +kernel
set_option maxRecDepth 20000 in
theorem mX3_tell_iniRX1 : Cond.initialized RX1 ∈ wsX3_tell := by decide +kernel
set_option maxRecDepth 20000 in
theorem mX3_tell_im_X1_measure : Cond.instanceMethod yX1_measure ∈ wsX3_tell := by decide +kernel
set_option maxRecDepth 20000 in
theorem mX3_tell_se_X1_measure : Cond.selects RX1 yX1_measure yX1_measure ∈ wsX3_tell := by decide +kernel
set_option maxRecDepth 20000 in
theorem mX3_tell_im_X4_append : Cond.instanceMethod yX4_append ∈ wsX3_tell := by decide +kernel
set_option maxRecDepth 20000 in
theorem mX3_tell_se_X4_append : Cond.selects RX4 yX4_append yX4_append ∈ wsX3_tell := by decide +kernel
set_option maxRecDepth 20000 in
theorem iX3_tell_1 : ∀ w ∈ u_ws RX1 TX1 4, w ∈ wsX3_tell := by decide +kernel
abbrev rm_X3_tell : Room := { frames := 4, cells := 0, slots := 0, locals := 97 }
set_option maxHeartbeats 4000000 in
set_option maxRecDepth 100000 in
theorem c_X3_tell (l : Launch) (g : zG) (hS aC aN : Nat) (ps : Int) (C N : Int → Int) (hI aK aV aP aM aL aS aH : Nat) (n : Int) (K V P M LB SB HB : Int → Int) (oR aW aT : Nat) (W T : Int → Int) (hL : Nat) (k ug lo sd : Int) (hY aE aQ aB aU : Nat) (tc tp td : Int) (E Q B U : Int → Int) (mt ex : Int) (d : zDP) (h1 : zEnv n K V P M LB SB HB W T ps mt ex d) (h2 : zTab d K V M n mt C N) (h3 : ¬ (zVL d 0 (-1) 0).2.1 = 0) : zMWv (S := (Int) × (Int) × (Int) × (Int) × (Int → Int) × (Int → Int) × (Int → Int) × (Int → Int) × (Int)) l yX3_tell wsX3_tell rm_X3_tell g [(hS, eo 3 [.ref hI, .ref oR, .ref hL, .ref aC, .ref aN, .int (iZ (ps))]), (aC, el g 20808 C), (aN, eb g 20808 N), (hI, eo 0 [.ref aK, .ref aV, .ref aP, .ref aM, .ref aL, .ref aS, .ref aH, .int (iZ (n))]), (aK, ei g 100 K), (aV, ei g 100 V), (aP, ei g 100 P), (aM, ez g 100 M), (aL, ei g 101 LB), (aS, ei g 101 SB), (aH, ei g 101 HB), (oR, eo 2 [.ref aW, .ref aT]), (aW, ei g 50 W), (aT, ei g 3 T), (hL, eo 1 [.int (iZ (k)), .int (iZ (ug)), .int (iZ (lo)), .int (iZ (sd))]), (hY, eo 4 [.ref aE, .ref aQ, .ref aB, .ref aU, .int (iZ (tc)), .int (iZ (tp)), .long (lZ (td))]), (aE, ei g 50 E), (aQ, ei g 50 Q), (aB, ei g 50 B), (aU, ei g 50 U)] [.ref hS, .ref hY] (fun u => u.2.2.2.2.2.2.2.2 = (zVL d 0 (-1) 0).2.1 ∧ zWay n K P LB SB HB W (if ps = 3 then T 2 else 0) d u.2.2.2.2.2.2.2.2 u.2.2.2.2.1 u.2.2.2.2.2.1 u.2.2.2.2.2.2.1 u.2.2.2.2.2.2.2.1) (fun u => [(hS, eo 3 [.ref hI, .ref oR, .ref hL, .ref aC, .ref aN, .int (iZ (ps))]), (aC, el g 20808 C), (aN, eb g 20808 N), (hI, eo 0 [.ref aK, .ref aV, .ref aP, .ref aM, .ref aL, .ref aS, .ref aH, .int (iZ (n))]), (aK, ei g 100 K), (aV, ei g 100 V), (aP, ei g 100 P), (aM, ez g 100 M), (aL, ei g 101 LB), (aS, ei g 101 SB), (aH, ei g 101 HB), (oR, eo 2 [.ref aW, .ref aT]), (aW, ei g 50 W), (aT, ei g 3 T), (hL, eo 1 [.int (iZ (u.1)), .int (iZ (u.2.1)), .int (iZ (u.2.2.1)), .int (iZ (u.2.2.2.1))]), (hY, eo 4 [.ref aE, .ref aQ, .ref aB, .ref aU, .int (iZ (u.2.2.2.2.2.2.2.2)), .int (iZ (ps)), .long (lZ ((zVL d 0 (-1) 0).1))]), (aE, ei g 50 u.2.2.2.2.1), (aQ, ei g 50 u.2.2.2.2.2.1), (aB, ei g 50 u.2.2.2.2.2.2.1), (aU, ei g 50 u.2.2.2.2.2.2.2.1)]) 0 0 := by
  refine z_beWv (cc := cX3_tell) (nL := 6) (plainFor_of_name (by decide +kernel)) rfl (Nat.le_of_ble_eq_true rfl) ?_
  intro X A hC hN hR
  have hC : zC X g cX3_tell RX3 wsX3_tell rm_X3_tell 6 := hC
  show ZG X g (zD X A) 0 0 [(hS, eo 3 [.ref hI, .ref oR, .ref hL, .ref aC, .ref aN, .int (iZ (ps))]), (aC, el g 20808 C), (aN, eb g 20808 N), (hI, eo 0 [.ref aK, .ref aV, .ref aP, .ref aM, .ref aL, .ref aS, .ref aH, .int (iZ (n))]), (aK, ei g 100 K), (aV, ei g 100 V), (aP, ei g 100 P), (aM, ez g 100 M), (aL, ei g 101 LB), (aS, ei g 101 SB), (aH, ei g 101 HB), (oR, eo 2 [.ref aW, .ref aT]), (aW, ei g 50 W), (aT, ei g 3 T), (hL, eo 1 [.int (iZ (k)), .int (iZ (ug)), .int (iZ (lo)), .int (iZ (sd))]), (hY, eo 4 [.ref aE, .ref aQ, .ref aB, .ref aU, .int (iZ (tc)), .int (iZ (tp)), .long (lZ (td))]), (aE, ei g 50 E), (aQ, ei g 50 Q), (aB, ei g 50 B), (aU, ei g 50 U)] [(0, .ref hS), (1, .ref hY)] 0 []
  have hB := zEnv_b h1
  obtain ⟨hI1, hI2, hI3, hI4, hI5, hI6, hI7, hI8, hd⟩ := id h1
  have hn := hI1.1
  have hT : zT1 d K V M n mt (-2) C N := h2
  have h0 : (zVL d 0 (-1) 0).2.1 ≠ 0 := h3
  have hd1 : d.1 = n := by rw [hd]; rfl
  have hb0 := zVL_in hB (i := 0) (by omega) (-1) 0
  unfold zNb at hb0
  have hlm := zLe_e (-1)
  have hC0 := ((hT (-1) 0 0 (by omega) (by omega) (Or.inl rfl) (by omega) (by omega) (by omega) (by omega)).2 h0).1
  refine z_aload_n hC 1 dX3_tell_0 rfl rfl ?_
  refine z_vnWv (wr := [_, _, _, _, _, _, _, _, _, _, _, _, _, _, _]) hC 0 (c_X4_forget (xl X) g _ _ _ _ _ _ _ _ _ _ _ _) gX3_tell_X4_forget_n138 nm_RX3_138 mX3_tell_iniRX4 mX3_tell_im_X4_forget mX3_tell_se_X4_forget rfl hd_X4_forget_s (by decide) ⟨rfl, rfl⟩ [15, 16, 17, 18, 19] [0, 1, 2, 3, 4, 5, 6, 7, 8, 9, 10, 11, 12, 13, 14] (by decide) rfl rfl (by decide) (by decide) 15 4 rfl rfl rfl rfl rfl (Nat.le_of_ble_eq_true rfl) dX3_tell_1 (by decide) (fun u_1 p_1 => ?_)
  refine z_ws (ws' := [(hS, eo 3 [.ref hI, .ref oR, .ref hL, .ref aC, .ref aN, .int (iZ (ps))]), (aC, el g 20808 C), (aN, eb g 20808 N), (hI, eo 0 [.ref aK, .ref aV, .ref aP, .ref aM, .ref aL, .ref aS, .ref aH, .int (iZ (n))]), (aK, ei g 100 K), (aV, ei g 100 V), (aP, ei g 100 P), (aM, ez g 100 M), (aL, ei g 101 LB), (aS, ei g 101 SB), (aH, ei g 101 HB), (oR, eo 2 [.ref aW, .ref aT]), (aW, ei g 50 W), (aT, ei g 3 T), (hL, eo 1 [.int (iZ (k)), .int (iZ (ug)), .int (iZ (lo)), .int (iZ (sd))]), (hY, eo 4 [.ref aE, .ref aQ, .ref aB, .ref aU, .int (iZ (0)), .int (iZ (0)), .long (lZ (0))]), (aE, ei g 50 E), (aQ, ei g 50 Q), (aB, ei g 50 B), (aU, ei g 50 U)]) [0, 1, 2, 3, 4, 5, 6, 7, 8, 9, 10, 11, 12, 13, 14, 15, 16, 17, 18, 19] (by decide) rfl ?_
  refine z_aload_n hC 1 dX3_tell_4 rfl rfl ?_
  refine z_aload_n hC 0 dX3_tell_5 rfl rfl ?_
  refine z_get hC iX3_tell_3 0 5 rfl rfl (by decide) mX3_tell_f36 rfl dX3_tell_6 ?_
  refine z_putN hC iX3_tell_4 tyX4 tyX4_ok nmX4 15 5 rfl rfl (by decide) nf_RX3_143 rfl rfl rfl (Nat.le_of_ble_eq_true rfl) dX3_tell_9 (ws' := [_, _, _, _, _, _, _, _, _, _, _, _, _, _, _, _, _, _, _, _]) rfl ?_
  refine z_aload_n hC 1 dX3_tell_12 rfl rfl ?_
  refine z_aload_n hC 0 dX3_tell_13 rfl rfl ?_
  refine z_get hC iX3_tell_3 0 3 rfl rfl (by decide) mX3_tell_f20 rfl dX3_tell_14 ?_
  refine z_iconst hC dX3_tell_17 ?_
  refine z_iconst hC dX3_tell_18 ?_
  refine z_iconst hC dX3_tell_19 ?_
  refine z_sRi hC 3 (c_X3_cellOf (xl X) g _ _ _) gX3_tell_X3_cellOf rfl hd_X3_cellOf_s (by decide) ⟨rfl, rfl⟩ [] (by decide) rfl rfl rfl (Nat.le_of_ble_eq_true rfl) dX3_tell_20 (by decide) ?_
  refine z_lald hC 1 rfl (by omega) (by decide) dX3_tell_23 ?_
  refine z_topl (b := 64 * (zVL d 0 (-1) 0).1 + (zVL d 0 (-1) 0).2.1) hC0 ?_
  refine z_ldc2 hC (64) mX3_tell_k112 (by decide) dX3_tell_24 ?_
  refine z_sRl hC 2 (c_J9_floorDiv_f86c9 (xl X) g _ (by omega)) gX3_tell_J9_floorDiv_f86c9 rfl hd_J9_floorDiv_f86c9_s (by decide) ⟨rfl, rfl⟩ [] (by decide) rfl rfl rfl (Nat.le_of_ble_eq_true rfl) dX3_tell_27 (by decide) ?_
  refine z_topl (b := (zVL d 0 (-1) 0).1) (by omega) ?_
  refine z_putN hC iX3_tell_4 tyX4 tyX4_ok nmX4 15 6 rfl rfl (by decide) nf_RX3_148 rfl rfl rfl (Nat.le_of_ble_eq_true rfl) dX3_tell_30 (ws' := [_, _, _, _, _, _, _, _, _, _, _, _, _, _, _, _, _, _, _, _]) rfl ?_
  refine z_iconst hC dX3_tell_33 ?_
  refine z_istore_n hC (lv' := [(2, _), (0, _), (1, _)]) dX3_tell_34 rfl (by decide) rfl ?_
  refine z_iconst hC dX3_tell_35 ?_
  refine z_istore_n hC (lv' := [(3, _), (2, _), (0, _), (1, _)]) dX3_tell_36 rfl (by decide) rfl ?_
  refine z_iconst hC dX3_tell_37 ?_
  refine z_istore hC (lv' := [(4, _), (3, _), (2, _), (0, _), (1, _)]) dX3_tell_38 (by decide) rfl ?_
  have L40 : ∀ (fu : Nat) (j : Nat) (E2 Q2 B2 U2 : Int → Int) (l2 u2 k2 d2 : Int), ((j : Int) ≤ (zVL d 0 (-1) 0).2.1) → (zWay n K P LB SB HB W (if ps = 3 then T 2 else 0) d j E2 Q2 B2 U2) → (51 - (j : Int)).toNat < fu → ZG X g (zD X A) 0 0 [(hS, eo 3 [.ref hI, .ref oR, .ref hL, .ref aC, .ref aN, .int (iZ (ps))]), (aC, el g 20808 C), (aN, eb g 20808 N), (hI, eo 0 [.ref aK, .ref aV, .ref aP, .ref aM, .ref aL, .ref aS, .ref aH, .int (iZ (n))]), (aK, ei g 100 K), (aV, ei g 100 V), (aP, ei g 100 P), (aM, ez g 100 M), (aL, ei g 101 LB), (aS, ei g 101 SB), (aH, ei g 101 HB), (oR, eo 2 [.ref aW, .ref aT]), (aW, ei g 50 W), (aT, ei g 3 T), (hL, eo 1 [.int (iZ (l2)), .int (iZ (u2)), .int (iZ (k2)), .int (iZ (d2))]), (hY, eo 4 [.ref aE, .ref aQ, .ref aB, .ref aU, .int (iZ ((j : Int))), .int (iZ (ps)), .long (lZ ((zVL d 0 (-1) 0).1))]), (aE, ei g 50 E2), (aQ, ei g 50 Q2), (aB, ei g 50 B2), (aU, ei g 50 U2)] [(2, .int (iZ ((zPth d j).1))), (3, .int (iZ ((zPth d j).2))), (4, .int (iZ ((j : Int)))), (0, .ref hS), (1, .ref hY)] 40 [] := by
    intro fu
    induction fu with
    | zero => intro j E2 Q2 B2 U2 l2 u2 k2 d2; intros; omega
    | succ fu ih_40 =>
      intro j E2 Q2 B2 U2 l2 u2 k2 d2 hj hW hn
      refine z_iload hC 2 dX3_tell_40 rfl ?_
      refine z_bip hC dX3_tell_42 (by decide) ?_
      refine z_icmp_ge hC 160 dX3_tell_44 (by decide) (by omega) (by omega) (fun c_44 => ?_) (fun c_44 => ?_)
      ·
        exact hR (l2, u2, k2, d2, E2, Q2, B2, U2, (j : Int)) _ _ _ [0, 1, 2, 3, 4, 5, 6, 7, 8, 9, 10, 11, 12, 13, 14, 15, 16, 17, 18, 19] ⟨by show (j : Int) = (zVL d 0 (-1) 0).2.1; omega, hW⟩ (by decide) rfl dX3_tell_160
      ·
        have hrg := zPth_rg hB (by omega) h0 j (by omega)
        refine z_iload_n hC 0 dX3_tell_47 rfl rfl ?_
        refine z_aload_n hC 3 dX3_tell_48 rfl rfl ?_
        refine z_get hC iX3_tell_3 0 0 rfl rfl (by decide) mX3_tell_f28 rfl dX3_tell_49 ?_
        refine z_getN hC iX3_tell_0 3 7 rfl rfl (by decide) nf_RX3_53 rfl dX3_tell_52 ?_
        refine z_icmp_ge hC 160 dX3_tell_55 (by decide) (by omega) (by omega) (fun c_55 => ?_) (fun c_55 => ?_)
        ·
          have hjL : (j : Int) = (zVL d 0 (-1) 0).2.1 := by
            by_cases q : (j : Int) < (zVL d 0 (-1) 0).2.1
            · exfalso; have := (zPth_ok hB (by omega) h0 j q).2.1; omega
            · omega
          exact hR (l2, u2, k2, d2, E2, Q2, B2, U2, (j : Int)) _ _ _ [0, 1, 2, 3, 4, 5, 6, 7, 8, 9, 10, 11, 12, 13, 14, 15, 16, 17, 18, 19] ⟨by show (j : Int) = (zVL d 0 (-1) 0).2.1; omega, hW⟩ (by decide) rfl dX3_tell_160
        ·
          have hjL : (j : Int) < (zVL d 0 (-1) 0).2.1 := by
            by_cases q : (j : Int) < (zVL d 0 (-1) 0).2.1
            · exact q
            · exfalso
              obtain ⟨i, e⟩ : ∃ i, j = i + 1 := ⟨j - 1, by omega⟩
              have := zPth_end hB (by omega) h0 i (by omega)
              rw [← e] at this
              omega
          obtain ⟨g1, g2, g3, g4, g5⟩ := zPth_ok hB (by omega) h0 j hjL
          have hft0 := zPth_fit hB (by omega) h0 j hjL
          have hft : zFit n K V P M LB SB HB W (if ps = 1 then T 0 else T 1) (if ps = 3 then T 2 else 0) mt (zPth d j).1 (zPth d (j + 1)).1 j := by rw [hd] at hft0 ⊢; exact hft0
          have hcl : 0 ≤ (zPth d j).2 ∧ (zPth d j).2 ≤ 3 := by rw [hd]; exact zPth_cl j
          have hle := zLe_e (zPth d j).1
          have hab := hft.1
          have hmy : (zPth d j).1 = -1 ∨ zMay K V M n (zPth d j).1 mt := by
            by_cases q : j = 0
            · exact Or.inl (g5 q)
            · exact Or.inr (zPth_may hd hB (by omega) h0 j hjL (by omega))
          have hg4 : (zPth d j).1 = -1 ∧ j = 0 ∨ 0 ≤ (zPth d j).1 ∧ (j : Int) ≤ (zPth d j).1 + 1 := by
            by_cases q : j = 0
            · exact Or.inl ⟨g5 q, q⟩
            · exact Or.inr (g4 (by omega))
          have hcell := (hT (zPth d j).1 j (zPth d j).2 (by omega) (by omega) hmy (by omega) (by omega) hcl.1 hcl.2).2 (by omega)
          have hWj := hI3 j (by omega) (by omega)
          have hzs := zSt_in (K := K) (n := n) (a := (zPth d j).1) (by omega) (by omega)
          refine z_aload_n hC 3 dX3_tell_58 rfl rfl ?_
          refine z_get hC iX3_tell_3 0 4 rfl rfl (by decide) mX3_tell_f24 rfl dX3_tell_59 ?_
          refine z_iload_n hC 0 dX3_tell_62 rfl rfl ?_
          refine z_iload hC 2 dX3_tell_63 rfl ?_
          refine z_iload_n hC 1 dX3_tell_65 rfl rfl ?_
          refine z_sRi hC 3 (c_X3_cellOf (xl X) g _ _ _) gX3_tell_X3_cellOf rfl hd_X3_cellOf_s (by decide) ⟨rfl, rfl⟩ [] (by decide) rfl rfl rfl (Nat.le_of_ble_eq_true rfl) dX3_tell_66 (by decide) ?_
          refine z_bald hC 2 rfl (by omega) (by decide) dX3_tell_69 ?_
          refine z_top (b := (zPth d (j + 1)).1) hcell.2 ?_
          refine z_istore hC (lv' := [(5, _), (2, _), (3, _), (4, _), (0, _), (1, _)]) dX3_tell_70 (by decide) rfl ?_
          refine z_iload hC 0 dX3_tell_72 rfl ?_
          refine z_iload_n hC 1 dX3_tell_74 rfl rfl ?_
          refine z_icmp_le hC 90 dX3_tell_75 (by decide) (by omega) (by omega) (fun c_75 => ?_) (fun c_75 => ?_)
          ·
            exfalso; omega
          ·
            refine z_iload hC 0 dX3_tell_78 rfl ?_
            refine z_aload_n hC 4 dX3_tell_80 rfl rfl ?_
            refine z_get hC iX3_tell_3 0 0 rfl rfl (by decide) mX3_tell_f28 rfl dX3_tell_81 ?_
            refine z_getN hC iX3_tell_0 3 7 rfl rfl (by decide) nf_RX3_53 rfl dX3_tell_84 ?_
            refine z_icmp_le hC 91 dX3_tell_87 (by decide) (by omega) (by omega) (fun c_87 => ?_) (fun c_87 => ?_)
            ·
              refine z_aload_n hC 4 dX3_tell_91 rfl rfl ?_
              refine z_get hC iX3_tell_3 0 2 rfl rfl (by decide) mX3_tell_f16 rfl dX3_tell_92 ?_
              refine z_aload_n hC 4 dX3_tell_95 rfl rfl ?_
              refine z_get hC iX3_tell_3 0 0 rfl rfl (by decide) mX3_tell_f28 rfl dX3_tell_96 ?_
              refine z_aload_n hC 4 dX3_tell_99 rfl rfl ?_
              refine z_get hC iX3_tell_3 0 0 rfl rfl (by decide) mX3_tell_f28 rfl dX3_tell_100 ?_
              refine z_iload_n hC 1 dX3_tell_103 rfl rfl ?_
              refine z_vnRi hC 1 (c_X0_startBehind (xl X) g _ _ _ _ _ _ _ _ _ _ _ _ _ _ _ _ _ hI1 (by omega)) gX3_tell_X0_startBehind_n72 nm_RX3_72 mX3_tell_iniRX0 mX3_tell_im_X0_startBehind mX3_tell_se_X0_startBehind rfl hd_X0_startBehind_s (by decide) ⟨rfl, rfl⟩ [3, 4, 5, 6, 7, 8, 9, 10] (by decide) rfl 3 0 rfl rfl rfl rfl rfl (Nat.le_of_ble_eq_true rfl) dX3_tell_104 (by decide) ?_
              refine z_iload hC 0 dX3_tell_107 rfl ?_
              refine z_aload_n hC 4 dX3_tell_109 rfl rfl ?_
              refine z_get hC iX3_tell_3 0 1 rfl rfl (by decide) mX3_tell_f32 rfl dX3_tell_110 ?_
              refine z_getN hC iX3_tell_2 11 0 rfl rfl (by decide) nf_RX3_95 rfl dX3_tell_113 ?_
              refine z_iload hC 3 dX3_tell_116 rfl ?_
              refine z_iald hC 12 rfl (by omega) (by decide) dX3_tell_118 ?_
              refine z_aload_n hC 4 dX3_tell_119 rfl rfl ?_
              refine z_get hC iX3_tell_3 0 1 rfl rfl (by decide) mX3_tell_f32 rfl dX3_tell_120 ?_
              refine z_aload_n hC 4 dX3_tell_123 rfl rfl ?_
              refine z_get hC iX3_tell_3 0 5 rfl rfl (by decide) mX3_tell_f36 rfl dX3_tell_124 ?_
              refine z_vnRi hC 1 (c_X2_moreStretchIn (xl X) g _ _ _ _ _ _ (by omega)) gX3_tell_X2_moreStretchIn_n86 nm_RX3_86 mX3_tell_iniRX2 mX3_tell_im_X2_moreStretchIn mX3_tell_se_X2_moreStretchIn rfl hd_X2_moreStretchIn_s (by decide) ⟨rfl, rfl⟩ [11, 12, 13] (by decide) rfl 11 2 rfl rfl rfl rfl rfl (Nat.le_of_ble_eq_true rfl) dX3_tell_127 (by decide) ?_
              refine z_vnWv (wr := [_, _, _, _, _, _, _, _, _, _, _]) hC 5 (c_X1_measure (xl X) g _ _ _ _ _ _ _ _ _ _ _ _ _ _ _ _ _ _ _ _ _ _ _ _ _ hI1 hI2 (by omega) ⟨by omega, by split <;> omega⟩) gX3_tell_X1_measure_n99 nm_RX3_99 mX3_tell_iniRX1 mX3_tell_im_X1_measure mX3_tell_se_X1_measure rfl hd_X1_measure_s (by decide) ⟨rfl, rfl⟩ [14, 3, 4, 5, 6, 7, 8, 9, 10] [0, 1, 2, 11, 12, 13, 15, 16, 17, 18, 19] (by decide) rfl rfl (by decide) (by decide) 14 1 rfl rfl rfl rfl rfl (Nat.le_of_ble_eq_true rfl) dX3_tell_130 (by decide) (fun u_130 p_130 => ?_)
              obtain ⟨l1_130, u1_130, k1_130, d1_130⟩ := u_130
              try dsimp only at p_130
              refine z_ws (ws' := [(hS, eo 3 [.ref hI, .ref oR, .ref hL, .ref aC, .ref aN, .int (iZ (ps))]), (aC, el g 20808 C), (aN, eb g 20808 N), (hI, eo 0 [.ref aK, .ref aV, .ref aP, .ref aM, .ref aL, .ref aS, .ref aH, .int (iZ (n))]), (aK, ei g 100 K), (aV, ei g 100 V), (aP, ei g 100 P), (aM, ez g 100 M), (aL, ei g 101 LB), (aS, ei g 101 SB), (aH, ei g 101 HB), (oR, eo 2 [.ref aW, .ref aT]), (aW, ei g 50 W), (aT, ei g 3 T), (hL, eo 1 [.int (iZ (l1_130)), .int (iZ (u1_130)), .int (iZ (k1_130)), .int (iZ (d1_130))]), (hY, eo 4 [.ref aE, .ref aQ, .ref aB, .ref aU, .int (iZ ((j : Int))), .int (iZ (ps)), .long (lZ ((zVL d 0 (-1) 0).1))]), (aE, ei g 50 E2), (aQ, ei g 50 Q2), (aB, ei g 50 B2), (aU, ei g 50 U2)]) [0, 1, 2, 12, 13, 14, 15, 16, 17, 18, 19, 3, 4, 5, 11, 6, 7, 8, 9, 10] (by decide) rfl ?_
              have hm : zMeas n K P LB SB HB W (if ps = 3 then T 2 else 0) (zPth d j).1 (zPth d (j + 1)).1 j l1_130 u1_130 k1_130 d1_130 := p_130
              have hms := hm.2.1 hft.2.2.2.1
              have hk2 : k1_130 = (zPth d (j + 1)).2 := by rw [hms.2.2, hd]; rfl
              refine z_aload_n hC 5 dX3_tell_133 rfl rfl ?_
              refine z_iload hC 0 dX3_tell_134 rfl ?_
              refine z_aload_n hC 4 dX3_tell_136 rfl rfl ?_
              refine z_get hC iX3_tell_3 0 2 rfl rfl (by decide) mX3_tell_f16 rfl dX3_tell_137 ?_
              refine z_vnWv (wr := [_, _, _, _, _, _, _, _, _, _, _, _, _, _]) hC 2 (c_X4_append (xl X) g _ _ _ _ _ _ _ _ _ _ _ _ _ _ _ _ _ _ (by omega)) gX3_tell_X4_append_n152 nm_RX3_152 mX3_tell_iniRX4 mX3_tell_im_X4_append mX3_tell_se_X4_append rfl hd_X4_append_s (by decide) ⟨rfl, rfl⟩ [15, 16, 17, 18, 19, 14] [0, 1, 2, 3, 4, 5, 6, 7, 8, 9, 10, 11, 12, 13] (by decide) rfl rfl (by decide) (by decide) 15 4 rfl rfl rfl rfl rfl (Nat.le_of_ble_eq_true rfl) dX3_tell_140 (by decide) (fun u_140 p_140 => ?_)
              rcases p_140 with ⟨a_140, rfl⟩ | ⟨a_140, rfl⟩
              ·
                refine z_ws (ws' := [(hS, eo 3 [.ref hI, .ref oR, .ref hL, .ref aC, .ref aN, .int (iZ (ps))]), (aC, el g 20808 C), (aN, eb g 20808 N), (hI, eo 0 [.ref aK, .ref aV, .ref aP, .ref aM, .ref aL, .ref aS, .ref aH, .int (iZ (n))]), (aK, ei g 100 K), (aV, ei g 100 V), (aP, ei g 100 P), (aM, ez g 100 M), (aL, ei g 101 LB), (aS, ei g 101 SB), (aH, ei g 101 HB), (oR, eo 2 [.ref aW, .ref aT]), (aW, ei g 50 W), (aT, ei g 3 T), (hL, eo 1 [.int (iZ (l1_130)), .int (iZ (u1_130)), .int (iZ (k1_130)), .int (iZ (d1_130))]), (hY, eo 4 [.ref aE, .ref aQ, .ref aB, .ref aU, .int (iZ ((((j : Int))))), .int (iZ (ps)), .long (lZ (((zVL d 0 (-1) 0).1)))]), (aE, ei g 50 E2), (aQ, ei g 50 Q2), (aB, ei g 50 B2), (aU, ei g 50 U2)]) [0, 1, 2, 3, 4, 5, 6, 7, 8, 9, 10, 11, 12, 13, 19, 14, 15, 16, 17, 18] (by decide) rfl ?_
                exfalso; omega
              ·
                refine z_ws (ws' := [(hS, eo 3 [.ref hI, .ref oR, .ref hL, .ref aC, .ref aN, .int (iZ (ps))]), (aC, el g 20808 C), (aN, eb g 20808 N), (hI, eo 0 [.ref aK, .ref aV, .ref aP, .ref aM, .ref aL, .ref aS, .ref aH, .int (iZ (n))]), (aK, ei g 100 K), (aV, ei g 100 V), (aP, ei g 100 P), (aM, ez g 100 M), (aL, ei g 101 LB), (aS, ei g 101 SB), (aH, ei g 101 HB), (oR, eo 2 [.ref aW, .ref aT]), (aW, ei g 50 W), (aT, ei g 3 T), (hL, eo 1 [.int (iZ (l1_130)), .int (iZ (u1_130)), .int (iZ (k1_130)), .int (iZ (d1_130))]), (hY, eo 4 [.ref aE, .ref aQ, .ref aB, .ref aU, .int (iZ ((((j : Int)) + 1))), .int (iZ (ps)), .long (lZ (((zVL d 0 (-1) 0).1)))]), (aE, ei g 50 ((uZ E2 ((j : Int)) ((zPth d (j + 1)).1)))), (aQ, ei g 50 ((uZ Q2 ((j : Int)) l1_130))), (aB, ei g 50 ((uZ B2 ((j : Int)) u1_130))), (aU, ei g 50 ((uZ U2 ((j : Int)) k1_130)))]) [0, 1, 2, 3, 4, 5, 6, 7, 8, 9, 10, 11, 12, 13, 19, 14, 15, 16, 17, 18] (by decide) rfl ?_
                refine z_iload hC 0 dX3_tell_143 rfl ?_
                refine z_istore_n hC (lv' := [(2, _), (5, _), (3, _), (4, _), (0, _), (1, _)]) dX3_tell_145 rfl (by decide) rfl ?_
                refine z_aload_n hC 4 dX3_tell_146 rfl rfl ?_
                refine z_get hC iX3_tell_3 0 2 rfl rfl (by decide) mX3_tell_f16 rfl dX3_tell_147 ?_
                refine z_getN hC iX3_tell_1 14 2 rfl rfl (by decide) nf_RX3_109 rfl dX3_tell_150 ?_
                refine z_top hk2 ?_
                refine z_istore_n hC (lv' := [(3, _), (2, _), (5, _), (4, _), (0, _), (1, _)]) dX3_tell_153 rfl (by decide) rfl ?_
                refine z_iinc hC (lv' := [(4, _), (3, _), (2, _), (5, _), (0, _), (1, _)]) 3 dX3_tell_154 rfl (by decide) rfl ?_
                refine z_goto (tgt := 40) hC dX3_tell_157 (by decide) ?_
                refine z_lv (lv' := [(2, _), (3, _), (4, _), (0, _), (1, _)]) [2, 1, 0, 4, 5] rfl ?_
                exact ih_40 (j + 1) _ _ _ _ _ _ _ _ (by omega) (zWay_s hW rfl hm.1 hms.2.1 hk2) (by omega)
            ·
              exfalso; omega
  refine z_lv (lv' := [(2, _), (3, _), (4, _), (0, _), (1, _)]) [2, 1, 0, 3, 4] rfl ?_
  exact L40 _ 0 _ _ _ _ _ _ _ _ (by omega) zWay_0 (Nat.lt_succ_self _)
