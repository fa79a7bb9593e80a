theorem hd_J7_fill_53178_s : yJ7_fill_53178.cls ≠ "java/lang/invoke/MethodHandle" ∧ yJ7_fill_53178.cls ≠ "java/lang/invoke/VarHandle" ∧ (parseMethodDescriptor yJ7_fill_53178.desc).map (fun d => d.parameters.length) = some 2 := by decide +kernel
theorem df_X1 : ∀ j, j < 4 → defaultValue (tyX1 j) = vp_V [.int (iZ (0)), .int (iZ (0)), .int (iZ (0)), .int (iZ (0))] j := by
  intro j hj
  rcases j with _ | j
  · rfl
  rcases j with _ | j
  · rfl
  rcases j with _ | j
  · rfl
  rcases j with _ | j
  · rfl
  omega
theorem nm_RX3_15 : (RX3, 15, yX1_init, "BreakSearch") ∈ zNM := by decide +kernel
theorem hd_X1_init_s : yX1_init.cls ≠ "java/lang/invoke/MethodHandle" ∧ yX1_init.cls ≠ "java/lang/invoke/VarHandle" ∧ (parseMethodDescriptor yX1_init.desc).map (fun d => d.parameters.length) = some 0 := by decide +kernel
theorem df_X0 : ∀ j, j < 8 → defaultValue (tyX0 j) = vp_V [.null, .null, .null, .null, .null, .null, .null, .int (iZ (0))] j := by
  intro j hj
  rcases j with _ | j
  · rfl
  rcases j with _ | j
  · rfl
  rcases j with _ | j
  · rfl
  rcases j with _ | j
  · rfl
  rcases j with _ | j
  · rfl
  rcases j with _ | j
  · rfl
  rcases j with _ | j
  · rfl
  rcases j with _ | j
  · rfl
  omega
theorem nm_RX5_9 : (RX5, 9, yX0_init, "BreakSearch") ∈ zNM := by decide +kernel
theorem hd_X0_init_s : yX0_init.cls ≠ "java/lang/invoke/MethodHandle" ∧ yX0_init.cls ≠ "java/lang/invoke/VarHandle" ∧ (parseMethodDescriptor yX0_init.desc).map (fun d => d.parameters.length) = some 0 := by decide +kernel
theorem df_X2 : ∀ j, j < 2 → defaultValue (tyX2 j) = vp_V [.null, .null] j := by
  intro j hj
  rcases j with _ | j
  · rfl
  rcases j with _ | j
  · rfl
  omega
theorem nm_RX5_18 : (RX5, 18, yX2_init, "BreakSearch") ∈ zNM := by decide +kernel
theorem hd_X2_init_s : yX2_init.cls ≠ "java/lang/invoke/MethodHandle" ∧ yX2_init.cls ≠ "java/lang/invoke/VarHandle" ∧ (parseMethodDescriptor yX2_init.desc).map (fun d => d.parameters.length) = some 1 := by decide +kernel
theorem df_X3 : ∀ j, j < 6 → defaultValue (tyX3 j) = vp_V [.null, .null, .null, .null, .null, .int (iZ (0))] j := by
  intro j hj
  rcases j with _ | j
  · rfl
  rcases j with _ | j
  · rfl
  rcases j with _ | j
  · rfl
  rcases j with _ | j
  · rfl
  rcases j with _ | j
  · rfl
  rcases j with _ | j
  · rfl
  omega
theorem nm_RX5_27 : (RX5, 27, yX3_init, "BreakSearch") ∈ zNM := by decide +kernel
theorem hd_X3_init_s : yX3_init.cls ≠ "java/lang/invoke/MethodHandle" ∧ yX3_init.cls ≠ "java/lang/invoke/VarHandle" ∧ (parseMethodDescriptor yX3_init.desc).map (fun d => d.parameters.length) = some 2 := by decide +kernel
theorem df_X4 : ∀ j, j < 7 → defaultValue (tyX4 j) = vp_V [.null, .null, .null, .null, .int (iZ (0)), .int (iZ (0)), .long (lZ (0))] j := by
  intro j hj
  rcases j with _ | j
  · rfl
  rcases j with _ | j
  · rfl
  rcases j with _ | j
  · rfl
  rcases j with _ | j
  · rfl
  rcases j with _ | j
  · rfl
  rcases j with _ | j
  · rfl
  rcases j with _ | j
  · rfl
  omega
theorem nm_RX5_36 : (RX5, 36, yX4_init, "BreakSearch") ∈ zNM := by decide +kernel
theorem hd_X4_init_s : yX4_init.cls ≠ "java/lang/invoke/MethodHandle" ∧ yX4_init.cls ≠ "java/lang/invoke/VarHandle" ∧ (parseMethodDescriptor yX4_init.desc).map (fun d => d.parameters.length) = some 0 := by decide +kernel
abbrev rm_J7_fill_53178 : Room := { frames := 1, cells := 0, slots := 0, locals := 12 }
set_option maxHeartbeats 4000000 in
set_option maxRecDepth 100000 in
theorem c_J7_fill_53178 (l : Launch) (g : zG) (a : Nat) (F : Int → Int) (v : Int)  : zMWv (S := (Int → Int)) l yJ7_fill_53178 wsJ7_fill_53178 rm_J7_fill_53178 g [(a, ei g 50 F)] [.ref a, .int (iZ (v))] (fun u => ∀ i, 0 ≤ i → i < 50 → u i = v) (fun u => [(a, ei g 50 u)]) 0 0 := by
  refine z_beWv (cc := cJ7_fill_53178) (nL := 4) (by decide +kernel) rfl (Nat.le_of_ble_eq_true rfl) ?_
  intro X A hC hN hR
  have hC : zC X g cJ7_fill_53178 RJ7 wsJ7_fill_53178 rm_J7_fill_53178 4 := hC
  show ZG X g (zD X A) 0 0 [(a, ei g 50 F)] [(0, .ref a), (1, .int (iZ (v)))] 0 []
  refine z_iconst hC dJ7_fill_53178_0 ?_
  refine z_istore_n hC (lv' := [(2, _), (0, _), (1, _)]) dJ7_fill_53178_1 rfl (by decide) rfl ?_
  refine z_aload_n hC 1 dJ7_fill_53178_2 rfl rfl ?_
  refine z_alen hC 0 rfl dJ7_fill_53178_3 ?_
  refine z_istore_n hC (lv' := [(3, _), (2, _), (0, _), (1, _)]) dJ7_fill_53178_4 rfl (by decide) rfl ?_
  have L5 : ∀ (fu : Nat) (k : Int) (F2 : Int → Int), (0 ≤ k ∧ k ≤ 50) → (∀ i, 0 ≤ i → i < k → F2 i = v) → (50 - k).toNat < fu → ZG X g (zD X A) 0 0 [(a, ei g 50 F2)] [(2, .int (iZ (k))), (3, .int (iZ ((50 : Nat)))), (0, .ref a), (1, .int (iZ (v)))] 5 [] := by
    intro fu
    induction fu with
    | zero => intro k F2; intros; omega
    | succ fu ih_5 =>
      intro k F2 hk hf hn
      refine z_iload_n hC 0 dJ7_fill_53178_5 rfl rfl ?_
      refine z_iload_n hC 1 dJ7_fill_53178_6 rfl rfl ?_
      refine z_icmp_ge hC 20 dJ7_fill_53178_7 (by decide) (by omega) (by omega) (fun c_7 => ?_) (fun c_7 => ?_)
      ·
        exact hR (F2) _ _ _ [0] (fun i g1 g2 => hf i g1 (by omega)) (by decide) rfl dJ7_fill_53178_20
      ·
        refine z_aload_n hC 2 dJ7_fill_53178_10 rfl rfl ?_
        refine z_iload_n hC 0 dJ7_fill_53178_11 rfl rfl ?_
        refine z_iload_n hC 3 dJ7_fill_53178_12 rfl rfl ?_
        refine z_iast hC 0 rfl (by omega) (by decide) dJ7_fill_53178_13 (ws' := [_]) rfl ?_
        refine z_iinc hC (lv' := [(2, _), (3, _), (0, _), (1, _)]) 0 dJ7_fill_53178_14 rfl (by decide) rfl ?_
        refine z_goto (tgt := 5) hC dJ7_fill_53178_17 (by decide) ?_
        exact ih_5 (k + 1) _ (by omega) (fun i g1 g2 => by (by_cases e : i = k); (rw [e, uZ_s]); (rw [uZ_n _ _ e]; exact hf i g1 (by omega))) (by omega)
  refine z_lv (lv' := [(2, _), (3, _), (0, _), (1, _)]) [1, 0, 2, 3] rfl ?_
  exact L5 _ 0 _ (by omega) (fun i g1 g2 => by omega) (Nat.lt_succ_self _)
set_option maxRecDepth 20000 in
theorem mX0_init_o3 : Cond.methodLink RX0 3 objectInit ∈ wsX0_init := by decide +kernel
set_option maxRecDepth 20000 in
theorem mX0_init_oi : Cond.instanceMethod objectInit ∈ wsX0_init := by decide +kernel
set_option maxRecDepth 20000 in
theorem mX0_init_oc : Cond.code objectInit ⟨#[0xb1]⟩ 1 none ∈ wsX0_init := by decide +kernel
set_option maxRecDepth 20000 in
theorem mX0_init_ai : Cond.arrayClass .int ∈ wsX0_init := by decide +kernel
set_option maxRecDepth 20000 in
theorem mX0_init_f9 : Cond.fieldLink RX0 9 "BreakSearch$Items" "kinds" "[I" ∈ wsX0_init := by decide +kernel
set_option maxRecDepth 20000 in
theorem iX0_init_0 : ∀ w ∈ u_ws RX0 TX0 8, w ∈ wsX0_init := by decide +kernel
set_option maxRecDepth 20000 in
theorem mX0_init_f15 : Cond.fieldLink RX0 15 "BreakSearch$Items" "values" "[I" ∈ wsX0_init := by decide +kernel
set_option maxRecDepth 20000 in
theorem mX0_init_f18 : Cond.fieldLink RX0 18 "BreakSearch$Items" "penaltyWidths" "[I" ∈ wsX0_init := by decide +kernel
set_option maxRecDepth 20000 in
theorem mX0_init_az : Cond.arrayClass .boolean ∈ wsX0_init := by decide +kernel
set_option maxRecDepth 20000 in
theorem mX0_init_f21 : Cond.fieldLink RX0 21 "BreakSearch$Items" "marks" "[Z" ∈ wsX0_init := by decide +kernel
set_option maxRecDepth 20000 in
theorem mX0_init_f25 : Cond.fieldLink RX0 25 "BreakSearch$Items" "lengthBefore" "[I" ∈ wsX0_init := by decide +kernel
set_option maxRecDepth 20000 in
theorem mX0_init_f28 : Cond.fieldLink RX0 28 "BreakSearch$Items" "stretchBefore" "[I" ∈ wsX0_init := by decide +kernel
set_option maxRecDepth 20000 in
theorem mX0_init_f31 : Cond.fieldLink RX0 31 "BreakSearch$Items" "shrinkBefore" "[I" ∈ wsX0_init := by decide +kernel
abbrev rm_X0_init : Room := { frames := 1, cells := 7, slots := 703, locals := 12 }
set_option maxHeartbeats 4000000 in
set_option maxRecDepth 100000 in
theorem c_X0_init (l : Launch) (g : zG) (hI : Nat)  : zMWv (S := (Nat) × (Nat) × (Nat) × (Nat) × (Nat) × (Nat) × (Nat)) l yX0_init wsX0_init rm_X0_init g [(hI, eo 0 [.null, .null, .null, .null, .null, .null, .null, .int (iZ (0))])] [.ref hI] (fun _ => True) (fun u => [(hI, eo 0 [.ref u.1, .ref u.2.1, .ref u.2.2.1, .ref u.2.2.2.1, .ref u.2.2.2.2.1, .ref u.2.2.2.2.2.1, .ref u.2.2.2.2.2.2, .int (iZ (0))]), (u.1, ei g 100 ((fun _ => 0))), (u.2.1, ei g 100 ((fun _ => 0))), (u.2.2.1, ei g 100 ((fun _ => 0))), (u.2.2.2.1, ez g 100 ((fun _ => 0))), (u.2.2.2.2.1, ei g 101 ((fun _ => 0))), (u.2.2.2.2.2.1, ei g 101 ((fun _ => 0))), (u.2.2.2.2.2.2, ei g 101 ((fun _ => 0)))]) 7 703 := by
  refine z_beWv (cc := cX0_init) (nL := 1) (plainFor_of_name (by decide +kernel)) rfl (Nat.le_of_ble_eq_true rfl) ?_
  intro X A hC hN hR
  have hC : zC X g cX0_init RX0 wsX0_init rm_X0_init 1 := hC
  show ZG X g (zD X A) 0 0 [(hI, eo 0 [.null, .null, .null, .null, .null, .null, .null, .int (iZ (0))])] [(0, .ref hI)] 0 []
  refine z_aload_n hC 0 dX0_init_0 rfl rfl ?_
  refine z_objInit hC mX0_init_o3 mX0_init_oi mX0_init_oc dX0_init_1 (by decide) (Nat.le_of_ble_eq_true rfl) ?_
  refine z_aload_n hC 0 dX0_init_4 rfl rfl ?_
  refine z_bip hC dX0_init_5 (by decide) ?_
  refine z_newai hC 100 mX0_init_ai rfl (Nat.le_of_ble_eq_true rfl) (Nat.le_of_ble_eq_true rfl) (Nat.le_of_ble_eq_true rfl) dX0_init_7 (fun q_7 => ?_)
  show ZG X g (zD X A) 1 100 [(hI, eo 0 [.null, .null, .null, .null, .null, .null, .null, .int (iZ (0))]), (q_7, ei g 100 ((fun _ => 0)))] [(0, .ref hI)] 9 [.ref q_7, .ref hI]
  refine z_putF hC iX0_init_0 tyX0 tyX0_ok nmX0 0 0 rfl rfl (by decide) mX0_init_f9 rfl hN rfl rfl rfl (Nat.le_of_ble_eq_true rfl) dX0_init_9 (ws' := [_, _]) rfl ?_
  refine z_aload_n hC 0 dX0_init_12 rfl rfl ?_
  refine z_bip hC dX0_init_13 (by decide) ?_
  refine z_newai hC 100 mX0_init_ai rfl (Nat.le_of_ble_eq_true rfl) (Nat.le_of_ble_eq_true rfl) (Nat.le_of_ble_eq_true rfl) dX0_init_15 (fun q_15 => ?_)
  show ZG X g (zD X A) 2 200 [(hI, eo 0 [.ref q_7, .null, .null, .null, .null, .null, .null, .int (iZ (0))]), (q_7, ei g 100 ((fun _ => 0))), (q_15, ei g 100 ((fun _ => 0)))] [(0, .ref hI)] 17 [.ref q_15, .ref hI]
  refine z_putF hC iX0_init_0 tyX0 tyX0_ok nmX0 0 1 rfl rfl (by decide) mX0_init_f15 rfl hN rfl rfl rfl (Nat.le_of_ble_eq_true rfl) dX0_init_17 (ws' := [_, _, _]) rfl ?_
  refine z_aload_n hC 0 dX0_init_20 rfl rfl ?_
  refine z_bip hC dX0_init_21 (by decide) ?_
  refine z_newai hC 100 mX0_init_ai rfl (Nat.le_of_ble_eq_true rfl) (Nat.le_of_ble_eq_true rfl) (Nat.le_of_ble_eq_true rfl) dX0_init_23 (fun q_23 => ?_)
  show ZG X g (zD X A) 3 300 [(hI, eo 0 [.ref q_7, .ref q_15, .null, .null, .null, .null, .null, .int (iZ (0))]), (q_7, ei g 100 ((fun _ => 0))), (q_15, ei g 100 ((fun _ => 0))), (q_23, ei g 100 ((fun _ => 0)))] [(0, .ref hI)] 25 [.ref q_23, .ref hI]
  refine z_putF hC iX0_init_0 tyX0 tyX0_ok nmX0 0 2 rfl rfl (by decide) mX0_init_f18 rfl hN rfl rfl rfl (Nat.le_of_ble_eq_true rfl) dX0_init_25 (ws' := [_, _, _, _]) rfl ?_
  refine z_aload_n hC 0 dX0_init_28 rfl rfl ?_
  refine z_bip hC dX0_init_29 (by decide) ?_
  refine z_newaz hC 100 mX0_init_az rfl (Nat.le_of_ble_eq_true rfl) (Nat.le_of_ble_eq_true rfl) (Nat.le_of_ble_eq_true rfl) dX0_init_31 (fun q_31 => ?_)
  show ZG X g (zD X A) 4 400 [(hI, eo 0 [.ref q_7, .ref q_15, .ref q_23, .null, .null, .null, .null, .int (iZ (0))]), (q_7, ei g 100 ((fun _ => 0))), (q_15, ei g 100 ((fun _ => 0))), (q_23, ei g 100 ((fun _ => 0))), (q_31, ez g 100 ((fun _ => 0)))] [(0, .ref hI)] 33 [.ref q_31, .ref hI]
  refine z_putF hC iX0_init_0 tyX0 tyX0_ok nmX0 0 3 rfl rfl (by decide) mX0_init_f21 rfl hN rfl rfl rfl (Nat.le_of_ble_eq_true rfl) dX0_init_33 (ws' := [_, _, _, _, _]) rfl ?_
  refine z_aload_n hC 0 dX0_init_36 rfl rfl ?_
  refine z_bip hC dX0_init_37 (by decide) ?_
  refine z_newai hC 101 mX0_init_ai rfl (Nat.le_of_ble_eq_true rfl) (Nat.le_of_ble_eq_true rfl) (Nat.le_of_ble_eq_true rfl) dX0_init_39 (fun q_39 => ?_)
  show ZG X g (zD X A) 5 501 [(hI, eo 0 [.ref q_7, .ref q_15, .ref q_23, .ref q_31, .null, .null, .null, .int (iZ (0))]), (q_7, ei g 100 ((fun _ => 0))), (q_15, ei g 100 ((fun _ => 0))), (q_23, ei g 100 ((fun _ => 0))), (q_31, ez g 100 ((fun _ => 0))), (q_39, ei g 101 ((fun _ => 0)))] [(0, .ref hI)] 41 [.ref q_39, .ref hI]
  refine z_putF hC iX0_init_0 tyX0 tyX0_ok nmX0 0 4 rfl rfl (by decide) mX0_init_f25 rfl hN rfl rfl rfl (Nat.le_of_ble_eq_true rfl) dX0_init_41 (ws' := [_, _, _, _, _, _]) rfl ?_
  refine z_aload_n hC 0 dX0_init_44 rfl rfl ?_
  refine z_bip hC dX0_init_45 (by decide) ?_
  refine z_newai hC 101 mX0_init_ai rfl (Nat.le_of_ble_eq_true rfl) (Nat.le_of_ble_eq_true rfl) (Nat.le_of_ble_eq_true rfl) dX0_init_47 (fun q_47 => ?_)
  show ZG X g (zD X A) 6 602 [(hI, eo 0 [.ref q_7, .ref q_15, .ref q_23, .ref q_31, .ref q_39, .null, .null, .int (iZ (0))]), (q_7, ei g 100 ((fun _ => 0))), (q_15, ei g 100 ((fun _ => 0))), (q_23, ei g 100 ((fun _ => 0))), (q_31, ez g 100 ((fun _ => 0))), (q_39, ei g 101 ((fun _ => 0))), (q_47, ei g 101 ((fun _ => 0)))] [(0, .ref hI)] 49 [.ref q_47, .ref hI]
  refine z_putF hC iX0_init_0 tyX0 tyX0_ok nmX0 0 5 rfl rfl (by decide) mX0_init_f28 rfl hN rfl rfl rfl (Nat.le_of_ble_eq_true rfl) dX0_init_49 (ws' := [_, _, _, _, _, _, _]) rfl ?_
  refine z_aload_n hC 0 dX0_init_52 rfl rfl ?_
  refine z_bip hC dX0_init_53 (by decide) ?_
  refine z_newai hC 101 mX0_init_ai rfl (Nat.le_of_ble_eq_true rfl) (Nat.le_of_ble_eq_true rfl) (Nat.le_of_ble_eq_true rfl) dX0_init_55 (fun q_55 => ?_)
  show ZG X g (zD X A) 7 703 [(hI, eo 0 [.ref q_7, .ref q_15, .ref q_23, .ref q_31, .ref q_39, .ref q_47, .null, .int (iZ (0))]), (q_7, ei g 100 ((fun _ => 0))), (q_15, ei g 100 ((fun _ => 0))), (q_23, ei g 100 ((fun _ => 0))), (q_31, ez g 100 ((fun _ => 0))), (q_39, ei g 101 ((fun _ => 0))), (q_47, ei g 101 ((fun _ => 0))), (q_55, ei g 101 ((fun _ => 0)))] [(0, .ref hI)] 57 [.ref q_55, .ref hI]
  refine z_putF hC iX0_init_0 tyX0 tyX0_ok nmX0 0 6 rfl rfl (by decide) mX0_init_f31 rfl hN rfl rfl rfl (Nat.le_of_ble_eq_true rfl) dX0_init_57 (ws' := [_, _, _, _, _, _, _, _]) rfl ?_
  exact hR (q_7, q_15, q_23, q_31, q_39, q_47, q_55) _ _ _ [0, 1, 2, 3, 4, 5, 6, 7] trivial (by decide) rfl dX0_init_60
set_option maxRecDepth 20000 in
theorem mX1_init_o3 : Cond.methodLink RX1 3 objectInit ∈ wsX1_init := by decide +kernel
set_option maxRecDepth 20000 in
theorem mX1_init_oi : Cond.instanceMethod objectInit ∈ wsX1_init := by decide +kernel
set_option maxRecDepth 20000 in
theorem mX1_init_oc : Cond.code objectInit ⟨#[0xb1]⟩ 1 none ∈ wsX1_init := by decide +kernel
abbrev rm_X1_init : Room := { frames := 1, cells := 0, slots := 0, locals := 12 }
set_option maxHeartbeats 4000000 in
set_option maxRecDepth 100000 in
theorem c_X1_init (l : Launch) (g : zG) (hL : Nat)  : zMWv (S := Unit) l yX1_init wsX1_init rm_X1_init g [(hL, eo 1 [.int (iZ (0)), .int (iZ (0)), .int (iZ (0)), .int (iZ (0))])] [.ref hL] (fun _ => True) (fun u => [(hL, eo 1 [.int (iZ (0)), .int (iZ (0)), .int (iZ (0)), .int (iZ (0))])]) 0 0 := by
  refine z_beWv (cc := cX1_init) (nL := 1) (plainFor_of_name (by decide +kernel)) rfl (Nat.le_of_ble_eq_true rfl) ?_
  intro X A hC hN hR
  have hC : zC X g cX1_init RX1 wsX1_init rm_X1_init 1 := hC
  show ZG X g (zD X A) 0 0 [(hL, eo 1 [.int (iZ (0)), .int (iZ (0)), .int (iZ (0)), .int (iZ (0))])] [(0, .ref hL)] 0 []
  refine z_aload_n hC 0 dX1_init_0 rfl rfl ?_
  refine z_objInit hC mX1_init_o3 mX1_init_oi mX1_init_oc dX1_init_1 (by decide) (Nat.le_of_ble_eq_true rfl) ?_
  exact hR () _ _ _ [0] trivial (by decide) rfl dX1_init_4
set_option maxRecDepth 20000 in
theorem mX2_init_o3 : Cond.methodLink RX2 3 objectInit ∈ wsX2_init := by decide +kernel
set_option maxRecDepth 20000 in
theorem mX2_init_oi : Cond.instanceMethod objectInit ∈ wsX2_init := by decide +kernel
set_option maxRecDepth 20000 in
theorem mX2_init_oc : Cond.code objectInit ⟨#[0xb1]⟩ 1 none ∈ wsX2_init := by decide +kernel
set_option maxRecDepth 20000 in
theorem mX2_init_ai : Cond.arrayClass .int ∈ wsX2_init := by decide +kernel
set_option maxRecDepth 20000 in
theorem mX2_init_f9 : Cond.fieldLink RX2 9 "BreakSearch$Rules" "widths" "[I" ∈ wsX2_init := by decide +kernel
set_option maxRecDepth 20000 in
theorem iX2_init_2 : ∀ w ∈ u_ws RX2 TX2 2, w ∈ wsX2_init := by decide +kernel
set_option maxRecDepth 20000 in
theorem mX2_init_f15 : Cond.fieldLink RX2 15 "BreakSearch$Rules" "settings" "[I" ∈ wsX2_init := by decide +kernel
abbrev rm_X2_init : Room := { frames := 2, cells := 2, slots := 53, locals := 35 }
set_option maxHeartbeats 4000000 in
set_option maxRecDepth 100000 in
theorem c_X2_init (l : Launch) (g : zG) (oR : Nat) (v : Int)  : zMWv (S := (Nat) × (Nat) × (Int → Int)) l yX2_init wsX2_init rm_X2_init g [(oR, eo 2 [.null, .null])] [.ref oR, .int (iZ (v))] (fun u => ∀ i, 0 ≤ i → i < 50 → u.2.2 i = v) (fun u => [(oR, eo 2 [.ref u.1, .ref u.2.1]), (u.1, ei g 50 u.2.2), (u.2.1, ei g 3 (uZ (uZ (fun _ => 0) 0 100) 1 200))]) 2 53 := by
  refine z_beWv (cc := cX2_init) (nL := 2) (plainFor_of_name (by decide +kernel)) rfl (Nat.le_of_ble_eq_true rfl) ?_
  intro X A hC hN hR
  have hC : zC X g cX2_init RX2 wsX2_init rm_X2_init 2 := hC
  show ZG X g (zD X A) 0 0 [(oR, eo 2 [.null, .null])] [(0, .ref oR), (1, .int (iZ (v)))] 0 []
  refine z_aload_n hC 0 dX2_init_0 rfl rfl ?_
  refine z_objInit hC mX2_init_o3 mX2_init_oi mX2_init_oc dX2_init_1 (by decide) (Nat.le_of_ble_eq_true rfl) ?_
  refine z_aload_n hC 0 dX2_init_4 rfl rfl ?_
  refine z_bip hC dX2_init_5 (by decide) ?_
  refine z_newai hC 50 mX2_init_ai rfl (Nat.le_of_ble_eq_true rfl) (Nat.le_of_ble_eq_true rfl) (Nat.le_of_ble_eq_true rfl) dX2_init_7 (fun q_7 => ?_)
  show ZG X g (zD X A) 1 50 [(oR, eo 2 [.null, .null]), (q_7, ei g 50 ((fun _ => 0)))] [(0, .ref oR), (1, .int (iZ (v)))] 9 [.ref q_7, .ref oR]
  refine z_putF hC iX2_init_2 tyX2 tyX2_ok nmX2 0 0 rfl rfl (by decide) mX2_init_f9 rfl hN rfl rfl rfl (Nat.le_of_ble_eq_true rfl) dX2_init_9 (ws' := [_, _]) rfl ?_
  refine z_aload_n hC 0 dX2_init_12 rfl rfl ?_
  refine z_iconst hC dX2_init_13 ?_
  refine z_newai hC 3 mX2_init_ai rfl (Nat.le_of_ble_eq_true rfl) (Nat.le_of_ble_eq_true rfl) (Nat.le_of_ble_eq_true rfl) dX2_init_14 (fun q_14 => ?_)
  show ZG X g (zD X A) 2 53 [(oR, eo 2 [.ref q_7, .null]), (q_7, ei g 50 ((fun _ => 0))), (q_14, ei g 3 ((fun _ => 0)))] [(0, .ref oR), (1, .int (iZ (v)))] 16 [.ref q_14, .ref oR]
  refine z_putF hC iX2_init_2 tyX2 tyX2_ok nmX2 0 1 rfl rfl (by decide) mX2_init_f15 rfl hN rfl rfl rfl (Nat.le_of_ble_eq_true rfl) dX2_init_16 (ws' := [_, _, _]) rfl ?_
  refine z_aload_n hC 0 dX2_init_19 rfl rfl ?_
  refine z_get hC iX2_init_2 0 0 rfl rfl (by decide) mX2_init_f9 rfl dX2_init_20 ?_
  refine z_iload_n hC 1 dX2_init_23 rfl rfl ?_
  refine z_sWv (wr := [_, _]) hC 2 (c_J7_fill_53178 (xl X) g _ _ _) gX2_init_J7_fill_53178 rfl hd_J7_fill_53178_s (by decide) ⟨rfl, rfl⟩ [1] [0, 2] (by decide) rfl rfl (by decide) (by decide) rfl rfl (Nat.le_of_ble_eq_true rfl) dX2_init_24 ⟨Nat.le_of_ble_eq_true rfl, Nat.le_of_ble_eq_true rfl⟩ (fun u_24 p_24 => ?_)
  obtain ⟨F1_24, rfl⟩ : ∃ z, z = u_24 := ⟨_, rfl⟩
  try dsimp only at p_24
  refine z_ws (ws' := [(oR, eo 2 [.ref q_7, .ref q_14]), (q_7, ei g 50 F1_24), (q_14, ei g 3 ((fun _ => 0)))]) [0, 2, 1] (by decide) rfl ?_
  refine z_aload_n hC 0 dX2_init_27 rfl rfl ?_
  refine z_get hC iX2_init_2 0 1 rfl rfl (by decide) mX2_init_f15 rfl dX2_init_28 ?_
  refine z_iconst hC dX2_init_31 ?_
  refine z_bip hC dX2_init_32 (by decide) ?_
  refine z_iast hC 2 rfl (by omega) (by decide) dX2_init_34 (ws' := [_, _, _]) rfl ?_
  refine z_aload_n hC 0 dX2_init_35 rfl rfl ?_
  refine z_get hC iX2_init_2 0 1 rfl rfl (by decide) mX2_init_f15 rfl dX2_init_36 ?_
  refine z_iconst hC dX2_init_39 ?_
  refine z_sip hC dX2_init_40 (by decide) ?_
  refine z_iast hC 2 rfl (by omega) (by decide) dX2_init_43 (ws' := [_, _, _]) rfl ?_
  exact hR (q_7, q_14, F1_24) _ _ _ [0, 1, 2] p_24 (by decide) rfl dX2_init_44
set_option maxRecDepth 20000 in
theorem mX3_init_o9 : Cond.methodLink RX3 9 objectInit ∈ wsX3_init := by decide +kernel
set_option maxRecDepth 20000 in
theorem mX3_init_oi : Cond.instanceMethod objectInit ∈ wsX3_init := by decide +kernel
set_option maxRecDepth 20000 in
theorem mX3_init_oc : Cond.code objectInit ⟨#[0xb1]⟩ 1 none ∈ wsX3_init := by decide +kernel
set_option maxRecDepth 20000 in
theorem iX3_init_1 : ∀ w ∈ u_ws RX1 TX1 4, w ∈ wsX3_init := by decide +kernel
set_option maxRecDepth 20000 in
theorem mX3_init_cl3 : Cond.classLink RX3 3 RX1 ∈ wsX3_init := by decide +kernel
set_option maxRecDepth 20000 in
theorem mX3_init_itRX1 : Cond.instantiable RX1 4 ∈ wsX3_init := by decide +kernel
set_option maxRecDepth 20000 in
theorem mX3_init_iniRX1 : Cond.initialized RX1 ∈ wsX3_init := by decide +kernel
set_option maxRecDepth 20000 in
theorem mX3_init_im_X1_init : Cond.instanceMethod yX1_init ∈ wsX3_init := by decide +kernel
set_option maxRecDepth 20000 in
theorem mX3_init_f16 : Cond.fieldLink RX3 16 "BreakSearch$Search" "line" "LBreakSearch$Line;" ∈ wsX3_init := by decide +kernel
set_option maxRecDepth 20000 in
theorem iX3_init_3 : ∀ w ∈ u_ws RX3 TX3 6, w ∈ wsX3_init := by decide +kernel
set_option maxRecDepth 20000 in
theorem mX3_init_al : Cond.arrayClass .long ∈ wsX3_init := by decide +kernel
set_option maxRecDepth 20000 in
theorem mX3_init_f20 : Cond.fieldLink RX3 20 "BreakSearch$Search" "costs" "[J" ∈ wsX3_init := by decide +kernel
set_option maxRecDepth 20000 in
theorem mX3_init_ab : Cond.arrayClass .byte ∈ wsX3_init := by decide +kernel
set_option maxRecDepth 20000 in
theorem mX3_init_f24 : Cond.fieldLink RX3 24 "BreakSearch$Search" "nextBreaks" "[B" ∈ wsX3_init := by decide +kernel
set_option maxRecDepth 20000 in
theorem mX3_init_f28 : Cond.fieldLink RX3 28 "BreakSearch$Search" "items" "LBreakSearch$Items;" ∈ wsX3_init := by decide +kernel
set_option maxRecDepth 20000 in
theorem mX3_init_f32 : Cond.fieldLink RX3 32 "BreakSearch$Search" "rules" "LBreakSearch$Rules;" ∈ wsX3_init := by decide +kernel
abbrev rm_X3_init : Room := { frames := 2, cells := 3, slots := 41620, locals := 32 }
set_option maxHeartbeats 4000000 in
set_option maxRecDepth 100000 in
theorem c_X3_init (l : Launch) (g : zG) (hS hI oR : Nat)  : zMWv (S := (Nat) × (Nat) × (Nat)) l yX3_init wsX3_init rm_X3_init g [(hS, eo 3 [.null, .null, .null, .null, .null, .int (iZ (0))])] [.ref hS, .ref hI, .ref oR] (fun _ => True) (fun u => [(hS, eo 3 [.ref hI, .ref oR, .ref u.1, .ref u.2.1, .ref u.2.2, .int (iZ (0))]), (u.2.1, el g 20808 ((fun _ => 0))), (u.2.2, eb g 20808 ((fun _ => 0))), (u.1, eo 1 [.int (iZ (0)), .int (iZ (0)), .int (iZ (0)), .int (iZ (0))])]) 3 41620 := by
  refine z_beWv (cc := cX3_init) (nL := 3) (plainFor_of_name (by decide +kernel)) rfl (Nat.le_of_ble_eq_true rfl) ?_
  intro X A hC hN hR
  have hC : zC X g cX3_init RX3 wsX3_init rm_X3_init 3 := hC
  show ZG X g (zD X A) 0 0 [(hS, eo 3 [.null, .null, .null, .null, .null, .int (iZ (0))])] [(0, .ref hS), (1, .ref hI), (2, .ref oR)] 0 []
  refine z_aload_n hC 0 dX3_init_0 rfl rfl ?_
  refine z_objInit hC mX3_init_o9 mX3_init_oi mX3_init_oc dX3_init_1 (by decide) (Nat.le_of_ble_eq_true rfl) ?_
  refine z_aload_n hC 0 dX3_init_4 rfl rfl ?_
  refine z_new (ci := 1) hC iX3_init_1 tyX1 tyX1_ok mX3_init_cl3 mX3_init_itRX1 mX3_init_iniRX1 rfl df_X1 (Nat.le_of_ble_eq_true rfl) (Nat.le_of_ble_eq_true rfl) dX3_init_5 (fun q_5 => ?_)
  show ZG X g (zD X A) 1 4 [(hS, eo 3 [.null, .null, .null, .null, .null, .int (iZ (0))]), (q_5, eo 1 [.int (iZ (0)), .int (iZ (0)), .int (iZ (0)), .int (iZ (0))])] [(0, .ref hS), (1, .ref hI), (2, .ref oR)] 8 [.ref q_5, .ref hS]
  refine z_dup hC dX3_init_8 rfl ?_
  refine z_inWv (wr := [_]) hC 0 (c_X1_init (xl X) g _) gX3_init_X1_init_n15 nm_RX3_15 mX3_init_iniRX1 mX3_init_im_X1_init rfl rfl hd_X1_init_s (by decide) ⟨rfl, rfl⟩ [1] [0] (by decide) rfl rfl (by decide) (by decide) rfl rfl (Nat.le_of_ble_eq_true rfl) dX3_init_9 ⟨Nat.le_of_ble_eq_true rfl, Nat.le_of_ble_eq_true rfl⟩ (fun u_9 p_9 => ?_)
  refine z_ws (ws' := [(hS, eo 3 [.null, .null, .null, .null, .null, .int (iZ (0))]), (q_5, eo 1 [.int (iZ (0)), .int (iZ (0)), .int (iZ (0)), .int (iZ (0))])]) [0, 1] (by decide) rfl ?_
  refine z_putF hC iX3_init_3 tyX3 tyX3_ok nmX3 0 2 rfl rfl (by decide) mX3_init_f16 rfl hN rfl rfl rfl (Nat.le_of_ble_eq_true rfl) dX3_init_12 (ws' := [_, _]) rfl ?_
  refine z_aload_n hC 0 dX3_init_15 rfl rfl ?_
  refine z_sip hC dX3_init_16 (by decide) ?_
  refine z_newal hC 20808 mX3_init_al rfl (Nat.le_of_ble_eq_true rfl) (Nat.le_of_ble_eq_true rfl) (Nat.le_of_ble_eq_true rfl) dX3_init_19 (fun q_19 => ?_)
  show ZG X g (zD X A) 2 20812 [(hS, eo 3 [.null, .null, .ref q_5, .null, .null, .int (iZ (0))]), (q_5, eo 1 [.int (iZ (0)), .int (iZ (0)), .int (iZ (0)), .int (iZ (0))]), (q_19, el g 20808 ((fun _ => 0)))] [(0, .ref hS), (1, .ref hI), (2, .ref oR)] 21 [.ref q_19, .ref hS]
  refine z_putF hC iX3_init_3 tyX3 tyX3_ok nmX3 0 3 rfl rfl (by decide) mX3_init_f20 rfl hN rfl rfl rfl (Nat.le_of_ble_eq_true rfl) dX3_init_21 (ws' := [_, _, _]) rfl ?_
  refine z_aload_n hC 0 dX3_init_24 rfl rfl ?_
  refine z_sip hC dX3_init_25 (by decide) ?_
  refine z_newab hC 20808 mX3_init_ab rfl (Nat.le_of_ble_eq_true rfl) (Nat.le_of_ble_eq_true rfl) (Nat.le_of_ble_eq_true rfl) dX3_init_28 (fun q_28 => ?_)
  show ZG X g (zD X A) 3 41620 [(hS, eo 3 [.null, .null, .ref q_5, .ref q_19, .null, .int (iZ (0))]), (q_5, eo 1 [.int (iZ (0)), .int (iZ (0)), .int (iZ (0)), .int (iZ (0))]), (q_19, el g 20808 ((fun _ => 0))), (q_28, eb g 20808 ((fun _ => 0)))] [(0, .ref hS), (1, .ref hI), (2, .ref oR)] 30 [.ref q_28, .ref hS]
  refine z_putF hC iX3_init_3 tyX3 tyX3_ok nmX3 0 4 rfl rfl (by decide) mX3_init_f24 rfl hN rfl rfl rfl (Nat.le_of_ble_eq_true rfl) dX3_init_30 (ws' := [_, _, _, _]) rfl ?_
  refine z_aload_n hC 0 dX3_init_33 rfl rfl ?_
  refine z_aload_n hC 1 dX3_init_34 rfl rfl ?_
  refine z_putF hC iX3_init_3 tyX3 tyX3_ok nmX3 0 0 rfl rfl (by decide) mX3_init_f28 rfl hN rfl rfl rfl (Nat.le_of_ble_eq_true rfl) dX3_init_35 (ws' := [_, _, _, _]) rfl ?_
  refine z_aload_n hC 0 dX3_init_38 rfl rfl ?_
  refine z_aload_n hC 2 dX3_init_39 rfl rfl ?_
  refine z_putF hC iX3_init_3 tyX3 tyX3_ok nmX3 0 1 rfl rfl (by decide) mX3_init_f32 rfl hN rfl rfl rfl (Nat.le_of_ble_eq_true rfl) dX3_init_40 (ws' := [_, _, _, _]) rfl ?_
  exact hR (q_5, q_19, q_28) _ _ _ [0, 2, 3, 1] trivial (by decide) rfl dX3_init_43
set_option maxRecDepth 20000 in
theorem mX4_init_o3 : Cond.methodLink RX4 3 objectInit ∈ wsX4_init := by decide +kernel
set_option maxRecDepth 20000 in
theorem mX4_init_oi : Cond.instanceMethod objectInit ∈ wsX4_init := by decide +kernel
set_option maxRecDepth 20000 in
theorem mX4_init_oc : Cond.code objectInit ⟨#[0xb1]⟩ 1 none ∈ wsX4_init := by decide +kernel
set_option maxRecDepth 20000 in
theorem mX4_init_ai : Cond.arrayClass .int ∈ wsX4_init := by decide +kernel
set_option maxRecDepth 20000 in
theorem mX4_init_f9 : Cond.fieldLink RX4 9 "BreakSearch$Way" "ends" "[I" ∈ wsX4_init := by decide +kernel
set_option maxRecDepth 20000 in
theorem iX4_init_4 : ∀ w ∈ u_ws RX4 TX4 7, w ∈ wsX4_init := by decide +kernel
set_option maxRecDepth 20000 in
theorem mX4_init_f15 : Cond.fieldLink RX4 15 "BreakSearch$Way" "lacks" "[I" ∈ wsX4_init := by decide +kernel
set_option maxRecDepth 20000 in
theorem mX4_init_f18 : Cond.fieldLink RX4 18 "BreakSearch$Way" "badnesses" "[I" ∈ wsX4_init := by decide +kernel
set_option maxRecDepth 20000 in
theorem mX4_init_f21 : Cond.fieldLink RX4 21 "BreakSearch$Way" "classes" "[I" ∈ wsX4_init := by decide +kernel
abbrev rm_X4_init : Room := { frames := 1, cells := 4, slots := 200, locals := 12 }
set_option maxHeartbeats 4000000 in
set_option maxRecDepth 100000 in
theorem c_X4_init (l : Launch) (g : zG) (hY : Nat)  : zMWv (S := (Nat) × (Nat) × (Nat) × (Nat)) l yX4_init wsX4_init rm_X4_init g [(hY, eo 4 [.null, .null, .null, .null, .int (iZ (0)), .int (iZ (0)), .long (lZ (0))])] [.ref hY] (fun _ => True) (fun u => [(hY, eo 4 [.ref u.1, .ref u.2.1, .ref u.2.2.1, .ref u.2.2.2, .int (iZ (0)), .int (iZ (0)), .long (lZ (0))]), (u.1, ei g 50 ((fun _ => 0))), (u.2.1, ei g 50 ((fun _ => 0))), (u.2.2.1, ei g 50 ((fun _ => 0))), (u.2.2.2, ei g 50 ((fun _ => 0)))]) 4 200 := by
  refine z_beWv (cc := cX4_init) (nL := 1) (plainFor_of_name (by decide +kernel)) rfl (Nat.le_of_ble_eq_true rfl) ?_
  intro X A hC hN hR
  have hC : zC X g cX4_init RX4 wsX4_init rm_X4_init 1 := hC
  show ZG X g (zD X A) 0 0 [(hY, eo 4 [.null, .null, .null, .null, .int (iZ (0)), .int (iZ (0)), .long (lZ (0))])] [(0, .ref hY)] 0 []
  refine z_aload_n hC 0 dX4_init_0 rfl rfl ?_
  refine z_objInit hC mX4_init_o3 mX4_init_oi mX4_init_oc dX4_init_1 (by decide) (Nat.le_of_ble_eq_true rfl) ?_
  refine z_aload_n hC 0 dX4_init_4 rfl rfl ?_
  refine z_bip hC dX4_init_5 (by decide) ?_
  refine z_newai hC 50 mX4_init_ai rfl (Nat.le_of_ble_eq_true rfl) (Nat.le_of_ble_eq_true rfl) (Nat.le_of_ble_eq_true rfl) dX4_init_7 (fun q_7 => ?_)
  show ZG X g (zD X A) 1 50 [(hY, eo 4 [.null, .null, .null, .null, .int (iZ (0)), .int (iZ (0)), .long (lZ (0))]), (q_7, ei g 50 ((fun _ => 0)))] [(0, .ref hY)] 9 [.ref q_7, .ref hY]
  refine z_putF hC iX4_init_4 tyX4 tyX4_ok nmX4 0 0 rfl rfl (by decide) mX4_init_f9 rfl hN rfl rfl rfl (Nat.le_of_ble_eq_true rfl) dX4_init_9 (ws' := [_, _]) rfl ?_
  refine z_aload_n hC 0 dX4_init_12 rfl rfl ?_
  refine z_bip hC dX4_init_13 (by decide) ?_
  refine z_newai hC 50 mX4_init_ai rfl (Nat.le_of_ble_eq_true rfl) (Nat.le_of_ble_eq_true rfl) (Nat.le_of_ble_eq_true rfl) dX4_init_15 (fun q_15 => ?_)
  show ZG X g (zD X A) 2 100 [(hY, eo 4 [.ref q_7, .null, .null, .null, .int (iZ (0)), .int (iZ (0)), .long (lZ (0))]), (q_7, ei g 50 ((fun _ => 0))), (q_15, ei g 50 ((fun _ => 0)))] [(0, .ref hY)] 17 [.ref q_15, .ref hY]
  refine z_putF hC iX4_init_4 tyX4 tyX4_ok nmX4 0 1 rfl rfl (by decide) mX4_init_f15 rfl hN rfl rfl rfl (Nat.le_of_ble_eq_true rfl) dX4_init_17 (ws' := [_, _, _]) rfl ?_
  refine z_aload_n hC 0 dX4_init_20 rfl rfl ?_
  refine z_bip hC dX4_init_21 (by decide) ?_
  refine z_newai hC 50 mX4_init_ai rfl (Nat.le_of_ble_eq_true rfl) (Nat.le_of_ble_eq_true rfl) (Nat.le_of_ble_eq_true rfl) dX4_init_23 (fun q_23 => ?_)
  show ZG X g (zD X A) 3 150 [(hY, eo 4 [.ref q_7, .ref q_15, .null, .null, .int (iZ (0)), .int (iZ (0)), .long (lZ (0))]), (q_7, ei g 50 ((fun _ => 0))), (q_15, ei g 50 ((fun _ => 0))), (q_23, ei g 50 ((fun _ => 0)))] [(0, .ref hY)] 25 [.ref q_23, .ref hY]
  refine z_putF hC iX4_init_4 tyX4 tyX4_ok nmX4 0 2 rfl rfl (by decide) mX4_init_f18 rfl hN rfl rfl rfl (Nat.le_of_ble_eq_true rfl) dX4_init_25 (ws' := [_, _, _, _]) rfl ?_
  refine z_aload_n hC 0 dX4_init_28 rfl rfl ?_
  refine z_bip hC dX4_init_29 (by decide) ?_
  refine z_newai hC 50 mX4_init_ai rfl (Nat.le_of_ble_eq_true rfl) (Nat.le_of_ble_eq_true rfl) (Nat.le_of_ble_eq_true rfl) dX4_init_31 (fun q_31 => ?_)
  show ZG X g (zD X A) 4 200 [(hY, eo 4 [.ref q_7, .ref q_15, .ref q_23, .null, .int (iZ (0)), .int (iZ (0)), .long (lZ (0))]), (q_7, ei g 50 ((fun _ => 0))), (q_15, ei g 50 ((fun _ => 0))), (q_23, ei g 50 ((fun _ => 0))), (q_31, ei g 50 ((fun _ => 0)))] [(0, .ref hY)] 33 [.ref q_31, .ref hY]
  refine z_putF hC iX4_init_4 tyX4 tyX4_ok nmX4 0 3 rfl rfl (by decide) mX4_init_f21 rfl hN rfl rfl rfl (Nat.le_of_ble_eq_true rfl) dX4_init_33 (ws' := [_, _, _, _, _]) rfl ?_
  exact hR (q_7, q_15, q_23, q_31) _ _ _ [0, 1, 2, 3, 4] trivial (by decide) rfl dX4_init_36
set_option maxRecDepth 20000 in
theorem mX5_init_o1 : Cond.methodLink RX5 1 objectInit ∈ wsX5_init := by decide +kernel
set_option maxRecDepth 20000 in
theorem mX5_init_oi : Cond.instanceMethod objectInit ∈ wsX5_init := by decide +kernel
set_option maxRecDepth 20000 in
theorem mX5_init_oc : Cond.code objectInit ⟨#[0xb1]⟩ 1 none ∈ wsX5_init := by decide +kernel
set_option maxRecDepth 20000 in
theorem iX5_init_0 : ∀ w ∈ u_ws RX0 TX0 8, w ∈ wsX5_init := by decide +kernel
set_option maxRecDepth 20000 in
theorem mX5_init_cl7 : Cond.classLink RX5 7 RX0 ∈ wsX5_init := by decide +kernel
set_option maxRecDepth 20000 in
theorem mX5_init_itRX0 : Cond.instantiable RX0 8 ∈ wsX5_init := by decide +kernel
set_option maxRecDepth 20000 in
theorem mX5_init_iniRX0 : Cond.initialized RX0 ∈ wsX5_init := by decide +kernel
set_option maxRecDepth 20000 in
theorem mX5_init_im_X0_init : Cond.instanceMethod yX0_init ∈ wsX5_init := by decide +kernel
set_option maxRecDepth 20000 in
theorem mX5_init_f10 : Cond.fieldLink RX5 10 "BreakSearch" "items" "LBreakSearch$Items;" ∈ wsX5_init := by decide +kernel
set_option maxRecDepth 20000 in
theorem iX5_init_5 : ∀ w ∈ u_ws RX5 TX5 4, w ∈ wsX5_init := by decide +kernel
set_option maxRecDepth 20000 in
theorem iX5_init_2 : ∀ w ∈ u_ws RX2 TX2 2, w ∈ wsX5_init := by decide +kernel
set_option maxRecDepth 20000 in
theorem mX5_init_cl16 : Cond.classLink RX5 16 RX2 ∈ wsX5_init := by decide +kernel
set_option maxRecDepth 20000 in
theorem mX5_init_itRX2 : Cond.instantiable RX2 2 ∈ wsX5_init := by decide +kernel
set_option maxRecDepth 20000 in
theorem mX5_init_iniRX2 : Cond.initialized RX2 ∈ wsX5_init := by decide +kernel
set_option maxRecDepth 20000 in
theorem mX5_init_im_X2_init : Cond.instanceMethod yX2_init ∈ wsX5_init := by decide +kernel
set_option maxRecDepth 20000 in
theorem mX5_init_f21 : Cond.fieldLink RX5 21 "BreakSearch" "rules" "LBreakSearch$Rules;" ∈ wsX5_init := by decide +kernel
set_option maxRecDepth 20000 in
theorem iX5_init_3 : ∀ w ∈ u_ws RX3 TX3 6, w ∈ wsX5_init := by decide +kernel
set_option maxRecDepth 20000 in
theorem mX5_init_cl25 : Cond.classLink RX5 25 RX3 ∈ wsX5_init := by decide +kernel
set_option maxRecDepth 20000 in
theorem mX5_init_itRX3 : Cond.instantiable RX3 6 ∈ wsX5_init := by decide +kernel
set_option maxRecDepth 20000 in
theorem mX5_init_iniRX3 : Cond.initialized RX3 ∈ wsX5_init := by decide +kernel
set_option maxRecDepth 20000 in
theorem mX5_init_im_X3_init : Cond.instanceMethod yX3_init ∈ wsX5_init := by decide +kernel
set_option maxRecDepth 20000 in
theorem mX5_init_f30 : Cond.fieldLink RX5 30 "BreakSearch" "search" "LBreakSearch$Search;" ∈ wsX5_init := by decide +kernel
set_option maxRecDepth 20000 in
theorem iX5_init_4 : ∀ w ∈ u_ws RX4 TX4 7, w ∈ wsX5_init := by decide +kernel
set_option maxRecDepth 20000 in
theorem mX5_init_cl34 : Cond.classLink RX5 34 RX4 ∈ wsX5_init := by decide +kernel
set_option maxRecDepth 20000 in
theorem mX5_init_itRX4 : Cond.instantiable RX4 7 ∈ wsX5_init := by decide +kernel
set_option maxRecDepth 20000 in
theorem mX5_init_iniRX4 : Cond.initialized RX4 ∈ wsX5_init := by decide +kernel
set_option maxRecDepth 20000 in
theorem mX5_init_im_X4_init : Cond.instanceMethod yX4_init ∈ wsX5_init := by decide +kernel
set_option maxRecDepth 20000 in
theorem mX5_init_f37 : Cond.fieldLink RX5 37 "BreakSearch" "told" "LBreakSearch$Way;" ∈ wsX5_init := by decide +kernel
abbrev rm_X5_init : Room := { frames := 3, cells := 20, slots := 42599, locals := 56 }
set_option maxHeartbeats 4000000 in
set_option maxRecDepth 100000 in
theorem c_X5_init (l : Launch) (g : zG) (hB : Nat) (v : Int)  : zMWv (S := (Nat) × (Nat) × (Nat) × (Nat) × (Nat) × (Nat) × (Nat) × (Nat) × (Nat) × (Nat) × (Nat) × (Nat) × (Nat) × (Nat) × (Nat) × (Nat) × (Nat) × (Nat) × (Nat) × (Nat) × (Int → Int)) l yX5_init wsX5_init rm_X5_init g [(hB, eo 5 [.null, .null, .null, .null])] [.ref hB, .int (iZ (v))] (fun u => ∀ i, 0 ≤ i → i < 50 → u.2.2.2.2.2.2.2.2.2.2.2.2.2.2.2.2.2.2.2.2 i = zAn v 16383) (fun u => [(hB, eo 5 [.ref u.1, .ref u.2.2.2.2.2.2.2.2.1, .ref u.2.2.2.2.2.2.2.2.2.2.2.1, .ref u.2.2.2.2.2.2.2.2.2.2.2.2.2.2.2.1]), (u.2.2.2.2.2.2.2.2.2.2.2.1, eo 3 [.ref u.1, .ref u.2.2.2.2.2.2.2.2.1, .ref u.2.2.2.2.2.2.2.2.2.2.2.2.1, .ref u.2.2.2.2.2.2.2.2.2.2.2.2.2.1, .ref u.2.2.2.2.2.2.2.2.2.2.2.2.2.2.1, .int (iZ (0))]), (u.2.2.2.2.2.2.2.2.2.2.2.2.2.1, el g 20808 ((fun _ => 0))), (u.2.2.2.2.2.2.2.2.2.2.2.2.2.2.1, eb g 20808 ((fun _ => 0))), (u.1, eo 0 [.ref u.2.1, .ref u.2.2.1, .ref u.2.2.2.1, .ref u.2.2.2.2.1, .ref u.2.2.2.2.2.1, .ref u.2.2.2.2.2.2.1, .ref u.2.2.2.2.2.2.2.1, .int (iZ (0))]), (u.2.1, ei g 100 ((fun _ => 0))), (u.2.2.1, ei g 100 ((fun _ => 0))), (u.2.2.2.1, ei g 100 ((fun _ => 0))), (u.2.2.2.2.1, ez g 100 ((fun _ => 0))), (u.2.2.2.2.2.1, ei g 101 ((fun _ => 0))), (u.2.2.2.2.2.2.1, ei g 101 ((fun _ => 0))), (u.2.2.2.2.2.2.2.1, ei g 101 ((fun _ => 0))), (u.2.2.2.2.2.2.2.2.1, eo 2 [.ref u.2.2.2.2.2.2.2.2.2.1, .ref u.2.2.2.2.2.2.2.2.2.2.1]), (u.2.2.2.2.2.2.2.2.2.1, ei g 50 u.2.2.2.2.2.2.2.2.2.2.2.2.2.2.2.2.2.2.2.2), (u.2.2.2.2.2.2.2.2.2.2.1, ei g 3 (uZ (uZ (fun _ => 0) 0 100) 1 200)), (u.2.2.2.2.2.2.2.2.2.2.2.2.1, eo 1 [.int (iZ (0)), .int (iZ (0)), .int (iZ (0)), .int (iZ (0))]), (u.2.2.2.2.2.2.2.2.2.2.2.2.2.2.2.1, eo 4 [.ref u.2.2.2.2.2.2.2.2.2.2.2.2.2.2.2.2.1, .ref u.2.2.2.2.2.2.2.2.2.2.2.2.2.2.2.2.2.1, .ref u.2.2.2.2.2.2.2.2.2.2.2.2.2.2.2.2.2.2.1, .ref u.2.2.2.2.2.2.2.2.2.2.2.2.2.2.2.2.2.2.2.1, .int (iZ (0)), .int (iZ (0)), .long (lZ (0))]), (u.2.2.2.2.2.2.2.2.2.2.2.2.2.2.2.2.1, ei g 50 ((fun _ => 0))), (u.2.2.2.2.2.2.2.2.2.2.2.2.2.2.2.2.2.1, ei g 50 ((fun _ => 0))), (u.2.2.2.2.2.2.2.2.2.2.2.2.2.2.2.2.2.2.1, ei g 50 ((fun _ => 0))), (u.2.2.2.2.2.2.2.2.2.2.2.2.2.2.2.2.2.2.2.1, ei g 50 ((fun _ => 0)))]) 20 42599 := by
  refine z_beWv (cc := cX5_init) (nL := 2) (plainFor_of_name (by decide +kernel)) rfl (Nat.le_of_ble_eq_true rfl) ?_
  intro X A hC hN hR
  have hC : zC X g cX5_init RX5 wsX5_init rm_X5_init 2 := hC
  show ZG X g (zD X A) 0 0 [(hB, eo 5 [.null, .null, .null, .null])] [(0, .ref hB), (1, .int (iZ (v)))] 0 []
  refine z_aload_n hC 0 dX5_init_0 rfl rfl ?_
  refine z_objInit hC mX5_init_o1 mX5_init_oi mX5_init_oc dX5_init_1 (by decide) (Nat.le_of_ble_eq_true rfl) ?_
  refine z_aload_n hC 0 dX5_init_4 rfl rfl ?_
  refine z_new (ci := 0) hC iX5_init_0 tyX0 tyX0_ok mX5_init_cl7 mX5_init_itRX0 mX5_init_iniRX0 rfl df_X0 (Nat.le_of_ble_eq_true rfl) (Nat.le_of_ble_eq_true rfl) dX5_init_5 (fun q_5 => ?_)
  show ZG X g (zD X A) 1 8 [(hB, eo 5 [.null, .null, .null, .null]), (q_5, eo 0 [.null, .null, .null, .null, .null, .null, .null, .int (iZ (0))])] [(0, .ref hB), (1, .int (iZ (v)))] 8 [.ref q_5, .ref hB]
  refine z_dup hC dX5_init_8 rfl ?_
  refine z_inWv (wr := [_]) hC 0 (c_X0_init (xl X) g _) gX5_init_X0_init_n9 nm_RX5_9 mX5_init_iniRX0 mX5_init_im_X0_init rfl rfl hd_X0_init_s (by decide) ⟨rfl, rfl⟩ [1] [0] (by decide) rfl rfl (by decide) (by decide) rfl rfl (Nat.le_of_ble_eq_true rfl) dX5_init_9 ⟨Nat.le_of_ble_eq_true rfl, Nat.le_of_ble_eq_true rfl⟩ (fun u_9 p_9 => ?_)
  obtain ⟨aK_9, aV_9, aP_9, aM_9, aL_9, aS_9, aH_9⟩ := u_9
  try dsimp only at p_9
  refine z_ws (ws' := [(hB, eo 5 [.null, .null, .null, .null]), (q_5, eo 0 [.ref aK_9, .ref aV_9, .ref aP_9, .ref aM_9, .ref aL_9, .ref aS_9, .ref aH_9, .int (iZ (0))]), (aK_9, ei g 100 ((fun _ => 0))), (aV_9, ei g 100 ((fun _ => 0))), (aP_9, ei g 100 ((fun _ => 0))), (aM_9, ez g 100 ((fun _ => 0))), (aL_9, ei g 101 ((fun _ => 0))), (aS_9, ei g 101 ((fun _ => 0))), (aH_9, ei g 101 ((fun _ => 0)))]) [0, 1, 2, 3, 4, 5, 6, 7, 8] (by decide) rfl ?_
  refine z_putF hC iX5_init_5 tyX5 tyX5_ok nmX5 0 0 rfl rfl (by decide) mX5_init_f10 rfl hN rfl rfl rfl (Nat.le_of_ble_eq_true rfl) dX5_init_12 (ws' := [_, _, _, _, _, _, _, _, _]) rfl ?_
  refine z_aload_n hC 0 dX5_init_15 rfl rfl ?_
  refine z_new (ci := 2) hC iX5_init_2 tyX2 tyX2_ok mX5_init_cl16 mX5_init_itRX2 mX5_init_iniRX2 rfl df_X2 (Nat.le_of_ble_eq_true rfl) (Nat.le_of_ble_eq_true rfl) dX5_init_16 (fun q_16 => ?_)
  show ZG X g (zD X A) 9 713 [(hB, eo 5 [.ref q_5, .null, .null, .null]), (q_5, eo 0 [.ref aK_9, .ref aV_9, .ref aP_9, .ref aM_9, .ref aL_9, .ref aS_9, .ref aH_9, .int (iZ (0))]), (aK_9, ei g 100 ((fun _ => 0))), (aV_9, ei g 100 ((fun _ => 0))), (aP_9, ei g 100 ((fun _ => 0))), (aM_9, ez g 100 ((fun _ => 0))), (aL_9, ei g 101 ((fun _ => 0))), (aS_9, ei g 101 ((fun _ => 0))), (aH_9, ei g 101 ((fun _ => 0))), (q_16, eo 2 [.null, .null])] [(0, .ref hB), (1, .int (iZ (v)))] 19 [.ref q_16, .ref hB]
  refine z_dup hC dX5_init_19 rfl ?_
  refine z_iload_n hC 1 dX5_init_20 rfl rfl ?_
  refine z_sip hC dX5_init_21 (by decide) ?_
  refine z_iand hC dX5_init_24 ?_
  refine z_inWv (wr := [_, _, _, _, _, _, _, _, _]) hC 1 (c_X2_init (xl X) g _ _) gX5_init_X2_init_n18 nm_RX5_18 mX5_init_iniRX2 mX5_init_im_X2_init rfl rfl hd_X2_init_s (by decide) ⟨rfl, rfl⟩ [9] [0, 1, 2, 3, 4, 5, 6, 7, 8] (by decide) rfl rfl (by decide) (by decide) rfl rfl (Nat.le_of_ble_eq_true rfl) dX5_init_25 ⟨Nat.le_of_ble_eq_true rfl, Nat.le_of_ble_eq_true rfl⟩ (fun u_25 p_25 => ?_)
  obtain ⟨aW_25, aT_25, w1_25⟩ := u_25
  try dsimp only at p_25
  refine z_ws (ws' := [(hB, eo 5 [.ref q_5, .null, .null, .null]), (q_5, eo 0 [.ref aK_9, .ref aV_9, .ref aP_9, .ref aM_9, .ref aL_9, .ref aS_9, .ref aH_9, .int (iZ (0))]), (aK_9, ei g 100 ((fun _ => 0))), (aV_9, ei g 100 ((fun _ => 0))), (aP_9, ei g 100 ((fun _ => 0))), (aM_9, ez g 100 ((fun _ => 0))), (aL_9, ei g 101 ((fun _ => 0))), (aS_9, ei g 101 ((fun _ => 0))), (aH_9, ei g 101 ((fun _ => 0))), (q_16, eo 2 [.ref aW_25, .ref aT_25]), (aW_25, ei g 50 w1_25), (aT_25, ei g 3 (uZ (uZ (fun _ => 0) 0 100) 1 200))]) [0, 1, 2, 3, 4, 5, 6, 7, 8, 9, 10, 11] (by decide) rfl ?_
  refine z_putF hC iX5_init_5 tyX5 tyX5_ok nmX5 0 1 rfl rfl (by decide) mX5_init_f21 rfl hN rfl rfl rfl (Nat.le_of_ble_eq_true rfl) dX5_init_28 (ws' := [_, _, _, _, _, _, _, _, _, _, _, _]) rfl ?_
  refine z_aload_n hC 0 dX5_init_31 rfl rfl ?_
  refine z_new (ci := 3) hC iX5_init_3 tyX3 tyX3_ok mX5_init_cl25 mX5_init_itRX3 mX5_init_iniRX3 rfl df_X3 (Nat.le_of_ble_eq_true rfl) (Nat.le_of_ble_eq_true rfl) dX5_init_32 (fun q_32 => ?_)
  show ZG X g (zD X A) 12 772 [(hB, eo 5 [.ref q_5, .ref q_16, .null, .null]), (q_5, eo 0 [.ref aK_9, .ref aV_9, .ref aP_9, .ref aM_9, .ref aL_9, .ref aS_9, .ref aH_9, .int (iZ (0))]), (aK_9, ei g 100 ((fun _ => 0))), (aV_9, ei g 100 ((fun _ => 0))), (aP_9, ei g 100 ((fun _ => 0))), (aM_9, ez g 100 ((fun _ => 0))), (aL_9, ei g 101 ((fun _ => 0))), (aS_9, ei g 101 ((fun _ => 0))), (aH_9, ei g 101 ((fun _ => 0))), (q_16, eo 2 [.ref aW_25, .ref aT_25]), (aW_25, ei g 50 w1_25), (aT_25, ei g 3 (uZ (uZ (fun _ => 0) 0 100) 1 200)), (q_32, eo 3 [.null, .null, .null, .null, .null, .int (iZ (0))])] [(0, .ref hB), (1, .int (iZ (v)))] 35 [.ref q_32, .ref hB]
  refine z_dup hC dX5_init_35 rfl ?_
  refine z_aload_n hC 0 dX5_init_36 rfl rfl ?_
  refine z_get hC iX5_init_5 0 0 rfl rfl (by decide) mX5_init_f10 rfl dX5_init_37 ?_
  refine z_aload_n hC 0 dX5_init_40 rfl rfl ?_
  refine z_get hC iX5_init_5 0 1 rfl rfl (by decide) mX5_init_f21 rfl dX5_init_41 ?_
  refine z_inWv (wr := [_, _, _, _, _, _, _, _, _, _, _, _]) hC 2 (c_X3_init (xl X) g _ _ _) gX5_init_X3_init_n27 nm_RX5_27 mX5_init_iniRX3 mX5_init_im_X3_init rfl rfl hd_X3_init_s (by decide) ⟨rfl, rfl⟩ [12] [0, 1, 2, 3, 4, 5, 6, 7, 8, 9, 10, 11] (by decide) rfl rfl (by decide) (by decide) rfl rfl (Nat.le_of_ble_eq_true rfl) dX5_init_44 ⟨Nat.le_of_ble_eq_true rfl, Nat.le_of_ble_eq_true rfl⟩ (fun u_44 p_44 => ?_)
  obtain ⟨hL_44, aC_44, aN_44⟩ := u_44
  try dsimp only at p_44
  refine z_ws (ws' := [(hB, eo 5 [.ref q_5, .ref q_16, .null, .null]), (q_5, eo 0 [.ref aK_9, .ref aV_9, .ref aP_9, .ref aM_9, .ref aL_9, .ref aS_9, .ref aH_9, .int (iZ (0))]), (aK_9, ei g 100 ((fun _ => 0))), (aV_9, ei g 100 ((fun _ => 0))), (aP_9, ei g 100 ((fun _ => 0))), (aM_9, ez g 100 ((fun _ => 0))), (aL_9, ei g 101 ((fun _ => 0))), (aS_9, ei g 101 ((fun _ => 0))), (aH_9, ei g 101 ((fun _ => 0))), (q_16, eo 2 [.ref aW_25, .ref aT_25]), (aW_25, ei g 50 w1_25), (aT_25, ei g 3 (uZ (uZ (fun _ => 0) 0 100) 1 200)), (q_32, eo 3 [.ref q_5, .ref q_16, .ref hL_44, .ref aC_44, .ref aN_44, .int (iZ (0))]), (aC_44, el g 20808 ((fun _ => 0))), (aN_44, eb g 20808 ((fun _ => 0))), (hL_44, eo 1 [.int (iZ (0)), .int (iZ (0)), .int (iZ (0)), .int (iZ (0))])]) [0, 1, 2, 3, 4, 5, 6, 7, 8, 9, 10, 11, 12, 13, 14, 15] (by decide) rfl ?_
  refine z_putF hC iX5_init_5 tyX5 tyX5_ok nmX5 0 2 rfl rfl (by decide) mX5_init_f30 rfl hN rfl rfl rfl (Nat.le_of_ble_eq_true rfl) dX5_init_47 (ws' := [_, _, _, _, _, _, _, _, _, _, _, _, _, _, _, _]) rfl ?_
  refine z_aload_n hC 0 dX5_init_50 rfl rfl ?_
  refine z_new (ci := 4) hC iX5_init_4 tyX4 tyX4_ok mX5_init_cl34 mX5_init_itRX4 mX5_init_iniRX4 rfl df_X4 (Nat.le_of_ble_eq_true rfl) (Nat.le_of_ble_eq_true rfl) dX5_init_51 (fun q_51 => ?_)
  show ZG X g (zD X A) 16 42399 [(hB, eo 5 [.ref q_5, .ref q_16, .ref q_32, .null]), (q_5, eo 0 [.ref aK_9, .ref aV_9, .ref aP_9, .ref aM_9, .ref aL_9, .ref aS_9, .ref aH_9, .int (iZ (0))]), (aK_9, ei g 100 ((fun _ => 0))), (aV_9, ei g 100 ((fun _ => 0))), (aP_9, ei g 100 ((fun _ => 0))), (aM_9, ez g 100 ((fun _ => 0))), (aL_9, ei g 101 ((fun _ => 0))), (aS_9, ei g 101 ((fun _ => 0))), (aH_9, ei g 101 ((fun _ => 0))), (q_16, eo 2 [.ref aW_25, .ref aT_25]), (aW_25, ei g 50 w1_25), (aT_25, ei g 3 (uZ (uZ (fun _ => 0) 0 100) 1 200)), (q_32, eo 3 [.ref q_5, .ref q_16, .ref hL_44, .ref aC_44, .ref aN_44, .int (iZ (0))]), (aC_44, el g 20808 ((fun _ => 0))), (aN_44, eb g 20808 ((fun _ => 0))), (hL_44, eo 1 [.int (iZ (0)), .int (iZ (0)), .int (iZ (0)), .int (iZ (0))]), (q_51, eo 4 [.null, .null, .null, .null, .int (iZ (0)), .int (iZ (0)), .long (lZ (0))])] [(0, .ref hB), (1, .int (iZ (v)))] 54 [.ref q_51, .ref hB]
  refine z_dup hC dX5_init_54 rfl ?_
  refine z_inWv (wr := [_, _, _, _, _, _, _, _, _, _, _, _, _, _, _, _]) hC 0 (c_X4_init (xl X) g _) gX5_init_X4_init_n36 nm_RX5_36 mX5_init_iniRX4 mX5_init_im_X4_init rfl rfl hd_X4_init_s (by decide) ⟨rfl, rfl⟩ [16] [0, 1, 2, 3, 4, 5, 6, 7, 8, 9, 10, 11, 12, 13, 14, 15] (by decide) rfl rfl (by decide) (by decide) rfl rfl (Nat.le_of_ble_eq_true rfl) dX5_init_55 ⟨Nat.le_of_ble_eq_true rfl, Nat.le_of_ble_eq_true rfl⟩ (fun u_55 p_55 => ?_)
  obtain ⟨aE_55, aQ_55, aB_55, aU_55⟩ := u_55
  try dsimp only at p_55
  refine z_ws (ws' := [(hB, eo 5 [.ref q_5, .ref q_16, .ref q_32, .null]), (q_5, eo 0 [.ref aK_9, .ref aV_9, .ref aP_9, .ref aM_9, .ref aL_9, .ref aS_9, .ref aH_9, .int (iZ (0))]), (aK_9, ei g 100 ((fun _ => 0))), (aV_9, ei g 100 ((fun _ => 0))), (aP_9, ei g 100 ((fun _ => 0))), (aM_9, ez g 100 ((fun _ => 0))), (aL_9, ei g 101 ((fun _ => 0))), (aS_9, ei g 101 ((fun _ => 0))), (aH_9, ei g 101 ((fun _ => 0))), (q_16, eo 2 [.ref aW_25, .ref aT_25]), (aW_25, ei g 50 w1_25), (aT_25, ei g 3 (uZ (uZ (fun _ => 0) 0 100) 1 200)), (q_32, eo 3 [.ref q_5, .ref q_16, .ref hL_44, .ref aC_44, .ref aN_44, .int (iZ (0))]), (aC_44, el g 20808 ((fun _ => 0))), (aN_44, eb g 20808 ((fun _ => 0))), (hL_44, eo 1 [.int (iZ (0)), .int (iZ (0)), .int (iZ (0)), .int (iZ (0))]), (q_51, eo 4 [.ref aE_55, .ref aQ_55, .ref aB_55, .ref aU_55, .int (iZ (0)), .int (iZ (0)), .long (lZ (0))]), (aE_55, ei g 50 ((fun _ => 0))), (aQ_55, ei g 50 ((fun _ => 0))), (aB_55, ei g 50 ((fun _ => 0))), (aU_55, ei g 50 ((fun _ => 0)))]) [0, 1, 2, 3, 4, 5, 6, 7, 8, 9, 10, 11, 12, 13, 14, 15, 16, 17, 18, 19, 20] (by decide) rfl ?_
  refine z_putF hC iX5_init_5 tyX5 tyX5_ok nmX5 0 3 rfl rfl (by decide) mX5_init_f37 rfl hN rfl rfl rfl (Nat.le_of_ble_eq_true rfl) dX5_init_58 (ws' := [_, _, _, _, _, _, _, _, _, _, _, _, _, _, _, _, _, _, _, _, _]) rfl ?_
  exact hR (q_5, aK_9, aV_9, aP_9, aM_9, aL_9, aS_9, aH_9, q_16, aW_25, aT_25, q_32, hL_44, aC_44, aN_44, q_51, aE_55, aQ_55, aB_55, aU_55, w1_25) _ _ _ [0, 12, 13, 14, 1, 2, 3, 4, 5, 6, 7, 8, 9, 10, 11, 15, 16, 17, 18, 19, 20] p_25 (by decide) rfl dX5_init_61
set_option maxRecDepth 20000 in
theorem mX6_init_o1 : Cond.methodLink RX6 1 objectInit ∈ wsX6_init := by decide +kernel
set_option maxRecDepth 20000 in
theorem mX6_init_oi : Cond.instanceMethod objectInit ∈ wsX6_init := by decide +kernel
set_option maxRecDepth 20000 in
theorem mX6_init_oc : Cond.code objectInit ⟨#[0xb1]⟩ 1 none ∈ wsX6_init := by decide +kernel
set_option maxRecDepth 20000 in
theorem mX6_init_ai : Cond.arrayClass .int ∈ wsX6_init := by decide +kernel
set_option maxRecDepth 20000 in
theorem mX6_init_f7 : Cond.fieldLink RX6 7 "BreakSearchModel" "kinds" "[I" ∈ wsX6_init := by decide +kernel
set_option maxRecDepth 20000 in
theorem iX6_init_6 : ∀ w ∈ u_ws RX6 TX6 26, w ∈ wsX6_init := by decide +kernel
set_option maxRecDepth 20000 in
theorem mX6_init_f13 : Cond.fieldLink RX6 13 "BreakSearchModel" "widths" "[I" ∈ wsX6_init := by decide +kernel
set_option maxRecDepth 20000 in
theorem mX6_init_f16 : Cond.fieldLink RX6 16 "BreakSearchModel" "stretches" "[I" ∈ wsX6_init := by decide +kernel
set_option maxRecDepth 20000 in
theorem mX6_init_f19 : Cond.fieldLink RX6 19 "BreakSearchModel" "shrinks" "[I" ∈ wsX6_init := by decide +kernel
set_option maxRecDepth 20000 in
theorem mX6_init_f22 : Cond.fieldLink RX6 22 "BreakSearchModel" "values" "[I" ∈ wsX6_init := by decide +kernel
set_option maxRecDepth 20000 in
theorem mX6_init_az : Cond.arrayClass .boolean ∈ wsX6_init := by decide +kernel
set_option maxRecDepth 20000 in
theorem mX6_init_f25 : Cond.fieldLink RX6 25 "BreakSearchModel" "marked" "[Z" ∈ wsX6_init := by decide +kernel
set_option maxRecDepth 20000 in
theorem mX6_init_f29 : Cond.fieldLink RX6 29 "BreakSearchModel" "shapes" "[I" ∈ wsX6_init := by decide +kernel
set_option maxRecDepth 20000 in
theorem mX6_init_f32 : Cond.fieldLink RX6 32 "BreakSearchModel" "settings" "[I" ∈ wsX6_init := by decide +kernel
set_option maxRecDepth 20000 in
theorem mX6_init_f35 : Cond.fieldLink RX6 35 "BreakSearchModel" "wide" "[I" ∈ wsX6_init := by decide +kernel
set_option maxRecDepth 20000 in
theorem mX6_init_f38 : Cond.fieldLink RX6 38 "BreakSearchModel" "stretchy" "[I" ∈ wsX6_init := by decide +kernel
set_option maxRecDepth 20000 in
theorem mX6_init_f41 : Cond.fieldLink RX6 41 "BreakSearchModel" "shrinking" "[I" ∈ wsX6_init := by decide +kernel
set_option maxRecDepth 20000 in
theorem mX6_init_al : Cond.arrayClass .long ∈ wsX6_init := by decide +kernel
set_option maxRecDepth 20000 in
theorem mX6_init_f44 : Cond.fieldLink RX6 44 "BreakSearchModel" "costs" "[J" ∈ wsX6_init := by decide +kernel
set_option maxRecDepth 20000 in
theorem mX6_init_f48 : Cond.fieldLink RX6 48 "BreakSearchModel" "rest" "[I" ∈ wsX6_init := by decide +kernel
set_option maxRecDepth 20000 in
theorem mX6_init_f51 : Cond.fieldLink RX6 51 "BreakSearchModel" "nexts" "[I" ∈ wsX6_init := by decide +kernel
set_option maxRecDepth 20000 in
theorem mX6_init_f54 : Cond.fieldLink RX6 54 "BreakSearchModel" "ends" "[I" ∈ wsX6_init := by decide +kernel
set_option maxRecDepth 20000 in
theorem mX6_init_f57 : Cond.fieldLink RX6 57 "BreakSearchModel" "lacks" "[I" ∈ wsX6_init := by decide +kernel
set_option maxRecDepth 20000 in
theorem mX6_init_f60 : Cond.fieldLink RX6 60 "BreakSearchModel" "bads" "[I" ∈ wsX6_init := by decide +kernel
set_option maxRecDepth 20000 in
theorem mX6_init_f63 : Cond.fieldLink RX6 63 "BreakSearchModel" "classes" "[I" ∈ wsX6_init := by decide +kernel
abbrev rm_X6_init : Room := { frames := 1, cells := 18, slots := 62968, locals := 12 }
set_option maxHeartbeats 4000000 in
set_option maxRecDepth 100000 in
theorem c_X6_init (l : Launch) (g : zG) (hM : Nat) (v : Int)  : zMWv (S := (Nat) × (Nat) × (Nat) × (Nat) × (Nat) × (Nat) × (Nat) × (Nat) × (Nat) × (Nat) × (Nat) × (Nat) × (Nat) × (Nat) × (Nat) × (Nat) × (Nat) × (Nat) × (Int → Int)) l yX6_init wsX6_init rm_X6_init g [(hM, eo 6 [.int (iZ (0)), .null, .null, .null, .null, .null, .null, .null, .null, .null, .null, .null, .null, .null, .null, .int (iZ (0)), .int (iZ (0)), .int (iZ (0)), .long (lZ (0)), .int (iZ (0)), .null, .null, .null, .null, .long (lZ (0)), .int (iZ (0))])] [.ref hM, .int (iZ (v))] (fun u => ∀ i, 0 ≤ i → i < 50 → u.2.2.2.2.2.2.2.2.2.2.2.2.2.2.2.2.2.2 i = zAn v 16383) (fun u => [(hM, eo 6 [.int (iZ (0)), .ref u.1, .ref u.2.1, .ref u.2.2.1, .ref u.2.2.2.1, .ref u.2.2.2.2.1, .ref u.2.2.2.2.2.1, .ref u.2.2.2.2.2.2.1, .ref u.2.2.2.2.2.2.2.1, .ref u.2.2.2.2.2.2.2.2.1, .ref u.2.2.2.2.2.2.2.2.2.1, .ref u.2.2.2.2.2.2.2.2.2.2.1, .ref u.2.2.2.2.2.2.2.2.2.2.2.1, .ref u.2.2.2.2.2.2.2.2.2.2.2.2.1, .ref u.2.2.2.2.2.2.2.2.2.2.2.2.2.1, .int (iZ (0)), .int (iZ (0)), .int (iZ (0)), .long (lZ (0)), .int (iZ (0)), .ref u.2.2.2.2.2.2.2.2.2.2.2.2.2.2.1, .ref u.2.2.2.2.2.2.2.2.2.2.2.2.2.2.2.1, .ref u.2.2.2.2.2.2.2.2.2.2.2.2.2.2.2.2.1, .ref u.2.2.2.2.2.2.2.2.2.2.2.2.2.2.2.2.2.1, .long (lZ (0)), .int (iZ (0))]), (u.1, ei g 100 ((fun _ => 0))), (u.2.1, ei g 100 ((fun _ => 0))), (u.2.2.1, ei g 100 ((fun _ => 0))), (u.2.2.2.1, ei g 100 ((fun _ => 0))), (u.2.2.2.2.1, ei g 100 ((fun _ => 0))), (u.2.2.2.2.2.1, ez g 100 ((fun _ => 0))), (u.2.2.2.2.2.2.1, ei g 50 u.2.2.2.2.2.2.2.2.2.2.2.2.2.2.2.2.2.2), (u.2.2.2.2.2.2.2.1, ei g 3 (uZ (uZ (uZ (fun _ => 0) 0 100) 1 200) 2 0)), (u.2.2.2.2.2.2.2.2.1, ei g 101 ((fun _ => 0))), (u.2.2.2.2.2.2.2.2.2.1, ei g 101 ((fun _ => 0))), (u.2.2.2.2.2.2.2.2.2.2.1, ei g 101 ((fun _ => 0))), (u.2.2.2.2.2.2.2.2.2.2.2.1, el g 20604 ((fun _ => 0))), (u.2.2.2.2.2.2.2.2.2.2.2.2.1, ei g 20604 ((fun _ => 0))), (u.2.2.2.2.2.2.2.2.2.2.2.2.2.1, ei g 20604 ((fun _ => 0))), (u.2.2.2.2.2.2.2.2.2.2.2.2.2.2.1, ei g 50 ((fun _ => 0))), (u.2.2.2.2.2.2.2.2.2.2.2.2.2.2.2.1, ei g 50 ((fun _ => 0))), (u.2.2.2.2.2.2.2.2.2.2.2.2.2.2.2.2.1, ei g 50 ((fun _ => 0))), (u.2.2.2.2.2.2.2.2.2.2.2.2.2.2.2.2.2.1, ei g 50 ((fun _ => 0)))]) 18 62968 := by
  refine z_beWv (cc := cX6_init) (nL := 3) (plainFor_of_name (by decide +kernel)) rfl (Nat.le_of_ble_eq_true rfl) ?_
  intro X A hC hN hR
  have hC : zC X g cX6_init RX6 wsX6_init rm_X6_init 3 := hC
  show ZG X g (zD X A) 0 0 [(hM, eo 6 [.int (iZ (0)), .null, .null, .null, .null, .null, .null, .null, .null, .null, .null, .null, .null, .null, .null, .int (iZ (0)), .int (iZ (0)), .int (iZ (0)), .long (lZ (0)), .int (iZ (0)), .null, .null, .null, .null, .long (lZ (0)), .int (iZ (0))])] [(0, .ref hM), (1, .int (iZ (v)))] 0 []
  refine z_aload_n hC 0 dX6_init_0 rfl rfl ?_
  refine z_objInit hC mX6_init_o1 mX6_init_oi mX6_init_oc dX6_init_1 (by decide) (Nat.le_of_ble_eq_true rfl) ?_
  refine z_aload_n hC 0 dX6_init_4 rfl rfl ?_
  refine z_bip hC dX6_init_5 (by decide) ?_
  refine z_newai hC 100 mX6_init_ai rfl (Nat.le_of_ble_eq_true rfl) (Nat.le_of_ble_eq_true rfl) (Nat.le_of_ble_eq_true rfl) dX6_init_7 (fun q_7 => ?_)
  show ZG X g (zD X A) 1 100 [(hM, eo 6 [.int (iZ (0)), .null, .null, .null, .null, .null, .null, .null, .null, .null, .null, .null, .null, .null, .null, .int (iZ (0)), .int (iZ (0)), .int (iZ (0)), .long (lZ (0)), .int (iZ (0)), .null, .null, .null, .null, .long (lZ (0)), .int (iZ (0))]), (q_7, ei g 100 ((fun _ => 0)))] [(0, .ref hM), (1, .int (iZ (v)))] 9 [.ref q_7, .ref hM]
  refine z_putF hC iX6_init_6 tyX6 tyX6_ok nmX6 0 1 rfl rfl (by decide) mX6_init_f7 rfl hN rfl rfl rfl (Nat.le_of_ble_eq_true rfl) dX6_init_9 (ws' := [_, _]) rfl ?_
  refine z_aload_n hC 0 dX6_init_12 rfl rfl ?_
  refine z_bip hC dX6_init_13 (by decide) ?_
  refine z_newai hC 100 mX6_init_ai rfl (Nat.le_of_ble_eq_true rfl) (Nat.le_of_ble_eq_true rfl) (Nat.le_of_ble_eq_true rfl) dX6_init_15 (fun q_15 => ?_)
  show ZG X g (zD X A) 2 200 [(hM, eo 6 [.int (iZ (0)), .ref q_7, .null, .null, .null, .null, .null, .null, .null, .null, .null, .null, .null, .null, .null, .int (iZ (0)), .int (iZ (0)), .int (iZ (0)), .long (lZ (0)), .int (iZ (0)), .null, .null, .null, .null, .long (lZ (0)), .int (iZ (0))]), (q_7, ei g 100 ((fun _ => 0))), (q_15, ei g 100 ((fun _ => 0)))] [(0, .ref hM), (1, .int (iZ (v)))] 17 [.ref q_15, .ref hM]
  refine z_putF hC iX6_init_6 tyX6 tyX6_ok nmX6 0 2 rfl rfl (by decide) mX6_init_f13 rfl hN rfl rfl rfl (Nat.le_of_ble_eq_true rfl) dX6_init_17 (ws' := [_, _, _]) rfl ?_
  refine z_aload_n hC 0 dX6_init_20 rfl rfl ?_
  refine z_bip hC dX6_init_21 (by decide) ?_
  refine z_newai hC 100 mX6_init_ai rfl (Nat.le_of_ble_eq_true rfl) (Nat.le_of_ble_eq_true rfl) (Nat.le_of_ble_eq_true rfl) dX6_init_23 (fun q_23 => ?_)
  show ZG X g (zD X A) 3 300 [(hM, eo 6 [.int (iZ (0)), .ref q_7, .ref q_15, .null, .null, .null, .null, .null, .null, .null, .null, .null, .null, .null, .null, .int (iZ (0)), .int (iZ (0)), .int (iZ (0)), .long (lZ (0)), .int (iZ (0)), .null, .null, .null, .null, .long (lZ (0)), .int (iZ (0))]), (q_7, ei g 100 ((fun _ => 0))), (q_15, ei g 100 ((fun _ => 0))), (q_23, ei g 100 ((fun _ => 0)))] [(0, .ref hM), (1, .int (iZ (v)))] 25 [.ref q_23, .ref hM]
  refine z_putF hC iX6_init_6 tyX6 tyX6_ok nmX6 0 3 rfl rfl (by decide) mX6_init_f16 rfl hN rfl rfl rfl (Nat.le_of_ble_eq_true rfl) dX6_init_25 (ws' := [_, _, _, _]) rfl ?_
  refine z_aload_n hC 0 dX6_init_28 rfl rfl ?_
  refine z_bip hC dX6_init_29 (by decide) ?_
  refine z_newai hC 100 mX6_init_ai rfl (Nat.le_of_ble_eq_true rfl) (Nat.le_of_ble_eq_true rfl) (Nat.le_of_ble_eq_true rfl) dX6_init_31 (fun q_31 => ?_)
  show ZG X g (zD X A) 4 400 [(hM, eo 6 [.int (iZ (0)), .ref q_7, .ref q_15, .ref q_23, .null, .null, .null, .null, .null, .null, .null, .null, .null, .null, .null, .int (iZ (0)), .int (iZ (0)), .int (iZ (0)), .long (lZ (0)), .int (iZ (0)), .null, .null, .null, .null, .long (lZ (0)), .int (iZ (0))]), (q_7, ei g 100 ((fun _ => 0))), (q_15, ei g 100 ((fun _ => 0))), (q_23, ei g 100 ((fun _ => 0))), (q_31, ei g 100 ((fun _ => 0)))] [(0, .ref hM), (1, .int (iZ (v)))] 33 [.ref q_31, .ref hM]
  refine z_putF hC iX6_init_6 tyX6 tyX6_ok nmX6 0 4 rfl rfl (by decide) mX6_init_f19 rfl hN rfl rfl rfl (Nat.le_of_ble_eq_true rfl) dX6_init_33 (ws' := [_, _, _, _, _]) rfl ?_
  refine z_aload_n hC 0 dX6_init_36 rfl rfl ?_
  refine z_bip hC dX6_init_37 (by decide) ?_
  refine z_newai hC 100 mX6_init_ai rfl (Nat.le_of_ble_eq_true rfl) (Nat.le_of_ble_eq_true rfl) (Nat.le_of_ble_eq_true rfl) dX6_init_39 (fun q_39 => ?_)
  show ZG X g (zD X A) 5 500 [(hM, eo 6 [.int (iZ (0)), .ref q_7, .ref q_15, .ref q_23, .ref q_31, .null, .null, .null, .null, .null, .null, .null, .null, .null, .null, .int (iZ (0)), .int (iZ (0)), .int (iZ (0)), .long (lZ (0)), .int (iZ (0)), .null, .null, .null, .null, .long (lZ (0)), .int (iZ (0))]), (q_7, ei g 100 ((fun _ => 0))), (q_15, ei g 100 ((fun _ => 0))), (q_23, ei g 100 ((fun _ => 0))), (q_31, ei g 100 ((fun _ => 0))), (q_39, ei g 100 ((fun _ => 0)))] [(0, .ref hM), (1, .int (iZ (v)))] 41 [.ref q_39, .ref hM]
  refine z_putF hC iX6_init_6 tyX6 tyX6_ok nmX6 0 5 rfl rfl (by decide) mX6_init_f22 rfl hN rfl rfl rfl (Nat.le_of_ble_eq_true rfl) dX6_init_41 (ws' := [_, _, _, _, _, _]) rfl ?_
  refine z_aload_n hC 0 dX6_init_44 rfl rfl ?_
  refine z_bip hC dX6_init_45 (by decide) ?_
  refine z_newaz hC 100 mX6_init_az rfl (Nat.le_of_ble_eq_true rfl) (Nat.le_of_ble_eq_true rfl) (Nat.le_of_ble_eq_true rfl) dX6_init_47 (fun q_47 => ?_)
  show ZG X g (zD X A) 6 600 [(hM, eo 6 [.int (iZ (0)), .ref q_7, .ref q_15, .ref q_23, .ref q_31, .ref q_39, .null, .null, .null, .null, .null, .null, .null, .null, .null, .int (iZ (0)), .int (iZ (0)), .int (iZ (0)), .long (lZ (0)), .int (iZ (0)), .null, .null, .null, .null, .long (lZ (0)), .int (iZ (0))]), (q_7, ei g 100 ((fun _ => 0))), (q_15, ei g 100 ((fun _ => 0))), (q_23, ei g 100 ((fun _ => 0))), (q_31, ei g 100 ((fun _ => 0))), (q_39, ei g 100 ((fun _ => 0))), (q_47, ez g 100 ((fun _ => 0)))] [(0, .ref hM), (1, .int (iZ (v)))] 49 [.ref q_47, .ref hM]
  refine z_putF hC iX6_init_6 tyX6 tyX6_ok nmX6 0 6 rfl rfl (by decide) mX6_init_f25 rfl hN rfl rfl rfl (Nat.le_of_ble_eq_true rfl) dX6_init_49 (ws' := [_, _, _, _, _, _, _]) rfl ?_
  refine z_aload_n hC 0 dX6_init_52 rfl rfl ?_
  refine z_bip hC dX6_init_53 (by decide) ?_
  refine z_newai hC 50 mX6_init_ai rfl (Nat.le_of_ble_eq_true rfl) (Nat.le_of_ble_eq_true rfl) (Nat.le_of_ble_eq_true rfl) dX6_init_55 (fun q_55 => ?_)
  show ZG X g (zD X A) 7 650 [(hM, eo 6 [.int (iZ (0)), .ref q_7, .ref q_15, .ref q_23, .ref q_31, .ref q_39, .ref q_47, .null, .null, .null, .null, .null, .null, .null, .null, .int (iZ (0)), .int (iZ (0)), .int (iZ (0)), .long (lZ (0)), .int (iZ (0)), .null, .null, .null, .null, .long (lZ (0)), .int (iZ (0))]), (q_7, ei g 100 ((fun _ => 0))), (q_15, ei g 100 ((fun _ => 0))), (q_23, ei g 100 ((fun _ => 0))), (q_31, ei g 100 ((fun _ => 0))), (q_39, ei g 100 ((fun _ => 0))), (q_47, ez g 100 ((fun _ => 0))), (q_55, ei g 50 ((fun _ => 0)))] [(0, .ref hM), (1, .int (iZ (v)))] 57 [.ref q_55, .ref hM]
  refine z_putF hC iX6_init_6 tyX6 tyX6_ok nmX6 0 7 rfl rfl (by decide) mX6_init_f29 rfl hN rfl rfl rfl (Nat.le_of_ble_eq_true rfl) dX6_init_57 (ws' := [_, _, _, _, _, _, _, _]) rfl ?_
  refine z_aload_n hC 0 dX6_init_60 rfl rfl ?_
  refine z_iconst hC dX6_init_61 ?_
  refine z_newai hC 3 mX6_init_ai rfl (Nat.le_of_ble_eq_true rfl) (Nat.le_of_ble_eq_true rfl) (Nat.le_of_ble_eq_true rfl) dX6_init_62 (fun q_62 => ?_)
  show ZG X g (zD X A) 8 653 [(hM, eo 6 [.int (iZ (0)), .ref q_7, .ref q_15, .ref q_23, .ref q_31, .ref q_39, .ref q_47, .ref q_55, .null, .null, .null, .null, .null, .null, .null, .int (iZ (0)), .int (iZ (0)), .int (iZ (0)), .long (lZ (0)), .int (iZ (0)), .null, .null, .null, .null, .long (lZ (0)), .int (iZ (0))]), (q_7, ei g 100 ((fun _ => 0))), (q_15, ei g 100 ((fun _ => 0))), (q_23, ei g 100 ((fun _ => 0))), (q_31, ei g 100 ((fun _ => 0))), (q_39, ei g 100 ((fun _ => 0))), (q_47, ez g 100 ((fun _ => 0))), (q_55, ei g 50 ((fun _ => 0))), (q_62, ei g 3 ((fun _ => 0)))] [(0, .ref hM), (1, .int (iZ (v)))] 64 [.ref q_62, .ref hM]
  refine z_dup hC dX6_init_64 rfl ?_
  refine z_iconst hC dX6_init_65 ?_
  refine z_bip hC dX6_init_66 (by decide) ?_
  refine z_iast hC 8 rfl (by omega) (by decide) dX6_init_68 (ws' := [_, _, _, _, _, _, _, _, _]) rfl ?_
  refine z_dup hC dX6_init_69 rfl ?_
  refine z_iconst hC dX6_init_70 ?_
  refine z_sip hC dX6_init_71 (by decide) ?_
  refine z_iast hC 8 rfl (by omega) (by decide) dX6_init_74 (ws' := [_, _, _, _, _, _, _, _, _]) rfl ?_
  refine z_dup hC dX6_init_75 rfl ?_
  refine z_iconst hC dX6_init_76 ?_
  refine z_iconst hC dX6_init_77 ?_
  refine z_iast hC 8 rfl (by omega) (by decide) dX6_init_78 (ws' := [_, _, _, _, _, _, _, _, _]) rfl ?_
  refine z_putF hC iX6_init_6 tyX6 tyX6_ok nmX6 0 8 rfl rfl (by decide) mX6_init_f32 rfl hN rfl rfl rfl (Nat.le_of_ble_eq_true rfl) dX6_init_79 (ws' := [_, _, _, _, _, _, _, _, _]) rfl ?_
  refine z_aload_n hC 0 dX6_init_82 rfl rfl ?_
  refine z_bip hC dX6_init_83 (by decide) ?_
  refine z_newai hC 101 mX6_init_ai rfl (Nat.le_of_ble_eq_true rfl) (Nat.le_of_ble_eq_true rfl) (Nat.le_of_ble_eq_true rfl) dX6_init_85 (fun q_85 => ?_)
  show ZG X g (zD X A) 9 754 [(hM, eo 6 [.int (iZ (0)), .ref q_7, .ref q_15, .ref q_23, .ref q_31, .ref q_39, .ref q_47, .ref q_55, .ref q_62, .null, .null, .null, .null, .null, .null, .int (iZ (0)), .int (iZ (0)), .int (iZ (0)), .long (lZ (0)), .int (iZ (0)), .null, .null, .null, .null, .long (lZ (0)), .int (iZ (0))]), (q_7, ei g 100 ((fun _ => 0))), (q_15, ei g 100 ((fun _ => 0))), (q_23, ei g 100 ((fun _ => 0))), (q_31, ei g 100 ((fun _ => 0))), (q_39, ei g 100 ((fun _ => 0))), (q_47, ez g 100 ((fun _ => 0))), (q_55, ei g 50 ((fun _ => 0))), (q_62, ei g 3 (uZ (uZ (uZ ((fun _ => 0)) 0 100) 1 200) 2 0)), (q_85, ei g 101 ((fun _ => 0)))] [(0, .ref hM), (1, .int (iZ (v)))] 87 [.ref q_85, .ref hM]
  refine z_putF hC iX6_init_6 tyX6 tyX6_ok nmX6 0 9 rfl rfl (by decide) mX6_init_f35 rfl hN rfl rfl rfl (Nat.le_of_ble_eq_true rfl) dX6_init_87 (ws' := [_, _, _, _, _, _, _, _, _, _]) rfl ?_
  refine z_aload_n hC 0 dX6_init_90 rfl rfl ?_
  refine z_bip hC dX6_init_91 (by decide) ?_
  refine z_newai hC 101 mX6_init_ai rfl (Nat.le_of_ble_eq_true rfl) (Nat.le_of_ble_eq_true rfl) (Nat.le_of_ble_eq_true rfl) dX6_init_93 (fun q_93 => ?_)
  show ZG X g (zD X A) 10 855 [(hM, eo 6 [.int (iZ (0)), .ref q_7, .ref q_15, .ref q_23, .ref q_31, .ref q_39, .ref q_47, .ref q_55, .ref q_62, .ref q_85, .null, .null, .null, .null, .null, .int (iZ (0)), .int (iZ (0)), .int (iZ (0)), .long (lZ (0)), .int (iZ (0)), .null, .null, .null, .null, .long (lZ (0)), .int (iZ (0))]), (q_7, ei g 100 ((fun _ => 0))), (q_15, ei g 100 ((fun _ => 0))), (q_23, ei g 100 ((fun _ => 0))), (q_31, ei g 100 ((fun _ => 0))), (q_39, ei g 100 ((fun _ => 0))), (q_47, ez g 100 ((fun _ => 0))), (q_55, ei g 50 ((fun _ => 0))), (q_62, ei g 3 (uZ (uZ (uZ ((fun _ => 0)) 0 100) 1 200) 2 0)), (q_85, ei g 101 ((fun _ => 0))), (q_93, ei g 101 ((fun _ => 0)))] [(0, .ref hM), (1, .int (iZ (v)))] 95 [.ref q_93, .ref hM]
  refine z_putF hC iX6_init_6 tyX6 tyX6_ok nmX6 0 10 rfl rfl (by decide) mX6_init_f38 rfl hN rfl rfl rfl (Nat.le_of_ble_eq_true rfl) dX6_init_95 (ws' := [_, _, _, _, _, _, _, _, _, _, _]) rfl ?_
  refine z_aload_n hC 0 dX6_init_98 rfl rfl ?_
  refine z_bip hC dX6_init_99 (by decide) ?_
  refine z_newai hC 101 mX6_init_ai rfl (Nat.le_of_ble_eq_true rfl) (Nat.le_of_ble_eq_true rfl) (Nat.le_of_ble_eq_true rfl) dX6_init_101 (fun q_101 => ?_)
  show ZG X g (zD X A) 11 956 [(hM, eo 6 [.int (iZ (0)), .ref q_7, .ref q_15, .ref q_23, .ref q_31, .ref q_39, .ref q_47, .ref q_55, .ref q_62, .ref q_85, .ref q_93, .null, .null, .null, .null, .int (iZ (0)), .int (iZ (0)), .int (iZ (0)), .long (lZ (0)), .int (iZ (0)), .null, .null, .null, .null, .long (lZ (0)), .int (iZ (0))]), (q_7, ei g 100 ((fun _ => 0))), (q_15, ei g 100 ((fun _ => 0))), (q_23, ei g 100 ((fun _ => 0))), (q_31, ei g 100 ((fun _ => 0))), (q_39, ei g 100 ((fun _ => 0))), (q_47, ez g 100 ((fun _ => 0))), (q_55, ei g 50 ((fun _ => 0))), (q_62, ei g 3 (uZ (uZ (uZ ((fun _ => 0)) 0 100) 1 200) 2 0)), (q_85, ei g 101 ((fun _ => 0))), (q_93, ei g 101 ((fun _ => 0))), (q_101, ei g 101 ((fun _ => 0)))] [(0, .ref hM), (1, .int (iZ (v)))] 103 [.ref q_101, .ref hM]
  refine z_putF hC iX6_init_6 tyX6 tyX6_ok nmX6 0 11 rfl rfl (by decide) mX6_init_f41 rfl hN rfl rfl rfl (Nat.le_of_ble_eq_true rfl) dX6_init_103 (ws' := [_, _, _, _, _, _, _, _, _, _, _, _]) rfl ?_
  refine z_aload_n hC 0 dX6_init_106 rfl rfl ?_
  refine z_sip hC dX6_init_107 (by decide) ?_
  refine z_newal hC 20604 mX6_init_al rfl (Nat.le_of_ble_eq_true rfl) (Nat.le_of_ble_eq_true rfl) (Nat.le_of_ble_eq_true rfl) dX6_init_110 (fun q_110 => ?_)
  show ZG X g (zD X A) 12 21560 [(hM, eo 6 [.int (iZ (0)), .ref q_7, .ref q_15, .ref q_23, .ref q_31, .ref q_39, .ref q_47, .ref q_55, .ref q_62, .ref q_85, .ref q_93, .ref q_101, .null, .null, .null, .int (iZ (0)), .int (iZ (0)), .int (iZ (0)), .long (lZ (0)), .int (iZ (0)), .null, .null, .null, .null, .long (lZ (0)), .int (iZ (0))]), (q_7, ei g 100 ((fun _ => 0))), (q_15, ei g 100 ((fun _ => 0))), (q_23, ei g 100 ((fun _ => 0))), (q_31, ei g 100 ((fun _ => 0))), (q_39, ei g 100 ((fun _ => 0))), (q_47, ez g 100 ((fun _ => 0))), (q_55, ei g 50 ((fun _ => 0))), (q_62, ei g 3 (uZ (uZ (uZ ((fun _ => 0)) 0 100) 1 200) 2 0)), (q_85, ei g 101 ((fun _ => 0))), (q_93, ei g 101 ((fun _ => 0))), (q_101, ei g 101 ((fun _ => 0))), (q_110, el g 20604 ((fun _ => 0)))] [(0, .ref hM), (1, .int (iZ (v)))] 112 [.ref q_110, .ref hM]
  refine z_putF hC iX6_init_6 tyX6 tyX6_ok nmX6 0 12 rfl rfl (by decide) mX6_init_f44 rfl hN rfl rfl rfl (Nat.le_of_ble_eq_true rfl) dX6_init_112 (ws' := [_, _, _, _, _, _, _, _, _, _, _, _, _]) rfl ?_
  refine z_aload_n hC 0 dX6_init_115 rfl rfl ?_
  refine z_sip hC dX6_init_116 (by decide) ?_
  refine z_newai hC 20604 mX6_init_ai rfl (Nat.le_of_ble_eq_true rfl) (Nat.le_of_ble_eq_true rfl) (Nat.le_of_ble_eq_true rfl) dX6_init_119 (fun q_119 => ?_)
  show ZG X g (zD X A) 13 42164 [(hM, eo 6 [.int (iZ (0)), .ref q_7, .ref q_15, .ref q_23, .ref q_31, .ref q_39, .ref q_47, .ref q_55, .ref q_62, .ref q_85, .ref q_93, .ref q_101, .ref q_110, .null, .null, .int (iZ (0)), .int (iZ (0)), .int (iZ (0)), .long (lZ (0)), .int (iZ (0)), .null, .null, .null, .null, .long (lZ (0)), .int (iZ (0))]), (q_7, ei g 100 ((fun _ => 0))), (q_15, ei g 100 ((fun _ => 0))), (q_23, ei g 100 ((fun _ => 0))), (q_31, ei g 100 ((fun _ => 0))), (q_39, ei g 100 ((fun _ => 0))), (q_47, ez g 100 ((fun _ => 0))), (q_55, ei g 50 ((fun _ => 0))), (q_62, ei g 3 (uZ (uZ (uZ ((fun _ => 0)) 0 100) 1 200) 2 0)), (q_85, ei g 101 ((fun _ => 0))), (q_93, ei g 101 ((fun _ => 0))), (q_101, ei g 101 ((fun _ => 0))), (q_110, el g 20604 ((fun _ => 0))), (q_119, ei g 20604 ((fun _ => 0)))] [(0, .ref hM), (1, .int (iZ (v)))] 121 [.ref q_119, .ref hM]
  refine z_putF hC iX6_init_6 tyX6 tyX6_ok nmX6 0 13 rfl rfl (by decide) mX6_init_f48 rfl hN rfl rfl rfl (Nat.le_of_ble_eq_true rfl) dX6_init_121 (ws' := [_, _, _, _, _, _, _, _, _, _, _, _, _, _]) rfl ?_
  refine z_aload_n hC 0 dX6_init_124 rfl rfl ?_
  refine z_sip hC dX6_init_125 (by decide) ?_
  refine z_newai hC 20604 mX6_init_ai rfl (Nat.le_of_ble_eq_true rfl) (Nat.le_of_ble_eq_true rfl) (Nat.le_of_ble_eq_true rfl) dX6_init_128 (fun q_128 => ?_)
  show ZG X g (zD X A) 14 62768 [(hM, eo 6 [.int (iZ (0)), .ref q_7, .ref q_15, .ref q_23, .ref q_31, .ref q_39, .ref q_47, .ref q_55, .ref q_62, .ref q_85, .ref q_93, .ref q_101, .ref q_110, .ref q_119, .null, .int (iZ (0)), .int (iZ (0)), .int (iZ (0)), .long (lZ (0)), .int (iZ (0)), .null, .null, .null, .null, .long (lZ (0)), .int (iZ (0))]), (q_7, ei g 100 ((fun _ => 0))), (q_15, ei g 100 ((fun _ => 0))), (q_23, ei g 100 ((fun _ => 0))), (q_31, ei g 100 ((fun _ => 0))), (q_39, ei g 100 ((fun _ => 0))), (q_47, ez g 100 ((fun _ => 0))), (q_55, ei g 50 ((fun _ => 0))), (q_62, ei g 3 (uZ (uZ (uZ ((fun _ => 0)) 0 100) 1 200) 2 0)), (q_85, ei g 101 ((fun _ => 0))), (q_93, ei g 101 ((fun _ => 0))), (q_101, ei g 101 ((fun _ => 0))), (q_110, el g 20604 ((fun _ => 0))), (q_119, ei g 20604 ((fun _ => 0))), (q_128, ei g 20604 ((fun _ => 0)))] [(0, .ref hM), (1, .int (iZ (v)))] 130 [.ref q_128, .ref hM]
  refine z_putF hC iX6_init_6 tyX6 tyX6_ok nmX6 0 14 rfl rfl (by decide) mX6_init_f51 rfl hN rfl rfl rfl (Nat.le_of_ble_eq_true rfl) dX6_init_130 (ws' := [_, _, _, _, _, _, _, _, _, _, _, _, _, _, _]) rfl ?_
  refine z_aload_n hC 0 dX6_init_133 rfl rfl ?_
  refine z_bip hC dX6_init_134 (by decide) ?_
  refine z_newai hC 50 mX6_init_ai rfl (Nat.le_of_ble_eq_true rfl) (Nat.le_of_ble_eq_true rfl) (Nat.le_of_ble_eq_true rfl) dX6_init_136 (fun q_136 => ?_)
  show ZG X g (zD X A) 15 62818 [(hM, eo 6 [.int (iZ (0)), .ref q_7, .ref q_15, .ref q_23, .ref q_31, .ref q_39, .ref q_47, .ref q_55, .ref q_62, .ref q_85, .ref q_93, .ref q_101, .ref q_110, .ref q_119, .ref q_128, .int (iZ (0)), .int (iZ (0)), .int (iZ (0)), .long (lZ (0)), .int (iZ (0)), .null, .null, .null, .null, .long (lZ (0)), .int (iZ (0))]), (q_7, ei g 100 ((fun _ => 0))), (q_15, ei g 100 ((fun _ => 0))), (q_23, ei g 100 ((fun _ => 0))), (q_31, ei g 100 ((fun _ => 0))), (q_39, ei g 100 ((fun _ => 0))), (q_47, ez g 100 ((fun _ => 0))), (q_55, ei g 50 ((fun _ => 0))), (q_62, ei g 3 (uZ (uZ (uZ ((fun _ => 0)) 0 100) 1 200) 2 0)), (q_85, ei g 101 ((fun _ => 0))), (q_93, ei g 101 ((fun _ => 0))), (q_101, ei g 101 ((fun _ => 0))), (q_110, el g 20604 ((fun _ => 0))), (q_119, ei g 20604 ((fun _ => 0))), (q_128, ei g 20604 ((fun _ => 0))), (q_136, ei g 50 ((fun _ => 0)))] [(0, .ref hM), (1, .int (iZ (v)))] 138 [.ref q_136, .ref hM]
  refine z_putF hC iX6_init_6 tyX6 tyX6_ok nmX6 0 20 rfl rfl (by decide) mX6_init_f54 rfl hN rfl rfl rfl (Nat.le_of_ble_eq_true rfl) dX6_init_138 (ws' := [_, _, _, _, _, _, _, _, _, _, _, _, _, _, _, _]) rfl ?_
  refine z_aload_n hC 0 dX6_init_141 rfl rfl ?_
  refine z_bip hC dX6_init_142 (by decide) ?_
  refine z_newai hC 50 mX6_init_ai rfl (Nat.le_of_ble_eq_true rfl) (Nat.le_of_ble_eq_true rfl) (Nat.le_of_ble_eq_true rfl) dX6_init_144 (fun q_144 => ?_)
  show ZG X g (zD X A) 16 62868 [(hM, eo 6 [.int (iZ (0)), .ref q_7, .ref q_15, .ref q_23, .ref q_31, .ref q_39, .ref q_47, .ref q_55, .ref q_62, .ref q_85, .ref q_93, .ref q_101, .ref q_110, .ref q_119, .ref q_128, .int (iZ (0)), .int (iZ (0)), .int (iZ (0)), .long (lZ (0)), .int (iZ (0)), .ref q_136, .null, .null, .null, .long (lZ (0)), .int (iZ (0))]), (q_7, ei g 100 ((fun _ => 0))), (q_15, ei g 100 ((fun _ => 0))), (q_23, ei g 100 ((fun _ => 0))), (q_31, ei g 100 ((fun _ => 0))), (q_39, ei g 100 ((fun _ => 0))), (q_47, ez g 100 ((fun _ => 0))), (q_55, ei g 50 ((fun _ => 0))), (q_62, ei g 3 (uZ (uZ (uZ ((fun _ => 0)) 0 100) 1 200) 2 0)), (q_85, ei g 101 ((fun _ => 0))), (q_93, ei g 101 ((fun _ => 0))), (q_101, ei g 101 ((fun _ => 0))), (q_110, el g 20604 ((fun _ => 0))), (q_119, ei g 20604 ((fun _ => 0))), (q_128, ei g 20604 ((fun _ => 0))), (q_136, ei g 50 ((fun _ => 0))), (q_144, ei g 50 ((fun _ => 0)))] [(0, .ref hM), (1, .int (iZ (v)))] 146 [.ref q_144, .ref hM]
  refine z_putF hC iX6_init_6 tyX6 tyX6_ok nmX6 0 21 rfl rfl (by decide) mX6_init_f57 rfl hN rfl rfl rfl (Nat.le_of_ble_eq_true rfl) dX6_init_146 (ws' := [_, _, _, _, _, _, _, _, _, _, _, _, _, _, _, _, _]) rfl ?_
  refine z_aload_n hC 0 dX6_init_149 rfl rfl ?_
  refine z_bip hC dX6_init_150 (by decide) ?_
  refine z_newai hC 50 mX6_init_ai rfl (Nat.le_of_ble_eq_true rfl) (Nat.le_of_ble_eq_true rfl) (Nat.le_of_ble_eq_true rfl) dX6_init_152 (fun q_152 => ?_)
  show ZG X g (zD X A) 17 62918 [(hM, eo 6 [.int (iZ (0)), .ref q_7, .ref q_15, .ref q_23, .ref q_31, .ref q_39, .ref q_47, .ref q_55, .ref q_62, .ref q_85, .ref q_93, .ref q_101, .ref q_110, .ref q_119, .ref q_128, .int (iZ (0)), .int (iZ (0)), .int (iZ (0)), .long (lZ (0)), .int (iZ (0)), .ref q_136, .ref q_144, .null, .null, .long (lZ (0)), .int (iZ (0))]), (q_7, ei g 100 ((fun _ => 0))), (q_15, ei g 100 ((fun _ => 0))), (q_23, ei g 100 ((fun _ => 0))), (q_31, ei g 100 ((fun _ => 0))), (q_39, ei g 100 ((fun _ => 0))), (q_47, ez g 100 ((fun _ => 0))), (q_55, ei g 50 ((fun _ => 0))), (q_62, ei g 3 (uZ (uZ (uZ ((fun _ => 0)) 0 100) 1 200) 2 0)), (q_85, ei g 101 ((fun _ => 0))), (q_93, ei g 101 ((fun _ => 0))), (q_101, ei g 101 ((fun _ => 0))), (q_110, el g 20604 ((fun _ => 0))), (q_119, ei g 20604 ((fun _ => 0))), (q_128, ei g 20604 ((fun _ => 0))), (q_136, ei g 50 ((fun _ => 0))), (q_144, ei g 50 ((fun _ => 0))), (q_152, ei g 50 ((fun _ => 0)))] [(0, .ref hM), (1, .int (iZ (v)))] 154 [.ref q_152, .ref hM]
  refine z_putF hC iX6_init_6 tyX6 tyX6_ok nmX6 0 22 rfl rfl (by decide) mX6_init_f60 rfl hN rfl rfl rfl (Nat.le_of_ble_eq_true rfl) dX6_init_154 (ws' := [_, _, _, _, _, _, _, _, _, _, _, _, _, _, _, _, _, _]) rfl ?_
  refine z_aload_n hC 0 dX6_init_157 rfl rfl ?_
  refine z_bip hC dX6_init_158 (by decide) ?_
  refine z_newai hC 50 mX6_init_ai rfl (Nat.le_of_ble_eq_true rfl) (Nat.le_of_ble_eq_true rfl) (Nat.le_of_ble_eq_true rfl) dX6_init_160 (fun q_160 => ?_)
  show ZG X g (zD X A) 18 62968 [(hM, eo 6 [.int (iZ (0)), .ref q_7, .ref q_15, .ref q_23, .ref q_31, .ref q_39, .ref q_47, .ref q_55, .ref q_62, .ref q_85, .ref q_93, .ref q_101, .ref q_110, .ref q_119, .ref q_128, .int (iZ (0)), .int (iZ (0)), .int (iZ (0)), .long (lZ (0)), .int (iZ (0)), .ref q_136, .ref q_144, .ref q_152, .null, .long (lZ (0)), .int (iZ (0))]), (q_7, ei g 100 ((fun _ => 0))), (q_15, ei g 100 ((fun _ => 0))), (q_23, ei g 100 ((fun _ => 0))), (q_31, ei g 100 ((fun _ => 0))), (q_39, ei g 100 ((fun _ => 0))), (q_47, ez g 100 ((fun _ => 0))), (q_55, ei g 50 ((fun _ => 0))), (q_62, ei g 3 (uZ (uZ (uZ ((fun _ => 0)) 0 100) 1 200) 2 0)), (q_85, ei g 101 ((fun _ => 0))), (q_93, ei g 101 ((fun _ => 0))), (q_101, ei g 101 ((fun _ => 0))), (q_110, el g 20604 ((fun _ => 0))), (q_119, ei g 20604 ((fun _ => 0))), (q_128, ei g 20604 ((fun _ => 0))), (q_136, ei g 50 ((fun _ => 0))), (q_144, ei g 50 ((fun _ => 0))), (q_152, ei g 50 ((fun _ => 0))), (q_160, ei g 50 ((fun _ => 0)))] [(0, .ref hM), (1, .int (iZ (v)))] 162 [.ref q_160, .ref hM]
  refine z_putF hC iX6_init_6 tyX6 tyX6_ok nmX6 0 23 rfl rfl (by decide) mX6_init_f63 rfl hN rfl rfl rfl (Nat.le_of_ble_eq_true rfl) dX6_init_162 (ws' := [_, _, _, _, _, _, _, _, _, _, _, _, _, _, _, _, _, _, _]) rfl ?_
  refine z_iconst hC dX6_init_165 ?_
  refine z_istore_n hC (lv' := [(2, _), (0, _), (1, _)]) dX6_init_166 rfl (by decide) rfl ?_
  have L167 : ∀ (fu : Nat) (k : Int) (F2 : Int → Int), (0 ≤ k ∧ k ≤ 50) → (∀ i, 0 ≤ i → i < k → F2 i = zAn v 16383) → (50 - k).toNat < fu → ZG X g (zD X A) 18 62968 [(hM, eo 6 [.int (iZ (0)), .ref q_7, .ref q_15, .ref q_23, .ref q_31, .ref q_39, .ref q_47, .ref q_55, .ref q_62, .ref q_85, .ref q_93, .ref q_101, .ref q_110, .ref q_119, .ref q_128, .int (iZ (0)), .int (iZ (0)), .int (iZ (0)), .long (lZ (0)), .int (iZ (0)), .ref q_136, .ref q_144, .ref q_152, .ref q_160, .long (lZ (0)), .int (iZ (0))]), (q_7, ei g 100 ((fun _ => 0))), (q_15, ei g 100 ((fun _ => 0))), (q_23, ei g 100 ((fun _ => 0))), (q_31, ei g 100 ((fun _ => 0))), (q_39, ei g 100 ((fun _ => 0))), (q_47, ez g 100 ((fun _ => 0))), (q_55, ei g 50 F2), (q_62, ei g 3 (uZ (uZ (uZ ((fun _ => 0)) 0 100) 1 200) 2 0)), (q_85, ei g 101 ((fun _ => 0))), (q_93, ei g 101 ((fun _ => 0))), (q_101, ei g 101 ((fun _ => 0))), (q_110, el g 20604 ((fun _ => 0))), (q_119, ei g 20604 ((fun _ => 0))), (q_128, ei g 20604 ((fun _ => 0))), (q_136, ei g 50 ((fun _ => 0))), (q_144, ei g 50 ((fun _ => 0))), (q_152, ei g 50 ((fun _ => 0))), (q_160, ei g 50 ((fun _ => 0)))] [(2, .int (iZ (k))), (0, .ref hM), (1, .int (iZ (v)))] 167 [] := by
    intro fu
    induction fu with
    | zero => intro k F2; intros; omega
    | succ fu ih_167 =>
      intro k F2 hk hf hn
      refine z_iload_n hC 0 dX6_init_167 rfl rfl ?_
      refine z_bip hC dX6_init_168 (by decide) ?_
      refine z_icmp_ge hC 190 dX6_init_170 (by decide) (by omega) (by omega) (fun c_170 => ?_) (fun c_170 => ?_)
      ·
        exact hR (q_7, q_15, q_23, q_31, q_39, q_47, q_55, q_62, q_85, q_93, q_101, q_110, q_119, q_128, q_136, q_144, q_152, q_160, F2) _ _ _ [0, 1, 2, 3, 4, 5, 6, 7, 8, 9, 10, 11, 12, 13, 14, 15, 16, 17, 18] (fun i g1 g2 => hf i g1 (by omega)) (by decide) rfl dX6_init_190
      ·
        refine z_aload_n hC 1 dX6_init_173 rfl rfl ?_
        refine z_get hC iX6_init_6 0 7 rfl rfl (by decide) mX6_init_f29 rfl dX6_init_174 ?_
        refine z_iload_n hC 0 dX6_init_177 rfl rfl ?_
        refine z_iload_n hC 2 dX6_init_178 rfl rfl ?_
        refine z_sip hC dX6_init_179 (by decide) ?_
        refine z_iand hC dX6_init_182 ?_
        refine z_iast hC 7 rfl (by omega) (by decide) dX6_init_183 (ws' := [_, _, _, _, _, _, _, _, _, _, _, _, _, _, _, _, _, _, _]) rfl ?_
        refine z_iinc hC (lv' := [(2, _), (0, _), (1, _)]) 0 dX6_init_184 rfl (by decide) rfl ?_
        refine z_goto (tgt := 167) hC dX6_init_187 (by decide) ?_
        exact ih_167 (k + 1) _ (by omega) (fun i g1 g2 => by (by_cases e : i = k); (rw [e, uZ_s]); (rw [uZ_n _ _ e]; exact hf i g1 (by omega))) (by omega)
  exact L167 _ 0 _ (by omega) (fun i g1 g2 => by omega) (Nat.lt_succ_self _)
