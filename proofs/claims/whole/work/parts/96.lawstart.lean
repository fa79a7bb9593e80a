theorem hd_L_cell_s : yL_cell.cls ≠ "java/lang/invoke/MethodHandle" ∧ yL_cell.cls ≠ "java/lang/invoke/VarHandle" ∧ (parseMethodDescriptor yL_cell.desc).map (fun d => d.parameters.length) = some 2 := by decide +kernel
theorem df_X5 : ∀ j, j < 4 → defaultValue (tyX5 j) = vp_V [.null, .null, .null, .null] j := by
  intro j hj
  rcases j with _ | j
  · rfl
  rcases j with _ | j
  · rfl
  rcases j with _ | j
  · rfl
  rcases j with _ | j
  · rfl
  omega
theorem hd_X5_init_s : yX5_init.cls ≠ "java/lang/invoke/MethodHandle" ∧ yX5_init.cls ≠ "java/lang/invoke/VarHandle" ∧ (parseMethodDescriptor yX5_init.desc).map (fun d => d.parameters.length) = some 1 := by decide +kernel
theorem df_X6 : ∀ j, j < 26 → defaultValue (tyX6 j) = vp_V [.int (iZ (0)), .null, .null, .null, .null, .null, .null, .null, .null, .null, .null, .null, .null, .null, .null, .int (iZ (0)), .int (iZ (0)), .int (iZ (0)), .long (lZ (0)), .int (iZ (0)), .null, .null, .null, .null, .long (lZ (0)), .int (iZ (0))] j := by
  intro j hj
  rcases j with _ | j
  · rfl
  rcases j with _ | j
  · rfl
  rcases j with _ | j
  · rfl
  rcases j with _ | j
  · rfl
  rcases j with _ | j
  · rfl
  rcases j with _ | j
  · rfl
  rcases j with _ | j
  · rfl
  rcases j with _ | j
  · rfl
  rcases j with _ | j
  · rfl
  rcases j with _ | j
  · rfl
  rcases j with _ | j
  · rfl
  rcases j with _ | j
  · rfl
  rcases j with _ | j
  · rfl
  rcases j with _ | j
  · rfl
  rcases j with _ | j
  · rfl
  rcases j with _ | j
  · rfl
  rcases j with _ | j
  · rfl
  rcases j with _ | j
  · rfl
  rcases j with _ | j
  · rfl
  rcases j with _ | j
  · rfl
  rcases j with _ | j
  · rfl
  rcases j with _ | j
  · rfl
  rcases j with _ | j
  · rfl
  rcases j with _ | j
  · rfl
  rcases j with _ | j
  · rfl
  rcases j with _ | j
  · rfl
  omega
theorem hd_X6_init_s : yX6_init.cls ≠ "java/lang/invoke/MethodHandle" ∧ yX6_init.cls ≠ "java/lang/invoke/VarHandle" ∧ (parseMethodDescriptor yX6_init.desc).map (fun d => d.parameters.length) = some 1 := by decide +kernel
set_option maxRecDepth 200000 in
theorem iL_law_5 : ∀ w ∈ u_ws RX5 TX5 4, w ∈ wsL_law := by decide +kernel
set_option maxRecDepth 200000 in
theorem mL_law_cl7 : Cond.classLink RL 7 RX5 ∈ wsL_law := by decide +kernel
set_option maxRecDepth 200000 in
theorem mL_law_itRX5 : Cond.instantiable RX5 4 ∈ wsL_law := by decide +kernel
set_option maxRecDepth 200000 in
theorem mL_law_iniRX5 : Cond.initialized RX5 ∈ wsL_law := by decide +kernel
set_option maxRecDepth 200000 in
theorem mL_law_ml15 : Cond.methodLink RL 15 yX5_init ∈ wsL_law := by decide +kernel
set_option maxRecDepth 200000 in
theorem mL_law_im_X5_init : Cond.instanceMethod yX5_init ∈ wsL_law := by decide +kernel
set_option maxRecDepth 200000 in
theorem iL_law_6 : ∀ w ∈ u_ws RX6 TX6 26, w ∈ wsL_law := by decide +kernel
set_option maxRecDepth 200000 in
theorem mL_law_cl18 : Cond.classLink RL 18 RX6 ∈ wsL_law := by decide +kernel
set_option maxRecDepth 200000 in
theorem mL_law_itRX6 : Cond.instantiable RX6 26 ∈ wsL_law := by decide +kernel
set_option maxRecDepth 200000 in
theorem mL_law_iniRX6 : Cond.initialized RX6 ∈ wsL_law := by decide +kernel
set_option maxRecDepth 200000 in
theorem mL_law_ml20 : Cond.methodLink RL 20 yX6_init ∈ wsL_law := by decide +kernel
set_option maxRecDepth 200000 in
theorem mL_law_im_X6_init : Cond.instanceMethod yX6_init ∈ wsL_law := by decide +kernel
set_option maxHeartbeats 4000000 in
set_option maxRecDepth 100000 in
theorem law_start (X : zX) (g : zG) (A : Nat → Prop) (hC : zC X g cL_law RL wsL_law rm_L_law 4) (b L : Nat) (F : Int → Int) (hXY : ∀ (ws : va_W) (H : Heap) (locs : List Loc), zD X A ws H locs → va_X b L (aZ F) (xs X) H) (hF : ∀ z, -2147483648 ≤ F z ∧ F z ≤ 2147483647) (hLn : (L : Int) ≤ 2049) (hret : ∀ (ws : va_W) (lv : List (Nat × Value)) (pc : Nat), decode cL_law pc = .ok (.ireturn, 1) → ZG X g (zD X A) 40 105597 ws lv pc [.int (iZ 1)]) : ZG X g (zD X A) 0 0 [] [(0, .ref b)] 0 [] := by
  refine z_new (ci := 5) hC iL_law_5 tyX5 tyX5_ok mL_law_cl7 mL_law_itRX5 mL_law_iniRX5 rfl df_X5 (Nat.le_of_ble_eq_true rfl) (Nat.le_of_ble_eq_true rfl) dL_law_0 (fun q_0 => ?_)
  show ZG X g (zD X A) 1 4 [(q_0, eo 5 [.null, .null, .null, .null])] [(0, .ref b)] 3 [.ref q_0]
  refine z_dup hC dL_law_3 rfl ?_
  refine z_aload_n hC 0 dL_law_4 rfl rfl ?_
  refine z_iconst hC dL_law_5 ?_
  refine z_sX hC (hXY _) 2 (c_L_cell (xl X) g b L F 0 (by omega) (by omega)) gL_law_L_cell rfl hd_L_cell_s (by decide) ⟨rfl, rfl⟩ rfl rfl (Nat.le_of_ble_eq_true rfl) dL_law_6 ⟨(Nat.le_of_ble_eq_true rfl), (Nat.le_of_ble_eq_true rfl)⟩ ?_
  refine z_nm (fun v0 ev0 => ?_)
  refine z_iWv (wr := []) hC 1 (c_X5_init (xl X) g _ _) gL_law_X5_init mL_law_iniRX5 mL_law_ml15 mL_law_im_X5_init rfl rfl hd_X5_init_s (by decide) ⟨rfl, rfl⟩ [0] [] (by decide) rfl rfl (by decide) (by decide) rfl rfl (Nat.le_of_ble_eq_true rfl) dL_law_9 ⟨Nat.le_of_ble_eq_true rfl, Nat.le_of_ble_eq_true rfl⟩ (fun u_9 p_9 => ?_)
  obtain ⟨hI_9, aK_9, aV_9, aP_9, aM_9, aL_9, aS_9, aH_9, oR_9, aW_9, aT_9, hS_9, hL_9, aC_9, aN_9, hY_9, aE_9, aQ_9, aB_9, aU_9, w1_9⟩ := u_9
  try dsimp only at p_9
  refine z_ws (ws' := [(q_0, eo 5 [.ref hI_9, .ref oR_9, .ref hS_9, .ref hY_9]), (hS_9, eo 3 [.ref hI_9, .ref oR_9, .ref hL_9, .ref aC_9, .ref aN_9, .int (iZ (0))]), (aC_9, el g 20808 ((fun _ => 0))), (aN_9, eb g 20808 ((fun _ => 0))), (hI_9, eo 0 [.ref aK_9, .ref aV_9, .ref aP_9, .ref aM_9, .ref aL_9, .ref aS_9, .ref aH_9, .int (iZ (0))]), (aK_9, ei g 100 ((fun _ => 0))), (aV_9, ei g 100 ((fun _ => 0))), (aP_9, ei g 100 ((fun _ => 0))), (aM_9, ez g 100 ((fun _ => 0))), (aL_9, ei g 101 ((fun _ => 0))), (aS_9, ei g 101 ((fun _ => 0))), (aH_9, ei g 101 ((fun _ => 0))), (oR_9, eo 2 [.ref aW_9, .ref aT_9]), (aW_9, ei g 50 w1_9), (aT_9, ei g 3 (uZ (uZ (fun _ => 0) 0 100) 1 200)), (hL_9, eo 1 [.int (iZ (0)), .int (iZ (0)), .int (iZ (0)), .int (iZ (0))]), (hY_9, eo 4 [.ref aE_9, .ref aQ_9, .ref aB_9, .ref aU_9, .int (iZ (0)), .int (iZ (0)), .long (lZ (0))]), (aE_9, ei g 50 ((fun _ => 0))), (aQ_9, ei g 50 ((fun _ => 0))), (aB_9, ei g 50 ((fun _ => 0))), (aU_9, ei g 50 ((fun _ => 0)))]) [0, 1, 2, 3, 4, 5, 6, 7, 8, 9, 10, 11, 12, 13, 14, 15, 16, 17, 18, 19, 20] (by decide) rfl ?_
  refine z_astore_n hC (lv' := [(1, _), (0, _)]) dL_law_12 rfl (by decide) rfl ?_
  refine z_new (ci := 6) hC iL_law_6 tyX6 tyX6_ok mL_law_cl18 mL_law_itRX6 mL_law_iniRX6 rfl df_X6 (Nat.le_of_ble_eq_true rfl) (Nat.le_of_ble_eq_true rfl) dL_law_13 (fun q_13 => ?_)
  show ZG X g (zD X A) 22 42629 [(q_0, eo 5 [.ref hI_9, .ref oR_9, .ref hS_9, .ref hY_9]), (hS_9, eo 3 [.ref hI_9, .ref oR_9, .ref hL_9, .ref aC_9, .ref aN_9, .int (iZ (0))]), (aC_9, el g 20808 ((fun _ => 0))), (aN_9, eb g 20808 ((fun _ => 0))), (hI_9, eo 0 [.ref aK_9, .ref aV_9, .ref aP_9, .ref aM_9, .ref aL_9, .ref aS_9, .ref aH_9, .int (iZ (0))]), (aK_9, ei g 100 ((fun _ => 0))), (aV_9, ei g 100 ((fun _ => 0))), (aP_9, ei g 100 ((fun _ => 0))), (aM_9, ez g 100 ((fun _ => 0))), (aL_9, ei g 101 ((fun _ => 0))), (aS_9, ei g 101 ((fun _ => 0))), (aH_9, ei g 101 ((fun _ => 0))), (oR_9, eo 2 [.ref aW_9, .ref aT_9]), (aW_9, ei g 50 w1_9), (aT_9, ei g 3 (uZ (uZ (fun _ => 0) 0 100) 1 200)), (hL_9, eo 1 [.int (iZ (0)), .int (iZ (0)), .int (iZ (0)), .int (iZ (0))]), (hY_9, eo 4 [.ref aE_9, .ref aQ_9, .ref aB_9, .ref aU_9, .int (iZ (0)), .int (iZ (0)), .long (lZ (0))]), (aE_9, ei g 50 ((fun _ => 0))), (aQ_9, ei g 50 ((fun _ => 0))), (aB_9, ei g 50 ((fun _ => 0))), (aU_9, ei g 50 ((fun _ => 0))), (q_13, eo 6 [.int (iZ (0)), .null, .null, .null, .null, .null, .null, .null, .null, .null, .null, .null, .null, .null, .null, .int (iZ (0)), .int (iZ (0)), .int (iZ (0)), .long (lZ (0)), .int (iZ (0)), .null, .null, .null, .null, .long (lZ (0)), .int (iZ (0))])] [(1, .ref q_0), (0, .ref b)] 16 [.ref q_13]
  refine z_dup hC dL_law_16 rfl ?_
  refine z_aload_n hC 1 dL_law_17 rfl rfl ?_
  refine z_iconst hC dL_law_18 ?_
  refine z_sX hC (hXY _) 2 (c_L_cell (xl X) g b L F 0 (by omega) (by omega)) gL_law_L_cell rfl hd_L_cell_s (by decide) ⟨rfl, rfl⟩ rfl rfl (Nat.le_of_ble_eq_true rfl) dL_law_19 ⟨(Nat.le_of_ble_eq_true rfl), (Nat.le_of_ble_eq_true rfl)⟩ ?_
  refine z_nm (fun v1 ev1 => ?_)
  refine z_iWv (wr := [_, _, _, _, _, _, _, _, _, _, _, _, _, _, _, _, _, _, _, _, _]) hC 1 (c_X6_init (xl X) g _ _) gL_law_X6_init mL_law_iniRX6 mL_law_ml20 mL_law_im_X6_init rfl rfl hd_X6_init_s (by decide) ⟨rfl, rfl⟩ [21] [0, 1, 2, 3, 4, 5, 6, 7, 8, 9, 10, 11, 12, 13, 14, 15, 16, 17, 18, 19, 20] (by decide) rfl rfl (by decide) (by decide) rfl rfl (Nat.le_of_ble_eq_true rfl) dL_law_22 ⟨Nat.le_of_ble_eq_true rfl, Nat.le_of_ble_eq_true rfl⟩ (fun u_22 p_22 => ?_)
  obtain ⟨mK_22, mW_22, mT_22, mS_22, mV_22, mM_22, mX_22, mY_22, mI_22, mJ_22, mG_22, mC_22, mR_22, mN_22, mE_22, mL_22, mB_22, mU_22, x1_22⟩ := u_22
  try dsimp only at p_22
  refine z_ws (ws' := [(q_0, eo 5 [.ref hI_9, .ref oR_9, .ref hS_9, .ref hY_9]), (hS_9, eo 3 [.ref hI_9, .ref oR_9, .ref hL_9, .ref aC_9, .ref aN_9, .int (iZ (0))]), (aC_9, el g 20808 ((fun _ => 0))), (aN_9, eb g 20808 ((fun _ => 0))), (hI_9, eo 0 [.ref aK_9, .ref aV_9, .ref aP_9, .ref aM_9, .ref aL_9, .ref aS_9, .ref aH_9, .int (iZ (0))]), (aK_9, ei g 100 ((fun _ => 0))), (aV_9, ei g 100 ((fun _ => 0))), (aP_9, ei g 100 ((fun _ => 0))), (aM_9, ez g 100 ((fun _ => 0))), (aL_9, ei g 101 ((fun _ => 0))), (aS_9, ei g 101 ((fun _ => 0))), (aH_9, ei g 101 ((fun _ => 0))), (oR_9, eo 2 [.ref aW_9, .ref aT_9]), (aW_9, ei g 50 w1_9), (aT_9, ei g 3 (uZ (uZ (fun _ => 0) 0 100) 1 200)), (hL_9, eo 1 [.int (iZ (0)), .int (iZ (0)), .int (iZ (0)), .int (iZ (0))]), (hY_9, eo 4 [.ref aE_9, .ref aQ_9, .ref aB_9, .ref aU_9, .int (iZ (0)), .int (iZ (0)), .long (lZ (0))]), (aE_9, ei g 50 ((fun _ => 0))), (aQ_9, ei g 50 ((fun _ => 0))), (aB_9, ei g 50 ((fun _ => 0))), (aU_9, ei g 50 ((fun _ => 0))), (q_13, eo 6 [.int (iZ (0)), .ref mK_22, .ref mW_22, .ref mT_22, .ref mS_22, .ref mV_22, .ref mM_22, .ref mX_22, .ref mY_22, .ref mI_22, .ref mJ_22, .ref mG_22, .ref mC_22, .ref mR_22, .ref mN_22, .int (iZ (0)), .int (iZ (0)), .int (iZ (0)), .long (lZ (0)), .int (iZ (0)), .ref mE_22, .ref mL_22, .ref mB_22, .ref mU_22, .long (lZ (0)), .int (iZ (0))]), (mK_22, ei g 100 ((fun _ => 0))), (mW_22, ei g 100 ((fun _ => 0))), (mT_22, ei g 100 ((fun _ => 0))), (mS_22, ei g 100 ((fun _ => 0))), (mV_22, ei g 100 ((fun _ => 0))), (mM_22, ez g 100 ((fun _ => 0))), (mX_22, ei g 50 x1_22), (mY_22, ei g 3 (uZ (uZ (uZ (fun _ => 0) 0 100) 1 200) 2 0)), (mI_22, ei g 101 ((fun _ => 0))), (mJ_22, ei g 101 ((fun _ => 0))), (mG_22, ei g 101 ((fun _ => 0))), (mC_22, el g 20604 ((fun _ => 0))), (mR_22, ei g 20604 ((fun _ => 0))), (mN_22, ei g 20604 ((fun _ => 0))), (mE_22, ei g 50 ((fun _ => 0))), (mL_22, ei g 50 ((fun _ => 0))), (mB_22, ei g 50 ((fun _ => 0))), (mU_22, ei g 50 ((fun _ => 0)))]) [0, 1, 2, 3, 4, 5, 6, 7, 8, 9, 10, 11, 12, 13, 14, 15, 16, 17, 18, 19, 20, 21, 22, 23, 24, 25, 26, 27, 28, 29, 30, 31, 32, 33, 34, 35, 36, 37, 38, 39] (by decide) rfl ?_
  refine z_astore_n hC (lv' := [(2, _), (1, _), (0, _)]) dL_law_25 rfl (by decide) rfl ?_
  refine z_iconst hC dL_law_26 ?_
  refine z_istore_n hC (lv' := [(3, _), (2, _), (1, _), (0, _)]) dL_law_27 rfl (by decide) rfl ?_
  rw [ev1, ← ev0] at p_22
  have q := law_loop X g A hC b L F hXY hF hLn q_0 hI_9 aK_9 aV_9 aP_9 aM_9 aL_9 aS_9 aH_9 hS_9 aC_9 aN_9 oR_9 aW_9 aT_9 hL_9 hY_9 aE_9 aQ_9 aB_9 aU_9 q_13 mK_22 mW_22 mT_22 mS_22 mV_22 mM_22 mX_22 mY_22 mI_22 mJ_22 mG_22 mC_22 mR_22 mN_22 mE_22 mL_22 mB_22 mU_22 hret 3000 1 (by omega) (by omega) (by omega)
  unfold zGo at q
  exact q _ _ _ _ _ _ _ _ _ _ _ _ _ _ _ _ _ _ _ _ _ _ _ _ _ _ _ _ _ _ _ _ _ _ _ _ _ _ _ _ _ _ _ _ _ _ (zLI_0 p_9 p_22)
set_option maxHeartbeats 4000000 in
theorem whole_start {p : Program} {e : Env} {s : State} {m : MethodId} {below : List Frame} {meth : Method} {c : Code} (l : Launch) (hflags : l.flags = flags0) {b L : Nat} {xs : Nat → Int32} (hL : L ≤ 2049) (C0 : lw_At p s m meth c b L xs) : W p l e room_1 s m #[Value.ref b] below meth c s.heap [] 0 0 (lw_Z below #[Value.ref b] s) (entryFrame m ([Value.ref b] : List Value).toArray 4) := by
  obtain ⟨hx, hb, hr, hml, hown, hts, hX, hbl, hlocks, hgv⟩ := id C0
  obtain ⟨g, hK⟩ := law_known hts
  have hxs : aZ (fun z : Int => (xs z.toNat).toInt) = xs := by
    funext j
    show iZ ((xs (j : Int).toNat).toInt) = xs j
    rw [iZ_of, Int.toNat_natCast]
  have hl := lv_entry ([.ref b]) (n := 4) (Nat.le_of_ble_eq_true rfl)
  rw [lg_entry_eq]
  refine law_start (p, l, e, room_1, s, m, #[Value.ref b], below, meth, c, 4, lw_Z below #[Value.ref b] s) g (fun q : Nat => s.heap.size ≤ q) ⟨⟨hx, hb, hml, hown, fun w hw => hts w (wsL_law_in w hw)⟩, hK, rfl, rfl⟩ b L (fun z : Int => (xs z.toNat).toInt) (fun ws H locs hY => ?_) (fun z => ?_) (by omega) (fun ws lv pc d H locs ls hP hD hY hl => ?_) s.heap [] _ (fun k q h => by simp at h) ⟨fun i j p q h => by simp at h, fun k q h => by simp at h⟩ ⟨⟨fun i j p q h => by simp at h, fun k q h => by simp at h⟩, va_S.rf, fun q h => h⟩ hl
  · rw [hxs]
    exact hX.kept (hY.2.1.2.1 b hbl (Nat.not_le.mpr hbl))
  · have h1 := (xs z.toNat).toInt_lt
    have h2 := (xs z.toNat).le_toInt
    show -2147483648 ≤ (xs z.toNat).toInt ∧ (xs z.toNat).toInt ≤ 2147483647
    omega
  · exact va_forget hY.2.1.2.2 (lw_ret hx hb hr hlocks d)
