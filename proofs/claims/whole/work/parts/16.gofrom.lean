/-- a fact that is kept from the arithmetic -/
def zOp (P : Prop) : Prop := P
theorem gf_k1 {a i u n la : Int} (h5 : -1 ≤ a ∧ a < n) (hn : 0 ≤ n ∧ n ≤ 100) (h6 : 0 ≤ i ∧ i < la) (hla : la ≤ 50) (hu : 0 ≤ u ∧ u ≤ 3) : 0 ≤ ((a + 1) * 51 + i) * 4 + u ∧ ((a + 1) * 51 + i) * 4 + u < 20604 := by omega
theorem hd_X6_mayBreak_v : yX6_mayBreak.cls = RX6 ∧ yX6_mayBreak.cls ≠ "java/lang/invoke/MethodHandle" ∧ yX6_mayBreak.cls ≠ "java/lang/invoke/VarHandle" ∧ (parseMethodDescriptor yX6_mayBreak.desc).map (fun d => d.parameters.length) = some 2 := by decide +kernel
theorem hd_X6_isLine_v : yX6_isLine.cls = RX6 ∧ yX6_isLine.cls ≠ "java/lang/invoke/MethodHandle" ∧ yX6_isLine.cls ≠ "java/lang/invoke/VarHandle" ∧ (parseMethodDescriptor yX6_isLine.desc).map (fun d => d.parameters.length) = some 4 := by decide +kernel
theorem hd_X6_index_s : yX6_index.cls ≠ "java/lang/invoke/MethodHandle" ∧ yX6_index.cls ≠ "java/lang/invoke/VarHandle" ∧ (parseMethodDescriptor yX6_index.desc).map (fun d => d.parameters.length) = some 3 := by decide +kernel
theorem hd_X6_keep_v : yX6_keep.cls = RX6 ∧ yX6_keep.cls ≠ "java/lang/invoke/MethodHandle" ∧ yX6_keep.cls ≠ "java/lang/invoke/VarHandle" ∧ (parseMethodDescriptor yX6_keep.desc).map (fun d => d.parameters.length) = some 4 := by decide +kernel
theorem hd_X6_mustBreak_v : yX6_mustBreak.cls = RX6 ∧ yX6_mustBreak.cls ≠ "java/lang/invoke/MethodHandle" ∧ yX6_mustBreak.cls ≠ "java/lang/invoke/VarHandle" ∧ (parseMethodDescriptor yX6_mustBreak.desc).map (fun d => d.parameters.length) = some 1 := by decide +kernel
set_option maxRecDepth 20000 in
theorem mX6_goFrom_f66 : Cond.fieldLink RX6 66 "BreakSearchModel" "items" "I" ∈ wsX6_goFrom := by decide +kernel
set_option maxRecDepth 20000 in
theorem iX6_goFrom_6 : ∀ w ∈ u_ws RX6 TX6 26, w ∈ wsX6_goFrom := by decide +kernel
set_option maxRecDepth 20000 in
theorem mX6_goFrom_f101 : Cond.fieldLink RX6 101 "BreakSearchModel" "demerit" "J" ∈ wsX6_goFrom := by decide +kernel
set_option maxRecDepth 20000 in
theorem mX6_goFrom_f84 : Cond.fieldLink RX6 84 "BreakSearchModel" "sort" "I" ∈ wsX6_goFrom := by decide +kernel
set_option maxRecDepth 20000 in
theorem mX6_goFrom_k130 : Cond.constantLong RX6 130 (2000) ∈ wsX6_goFrom := by decide +kernel
set_option maxRecDepth 20000 in
theorem mX6_goFrom_k128 : Cond.constantLong RX6 128 (3000) ∈ wsX6_goFrom := by decide +kernel
set_option maxRecDepth 20000 in
theorem mX6_goFrom_f7 : Cond.fieldLink RX6 7 "BreakSearchModel" "kinds" "[I" ∈ wsX6_goFrom := by decide +kernel
set_option maxRecDepth 20000 in
theorem mX6_goFrom_f25 : Cond.fieldLink RX6 25 "BreakSearchModel" "marked" "[Z" ∈ wsX6_goFrom := by decide +kernel
set_option maxRecDepth 20000 in
theorem mX6_goFrom_f48 : Cond.fieldLink RX6 48 "BreakSearchModel" "rest" "[I" ∈ wsX6_goFrom := by decide +kernel
set_option maxRecDepth 20000 in
theorem mX6_goFrom_f44 : Cond.fieldLink RX6 44 "BreakSearchModel" "costs" "[J" ∈ wsX6_goFrom := by decide +kernel
abbrev rm_X6_goFrom : Room := { frames := 3, cells := 0, slots := 0, locals := 66 }
set_option maxHeartbeats 4000000 in
set_option maxRecDepth 100000 in
theorem c_X6_goFrom (l : Launch) (g : zG) (hM mK mW mT mS mV mM mX mY mI mJ mG mC mR mN mE mL mB mU : Nat) (n lk bd so dm tt sm po : Int) (KR WR TR SR VR MR XR YR IR JR GR CR RR NR ER LR BR UR : Int → Int) (K V P M LB SB HB W T : Int → Int) (mt : Int) (d : zDP) (a i ps ex la : Int) (h1 : zEnv n K V P M LB SB HB W T ps mt ex d) (h2 : zSm n K V P M KR WR VR MR) (h3 : zSu n LB SB HB IR JR GR) (h4 : zSx W T XR YR) (h5 : -1 ≤ a ∧ a < n ∨ (a = -1 ∧ n = 0)) (h6 : 0 ≤ i ∧ i < la) (h7 : (0 < ex ∧ la = ex) ∨ (ex = 0 ∧ la = 50)) (h8 : ∀ c, 0 ≤ c → c ≤ 3 → RR (((a + 1) * 51 + i) * 4 + c) = 0) (h9 : ∀ b s, a < b → b < n → zMay K V M n b mt → i + 1 < la → 0 ≤ s → s ≤ 3 → zRc CR RR NR b (i + 1) s (zVL d (i + 1) b s)) : zMWv (S := (Int → Int) × (Int → Int) × (Int → Int) × (Int) × (Int) × (Int) × (Int)) l yX6_goFrom wsX6_goFrom rm_X6_goFrom g [(hM, eo 6 [.int (iZ (n)), .ref mK, .ref mW, .ref mT, .ref mS, .ref mV, .ref mM, .ref mX, .ref mY, .ref mI, .ref mJ, .ref mG, .ref mC, .ref mR, .ref mN, .int (iZ (lk)), .int (iZ (bd)), .int (iZ (so)), .long (lZ (dm)), .int (iZ (tt)), .ref mE, .ref mL, .ref mB, .ref mU, .long (lZ (sm)), .int (iZ (po))]), (mK, ei g 100 KR), (mW, ei g 100 WR), (mT, ei g 100 TR), (mS, ei g 100 SR), (mV, ei g 100 VR), (mM, ez g 100 MR), (mX, ei g 50 XR), (mY, ei g 3 YR), (mI, ei g 101 IR), (mJ, ei g 101 JR), (mG, ei g 101 GR), (mC, el g 20604 CR), (mR, ei g 20604 RR), (mN, ei g 20604 NR), (mE, ei g 50 ER), (mL, ei g 50 LR), (mB, ei g 50 BR), (mU, ei g 50 UR)] [.ref hM, .int (iZ (a)), .int (iZ (i)), .int (iZ (ps)), .int (iZ (ex)), .int (iZ (la))] (fun u => zF4 (((a + 1) * 51 + i) * 4) CR RR NR u.1 u.2.1 u.2.2.1 ∧ ∀ c, 0 ≤ c → c ≤ 3 → zRc u.1 u.2.1 u.2.2.1 a i c (zVL d i a c)) (fun u => [(hM, eo 6 [.int (iZ (n)), .ref mK, .ref mW, .ref mT, .ref mS, .ref mV, .ref mM, .ref mX, .ref mY, .ref mI, .ref mJ, .ref mG, .ref mC, .ref mR, .ref mN, .int (iZ (u.2.2.2.1)), .int (iZ (u.2.2.2.2.1)), .int (iZ (u.2.2.2.2.2.1)), .long (lZ (u.2.2.2.2.2.2)), .int (iZ (tt)), .ref mE, .ref mL, .ref mB, .ref mU, .long (lZ (sm)), .int (iZ (po))]), (mK, ei g 100 KR), (mW, ei g 100 WR), (mT, ei g 100 TR), (mS, ei g 100 SR), (mV, ei g 100 VR), (mM, ez g 100 MR), (mX, ei g 50 XR), (mY, ei g 3 YR), (mI, ei g 101 IR), (mJ, ei g 101 JR), (mG, ei g 101 GR), (mC, el g 20604 u.1), (mR, ei g 20604 u.2.1), (mN, ei g 20604 u.2.2.1), (mE, ei g 50 ER), (mL, ei g 50 LR), (mB, ei g 50 BR), (mU, ei g 50 UR)]) 0 0 := by
  refine z_beWv (cc := cX6_goFrom) (nL := 18) (plainFor_of_name (by decide +kernel)) rfl (Nat.le_of_ble_eq_true rfl) ?_
  intro X A hC hN hR
  have hC : zC X g cX6_goFrom RX6 wsX6_goFrom rm_X6_goFrom 18 := hC
  show ZG X g (zD X A) 0 0 [(hM, eo 6 [.int (iZ (n)), .ref mK, .ref mW, .ref mT, .ref mS, .ref mV, .ref mM, .ref mX, .ref mY, .ref mI, .ref mJ, .ref mG, .ref mC, .ref mR, .ref mN, .int (iZ (lk)), .int (iZ (bd)), .int (iZ (so)), .long (lZ (dm)), .int (iZ (tt)), .ref mE, .ref mL, .ref mB, .ref mU, .long (lZ (sm)), .int (iZ (po))]), (mK, ei g 100 KR), (mW, ei g 100 WR), (mT, ei g 100 TR), (mS, ei g 100 SR), (mV, ei g 100 VR), (mM, ez g 100 MR), (mX, ei g 50 XR), (mY, ei g 3 YR), (mI, ei g 101 IR), (mJ, ei g 101 JR), (mG, ei g 101 GR), (mC, el g 20604 CR), (mR, ei g 20604 RR), (mN, ei g 20604 NR), (mE, ei g 50 ER), (mL, ei g 50 LR), (mB, ei g 50 BR), (mU, ei g 50 UR)] [(0, .ref hM), (1, .int (iZ (a))), (2, .int (iZ (i))), (3, .int (iZ (ps))), (4, .int (iZ (ex))), (5, .int (iZ (la)))] 0 []
  obtain ⟨hI1, hI2, hI3, hI4, hI5, hI6, hI7, hI8, hd⟩ := id h1
  have hB := zEnv_b h1
  have hn := hI1.1
  have hn0 := hI1.1
  have hCi : zCi n K V P M LB SB HB W T := ⟨hI1, hI2, hI3, hI4⟩
  have hd1 : d.1 = n := by rw [hd]; rfl
  have hd2 : d.2.1 = ex := by rw [hd]; rfl
  have hla : la ≤ 50 := by omega
  have ha5 : -1 ≤ a ∧ a < n := by omega
  have hgf : ∀ b, b ≤ n → ¬ ((b = n → (ex = 0 ∨ i + 1 = ex)) ∧ (b < n → i + 1 < la)) → ¬ zOkc d (zVL d (i + 1)) i a b := fun b q1 q2 => gf_ft hd1 hd2 h7 h6 hI8.2 q1 q2
  have hmm : zOp ((mt = 0 ∨ mt = 1) ∧ (mt = 1 ↔ ¬ ps = 1)) := ⟨hI6, hI7⟩
  clear h5 h7 hI6 hI7
  refine z_iconst hC dX6_goFrom_0 ?_
  refine z_istore hC (lv' := [(6, _), (0, _), (1, _), (2, _), (3, _), (4, _), (5, _)]) dX6_goFrom_1 (by decide) rfl ?_
  refine z_iload_n hC 2 dX6_goFrom_3 rfl rfl ?_
  refine z_iconst hC dX6_goFrom_4 ?_
  refine z_iadd hC dX6_goFrom_5 ?_
  refine z_istore hC (lv' := [(7, _), (6, _), (0, _), (1, _), (2, _), (3, _), (4, _), (5, _)]) dX6_goFrom_6 (by decide) rfl ?_
  have L8 : ∀ (fu : Nat) (b mo : Int) (C2 R2 N2 : Int → Int) (lk2 bd2 so2 dm2 : Int), (a + 1 ≤ b ∧ b ≤ n + 1) → ((mo = 1 ∧ (∀ m, a < m → m < b → ¬ zMust K V n m)) ∨ (mo = 0 ∧ a + 1 < b ∧ zMust K V n (b - 1))) → (zF4 (((a + 1) * 51 + i) * 4) CR RR NR C2 R2 N2) → (zR4 d a i (b - a - 1).toNat C2 R2 N2) → (n + 2 - b).toNat < fu → ZG X g (zD X A) 0 0 [(hM, eo 6 [.int (iZ (n)), .ref mK, .ref mW, .ref mT, .ref mS, .ref mV, .ref mM, .ref mX, .ref mY, .ref mI, .ref mJ, .ref mG, .ref mC, .ref mR, .ref mN, .int (iZ (lk2)), .int (iZ (bd2)), .int (iZ (so2)), .long (lZ (dm2)), .int (iZ (tt)), .ref mE, .ref mL, .ref mB, .ref mU, .long (lZ (sm)), .int (iZ (po))]), (mK, ei g 100 KR), (mW, ei g 100 WR), (mT, ei g 100 TR), (mS, ei g 100 SR), (mV, ei g 100 VR), (mM, ez g 100 MR), (mX, ei g 50 XR), (mY, ei g 3 YR), (mI, ei g 101 IR), (mJ, ei g 101 JR), (mG, ei g 101 GR), (mC, el g 20604 C2), (mR, ei g 20604 R2), (mN, ei g 20604 N2), (mE, ei g 50 ER), (mL, ei g 50 LR), (mB, ei g 50 BR), (mU, ei g 50 UR)] [(6, .int (iZ (mo))), (7, .int (iZ (b))), (0, .ref hM), (1, .int (iZ (a))), (2, .int (iZ (i))), (3, .int (iZ (ps))), (4, .int (iZ (ex))), (5, .int (iZ (la)))] 8 [] := by
    intro fu
    induction fu with
    | zero => intro b mo C2 R2 N2 lk2 bd2 so2 dm2; intros; omega
    | succ fu ih_8 =>
      intro b mo C2 R2 N2 lk2 bd2 so2 dm2 hb hmo hF hR4 hn
      have hmr : mo = 0 ∨ mo = 1 := by (rcases hmo with q | q); (exact Or.inr q.1); (exact Or.inl q.1)
      refine z_iload hC 1 dX6_goFrom_8 rfl ?_
      refine z_aload_n hC 2 dX6_goFrom_10 rfl rfl ?_
      refine z_get hC iX6_goFrom_6 0 0 rfl rfl (by decide) mX6_goFrom_f66 rfl dX6_goFrom_11 ?_
      refine z_icmp_gt hC 365 dX6_goFrom_14 (by decide) (by omega) (by omega) (fun c_14 => ?_) (fun c_14 => ?_)
      ·
        have hend := zR4_end (n := n) (K := K) (V := V) (P := P) (M := M) (LB := LB) (SB := SB) (HB := HB) (W := W) (tol := (if ps = 1 then T 0 else T 1)) (mo := (if ps = 3 then T 2 else 0)) (mt := mt) (ex := ex) (a := a) (b := n) (i := i) (C := C2) (R := R2) (N := N2) (by omega) (by omega) (Or.inl rfl) (by rw [← hd, show (n - a).toNat = (b - a - 1).toNat by omega]; exact hR4)
        rw [← hd] at hend
        exact hR (C2, R2, N2, lk2, bd2, so2, dm2) _ _ _ [0, 1, 2, 3, 4, 5, 6, 7, 8, 9, 10, 11, 12, 13, 14, 15, 16, 17, 18] ⟨hF, hend⟩ (by decide) rfl dX6_goFrom_365
      ·
        refine z_iload hC 0 dX6_goFrom_17 rfl ?_
        refine z_if_eq hC 365 dX6_goFrom_19 (by decide) (by omega) (fun c_19 => ?_) (fun c_19 => ?_)
        ·
          have hm0 := hmo.resolve_left (fun q => by have := q.1; omega)
          have hend := zR4_end (n := n) (K := K) (V := V) (P := P) (M := M) (LB := LB) (SB := SB) (HB := HB) (W := W) (tol := (if ps = 1 then T 0 else T 1)) (mo := (if ps = 3 then T 2 else 0)) (mt := mt) (ex := ex) (a := a) (b := b - 1) (i := i) (C := C2) (R := R2) (N := N2) (by omega) (by omega) (Or.inr hm0.2.2) (by rw [← hd, show (b - 1 - a).toNat = (b - a - 1).toNat by omega]; exact hR4)
          rw [← hd] at hend
          exact hR (C2, R2, N2, lk2, bd2, so2, dm2) _ _ _ [0, 1, 2, 3, 4, 5, 6, 7, 8, 9, 10, 11, 12, 13, 14, 15, 16, 17, 18] ⟨hF, hend⟩ (by decide) rfl dX6_goFrom_365
        ·
          have hm1 := hmo.resolve_right (fun q => by have := q.1; omega)
          clear hmo hmr
          have hfe : d.2.2.1 a b i = zFit n K V P M LB SB HB W (if ps = 1 then T 0 else T 1) (if ps = 3 then T 2 else 0) mt a b i := by rw [hd]; rfl
          have J359 : ∀ (mo3 : Int) (C3 R3 N3 : Int → Int) (lk3 bd3 so3 dm3 : Int), (mo3 = 1 ∧ ¬ zMust K V n b) ∨ (mo3 = 0 ∧ zMust K V n b) → zF4 (((a + 1) * 51 + i) * 4) CR RR NR C3 R3 N3 → zR4 d a i (b - a).toNat C3 R3 N3 → ZG X g (zD X A) 0 0 [(hM, eo 6 [.int (iZ (n)), .ref mK, .ref mW, .ref mT, .ref mS, .ref mV, .ref mM, .ref mX, .ref mY, .ref mI, .ref mJ, .ref mG, .ref mC, .ref mR, .ref mN, .int (iZ (lk3)), .int (iZ (bd3)), .int (iZ (so3)), .long (lZ (dm3)), .int (iZ (tt)), .ref mE, .ref mL, .ref mB, .ref mU, .long (lZ (sm)), .int (iZ (po))]), (mK, ei g 100 KR), (mW, ei g 100 WR), (mT, ei g 100 TR), (mS, ei g 100 SR), (mV, ei g 100 VR), (mM, ez g 100 MR), (mX, ei g 50 XR), (mY, ei g 3 YR), (mI, ei g 101 IR), (mJ, ei g 101 JR), (mG, ei g 101 GR), (mC, el g 20604 C3), (mR, ei g 20604 R3), (mN, ei g 20604 N3), (mE, ei g 50 ER), (mL, ei g 50 LR), (mB, ei g 50 BR), (mU, ei g 50 UR)] [(6, .int (iZ (mo3))), (7, .int (iZ (b))), (0, .ref hM), (1, .int (iZ (a))), (2, .int (iZ (i))), (3, .int (iZ (ps))), (4, .int (iZ (ex))), (5, .int (iZ (la)))] 359 [] := by
            intro mo3 C3 R3 N3 lk3 bd3 so3 dm3 hm3 hF3 hR3
            refine z_iinc hC (lv' := [(7, _), (6, _), (0, _), (1, _), (2, _), (3, _), (4, _), (5, _)]) 1 dX6_goFrom_359 rfl (by decide) rfl ?_
            refine z_goto (tgt := 8) hC dX6_goFrom_362 (by decide) ?_
            refine z_lv (lv' := [(6, _), (7, _), (0, _), (1, _), (2, _), (3, _), (4, _), (5, _)]) [1, 0, 2, 3, 4, 5, 6, 7] rfl ?_
            exact ih_8 (b + 1) mo3 _ _ _ _ _ _ _ (by omega) (by (rcases hm3 with ⟨q1, q2⟩ | ⟨q1, q2⟩); (exact Or.inl ⟨q1, fun m g1 g2 => by (by_cases e : m = b); (rw [e]; exact q2); (exact hm1.2 m g1 (by omega))⟩); (exact Or.inr ⟨q1, by omega, by rw [show b + 1 - 1 = b by omega]; exact q2⟩)) hF3 (by rw [show (b + 1 - a - 1).toNat = (b - a).toNat by omega]; exact hR3) (by omega)
          refine z_aload_n hC 2 dX6_goFrom_22 rfl rfl ?_
          have J36 : ∀ (mv : Int), (mv = 1 ∧ ¬ zMust K V n b) ∨ (mv = 0 ∧ zMust K V n b) → ZG X g (zD X A) 0 0 [(hM, eo 6 [.int (iZ (n)), .ref mK, .ref mW, .ref mT, .ref mS, .ref mV, .ref mM, .ref mX, .ref mY, .ref mI, .ref mJ, .ref mG, .ref mC, .ref mR, .ref mN, .int (iZ (lk2)), .int (iZ (bd2)), .int (iZ (so2)), .long (lZ (dm2)), .int (iZ (tt)), .ref mE, .ref mL, .ref mB, .ref mU, .long (lZ (sm)), .int (iZ (po))]), (mK, ei g 100 KR), (mW, ei g 100 WR), (mT, ei g 100 TR), (mS, ei g 100 SR), (mV, ei g 100 VR), (mM, ez g 100 MR), (mX, ei g 50 XR), (mY, ei g 3 YR), (mI, ei g 101 IR), (mJ, ei g 101 JR), (mG, ei g 101 GR), (mC, el g 20604 C2), (mR, ei g 20604 R2), (mN, ei g 20604 N2), (mE, ei g 50 ER), (mL, ei g 50 LR), (mB, ei g 50 BR), (mU, ei g 50 UR)] [(6, .int (iZ (mo))), (7, .int (iZ (b))), (0, .ref hM), (1, .int (iZ (a))), (2, .int (iZ (i))), (3, .int (iZ (ps))), (4, .int (iZ (ex))), (5, .int (iZ (la)))] 36 [.int (iZ (mv))] := by
            intro mv hmv
            replace hmv : zOp ((mv = 1 ∧ ¬ zMust K V n b) ∨ (mv = 0 ∧ zMust K V n b)) := hmv
            refine z_istore hC (lv' := [(6, _), (7, _), (0, _), (1, _), (2, _), (3, _), (4, _), (5, _)]) dX6_goFrom_36 (by decide) rfl ?_
            have J52 : ∀ (en : Int), (en = 1 ∧ b = n) ∨ (en = 0 ∧ b < n) → ZG X g (zD X A) 0 0 [(hM, eo 6 [.int (iZ (n)), .ref mK, .ref mW, .ref mT, .ref mS, .ref mV, .ref mM, .ref mX, .ref mY, .ref mI, .ref mJ, .ref mG, .ref mC, .ref mR, .ref mN, .int (iZ (lk2)), .int (iZ (bd2)), .int (iZ (so2)), .long (lZ (dm2)), .int (iZ (tt)), .ref mE, .ref mL, .ref mB, .ref mU, .long (lZ (sm)), .int (iZ (po))]), (mK, ei g 100 KR), (mW, ei g 100 WR), (mT, ei g 100 TR), (mS, ei g 100 SR), (mV, ei g 100 VR), (mM, ez g 100 MR), (mX, ei g 50 XR), (mY, ei g 3 YR), (mI, ei g 101 IR), (mJ, ei g 101 JR), (mG, ei g 101 GR), (mC, el g 20604 C2), (mR, ei g 20604 R2), (mN, ei g 20604 N2), (mE, ei g 50 ER), (mL, ei g 50 LR), (mB, ei g 50 BR), (mU, ei g 50 UR)] [(6, .int (iZ (mv))), (7, .int (iZ (b))), (0, .ref hM), (1, .int (iZ (a))), (2, .int (iZ (i))), (3, .int (iZ (ps))), (4, .int (iZ (ex))), (5, .int (iZ (la)))] 52 [.int (iZ (en))] := by
              intro en hen
              refine z_istore hC (lv' := [(8, _), (6, _), (7, _), (0, _), (1, _), (2, _), (3, _), (4, _), (5, _)]) dX6_goFrom_52 (by decide) rfl ?_
              have J93 : ∀ (fi : Int), (fi = 1 ∧ ((b = n → (ex = 0 ∨ i + 1 = ex)) ∧ (b < n → i + 1 < la))) ∨ (fi = 0 ∧ ¬ ((b = n → (ex = 0 ∨ i + 1 = ex)) ∧ (b < n → i + 1 < la))) → ZG X g (zD X A) 0 0 [(hM, eo 6 [.int (iZ (n)), .ref mK, .ref mW, .ref mT, .ref mS, .ref mV, .ref mM, .ref mX, .ref mY, .ref mI, .ref mJ, .ref mG, .ref mC, .ref mR, .ref mN, .int (iZ (lk2)), .int (iZ (bd2)), .int (iZ (so2)), .long (lZ (dm2)), .int (iZ (tt)), .ref mE, .ref mL, .ref mB, .ref mU, .long (lZ (sm)), .int (iZ (po))]), (mK, ei g 100 KR), (mW, ei g 100 WR), (mT, ei g 100 TR), (mS, ei g 100 SR), (mV, ei g 100 VR), (mM, ez g 100 MR), (mX, ei g 50 XR), (mY, ei g 3 YR), (mI, ei g 101 IR), (mJ, ei g 101 JR), (mG, ei g 101 GR), (mC, el g 20604 C2), (mR, ei g 20604 R2), (mN, ei g 20604 N2), (mE, ei g 50 ER), (mL, ei g 50 LR), (mB, ei g 50 BR), (mU, ei g 50 UR)] [(8, .int (iZ (en))), (6, .int (iZ (mv))), (7, .int (iZ (b))), (0, .ref hM), (1, .int (iZ (a))), (2, .int (iZ (i))), (3, .int (iZ (ps))), (4, .int (iZ (ex))), (5, .int (iZ (la)))] 93 [.int (iZ (fi))] := by
                intro fi hfi
                refine z_istore hC (lv' := [(9, _), (8, _), (6, _), (7, _), (0, _), (1, _), (2, _), (3, _), (4, _), (5, _)]) dX6_goFrom_93 (by decide) rfl ?_
                refine z_iload hC 0 dX6_goFrom_95 rfl ?_
                refine z_if_eq hC 359 dX6_goFrom_97 (by decide) (by omega) (fun c_97 => ?_) (fun c_97 => ?_)
                ·
                  have hf0 := (hfi.resolve_left (fun q => by have := q.1; omega)).2
                  refine z_lv (lv' := [(6, _), (7, _), (0, _), (1, _), (2, _), (3, _), (4, _), (5, _)]) [2, 3, 4, 5, 6, 7, 8, 9] rfl ?_
                  exact J359 _ _ _ _ _ _ _ _ hmv hF (zR4_no (b := b) (j := (b - a - 1).toNat) (by omega) (by omega) hR4 (hgf b (by omega) hf0))
                ·
                  have hf1 := (hfi.resolve_right (fun q => c_97 q.1)).2
                  clear hfi
                  replace hf1 : zOp (((b = n → (ex = 0 ∨ i + 1 = ex)) ∧ (b < n → i + 1 < la))) := hf1
                  refine z_aload_n hC 4 dX6_goFrom_100 rfl rfl ?_
                  refine z_iload hC 3 dX6_goFrom_101 rfl ?_
                  refine z_iload_n hC 7 dX6_goFrom_103 rfl rfl ?_
                  refine z_vRi hC 2 (c_X6_mayBreak (xl X) g _ _ _ _ _ _ _ _ _ _ _ _ _ _ _ _ _ _ _ _ _ _ _ _ _ _ _ _ _ _ _ _ _ _ _ _ _ _ _ _ _ _ _ _ _ K V P M LB SB HB W T _ _ _ hI1 h2 (by omega) hI5 hmm) gX6_goFrom_X6_mayBreak rfl hd_X6_mayBreak_v (by decide) ⟨rfl, rfl⟩ [0, 1, 2, 3, 4, 5, 6, 7, 8, 9, 10, 11, 12, 13, 14, 15, 16, 17, 18] (by decide) rfl 0 6 rfl rfl rfl rfl rfl (Nat.le_of_ble_eq_true rfl) dX6_goFrom_104 (by decide) ?_
                  refine z_if_eq hC 359 dX6_goFrom_107 (by decide) (b2_r _) (fun c_107 => ?_) (fun c_107 => ?_)
                  ·
                    have c_107 := b2_f c_107
                    refine z_lv (lv' := [(6, _), (7, _), (0, _), (1, _), (2, _), (3, _), (4, _), (5, _)]) [2, 3, 4, 5, 6, 7, 8, 9] rfl ?_
                    exact J359 _ _ _ _ _ _ _ _ hmv hF (zR4_no (b := b) (j := (b - a - 1).toNat) (by omega) (by omega) hR4 (fun q => c_107 (by have q1 := q.1; rw [hfe] at q1; exact q1.2.1)))
                  ·
                    have c_107 := b2_t c_107
                    refine z_aload_n hC 4 dX6_goFrom_110 rfl rfl ?_
                    refine z_iload_n hC 5 dX6_goFrom_111 rfl rfl ?_
                    refine z_iload hC 3 dX6_goFrom_112 rfl ?_
                    refine z_iload_n hC 6 dX6_goFrom_114 rfl rfl ?_
                    refine z_iload_n hC 7 dX6_goFrom_115 rfl rfl ?_
                    refine z_vWi (wr := []) hC 4 (c_X6_isLine (xl X) g _ _ _ _ _ _ _ _ _ _ _ _ _ _ _ _ _ _ _ _ _ _ _ _ _ _ _ _ _ _ _ _ _ _ _ _ _ _ _ _ _ _ _ _ _ K V P M LB SB HB W T _ _ _ _ hCi h2 h3 h4 (by omega) (by omega) hI5) gX6_goFrom_X6_isLine rfl hd_X6_isLine_v (by decide) ⟨rfl, rfl⟩ [0, 1, 2, 3, 4, 5, 6, 7, 8, 9, 10, 11, 12, 13, 14, 15, 16, 17, 18] [] (by decide) rfl rfl (by decide) (by decide) 0 6 rfl rfl rfl rfl rfl (Nat.le_of_ble_eq_true rfl) dX6_goFrom_116 (by decide) (fun u_116 p_116 => ?_)
                    obtain ⟨lk1_116, bd1_116, so1_116, dm1_116, r1_116⟩ := u_116
                    try dsimp only at p_116
                    refine z_ws (ws' := [(hM, eo 6 [.int (iZ (n)), .ref mK, .ref mW, .ref mT, .ref mS, .ref mV, .ref mM, .ref mX, .ref mY, .ref mI, .ref mJ, .ref mG, .ref mC, .ref mR, .ref mN, .int (iZ (lk1_116)), .int (iZ (bd1_116)), .int (iZ (so1_116)), .long (lZ (dm1_116)), .int (iZ (tt)), .ref mE, .ref mL, .ref mB, .ref mU, .long (lZ (sm)), .int (iZ (po))]), (mK, ei g 100 KR), (mW, ei g 100 WR), (mT, ei g 100 TR), (mS, ei g 100 SR), (mV, ei g 100 VR), (mM, ez g 100 MR), (mX, ei g 50 XR), (mY, ei g 3 YR), (mI, ei g 101 IR), (mJ, ei g 101 JR), (mG, ei g 101 GR), (mC, el g 20604 C2), (mR, ei g 20604 R2), (mN, ei g 20604 N2), (mE, ei g 50 ER), (mL, ei g 50 LR), (mB, ei g 50 BR), (mU, ei g 50 UR)]) [0, 1, 2, 3, 4, 5, 6, 7, 8, 9, 10, 11, 12, 13, 14, 15, 16, 17, 18] (by decide) rfl ?_
                    refine z_top (b := r1_116) rfl ?_
                    have hfl : (zFl n K P LB SB HB W (if ps = 1 then T 0 else T 1) (if ps = 3 then T 2 else 0) a b i ∧ r1_116 = 1) ∨ (¬ zFl n K P LB SB HB W (if ps = 1 then T 0 else T 1) (if ps = 3 then T 2 else 0) a b i ∧ r1_116 = 0) := by (by_cases q : zFl n K P LB SB HB W (if ps = 1 then T 0 else T 1) (if ps = 3 then T 2 else 0) a b i); (exact Or.inl ⟨q, (p_116.2.1 q).1⟩); (exact Or.inr ⟨q, p_116.2.2 q⟩)
                    refine z_if_ne hC 125 dX6_goFrom_119 (by decide) (by omega) (fun c_119 => ?_) (fun c_119 => ?_)
                    ·
                      have hfy := (hfl.resolve_right (fun q => by have := q.2; omega)).1
                      clear hfl
                      obtain ⟨-, hbd, hso0, hdm⟩ := p_116.2.1 hfy
                      have hft : d.2.2.1 a b i := by rw [hfe]; exact ⟨by omega, c_107, hm1.2, hfy.1, hfy.2⟩
                      have hso : so1_116 = d.2.2.2.2 a b i := by rw [hso0, hd]; rfl
                      have hso3 : 0 ≤ so1_116 ∧ so1_116 ≤ 3 := by rw [hso0]; exact zCl_in
                      have hdd : d.2.2.2.1 a b i = zDm n K V M a b (lUg n K P LB SB HB W (if ps = 3 then T 2 else 0) a b i) := by rw [hd]; rfl
                      have hrc0 : b < n → zRc C2 R2 N2 b (i + 1) so1_116 (zVL d (i + 1) b so1_116) := fun q => by
                        have e := hF (((b + 1) * 51 + (i + 1)) * 4 + so1_116) (by omega)
                        exact zRc_kept (h9 b so1_116 (by omega) q c_107 (hf1.2 q) hso3.1 hso3.2) e.1 e.2.1 e.2.2
                      have J146 : ∀ (on : Int), (en = 1 ∧ on = 0) ∨ (en = 0 ∧ on = ((b + 1) * 51 + (i + 1)) * 4 + so1_116) → ZG X g (zD X A) 0 0 [(hM, eo 6 [.int (iZ (n)), .ref mK, .ref mW, .ref mT, .ref mS, .ref mV, .ref mM, .ref mX, .ref mY, .ref mI, .ref mJ, .ref mG, .ref mC, .ref mR, .ref mN, .int (iZ (lk1_116)), .int (iZ (bd1_116)), .int (iZ (so1_116)), .long (lZ (dm1_116)), .int (iZ (tt)), .ref mE, .ref mL, .ref mB, .ref mU, .long (lZ (sm)), .int (iZ (po))]), (mK, ei g 100 KR), (mW, ei g 100 WR), (mT, ei g 100 TR), (mS, ei g 100 SR), (mV, ei g 100 VR), (mM, ez g 100 MR), (mX, ei g 50 XR), (mY, ei g 3 YR), (mI, ei g 101 IR), (mJ, ei g 101 JR), (mG, ei g 101 GR), (mC, el g 20604 C2), (mR, ei g 20604 R2), (mN, ei g 20604 N2), (mE, ei g 50 ER), (mL, ei g 50 LR), (mB, ei g 50 BR), (mU, ei g 50 UR)] [(9, .int (iZ (fi))), (8, .int (iZ (en))), (6, .int (iZ (mv))), (7, .int (iZ (b))), (0, .ref hM), (1, .int (iZ (a))), (2, .int (iZ (i))), (3, .int (iZ (ps))), (4, .int (iZ (ex))), (5, .int (iZ (la)))] 146 [.int (iZ (on))] := by
                        intro on hon
                        have hon2 : en = 0 → on = ((b + 1) * 51 + (i + 1)) * 4 + so1_116 := fun q => by omega
                        refine z_istore hC (lv' := [(10, _), (9, _), (8, _), (6, _), (7, _), (0, _), (1, _), (2, _), (3, _), (4, _), (5, _)]) dX6_goFrom_146 (by decide) rfl ?_
                        have J166 : ∀ (w0 : Int), (en = 0 → ¬ R2 on = 0) → ZG X g (zD X A) 0 0 [(hM, eo 6 [.int (iZ (n)), .ref mK, .ref mW, .ref mT, .ref mS, .ref mV, .ref mM, .ref mX, .ref mY, .ref mI, .ref mJ, .ref mG, .ref mC, .ref mR, .ref mN, .int (iZ (lk1_116)), .int (iZ (bd1_116)), .int (iZ (so1_116)), .long (lZ (dm1_116)), .int (iZ (tt)), .ref mE, .ref mL, .ref mB, .ref mU, .long (lZ (sm)), .int (iZ (po))]), (mK, ei g 100 KR), (mW, ei g 100 WR), (mT, ei g 100 TR), (mS, ei g 100 SR), (mV, ei g 100 VR), (mM, ez g 100 MR), (mX, ei g 50 XR), (mY, ei g 3 YR), (mI, ei g 101 IR), (mJ, ei g 101 JR), (mG, ei g 101 GR), (mC, el g 20604 C2), (mR, ei g 20604 R2), (mN, ei g 20604 N2), (mE, ei g 50 ER), (mL, ei g 50 LR), (mB, ei g 50 BR), (mU, ei g 50 UR)] [(10, .int (iZ (on))), (9, .int (iZ (fi))), (8, .int (iZ (en))), (6, .int (iZ (mv))), (7, .int (iZ (b))), (0, .ref hM), (1, .int (iZ (a))), (2, .int (iZ (i))), (3, .int (iZ (ps))), (4, .int (iZ (ex))), (5, .int (iZ (la)))] 166 [] := by
                          intro w0 hne
                          have hz1 : en = 0 → C2 on = (zRs d (zVL d (i + 1)) b so1_116).1 ∧ R2 on = (zRs d (zVL d (i + 1)) b so1_116).2.1 := fun q => by
                            have hb1 : b < n := by omega
                            have g := hrc0 hb1
                            have g0 := hne q
                            rw [hon2 q] at g0 ⊢
                            rw [g.1] at g0
                            rw [zRs_n (by omega)]
                            exact ⟨(g.2 g0).1, g.1⟩
                          have hok : zOkc d (zVL d (i + 1)) i a b := by
                            refine ⟨hft, fun q => by rw [hd2]; exact hf1.1 (q.trans hd1), fun q => ?_⟩
                            have hb1 : b < n := by omega
                            have g := hrc0 hb1
                            have g0 := hne (by omega)
                            rw [hon2 (by omega), g.1] at g0
                            rw [← hso]; exact g0
                          have hRb : zNb (50 - (i + 1)) (zRs d (zVL d (i + 1)) b so1_116) ∨ b = d.1 := by (by_cases q : b = d.1); (exact Or.inr q); (rw [zRs_n q]; exact Or.inl (zVL_in hB (by omega) b so1_116))
                          clear hf1 hrc0 hne
                          replace hRb : zOp (zNb (50 - (i + 1)) (zRs d (zVL d (i + 1)) b so1_116) ∨ b = d.1) := hRb
                          refine z_aload_n hC 5 dX6_goFrom_166 rfl rfl ?_
                          refine z_get hC iX6_goFrom_6 0 18 rfl rfl (by decide) mX6_goFrom_f101 rfl dX6_goFrom_167 ?_
                          have J186 : ∀ (cr : Int), cr = (zRs d (zVL d (i + 1)) b so1_116).1 → ZG X g (zD X A) 0 0 [(hM, eo 6 [.int (iZ (n)), .ref mK, .ref mW, .ref mT, .ref mS, .ref mV, .ref mM, .ref mX, .ref mY, .ref mI, .ref mJ, .ref mG, .ref mC, .ref mR, .ref mN, .int (iZ (lk1_116)), .int (iZ (bd1_116)), .int (iZ (so1_116)), .long (lZ (dm1_116)), .int (iZ (tt)), .ref mE, .ref mL, .ref mB, .ref mU, .long (lZ (sm)), .int (iZ (po))]), (mK, ei g 100 KR), (mW, ei g 100 WR), (mT, ei g 100 TR), (mS, ei g 100 SR), (mV, ei g 100 VR), (mM, ez g 100 MR), (mX, ei g 50 XR), (mY, ei g 3 YR), (mI, ei g 101 IR), (mJ, ei g 101 JR), (mG, ei g 101 GR), (mC, el g 20604 C2), (mR, ei g 20604 R2), (mN, ei g 20604 N2), (mE, ei g 50 ER), (mL, ei g 50 LR), (mB, ei g 50 BR), (mU, ei g 50 UR)] [(10, .int (iZ (on))), (9, .int (iZ (fi))), (8, .int (iZ (en))), (6, .int (iZ (mv))), (7, .int (iZ (b))), (0, .ref hM), (1, .int (iZ (a))), (2, .int (iZ (i))), (3, .int (iZ (ps))), (4, .int (iZ (ex))), (5, .int (iZ (la)))] 186 [.long (lZ (cr)), .long (lZ (dm1_116))] := by
                            intro cr hcr
                            refine z_ladd hC dX6_goFrom_186 ?_
                            refine z_lstore hC (lv' := [(11, _), (10, _), (9, _), (8, _), (6, _), (7, _), (0, _), (1, _), (2, _), (3, _), (4, _), (5, _)]) dX6_goFrom_187 (by decide) rfl ?_
                            refine z_iconst hC dX6_goFrom_189 ?_
                            have J206 : ∀ (lr : Int), lr = (zRs d (zVL d (i + 1)) b so1_116).2.1 → ZG X g (zD X A) 0 0 [(hM, eo 6 [.int (iZ (n)), .ref mK, .ref mW, .ref mT, .ref mS, .ref mV, .ref mM, .ref mX, .ref mY, .ref mI, .ref mJ, .ref mG, .ref mC, .ref mR, .ref mN, .int (iZ (lk1_116)), .int (iZ (bd1_116)), .int (iZ (so1_116)), .long (lZ (dm1_116)), .int (iZ (tt)), .ref mE, .ref mL, .ref mB, .ref mU, .long (lZ (sm)), .int (iZ (po))]), (mK, ei g 100 KR), (mW, ei g 100 WR), (mT, ei g 100 TR), (mS, ei g 100 SR), (mV, ei g 100 VR), (mM, ez g 100 MR), (mX, ei g 50 XR), (mY, ei g 3 YR), (mI, ei g 101 IR), (mJ, ei g 101 JR), (mG, ei g 101 GR), (mC, el g 20604 C2), (mR, ei g 20604 R2), (mN, ei g 20604 N2), (mE, ei g 50 ER), (mL, ei g 50 LR), (mB, ei g 50 BR), (mU, ei g 50 UR)] [(11, .long (lZ (dm1_116 + cr))), (10, .int (iZ (on))), (9, .int (iZ (fi))), (8, .int (iZ (en))), (6, .int (iZ (mv))), (7, .int (iZ (b))), (0, .ref hM), (1, .int (iZ (a))), (2, .int (iZ (i))), (3, .int (iZ (ps))), (4, .int (iZ (ex))), (5, .int (iZ (la)))] 206 [.int (iZ (lr)), .int (iZ (1))] := by
                              intro lr hlr
                              clear hz1 hon hon2
                              refine z_iadd hC dX6_goFrom_206 ?_
                              refine z_istore hC (lv' := [(13, _), (11, _), (10, _), (9, _), (8, _), (6, _), (7, _), (0, _), (1, _), (2, _), (3, _), (4, _), (5, _)]) dX6_goFrom_207 (by decide) rfl ?_
                              have J263 : ∀ (bo : Int), (bo = 1 ∧ ((0 ≤ a ∧ a < n ∧ K a = 2 ∧ M a = 1) ∧ (0 ≤ b ∧ b < n ∧ K b = 2 ∧ M b = 1))) ∨ (bo = 0 ∧ ¬ ((0 ≤ a ∧ a < n ∧ K a = 2 ∧ M a = 1) ∧ (0 ≤ b ∧ b < n ∧ K b = 2 ∧ M b = 1))) → ZG X g (zD X A) 0 0 [(hM, eo 6 [.int (iZ (n)), .ref mK, .ref mW, .ref mT, .ref mS, .ref mV, .ref mM, .ref mX, .ref mY, .ref mI, .ref mJ, .ref mG, .ref mC, .ref mR, .ref mN, .int (iZ (lk1_116)), .int (iZ (bd1_116)), .int (iZ (so1_116)), .long (lZ (dm1_116)), .int (iZ (tt)), .ref mE, .ref mL, .ref mB, .ref mU, .long (lZ (sm)), .int (iZ (po))]), (mK, ei g 100 KR), (mW, ei g 100 WR), (mT, ei g 100 TR), (mS, ei g 100 SR), (mV, ei g 100 VR), (mM, ez g 100 MR), (mX, ei g 50 XR), (mY, ei g 3 YR), (mI, ei g 101 IR), (mJ, ei g 101 JR), (mG, ei g 101 GR), (mC, el g 20604 C2), (mR, ei g 20604 R2), (mN, ei g 20604 N2), (mE, ei g 50 ER), (mL, ei g 50 LR), (mB, ei g 50 BR), (mU, ei g 50 UR)] [(13, .int (iZ (1 + lr))), (11, .long (lZ (dm1_116 + cr))), (10, .int (iZ (on))), (9, .int (iZ (fi))), (8, .int (iZ (en))), (6, .int (iZ (mv))), (7, .int (iZ (b))), (0, .ref hM), (1, .int (iZ (a))), (2, .int (iZ (i))), (3, .int (iZ (ps))), (4, .int (iZ (ex))), (5, .int (iZ (la)))] 263 [.int (iZ (bo))] := by
                                intro bo hbo
                                clear hen
                                refine z_istore hC (lv' := [(14, _), (13, _), (11, _), (10, _), (9, _), (8, _), (6, _), (7, _), (0, _), (1, _), (2, _), (3, _), (4, _), (5, _)]) dX6_goFrom_263 (by decide) rfl ?_
                                have J279 : ∀ (ad : Int), (ad = if ((0 ≤ a ∧ a < n ∧ K a = 2 ∧ M a = 1) ∧ (0 ≤ b ∧ b < n ∧ K b = 2 ∧ M b = 1)) then 3000 else 0) → ZG X g (zD X A) 0 0 [(hM, eo 6 [.int (iZ (n)), .ref mK, .ref mW, .ref mT, .ref mS, .ref mV, .ref mM, .ref mX, .ref mY, .ref mI, .ref mJ, .ref mG, .ref mC, .ref mR, .ref mN, .int (iZ (lk1_116)), .int (iZ (bd1_116)), .int (iZ (so1_116)), .long (lZ (dm1_116)), .int (iZ (tt)), .ref mE, .ref mL, .ref mB, .ref mU, .long (lZ (sm)), .int (iZ (po))]), (mK, ei g 100 KR), (mW, ei g 100 WR), (mT, ei g 100 TR), (mS, ei g 100 SR), (mV, ei g 100 VR), (mM, ez g 100 MR), (mX, ei g 50 XR), (mY, ei g 3 YR), (mI, ei g 101 IR), (mJ, ei g 101 JR), (mG, ei g 101 GR), (mC, el g 20604 C2), (mR, ei g 20604 R2), (mN, ei g 20604 N2), (mE, ei g 50 ER), (mL, ei g 50 LR), (mB, ei g 50 BR), (mU, ei g 50 UR)] [(14, .int (iZ (bo))), (13, .int (iZ (1 + lr))), (11, .long (lZ (dm1_116 + cr))), (10, .int (iZ (on))), (9, .int (iZ (fi))), (8, .int (iZ (en))), (6, .int (iZ (mv))), (7, .int (iZ (b))), (0, .ref hM), (1, .int (iZ (a))), (2, .int (iZ (i))), (3, .int (iZ (ps))), (4, .int (iZ (ex))), (5, .int (iZ (la)))] 279 [.long (lZ (ad)), .long (lZ (dm1_116 + cr))] := by
                                  intro ad had
                                  refine z_ladd hC dX6_goFrom_279 ?_
                                  refine z_nml (fun v_280 e_280 => ?_)
                                  have hcost : v_280 = d.2.2.2.1 a b i + (zRs d (zVL d (i + 1)) b so1_116).1 := by rw [e_280, hcr, had, hdm, hdd]; unfold zDm; omega
                                  clear e_280 had hcr hbo
                                  refine z_lstore hC (lv' := [(11, _), (14, _), (13, _), (10, _), (9, _), (8, _), (6, _), (7, _), (0, _), (1, _), (2, _), (3, _), (4, _), (5, _)]) dX6_goFrom_280 (by decide) rfl ?_
                                  refine z_iconst hC dX6_goFrom_282 ?_
                                  refine z_istore hC (lv' := [(15, _), (11, _), (14, _), (13, _), (10, _), (9, _), (8, _), (6, _), (7, _), (0, _), (1, _), (2, _), (3, _), (4, _), (5, _)]) dX6_goFrom_283 (by decide) rfl ?_
                                  have L285 : ∀ (fu : Nat) (u : Int) (C4 R4 N4 : Int → Int), (0 ≤ u ∧ u ≤ 4) → (zF4 (((a + 1) * 51 + i) * 4) CR RR NR C4 R4 N4) → (zR5 d a i u (b - a - 1).toNat (b - a).toNat C4 R4 N4) → (4 - u).toNat < fu → ZG X g (zD X A) 0 0 [(hM, eo 6 [.int (iZ (n)), .ref mK, .ref mW, .ref mT, .ref mS, .ref mV, .ref mM, .ref mX, .ref mY, .ref mI, .ref mJ, .ref mG, .ref mC, .ref mR, .ref mN, .int (iZ (lk1_116)), .int (iZ (bd1_116)), .int (iZ (so1_116)), .long (lZ (dm1_116)), .int (iZ (tt)), .ref mE, .ref mL, .ref mB, .ref mU, .long (lZ (sm)), .int (iZ (po))]), (mK, ei g 100 KR), (mW, ei g 100 WR), (mT, ei g 100 TR), (mS, ei g 100 SR), (mV, ei g 100 VR), (mM, ez g 100 MR), (mX, ei g 50 XR), (mY, ei g 3 YR), (mI, ei g 101 IR), (mJ, ei g 101 JR), (mG, ei g 101 GR), (mC, el g 20604 C4), (mR, ei g 20604 R4), (mN, ei g 20604 N4), (mE, ei g 50 ER), (mL, ei g 50 LR), (mB, ei g 50 BR), (mU, ei g 50 UR)] [(15, .int (iZ (u))), (11, .long (lZ (v_280))), (14, .int (iZ (bo))), (13, .int (iZ (1 + lr))), (10, .int (iZ (on))), (9, .int (iZ (fi))), (8, .int (iZ (en))), (6, .int (iZ (mv))), (7, .int (iZ (b))), (0, .ref hM), (1, .int (iZ (a))), (2, .int (iZ (i))), (3, .int (iZ (ps))), (4, .int (iZ (ex))), (5, .int (iZ (la)))] 285 [] := by
                                    intro fu
                                    induction fu with
                                    | zero => intro u C4 R4 N4; intros; omega
                                    | succ fu ih_285 =>
                                      intro u C4 R4 N4 hu hF4 h5 hn
                                      refine z_iload hC 0 dX6_goFrom_285 rfl ?_
                                      refine z_iconst hC dX6_goFrom_287 ?_
                                      refine z_icmp_ge hC 359 dX6_goFrom_288 (by decide) (by omega) (by omega) (fun c_288 => ?_) (fun c_288 => ?_)
                                      ·
                                        refine z_lv (lv' := [(6, _), (7, _), (0, _), (1, _), (2, _), (3, _), (4, _), (5, _)]) [7, 8, 9, 10, 11, 12, 13, 14] rfl ?_
                                        exact J359 _ _ _ _ _ _ _ _ hmv hF4 (zR5_4 (by omega) h5)
                                      ·
                                        refine z_aload_n hC 9 dX6_goFrom_291 rfl rfl ?_
                                        refine z_get hC iX6_goFrom_6 0 17 rfl rfl (by decide) mX6_goFrom_f84 rfl dX6_goFrom_292 ?_
                                        refine z_iload hC 0 dX6_goFrom_295 rfl ?_
                                        refine z_isub hC dX6_goFrom_297 ?_
                                        refine z_istore hC (lv' := [(16, _), (15, _), (11, _), (14, _), (13, _), (10, _), (9, _), (8, _), (6, _), (7, _), (0, _), (1, _), (2, _), (3, _), (4, _), (5, _)]) dX6_goFrom_298 (by decide) rfl ?_
                                        have J321 : ∀ (un : Int), (un = 1 ∧ (0 ≤ a ∧ (1 < so1_116 - u ∨ 1 < u - so1_116))) ∨ (un = 0 ∧ ¬ (0 ≤ a ∧ (1 < so1_116 - u ∨ 1 < u - so1_116))) → ZG X g (zD X A) 0 0 [(hM, eo 6 [.int (iZ (n)), .ref mK, .ref mW, .ref mT, .ref mS, .ref mV, .ref mM, .ref mX, .ref mY, .ref mI, .ref mJ, .ref mG, .ref mC, .ref mR, .ref mN, .int (iZ (lk1_116)), .int (iZ (bd1_116)), .int (iZ (so1_116)), .long (lZ (dm1_116)), .int (iZ (tt)), .ref mE, .ref mL, .ref mB, .ref mU, .long (lZ (sm)), .int (iZ (po))]), (mK, ei g 100 KR), (mW, ei g 100 WR), (mT, ei g 100 TR), (mS, ei g 100 SR), (mV, ei g 100 VR), (mM, ez g 100 MR), (mX, ei g 50 XR), (mY, ei g 3 YR), (mI, ei g 101 IR), (mJ, ei g 101 JR), (mG, ei g 101 GR), (mC, el g 20604 C4), (mR, ei g 20604 R4), (mN, ei g 20604 N4), (mE, ei g 50 ER), (mL, ei g 50 LR), (mB, ei g 50 BR), (mU, ei g 50 UR)] [(16, .int (iZ (so1_116 - u))), (15, .int (iZ (u))), (11, .long (lZ (v_280))), (14, .int (iZ (bo))), (13, .int (iZ (1 + lr))), (10, .int (iZ (on))), (9, .int (iZ (fi))), (8, .int (iZ (en))), (6, .int (iZ (mv))), (7, .int (iZ (b))), (0, .ref hM), (1, .int (iZ (a))), (2, .int (iZ (i))), (3, .int (iZ (ps))), (4, .int (iZ (ex))), (5, .int (iZ (la)))] 321 [.int (iZ (un))] := by
                                          intro un hun
                                          refine z_istore hC (lv' := [(17, _), (16, _), (15, _), (11, _), (14, _), (13, _), (10, _), (9, _), (8, _), (6, _), (7, _), (0, _), (1, _), (2, _), (3, _), (4, _), (5, _)]) dX6_goFrom_321 (by decide) rfl ?_
                                          refine z_aload_n hC 11 dX6_goFrom_323 rfl rfl ?_
                                          refine z_iload_n hC 12 dX6_goFrom_324 rfl rfl ?_
                                          refine z_iload_n hC 13 dX6_goFrom_325 rfl rfl ?_
                                          refine z_iload hC 2 dX6_goFrom_326 rfl ?_
                                          refine z_sRi hC 3 (c_X6_index (xl X) g _ _ _) gX6_goFrom_X6_index rfl hd_X6_index_s (by decide) ⟨rfl, rfl⟩ [] (by decide) rfl rfl rfl (Nat.le_of_ble_eq_true rfl) dX6_goFrom_328 (by decide) ?_
                                          have J345 : ∀ (ul : Int), (ul = if (0 ≤ a ∧ (1 < so1_116 - u ∨ 1 < u - so1_116)) then 2000 else 0) → ZG X g (zD X A) 0 0 [(hM, eo 6 [.int (iZ (n)), .ref mK, .ref mW, .ref mT, .ref mS, .ref mV, .ref mM, .ref mX, .ref mY, .ref mI, .ref mJ, .ref mG, .ref mC, .ref mR, .ref mN, .int (iZ (lk1_116)), .int (iZ (bd1_116)), .int (iZ (so1_116)), .long (lZ (dm1_116)), .int (iZ (tt)), .ref mE, .ref mL, .ref mB, .ref mU, .long (lZ (sm)), .int (iZ (po))]), (mK, ei g 100 KR), (mW, ei g 100 WR), (mT, ei g 100 TR), (mS, ei g 100 SR), (mV, ei g 100 VR), (mM, ez g 100 MR), (mX, ei g 50 XR), (mY, ei g 3 YR), (mI, ei g 101 IR), (mJ, ei g 101 JR), (mG, ei g 101 GR), (mC, el g 20604 C4), (mR, ei g 20604 R4), (mN, ei g 20604 N4), (mE, ei g 50 ER), (mL, ei g 50 LR), (mB, ei g 50 BR), (mU, ei g 50 UR)] [(17, .int (iZ (un))), (16, .int (iZ (so1_116 - u))), (15, .int (iZ (u))), (11, .long (lZ (v_280))), (14, .int (iZ (bo))), (13, .int (iZ (1 + lr))), (10, .int (iZ (on))), (9, .int (iZ (fi))), (8, .int (iZ (en))), (6, .int (iZ (mv))), (7, .int (iZ (b))), (0, .ref hM), (1, .int (iZ (a))), (2, .int (iZ (i))), (3, .int (iZ (ps))), (4, .int (iZ (ex))), (5, .int (iZ (la)))] 345 [.long (lZ (ul)), .long (lZ (v_280)), .int (iZ (((a + 1) * 51 + i) * 4 + u)), .ref hM] := by
                                            intro ul hul
                                            refine z_ladd hC dX6_goFrom_345 ?_
                                            refine z_iload hC 5 dX6_goFrom_346 rfl ?_
                                            refine z_iload hC 10 dX6_goFrom_348 rfl ?_
                                            have hcs : v_280 + ul = (zY d (zVL d (i + 1)) i a u b).1 := by unfold zY; dsimp only; rw [← hso, hul, hcost]
                                            clear hul hun
                                            have hls : 1 + lr = (zY d (zVL d (i + 1)) i a u b).2.1 := by unfold zY; dsimp only; rw [← hso, hlr]; omega
                                            have hin := zF_in2 hB (i := i) (by omega) a u (b - a - 1).toNat
                                            have hyn := (zY_in hB (Vk := (zVL d (i + 1))) (k := 50 - (i + 1)) (by omega) (fun b s => zVL_in hB (by omega) b s) (i := i) (a := a) (c := u) (b := b) hft).1
                                            unfold zNb at hin hyn
                                            have h5u := (h5 u (by omega) (by omega)).2 (by omega)
                                            have h5a := h5u.1
                                            have h5b := h5u.2
                                            refine z_vWv (wr := []) hC 4 (c_X6_keep (xl X) g _ _ _ _ _ _ _ _ _ _ _ _ _ _ _ _ _ _ _ _ _ _ _ _ _ _ _ _ _ _ _ _ _ _ _ _ _ _ _ _ _ _ _ _ _ _ _ _ _ (gf_k1 ha5 hn0 h6 hla (by omega)) (by omega) (by omega) (by omega) (fun q => by have := (h5b (by omega)).1; omega)) gX6_goFrom_X6_keep rfl hd_X6_keep_v (by decide) ⟨rfl, rfl⟩ [0, 1, 2, 3, 4, 5, 6, 7, 8, 9, 10, 11, 12, 13, 14, 15, 16, 17, 18] [] (by decide) rfl rfl (by decide) (by decide) 0 6 rfl rfl rfl rfl rfl (Nat.le_of_ble_eq_true rfl) dX6_goFrom_350 (by decide) (fun u_350 p_350 => ?_)
                                            rcases p_350 with ⟨a_350, rfl⟩ | ⟨a_350, rfl⟩
                                            ·
                                              refine z_ws (ws' := [(hM, eo 6 [.int (iZ (n)), .ref mK, .ref mW, .ref mT, .ref mS, .ref mV, .ref mM, .ref mX, .ref mY, .ref mI, .ref mJ, .ref mG, .ref mC, .ref mR, .ref mN, .int (iZ (lk1_116)), .int (iZ (bd1_116)), .int (iZ (so1_116)), .long (lZ (dm1_116)), .int (iZ (tt)), .ref mE, .ref mL, .ref mB, .ref mU, .long (lZ (sm)), .int (iZ (po))]), (mK, ei g 100 KR), (mW, ei g 100 WR), (mT, ei g 100 TR), (mS, ei g 100 SR), (mV, ei g 100 VR), (mM, ez g 100 MR), (mX, ei g 50 XR), (mY, ei g 3 YR), (mI, ei g 101 IR), (mJ, ei g 101 JR), (mG, ei g 101 GR), (mC, el g 20604 ((uZ C4 (((a + 1) * 51 + i) * 4 + u) (v_280 + ul)))), (mR, ei g 20604 ((uZ R4 (((a + 1) * 51 + i) * 4 + u) (1 + lr)))), (mN, ei g 20604 ((uZ N4 (((a + 1) * 51 + i) * 4 + u) b))), (mE, ei g 50 ER), (mL, ei g 50 LR), (mB, ei g 50 BR), (mU, ei g 50 UR)]) [0, 1, 2, 3, 4, 5, 6, 7, 8, 9, 10, 11, 12, 13, 14, 15, 16, 17, 18] (by decide) rfl ?_
                                              refine z_iinc hC (lv' := [(15, _), (17, _), (16, _), (11, _), (14, _), (13, _), (10, _), (9, _), (8, _), (6, _), (7, _), (0, _), (1, _), (2, _), (3, _), (4, _), (5, _)]) 2 dX6_goFrom_353 rfl (by decide) rfl ?_
                                              refine z_goto (tgt := 285) hC dX6_goFrom_356 (by decide) ?_
                                              refine z_lv (lv' := [(15, _), (11, _), (14, _), (13, _), (10, _), (9, _), (8, _), (6, _), (7, _), (0, _), (1, _), (2, _), (3, _), (4, _), (5, _)]) [0, 3, 4, 5, 6, 7, 8, 9, 10, 11, 12, 13, 14, 15, 16] rfl ?_
                                              exact ih_285 (u + 1) _ _ _ (by omega) (zF4_u hF4 (by omega)) (zR5_y (b := b) (j := (b - a - 1).toNat) (by omega) (by omega) (by omega) h5 hok hcs hls a_350) (by omega)
                                            ·
                                              refine z_ws (ws' := [(hM, eo 6 [.int (iZ (n)), .ref mK, .ref mW, .ref mT, .ref mS, .ref mV, .ref mM, .ref mX, .ref mY, .ref mI, .ref mJ, .ref mG, .ref mC, .ref mR, .ref mN, .int (iZ (lk1_116)), .int (iZ (bd1_116)), .int (iZ (so1_116)), .long (lZ (dm1_116)), .int (iZ (tt)), .ref mE, .ref mL, .ref mB, .ref mU, .long (lZ (sm)), .int (iZ (po))]), (mK, ei g 100 KR), (mW, ei g 100 WR), (mT, ei g 100 TR), (mS, ei g 100 SR), (mV, ei g 100 VR), (mM, ez g 100 MR), (mX, ei g 50 XR), (mY, ei g 3 YR), (mI, ei g 101 IR), (mJ, ei g 101 JR), (mG, ei g 101 GR), (mC, el g 20604 C4), (mR, ei g 20604 R4), (mN, ei g 20604 N4), (mE, ei g 50 ER), (mL, ei g 50 LR), (mB, ei g 50 BR), (mU, ei g 50 UR)]) [0, 1, 2, 3, 4, 5, 6, 7, 8, 9, 10, 11, 12, 13, 14, 15, 16, 17, 18] (by decide) rfl ?_
                                              refine z_iinc hC (lv' := [(15, _), (17, _), (16, _), (11, _), (14, _), (13, _), (10, _), (9, _), (8, _), (6, _), (7, _), (0, _), (1, _), (2, _), (3, _), (4, _), (5, _)]) 2 dX6_goFrom_353 rfl (by decide) rfl ?_
                                              refine z_goto (tgt := 285) hC dX6_goFrom_356 (by decide) ?_
                                              refine z_lv (lv' := [(15, _), (11, _), (14, _), (13, _), (10, _), (9, _), (8, _), (6, _), (7, _), (0, _), (1, _), (2, _), (3, _), (4, _), (5, _)]) [0, 3, 4, 5, 6, 7, 8, 9, 10, 11, 12, 13, 14, 15, 16] rfl ?_
                                              exact ih_285 (u + 1) _ _ _ (by omega) hF4 (zR5_x (b := b) (j := (b - a - 1).toNat) (by omega) (by omega) (by omega) h5 hcs hls a_350) (by omega)
                                          refine z_lload hC 3 dX6_goFrom_331 rfl ?_
                                          refine z_iload hC 0 dX6_goFrom_333 rfl ?_
                                          refine z_if_eq hC 344 dX6_goFrom_335 (by decide) (by omega) (fun c_335 => ?_) (fun c_335 => ?_)
                                          ·
                                            refine z_lconst (z := 0) hC dX6_goFrom_344 (by decide) ?_
                                            exact J345 _ (by first | exact (if_pos (by omega)).symm | exact (if_neg (by omega)).symm)
                                          ·
                                            refine z_ldc2 hC (2000) mX6_goFrom_k130 (by decide) dX6_goFrom_338 ?_
                                            refine z_goto (tgt := 345) hC dX6_goFrom_341 (by decide) ?_
                                            exact J345 _ (by first | exact (if_pos (by omega)).symm | exact (if_neg (by omega)).symm)
                                        refine z_iload_n hC 11 dX6_goFrom_300 rfl rfl ?_
                                        refine z_if_lt hC 320 dX6_goFrom_301 (by decide) (by omega) (fun c_301 => ?_) (fun c_301 => ?_)
                                        ·
                                          refine z_iconst hC dX6_goFrom_320 ?_
                                          exact J321 _ (by omega)
                                        ·
                                          refine z_iload hC 0 dX6_goFrom_304 rfl ?_
                                          refine z_iconst hC dX6_goFrom_306 ?_
                                          refine z_icmp_gt hC 316 dX6_goFrom_307 (by decide) (by omega) (by omega) (fun c_307 => ?_) (fun c_307 => ?_)
                                          ·
                                            refine z_iconst hC dX6_goFrom_316 ?_
                                            refine z_goto (tgt := 321) hC dX6_goFrom_317 (by decide) ?_
                                            exact J321 _ (by omega)
                                          ·
                                            refine z_iload hC 0 dX6_goFrom_310 rfl ?_
                                            refine z_iconst hC dX6_goFrom_312 ?_
                                            refine z_icmp_ge hC 320 dX6_goFrom_313 (by decide) (by omega) (by omega) (fun c_313 => ?_) (fun c_313 => ?_)
                                            ·
                                              refine z_iconst hC dX6_goFrom_320 ?_
                                              exact J321 _ (by omega)
                                            ·
                                              refine z_iconst hC dX6_goFrom_316 ?_
                                              refine z_goto (tgt := 321) hC dX6_goFrom_317 (by decide) ?_
                                              exact J321 _ (by omega)
                                  exact L285 _ 0 _ _ _ (by omega) hF (zR5_0 hR4) (Nat.lt_succ_self _)
                                refine z_lload hC 2 dX6_goFrom_265 rfl ?_
                                refine z_iload hC 0 dX6_goFrom_267 rfl ?_
                                refine z_if_eq hC 278 dX6_goFrom_269 (by decide) (by omega) (fun c_269 => ?_) (fun c_269 => ?_)
                                ·
                                  refine z_lconst (z := 0) hC dX6_goFrom_278 (by decide) ?_
                                  exact J279 _ (by first | exact (if_pos (by omega)).symm | exact (if_neg (by omega)).symm)
                                ·
                                  refine z_ldc2 hC (3000) mX6_goFrom_k128 (by decide) dX6_goFrom_272 ?_
                                  refine z_goto (tgt := 279) hC dX6_goFrom_275 (by decide) ?_
                                  exact J279 _ (by first | exact (if_pos (by omega)).symm | exact (if_neg (by omega)).symm)
                              refine z_iload_n hC 8 dX6_goFrom_209 rfl rfl ?_
                              refine z_if_lt hC 262 dX6_goFrom_210 (by decide) (by omega) (fun c_210 => ?_) (fun c_210 => ?_)
                              ·
                                refine z_iconst hC dX6_goFrom_262 ?_
                                exact J263 _ (by omega)
                              ·
                                refine z_iload hC 4 dX6_goFrom_213 rfl ?_
                                refine z_if_ne hC 262 dX6_goFrom_215 (by decide) (by omega) (fun c_215 => ?_) (fun c_215 => ?_)
                                ·
                                  refine z_iconst hC dX6_goFrom_262 ?_
                                  exact J263 _ (by omega)
                                ·
                                  have sa := h2 a (by omega) (by omega)
                                  have ka := hI1.2.1 a (by omega) (by omega)
                                  have va := hI1.2.2 a (by omega) (by omega)
                                  refine z_aload_n hC 7 dX6_goFrom_218 rfl rfl ?_
                                  refine z_get hC iX6_goFrom_6 0 1 rfl rfl (by decide) mX6_goFrom_f7 rfl dX6_goFrom_219 ?_
                                  refine z_iload_n hC 8 dX6_goFrom_222 rfl rfl ?_
                                  refine z_iald hC 1 rfl (by omega) (by decide) dX6_goFrom_223 ?_
                                  refine z_iconst hC dX6_goFrom_224 ?_
                                  refine z_icmp_ne hC 262 dX6_goFrom_225 (by decide) (by omega) (by omega) (fun c_225 => ?_) (fun c_225 => ?_)
                                  ·
                                    refine z_iconst hC dX6_goFrom_262 ?_
                                    exact J263 _ (by omega)
                                  ·
                                    have sb2 := h2 b (by omega) (by omega)
                                    have kb2 := hI1.2.1 b (by omega) (by omega)
                                    have vb2 := hI1.2.2 b (by omega) (by omega)
                                    refine z_aload_n hC 7 dX6_goFrom_228 rfl rfl ?_
                                    refine z_get hC iX6_goFrom_6 0 1 rfl rfl (by decide) mX6_goFrom_f7 rfl dX6_goFrom_229 ?_
                                    refine z_iload hC 6 dX6_goFrom_232 rfl ?_
                                    refine z_iald hC 1 rfl (by omega) (by decide) dX6_goFrom_234 ?_
                                    refine z_iconst hC dX6_goFrom_235 ?_
                                    refine z_icmp_ne hC 262 dX6_goFrom_236 (by decide) (by omega) (by omega) (fun c_236 => ?_) (fun c_236 => ?_)
                                    ·
                                      refine z_iconst hC dX6_goFrom_262 ?_
                                      exact J263 _ (by omega)
                                    ·
                                      refine z_aload_n hC 7 dX6_goFrom_239 rfl rfl ?_
                                      refine z_get hC iX6_goFrom_6 0 6 rfl rfl (by decide) mX6_goFrom_f25 rfl dX6_goFrom_240 ?_
                                      refine z_iload_n hC 8 dX6_goFrom_243 rfl rfl ?_
                                      refine z_zald hC 6 rfl (by omega) (by decide) dX6_goFrom_244 ?_
                                      refine z_if_eq hC 262 dX6_goFrom_245 (by decide) (by omega) (fun c_245 => ?_) (fun c_245 => ?_)
                                      ·
                                        refine z_iconst hC dX6_goFrom_262 ?_
                                        exact J263 _ (by omega)
                                      ·
                                        refine z_aload_n hC 7 dX6_goFrom_248 rfl rfl ?_
                                        refine z_get hC iX6_goFrom_6 0 6 rfl rfl (by decide) mX6_goFrom_f25 rfl dX6_goFrom_249 ?_
                                        refine z_iload hC 6 dX6_goFrom_252 rfl ?_
                                        refine z_zald hC 6 rfl (by omega) (by decide) dX6_goFrom_254 ?_
                                        refine z_if_eq hC 262 dX6_goFrom_255 (by decide) (by omega) (fun c_255 => ?_) (fun c_255 => ?_)
                                        ·
                                          refine z_iconst hC dX6_goFrom_262 ?_
                                          exact J263 _ (by omega)
                                        ·
                                          refine z_iconst hC dX6_goFrom_258 ?_
                                          refine z_goto (tgt := 263) hC dX6_goFrom_259 (by decide) ?_
                                          exact J263 _ (by omega)
                            refine z_iload hC 3 dX6_goFrom_190 rfl ?_
                            refine z_if_eq hC 199 dX6_goFrom_192 (by decide) (by omega) (fun c_192 => ?_) (fun c_192 => ?_)
                            ·
                              refine z_aload_n hC 6 dX6_goFrom_199 rfl rfl ?_
                              refine z_get hC iX6_goFrom_6 0 13 rfl rfl (by decide) mX6_goFrom_f48 rfl dX6_goFrom_200 ?_
                              refine z_iload hC 1 dX6_goFrom_203 rfl ?_
                              refine z_iald hC 13 rfl (by omega) (by decide) dX6_goFrom_205 ?_
                              exact J206 _ (by first | (rw [zRs_e (by omega)]) | exact (hz1 (by omega)).2)
                            ·
                              refine z_iconst hC dX6_goFrom_195 ?_
                              refine z_goto (tgt := 206) hC dX6_goFrom_196 (by decide) ?_
                              exact J206 _ (by first | (rw [zRs_e (by omega)]) | exact (hz1 (by omega)).2)
                          refine z_iload hC 2 dX6_goFrom_170 rfl ?_
                          refine z_if_eq hC 179 dX6_goFrom_172 (by decide) (by omega) (fun c_172 => ?_) (fun c_172 => ?_)
                          ·
                            refine z_aload_n hC 5 dX6_goFrom_179 rfl rfl ?_
                            refine z_get hC iX6_goFrom_6 0 12 rfl rfl (by decide) mX6_goFrom_f44 rfl dX6_goFrom_180 ?_
                            refine z_iload hC 0 dX6_goFrom_183 rfl ?_
                            refine z_lald hC 12 rfl (by omega) (by decide) dX6_goFrom_185 ?_
                            exact J186 _ (by first | (rw [zRs_e (by omega)]) | exact (hz1 (by omega)).1)
                          ·
                            refine z_lconst (z := 0) hC dX6_goFrom_175 (by decide) ?_
                            refine z_goto (tgt := 186) hC dX6_goFrom_176 (by decide) ?_
                            exact J186 _ (by first | (rw [zRs_e (by omega)]) | exact (hz1 (by omega)).1)
                        refine z_iload hC 2 dX6_goFrom_148 rfl ?_
                        refine z_if_ne hC 166 dX6_goFrom_150 (by decide) (by omega) (fun c_150 => ?_) (fun c_150 => ?_)
                        ·
                          exact J166 0 (fun q => by first | (exfalso; omega) | (intro z; omega))
                        ·
                          have hone := hon2 (by omega)
                          have hrc := hrc0 (by omega)
                          have hvb := zVL_in hB (i := i + 1) (by omega) b so1_116
                          unfold zNb at hvb
                          have hrr := hrc.1
                          refine z_aload_n hC 5 dX6_goFrom_153 rfl rfl ?_
                          refine z_get hC iX6_goFrom_6 0 13 rfl rfl (by decide) mX6_goFrom_f48 rfl dX6_goFrom_154 ?_
                          refine z_iload hC 0 dX6_goFrom_157 rfl ?_
                          refine z_iald hC 13 rfl (by omega) (by decide) dX6_goFrom_159 ?_
                          refine z_if_ne hC 166 dX6_goFrom_160 (by decide) (by rw [hone, hrr]; omega) (fun c_160 => ?_) (fun c_160 => ?_)
                          ·
                            exact J166 0 (fun q => by first | (exfalso; omega) | (intro z; omega))
                          ·
                            refine z_goto (tgt := 359) hC dX6_goFrom_163 (by decide) ?_
                            refine z_lv (lv' := [(6, _), (7, _), (0, _), (1, _), (2, _), (3, _), (4, _), (5, _)]) [3, 4, 5, 6, 7, 8, 9, 10] rfl ?_
                            exact J359 _ _ _ _ _ _ _ _ hmv hF (zR4_no (b := b) (j := (b - a - 1).toNat) (by omega) (by omega) hR4 (fun q => q.2.2 (by omega) (by rw [← hso, ← hrc.1, ← hone]; exact c_160)))
                      refine z_iload hC 1 dX6_goFrom_125 rfl ?_
                      refine z_if_eq hC 134 dX6_goFrom_127 (by decide) (by omega) (fun c_127 => ?_) (fun c_127 => ?_)
                      ·
                        refine z_iload hC 3 dX6_goFrom_134 rfl ?_
                        refine z_iload_n hC 6 dX6_goFrom_136 rfl rfl ?_
                        refine z_iconst hC dX6_goFrom_137 ?_
                        refine z_iadd hC dX6_goFrom_138 ?_
                        refine z_aload_n hC 4 dX6_goFrom_139 rfl rfl ?_
                        refine z_get hC iX6_goFrom_6 0 17 rfl rfl (by decide) mX6_goFrom_f84 rfl dX6_goFrom_140 ?_
                        refine z_sRi hC 3 (c_X6_index (xl X) g _ _ _) gX6_goFrom_X6_index rfl hd_X6_index_s (by decide) ⟨rfl, rfl⟩ [] (by decide) rfl rfl rfl (Nat.le_of_ble_eq_true rfl) dX6_goFrom_143 (by decide) ?_
                        exact J146 _ (by omega)
                      ·
                        refine z_iconst hC dX6_goFrom_130 ?_
                        refine z_goto (tgt := 146) hC dX6_goFrom_131 (by decide) ?_
                        exact J146 _ (by omega)
                    ·
                      have hnf := (hfl.resolve_left (fun q => by have := q.2; omega)).1
                      refine z_goto (tgt := 359) hC dX6_goFrom_122 (by decide) ?_
                      refine z_lv (lv' := [(6, _), (7, _), (0, _), (1, _), (2, _), (3, _), (4, _), (5, _)]) [2, 3, 4, 5, 6, 7, 8, 9] rfl ?_
                      exact J359 _ _ _ _ _ _ _ _ hmv hF (zR4_no (b := b) (j := (b - a - 1).toNat) (by omega) (by omega) hR4 (fun q => by have q1 := q.1; rw [hfe] at q1; exact hnf ⟨q1.2.2.2.1, q1.2.2.2.2⟩))
              refine z_iload hC 0 dX6_goFrom_54 rfl ?_
              refine z_if_eq hC 80 dX6_goFrom_56 (by decide) (by omega) (fun c_56 => ?_) (fun c_56 => ?_)
              ·
                refine z_iload_n hC 5 dX6_goFrom_80 rfl rfl ?_
                refine z_iconst hC dX6_goFrom_81 ?_
                refine z_iadd hC dX6_goFrom_82 ?_
                refine z_iload hC 8 dX6_goFrom_83 rfl ?_
                refine z_icmp_ge hC 92 dX6_goFrom_85 (by decide) (by omega) (by omega) (fun c_85 => ?_) (fun c_85 => ?_)
                ·
                  refine z_iconst hC dX6_goFrom_92 ?_
                  exact J93 _ (by omega)
                ·
                  refine z_iconst hC dX6_goFrom_88 ?_
                  refine z_goto (tgt := 93) hC dX6_goFrom_89 (by decide) ?_
                  exact J93 _ (by omega)
              ·
                refine z_iload hC 7 dX6_goFrom_59 rfl ?_
                refine z_if_eq hC 72 dX6_goFrom_61 (by decide) (by omega) (fun c_61 => ?_) (fun c_61 => ?_)
                ·
                  refine z_iconst hC dX6_goFrom_72 ?_
                  refine z_goto (tgt := 93) hC dX6_goFrom_73 (by decide) ?_
                  exact J93 _ (by omega)
                ·
                  refine z_iload_n hC 5 dX6_goFrom_64 rfl rfl ?_
                  refine z_iload hC 7 dX6_goFrom_65 rfl ?_
                  refine z_iconst hC dX6_goFrom_67 ?_
                  refine z_isub hC dX6_goFrom_68 ?_
                  refine z_icmp_ne hC 76 dX6_goFrom_69 (by decide) (by omega) (by omega) (fun c_69 => ?_) (fun c_69 => ?_)
                  ·
                    refine z_iconst hC dX6_goFrom_76 ?_
                    refine z_goto (tgt := 93) hC dX6_goFrom_77 (by decide) ?_
                    exact J93 _ (by omega)
                  ·
                    refine z_iconst hC dX6_goFrom_72 ?_
                    refine z_goto (tgt := 93) hC dX6_goFrom_73 (by decide) ?_
                    exact J93 _ (by omega)
            refine z_iload hC 1 dX6_goFrom_38 rfl ?_
            refine z_aload_n hC 2 dX6_goFrom_40 rfl rfl ?_
            refine z_get hC iX6_goFrom_6 0 0 rfl rfl (by decide) mX6_goFrom_f66 rfl dX6_goFrom_41 ?_
            refine z_icmp_ne hC 51 dX6_goFrom_44 (by decide) (by omega) (by omega) (fun c_44 => ?_) (fun c_44 => ?_)
            ·
              refine z_iconst hC dX6_goFrom_51 ?_
              exact J52 _ (by omega)
            ·
              refine z_iconst hC dX6_goFrom_47 ?_
              refine z_goto (tgt := 52) hC dX6_goFrom_48 (by decide) ?_
              exact J52 _ (by omega)
          refine z_iload hC 1 dX6_goFrom_23 rfl ?_
          refine z_vRi hC 1 (c_X6_mustBreak (xl X) g _ _ _ _ _ _ _ _ _ _ _ _ _ _ _ _ _ _ _ _ _ _ _ _ _ _ _ _ _ _ _ _ _ _ _ _ _ _ _ _ _ _ _ _ _ K V P M LB SB HB W T _ hI1 h2 (by omega)) gX6_goFrom_X6_mustBreak rfl hd_X6_mustBreak_v (by decide) ⟨rfl, rfl⟩ [0, 1, 2, 3, 4, 5, 6, 7, 8, 9, 10, 11, 12, 13, 14, 15, 16, 17, 18] (by decide) rfl 0 6 rfl rfl rfl rfl rfl (Nat.le_of_ble_eq_true rfl) dX6_goFrom_25 (by decide) ?_
          refine z_if_ne hC 35 dX6_goFrom_28 (by decide) (b2_r _) (fun c_28 => ?_) (fun c_28 => ?_)
          ·
            have c_28 := b2_t c_28
            refine z_iconst hC dX6_goFrom_35 ?_
            exact J36 _ (by first | exact Or.inl ⟨rfl, c_28⟩ | exact Or.inr ⟨rfl, c_28⟩)
          ·
            have c_28 := b2_f c_28
            refine z_iconst hC dX6_goFrom_31 ?_
            refine z_goto (tgt := 36) hC dX6_goFrom_32 (by decide) ?_
            exact J36 _ (by first | exact Or.inl ⟨rfl, c_28⟩ | exact Or.inr ⟨rfl, c_28⟩)
  refine z_lv (lv' := [(6, _), (7, _), (0, _), (1, _), (2, _), (3, _), (4, _), (5, _)]) [1, 0, 2, 3, 4, 5, 6, 7] rfl ?_
  exact L8 _ (a + 1) 1 _ _ _ _ _ _ _ (by omega) (Or.inl ⟨rfl, fun m g1 g2 => by omega⟩) zF4_0 (fun c g1 g2 => by rw [show (a + 1 - a - 1).toNat = 0 by omega]; exact ⟨h8 c g1 g2, fun q => absurd rfl q⟩) (Nat.lt_succ_self _)
