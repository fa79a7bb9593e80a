def R_law : String := "BreakSearchLaw"
def lw_P (b : Addr) (xs : List Int32) (args : Array Value) (s : State) : Prop := args = #[.ref b] ∧ s.IntsAt b xs ∧ xs.length ≤ 2049 ∧ (Jvm.Cond.and given_1 narrow_1).before args s = true
def lw_Q (_ : Array Value) (s : State) (o : Outcome) (t : State) : Prop := o = .returned (some (.int 1)) ∧ Framed s o t [] 40 105597
def lw_Z (below : List Frame) (a : Array Value) (s : State) : State → Prop := fun t => ∃ o, t.status = .running ∧ Ended t below o ∧ lw_Q a s o t
/-- the law's own end, with 1 on the stack, nothing written that was there before, its room as the claim has it -/
theorem lw_ret {p : Program} {l : Launch} {e : Env} {s : State} {m : MethodId} {below : List Frame} {meth : Method} {c : Code} {b : Nat} (hx : p.tables.exec = Jvm.exec) (hb : c.code = code) (hr : meth.sig.returnType = ret) (hlocks : meth.locks = false) {pc : Nat} {H : Heap} {ls : Array Slot} (hdg : decode code pc = .ok (.ireturn, 1)) : W p l e room_1 s m #[Value.ref b] below meth c H [] 40 105597 (lw_Z below #[Value.ref b] s) (F0 m pc ls [.int 1]) := by
  intro T hT X
  obtain ⟨fs, hret, hrun, hended, hW, hframe⟩ := X.leave (v := some (.int 1)) (hlocks := hlocks) (fun h => by rw [hr] at h; cases h)
  have hmeth' : T.vm.method? m = some meth := X.method'
  refine ⟨T.setFrames fs, ?_, .returned (some (.int 1)), hrun, hended, rfl, ⟨_, rfl⟩, hW, hframe⟩
  jvm_step X.here [X.here.top, hx, hb, hdg, hmeth', hr, ret, narrow_b1]
  (try refine ⟨rfl, ?_⟩); (try refine ⟨rfl, ?_⟩)
  first | (intro acts; rw [hret _ acts rfl rfl rfl]) | rw [hret _ _ rfl rfl rfl]
  exact Steps.refl _
/-- what holds at the law's entry: the machine, the code, the tables' words (any of lw_tbl by 'hts w (by decide +kernel)'), the script of L ints xs at the cell b, what the Statement gives of the start (any of its parts by flat_of_before) -/
def lw_At (p : Program) (s : State) (m : MethodId) (meth : Method) (c : Code) (b L : Nat) (xs : Nat → Int32) : Prop :=
  p.tables.exec = Jvm.exec ∧ c.code = code ∧ meth.sig.returnType = ret ∧ c.maxLocals = 4 ∧ s.vm.findClass R_law = some m.cls ∧ (∀ w ∈ lw_tbl, w.before #[Value.ref b] s = true) ∧ va_X b L xs s s.heap ∧ b < s.heap.size ∧ meth.locks = false ∧ (Jvm.Cond.and given_1 narrow_1).before #[Value.ref b] s = true

theorem tb_in {w : Cond} {i : Nat} (h : tables_1[i]? = some w) : w ∈ lw_tbl := List.mem_append_right _ (List.mem_of_getElem? h)
theorem law_nf : ∀ q ∈ zNF, zNFw q ∈ lw_tbl := List.forall_mem_cons.mpr ⟨tb_in (i := 29) (by decide +kernel), List.forall_mem_cons.mpr ⟨tb_in (i := 31) (by decide +kernel), List.forall_mem_cons.mpr ⟨tb_in (i := 33) (by decide +kernel), List.forall_mem_cons.mpr ⟨tb_in (i := 35) (by decide +kernel), List.forall_mem_cons.mpr ⟨tb_in (i := 36) (by decide +kernel), List.forall_mem_cons.mpr ⟨tb_in (i := 66) (by decide +kernel), List.forall_mem_cons.mpr ⟨tb_in (i := 67) (by decide +kernel), List.forall_mem_cons.mpr ⟨tb_in (i := 69) (by decide +kernel), List.forall_mem_cons.mpr ⟨tb_in (i := 88) (by decide +kernel), List.forall_mem_cons.mpr ⟨tb_in (i := 90) (by decide +kernel), List.forall_mem_cons.mpr ⟨tb_in (i := 91) (by decide +kernel), List.forall_mem_cons.mpr ⟨tb_in (i := 93) (by decide +kernel), List.forall_mem_cons.mpr ⟨tb_in (i := 94) (by decide +kernel), List.forall_mem_cons.mpr ⟨tb_in (i := 133) (by decide +kernel), List.forall_mem_cons.mpr ⟨tb_in (i := 135) (by decide +kernel), List.forall_mem_cons.mpr ⟨tb_in (i := 137) (by decide +kernel), List.forall_mem_cons.mpr ⟨tb_in (i := 139) (by decide +kernel), List.forall_mem_cons.mpr ⟨tb_in (i := 141) (by decide +kernel), List.forall_mem_cons.mpr ⟨tb_in (i := 143) (by decide +kernel), List.forall_mem_cons.mpr ⟨tb_in (i := 144) (by decide +kernel), List.forall_mem_cons.mpr ⟨tb_in (i := 146) (by decide +kernel), List.forall_mem_cons.mpr ⟨tb_in (i := 147) (by decide +kernel), fun _ h => absurd h List.not_mem_nil⟩⟩⟩⟩⟩⟩⟩⟩⟩⟩⟩⟩⟩⟩⟩⟩⟩⟩⟩⟩⟩⟩
theorem law_nm : ∀ q ∈ zNM, zNMw q ∈ lw_tbl := List.forall_mem_cons.mpr ⟨tb_in (i := 20) (by decide +kernel), List.forall_mem_cons.mpr ⟨tb_in (i := 58) (by decide +kernel), List.forall_mem_cons.mpr ⟨tb_in (i := 77) (by decide +kernel), List.forall_mem_cons.mpr ⟨tb_in (i := 83) (by decide +kernel), List.forall_mem_cons.mpr ⟨tb_in (i := 128) (by decide +kernel), List.forall_mem_cons.mpr ⟨tb_in (i := 183) (by decide +kernel), List.forall_mem_cons.mpr ⟨tb_in (i := 195) (by decide +kernel), List.forall_mem_cons.mpr ⟨tb_in (i := 212) (by decide +kernel), List.forall_mem_cons.mpr ⟨tb_in (i := 216) (by decide +kernel), List.forall_mem_cons.mpr ⟨tb_in (i := 232) (by decide +kernel), List.forall_mem_cons.mpr ⟨tb_in (i := 236) (by decide +kernel), List.forall_mem_cons.mpr ⟨tb_in (i := 252) (by decide +kernel), List.forall_mem_cons.mpr ⟨tb_in (i := 260) (by decide +kernel), List.forall_mem_cons.mpr ⟨tb_in (i := 264) (by decide +kernel), List.forall_mem_cons.mpr ⟨tb_in (i := 271) (by decide +kernel), List.forall_mem_cons.mpr ⟨tb_in (i := 276) (by decide +kernel), List.forall_mem_cons.mpr ⟨tb_in (i := 296) (by decide +kernel), List.forall_mem_cons.mpr ⟨tb_in (i := 301) (by decide +kernel), List.forall_mem_cons.mpr ⟨tb_in (i := 315) (by decide +kernel), List.forall_mem_cons.mpr ⟨tb_in (i := 319) (by decide +kernel), List.forall_mem_cons.mpr ⟨tb_in (i := 324) (by decide +kernel), List.forall_mem_cons.mpr ⟨tb_in (i := 331) (by decide +kernel), List.forall_mem_cons.mpr ⟨tb_in (i := 335) (by decide +kernel), List.forall_mem_cons.mpr ⟨tb_in (i := 339) (by decide +kernel), List.forall_mem_cons.mpr ⟨tb_in (i := 343) (by decide +kernel), List.forall_mem_cons.mpr ⟨tb_in (i := 359) (by decide +kernel), fun _ h => absurd h List.not_mem_nil⟩⟩⟩⟩⟩⟩⟩⟩⟩⟩⟩⟩⟩⟩⟩⟩⟩⟩⟩⟩⟩⟩⟩⟩⟩⟩
theorem law_inX0 : Cond.instantiable RX0 8 ∈ lw_tbl := tb_in (i := 19) (by decide +kernel)
theorem law_inX1 : Cond.instantiable RX1 4 ∈ lw_tbl := tb_in (i := 82) (by decide +kernel)
theorem law_inX2 : Cond.instantiable RX2 2 ∈ lw_tbl := tb_in (i := 57) (by decide +kernel)
theorem law_inX3 : Cond.instantiable RX3 6 ∈ lw_tbl := tb_in (i := 76) (by decide +kernel)
theorem law_inX4 : Cond.instantiable RX4 7 ∈ lw_tbl := tb_in (i := 127) (by decide +kernel)
theorem law_inX5 : Cond.instantiable RX5 4 ∈ lw_tbl := tb_in (i := 11) (by decide +kernel)
theorem law_inX6 : Cond.instantiable RX6 26 ∈ lw_tbl := tb_in (i := 391) (by decide +kernel)
theorem law_arint : Cond.arrayClass .int ∈ lw_tbl := tb_in (i := 54) (by decide +kernel)
theorem law_arlong : Cond.arrayClass .long ∈ lw_tbl := tb_in (i := 124) (by decide +kernel)
theorem law_arboolean : Cond.arrayClass .boolean ∈ lw_tbl := tb_in (i := 55) (by decide +kernel)
theorem law_arbyte : Cond.arrayClass .byte ∈ lw_tbl := tb_in (i := 125) (by decide +kernel)
set_option maxHeartbeats 4000000 in
theorem law_known {s : State} {args : Array Value} (hts : ∀ w ∈ lw_tbl, w.before args s = true) : ∃ g : zG, zK g s := by
  obtain ⟨c0, f0, k0⟩ := u_known (C := RX0) (T := TX0) (N := 8) (n := 8) hts inX0 (hts _ law_inX0)
  obtain ⟨c1, f1, k1⟩ := u_known (C := RX1) (T := TX1) (N := 4) (n := 4) hts inX1 (hts _ law_inX1)
  obtain ⟨c2, f2, k2⟩ := u_known (C := RX2) (T := TX2) (N := 2) (n := 2) hts inX2 (hts _ law_inX2)
  obtain ⟨c3, f3, k3⟩ := u_known (C := RX3) (T := TX3) (N := 6) (n := 6) hts inX3 (hts _ law_inX3)
  obtain ⟨c4, f4, k4⟩ := u_known (C := RX4) (T := TX4) (N := 7) (n := 7) hts inX4 (hts _ law_inX4)
  obtain ⟨c5, f5, k5⟩ := u_known (C := RX5) (T := TX5) (N := 4) (n := 4) hts inX5 (hts _ law_inX5)
  obtain ⟨c6, f6, k6⟩ := u_known (C := RX6) (T := TX6) (N := 26) (n := 26) hts inX6 (hts _ law_inX6)
  obtain ⟨d0, a0, o0, x0, y0, z0⟩ := Cond.arrayClass_spec (hts _ law_arint)
  obtain ⟨d1, a1, o1, x1, y1, z1⟩ := Cond.arrayClass_spec (hts _ law_arlong)
  obtain ⟨d2, a2, o2, x2, y2, z2⟩ := Cond.arrayClass_spec (hts _ law_arboolean)
  obtain ⟨d3, a3, o3, x3, y3, z3⟩ := Cond.arrayClass_spec (hts _ law_arbyte)
  refine ⟨((fun k => match k with | 0 => c0 | 1 => c1 | 2 => c2 | 3 => c3 | 4 => c4 | 5 => c5 | _ => c6, fun k => match k with | 0 => f0 | 1 => f1 | 2 => f2 | 3 => f3 | 4 => f4 | 5 => f5 | _ => f6), d0, d1, d2, d3), ⟨fun k q h => ?_, fun k q h => ?_⟩, fun q h => va_Nw.of rfl (hts _ (law_nf q h)), fun q h => va_Nw.of rfl (hts _ (law_nm q h))⟩
  · match k, h with
    | 0, h => cases h; exact k0
    | 1, h => cases h; exact k1
    | 2, h => cases h; exact k2
    | 3, h => cases h; exact k3
    | 4, h => cases h; exact k4
    | 5, h => cases h; exact k5
    | 6, h => cases h; exact k6
    | k + 7, h => simp [vwCl] at h
  · match k, h with
    | 0, h => cases h; exact ⟨fun n z => ⟨fun k h => (by cases h), a0, y0, o0, z0⟩, x0⟩
    | 1, h => cases h; exact ⟨fun n z => ⟨fun k h => (by cases h), a1, y1, o1, z1⟩, x1⟩
    | 2, h => cases h; exact ⟨fun n z => ⟨fun k h => (by cases h), a2, y2, o2, z2⟩, x2⟩
    | 3, h => cases h; exact ⟨fun n z => ⟨fun k h => (by cases h), a3, y3, o3, z3⟩, x3⟩
    | k + 4, h => simp [zT] at h
set_option maxHeartbeats 4000000 in
set_option maxRecDepth 100000 in
theorem law_loop (X : zX) (g : zG) (A : Nat → Prop) (hC : zC X g cL_law RL wsL_law rm_L_law 4) (b L : Nat) (F : Int → Int) (hXY : ∀ (ws : va_W) (H : Heap) (locs : List Loc), zD X A ws H locs → va_X b L (aZ F) (xs X) H) (hF : ∀ z, -2147483648 ≤ F z ∧ F z ≤ 2147483647) (hLn : (L : Int) ≤ 2049) (hB hI aK aV aP aM aL aS aH hS aC aN oR aW aT hL hY aE aQ aB aU hM mK mW mT mS mV mM mX mY mI mJ mG mC mR mN mE mL mB mU : Nat) (hret : ∀ (ws : va_W) (lv : List (Nat × Value)) (pc : Nat), decode cL_law pc = .ok (.ireturn, 1) → ZG X g (zD X A) 40 105597 ws lv pc [.int (iZ 1)]) : ∀ (fu : Nat) (i : Int), 1 ≤ i → i ≤ 2053 → (2054 - i).toNat < fu → zGo X g A b hB hI aK aV aP aM aL aS aH hS aC aN oR aW aT hL hY aE aQ aB aU hM mK mW mT mS mV mM mX mY mI mJ mG mC mR mN mE mL mB mU 28 i := by
  intro fu
  induction fu with
  | zero => intro i _ _ h; omega
  | succ fu ih =>
    intro i h1 h2 hfu
    have go : i + 4 ≤ (L : Int) → zGo X g A b hB hI aK aV aP aM aL aS aH hS aC aN oR aW aT hL hY aE aQ aB aU hM mK mW mT mS mV mM mX mY mI mJ mG mC mR mN mE mL mB mU 488 i := by
      intro hi n K V P M LB SB HB ps C N W T k ug lo sd tc tp td E Q B U lk bd so dm KR WR TR SR VR MR XR YR IR JR GR CR RR NR ER LR BR UR hv
      have q := ih (i + 4) (by omega) (by omega) (by omega)
      unfold zGo at q
      show ZG X g (zD X A) 40 105597 [(hB, eo 5 [.ref hI, .ref oR, .ref hS, .ref hY]), (hS, eo 3 [.ref hI, .ref oR, .ref hL, .ref aC, .ref aN, .int (iZ (ps))]), (aC, el g 20808 C), (aN, eb g 20808 N), (hI, eo 0 [.ref aK, .ref aV, .ref aP, .ref aM, .ref aL, .ref aS, .ref aH, .int (iZ (n))]), (aK, ei g 100 K), (aV, ei g 100 V), (aP, ei g 100 P), (aM, ez g 100 M), (aL, ei g 101 LB), (aS, ei g 101 SB), (aH, ei g 101 HB), (oR, eo 2 [.ref aW, .ref aT]), (aW, ei g 50 W), (aT, ei g 3 T), (hL, eo 1 [.int (iZ (k)), .int (iZ (ug)), .int (iZ (lo)), .int (iZ (sd))]), (hY, eo 4 [.ref aE, .ref aQ, .ref aB, .ref aU, .int (iZ (tc)), .int (iZ (tp)), .long (lZ (td))]), (aE, ei g 50 E), (aQ, ei g 50 Q), (aB, ei g 50 B), (aU, ei g 50 U), (hM, eo 6 [.int (iZ (n)), .ref mK, .ref mW, .ref mT, .ref mS, .ref mV, .ref mM, .ref mX, .ref mY, .ref mI, .ref mJ, .ref mG, .ref mC, .ref mR, .ref mN, .int (iZ (lk)), .int (iZ (bd)), .int (iZ (so)), .long (lZ (dm)), .int (iZ (tc)), .ref mE, .ref mL, .ref mB, .ref mU, .long (lZ (td)), .int (iZ (tp))]), (mK, ei g 100 KR), (mW, ei g 100 WR), (mT, ei g 100 TR), (mS, ei g 100 SR), (mV, ei g 100 VR), (mM, ez g 100 MR), (mX, ei g 50 XR), (mY, ei g 3 YR), (mI, ei g 101 IR), (mJ, ei g 101 JR), (mG, ei g 101 GR), (mC, el g 20604 CR), (mR, ei g 20604 RR), (mN, ei g 20604 NR), (mE, ei g 50 ER), (mL, ei g 50 LR), (mB, ei g 50 BR), (mU, ei g 50 UR)] [(3, .int (iZ (i))), (2, .ref hM), (1, .ref hB), (0, .ref b)] 488 []
      refine z_iinc hC (lv' := [(3, _), (2, _), (1, _), (0, _)]) 0 dL_law_488 rfl (by decide) rfl ?_
      refine z_goto (tgt := 28) hC dL_law_491 (by decide) ?_
      exact q _ _ _ _ _ _ _ _ _ _ _ _ _ _ _ _ _ _ _ _ _ _ _ _ _ _ _ _ _ _ _ _ _ _ _ _ _ _ _ _ _ _ _ _ _ _ hv
    intro n K V P M LB SB HB ps C N W T k ug lo sd tc tp td E Q B U lk bd so dm KR WR TR SR VR MR XR YR IR JR GR CR RR NR ER LR BR UR hv
    show ZG X g (zD X A) 40 105597 [(hB, eo 5 [.ref hI, .ref oR, .ref hS, .ref hY]), (hS, eo 3 [.ref hI, .ref oR, .ref hL, .ref aC, .ref aN, .int (iZ (ps))]), (aC, el g 20808 C), (aN, eb g 20808 N), (hI, eo 0 [.ref aK, .ref aV, .ref aP, .ref aM, .ref aL, .ref aS, .ref aH, .int (iZ (n))]), (aK, ei g 100 K), (aV, ei g 100 V), (aP, ei g 100 P), (aM, ez g 100 M), (aL, ei g 101 LB), (aS, ei g 101 SB), (aH, ei g 101 HB), (oR, eo 2 [.ref aW, .ref aT]), (aW, ei g 50 W), (aT, ei g 3 T), (hL, eo 1 [.int (iZ (k)), .int (iZ (ug)), .int (iZ (lo)), .int (iZ (sd))]), (hY, eo 4 [.ref aE, .ref aQ, .ref aB, .ref aU, .int (iZ (tc)), .int (iZ (tp)), .long (lZ (td))]), (aE, ei g 50 E), (aQ, ei g 50 Q), (aB, ei g 50 B), (aU, ei g 50 U), (hM, eo 6 [.int (iZ (n)), .ref mK, .ref mW, .ref mT, .ref mS, .ref mV, .ref mM, .ref mX, .ref mY, .ref mI, .ref mJ, .ref mG, .ref mC, .ref mR, .ref mN, .int (iZ (lk)), .int (iZ (bd)), .int (iZ (so)), .long (lZ (dm)), .int (iZ (tc)), .ref mE, .ref mL, .ref mB, .ref mU, .long (lZ (td)), .int (iZ (tp))]), (mK, ei g 100 KR), (mW, ei g 100 WR), (mT, ei g 100 TR), (mS, ei g 100 SR), (mV, ei g 100 VR), (mM, ez g 100 MR), (mX, ei g 50 XR), (mY, ei g 3 YR), (mI, ei g 101 IR), (mJ, ei g 101 JR), (mG, ei g 101 GR), (mC, el g 20604 CR), (mR, ei g 20604 RR), (mN, ei g 20604 NR), (mE, ei g 50 ER), (mL, ei g 50 LR), (mB, ei g 50 BR), (mU, ei g 50 UR)] [(3, .int (iZ (i))), (2, .ref hM), (1, .ref hB), (0, .ref b)] 28 []
    refine z_iload_n hC 0 dL_law_28 rfl rfl ?_
    refine z_aload_n hC 3 dL_law_29 rfl rfl ?_
    refine z_slen hC (hXY _) dL_law_30 ?_
    refine z_iconst hC dL_law_31 ?_
    refine z_isub hC dL_law_32 ?_
    refine z_icmp_gt hC 494 dL_law_33 (by decide) (by omega) (by omega) (fun c_33 => ?_) (fun c_33 => ?_)
    · refine z_iconst hC dL_law_494 ?_
      exact hret _ _ _ dL_law_495
    · have hi : 1 ≤ i ∧ i + 4 ≤ (L : Int) := by omega
      have go := go hi.2
      refine z_aload_n hC 3 dL_law_36 rfl rfl ?_
      refine z_iload_n hC 0 dL_law_37 rfl rfl ?_
      refine z_sld hC (hXY _) (by omega) (by omega) dL_law_38 ?_
      refine z_bip hC dL_law_39 (by decide) ?_
      refine z_iand hC dL_law_41 ?_
      have hv15 := zAn_in (a := F i) (b := 15) (by omega)
      generalize zAn (F i) 15 = v at hv15 ⊢
      rcases (show v = 0 ∨ v = 1 ∨ v = 2 ∨ v = 3 ∨ v = 4 ∨ v = 5 ∨ v = 6 ∨ v = 7 ∨ v = 8 ∨ v = 9 ∨ v = 10 ∨ v = 11 ∨ v = 12 ∨ v = 13 ∨ v = 14 ∨ v = 15 by omega) with rfl | rfl | rfl | rfl | rfl | rfl | rfl | rfl | rfl | rfl | rfl | rfl | rfl | rfl | rfl | rfl
      · refine z_tIn hC 116 dL_law_42 (by omega) (by omega) rfl (by decide) ?_
        have q := law_0 X g A hC b L F hXY hF hLn hB hI aK aV aP aM aL aS aH hS aC aN oR aW aT hL hY aE aQ aB aU hM mK mW mT mS mV mM mX mY mI mJ mG mC mR mN mE mL mB mU i hi go
        unfold zGo at q
        exact q _ _ _ _ _ _ _ _ _ _ _ _ _ _ _ _ _ _ _ _ _ _ _ _ _ _ _ _ _ _ _ _ _ _ _ _ _ _ _ _ _ _ _ _ _ _ hv
      · refine z_tIn hC 139 dL_law_42 (by omega) (by omega) rfl (by decide) ?_
        have q := law_1 X g A hC b L F hXY hF hLn hB hI aK aV aP aM aL aS aH hS aC aN oR aW aT hL hY aE aQ aB aU hM mK mW mT mS mV mM mX mY mI mJ mG mC mR mN mE mL mB mU i hi go
        unfold zGo at q
        exact q _ _ _ _ _ _ _ _ _ _ _ _ _ _ _ _ _ _ _ _ _ _ _ _ _ _ _ _ _ _ _ _ _ _ _ _ _ _ _ _ _ _ _ _ _ _ hv
      · refine z_tIn hC 182 dL_law_42 (by omega) (by omega) rfl (by decide) ?_
        have q := law_2 X g A hC b L F hXY hF hLn hB hI aK aV aP aM aL aS aH hS aC aN oR aW aT hL hY aE aQ aB aU hM mK mW mT mS mV mM mX mY mI mJ mG mC mR mN mE mL mB mU i hi go
        unfold zGo at q
        exact q _ _ _ _ _ _ _ _ _ _ _ _ _ _ _ _ _ _ _ _ _ _ _ _ _ _ _ _ _ _ _ _ _ _ _ _ _ _ _ _ _ _ _ _ _ _ hv
      · refine z_tIn hC 241 dL_law_42 (by omega) (by omega) rfl (by decide) ?_
        have q := law_3 X g A hC b L F hXY hF hLn hB hI aK aV aP aM aL aS aH hS aC aN oR aW aT hL hY aE aQ aB aU hM mK mW mT mS mV mM mX mY mI mJ mG mC mR mN mE mL mB mU i hi go
        unfold zGo at q
        exact q _ _ _ _ _ _ _ _ _ _ _ _ _ _ _ _ _ _ _ _ _ _ _ _ _ _ _ _ _ _ _ _ _ _ _ _ _ _ _ _ _ _ _ _ _ _ hv
      · refine z_tIn hC 274 dL_law_42 (by omega) (by omega) rfl (by decide) ?_
        have q := law_4 X g A hC b L F hXY hF hLn hB hI aK aV aP aM aL aS aH hS aC aN oR aW aT hL hY aE aQ aB aU hM mK mW mT mS mV mM mX mY mI mJ mG mC mR mN mE mL mB mU i hi go
        unfold zGo at q
        exact q _ _ _ _ _ _ _ _ _ _ _ _ _ _ _ _ _ _ _ _ _ _ _ _ _ _ _ _ _ _ _ _ _ _ _ _ _ _ _ _ _ _ _ _ _ _ hv
      · refine z_tIn hC 307 dL_law_42 (by omega) (by omega) rfl (by decide) ?_
        have q := law_5 X g A hC b L F hXY hF hLn hB hI aK aV aP aM aL aS aH hS aC aN oR aW aT hL hY aE aQ aB aU hM mK mW mT mS mV mM mX mY mI mJ mG mC mR mN mE mL mB mU i hi go
        unfold zGo at q
        exact q _ _ _ _ _ _ _ _ _ _ _ _ _ _ _ _ _ _ _ _ _ _ _ _ _ _ _ _ _ _ _ _ _ _ _ _ _ _ _ _ _ _ _ _ _ _ hv
      · refine z_tIn hC 320 dL_law_42 (by omega) (by omega) rfl (by decide) ?_
        have q := law_6 X g A hC b L F hXY hF hLn hB hI aK aV aP aM aL aS aH hS aC aN oR aW aT hL hY aE aQ aB aU hM mK mW mT mS mV mM mX mY mI mJ mG mC mR mN mE mL mB mU i hi go
        unfold zGo at q
        exact q _ _ _ _ _ _ _ _ _ _ _ _ _ _ _ _ _ _ _ _ _ _ _ _ _ _ _ _ _ _ _ _ _ _ _ _ _ _ _ _ _ _ _ _ _ _ hv
      · refine z_tIn hC 343 dL_law_42 (by omega) (by omega) rfl (by decide) ?_
        have q := law_7 X g A hC b L F hXY hF hLn hB hI aK aV aP aM aL aS aH hS aC aN oR aW aT hL hY aE aQ aB aU hM mK mW mT mS mV mM mX mY mI mJ mG mC mR mN mE mL mB mU i hi go
        unfold zGo at q
        exact q _ _ _ _ _ _ _ _ _ _ _ _ _ _ _ _ _ _ _ _ _ _ _ _ _ _ _ _ _ _ _ _ _ _ _ _ _ _ _ _ _ _ _ _ _ _ hv
      · refine z_tIn hC 356 dL_law_42 (by omega) (by omega) rfl (by decide) ?_
        have q := law_8 X g A hC b L F hXY hF hLn hB hI aK aV aP aM aL aS aH hS aC aN oR aW aT hL hY aE aQ aB aU hM mK mW mT mS mV mM mX mY mI mJ mG mC mR mN mE mL mB mU i hi go
        unfold zGo at q
        exact q _ _ _ _ _ _ _ _ _ _ _ _ _ _ _ _ _ _ _ _ _ _ _ _ _ _ _ _ _ _ _ _ _ _ _ _ _ _ _ _ _ _ _ _ _ _ hv
      · refine z_tIn hC 379 dL_law_42 (by omega) (by omega) rfl (by decide) ?_
        have q := law_9 X g A hC b L F hXY hF hLn hB hI aK aV aP aM aL aS aH hS aC aN oR aW aT hL hY aE aQ aB aU hM mK mW mT mS mV mM mX mY mI mJ mG mC mR mN mE mL mB mU i hi go
        unfold zGo at q
        exact q _ _ _ _ _ _ _ _ _ _ _ _ _ _ _ _ _ _ _ _ _ _ _ _ _ _ _ _ _ _ _ _ _ _ _ _ _ _ _ _ _ _ _ _ _ _ hv
      · refine z_tIn hC 402 dL_law_42 (by omega) (by omega) rfl (by decide) ?_
        have q := law_10 X g A hC b L F hXY hF hLn hB hI aK aV aP aM aL aS aH hS aC aN oR aW aT hL hY aE aQ aB aU hM mK mW mT mS mV mM mX mY mI mJ mG mC mR mN mE mL mB mU i hi go
        unfold zGo at q
        exact q _ _ _ _ _ _ _ _ _ _ _ _ _ _ _ _ _ _ _ _ _ _ _ _ _ _ _ _ _ _ _ _ _ _ _ _ _ _ _ _ _ _ _ _ _ _ hv
      · refine z_tIn hC 425 dL_law_42 (by omega) (by omega) rfl (by decide) ?_
        have q := law_11 X g A hC b L F hXY hF hLn hB hI aK aV aP aM aL aS aH hS aC aN oR aW aT hL hY aE aQ aB aU hM mK mW mT mS mV mM mX mY mI mJ mG mC mR mN mE mL mB mU i hi go
        unfold zGo at q
        exact q _ _ _ _ _ _ _ _ _ _ _ _ _ _ _ _ _ _ _ _ _ _ _ _ _ _ _ _ _ _ _ _ _ _ _ _ _ _ _ _ _ _ _ _ _ _ hv
      · refine z_tIn hC 448 dL_law_42 (by omega) (by omega) rfl (by decide) ?_
        have q := law_12 X g A hC b L F hXY hF hLn hB hI aK aV aP aM aL aS aH hS aC aN oR aW aT hL hY aE aQ aB aU hM mK mW mT mS mV mM mX mY mI mJ mG mC mR mN mE mL mB mU i hi go
        unfold zGo at q
        exact q _ _ _ _ _ _ _ _ _ _ _ _ _ _ _ _ _ _ _ _ _ _ _ _ _ _ _ _ _ _ _ _ _ _ _ _ _ _ _ _ _ _ _ _ _ _ hv
      · refine z_tIn hC 462 dL_law_42 (by omega) (by omega) rfl (by decide) ?_
        have q := law_13 X g A hC b L F hXY hF hLn hB hI aK aV aP aM aL aS aH hS aC aN oR aW aT hL hY aE aQ aB aU hM mK mW mT mS mV mM mX mY mI mJ mG mC mR mN mE mL mB mU i hi go
        unfold zGo at q
        exact q _ _ _ _ _ _ _ _ _ _ _ _ _ _ _ _ _ _ _ _ _ _ _ _ _ _ _ _ _ _ _ _ _ _ _ _ _ _ _ _ _ _ _ _ _ _ hv
      · refine z_tIn hC 475 dL_law_42 (by omega) (by omega) rfl (by decide) ?_
        have q := law_14 X g A hC b L F hXY hF hLn hB hI aK aV aP aM aL aS aH hS aC aN oR aW aT hL hY aE aQ aB aU hM mK mW mT mS mV mM mX mY mI mJ mG mC mR mN mE mL mB mU i hi go
        unfold zGo at q
        exact q _ _ _ _ _ _ _ _ _ _ _ _ _ _ _ _ _ _ _ _ _ _ _ _ _ _ _ _ _ _ _ _ _ _ _ _ _ _ _ _ _ _ _ _ _ _ hv
      · refine z_tOut hC 488 dL_law_42 (by omega) (by omega) (by decide) ?_
        unfold zGo at go
        exact go _ _ _ _ _ _ _ _ _ _ _ _ _ _ _ _ _ _ _ _ _ _ _ _ _ _ _ _ _ _ _ _ _ _ _ _ _ _ _ _ _ _ _ _ _ _ hv
theorem zLI_0 {W XR : Int → Int} {w : Int} (h1 : ∀ i, 0 ≤ i → i < 50 → W i = zAn w 16383) (h2 : ∀ i, 0 ≤ i → i < 50 → XR i = zAn w 16383) : zLI 0 (fun _ => (0 : Int)) (fun _ => (0 : Int)) (fun _ => (0 : Int)) (fun _ => (0 : Int)) (fun _ => (0 : Int)) (fun _ => (0 : Int)) (fun _ => (0 : Int)) W (uZ (uZ (fun _ => 0) 0 100) 1 200) 0 0 (fun _ => (0 : Int)) (fun _ => (0 : Int)) (fun _ => (0 : Int)) (fun _ => (0 : Int)) (fun _ => (0 : Int)) (fun _ => (0 : Int)) (fun _ => (0 : Int)) (fun _ => (0 : Int)) (fun _ => (0 : Int)) (fun _ => (0 : Int)) XR (uZ (uZ (uZ (fun _ => 0) 0 100) 1 200) 2 0) (fun _ => (0 : Int)) (fun _ => (0 : Int)) (fun _ => (0 : Int)) (fun _ => (0 : Int)) (fun _ => (0 : Int)) (fun _ => (0 : Int)) (fun _ => (0 : Int)) := by
  have h3 := zAn_in (a := w) (b := 16383) (by omega)
  refine ⟨⟨⟨by omega, fun j g1 g2 => by omega, fun j g1 g2 => by omega⟩, fun j g1 g2 => by omega, ⟨⟨rfl, rfl, rfl⟩, fun j g1 g2 => by omega⟩, fun j g1 g2 => by omega⟩, ⟨fun i g1 g2 => by rw [h1 i g1 (by omega)]; omega, ?_, fun i g1 g2 => by rw [h1 i g1 (by omega), h2 i g1 (by omega)], ?_⟩, ⟨rfl, rfl, rfl⟩, by omega, fun i g1 g2 => by omega⟩ <;> simp only [uZ_e, Int.reduceEq, reduceIte, true_and, and_true] <;> omega
