section ZMAKE
variable {X : zX} {g : zG} {cc : ByteArray} {own : String} {Ts : List Cond} {rm : Room} {nL : Nat} {Y : va_W → Heap → List Loc → Prop} {cells slots : Nat} {ws : va_W} {lv : List (Nat × Value)} {pc : Nat} {st : List Value} {A : Nat → Prop}
theorem z_newai (hC : zC X g cc own Ts rm nL) {n : Int} (N : Nat) (harr : Cond.arrayClass .int ∈ Ts) (hn : n = (N : Int)) (hN : N ≤ 100000) (hcells : cells + 1 ≤ rm.cells) (hslots : slots + N ≤ rm.slots) (d : decode cc pc = .ok (.newarray .int, 2)) (kk : ∀ q : Nat, ZG X g (zD X A) (cells + 1) (slots + N) (ws ++ [(q, ei g N (fun _ => 0))]) lv (pc + 2) (.ref q :: st)) : ZG X g (zD X A) cells slots ws lv pc (.int (iZ n) :: st) :=
  fun H locs ls hP hD hY hl0 => va_newa (atype := .int) (ty := .int) (N' := N) (a0 := (N, .inl (aZ (fun _ => 0)))) hC.1.1 hC.1.2.1 (hC.1.2.2.2.2 _ harr) rfl hC.2.1.1 hP hY.1 hY.2.1 hY.2.2 (fun _ => rfl) (by rw [hn, ← iZ_0, iZ_lt (by omega) zr_0]; omega) (by rw [hn, iZ_cl (by omega) (by omega)]; omega) (by show N * 4 ≤ _; omega) (by rw [hC.2.2.1]; exact hcells) (by rw [hC.2.2.1]; exact hslots) d (fun q cA H1 hK1 hP1 hD1 hS1 => by
    have e : cA = g.2.1 := Option.some.inj ((hK1.2 4 _ rfl).2.symm.trans (hC.2.1.1.2 0 _ rfl).2)
    subst e
    exact kk q H1 locs ls hP1 (hD1.weaken (fun _ _ _ _ => trivial)) ⟨hD1, hS1, hY.2.2⟩ hl0)
theorem z_newal (hC : zC X g cc own Ts rm nL) {n : Int} (N : Nat) (harr : Cond.arrayClass .long ∈ Ts) (hn : n = (N : Int)) (hN : N ≤ 100000) (hcells : cells + 1 ≤ rm.cells) (hslots : slots + N ≤ rm.slots) (d : decode cc pc = .ok (.newarray .long, 2)) (kk : ∀ q : Nat, ZG X g (zD X A) (cells + 1) (slots + N) (ws ++ [(q, el g N (fun _ => 0))]) lv (pc + 2) (.ref q :: st)) : ZG X g (zD X A) cells slots ws lv pc (.int (iZ n) :: st) :=
  fun H locs ls hP hD hY hl0 => va_newa (atype := .long) (ty := .long) (N' := N) (a0 := (N, .inr (.inl (lA (fun _ => 0))))) hC.1.1 hC.1.2.1 (hC.1.2.2.2.2 _ harr) rfl hC.2.1.1 hP hY.1 hY.2.1 hY.2.2 (fun _ => rfl) (by rw [hn, ← iZ_0, iZ_lt (by omega) zr_0]; omega) (by rw [hn, iZ_cl (by omega) (by omega)]; omega) (by show N * 8 ≤ _; omega) (by rw [hC.2.2.1]; exact hcells) (by rw [hC.2.2.1]; exact hslots) d (fun q cA H1 hK1 hP1 hD1 hS1 => by
    have e : cA = g.2.2.1 := Option.some.inj ((hK1.2 4 _ rfl).2.symm.trans (hC.2.1.1.2 1 _ rfl).2)
    subst e
    exact kk q H1 locs ls hP1 (hD1.weaken (fun _ _ _ _ => trivial)) ⟨hD1, hS1, hY.2.2⟩ hl0)
theorem z_newaz (hC : zC X g cc own Ts rm nL) {n : Int} (N : Nat) (harr : Cond.arrayClass .boolean ∈ Ts) (hn : n = (N : Int)) (hN : N ≤ 100000) (hcells : cells + 1 ≤ rm.cells) (hslots : slots + N ≤ rm.slots) (d : decode cc pc = .ok (.newarray .boolean, 2)) (kk : ∀ q : Nat, ZG X g (zD X A) (cells + 1) (slots + N) (ws ++ [(q, ez g N (fun _ => 0))]) lv (pc + 2) (.ref q :: st)) : ZG X g (zD X A) cells slots ws lv pc (.int (iZ n) :: st) :=
  fun H locs ls hP hD hY hl0 => va_newa (atype := .boolean) (ty := .boolean) (N' := N) (a0 := (N, .inl (aZ (fun _ => 0)))) hC.1.1 hC.1.2.1 (hC.1.2.2.2.2 _ harr) rfl hC.2.1.1 hP hY.1 hY.2.1 hY.2.2 (fun _ => rfl) (by rw [hn, ← iZ_0, iZ_lt (by omega) zr_0]; omega) (by rw [hn, iZ_cl (by omega) (by omega)]; omega) (by show N * 1 ≤ _; omega) (by rw [hC.2.2.1]; exact hcells) (by rw [hC.2.2.1]; exact hslots) d (fun q cA H1 hK1 hP1 hD1 hS1 => by
    have e : cA = g.2.2.2.1 := Option.some.inj ((hK1.2 4 _ rfl).2.symm.trans (hC.2.1.1.2 2 _ rfl).2)
    subst e
    exact kk q H1 locs ls hP1 (hD1.weaken (fun _ _ _ _ => trivial)) ⟨hD1, hS1, hY.2.2⟩ hl0)
theorem z_newab (hC : zC X g cc own Ts rm nL) {n : Int} (N : Nat) (harr : Cond.arrayClass .byte ∈ Ts) (hn : n = (N : Int)) (hN : N ≤ 100000) (hcells : cells + 1 ≤ rm.cells) (hslots : slots + N ≤ rm.slots) (d : decode cc pc = .ok (.newarray .byte, 2)) (kk : ∀ q : Nat, ZG X g (zD X A) (cells + 1) (slots + N) (ws ++ [(q, eb g N (fun _ => 0))]) lv (pc + 2) (.ref q :: st)) : ZG X g (zD X A) cells slots ws lv pc (.int (iZ n) :: st) :=
  fun H locs ls hP hD hY hl0 => va_newa (atype := .byte) (ty := .byte) (N' := N) (a0 := (N, .inl (aZ (fun _ => 0)))) hC.1.1 hC.1.2.1 (hC.1.2.2.2.2 _ harr) rfl hC.2.1.1 hP hY.1 hY.2.1 hY.2.2 (fun _ => rfl) (by rw [hn, ← iZ_0, iZ_lt (by omega) zr_0]; omega) (by rw [hn, iZ_cl (by omega) (by omega)]; omega) (by show N * 1 ≤ _; omega) (by rw [hC.2.2.1]; exact hcells) (by rw [hC.2.2.1]; exact hslots) d (fun q cA H1 hK1 hP1 hD1 hS1 => by
    have e : cA = g.2.2.2.2 := Option.some.inj ((hK1.2 4 _ rfl).2.symm.trans (hC.2.1.1.2 3 _ rfl).2)
    subst e
    exact kk q H1 locs ls hP1 (hD1.weaken (fun _ _ _ _ => trivial)) ⟨hD1, hS1, hY.2.2⟩ hl0)
def zAn (a b : Int) : Int := (iZ a &&& iZ b).toInt
theorem zAn_in {a b : Int} (h : 0 ≤ b ∧ b ≤ 2147483647) : 0 ≤ zAn a b ∧ zAn a b ≤ b := by
  have e : zAn a b = ((iZ a).toBitVec &&& (iZ b).toBitVec).toInt := by unfold zAn; rw [← Int32.toBitVec_and]; rfl
  have e2 : (iZ b).toBitVec.toInt = b := iZ_t (by omega)
  rw [BitVec.toInt_eq_toNat_cond] at e2
  rw [e, BitVec.toInt_eq_toNat_cond, BitVec.toNat_and]
  have h3 : (iZ a).toBitVec.toNat &&& (iZ b).toBitVec.toNat ≤ (iZ b).toBitVec.toNat := Nat.and_le_right
  have h4 := (iZ b).toBitVec.isLt
  generalize (iZ a).toBitVec.toNat &&& (iZ b).toBitVec.toNat = x at *
  generalize (iZ b).toBitVec.toNat = y at *
  have h5 : 2 * y < 2 ^ 32 := by
    by_cases q : 2 * y < 2 ^ 32
    · exact q
    · rw [if_neg q] at e2
      omega
  rw [if_pos h5] at e2
  rw [if_pos (by omega)]
  omega
theorem z_iand (hC : zC X g cc own Ts rm nL) {a b : Int} (d : decode cc pc = .ok (.iand, 1)) (k : ZG X g Y cells slots ws lv (pc + 1) (.int (iZ (zAn a b)) :: st)) : ZG X g Y cells slots ws lv pc (.int (iZ b) :: .int (iZ a) :: st) := fun H locs ls hP hD hY hl0 => lv_iand hC.1.1 hC.1.2.1 d (by rw [show iZ a &&& iZ b = iZ (zAn a b) from (iZ_of _).symm]; exact k H locs ls hP hD hY hl0)
theorem z_tIn (hC : zC X g cc own Ts rm nL) {v dflt lo hi off : Int} {offs : Array Int} {len : Nat} (tgt : Nat) (d : decode cc pc = .ok (.tableswitch dflt lo hi offs, len)) (hv : -2147483648 ≤ v ∧ v ≤ 2147483647) (h1 : lo ≤ v ∧ v ≤ hi) (ho : offs[(v - lo).toNat]? = some off) (ht : (pc : Int) + off = (tgt : Int)) (k : ZG X g Y cells slots ws lv tgt st) : ZG X g Y cells slots ws lv pc (.int (iZ v) :: st) := fun H locs ls hP hD hY hl0 => lv_tableIn hC.1.1 hC.1.2.1 d (by rw [iZ_t hv]; omega) (by rw [iZ_t hv]; omega) (by rw [iZ_t hv]; exact ho) ht (k H locs ls hP hD hY hl0)
theorem z_tOut (hC : zC X g cc own Ts rm nL) {v dflt lo hi : Int} {offs : Array Int} {len : Nat} (tgt : Nat) (d : decode cc pc = .ok (.tableswitch dflt lo hi offs, len)) (hv : -2147483648 ≤ v ∧ v ≤ 2147483647) (h1 : v < lo ∨ hi < v) (ht : (pc : Int) + dflt = (tgt : Int)) (k : ZG X g Y cells slots ws lv tgt st) : ZG X g Y cells slots ws lv pc (.int (iZ v) :: st) := fun H locs ls hP hD hY hl0 => lv_tableOut hC.1.1 hC.1.2.1 d (by rw [iZ_t hv]; exact h1) ht (k H locs ls hP hD hY hl0)
/-- two answers that are the same -/
theorem z_icmp_same (hC : zC X g cc own Ts rm nL) {a b off : Int} (h : a = b) (tgt : Nat) (d : decode cc pc = .ok (.if_icmp .eq off, 3)) (ht : (pc : Int) + off = (tgt : Int)) (kt : ZG X g Y cells slots ws lv tgt st) : ZG X g Y cells slots ws lv pc (.int (iZ b) :: .int (iZ a) :: st) := fun H locs ls hP hD hY hl0 => lv_icmp_eq hC.1.1 hC.1.2.1 d ht (fun _ => kt H locs ls hP hD hY hl0) (fun q => absurd (by rw [h]) q)
theorem z_lcmp_same (hC : zC X g cc own Ts rm nL) {a b off : Int} (h : a = b) (tgt : Nat) (d1 : decode cc pc = .ok (.lcmp, 1)) (d : decode cc (pc + 1) = .ok (.ifCond .eq off, 3)) (ht : ((pc + 1 : Nat) : Int) + off = (tgt : Int)) (kt : ZG X g Y cells slots ws lv tgt st) : ZG X g Y cells slots ws lv pc (.long (lZ b) :: .long (lZ a) :: st) := fun H locs ls hP hD hY hl0 => W.lcmp hC.1.1 hC.1.2.1 d1 (lv_if_eq hC.1.1 hC.1.2.1 d ht (fun _ => kt H locs ls hP hD hY hl0) (fun q => absurd (by rw [h]; simp [lg_cmp]) q))
/-- the script -/
theorem z_sld (hC : zC X g cc own Ts rm nL) {b L : Nat} {F : Int → Int} (hXY : ∀ H locs, Y ws H locs → va_X b L (aZ F) (xs X) H) {i : Int} (hi : 0 ≤ i ∧ i < (L : Int)) (hL : (L : Int) ≤ 2147483647) (d : decode cc pc = .ok (.iaload, 1)) (kk : ZG X g Y cells slots ws lv (pc + 1) (.int (iZ (F i)) :: st)) : ZG X g Y cells slots ws lv pc (.int (iZ i) :: .ref b :: st) := by
  intro H locs ls hP hD hY hl0
  obtain ⟨scr, h1, h2, h3, h4, h5⟩ := hXY H locs hY
  have hin : vp_in (iZ i) L := iZ_in hi hL
  have hlt : (iZ i).toNatClampNeg < L := Nat.not_le.mp fun q => hin (Or.inr q)
  refine W.iald (v := .int (aZ F (iZ i).toNatClampNeg)) hC.1.1 hC.1.2.1 h1 h2 h3 (by rw [h4]; exact hin) (h5 _ hlt) rfl rfl d ?_
  rw [aZ_rd hi.1 (by omega)]
  exact kk H locs ls hP hD hY hl0
theorem z_slen (hC : zC X g cc own Ts rm nL) {b L : Nat} {F : Int → Int} (hXY : ∀ H locs, Y ws H locs → va_X b L (aZ F) (xs X) H) (d : decode cc pc = .ok (.arraylength, 1)) (kk : ZG X g Y cells slots ws lv (pc + 1) (.int (iZ (L : Int)) :: st)) : ZG X g Y cells slots ws lv pc (.ref b :: st) := by
  intro H locs ls hP hD hY hl0
  obtain ⟨scr, h1, h2, h3, h4, h5⟩ := hXY H locs hY
  refine W.alen (n := Int32.ofNat L) hC.1.1 hC.1.2.1 h1 h2 (by rw [h4] <;> rfl) rfl rfl d ?_
  rw [iZ_ofNat]
  exact kk H locs ls hP hD hY hl0
def zXPc (g : zG) (b L : Nat) (F : Int → Int) (As : List Value) : Array Value → State → Prop := va_Pc As (fun U => va_X b L (aZ F) U U.heap ∧ zK g U)
theorem zXPc_blind {b L : Nat} {F : Int → Int} {As : List Value} : FrameBlind (zXPc g b L F As) := fun _ U gg mk ⟨h1, h2, h3⟩ => ⟨h1, va_X.moved (u := U) (U := U.calling gg mk _) (Vm.Alike.refl U.vm) h2, zK.same (u := U) (U := U.calling gg mk _) rfl h3⟩
theorem z_modX {b L : Nat} {F : Int → Int} {st0 rest : List Value} {a : Array Value} {v : Option Value} (hXY : ∀ H locs, Y ws H locs → va_X b L (aZ F) (xs X) H) (hr : ∀ (H : Heap) (locs : List Loc) (ls : Array Slot), va_X b L (aZ F) (xs X) H → lv_has ls (xn X) lv → va_Run (xp X) (xl X) (xe X) (xR X) (xs X) (xm X) (xa X) (xb X) (xM X) (xc X) H locs cells slots 0 0 (F0 (xm X) pc ls st0) rest (zR v a) (fun _ => False)) (kk : ZG X g Y cells slots ws lv (pc + 3) (v.toList ++ rest)) : ZG X g Y cells slots ws lv pc st0 := by
  intro H locs ls hP hD hY hl T hT XX
  obtain ⟨v', st₀, t, T', L, h0, X', hL, e1, e2, ⟨hv, hh⟩, st⟩ := hr H locs ls (hXY H locs hY) hl T hT XX
  cases hv
  have hLn : L = [] := List.eq_nil_iff_forall_not_mem.mpr (fun q hq => hL q hq)
  subst hLn
  rw [List.append_nil] at X'
  obtain ⟨t2, a1, b1⟩ := kk H locs ls hP hD hY hl T' (by rw [e1, hh, h0]) X'
  exact ⟨t2, st t2 a1, b1⟩
/-- a call that reads the script -/
theorem z_sX (hC : zC X g cc own Ts rm nL) {y : MethodName} {bytes : ByteArray} {maxL index : Nat} {ret : Option FieldType} {wsy wsy' : List Cond} {rmy : Room} {b L : Nat} {F : Int → Int} {As rest : List Value} {r : Int} (hXY : ∀ H locs, Y ws H locs → va_X b L (aZ F) (xs X) H) (n : Nat) (hM : Met (xl X) y wsy rmy (zXPc g b L F As) (zR (some (.int (iZ r)))) 0 0 (fun _ => False)) (hG : GoodIn Ts (va_wsS own index y wsy)) (hw : wsy = Cond.code y bytes maxL ret :: wsy') (hd : y.cls ≠ "java/lang/invoke/MethodHandle" ∧ y.cls ≠ "java/lang/invoke/VarHandle" ∧ (parseMethodDescriptor y.desc).map (fun d => d.parameters.length) = some n) (hrm : rmy.frames + 1 ≤ rm.frames ∧ 8 + (maxL + 11) + rmy.locals ≤ rm.locals) (hr0 : rmy.cells = 0 ∧ rmy.slots = 0) (hlen : As.length = n) {st0 : List Value} (hst : st0 = As.reverse ++ rest) (hcat : (rest.map fun v => v.category).sum ≤ 8) (d : decode cc pc = .ok (.invokestatic index, 3)) (hr : cells ≤ rm.cells ∧ slots ≤ rm.slots) (kk : ZG X g Y cells slots ws lv (pc + 3) (.int (iZ r) :: rest)) : ZG X g Y cells slots ws lv pc st0 :=
  z_modX hXY (fun H locs ls hX hl0 => va_runS hC.1 hM (va_cwS n hC.1.2.2.2.2 hG hw hr0.1 hr0.2 hd (by rw [hC.2.2.1]; exact hrm)) ⟨zXPc_blind, fun U hU hW => ⟨rfl, by rw [hU]; exact va_X.moved hW.alike hX, hC.2.1.warm hW⟩⟩ rfl hlen (hl0.1.trans hC.2.2.2) hst (lv_room hcat) d (by rw [hC.2.2.1]; exact hr)) kk
end ZMAKE
abbrev rm_L_cell : Room := { frames := 1, cells := 0, slots := 0, locals := 12 }
set_option maxHeartbeats 4000000 in
set_option maxRecDepth 100000 in
theorem c_L_cell (l : Launch) (g : zG) (b L : Nat) (F : Int → Int) (k : Int) (hk : 0 ≤ k ∧ k ≤ 2147483647) (hL : (L : Int) ≤ 2147483647) : Met l yL_cell wsL_cell rm_L_cell (zXPc g b L F [.ref b, .int (iZ k)]) (zR (some (.int (iZ (if k < (L : Int) then F k else 0))))) 0 0 (fun _ => False) := by
  refine z_enter (g := g) (cc := cL_cell) (nL := 2) (ret := some .int) (wc := []) (As := [.ref b, .int (iZ k)]) (free := fun _ _ => False) 0 (fun a U h => ⟨h.1, fun i q hq => by simp at hq, h.2.2, ⟨fun i j p q hp => by simp at hp, fun i q hq => by simp at hq⟩, rfl⟩) (plainFor_of_name (by decide +kernel)) rfl (Nat.le_of_ble_eq_true rfl) ?_
  intro X hC hN hr hlocks hxa hxq hPcX hD ls hl hP
  have hC : zC X g cL_cell RL wsL_cell rm_L_cell 2 := hC
  have hXY : ∀ H locs, zE X [] H locs → va_X b L (aZ F) (xs X) H := fun H locs hY => by rw [hY.1]; exact hPcX.2.1
  have hR : ∀ (lv : List (Nat × Value)) (pc : Nat) (r' : Int), r' = (if k < (L : Int) then F k else 0) → decode cL_cell pc = .ok (.ireturn, 1) → ZG X g (zE X) 0 0 [] lv pc [.int (iZ r')] := by
    intro lv pc r' hr' d H locs ls hP hD hY hl
    obtain ⟨rfl, rfl⟩ := hY
    subst hr'
    rw [hxq]
    exact W.iret hC.1.1 hC.1.2.1 hr (fun t ht hW => ⟨rfl, ht⟩) (fun q hq => by cases hq) d hlocks
  refine (?_ : ZG X g (zE X) 0 0 [] [(0, .ref b), (1, .int (iZ k))] 0 []) (xs X).heap [] ls hP hD ⟨rfl, rfl⟩ (by rw [hC.2.2.2]; exact hl)
  refine z_iload_n hC 1 dL_cell_0 rfl rfl ?_
  refine z_aload_n hC 0 dL_cell_1 rfl rfl ?_
  refine z_slen hC hXY dL_cell_2 ?_
  refine z_icmp_ge hC 12 dL_cell_3 (by decide) (by omega) (by omega) (fun c_3 => ?_) (fun c_3 => ?_)
  · refine z_iconst hC dL_cell_12 ?_
    exact hR _ _ _ (by rw [if_neg (by omega)]) dL_cell_13
  · refine z_aload_n hC 0 dL_cell_6 rfl rfl ?_
    refine z_iload_n hC 1 dL_cell_7 rfl rfl ?_
    refine z_sld hC hXY (by omega) hL dL_cell_8 ?_
    refine z_goto (tgt := 13) hC dL_cell_9 (by decide) ?_
    exact hR _ _ _ (by rw [if_pos (by omega)]) dL_cell_13
