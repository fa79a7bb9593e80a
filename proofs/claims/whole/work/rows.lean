section
-- ===== PART A: goes FIRST, ahead of the names: the tables' words, and 'selects' of the private methods out of them =====
/-- a private method of a class that the tables say can be made, by its rows of tables_1 -/
def lw_okq (q : MethodName × Nat) : Prop := (q.1.cls ≠ "java/lang/invoke/MethodHandle" ∧ q.1.cls ≠ "java/lang/invoke/VarHandle") ∧ Cond.instantiable q.1.cls q.2 ∈ tables_1 ∧ Cond.privateMethod q.1 ∈ tables_1 ∧ Cond.instanceMethod q.1 ∈ tables_1
theorem lw_p0 : lw_okq (⟨"BreakSearch$Items", "append", "(IIII)I"⟩, 8) := ⟨⟨by decide +kernel, by decide +kernel⟩, List.mem_of_getElem? (i := 19) (by decide +kernel), List.mem_of_getElem? (i := 184) (by decide +kernel), List.mem_of_getElem? (i := 185) (by decide +kernel)⟩
theorem lw_p1 : lw_okq (⟨"BreakSearch$Items", "appendPenalty", "(IIZ)I"⟩, 8) := ⟨⟨by decide +kernel, by decide +kernel⟩, List.mem_of_getElem? (i := 19) (by decide +kernel), List.mem_of_getElem? (i := 196) (by decide +kernel), List.mem_of_getElem? (i := 197) (by decide +kernel)⟩
theorem lw_p2 : lw_okq (⟨"BreakSearch$Way", "forget", "()V"⟩, 7) := ⟨⟨by decide +kernel, by decide +kernel⟩, List.mem_of_getElem? (i := 127) (by decide +kernel), List.mem_of_getElem? (i := 213) (by decide +kernel), List.mem_of_getElem? (i := 214) (by decide +kernel)⟩
theorem lw_p3 : lw_okq (⟨"BreakSearch$Search", "findsWay", "(II)Z"⟩, 6) := ⟨⟨by decide +kernel, by decide +kernel⟩, List.mem_of_getElem? (i := 76) (by decide +kernel), List.mem_of_getElem? (i := 217) (by decide +kernel), List.mem_of_getElem? (i := 218) (by decide +kernel)⟩
theorem lw_p4 : lw_okq (⟨"BreakSearch$Search", "closeAll", "()V"⟩, 6) := ⟨⟨by decide +kernel, by decide +kernel⟩, List.mem_of_getElem? (i := 76) (by decide +kernel), List.mem_of_getElem? (i := 221) (by decide +kernel), List.mem_of_getElem? (i := 222) (by decide +kernel)⟩
theorem lw_p5 : lw_okq (⟨"BreakSearch$Search", "openEnd", "(I)V"⟩, 6) := ⟨⟨by decide +kernel, by decide +kernel⟩, List.mem_of_getElem? (i := 76) (by decide +kernel), List.mem_of_getElem? (i := 229) (by decide +kernel), List.mem_of_getElem? (i := 230) (by decide +kernel)⟩
theorem lw_p6 : lw_okq (⟨"BreakSearch$Rules", "breaksAtMarksIn", "(I)Z"⟩, 2) := ⟨⟨by decide +kernel, by decide +kernel⟩, List.mem_of_getElem? (i := 57) (by decide +kernel), List.mem_of_getElem? (i := 233) (by decide +kernel), List.mem_of_getElem? (i := 234) (by decide +kernel)⟩
theorem lw_p7 : lw_okq (⟨"BreakSearch$Items", "mayBreakAt", "(IZ)Z"⟩, 8) := ⟨⟨by decide +kernel, by decide +kernel⟩, List.mem_of_getElem? (i := 19) (by decide +kernel), List.mem_of_getElem? (i := 237) (by decide +kernel), List.mem_of_getElem? (i := 238) (by decide +kernel)⟩
theorem lw_p8 : lw_okq (⟨"BreakSearch$Items", "isKind", "(II)Z"⟩, 8) := ⟨⟨by decide +kernel, by decide +kernel⟩, List.mem_of_getElem? (i := 19) (by decide +kernel), List.mem_of_getElem? (i := 241) (by decide +kernel), List.mem_of_getElem? (i := 242) (by decide +kernel)⟩
theorem lw_p9 : lw_okq (⟨"BreakSearch$Items", "isEnd", "(I)Z"⟩, 8) := ⟨⟨by decide +kernel, by decide +kernel⟩, List.mem_of_getElem? (i := 19) (by decide +kernel), List.mem_of_getElem? (i := 245) (by decide +kernel), List.mem_of_getElem? (i := 246) (by decide +kernel)⟩
theorem lw_p10 : lw_okq (⟨"BreakSearch$Search", "tryLinesBehind", "(IZ)V"⟩, 6) := ⟨⟨by decide +kernel, by decide +kernel⟩, List.mem_of_getElem? (i := 76) (by decide +kernel), List.mem_of_getElem? (i := 249) (by decide +kernel), List.mem_of_getElem? (i := 250) (by decide +kernel)⟩
theorem lw_p11 : lw_okq (⟨"BreakSearch$Items", "startBehind", "(I)I"⟩, 8) := ⟨⟨by decide +kernel, by decide +kernel⟩, List.mem_of_getElem? (i := 19) (by decide +kernel), List.mem_of_getElem? (i := 253) (by decide +kernel), List.mem_of_getElem? (i := 254) (by decide +kernel)⟩
theorem lw_p12 : lw_okq (⟨"BreakSearch$Search", "tryLine", "(III)V"⟩, 6) := ⟨⟨by decide +kernel, by decide +kernel⟩, List.mem_of_getElem? (i := 76) (by decide +kernel), List.mem_of_getElem? (i := 257) (by decide +kernel), List.mem_of_getElem? (i := 258) (by decide +kernel)⟩
theorem lw_p13 : lw_okq (⟨"BreakSearch$Rules", "toleranceIn", "(I)I"⟩, 2) := ⟨⟨by decide +kernel, by decide +kernel⟩, List.mem_of_getElem? (i := 57) (by decide +kernel), List.mem_of_getElem? (i := 261) (by decide +kernel), List.mem_of_getElem? (i := 262) (by decide +kernel)⟩
theorem lw_p14 : lw_okq (⟨"BreakSearch$Rules", "moreStretchIn", "(I)I"⟩, 2) := ⟨⟨by decide +kernel, by decide +kernel⟩, List.mem_of_getElem? (i := 57) (by decide +kernel), List.mem_of_getElem? (i := 265) (by decide +kernel), List.mem_of_getElem? (i := 266) (by decide +kernel)⟩
theorem lw_p15 : lw_okq (⟨"BreakSearch$Line", "measure", "(LBreakSearch$Items;IIII)V"⟩, 4) := ⟨⟨by decide +kernel, by decide +kernel⟩, List.mem_of_getElem? (i := 82) (by decide +kernel), List.mem_of_getElem? (i := 272) (by decide +kernel), List.mem_of_getElem? (i := 273) (by decide +kernel)⟩
def lw_privs_1 : List (MethodName × Nat) := [(⟨"BreakSearch$Items", "append", "(IIII)I"⟩, 8), (⟨"BreakSearch$Items", "appendPenalty", "(IIZ)I"⟩, 8), (⟨"BreakSearch$Way", "forget", "()V"⟩, 7), (⟨"BreakSearch$Search", "findsWay", "(II)Z"⟩, 6), (⟨"BreakSearch$Search", "closeAll", "()V"⟩, 6), (⟨"BreakSearch$Search", "openEnd", "(I)V"⟩, 6), (⟨"BreakSearch$Rules", "breaksAtMarksIn", "(I)Z"⟩, 2), (⟨"BreakSearch$Items", "mayBreakAt", "(IZ)Z"⟩, 8), (⟨"BreakSearch$Items", "isKind", "(II)Z"⟩, 8), (⟨"BreakSearch$Items", "isEnd", "(I)Z"⟩, 8), (⟨"BreakSearch$Search", "tryLinesBehind", "(IZ)V"⟩, 6), (⟨"BreakSearch$Items", "startBehind", "(I)I"⟩, 8), (⟨"BreakSearch$Search", "tryLine", "(III)V"⟩, 6), (⟨"BreakSearch$Rules", "toleranceIn", "(I)I"⟩, 2), (⟨"BreakSearch$Rules", "moreStretchIn", "(I)I"⟩, 2), (⟨"BreakSearch$Line", "measure", "(LBreakSearch$Items;IIII)V"⟩, 4)]
theorem lw_r1 : ∀ q ∈ lw_privs_1, lw_okq q := List.forall_mem_cons.mpr ⟨lw_p0, List.forall_mem_cons.mpr ⟨lw_p1, List.forall_mem_cons.mpr ⟨lw_p2, List.forall_mem_cons.mpr ⟨lw_p3, List.forall_mem_cons.mpr ⟨lw_p4, List.forall_mem_cons.mpr ⟨lw_p5, List.forall_mem_cons.mpr ⟨lw_p6, List.forall_mem_cons.mpr ⟨lw_p7, List.forall_mem_cons.mpr ⟨lw_p8, List.forall_mem_cons.mpr ⟨lw_p9, List.forall_mem_cons.mpr ⟨lw_p10, List.forall_mem_cons.mpr ⟨lw_p11, List.forall_mem_cons.mpr ⟨lw_p12, List.forall_mem_cons.mpr ⟨lw_p13, List.forall_mem_cons.mpr ⟨lw_p14, List.forall_mem_cons.mpr ⟨lw_p15, fun _ h => absurd h List.not_mem_nil⟩⟩⟩⟩⟩⟩⟩⟩⟩⟩⟩⟩⟩⟩⟩⟩
theorem lw_p16 : lw_okq (⟨"BreakSearch$Items", "widthEndingAt", "(I)I"⟩, 8) := ⟨⟨by decide +kernel, by decide +kernel⟩, List.mem_of_getElem? (i := 19) (by decide +kernel), List.mem_of_getElem? (i := 277) (by decide +kernel), List.mem_of_getElem? (i := 278) (by decide +kernel)⟩
theorem lw_p17 : lw_okq (⟨"BreakSearch$Line", "squeeze", "(I)V"⟩, 4) := ⟨⟨by decide +kernel, by decide +kernel⟩, List.mem_of_getElem? (i := 82) (by decide +kernel), List.mem_of_getElem? (i := 281) (by decide +kernel), List.mem_of_getElem? (i := 282) (by decide +kernel)⟩
theorem lw_p18 : lw_okq (⟨"BreakSearch$Line", "settle", "(II)V"⟩, 4) := ⟨⟨by decide +kernel, by decide +kernel⟩, List.mem_of_getElem? (i := 82) (by decide +kernel), List.mem_of_getElem? (i := 293) (by decide +kernel), List.mem_of_getElem? (i := 294) (by decide +kernel)⟩
theorem lw_p19 : lw_okq (⟨"BreakSearch$Line", "widen", "(I)V"⟩, 4) := ⟨⟨by decide +kernel, by decide +kernel⟩, List.mem_of_getElem? (i := 82) (by decide +kernel), List.mem_of_getElem? (i := 298) (by decide +kernel), List.mem_of_getElem? (i := 299) (by decide +kernel)⟩
theorem lw_p20 : lw_okq (⟨"BreakSearch$Line", "isToleratedBy", "(I)Z"⟩, 4) := ⟨⟨by decide +kernel, by decide +kernel⟩, List.mem_of_getElem? (i := 82) (by decide +kernel), List.mem_of_getElem? (i := 302) (by decide +kernel), List.mem_of_getElem? (i := 303) (by decide +kernel)⟩
theorem lw_p21 : lw_okq (⟨"BreakSearch$Search", "enterLine", "(III)V"⟩, 6) := ⟨⟨by decide +kernel, by decide +kernel⟩, List.mem_of_getElem? (i := 76) (by decide +kernel), List.mem_of_getElem? (i := 306) (by decide +kernel), List.mem_of_getElem? (i := 307) (by decide +kernel)⟩
theorem lw_p22 : lw_okq (⟨"BreakSearch$Search", "demeritsOfLine", "(II)J"⟩, 6) := ⟨⟨by decide +kernel, by decide +kernel⟩, List.mem_of_getElem? (i := 76) (by decide +kernel), List.mem_of_getElem? (i := 311) (by decide +kernel), List.mem_of_getElem? (i := 312) (by decide +kernel)⟩
theorem lw_p23 : lw_okq (⟨"BreakSearch$Items", "penaltyDemerits", "(I)J"⟩, 8) := ⟨⟨by decide +kernel, by decide +kernel⟩, List.mem_of_getElem? (i := 19) (by decide +kernel), List.mem_of_getElem? (i := 316) (by decide +kernel), List.mem_of_getElem? (i := 317) (by decide +kernel)⟩
theorem lw_p24 : lw_okq (⟨"BreakSearch$Items", "isMarked", "(I)Z"⟩, 8) := ⟨⟨by decide +kernel, by decide +kernel⟩, List.mem_of_getElem? (i := 19) (by decide +kernel), List.mem_of_getElem? (i := 320) (by decide +kernel), List.mem_of_getElem? (i := 321) (by decide +kernel)⟩
theorem lw_p25 : lw_okq (⟨"BreakSearch$Items", "hasToBreakAt", "(I)Z"⟩, 8) := ⟨⟨by decide +kernel, by decide +kernel⟩, List.mem_of_getElem? (i := 19) (by decide +kernel), List.mem_of_getElem? (i := 332) (by decide +kernel), List.mem_of_getElem? (i := 333) (by decide +kernel)⟩
theorem lw_p26 : lw_okq (⟨"BreakSearch$Search", "tell", "(LBreakSearch$Way;)V"⟩, 6) := ⟨⟨by decide +kernel, by decide +kernel⟩, List.mem_of_getElem? (i := 76) (by decide +kernel), List.mem_of_getElem? (i := 336) (by decide +kernel), List.mem_of_getElem? (i := 337) (by decide +kernel)⟩
theorem lw_p27 : lw_okq (⟨"BreakSearch$Way", "append", "(ILBreakSearch$Line;)V"⟩, 7) := ⟨⟨by decide +kernel, by decide +kernel⟩, List.mem_of_getElem? (i := 127) (by decide +kernel), List.mem_of_getElem? (i := 344) (by decide +kernel), List.mem_of_getElem? (i := 345) (by decide +kernel)⟩
theorem lw_p28 : lw_okq (⟨"BreakSearch$Way", "hasLine", "(I)Z"⟩, 7) := ⟨⟨by decide +kernel, by decide +kernel⟩, List.mem_of_getElem? (i := 127) (by decide +kernel), List.mem_of_getElem? (i := 360) (by decide +kernel), List.mem_of_getElem? (i := 361) (by decide +kernel)⟩
theorem lw_p29 : lw_okq (⟨"BreakSearchModel", "add", "(IIIIIZ)I"⟩, 26) := ⟨⟨by decide +kernel, by decide +kernel⟩, List.mem_of_getElem? (i := 391) (by decide +kernel), List.mem_of_getElem? (i := 483) (by decide +kernel), List.mem_of_getElem? (i := 484) (by decide +kernel)⟩
theorem lw_p30 : lw_okq (⟨"BreakSearchModel", "search", "(II)V"⟩, 26) := ⟨⟨by decide +kernel, by decide +kernel⟩, List.mem_of_getElem? (i := 391) (by decide +kernel), List.mem_of_getElem? (i := 507) (by decide +kernel), List.mem_of_getElem? (i := 508) (by decide +kernel)⟩
theorem lw_p31 : lw_okq (⟨"BreakSearchModel", "sumUp", "()V"⟩, 26) := ⟨⟨by decide +kernel, by decide +kernel⟩, List.mem_of_getElem? (i := 391) (by decide +kernel), List.mem_of_getElem? (i := 511) (by decide +kernel), List.mem_of_getElem? (i := 512) (by decide +kernel)⟩
def lw_privs_2 : List (MethodName × Nat) := [(⟨"BreakSearch$Items", "widthEndingAt", "(I)I"⟩, 8), (⟨"BreakSearch$Line", "squeeze", "(I)V"⟩, 4), (⟨"BreakSearch$Line", "settle", "(II)V"⟩, 4), (⟨"BreakSearch$Line", "widen", "(I)V"⟩, 4), (⟨"BreakSearch$Line", "isToleratedBy", "(I)Z"⟩, 4), (⟨"BreakSearch$Search", "enterLine", "(III)V"⟩, 6), (⟨"BreakSearch$Search", "demeritsOfLine", "(II)J"⟩, 6), (⟨"BreakSearch$Items", "penaltyDemerits", "(I)J"⟩, 8), (⟨"BreakSearch$Items", "isMarked", "(I)Z"⟩, 8), (⟨"BreakSearch$Items", "hasToBreakAt", "(I)Z"⟩, 8), (⟨"BreakSearch$Search", "tell", "(LBreakSearch$Way;)V"⟩, 6), (⟨"BreakSearch$Way", "append", "(ILBreakSearch$Line;)V"⟩, 7), (⟨"BreakSearch$Way", "hasLine", "(I)Z"⟩, 7), (⟨"BreakSearchModel", "add", "(IIIIIZ)I"⟩, 26), (⟨"BreakSearchModel", "search", "(II)V"⟩, 26), (⟨"BreakSearchModel", "sumUp", "()V"⟩, 26)]
theorem lw_r2 : ∀ q ∈ lw_privs_2, lw_okq q := List.forall_mem_cons.mpr ⟨lw_p16, List.forall_mem_cons.mpr ⟨lw_p17, List.forall_mem_cons.mpr ⟨lw_p18, List.forall_mem_cons.mpr ⟨lw_p19, List.forall_mem_cons.mpr ⟨lw_p20, List.forall_mem_cons.mpr ⟨lw_p21, List.forall_mem_cons.mpr ⟨lw_p22, List.forall_mem_cons.mpr ⟨lw_p23, List.forall_mem_cons.mpr ⟨lw_p24, List.forall_mem_cons.mpr ⟨lw_p25, List.forall_mem_cons.mpr ⟨lw_p26, List.forall_mem_cons.mpr ⟨lw_p27, List.forall_mem_cons.mpr ⟨lw_p28, List.forall_mem_cons.mpr ⟨lw_p29, List.forall_mem_cons.mpr ⟨lw_p30, List.forall_mem_cons.mpr ⟨lw_p31, fun _ h => absurd h List.not_mem_nil⟩⟩⟩⟩⟩⟩⟩⟩⟩⟩⟩⟩⟩⟩⟩⟩
theorem lw_p32 : lw_okq (⟨"BreakSearchModel", "mayBreak", "(II)Z"⟩, 26) := ⟨⟨by decide +kernel, by decide +kernel⟩, List.mem_of_getElem? (i := 391) (by decide +kernel), List.mem_of_getElem? (i := 515) (by decide +kernel), List.mem_of_getElem? (i := 516) (by decide +kernel)⟩
theorem lw_p33 : lw_okq (⟨"BreakSearchModel", "goFrom", "(IIIII)V"⟩, 26) := ⟨⟨by decide +kernel, by decide +kernel⟩, List.mem_of_getElem? (i := 391) (by decide +kernel), List.mem_of_getElem? (i := 519) (by decide +kernel), List.mem_of_getElem? (i := 520) (by decide +kernel)⟩
theorem lw_p34 : lw_okq (⟨"BreakSearchModel", "mustBreak", "(I)Z"⟩, 26) := ⟨⟨by decide +kernel, by decide +kernel⟩, List.mem_of_getElem? (i := 391) (by decide +kernel), List.mem_of_getElem? (i := 523) (by decide +kernel), List.mem_of_getElem? (i := 524) (by decide +kernel)⟩
theorem lw_p35 : lw_okq (⟨"BreakSearchModel", "isLine", "(IIII)Z"⟩, 26) := ⟨⟨by decide +kernel, by decide +kernel⟩, List.mem_of_getElem? (i := 391) (by decide +kernel), List.mem_of_getElem? (i := 527) (by decide +kernel), List.mem_of_getElem? (i := 528) (by decide +kernel)⟩
theorem lw_p36 : lw_okq (⟨"BreakSearchModel", "keep", "(IJII)V"⟩, 26) := ⟨⟨by decide +kernel, by decide +kernel⟩, List.mem_of_getElem? (i := 391) (by decide +kernel), List.mem_of_getElem? (i := 544) (by decide +kernel), List.mem_of_getElem? (i := 545) (by decide +kernel)⟩
theorem lw_p37 : lw_okq (⟨"BreakSearchModel", "tell", "(I)V"⟩, 26) := ⟨⟨by decide +kernel, by decide +kernel⟩, List.mem_of_getElem? (i := 391) (by decide +kernel), List.mem_of_getElem? (i := 548) (by decide +kernel), List.mem_of_getElem? (i := 549) (by decide +kernel)⟩
def lw_privs_3 : List (MethodName × Nat) := [(⟨"BreakSearchModel", "mayBreak", "(II)Z"⟩, 26), (⟨"BreakSearchModel", "goFrom", "(IIIII)V"⟩, 26), (⟨"BreakSearchModel", "mustBreak", "(I)Z"⟩, 26), (⟨"BreakSearchModel", "isLine", "(IIII)Z"⟩, 26), (⟨"BreakSearchModel", "keep", "(IJII)V"⟩, 26), (⟨"BreakSearchModel", "tell", "(I)V"⟩, 26)]
theorem lw_r3 : ∀ q ∈ lw_privs_3, lw_okq q := List.forall_mem_cons.mpr ⟨lw_p32, List.forall_mem_cons.mpr ⟨lw_p33, List.forall_mem_cons.mpr ⟨lw_p34, List.forall_mem_cons.mpr ⟨lw_p35, List.forall_mem_cons.mpr ⟨lw_p36, List.forall_mem_cons.mpr ⟨lw_p37, fun _ h => absurd h List.not_mem_nil⟩⟩⟩⟩⟩⟩
def lw_privs : List (MethodName × Nat) := lw_privs_1 ++ (lw_privs_2 ++ (lw_privs_3))
def lw_tbl : List Cond := k2_sels lw_privs ++ tables_1
theorem lw_privs_ok : ∀ q ∈ lw_privs, lw_okq q := by
  show ∀ q ∈ lw_privs_1 ++ (lw_privs_2 ++ (lw_privs_3)), lw_okq q
  exact List.forall_mem_append.mpr ⟨lw_r1, List.forall_mem_append.mpr ⟨lw_r2, lw_r3⟩⟩
end
section
/-! ===== BEGIN words of one list among another's, by their places ===== -/
theorem goodIn_r {big : List Cond} (ws : List Cond) (ps : List Nat) (hp : ws = ps.filterMap (fun i => big[i]?)) (h : ws.all goodWord = true) : GoodIn big ws := by
  intro w hw
  have h1 := List.all_eq_true.mp h w hw
  rw [hp] at hw
  obtain ⟨i, -, hi⟩ := List.mem_filterMap.mp hw
  have hm : w ∈ big := by first | exact List.mem_of_getElem? hi | exact List.getElem?_mem hi
  exact ⟨hm, good_of_word h1⟩
theorem goodIn_app {big a b : List Cond} (ha : GoodIn big a) (hb : GoodIn big b) : GoodIn big (a ++ b) := fun w h => (List.mem_append.mp h).elim (ha w) (hb w)
theorem goodIn_ca {big a b : List Cond} {c : Cond} (ha : GoodIn big (c :: a)) (hb : GoodIn big b) : GoodIn big (c :: (a ++ b)) := fun w h => (List.mem_cons.mp h).elim (fun e => ha w (List.mem_cons.mpr (Or.inl e))) (fun h => (List.mem_append.mp h).elim (fun h => ha w (List.mem_cons.mpr (Or.inr h))) (hb w))
theorem goodIn_sub {big ws : List Cond} (hm : ∀ w ∈ ws, w ∈ big) (h : ws.all goodWord = true) : GoodIn big ws := fun w hw => ⟨hm w hw, good_of_word (List.all_eq_true.mp h w hw)⟩
/-! ===== END ===== -/

/-! ===== BEGIN printed: names, fields, word lists, decode rows ===== -/
def RX0 : String := "BreakSearch$Items"
def TX0 : u_T := fun k => match k with
  | 0 => ("BreakSearch$Items", "kinds", "[I", true)
  | 1 => ("BreakSearch$Items", "values", "[I", true)
  | 2 => ("BreakSearch$Items", "penaltyWidths", "[I", true)
  | 3 => ("BreakSearch$Items", "marks", "[Z", true)
  | 4 => ("BreakSearch$Items", "lengthBefore", "[I", true)
  | 5 => ("BreakSearch$Items", "stretchBefore", "[I", true)
  | 6 => ("BreakSearch$Items", "shrinkBefore", "[I", true)
  | _ => ("BreakSearch$Items", "count", "I", false)
def tyX0 : Nat → FieldType := fun k => match k with
  | 0 => .array .int
  | 1 => .array .int
  | 2 => .array .int
  | 3 => .array .boolean
  | 4 => .array .int
  | 5 => .array .int
  | 6 => .array .int
  | _ => .int
abbrev wsX00 : List Cond := u_ws RX0 TX0 8
theorem nmX0 : ∀ a, a < 8 → ∀ b, b < 8 → a ≠ b → (TX0 a).2.1 ≠ (TX0 b).2.1 := by decide +kernel
theorem tyX0_ok : ∀ k, k < 8 → parseFieldDescriptor (TX0 k).2.2.1 = some (tyX0 k) := by decide +kernel
abbrev cX0_init : ByteArray := prog_2_method_1_code
def yX0_init : MethodName := ⟨RX0, "<init>", "()V"⟩
abbrev cX0_append : ByteArray := prog_2_method_2_code
def yX0_append : MethodName := ⟨RX0, "append", "(IIII)I"⟩
abbrev cX0_appendPenalty : ByteArray := prog_2_method_3_code
def yX0_appendPenalty : MethodName := ⟨RX0, "appendPenalty", "(IIZ)I"⟩
abbrev cX0_isEnd : ByteArray := prog_2_method_4_code
def yX0_isEnd : MethodName := ⟨RX0, "isEnd", "(I)Z"⟩
abbrev cX0_isKind : ByteArray := prog_2_method_5_code
def yX0_isKind : MethodName := ⟨RX0, "isKind", "(II)Z"⟩
abbrev cX0_isMarked : ByteArray := prog_2_method_6_code
def yX0_isMarked : MethodName := ⟨RX0, "isMarked", "(I)Z"⟩
abbrev cX0_mayBreakAt : ByteArray := prog_2_method_7_code
def yX0_mayBreakAt : MethodName := ⟨RX0, "mayBreakAt", "(IZ)Z"⟩
abbrev cX0_hasToBreakAt : ByteArray := prog_2_method_8_code
def yX0_hasToBreakAt : MethodName := ⟨RX0, "hasToBreakAt", "(I)Z"⟩
abbrev cX0_startBehind : ByteArray := prog_2_method_9_code
def yX0_startBehind : MethodName := ⟨RX0, "startBehind", "(I)I"⟩
abbrev cX0_widthEndingAt : ByteArray := prog_2_method_10_code
def yX0_widthEndingAt : MethodName := ⟨RX0, "widthEndingAt", "(I)I"⟩
abbrev cX0_penaltyDemerits : ByteArray := prog_2_method_11_code
def yX0_penaltyDemerits : MethodName := ⟨RX0, "penaltyDemerits", "(I)J"⟩
def RX1 : String := "BreakSearch$Line"
def TX1 : u_T := fun k => match k with
  | 0 => ("BreakSearch$Line", "lack", "I", false)
  | 1 => ("BreakSearch$Line", "ugliness", "I", false)
  | 2 => ("BreakSearch$Line", "looks", "I", false)
  | _ => ("BreakSearch$Line", "stands", "Z", false)
def tyX1 : Nat → FieldType := fun k => match k with
  | 0 => .int
  | 1 => .int
  | 2 => .int
  | _ => .boolean
abbrev wsX10 : List Cond := u_ws RX1 TX1 4
theorem nmX1 : ∀ a, a < 4 → ∀ b, b < 4 → a ≠ b → (TX1 a).2.1 ≠ (TX1 b).2.1 := by decide +kernel
theorem tyX1_ok : ∀ k, k < 4 → parseFieldDescriptor (TX1 k).2.2.1 = some (tyX1 k) := by decide +kernel
abbrev cX1_init : ByteArray := prog_3_method_1_code
def yX1_init : MethodName := ⟨RX1, "<init>", "()V"⟩
abbrev cX1_measure : ByteArray := prog_3_method_2_code
def yX1_measure : MethodName := ⟨RX1, "measure", "(LBreakSearch$Items;IIII)V"⟩
abbrev cX1_settle : ByteArray := prog_3_method_3_code
def yX1_settle : MethodName := ⟨RX1, "settle", "(II)V"⟩
abbrev cX1_squeeze : ByteArray := prog_3_method_4_code
def yX1_squeeze : MethodName := ⟨RX1, "squeeze", "(I)V"⟩
abbrev cX1_widen : ByteArray := prog_3_method_5_code
def yX1_widen : MethodName := ⟨RX1, "widen", "(I)V"⟩
abbrev cX1_badnessOf : ByteArray := prog_3_method_6_code
def yX1_badnessOf : MethodName := ⟨RX1, "badnessOf", "(II)I"⟩
abbrev cX1_isToleratedBy : ByteArray := prog_3_method_7_code
def yX1_isToleratedBy : MethodName := ⟨RX1, "isToleratedBy", "(I)Z"⟩
abbrev cX1_isUnlike : ByteArray := prog_3_method_8_code
def yX1_isUnlike : MethodName := ⟨RX1, "isUnlike", "(II)Z"⟩
def RX2 : String := "BreakSearch$Rules"
def TX2 : u_T := fun k => match k with
  | 0 => ("BreakSearch$Rules", "widths", "[I", true)
  | _ => ("BreakSearch$Rules", "settings", "[I", true)
def tyX2 : Nat → FieldType := fun k => match k with
  | 0 => .array .int
  | _ => .array .int
abbrev wsX20 : List Cond := u_ws RX2 TX2 2
theorem nmX2 : ∀ a, a < 2 → ∀ b, b < 2 → a ≠ b → (TX2 a).2.1 ≠ (TX2 b).2.1 := by decide +kernel
theorem tyX2_ok : ∀ k, k < 2 → parseFieldDescriptor (TX2 k).2.2.1 = some (tyX2 k) := by decide +kernel
abbrev cX2_init : ByteArray := prog_4_method_1_code
def yX2_init : MethodName := ⟨RX2, "<init>", "(I)V"⟩
abbrev cX2_toleranceIn : ByteArray := prog_4_method_2_code
def yX2_toleranceIn : MethodName := ⟨RX2, "toleranceIn", "(I)I"⟩
abbrev cX2_breaksAtMarksIn : ByteArray := prog_4_method_3_code
def yX2_breaksAtMarksIn : MethodName := ⟨RX2, "breaksAtMarksIn", "(I)Z"⟩
abbrev cX2_moreStretchIn : ByteArray := prog_4_method_4_code
def yX2_moreStretchIn : MethodName := ⟨RX2, "moreStretchIn", "(I)I"⟩
def RX3 : String := "BreakSearch$Search"
def TX3 : u_T := fun k => match k with
  | 0 => ("BreakSearch$Search", "items", "LBreakSearch$Items;", true)
  | 1 => ("BreakSearch$Search", "rules", "LBreakSearch$Rules;", true)
  | 2 => ("BreakSearch$Search", "line", "LBreakSearch$Line;", true)
  | 3 => ("BreakSearch$Search", "costs", "[J", true)
  | 4 => ("BreakSearch$Search", "nextBreaks", "[B", true)
  | _ => ("BreakSearch$Search", "pass", "I", false)
def tyX3 : Nat → FieldType := fun k => match k with
  | 0 => .object "BreakSearch$Items"
  | 1 => .object "BreakSearch$Rules"
  | 2 => .object "BreakSearch$Line"
  | 3 => .array .long
  | 4 => .array .byte
  | _ => .int
abbrev wsX30 : List Cond := u_ws RX3 TX3 6
theorem nmX3 : ∀ a, a < 6 → ∀ b, b < 6 → a ≠ b → (TX3 a).2.1 ≠ (TX3 b).2.1 := by decide +kernel
theorem tyX3_ok : ∀ k, k < 6 → parseFieldDescriptor (TX3 k).2.2.1 = some (tyX3 k) := by decide +kernel
abbrev cX3_init : ByteArray := prog_5_method_1_code
def yX3_init : MethodName := ⟨RX3, "<init>", "(LBreakSearch$Items;LBreakSearch$Rules;)V"⟩
abbrev cX3_cellOf : ByteArray := prog_5_method_2_code
def yX3_cellOf : MethodName := ⟨RX3, "cellOf", "(III)I"⟩
abbrev cX3_findsWay : ByteArray := prog_5_method_3_code
def yX3_findsWay : MethodName := ⟨RX3, "findsWay", "(II)Z"⟩
abbrev cX3_closeAll : ByteArray := prog_5_method_4_code
def yX3_closeAll : MethodName := ⟨RX3, "closeAll", "()V"⟩
abbrev cX3_openEnd : ByteArray := prog_5_method_5_code
def yX3_openEnd : MethodName := ⟨RX3, "openEnd", "(I)V"⟩
abbrev cX3_tryLinesBehind : ByteArray := prog_5_method_6_code
def yX3_tryLinesBehind : MethodName := ⟨RX3, "tryLinesBehind", "(IZ)V"⟩
abbrev cX3_tryLine : ByteArray := prog_5_method_7_code
def yX3_tryLine : MethodName := ⟨RX3, "tryLine", "(III)V"⟩
abbrev cX3_enterLine : ByteArray := prog_5_method_8_code
def yX3_enterLine : MethodName := ⟨RX3, "enterLine", "(III)V"⟩
abbrev cX3_demeritsOfLine : ByteArray := prog_5_method_9_code
def yX3_demeritsOfLine : MethodName := ⟨RX3, "demeritsOfLine", "(II)J"⟩
abbrev cX3_tell : ByteArray := prog_5_method_10_code
def yX3_tell : MethodName := ⟨RX3, "tell", "(LBreakSearch$Way;)V"⟩
def RX4 : String := "BreakSearch$Way"
def TX4 : u_T := fun k => match k with
  | 0 => ("BreakSearch$Way", "ends", "[I", true)
  | 1 => ("BreakSearch$Way", "lacks", "[I", true)
  | 2 => ("BreakSearch$Way", "badnesses", "[I", true)
  | 3 => ("BreakSearch$Way", "classes", "[I", true)
  | 4 => ("BreakSearch$Way", "count", "I", false)
  | 5 => ("BreakSearch$Way", "pass", "I", false)
  | _ => ("BreakSearch$Way", "demerits", "J", false)
def tyX4 : Nat → FieldType := fun k => match k with
  | 0 => .array .int
  | 1 => .array .int
  | 2 => .array .int
  | 3 => .array .int
  | 4 => .int
  | 5 => .int
  | _ => .long
abbrev wsX40 : List Cond := u_ws RX4 TX4 7
theorem nmX4 : ∀ a, a < 7 → ∀ b, b < 7 → a ≠ b → (TX4 a).2.1 ≠ (TX4 b).2.1 := by decide +kernel
theorem tyX4_ok : ∀ k, k < 7 → parseFieldDescriptor (TX4 k).2.2.1 = some (tyX4 k) := by decide +kernel
abbrev cX4_init : ByteArray := prog_6_method_1_code
def yX4_init : MethodName := ⟨RX4, "<init>", "()V"⟩
abbrev cX4_forget : ByteArray := prog_6_method_2_code
def yX4_forget : MethodName := ⟨RX4, "forget", "()V"⟩
abbrev cX4_append : ByteArray := prog_6_method_3_code
def yX4_append : MethodName := ⟨RX4, "append", "(ILBreakSearch$Line;)V"⟩
abbrev cX4_hasLine : ByteArray := prog_6_method_4_code
def yX4_hasLine : MethodName := ⟨RX4, "hasLine", "(I)Z"⟩
def RX5 : String := "BreakSearch"
def TX5 : u_T := fun k => match k with
  | 0 => ("BreakSearch", "items", "LBreakSearch$Items;", true)
  | 1 => ("BreakSearch", "rules", "LBreakSearch$Rules;", true)
  | 2 => ("BreakSearch", "search", "LBreakSearch$Search;", true)
  | _ => ("BreakSearch", "told", "LBreakSearch$Way;", true)
def tyX5 : Nat → FieldType := fun k => match k with
  | 0 => .object "BreakSearch$Items"
  | 1 => .object "BreakSearch$Rules"
  | 2 => .object "BreakSearch$Search"
  | _ => .object "BreakSearch$Way"
abbrev wsX50 : List Cond := u_ws RX5 TX5 4
theorem nmX5 : ∀ a, a < 4 → ∀ b, b < 4 → a ≠ b → (TX5 a).2.1 ≠ (TX5 b).2.1 := by decide +kernel
theorem tyX5_ok : ∀ k, k < 4 → parseFieldDescriptor (TX5 k).2.2.1 = some (tyX5 k) := by decide +kernel
abbrev cX5_init : ByteArray := prog_1_method_1_code
def yX5_init : MethodName := ⟨RX5, "<init>", "(I)V"⟩
abbrev cX5_box : ByteArray := prog_1_method_2_code
def yX5_box : MethodName := ⟨RX5, "box", "(I)I"⟩
abbrev cX5_glue : ByteArray := prog_1_method_3_code
def yX5_glue : MethodName := ⟨RX5, "glue", "(III)I"⟩
abbrev cX5_penalty : ByteArray := prog_1_method_4_code
def yX5_penalty : MethodName := ⟨RX5, "penalty", "(IIZ)I"⟩
abbrev cX5_shape : ByteArray := prog_1_method_5_code
def yX5_shape : MethodName := ⟨RX5, "shape", "(II)I"⟩
abbrev cX5_setting : ByteArray := prog_1_method_6_code
def yX5_setting : MethodName := ⟨RX5, "setting", "(II)I"⟩
abbrev cX5_run : ByteArray := prog_1_method_7_code
def yX5_run : MethodName := ⟨RX5, "run", "()I"⟩
abbrev cX5_loose : ByteArray := prog_1_method_8_code
def yX5_loose : MethodName := ⟨RX5, "loose", "(I)I"⟩
abbrev cX5_lines : ByteArray := prog_1_method_9_code
def yX5_lines : MethodName := ⟨RX5, "lines", "()I"⟩
abbrev cX5_at : ByteArray := prog_1_method_10_code
def yX5_at : MethodName := ⟨RX5, "at", "(I)I"⟩
abbrev cX5_lacks : ByteArray := prog_1_method_11_code
def yX5_lacks : MethodName := ⟨RX5, "lacks", "(I)I"⟩
abbrev cX5_badness : ByteArray := prog_1_method_12_code
def yX5_badness : MethodName := ⟨RX5, "badness", "(I)I"⟩
abbrev cX5_classOf : ByteArray := prog_1_method_13_code
def yX5_classOf : MethodName := ⟨RX5, "classOf", "(I)I"⟩
abbrev cX5_demerits : ByteArray := prog_1_method_14_code
def yX5_demerits : MethodName := ⟨RX5, "demerits", "()J"⟩
abbrev cX5_pass : ByteArray := prog_1_method_15_code
def yX5_pass : MethodName := ⟨RX5, "pass", "()I"⟩
abbrev cX5_clear : ByteArray := prog_1_method_16_code
def yX5_clear : MethodName := ⟨RX5, "clear", "()I"⟩
abbrev cX5_isWithin : ByteArray := prog_1_method_17_code
def yX5_isWithin : MethodName := ⟨RX5, "isWithin", "(III)Z"⟩
def RX6 : String := "BreakSearchModel"
def TX6 : u_T := fun k => match k with
  | 0 => ("BreakSearchModel", "items", "I", false)
  | 1 => ("BreakSearchModel", "kinds", "[I", true)
  | 2 => ("BreakSearchModel", "widths", "[I", true)
  | 3 => ("BreakSearchModel", "stretches", "[I", true)
  | 4 => ("BreakSearchModel", "shrinks", "[I", true)
  | 5 => ("BreakSearchModel", "values", "[I", true)
  | 6 => ("BreakSearchModel", "marked", "[Z", true)
  | 7 => ("BreakSearchModel", "shapes", "[I", true)
  | 8 => ("BreakSearchModel", "settings", "[I", true)
  | 9 => ("BreakSearchModel", "wide", "[I", true)
  | 10 => ("BreakSearchModel", "stretchy", "[I", true)
  | 11 => ("BreakSearchModel", "shrinking", "[I", true)
  | 12 => ("BreakSearchModel", "costs", "[J", true)
  | 13 => ("BreakSearchModel", "rest", "[I", true)
  | 14 => ("BreakSearchModel", "nexts", "[I", true)
  | 15 => ("BreakSearchModel", "lack", "I", false)
  | 16 => ("BreakSearchModel", "bad", "I", false)
  | 17 => ("BreakSearchModel", "sort", "I", false)
  | 18 => ("BreakSearchModel", "demerit", "J", false)
  | 19 => ("BreakSearchModel", "told", "I", false)
  | 20 => ("BreakSearchModel", "ends", "[I", true)
  | 21 => ("BreakSearchModel", "lacks", "[I", true)
  | 22 => ("BreakSearchModel", "bads", "[I", true)
  | 23 => ("BreakSearchModel", "classes", "[I", true)
  | 24 => ("BreakSearchModel", "sum", "J", false)
  | _ => ("BreakSearchModel", "pass", "I", false)
def tyX6 : Nat → FieldType := fun k => match k with
  | 0 => .int
  | 1 => .array .int
  | 2 => .array .int
  | 3 => .array .int
  | 4 => .array .int
  | 5 => .array .int
  | 6 => .array .boolean
  | 7 => .array .int
  | 8 => .array .int
  | 9 => .array .int
  | 10 => .array .int
  | 11 => .array .int
  | 12 => .array .long
  | 13 => .array .int
  | 14 => .array .int
  | 15 => .int
  | 16 => .int
  | 17 => .int
  | 18 => .long
  | 19 => .int
  | 20 => .array .int
  | 21 => .array .int
  | 22 => .array .int
  | 23 => .array .int
  | 24 => .long
  | _ => .int
abbrev wsX60 : List Cond := u_ws RX6 TX6 26
theorem nmX6 : ∀ a, a < 26 → ∀ b, b < 26 → a ≠ b → (TX6 a).2.1 ≠ (TX6 b).2.1 := by decide +kernel
theorem tyX6_ok : ∀ k, k < 26 → parseFieldDescriptor (TX6 k).2.2.1 = some (tyX6 k) := by decide +kernel
abbrev cX6_init : ByteArray := prog_8_method_1_code
def yX6_init : MethodName := ⟨RX6, "<init>", "(I)V"⟩
abbrev cX6_in : ByteArray := prog_8_method_2_code
def yX6_in : MethodName := ⟨RX6, "in", "(III)Z"⟩
abbrev cX6_add : ByteArray := prog_8_method_3_code
def yX6_add : MethodName := ⟨RX6, "add", "(IIIIIZ)I"⟩
abbrev cX6_box : ByteArray := prog_8_method_4_code
def yX6_box : MethodName := ⟨RX6, "box", "(I)I"⟩
abbrev cX6_glue : ByteArray := prog_8_method_5_code
def yX6_glue : MethodName := ⟨RX6, "glue", "(III)I"⟩
abbrev cX6_penalty : ByteArray := prog_8_method_6_code
def yX6_penalty : MethodName := ⟨RX6, "penalty", "(IIZ)I"⟩
abbrev cX6_shape : ByteArray := prog_8_method_7_code
def yX6_shape : MethodName := ⟨RX6, "shape", "(II)I"⟩
abbrev cX6_setting : ByteArray := prog_8_method_8_code
def yX6_setting : MethodName := ⟨RX6, "setting", "(II)I"⟩
abbrev cX6_mayBreak : ByteArray := prog_8_method_9_code
def yX6_mayBreak : MethodName := ⟨RX6, "mayBreak", "(II)Z"⟩
abbrev cX6_mustBreak : ByteArray := prog_8_method_10_code
def yX6_mustBreak : MethodName := ⟨RX6, "mustBreak", "(I)Z"⟩
abbrev cX6_sumUp : ByteArray := prog_8_method_11_code
def yX6_sumUp : MethodName := ⟨RX6, "sumUp", "()V"⟩
abbrev cX6_cube : ByteArray := prog_8_method_12_code
def yX6_cube : MethodName := ⟨RX6, "cube", "(J)J"⟩
abbrev cX6_isLine : ByteArray := prog_8_method_13_code
def yX6_isLine : MethodName := ⟨RX6, "isLine", "(IIII)Z"⟩
abbrev cX6_index : ByteArray := prog_8_method_14_code
def yX6_index : MethodName := ⟨RX6, "index", "(III)I"⟩
abbrev cX6_search : ByteArray := prog_8_method_15_code
def yX6_search : MethodName := ⟨RX6, "search", "(II)V"⟩
abbrev cX6_goFrom : ByteArray := prog_8_method_16_code
def yX6_goFrom : MethodName := ⟨RX6, "goFrom", "(IIIII)V"⟩
abbrev cX6_keep : ByteArray := prog_8_method_17_code
def yX6_keep : MethodName := ⟨RX6, "keep", "(IJII)V"⟩
abbrev cX6_tell : ByteArray := prog_8_method_18_code
def yX6_tell : MethodName := ⟨RX6, "tell", "(I)V"⟩
abbrev cX6_run : ByteArray := prog_8_method_19_code
def yX6_run : MethodName := ⟨RX6, "run", "()I"⟩
abbrev cX6_loose : ByteArray := prog_8_method_20_code
def yX6_loose : MethodName := ⟨RX6, "loose", "(I)I"⟩
abbrev cX6_lines : ByteArray := prog_8_method_21_code
def yX6_lines : MethodName := ⟨RX6, "lines", "()I"⟩
abbrev cX6_at : ByteArray := prog_8_method_22_code
def yX6_at : MethodName := ⟨RX6, "at", "(I)I"⟩
abbrev cX6_lacks : ByteArray := prog_8_method_23_code
def yX6_lacks : MethodName := ⟨RX6, "lacks", "(I)I"⟩
abbrev cX6_badness : ByteArray := prog_8_method_24_code
def yX6_badness : MethodName := ⟨RX6, "badness", "(I)I"⟩
abbrev cX6_classOf : ByteArray := prog_8_method_25_code
def yX6_classOf : MethodName := ⟨RX6, "classOf", "(I)I"⟩
abbrev cX6_demerits : ByteArray := prog_8_method_26_code
def yX6_demerits : MethodName := ⟨RX6, "demerits", "()J"⟩
abbrev cX6_pass : ByteArray := prog_8_method_27_code
def yX6_pass : MethodName := ⟨RX6, "pass", "()I"⟩
abbrev cX6_clear : ByteArray := prog_8_method_28_code
def yX6_clear : MethodName := ⟨RX6, "clear", "()I"⟩
def RJ9 : String := "java/lang/Math"
def TJ9 : u_T := fun k => match k with
  | _ => ("", "", "", false)
def tyJ9 : Nat → FieldType := fun k => match k with
  | _ => .int
abbrev wsJ90 : List Cond := u_ws RJ9 TJ9 0
theorem nmJ9 : ∀ a, a < 0 → ∀ b, b < 0 → a ≠ b → (TJ9 a).2.1 ≠ (TJ9 b).2.1 := by decide +kernel
theorem tyJ9_ok : ∀ k, k < 0 → parseFieldDescriptor (TJ9 k).2.2.1 = some (tyJ9 k) := by decide +kernel
abbrev cJ9_floorDiv_f86c9 : ByteArray := prog_9_method_49_code
def yJ9_floorDiv_f86c9 : MethodName := ⟨RJ9, "floorDiv", "(JJ)J"⟩
abbrev cJ9_abs_0f7a4 : ByteArray := prog_9_method_59_code
def yJ9_abs_0f7a4 : MethodName := ⟨RJ9, "abs", "(I)I"⟩
abbrev cJ9_min_7cf53 : ByteArray := prog_9_method_69_code
def yJ9_min_7cf53 : MethodName := ⟨RJ9, "min", "(II)I"⟩
abbrev cJ9_min_f86c9 : ByteArray := prog_9_method_70_code
def yJ9_min_f86c9 : MethodName := ⟨RJ9, "min", "(JJ)J"⟩
def RJ7 : String := "java/util/Arrays"
def TJ7 : u_T := fun k => match k with
  | _ => ("", "", "", false)
def tyJ7 : Nat → FieldType := fun k => match k with
  | _ => .int
abbrev wsJ70 : List Cond := u_ws RJ7 TJ7 0
theorem nmJ7 : ∀ a, a < 0 → ∀ b, b < 0 → a ≠ b → (TJ7 a).2.1 ≠ (TJ7 b).2.1 := by decide +kernel
theorem tyJ7_ok : ∀ k, k < 0 → parseFieldDescriptor (TJ7 k).2.2.1 = some (tyJ7 k) := by decide +kernel
abbrev cJ7_fill_53178 : ByteArray := prog_10_method_103_code
def yJ7_fill_53178 : MethodName := ⟨RJ7, "fill", "([II)V"⟩
def RL : String := "BreakSearchLaw"
abbrev cL_cell : ByteArray := method_2_code
def yL_cell : MethodName := ⟨RL, "cell", "([II)I"⟩
abbrev cL_law : ByteArray := code
def yL_law : MethodName := ⟨RL, "law", "([I)Z"⟩
def wsX0_init : List Cond := .code yX0_init cX0_init 1 none :: ([.methodLink RX0 3 objectInit, .instanceMethod objectInit, .code objectInit ⟨#[0xb1]⟩ 1 none, .arrayClass .int, .fieldLink RX0 9 "BreakSearch$Items" "kinds" "[I", .fieldLink RX0 15 "BreakSearch$Items" "values" "[I", .fieldLink RX0 18 "BreakSearch$Items" "penaltyWidths" "[I", .arrayClass .boolean, .fieldLink RX0 21 "BreakSearch$Items" "marks" "[Z", .fieldLink RX0 25 "BreakSearch$Items" "lengthBefore" "[I", .fieldLink RX0 28 "BreakSearch$Items" "stretchBefore" "[I", .fieldLink RX0 31 "BreakSearch$Items" "shrinkBefore" "[I"] ++ wsX00)
def wsX0_append : List Cond := .code yX0_append cX0_append 6 (some .int) :: ([.fieldLink RX0 34 "BreakSearch$Items" "count" "I", .fieldLink RX0 9 "BreakSearch$Items" "kinds" "[I", .fieldLink RX0 25 "BreakSearch$Items" "lengthBefore" "[I", .fieldLink RX0 28 "BreakSearch$Items" "stretchBefore" "[I", .fieldLink RX0 31 "BreakSearch$Items" "shrinkBefore" "[I"] ++ wsX00)
def wsX0_appendPenalty : List Cond := .code yX0_appendPenalty cX0_appendPenalty 5 (some .int) :: ([.fieldLink RX0 15 "BreakSearch$Items" "values" "[I", .fieldLink RX0 18 "BreakSearch$Items" "penaltyWidths" "[I", .fieldLink RX0 21 "BreakSearch$Items" "marks" "[Z", .methodLink RX0 38 yX0_append, .instanceMethod yX0_append, .selects RX0 yX0_append yX0_append, .initialized RX0, .code yX0_append cX0_append 6 (some .int), .fieldLink RX0 34 "BreakSearch$Items" "count" "I", .fieldLink RX0 9 "BreakSearch$Items" "kinds" "[I", .fieldLink RX0 25 "BreakSearch$Items" "lengthBefore" "[I", .fieldLink RX0 28 "BreakSearch$Items" "stretchBefore" "[I", .fieldLink RX0 31 "BreakSearch$Items" "shrinkBefore" "[I"] ++ wsX00)
def wsX0_isEnd : List Cond := .code yX0_isEnd cX0_isEnd 2 (some .boolean) :: ([.fieldLink RX0 34 "BreakSearch$Items" "count" "I"] ++ wsX00)
def wsX0_isKind : List Cond := .code yX0_isKind cX0_isKind 3 (some .boolean) :: ([.fieldLink RX0 34 "BreakSearch$Items" "count" "I", .fieldLink RX0 9 "BreakSearch$Items" "kinds" "[I"] ++ wsX00)
def wsX0_isMarked : List Cond := .code yX0_isMarked cX0_isMarked 2 (some .boolean) :: ([.fieldLink RX0 21 "BreakSearch$Items" "marks" "[Z", .methodLink RX0 42 yX0_isKind, .instanceMethod yX0_isKind, .selects RX0 yX0_isKind yX0_isKind, .initialized RX0, .code yX0_isKind cX0_isKind 3 (some .boolean), .fieldLink RX0 34 "BreakSearch$Items" "count" "I", .fieldLink RX0 9 "BreakSearch$Items" "kinds" "[I"] ++ wsX00)
def wsX0_mayBreakAt : List Cond := .code yX0_mayBreakAt cX0_mayBreakAt 3 (some .boolean) :: ([.fieldLink RX0 15 "BreakSearch$Items" "values" "[I", .fieldLink RX0 21 "BreakSearch$Items" "marks" "[Z", .methodLink RX0 42 yX0_isKind, .instanceMethod yX0_isKind, .selects RX0 yX0_isKind yX0_isKind, .initialized RX0, .code yX0_isKind cX0_isKind 3 (some .boolean), .fieldLink RX0 34 "BreakSearch$Items" "count" "I", .fieldLink RX0 9 "BreakSearch$Items" "kinds" "[I", .methodLink RX0 46 yX0_isEnd, .instanceMethod yX0_isEnd, .selects RX0 yX0_isEnd yX0_isEnd, .code yX0_isEnd cX0_isEnd 2 (some .boolean)] ++ wsX00)
def wsX0_hasToBreakAt : List Cond := .code yX0_hasToBreakAt cX0_hasToBreakAt 2 (some .boolean) :: ([.fieldLink RX0 15 "BreakSearch$Items" "values" "[I", .methodLink RX0 46 yX0_isEnd, .instanceMethod yX0_isEnd, .selects RX0 yX0_isEnd yX0_isEnd, .initialized RX0, .code yX0_isEnd cX0_isEnd 2 (some .boolean), .fieldLink RX0 34 "BreakSearch$Items" "count" "I", .methodLink RX0 42 yX0_isKind, .instanceMethod yX0_isKind, .selects RX0 yX0_isKind yX0_isKind, .code yX0_isKind cX0_isKind 3 (some .boolean), .fieldLink RX0 9 "BreakSearch$Items" "kinds" "[I"] ++ wsX00)
def wsX0_startBehind : List Cond := .code yX0_startBehind cX0_startBehind 3 (some .int) :: ([.fieldLink RX0 34 "BreakSearch$Items" "count" "I", .fieldLink RX0 9 "BreakSearch$Items" "kinds" "[I"] ++ wsX00)
def wsX0_widthEndingAt : List Cond := .code yX0_widthEndingAt cX0_widthEndingAt 2 (some .int) :: ([.fieldLink RX0 18 "BreakSearch$Items" "penaltyWidths" "[I", .methodLink RX0 42 yX0_isKind, .instanceMethod yX0_isKind, .selects RX0 yX0_isKind yX0_isKind, .initialized RX0, .code yX0_isKind cX0_isKind 3 (some .boolean), .fieldLink RX0 34 "BreakSearch$Items" "count" "I", .fieldLink RX0 9 "BreakSearch$Items" "kinds" "[I"] ++ wsX00)
def wsX0_penaltyDemerits : List Cond := .code yX0_penaltyDemerits cX0_penaltyDemerits 4 (some .long) :: ([.fieldLink RX0 15 "BreakSearch$Items" "values" "[I", .methodLink RX0 42 yX0_isKind, .instanceMethod yX0_isKind, .selects RX0 yX0_isKind yX0_isKind, .initialized RX0, .code yX0_isKind cX0_isKind 3 (some .boolean), .fieldLink RX0 34 "BreakSearch$Items" "count" "I", .fieldLink RX0 9 "BreakSearch$Items" "kinds" "[I"] ++ wsX00)
def wsX1_init : List Cond := .code yX1_init cX1_init 1 none :: ([.methodLink RX1 3 objectInit, .instanceMethod objectInit, .code objectInit ⟨#[0xb1]⟩ 1 none])
def wsX1_badnessOf : List Cond := .code yX1_badnessOf cX1_badnessOf 6 (some .int) :: ([.constantLong RX1 65 (100), .constantLong RX1 67 (10000), .methodLink RX1 69 Lib.MathLoose.min_long.x, .static Lib.MathLoose.min_long.x, .initialized "java/lang/Math", .code Lib.MathLoose.min_long.x Lib.MathLoose.min_long.code 4 (some .long)])
def wsX1_settle : List Cond := .code yX1_settle cX1_settle 3 none :: ([.fieldLink RX1 52 "BreakSearch$Line" "stands" "Z", .fieldLink RX1 56 "BreakSearch$Line" "ugliness" "I", .fieldLink RX1 59 "BreakSearch$Line" "looks" "I"] ++ wsX10)
def wsX1_squeeze : List Cond := .code yX1_squeeze cX1_squeeze 3 none :: ([.fieldLink RX1 25 "BreakSearch$Line" "lack" "I", .fieldLink RX1 52 "BreakSearch$Line" "stands" "Z", .methodLink RX1 62 yX1_badnessOf, .static yX1_badnessOf, .initialized RX1, .code yX1_badnessOf cX1_badnessOf 6 (some .int), .constantLong RX1 65 (100), .constantLong RX1 67 (10000), .methodLink RX1 69 Lib.MathLoose.min_long.x, .static Lib.MathLoose.min_long.x, .initialized "java/lang/Math", .code Lib.MathLoose.min_long.x Lib.MathLoose.min_long.code 4 (some .long), .methodLink RX1 42 yX1_settle, .instanceMethod yX1_settle, .selects RX1 yX1_settle yX1_settle, .code yX1_settle cX1_settle 3 none, .fieldLink RX1 56 "BreakSearch$Line" "ugliness" "I", .fieldLink RX1 59 "BreakSearch$Line" "looks" "I"] ++ wsX10)
def wsX1_widen : List Cond := .code yX1_widen cX1_widen 3 none :: ([.fieldLink RX1 25 "BreakSearch$Line" "lack" "I", .methodLink RX1 62 yX1_badnessOf, .static yX1_badnessOf, .initialized RX1, .code yX1_badnessOf cX1_badnessOf 6 (some .int), .constantLong RX1 65 (100), .constantLong RX1 67 (10000), .methodLink RX1 69 Lib.MathLoose.min_long.x, .static Lib.MathLoose.min_long.x, .initialized "java/lang/Math", .code Lib.MathLoose.min_long.x Lib.MathLoose.min_long.code 4 (some .long), .methodLink RX1 42 yX1_settle, .instanceMethod yX1_settle, .selects RX1 yX1_settle yX1_settle, .code yX1_settle cX1_settle 3 none, .fieldLink RX1 52 "BreakSearch$Line" "stands" "Z", .fieldLink RX1 56 "BreakSearch$Line" "ugliness" "I", .fieldLink RX1 59 "BreakSearch$Line" "looks" "I"] ++ wsX10)
def wsX1_measure_r1 : List Cond := [Cond.methodLink RX1 9 Lib.Math.min.name, Cond.static Lib.Math.min.name, Cond.initialized "java/lang/Math", Cond.code Lib.Math.min.name Lib.Math.min.code 2 (some .int), Cond.fieldLink RX1 25 "BreakSearch$Line" "lack" "I", Cond.instanceMethod yX0_widthEndingAt, Cond.initialized RX0, Cond.selects RX0 yX0_widthEndingAt yX0_widthEndingAt, Cond.code yX0_widthEndingAt cX0_widthEndingAt 2 (some .int), Cond.fieldLink RX0 18 "BreakSearch$Items" "penaltyWidths" "[I", Cond.methodLink RX0 42 yX0_isKind, Cond.instanceMethod yX0_isKind, Cond.selects RX0 yX0_isKind yX0_isKind, Cond.code yX0_isKind cX0_isKind 3 (some .boolean), Cond.fieldLink RX0 34 "BreakSearch$Items" "count" "I", Cond.fieldLink RX0 9 "BreakSearch$Items" "kinds" "[I", Cond.methodLink RX1 34 yX1_squeeze, Cond.instanceMethod yX1_squeeze, Cond.selects RX1 yX1_squeeze yX1_squeeze, Cond.initialized RX1, Cond.code yX1_squeeze cX1_squeeze 3 none, Cond.fieldLink RX1 52 "BreakSearch$Line" "stands" "Z", Cond.methodLink RX1 62 yX1_badnessOf, Cond.static yX1_badnessOf]
def wsX1_measure_r2 : List Cond := [Cond.code yX1_badnessOf cX1_badnessOf 6 (some .int), Cond.constantLong RX1 65 (100), Cond.constantLong RX1 67 (10000), Cond.methodLink RX1 69 Lib.MathLoose.min_long.x, Cond.static Lib.MathLoose.min_long.x, Cond.code Lib.MathLoose.min_long.x Lib.MathLoose.min_long.code 4 (some .long), Cond.methodLink RX1 42 yX1_settle, Cond.instanceMethod yX1_settle, Cond.selects RX1 yX1_settle yX1_settle, Cond.code yX1_settle cX1_settle 3 none, Cond.fieldLink RX1 56 "BreakSearch$Line" "ugliness" "I", Cond.fieldLink RX1 59 "BreakSearch$Line" "looks" "I", Cond.instanceMethod yX0_isEnd, Cond.selects RX0 yX0_isEnd yX0_isEnd, Cond.code yX0_isEnd cX0_isEnd 2 (some .boolean), Cond.methodLink RX1 49 yX1_widen, Cond.instanceMethod yX1_widen, Cond.selects RX1 yX1_widen yX1_widen, Cond.code yX1_widen cX1_widen 3 none]
def wsX1_measure : List Cond := .code yX1_measure cX1_measure 8 none :: ((wsX1_measure_r1 ++ wsX1_measure_r2) ++ wsX00 ++ wsX10)
def wsX1_isToleratedBy : List Cond := .code yX1_isToleratedBy cX1_isToleratedBy 2 (some .boolean) :: ([.fieldLink RX1 52 "BreakSearch$Line" "stands" "Z", .fieldLink RX1 56 "BreakSearch$Line" "ugliness" "I"] ++ wsX10)
def wsX1_isUnlike : List Cond := .code yX1_isUnlike cX1_isUnlike 2 (some .boolean) :: ([.methodLink RX1 72 Lib.Math.abs.name, .static Lib.Math.abs.name, .initialized "java/lang/Math", .code Lib.Math.abs.name Lib.Math.abs.code 1 (some .int)])
def wsJ7_fill_53178 : List Cond := .code yJ7_fill_53178 cJ7_fill_53178 4 none :: ([])
def wsX2_init : List Cond := .code yX2_init cX2_init 2 none :: ([.methodLink RX2 3 objectInit, .instanceMethod objectInit, .code objectInit ⟨#[0xb1]⟩ 1 none, .arrayClass .int, .fieldLink RX2 9 "BreakSearch$Rules" "widths" "[I", .fieldLink RX2 15 "BreakSearch$Rules" "settings" "[I", .methodLink RX2 18 yJ7_fill_53178, .static yJ7_fill_53178, .initialized RJ7, .code yJ7_fill_53178 cJ7_fill_53178 4 none] ++ wsX20)
def wsX2_toleranceIn : List Cond := .code yX2_toleranceIn cX2_toleranceIn 2 (some .int) :: ([.fieldLink RX2 15 "BreakSearch$Rules" "settings" "[I"] ++ wsX20)
def wsX2_breaksAtMarksIn : List Cond := .code yX2_breaksAtMarksIn cX2_breaksAtMarksIn 2 (some .boolean) :: ([])
def wsX2_moreStretchIn : List Cond := .code yX2_moreStretchIn cX2_moreStretchIn 2 (some .int) :: ([.fieldLink RX2 15 "BreakSearch$Rules" "settings" "[I"] ++ wsX20)
def wsX3_init : List Cond := .code yX3_init cX3_init 3 none :: ([.methodLink RX3 9 objectInit, .instanceMethod objectInit, .code objectInit ⟨#[0xb1]⟩ 1 none, .classLink RX3 3 RX1, .instantiable RX1 4, .initialized RX1, .fieldLink RX3 16 "BreakSearch$Search" "line" "LBreakSearch$Line;", .arrayClass .long, .fieldLink RX3 20 "BreakSearch$Search" "costs" "[J", .arrayClass .byte, .fieldLink RX3 24 "BreakSearch$Search" "nextBreaks" "[B", .fieldLink RX3 28 "BreakSearch$Search" "items" "LBreakSearch$Items;", .fieldLink RX3 32 "BreakSearch$Search" "rules" "LBreakSearch$Rules;", .instanceMethod yX1_init, .code yX1_init cX1_init 1 none, .methodLink RX1 3 objectInit] ++ wsX10 ++ wsX30)
def wsX3_cellOf : List Cond := .code yX3_cellOf cX3_cellOf 3 (some .int) :: ([])
def wsX3_closeAll : List Cond := .code yX3_closeAll cX3_closeAll 3 none :: ([.fieldLink RX3 28 "BreakSearch$Search" "items" "LBreakSearch$Items;", .fieldLink RX3 20 "BreakSearch$Search" "costs" "[J", .constantLong RX3 70 (9223372036854775807), .methodLink RX3 66 yX3_cellOf, .static yX3_cellOf, .initialized RX3, .code yX3_cellOf cX3_cellOf 3 (some .int)] ++ wsX30 ++ wsX00)
def wsX3_openEnd : List Cond := .code yX3_openEnd cX3_openEnd 6 none :: ([.fieldLink RX3 20 "BreakSearch$Search" "costs" "[J", .fieldLink RX3 28 "BreakSearch$Search" "items" "LBreakSearch$Items;", .methodLink RX3 66 yX3_cellOf, .static yX3_cellOf, .initialized RX3, .code yX3_cellOf cX3_cellOf 3 (some .int)] ++ wsX30 ++ wsX00)
def wsX3_demeritsOfLine : List Cond := .code yX3_demeritsOfLine cX3_demeritsOfLine 7 (some .long) :: ([.constantLong RX3 124 (10), .fieldLink RX3 16 "BreakSearch$Search" "line" "LBreakSearch$Line;", .fieldLink RX3 28 "BreakSearch$Search" "items" "LBreakSearch$Items;", .constantLong RX3 136 (3000), .instanceMethod yX0_penaltyDemerits, .initialized RX0, .selects RX0 yX0_penaltyDemerits yX0_penaltyDemerits, .code yX0_penaltyDemerits cX0_penaltyDemerits 4 (some .long), .fieldLink RX0 15 "BreakSearch$Items" "values" "[I", .methodLink RX0 42 yX0_isKind, .instanceMethod yX0_isKind, .selects RX0 yX0_isKind yX0_isKind, .code yX0_isKind cX0_isKind 3 (some .boolean), .fieldLink RX0 34 "BreakSearch$Items" "count" "I", .fieldLink RX0 9 "BreakSearch$Items" "kinds" "[I", .instanceMethod yX0_isMarked, .selects RX0 yX0_isMarked yX0_isMarked, .code yX0_isMarked cX0_isMarked 2 (some .boolean), .fieldLink RX0 21 "BreakSearch$Items" "marks" "[Z"] ++ wsX30 ++ wsX10 ++ wsX00)
def wsX3_enterLine_r1 : List Cond := [Cond.fieldLink RX3 20 "BreakSearch$Search" "costs" "[J", Cond.fieldLink RX3 16 "BreakSearch$Search" "line" "LBreakSearch$Line;", Cond.constantLong RX3 70 (9223372036854775807), Cond.constantLong RX3 112 (64), Cond.constantLong RX3 122 (128000), Cond.fieldLink RX3 24 "BreakSearch$Search" "nextBreaks" "[B", Cond.methodLink RX3 66 yX3_cellOf, Cond.static yX3_cellOf, Cond.initialized RX3, Cond.code yX3_cellOf cX3_cellOf 3 (some .int), Cond.methodLink RX3 114 yX3_demeritsOfLine, Cond.instanceMethod yX3_demeritsOfLine, Cond.selects RX3 yX3_demeritsOfLine yX3_demeritsOfLine, Cond.code yX3_demeritsOfLine cX3_demeritsOfLine 7 (some .long), Cond.constantLong RX3 124 (10), Cond.fieldLink RX3 28 "BreakSearch$Search" "items" "LBreakSearch$Items;", Cond.constantLong RX3 136 (3000), Cond.instanceMethod yX0_penaltyDemerits, Cond.initialized RX0, Cond.selects RX0 yX0_penaltyDemerits yX0_penaltyDemerits, Cond.code yX0_penaltyDemerits cX0_penaltyDemerits 4 (some .long), Cond.fieldLink RX0 15 "BreakSearch$Items" "values" "[I", Cond.methodLink RX0 42 yX0_isKind, Cond.instanceMethod yX0_isKind]
def wsX3_enterLine_r2 : List Cond := [Cond.selects RX0 yX0_isKind yX0_isKind, Cond.code yX0_isKind cX0_isKind 3 (some .boolean), Cond.fieldLink RX0 34 "BreakSearch$Items" "count" "I", Cond.fieldLink RX0 9 "BreakSearch$Items" "kinds" "[I", Cond.instanceMethod yX0_isMarked, Cond.selects RX0 yX0_isMarked yX0_isMarked, Cond.code yX0_isMarked cX0_isMarked 2 (some .boolean), Cond.fieldLink RX0 21 "BreakSearch$Items" "marks" "[Z", Cond.static yX1_isUnlike, Cond.initialized RX1, Cond.code yX1_isUnlike cX1_isUnlike 2 (some .boolean), Cond.methodLink RX1 72 Lib.Math.abs.name, Cond.static Lib.Math.abs.name, Cond.initialized "java/lang/Math", Cond.code Lib.Math.abs.name Lib.Math.abs.code 1 (some .int)]
def wsX3_enterLine : List Cond := .code yX3_enterLine cX3_enterLine 13 none :: ((wsX3_enterLine_r1 ++ wsX3_enterLine_r2) ++ wsX30 ++ wsX10 ++ wsX00)
def wsX3_tryLine_r1 : List Cond := [Cond.fieldLink RX3 32 "BreakSearch$Search" "rules" "LBreakSearch$Rules;", Cond.fieldLink RX3 36 "BreakSearch$Search" "pass" "I", Cond.methodLink RX3 89 Lib.Math.min.name, Cond.static Lib.Math.min.name, Cond.initialized "java/lang/Math", Cond.code Lib.Math.min.name Lib.Math.min.code 2 (some .int), Cond.fieldLink RX3 16 "BreakSearch$Search" "line" "LBreakSearch$Line;", Cond.fieldLink RX3 28 "BreakSearch$Search" "items" "LBreakSearch$Items;", Cond.instanceMethod yX2_toleranceIn, Cond.initialized RX2, Cond.selects RX2 yX2_toleranceIn yX2_toleranceIn, Cond.code yX2_toleranceIn cX2_toleranceIn 2 (some .int), Cond.fieldLink RX2 15 "BreakSearch$Rules" "settings" "[I", Cond.instanceMethod yX2_moreStretchIn, Cond.selects RX2 yX2_moreStretchIn yX2_moreStretchIn, Cond.code yX2_moreStretchIn cX2_moreStretchIn 2 (some .int), Cond.instanceMethod yX1_measure, Cond.initialized RX1, Cond.selects RX1 yX1_measure yX1_measure, Cond.code yX1_measure cX1_measure 8 none, Cond.methodLink RX1 9 Lib.Math.min.name, Cond.fieldLink RX1 25 "BreakSearch$Line" "lack" "I", Cond.instanceMethod yX0_widthEndingAt, Cond.initialized RX0]
def wsX3_tryLine_r2 : List Cond := [Cond.selects RX0 yX0_widthEndingAt yX0_widthEndingAt, Cond.code yX0_widthEndingAt cX0_widthEndingAt 2 (some .int), Cond.fieldLink RX0 18 "BreakSearch$Items" "penaltyWidths" "[I", Cond.methodLink RX0 42 yX0_isKind, Cond.instanceMethod yX0_isKind, Cond.selects RX0 yX0_isKind yX0_isKind, Cond.code yX0_isKind cX0_isKind 3 (some .boolean), Cond.fieldLink RX0 34 "BreakSearch$Items" "count" "I", Cond.fieldLink RX0 9 "BreakSearch$Items" "kinds" "[I", Cond.methodLink RX1 34 yX1_squeeze, Cond.instanceMethod yX1_squeeze, Cond.selects RX1 yX1_squeeze yX1_squeeze, Cond.code yX1_squeeze cX1_squeeze 3 none, Cond.fieldLink RX1 52 "BreakSearch$Line" "stands" "Z", Cond.methodLink RX1 62 yX1_badnessOf, Cond.static yX1_badnessOf, Cond.code yX1_badnessOf cX1_badnessOf 6 (some .int), Cond.constantLong RX1 65 (100), Cond.constantLong RX1 67 (10000), Cond.methodLink RX1 69 Lib.MathLoose.min_long.x, Cond.static Lib.MathLoose.min_long.x, Cond.code Lib.MathLoose.min_long.x Lib.MathLoose.min_long.code 4 (some .long), Cond.methodLink RX1 42 yX1_settle, Cond.instanceMethod yX1_settle]
def wsX3_tryLine_r3 : List Cond := [Cond.selects RX1 yX1_settle yX1_settle, Cond.code yX1_settle cX1_settle 3 none, Cond.fieldLink RX1 56 "BreakSearch$Line" "ugliness" "I", Cond.fieldLink RX1 59 "BreakSearch$Line" "looks" "I", Cond.instanceMethod yX0_isEnd, Cond.selects RX0 yX0_isEnd yX0_isEnd, Cond.code yX0_isEnd cX0_isEnd 2 (some .boolean), Cond.methodLink RX1 49 yX1_widen, Cond.instanceMethod yX1_widen, Cond.selects RX1 yX1_widen yX1_widen, Cond.code yX1_widen cX1_widen 3 none, Cond.instanceMethod yX1_isToleratedBy, Cond.selects RX1 yX1_isToleratedBy yX1_isToleratedBy, Cond.code yX1_isToleratedBy cX1_isToleratedBy 2 (some .boolean), Cond.methodLink RX3 106 yX3_enterLine, Cond.instanceMethod yX3_enterLine, Cond.selects RX3 yX3_enterLine yX3_enterLine, Cond.initialized RX3, Cond.code yX3_enterLine cX3_enterLine 13 none, Cond.fieldLink RX3 20 "BreakSearch$Search" "costs" "[J", Cond.constantLong RX3 70 (9223372036854775807), Cond.constantLong RX3 112 (64), Cond.constantLong RX3 122 (128000), Cond.fieldLink RX3 24 "BreakSearch$Search" "nextBreaks" "[B"]
def wsX3_tryLine_r4 : List Cond := [Cond.methodLink RX3 66 yX3_cellOf, Cond.static yX3_cellOf, Cond.code yX3_cellOf cX3_cellOf 3 (some .int), Cond.methodLink RX3 114 yX3_demeritsOfLine, Cond.instanceMethod yX3_demeritsOfLine, Cond.selects RX3 yX3_demeritsOfLine yX3_demeritsOfLine, Cond.code yX3_demeritsOfLine cX3_demeritsOfLine 7 (some .long), Cond.constantLong RX3 124 (10), Cond.constantLong RX3 136 (3000), Cond.instanceMethod yX0_penaltyDemerits, Cond.selects RX0 yX0_penaltyDemerits yX0_penaltyDemerits, Cond.code yX0_penaltyDemerits cX0_penaltyDemerits 4 (some .long), Cond.fieldLink RX0 15 "BreakSearch$Items" "values" "[I", Cond.instanceMethod yX0_isMarked, Cond.selects RX0 yX0_isMarked yX0_isMarked, Cond.code yX0_isMarked cX0_isMarked 2 (some .boolean), Cond.fieldLink RX0 21 "BreakSearch$Items" "marks" "[Z", Cond.static yX1_isUnlike, Cond.code yX1_isUnlike cX1_isUnlike 2 (some .boolean), Cond.methodLink RX1 72 Lib.Math.abs.name, Cond.static Lib.Math.abs.name, Cond.code Lib.Math.abs.name Lib.Math.abs.code 1 (some .int)]
def wsX3_tryLine : List Cond := .code yX3_tryLine cX3_tryLine 9 none :: ((wsX3_tryLine_r1 ++ (wsX3_tryLine_r2 ++ (wsX3_tryLine_r3 ++ wsX3_tryLine_r4))) ++ wsX30 ++ wsX20 ++ wsX00 ++ wsX10)
def wsX3_tryLinesBehind_r1 : List Cond := [Cond.fieldLink RX3 28 "BreakSearch$Search" "items" "LBreakSearch$Items;", Cond.instanceMethod yX0_startBehind, Cond.initialized RX0, Cond.selects RX0 yX0_startBehind yX0_startBehind, Cond.code yX0_startBehind cX0_startBehind 3 (some .int), Cond.fieldLink RX0 34 "BreakSearch$Items" "count" "I", Cond.fieldLink RX0 9 "BreakSearch$Items" "kinds" "[I", Cond.instanceMethod yX0_mayBreakAt, Cond.selects RX0 yX0_mayBreakAt yX0_mayBreakAt, Cond.code yX0_mayBreakAt cX0_mayBreakAt 3 (some .boolean), Cond.fieldLink RX0 15 "BreakSearch$Items" "values" "[I", Cond.fieldLink RX0 21 "BreakSearch$Items" "marks" "[Z", Cond.methodLink RX0 42 yX0_isKind, Cond.instanceMethod yX0_isKind, Cond.selects RX0 yX0_isKind yX0_isKind, Cond.code yX0_isKind cX0_isKind 3 (some .boolean), Cond.methodLink RX0 46 yX0_isEnd, Cond.instanceMethod yX0_isEnd, Cond.selects RX0 yX0_isEnd yX0_isEnd, Cond.code yX0_isEnd cX0_isEnd 2 (some .boolean), Cond.methodLink RX3 76 yX3_tryLine, Cond.instanceMethod yX3_tryLine, Cond.selects RX3 yX3_tryLine yX3_tryLine, Cond.initialized RX3]
def wsX3_tryLinesBehind_r2 : List Cond := [Cond.code yX3_tryLine cX3_tryLine 9 none, Cond.fieldLink RX3 32 "BreakSearch$Search" "rules" "LBreakSearch$Rules;", Cond.fieldLink RX3 36 "BreakSearch$Search" "pass" "I", Cond.methodLink RX3 89 Lib.Math.min.name, Cond.static Lib.Math.min.name, Cond.initialized "java/lang/Math", Cond.code Lib.Math.min.name Lib.Math.min.code 2 (some .int), Cond.fieldLink RX3 16 "BreakSearch$Search" "line" "LBreakSearch$Line;", Cond.instanceMethod yX2_toleranceIn, Cond.initialized RX2, Cond.selects RX2 yX2_toleranceIn yX2_toleranceIn, Cond.code yX2_toleranceIn cX2_toleranceIn 2 (some .int), Cond.fieldLink RX2 15 "BreakSearch$Rules" "settings" "[I", Cond.instanceMethod yX2_moreStretchIn, Cond.selects RX2 yX2_moreStretchIn yX2_moreStretchIn, Cond.code yX2_moreStretchIn cX2_moreStretchIn 2 (some .int), Cond.instanceMethod yX1_measure, Cond.initialized RX1, Cond.selects RX1 yX1_measure yX1_measure, Cond.code yX1_measure cX1_measure 8 none, Cond.methodLink RX1 9 Lib.Math.min.name, Cond.fieldLink RX1 25 "BreakSearch$Line" "lack" "I", Cond.instanceMethod yX0_widthEndingAt, Cond.selects RX0 yX0_widthEndingAt yX0_widthEndingAt]
def wsX3_tryLinesBehind_r3 : List Cond := [Cond.code yX0_widthEndingAt cX0_widthEndingAt 2 (some .int), Cond.fieldLink RX0 18 "BreakSearch$Items" "penaltyWidths" "[I", Cond.methodLink RX1 34 yX1_squeeze, Cond.instanceMethod yX1_squeeze, Cond.selects RX1 yX1_squeeze yX1_squeeze, Cond.code yX1_squeeze cX1_squeeze 3 none, Cond.fieldLink RX1 52 "BreakSearch$Line" "stands" "Z", Cond.methodLink RX1 62 yX1_badnessOf, Cond.static yX1_badnessOf, Cond.code yX1_badnessOf cX1_badnessOf 6 (some .int), Cond.constantLong RX1 65 (100), Cond.constantLong RX1 67 (10000), Cond.methodLink RX1 69 Lib.MathLoose.min_long.x, Cond.static Lib.MathLoose.min_long.x, Cond.code Lib.MathLoose.min_long.x Lib.MathLoose.min_long.code 4 (some .long), Cond.methodLink RX1 42 yX1_settle, Cond.instanceMethod yX1_settle, Cond.selects RX1 yX1_settle yX1_settle, Cond.code yX1_settle cX1_settle 3 none, Cond.fieldLink RX1 56 "BreakSearch$Line" "ugliness" "I", Cond.fieldLink RX1 59 "BreakSearch$Line" "looks" "I", Cond.methodLink RX1 49 yX1_widen, Cond.instanceMethod yX1_widen, Cond.selects RX1 yX1_widen yX1_widen]
def wsX3_tryLinesBehind_r4 : List Cond := [Cond.code yX1_widen cX1_widen 3 none, Cond.instanceMethod yX1_isToleratedBy, Cond.selects RX1 yX1_isToleratedBy yX1_isToleratedBy, Cond.code yX1_isToleratedBy cX1_isToleratedBy 2 (some .boolean), Cond.methodLink RX3 106 yX3_enterLine, Cond.instanceMethod yX3_enterLine, Cond.selects RX3 yX3_enterLine yX3_enterLine, Cond.code yX3_enterLine cX3_enterLine 13 none, Cond.fieldLink RX3 20 "BreakSearch$Search" "costs" "[J", Cond.constantLong RX3 70 (9223372036854775807), Cond.constantLong RX3 112 (64), Cond.constantLong RX3 122 (128000), Cond.fieldLink RX3 24 "BreakSearch$Search" "nextBreaks" "[B", Cond.methodLink RX3 66 yX3_cellOf, Cond.static yX3_cellOf, Cond.code yX3_cellOf cX3_cellOf 3 (some .int), Cond.methodLink RX3 114 yX3_demeritsOfLine, Cond.instanceMethod yX3_demeritsOfLine, Cond.selects RX3 yX3_demeritsOfLine yX3_demeritsOfLine, Cond.code yX3_demeritsOfLine cX3_demeritsOfLine 7 (some .long), Cond.constantLong RX3 124 (10), Cond.constantLong RX3 136 (3000), Cond.instanceMethod yX0_penaltyDemerits, Cond.selects RX0 yX0_penaltyDemerits yX0_penaltyDemerits]
def wsX3_tryLinesBehind_r5 : List Cond := [Cond.code yX0_penaltyDemerits cX0_penaltyDemerits 4 (some .long), Cond.instanceMethod yX0_isMarked, Cond.selects RX0 yX0_isMarked yX0_isMarked, Cond.code yX0_isMarked cX0_isMarked 2 (some .boolean), Cond.static yX1_isUnlike, Cond.code yX1_isUnlike cX1_isUnlike 2 (some .boolean), Cond.methodLink RX1 72 Lib.Math.abs.name, Cond.static Lib.Math.abs.name, Cond.code Lib.Math.abs.name Lib.Math.abs.code 1 (some .int), Cond.instanceMethod yX0_hasToBreakAt, Cond.selects RX0 yX0_hasToBreakAt yX0_hasToBreakAt, Cond.code yX0_hasToBreakAt cX0_hasToBreakAt 2 (some .boolean)]
def wsX3_tryLinesBehind : List Cond := .code yX3_tryLinesBehind cX3_tryLinesBehind 5 none :: ((wsX3_tryLinesBehind_r1 ++ (wsX3_tryLinesBehind_r2 ++ (wsX3_tryLinesBehind_r3 ++ (wsX3_tryLinesBehind_r4 ++ wsX3_tryLinesBehind_r5)))) ++ wsX30 ++ wsX00 ++ wsX20 ++ wsX10)
def wsX3_findsWay_r1 : List Cond := [Cond.fieldLink RX3 36 "BreakSearch$Search" "pass" "I", Cond.fieldLink RX3 32 "BreakSearch$Search" "rules" "LBreakSearch$Rules;", Cond.fieldLink RX3 28 "BreakSearch$Search" "items" "LBreakSearch$Items;", Cond.fieldLink RX3 20 "BreakSearch$Search" "costs" "[J", Cond.constantLong RX3 70 (9223372036854775807), Cond.methodLink RX3 40 yX3_closeAll, Cond.instanceMethod yX3_closeAll, Cond.selects RX3 yX3_closeAll yX3_closeAll, Cond.initialized RX3, Cond.code yX3_closeAll cX3_closeAll 3 none, Cond.methodLink RX3 66 yX3_cellOf, Cond.static yX3_cellOf, Cond.code yX3_cellOf cX3_cellOf 3 (some .int), Cond.methodLink RX3 43 yX3_openEnd, Cond.instanceMethod yX3_openEnd, Cond.selects RX3 yX3_openEnd yX3_openEnd, Cond.code yX3_openEnd cX3_openEnd 6 none, Cond.instanceMethod yX2_breaksAtMarksIn, Cond.initialized RX2, Cond.selects RX2 yX2_breaksAtMarksIn yX2_breaksAtMarksIn, Cond.code yX2_breaksAtMarksIn cX2_breaksAtMarksIn 2 (some .boolean), Cond.instanceMethod yX0_mayBreakAt, Cond.initialized RX0, Cond.selects RX0 yX0_mayBreakAt yX0_mayBreakAt]
def wsX3_findsWay_r2 : List Cond := [Cond.code yX0_mayBreakAt cX0_mayBreakAt 3 (some .boolean), Cond.fieldLink RX0 15 "BreakSearch$Items" "values" "[I", Cond.fieldLink RX0 21 "BreakSearch$Items" "marks" "[Z", Cond.methodLink RX0 42 yX0_isKind, Cond.instanceMethod yX0_isKind, Cond.selects RX0 yX0_isKind yX0_isKind, Cond.code yX0_isKind cX0_isKind 3 (some .boolean), Cond.fieldLink RX0 34 "BreakSearch$Items" "count" "I", Cond.fieldLink RX0 9 "BreakSearch$Items" "kinds" "[I", Cond.methodLink RX0 46 yX0_isEnd, Cond.instanceMethod yX0_isEnd, Cond.selects RX0 yX0_isEnd yX0_isEnd, Cond.code yX0_isEnd cX0_isEnd 2 (some .boolean), Cond.methodLink RX3 62 yX3_tryLinesBehind, Cond.instanceMethod yX3_tryLinesBehind, Cond.selects RX3 yX3_tryLinesBehind yX3_tryLinesBehind, Cond.code yX3_tryLinesBehind cX3_tryLinesBehind 5 none, Cond.instanceMethod yX0_startBehind, Cond.selects RX0 yX0_startBehind yX0_startBehind, Cond.code yX0_startBehind cX0_startBehind 3 (some .int), Cond.methodLink RX3 76 yX3_tryLine, Cond.instanceMethod yX3_tryLine, Cond.selects RX3 yX3_tryLine yX3_tryLine, Cond.code yX3_tryLine cX3_tryLine 9 none]
def wsX3_findsWay_r3 : List Cond := [Cond.methodLink RX3 89 Lib.Math.min.name, Cond.static Lib.Math.min.name, Cond.initialized "java/lang/Math", Cond.code Lib.Math.min.name Lib.Math.min.code 2 (some .int), Cond.fieldLink RX3 16 "BreakSearch$Search" "line" "LBreakSearch$Line;", Cond.instanceMethod yX2_toleranceIn, Cond.selects RX2 yX2_toleranceIn yX2_toleranceIn, Cond.code yX2_toleranceIn cX2_toleranceIn 2 (some .int), Cond.fieldLink RX2 15 "BreakSearch$Rules" "settings" "[I", Cond.instanceMethod yX2_moreStretchIn, Cond.selects RX2 yX2_moreStretchIn yX2_moreStretchIn, Cond.code yX2_moreStretchIn cX2_moreStretchIn 2 (some .int), Cond.instanceMethod yX1_measure, Cond.initialized RX1, Cond.selects RX1 yX1_measure yX1_measure, Cond.code yX1_measure cX1_measure 8 none, Cond.methodLink RX1 9 Lib.Math.min.name, Cond.fieldLink RX1 25 "BreakSearch$Line" "lack" "I", Cond.instanceMethod yX0_widthEndingAt, Cond.selects RX0 yX0_widthEndingAt yX0_widthEndingAt, Cond.code yX0_widthEndingAt cX0_widthEndingAt 2 (some .int), Cond.fieldLink RX0 18 "BreakSearch$Items" "penaltyWidths" "[I", Cond.methodLink RX1 34 yX1_squeeze, Cond.instanceMethod yX1_squeeze]
def wsX3_findsWay_r4 : List Cond := [Cond.selects RX1 yX1_squeeze yX1_squeeze, Cond.code yX1_squeeze cX1_squeeze 3 none, Cond.fieldLink RX1 52 "BreakSearch$Line" "stands" "Z", Cond.methodLink RX1 62 yX1_badnessOf, Cond.static yX1_badnessOf, Cond.code yX1_badnessOf cX1_badnessOf 6 (some .int), Cond.constantLong RX1 65 (100), Cond.constantLong RX1 67 (10000), Cond.methodLink RX1 69 Lib.MathLoose.min_long.x, Cond.static Lib.MathLoose.min_long.x, Cond.code Lib.MathLoose.min_long.x Lib.MathLoose.min_long.code 4 (some .long), Cond.methodLink RX1 42 yX1_settle, Cond.instanceMethod yX1_settle, Cond.selects RX1 yX1_settle yX1_settle, Cond.code yX1_settle cX1_settle 3 none, Cond.fieldLink RX1 56 "BreakSearch$Line" "ugliness" "I", Cond.fieldLink RX1 59 "BreakSearch$Line" "looks" "I", Cond.methodLink RX1 49 yX1_widen, Cond.instanceMethod yX1_widen, Cond.selects RX1 yX1_widen yX1_widen, Cond.code yX1_widen cX1_widen 3 none, Cond.instanceMethod yX1_isToleratedBy, Cond.selects RX1 yX1_isToleratedBy yX1_isToleratedBy, Cond.code yX1_isToleratedBy cX1_isToleratedBy 2 (some .boolean)]
def wsX3_findsWay_r5 : List Cond := [Cond.methodLink RX3 106 yX3_enterLine, Cond.instanceMethod yX3_enterLine, Cond.selects RX3 yX3_enterLine yX3_enterLine, Cond.code yX3_enterLine cX3_enterLine 13 none, Cond.constantLong RX3 112 (64), Cond.constantLong RX3 122 (128000), Cond.fieldLink RX3 24 "BreakSearch$Search" "nextBreaks" "[B", Cond.methodLink RX3 114 yX3_demeritsOfLine, Cond.instanceMethod yX3_demeritsOfLine, Cond.selects RX3 yX3_demeritsOfLine yX3_demeritsOfLine, Cond.code yX3_demeritsOfLine cX3_demeritsOfLine 7 (some .long), Cond.constantLong RX3 124 (10), Cond.constantLong RX3 136 (3000), Cond.instanceMethod yX0_penaltyDemerits, Cond.selects RX0 yX0_penaltyDemerits yX0_penaltyDemerits, Cond.code yX0_penaltyDemerits cX0_penaltyDemerits 4 (some .long), Cond.instanceMethod yX0_isMarked, Cond.selects RX0 yX0_isMarked yX0_isMarked, Cond.code yX0_isMarked cX0_isMarked 2 (some .boolean), Cond.static yX1_isUnlike, Cond.code yX1_isUnlike cX1_isUnlike 2 (some .boolean), Cond.methodLink RX1 72 Lib.Math.abs.name, Cond.static Lib.Math.abs.name, Cond.code Lib.Math.abs.name Lib.Math.abs.code 1 (some .int)]
def wsX3_findsWay_r6 : List Cond := [Cond.instanceMethod yX0_hasToBreakAt, Cond.selects RX0 yX0_hasToBreakAt yX0_hasToBreakAt, Cond.code yX0_hasToBreakAt cX0_hasToBreakAt 2 (some .boolean)]
def wsX3_findsWay : List Cond := .code yX3_findsWay cX3_findsWay 5 (some .boolean) :: ((wsX3_findsWay_r1 ++ (wsX3_findsWay_r2 ++ (wsX3_findsWay_r3 ++ (wsX3_findsWay_r4 ++ (wsX3_findsWay_r5 ++ wsX3_findsWay_r6))))) ++ wsX30 ++ wsX00 ++ wsX20 ++ wsX10)
def wsX4_forget : List Cond := .code yX4_forget cX4_forget 1 none :: ([.fieldLink RX4 24 "BreakSearch$Way" "count" "I", .fieldLink RX4 28 "BreakSearch$Way" "pass" "I", .fieldLink RX4 31 "BreakSearch$Way" "demerits" "J"] ++ wsX40)
def wsJ9_floorDiv_f86c9 : List Cond := .code yJ9_floorDiv_f86c9 cJ9_floorDiv_f86c9 6 (some .long) :: ([])
def wsX4_append : List Cond := .code yX4_append cX4_append 3 none :: ([.fieldLink RX4 24 "BreakSearch$Way" "count" "I", .fieldLink RX4 9 "BreakSearch$Way" "ends" "[I", .fieldLink RX4 15 "BreakSearch$Way" "lacks" "[I", .fieldLink RX4 18 "BreakSearch$Way" "badnesses" "[I", .fieldLink RX4 21 "BreakSearch$Way" "classes" "[I"] ++ wsX40 ++ wsX10)
def wsX3_tell_r1 : List Cond := [Cond.fieldLink RX3 36 "BreakSearch$Search" "pass" "I", Cond.fieldLink RX3 20 "BreakSearch$Search" "costs" "[J", Cond.constantLong RX3 112 (64), Cond.fieldLink RX3 28 "BreakSearch$Search" "items" "LBreakSearch$Items;", Cond.fieldLink RX3 24 "BreakSearch$Search" "nextBreaks" "[B", Cond.fieldLink RX3 16 "BreakSearch$Search" "line" "LBreakSearch$Line;", Cond.fieldLink RX3 32 "BreakSearch$Search" "rules" "LBreakSearch$Rules;", Cond.instanceMethod yX4_forget, Cond.initialized RX4, Cond.selects RX4 yX4_forget yX4_forget, Cond.code yX4_forget cX4_forget 1 none, Cond.fieldLink RX4 24 "BreakSearch$Way" "count" "I", Cond.fieldLink RX4 28 "BreakSearch$Way" "pass" "I", Cond.fieldLink RX4 31 "BreakSearch$Way" "demerits" "J", Cond.methodLink RX3 66 yX3_cellOf, Cond.static yX3_cellOf, Cond.initialized RX3, Cond.code yX3_cellOf cX3_cellOf 3 (some .int), Cond.methodLink RX3 144 yJ9_floorDiv_f86c9, Cond.static yJ9_floorDiv_f86c9, Cond.initialized RJ9, Cond.code yJ9_floorDiv_f86c9 cJ9_floorDiv_f86c9 6 (some .long), Cond.instanceMethod yX0_startBehind, Cond.initialized RX0]
def wsX3_tell_r2 : List Cond := [Cond.selects RX0 yX0_startBehind yX0_startBehind, Cond.code yX0_startBehind cX0_startBehind 3 (some .int), Cond.fieldLink RX0 34 "BreakSearch$Items" "count" "I", Cond.fieldLink RX0 9 "BreakSearch$Items" "kinds" "[I", Cond.instanceMethod yX2_moreStretchIn, Cond.initialized RX2, Cond.selects RX2 yX2_moreStretchIn yX2_moreStretchIn, Cond.code yX2_moreStretchIn cX2_moreStretchIn 2 (some .int), Cond.fieldLink RX2 15 "BreakSearch$Rules" "settings" "[I", Cond.instanceMethod yX1_measure, Cond.initialized RX1, Cond.selects RX1 yX1_measure yX1_measure, Cond.code yX1_measure cX1_measure 8 none, Cond.methodLink RX1 9 Lib.Math.min.name, Cond.static Lib.Math.min.name, Cond.initialized "java/lang/Math", Cond.code Lib.Math.min.name Lib.Math.min.code 2 (some .int), Cond.fieldLink RX1 25 "BreakSearch$Line" "lack" "I", Cond.instanceMethod yX0_widthEndingAt, Cond.selects RX0 yX0_widthEndingAt yX0_widthEndingAt, Cond.code yX0_widthEndingAt cX0_widthEndingAt 2 (some .int), Cond.fieldLink RX0 18 "BreakSearch$Items" "penaltyWidths" "[I", Cond.methodLink RX0 42 yX0_isKind, Cond.instanceMethod yX0_isKind]
def wsX3_tell_r3 : List Cond := [Cond.selects RX0 yX0_isKind yX0_isKind, Cond.code yX0_isKind cX0_isKind 3 (some .boolean), Cond.methodLink RX1 34 yX1_squeeze, Cond.instanceMethod yX1_squeeze, Cond.selects RX1 yX1_squeeze yX1_squeeze, Cond.code yX1_squeeze cX1_squeeze 3 none, Cond.fieldLink RX1 52 "BreakSearch$Line" "stands" "Z", Cond.methodLink RX1 62 yX1_badnessOf, Cond.static yX1_badnessOf, Cond.code yX1_badnessOf cX1_badnessOf 6 (some .int), Cond.constantLong RX1 65 (100), Cond.constantLong RX1 67 (10000), Cond.methodLink RX1 69 Lib.MathLoose.min_long.x, Cond.static Lib.MathLoose.min_long.x, Cond.code Lib.MathLoose.min_long.x Lib.MathLoose.min_long.code 4 (some .long), Cond.methodLink RX1 42 yX1_settle, Cond.instanceMethod yX1_settle, Cond.selects RX1 yX1_settle yX1_settle, Cond.code yX1_settle cX1_settle 3 none, Cond.fieldLink RX1 56 "BreakSearch$Line" "ugliness" "I", Cond.fieldLink RX1 59 "BreakSearch$Line" "looks" "I", Cond.instanceMethod yX0_isEnd, Cond.selects RX0 yX0_isEnd yX0_isEnd, Cond.code yX0_isEnd cX0_isEnd 2 (some .boolean)]
def wsX3_tell_r4 : List Cond := [Cond.methodLink RX1 49 yX1_widen, Cond.instanceMethod yX1_widen, Cond.selects RX1 yX1_widen yX1_widen, Cond.code yX1_widen cX1_widen 3 none, Cond.instanceMethod yX4_append, Cond.selects RX4 yX4_append yX4_append, Cond.code yX4_append cX4_append 3 none, Cond.fieldLink RX4 9 "BreakSearch$Way" "ends" "[I", Cond.fieldLink RX4 15 "BreakSearch$Way" "lacks" "[I", Cond.fieldLink RX4 18 "BreakSearch$Way" "badnesses" "[I", Cond.fieldLink RX4 21 "BreakSearch$Way" "classes" "[I"]
def wsX3_tell : List Cond := .code yX3_tell cX3_tell 6 none :: ((wsX3_tell_r1 ++ (wsX3_tell_r2 ++ (wsX3_tell_r3 ++ wsX3_tell_r4))) ++ wsX30 ++ wsX40 ++ wsX00 ++ wsX20 ++ wsX10)
def wsX4_init : List Cond := .code yX4_init cX4_init 1 none :: ([.methodLink RX4 3 objectInit, .instanceMethod objectInit, .code objectInit ⟨#[0xb1]⟩ 1 none, .arrayClass .int, .fieldLink RX4 9 "BreakSearch$Way" "ends" "[I", .fieldLink RX4 15 "BreakSearch$Way" "lacks" "[I", .fieldLink RX4 18 "BreakSearch$Way" "badnesses" "[I", .fieldLink RX4 21 "BreakSearch$Way" "classes" "[I"] ++ wsX40)
def wsX4_hasLine : List Cond := .code yX4_hasLine cX4_hasLine 2 (some .boolean) :: ([.fieldLink RX4 24 "BreakSearch$Way" "count" "I"] ++ wsX40)
def wsX5_init_r1 : List Cond := [Cond.methodLink RX5 1 objectInit, Cond.instanceMethod objectInit, Cond.code objectInit ⟨#[0xb1]⟩ 1 none, Cond.classLink RX5 7 RX0, Cond.instantiable RX0 8, Cond.initialized RX0, Cond.fieldLink RX5 10 "BreakSearch" "items" "LBreakSearch$Items;", Cond.classLink RX5 16 RX2, Cond.instantiable RX2 2, Cond.initialized RX2, Cond.fieldLink RX5 21 "BreakSearch" "rules" "LBreakSearch$Rules;", Cond.classLink RX5 25 RX3, Cond.instantiable RX3 6, Cond.initialized RX3, Cond.fieldLink RX5 30 "BreakSearch" "search" "LBreakSearch$Search;", Cond.classLink RX5 34 RX4, Cond.instantiable RX4 7, Cond.initialized RX4, Cond.fieldLink RX5 37 "BreakSearch" "told" "LBreakSearch$Way;", Cond.instanceMethod yX0_init, Cond.code yX0_init cX0_init 1 none, Cond.methodLink RX0 3 objectInit, Cond.arrayClass .int, Cond.fieldLink RX0 9 "BreakSearch$Items" "kinds" "[I"]
def wsX5_init_r2 : List Cond := [Cond.fieldLink RX0 15 "BreakSearch$Items" "values" "[I", Cond.fieldLink RX0 18 "BreakSearch$Items" "penaltyWidths" "[I", Cond.arrayClass .boolean, Cond.fieldLink RX0 21 "BreakSearch$Items" "marks" "[Z", Cond.fieldLink RX0 25 "BreakSearch$Items" "lengthBefore" "[I", Cond.fieldLink RX0 28 "BreakSearch$Items" "stretchBefore" "[I", Cond.fieldLink RX0 31 "BreakSearch$Items" "shrinkBefore" "[I", Cond.instanceMethod yX2_init, Cond.code yX2_init cX2_init 2 none, Cond.methodLink RX2 3 objectInit, Cond.fieldLink RX2 9 "BreakSearch$Rules" "widths" "[I", Cond.fieldLink RX2 15 "BreakSearch$Rules" "settings" "[I", Cond.methodLink RX2 18 yJ7_fill_53178, Cond.static yJ7_fill_53178, Cond.initialized RJ7, Cond.code yJ7_fill_53178 cJ7_fill_53178 4 none, Cond.instanceMethod yX3_init, Cond.code yX3_init cX3_init 3 none, Cond.methodLink RX3 9 objectInit, Cond.classLink RX3 3 RX1, Cond.instantiable RX1 4, Cond.initialized RX1, Cond.fieldLink RX3 16 "BreakSearch$Search" "line" "LBreakSearch$Line;", Cond.arrayClass .long]
def wsX5_init_r3 : List Cond := [Cond.fieldLink RX3 20 "BreakSearch$Search" "costs" "[J", Cond.arrayClass .byte, Cond.fieldLink RX3 24 "BreakSearch$Search" "nextBreaks" "[B", Cond.fieldLink RX3 28 "BreakSearch$Search" "items" "LBreakSearch$Items;", Cond.fieldLink RX3 32 "BreakSearch$Search" "rules" "LBreakSearch$Rules;", Cond.instanceMethod yX1_init, Cond.code yX1_init cX1_init 1 none, Cond.methodLink RX1 3 objectInit, Cond.instanceMethod yX4_init, Cond.code yX4_init cX4_init 1 none, Cond.methodLink RX4 3 objectInit, Cond.fieldLink RX4 9 "BreakSearch$Way" "ends" "[I", Cond.fieldLink RX4 15 "BreakSearch$Way" "lacks" "[I", Cond.fieldLink RX4 18 "BreakSearch$Way" "badnesses" "[I", Cond.fieldLink RX4 21 "BreakSearch$Way" "classes" "[I"]
def wsX5_init : List Cond := .code yX5_init cX5_init 2 none :: ((wsX5_init_r1 ++ (wsX5_init_r2 ++ wsX5_init_r3)) ++ wsX00 ++ wsX50 ++ wsX20 ++ wsX30 ++ wsX40 ++ wsX10)
def wsX5_isWithin : List Cond := .code yX5_isWithin cX5_isWithin 3 (some .boolean) :: ([])
def wsX5_box : List Cond := .code yX5_box cX5_box 2 (some .int) :: ([.fieldLink RX5 10 "BreakSearch" "items" "LBreakSearch$Items;", .methodLink RX5 41 yX5_isWithin, .static yX5_isWithin, .initialized RX5, .code yX5_isWithin cX5_isWithin 3 (some .boolean), .instanceMethod yX0_append, .initialized RX0, .selects RX0 yX0_append yX0_append, .code yX0_append cX0_append 6 (some .int), .fieldLink RX0 34 "BreakSearch$Items" "count" "I", .fieldLink RX0 9 "BreakSearch$Items" "kinds" "[I", .fieldLink RX0 25 "BreakSearch$Items" "lengthBefore" "[I", .fieldLink RX0 28 "BreakSearch$Items" "stretchBefore" "[I", .fieldLink RX0 31 "BreakSearch$Items" "shrinkBefore" "[I"] ++ wsX50 ++ wsX00)
def wsX5_glue : List Cond := .code yX5_glue cX5_glue 4 (some .int) :: ([.fieldLink RX5 10 "BreakSearch" "items" "LBreakSearch$Items;", .methodLink RX5 41 yX5_isWithin, .static yX5_isWithin, .initialized RX5, .code yX5_isWithin cX5_isWithin 3 (some .boolean), .instanceMethod yX0_append, .initialized RX0, .selects RX0 yX0_append yX0_append, .code yX0_append cX0_append 6 (some .int), .fieldLink RX0 34 "BreakSearch$Items" "count" "I", .fieldLink RX0 9 "BreakSearch$Items" "kinds" "[I", .fieldLink RX0 25 "BreakSearch$Items" "lengthBefore" "[I", .fieldLink RX0 28 "BreakSearch$Items" "stretchBefore" "[I", .fieldLink RX0 31 "BreakSearch$Items" "shrinkBefore" "[I"] ++ wsX50 ++ wsX00)
def wsX5_penalty : List Cond := .code yX5_penalty cX5_penalty 4 (some .int) :: ([.fieldLink RX5 10 "BreakSearch" "items" "LBreakSearch$Items;", .methodLink RX5 41 yX5_isWithin, .static yX5_isWithin, .initialized RX5, .code yX5_isWithin cX5_isWithin 3 (some .boolean), .instanceMethod yX0_appendPenalty, .initialized RX0, .selects RX0 yX0_appendPenalty yX0_appendPenalty, .code yX0_appendPenalty cX0_appendPenalty 5 (some .int), .fieldLink RX0 15 "BreakSearch$Items" "values" "[I", .fieldLink RX0 18 "BreakSearch$Items" "penaltyWidths" "[I", .fieldLink RX0 21 "BreakSearch$Items" "marks" "[Z", .methodLink RX0 38 yX0_append, .instanceMethod yX0_append, .selects RX0 yX0_append yX0_append, .code yX0_append cX0_append 6 (some .int), .fieldLink RX0 34 "BreakSearch$Items" "count" "I", .fieldLink RX0 9 "BreakSearch$Items" "kinds" "[I", .fieldLink RX0 25 "BreakSearch$Items" "lengthBefore" "[I", .fieldLink RX0 28 "BreakSearch$Items" "stretchBefore" "[I", .fieldLink RX0 31 "BreakSearch$Items" "shrinkBefore" "[I"] ++ wsX50 ++ wsX00)
def wsX5_shape : List Cond := .code yX5_shape cX5_shape 3 (some .int) :: ([.fieldLink RX5 21 "BreakSearch" "rules" "LBreakSearch$Rules;", .methodLink RX5 41 yX5_isWithin, .static yX5_isWithin, .initialized RX5, .code yX5_isWithin cX5_isWithin 3 (some .boolean)] ++ wsX50 ++ wsX20)
def wsX5_setting : List Cond := .code yX5_setting cX5_setting 4 (some .int) :: ([.fieldLink RX5 21 "BreakSearch" "rules" "LBreakSearch$Rules;", .methodLink RX5 41 yX5_isWithin, .static yX5_isWithin, .initialized RX5, .code yX5_isWithin cX5_isWithin 3 (some .boolean)] ++ wsX50 ++ wsX20)
def wsX5_run_r1 : List Cond := [Cond.fieldLink RX5 37 "BreakSearch" "told" "LBreakSearch$Way;", Cond.fieldLink RX5 30 "BreakSearch" "search" "LBreakSearch$Search;", Cond.instanceMethod yX4_forget, Cond.initialized RX4, Cond.selects RX4 yX4_forget yX4_forget, Cond.code yX4_forget cX4_forget 1 none, Cond.fieldLink RX4 24 "BreakSearch$Way" "count" "I", Cond.fieldLink RX4 28 "BreakSearch$Way" "pass" "I", Cond.fieldLink RX4 31 "BreakSearch$Way" "demerits" "J", Cond.instanceMethod yX3_findsWay, Cond.initialized RX3, Cond.selects RX3 yX3_findsWay yX3_findsWay, Cond.code yX3_findsWay cX3_findsWay 5 (some .boolean), Cond.fieldLink RX3 36 "BreakSearch$Search" "pass" "I", Cond.fieldLink RX3 32 "BreakSearch$Search" "rules" "LBreakSearch$Rules;", Cond.fieldLink RX3 28 "BreakSearch$Search" "items" "LBreakSearch$Items;", Cond.fieldLink RX3 20 "BreakSearch$Search" "costs" "[J", Cond.constantLong RX3 70 (9223372036854775807), Cond.methodLink RX3 40 yX3_closeAll, Cond.instanceMethod yX3_closeAll, Cond.selects RX3 yX3_closeAll yX3_closeAll, Cond.code yX3_closeAll cX3_closeAll 3 none, Cond.methodLink RX3 66 yX3_cellOf, Cond.static yX3_cellOf]
def wsX5_run_r2 : List Cond := [Cond.code yX3_cellOf cX3_cellOf 3 (some .int), Cond.methodLink RX3 43 yX3_openEnd, Cond.instanceMethod yX3_openEnd, Cond.selects RX3 yX3_openEnd yX3_openEnd, Cond.code yX3_openEnd cX3_openEnd 6 none, Cond.instanceMethod yX2_breaksAtMarksIn, Cond.initialized RX2, Cond.selects RX2 yX2_breaksAtMarksIn yX2_breaksAtMarksIn, Cond.code yX2_breaksAtMarksIn cX2_breaksAtMarksIn 2 (some .boolean), Cond.instanceMethod yX0_mayBreakAt, Cond.initialized RX0, Cond.selects RX0 yX0_mayBreakAt yX0_mayBreakAt, Cond.code yX0_mayBreakAt cX0_mayBreakAt 3 (some .boolean), Cond.fieldLink RX0 15 "BreakSearch$Items" "values" "[I", Cond.fieldLink RX0 21 "BreakSearch$Items" "marks" "[Z", Cond.methodLink RX0 42 yX0_isKind, Cond.instanceMethod yX0_isKind, Cond.selects RX0 yX0_isKind yX0_isKind, Cond.code yX0_isKind cX0_isKind 3 (some .boolean), Cond.fieldLink RX0 34 "BreakSearch$Items" "count" "I", Cond.fieldLink RX0 9 "BreakSearch$Items" "kinds" "[I", Cond.methodLink RX0 46 yX0_isEnd, Cond.instanceMethod yX0_isEnd, Cond.selects RX0 yX0_isEnd yX0_isEnd]
def wsX5_run_r3 : List Cond := [Cond.code yX0_isEnd cX0_isEnd 2 (some .boolean), Cond.methodLink RX3 62 yX3_tryLinesBehind, Cond.instanceMethod yX3_tryLinesBehind, Cond.selects RX3 yX3_tryLinesBehind yX3_tryLinesBehind, Cond.code yX3_tryLinesBehind cX3_tryLinesBehind 5 none, Cond.instanceMethod yX0_startBehind, Cond.selects RX0 yX0_startBehind yX0_startBehind, Cond.code yX0_startBehind cX0_startBehind 3 (some .int), Cond.methodLink RX3 76 yX3_tryLine, Cond.instanceMethod yX3_tryLine, Cond.selects RX3 yX3_tryLine yX3_tryLine, Cond.code yX3_tryLine cX3_tryLine 9 none, Cond.methodLink RX3 89 Lib.Math.min.name, Cond.static Lib.Math.min.name, Cond.initialized "java/lang/Math", Cond.code Lib.Math.min.name Lib.Math.min.code 2 (some .int), Cond.fieldLink RX3 16 "BreakSearch$Search" "line" "LBreakSearch$Line;", Cond.instanceMethod yX2_toleranceIn, Cond.selects RX2 yX2_toleranceIn yX2_toleranceIn, Cond.code yX2_toleranceIn cX2_toleranceIn 2 (some .int), Cond.fieldLink RX2 15 "BreakSearch$Rules" "settings" "[I", Cond.instanceMethod yX2_moreStretchIn, Cond.selects RX2 yX2_moreStretchIn yX2_moreStretchIn, Cond.code yX2_moreStretchIn cX2_moreStretchIn 2 (some .int)]
def wsX5_run_r4 : List Cond := [Cond.instanceMethod yX1_measure, Cond.initialized RX1, Cond.selects RX1 yX1_measure yX1_measure, Cond.code yX1_measure cX1_measure 8 none, Cond.methodLink RX1 9 Lib.Math.min.name, Cond.fieldLink RX1 25 "BreakSearch$Line" "lack" "I", Cond.instanceMethod yX0_widthEndingAt, Cond.selects RX0 yX0_widthEndingAt yX0_widthEndingAt, Cond.code yX0_widthEndingAt cX0_widthEndingAt 2 (some .int), Cond.fieldLink RX0 18 "BreakSearch$Items" "penaltyWidths" "[I", Cond.methodLink RX1 34 yX1_squeeze, Cond.instanceMethod yX1_squeeze, Cond.selects RX1 yX1_squeeze yX1_squeeze, Cond.code yX1_squeeze cX1_squeeze 3 none, Cond.fieldLink RX1 52 "BreakSearch$Line" "stands" "Z", Cond.methodLink RX1 62 yX1_badnessOf, Cond.static yX1_badnessOf, Cond.code yX1_badnessOf cX1_badnessOf 6 (some .int), Cond.constantLong RX1 65 (100), Cond.constantLong RX1 67 (10000), Cond.methodLink RX1 69 Lib.MathLoose.min_long.x, Cond.static Lib.MathLoose.min_long.x, Cond.code Lib.MathLoose.min_long.x Lib.MathLoose.min_long.code 4 (some .long), Cond.methodLink RX1 42 yX1_settle]
def wsX5_run_r5 : List Cond := [Cond.instanceMethod yX1_settle, Cond.selects RX1 yX1_settle yX1_settle, Cond.code yX1_settle cX1_settle 3 none, Cond.fieldLink RX1 56 "BreakSearch$Line" "ugliness" "I", Cond.fieldLink RX1 59 "BreakSearch$Line" "looks" "I", Cond.methodLink RX1 49 yX1_widen, Cond.instanceMethod yX1_widen, Cond.selects RX1 yX1_widen yX1_widen, Cond.code yX1_widen cX1_widen 3 none, Cond.instanceMethod yX1_isToleratedBy, Cond.selects RX1 yX1_isToleratedBy yX1_isToleratedBy, Cond.code yX1_isToleratedBy cX1_isToleratedBy 2 (some .boolean), Cond.methodLink RX3 106 yX3_enterLine, Cond.instanceMethod yX3_enterLine, Cond.selects RX3 yX3_enterLine yX3_enterLine, Cond.code yX3_enterLine cX3_enterLine 13 none, Cond.constantLong RX3 112 (64), Cond.constantLong RX3 122 (128000), Cond.fieldLink RX3 24 "BreakSearch$Search" "nextBreaks" "[B", Cond.methodLink RX3 114 yX3_demeritsOfLine, Cond.instanceMethod yX3_demeritsOfLine, Cond.selects RX3 yX3_demeritsOfLine yX3_demeritsOfLine, Cond.code yX3_demeritsOfLine cX3_demeritsOfLine 7 (some .long), Cond.constantLong RX3 124 (10)]
def wsX5_run_r6 : List Cond := [Cond.constantLong RX3 136 (3000), Cond.instanceMethod yX0_penaltyDemerits, Cond.selects RX0 yX0_penaltyDemerits yX0_penaltyDemerits, Cond.code yX0_penaltyDemerits cX0_penaltyDemerits 4 (some .long), Cond.instanceMethod yX0_isMarked, Cond.selects RX0 yX0_isMarked yX0_isMarked, Cond.code yX0_isMarked cX0_isMarked 2 (some .boolean), Cond.static yX1_isUnlike, Cond.code yX1_isUnlike cX1_isUnlike 2 (some .boolean), Cond.methodLink RX1 72 Lib.Math.abs.name, Cond.static Lib.Math.abs.name, Cond.code Lib.Math.abs.name Lib.Math.abs.code 1 (some .int), Cond.instanceMethod yX0_hasToBreakAt, Cond.selects RX0 yX0_hasToBreakAt yX0_hasToBreakAt, Cond.code yX0_hasToBreakAt cX0_hasToBreakAt 2 (some .boolean), Cond.instanceMethod yX3_tell, Cond.selects RX3 yX3_tell yX3_tell, Cond.code yX3_tell cX3_tell 6 none, Cond.methodLink RX3 144 yJ9_floorDiv_f86c9, Cond.static yJ9_floorDiv_f86c9, Cond.initialized RJ9, Cond.code yJ9_floorDiv_f86c9 cJ9_floorDiv_f86c9 6 (some .long), Cond.instanceMethod yX4_append, Cond.selects RX4 yX4_append yX4_append]
def wsX5_run_r7 : List Cond := [Cond.code yX4_append cX4_append 3 none, Cond.fieldLink RX4 9 "BreakSearch$Way" "ends" "[I", Cond.fieldLink RX4 15 "BreakSearch$Way" "lacks" "[I", Cond.fieldLink RX4 18 "BreakSearch$Way" "badnesses" "[I", Cond.fieldLink RX4 21 "BreakSearch$Way" "classes" "[I"]
def wsX5_run : List Cond := .code yX5_run cX5_run 2 (some .int) :: ((wsX5_run_r1 ++ (wsX5_run_r2 ++ (wsX5_run_r3 ++ (wsX5_run_r4 ++ (wsX5_run_r5 ++ (wsX5_run_r6 ++ wsX5_run_r7)))))) ++ wsX50 ++ wsX40 ++ wsX30 ++ wsX00 ++ wsX20 ++ wsX10)
def wsX5_loose_r1 : List Cond := [Cond.fieldLink RX5 37 "BreakSearch" "told" "LBreakSearch$Way;", Cond.fieldLink RX5 30 "BreakSearch" "search" "LBreakSearch$Search;", Cond.methodLink RX5 41 yX5_isWithin, Cond.static yX5_isWithin, Cond.initialized RX5, Cond.code yX5_isWithin cX5_isWithin 3 (some .boolean), Cond.instanceMethod yX3_findsWay, Cond.initialized RX3, Cond.selects RX3 yX3_findsWay yX3_findsWay, Cond.code yX3_findsWay cX3_findsWay 5 (some .boolean), Cond.fieldLink RX3 36 "BreakSearch$Search" "pass" "I", Cond.fieldLink RX3 32 "BreakSearch$Search" "rules" "LBreakSearch$Rules;", Cond.fieldLink RX3 28 "BreakSearch$Search" "items" "LBreakSearch$Items;", Cond.fieldLink RX3 20 "BreakSearch$Search" "costs" "[J", Cond.constantLong RX3 70 (9223372036854775807), Cond.methodLink RX3 40 yX3_closeAll, Cond.instanceMethod yX3_closeAll, Cond.selects RX3 yX3_closeAll yX3_closeAll, Cond.code yX3_closeAll cX3_closeAll 3 none, Cond.methodLink RX3 66 yX3_cellOf, Cond.static yX3_cellOf, Cond.code yX3_cellOf cX3_cellOf 3 (some .int), Cond.methodLink RX3 43 yX3_openEnd, Cond.instanceMethod yX3_openEnd]
def wsX5_loose_r2 : List Cond := [Cond.selects RX3 yX3_openEnd yX3_openEnd, Cond.code yX3_openEnd cX3_openEnd 6 none, Cond.instanceMethod yX2_breaksAtMarksIn, Cond.initialized RX2, Cond.selects RX2 yX2_breaksAtMarksIn yX2_breaksAtMarksIn, Cond.code yX2_breaksAtMarksIn cX2_breaksAtMarksIn 2 (some .boolean), Cond.instanceMethod yX0_mayBreakAt, Cond.initialized RX0, Cond.selects RX0 yX0_mayBreakAt yX0_mayBreakAt, Cond.code yX0_mayBreakAt cX0_mayBreakAt 3 (some .boolean), Cond.fieldLink RX0 15 "BreakSearch$Items" "values" "[I", Cond.fieldLink RX0 21 "BreakSearch$Items" "marks" "[Z", Cond.methodLink RX0 42 yX0_isKind, Cond.instanceMethod yX0_isKind, Cond.selects RX0 yX0_isKind yX0_isKind, Cond.code yX0_isKind cX0_isKind 3 (some .boolean), Cond.fieldLink RX0 34 "BreakSearch$Items" "count" "I", Cond.fieldLink RX0 9 "BreakSearch$Items" "kinds" "[I", Cond.methodLink RX0 46 yX0_isEnd, Cond.instanceMethod yX0_isEnd, Cond.selects RX0 yX0_isEnd yX0_isEnd, Cond.code yX0_isEnd cX0_isEnd 2 (some .boolean), Cond.methodLink RX3 62 yX3_tryLinesBehind, Cond.instanceMethod yX3_tryLinesBehind]
def wsX5_loose_r3 : List Cond := [Cond.selects RX3 yX3_tryLinesBehind yX3_tryLinesBehind, Cond.code yX3_tryLinesBehind cX3_tryLinesBehind 5 none, Cond.instanceMethod yX0_startBehind, Cond.selects RX0 yX0_startBehind yX0_startBehind, Cond.code yX0_startBehind cX0_startBehind 3 (some .int), Cond.methodLink RX3 76 yX3_tryLine, Cond.instanceMethod yX3_tryLine, Cond.selects RX3 yX3_tryLine yX3_tryLine, Cond.code yX3_tryLine cX3_tryLine 9 none, Cond.methodLink RX3 89 Lib.Math.min.name, Cond.static Lib.Math.min.name, Cond.initialized "java/lang/Math", Cond.code Lib.Math.min.name Lib.Math.min.code 2 (some .int), Cond.fieldLink RX3 16 "BreakSearch$Search" "line" "LBreakSearch$Line;", Cond.instanceMethod yX2_toleranceIn, Cond.selects RX2 yX2_toleranceIn yX2_toleranceIn, Cond.code yX2_toleranceIn cX2_toleranceIn 2 (some .int), Cond.fieldLink RX2 15 "BreakSearch$Rules" "settings" "[I", Cond.instanceMethod yX2_moreStretchIn, Cond.selects RX2 yX2_moreStretchIn yX2_moreStretchIn, Cond.code yX2_moreStretchIn cX2_moreStretchIn 2 (some .int), Cond.instanceMethod yX1_measure, Cond.initialized RX1, Cond.selects RX1 yX1_measure yX1_measure]
def wsX5_loose_r4 : List Cond := [Cond.code yX1_measure cX1_measure 8 none, Cond.methodLink RX1 9 Lib.Math.min.name, Cond.fieldLink RX1 25 "BreakSearch$Line" "lack" "I", Cond.instanceMethod yX0_widthEndingAt, Cond.selects RX0 yX0_widthEndingAt yX0_widthEndingAt, Cond.code yX0_widthEndingAt cX0_widthEndingAt 2 (some .int), Cond.fieldLink RX0 18 "BreakSearch$Items" "penaltyWidths" "[I", Cond.methodLink RX1 34 yX1_squeeze, Cond.instanceMethod yX1_squeeze, Cond.selects RX1 yX1_squeeze yX1_squeeze, Cond.code yX1_squeeze cX1_squeeze 3 none, Cond.fieldLink RX1 52 "BreakSearch$Line" "stands" "Z", Cond.methodLink RX1 62 yX1_badnessOf, Cond.static yX1_badnessOf, Cond.code yX1_badnessOf cX1_badnessOf 6 (some .int), Cond.constantLong RX1 65 (100), Cond.constantLong RX1 67 (10000), Cond.methodLink RX1 69 Lib.MathLoose.min_long.x, Cond.static Lib.MathLoose.min_long.x, Cond.code Lib.MathLoose.min_long.x Lib.MathLoose.min_long.code 4 (some .long), Cond.methodLink RX1 42 yX1_settle, Cond.instanceMethod yX1_settle, Cond.selects RX1 yX1_settle yX1_settle, Cond.code yX1_settle cX1_settle 3 none]
def wsX5_loose_r5 : List Cond := [Cond.fieldLink RX1 56 "BreakSearch$Line" "ugliness" "I", Cond.fieldLink RX1 59 "BreakSearch$Line" "looks" "I", Cond.methodLink RX1 49 yX1_widen, Cond.instanceMethod yX1_widen, Cond.selects RX1 yX1_widen yX1_widen, Cond.code yX1_widen cX1_widen 3 none, Cond.instanceMethod yX1_isToleratedBy, Cond.selects RX1 yX1_isToleratedBy yX1_isToleratedBy, Cond.code yX1_isToleratedBy cX1_isToleratedBy 2 (some .boolean), Cond.methodLink RX3 106 yX3_enterLine, Cond.instanceMethod yX3_enterLine, Cond.selects RX3 yX3_enterLine yX3_enterLine, Cond.code yX3_enterLine cX3_enterLine 13 none, Cond.constantLong RX3 112 (64), Cond.constantLong RX3 122 (128000), Cond.fieldLink RX3 24 "BreakSearch$Search" "nextBreaks" "[B", Cond.methodLink RX3 114 yX3_demeritsOfLine, Cond.instanceMethod yX3_demeritsOfLine, Cond.selects RX3 yX3_demeritsOfLine yX3_demeritsOfLine, Cond.code yX3_demeritsOfLine cX3_demeritsOfLine 7 (some .long), Cond.constantLong RX3 124 (10), Cond.constantLong RX3 136 (3000), Cond.instanceMethod yX0_penaltyDemerits, Cond.selects RX0 yX0_penaltyDemerits yX0_penaltyDemerits]
def wsX5_loose_r6 : List Cond := [Cond.code yX0_penaltyDemerits cX0_penaltyDemerits 4 (some .long), Cond.instanceMethod yX0_isMarked, Cond.selects RX0 yX0_isMarked yX0_isMarked, Cond.code yX0_isMarked cX0_isMarked 2 (some .boolean), Cond.static yX1_isUnlike, Cond.code yX1_isUnlike cX1_isUnlike 2 (some .boolean), Cond.methodLink RX1 72 Lib.Math.abs.name, Cond.static Lib.Math.abs.name, Cond.code Lib.Math.abs.name Lib.Math.abs.code 1 (some .int), Cond.instanceMethod yX0_hasToBreakAt, Cond.selects RX0 yX0_hasToBreakAt yX0_hasToBreakAt, Cond.code yX0_hasToBreakAt cX0_hasToBreakAt 2 (some .boolean), Cond.instanceMethod yX3_tell, Cond.selects RX3 yX3_tell yX3_tell, Cond.code yX3_tell cX3_tell 6 none, Cond.instanceMethod yX4_forget, Cond.initialized RX4, Cond.selects RX4 yX4_forget yX4_forget, Cond.code yX4_forget cX4_forget 1 none, Cond.fieldLink RX4 24 "BreakSearch$Way" "count" "I", Cond.fieldLink RX4 28 "BreakSearch$Way" "pass" "I", Cond.fieldLink RX4 31 "BreakSearch$Way" "demerits" "J", Cond.methodLink RX3 144 yJ9_floorDiv_f86c9, Cond.static yJ9_floorDiv_f86c9]
def wsX5_loose_r7 : List Cond := [Cond.initialized RJ9, Cond.code yJ9_floorDiv_f86c9 cJ9_floorDiv_f86c9 6 (some .long), Cond.instanceMethod yX4_append, Cond.selects RX4 yX4_append yX4_append, Cond.code yX4_append cX4_append 3 none, Cond.fieldLink RX4 9 "BreakSearch$Way" "ends" "[I", Cond.fieldLink RX4 15 "BreakSearch$Way" "lacks" "[I", Cond.fieldLink RX4 18 "BreakSearch$Way" "badnesses" "[I", Cond.fieldLink RX4 21 "BreakSearch$Way" "classes" "[I"]
def wsX5_loose : List Cond := .code yX5_loose cX5_loose 2 (some .int) :: ((wsX5_loose_r1 ++ (wsX5_loose_r2 ++ (wsX5_loose_r3 ++ (wsX5_loose_r4 ++ (wsX5_loose_r5 ++ (wsX5_loose_r6 ++ wsX5_loose_r7)))))) ++ wsX50 ++ wsX40 ++ wsX30 ++ wsX00 ++ wsX20 ++ wsX10)
def wsX5_lines : List Cond := .code yX5_lines cX5_lines 1 (some .int) :: ([.fieldLink RX5 37 "BreakSearch" "told" "LBreakSearch$Way;"] ++ wsX50 ++ wsX40)
def wsX5_at : List Cond := .code yX5_at cX5_at 2 (some .int) :: ([.fieldLink RX5 37 "BreakSearch" "told" "LBreakSearch$Way;", .instanceMethod yX4_hasLine, .initialized RX4, .selects RX4 yX4_hasLine yX4_hasLine, .code yX4_hasLine cX4_hasLine 2 (some .boolean), .fieldLink RX4 24 "BreakSearch$Way" "count" "I"] ++ wsX50 ++ wsX40)
def wsX5_lacks : List Cond := .code yX5_lacks cX5_lacks 2 (some .int) :: ([.fieldLink RX5 37 "BreakSearch" "told" "LBreakSearch$Way;", .instanceMethod yX4_hasLine, .initialized RX4, .selects RX4 yX4_hasLine yX4_hasLine, .code yX4_hasLine cX4_hasLine 2 (some .boolean), .fieldLink RX4 24 "BreakSearch$Way" "count" "I"] ++ wsX50 ++ wsX40)
def wsX5_badness : List Cond := .code yX5_badness cX5_badness 2 (some .int) :: ([.fieldLink RX5 37 "BreakSearch" "told" "LBreakSearch$Way;", .instanceMethod yX4_hasLine, .initialized RX4, .selects RX4 yX4_hasLine yX4_hasLine, .code yX4_hasLine cX4_hasLine 2 (some .boolean), .fieldLink RX4 24 "BreakSearch$Way" "count" "I"] ++ wsX50 ++ wsX40)
def wsX5_classOf : List Cond := .code yX5_classOf cX5_classOf 2 (some .int) :: ([.fieldLink RX5 37 "BreakSearch" "told" "LBreakSearch$Way;", .instanceMethod yX4_hasLine, .initialized RX4, .selects RX4 yX4_hasLine yX4_hasLine, .code yX4_hasLine cX4_hasLine 2 (some .boolean), .fieldLink RX4 24 "BreakSearch$Way" "count" "I"] ++ wsX50 ++ wsX40)
def wsX5_demerits : List Cond := .code yX5_demerits cX5_demerits 1 (some .long) :: ([.fieldLink RX5 37 "BreakSearch" "told" "LBreakSearch$Way;"] ++ wsX50 ++ wsX40)
def wsX5_pass : List Cond := .code yX5_pass cX5_pass 1 (some .int) :: ([.fieldLink RX5 37 "BreakSearch" "told" "LBreakSearch$Way;"] ++ wsX50 ++ wsX40)
def wsX5_clear : List Cond := .code yX5_clear cX5_clear 2 (some .int) :: ([.fieldLink RX5 10 "BreakSearch" "items" "LBreakSearch$Items;"] ++ wsX50 ++ wsX00)
def wsX6_init : List Cond := .code yX6_init cX6_init 3 none :: ([.methodLink RX6 1 objectInit, .instanceMethod objectInit, .code objectInit ⟨#[0xb1]⟩ 1 none, .arrayClass .int, .fieldLink RX6 7 "BreakSearchModel" "kinds" "[I", .fieldLink RX6 13 "BreakSearchModel" "widths" "[I", .fieldLink RX6 16 "BreakSearchModel" "stretches" "[I", .fieldLink RX6 19 "BreakSearchModel" "shrinks" "[I", .fieldLink RX6 22 "BreakSearchModel" "values" "[I", .arrayClass .boolean, .fieldLink RX6 25 "BreakSearchModel" "marked" "[Z", .fieldLink RX6 29 "BreakSearchModel" "shapes" "[I", .fieldLink RX6 32 "BreakSearchModel" "settings" "[I", .fieldLink RX6 35 "BreakSearchModel" "wide" "[I", .fieldLink RX6 38 "BreakSearchModel" "stretchy" "[I", .fieldLink RX6 41 "BreakSearchModel" "shrinking" "[I", .arrayClass .long, .fieldLink RX6 44 "BreakSearchModel" "costs" "[J", .fieldLink RX6 48 "BreakSearchModel" "rest" "[I", .fieldLink RX6 51 "BreakSearchModel" "nexts" "[I", .fieldLink RX6 54 "BreakSearchModel" "ends" "[I", .fieldLink RX6 57 "BreakSearchModel" "lacks" "[I", .fieldLink RX6 60 "BreakSearchModel" "bads" "[I", .fieldLink RX6 63 "BreakSearchModel" "classes" "[I"] ++ wsX60)
def wsX6_in : List Cond := .code yX6_in cX6_in 3 (some .boolean) :: ([])
def wsX6_add : List Cond := .code yX6_add cX6_add 7 (some .int) :: ([.fieldLink RX6 66 "BreakSearchModel" "items" "I", .fieldLink RX6 7 "BreakSearchModel" "kinds" "[I", .fieldLink RX6 13 "BreakSearchModel" "widths" "[I", .fieldLink RX6 16 "BreakSearchModel" "stretches" "[I", .fieldLink RX6 19 "BreakSearchModel" "shrinks" "[I", .fieldLink RX6 22 "BreakSearchModel" "values" "[I", .fieldLink RX6 25 "BreakSearchModel" "marked" "[Z"] ++ wsX60)
def wsX6_box : List Cond := .code yX6_box cX6_box 2 (some .int) :: ([.methodLink RX6 70 yX6_in, .static yX6_in, .initialized RX6, .code yX6_in cX6_in 3 (some .boolean), .methodLink RX6 74 yX6_add, .instanceMethod yX6_add, .selects RX6 yX6_add yX6_add, .code yX6_add cX6_add 7 (some .int), .fieldLink RX6 66 "BreakSearchModel" "items" "I", .fieldLink RX6 7 "BreakSearchModel" "kinds" "[I", .fieldLink RX6 13 "BreakSearchModel" "widths" "[I", .fieldLink RX6 16 "BreakSearchModel" "stretches" "[I", .fieldLink RX6 19 "BreakSearchModel" "shrinks" "[I", .fieldLink RX6 22 "BreakSearchModel" "values" "[I", .fieldLink RX6 25 "BreakSearchModel" "marked" "[Z"] ++ wsX60)
def wsX6_glue : List Cond := .code yX6_glue cX6_glue 4 (some .int) :: ([.methodLink RX6 70 yX6_in, .static yX6_in, .initialized RX6, .code yX6_in cX6_in 3 (some .boolean), .methodLink RX6 74 yX6_add, .instanceMethod yX6_add, .selects RX6 yX6_add yX6_add, .code yX6_add cX6_add 7 (some .int), .fieldLink RX6 66 "BreakSearchModel" "items" "I", .fieldLink RX6 7 "BreakSearchModel" "kinds" "[I", .fieldLink RX6 13 "BreakSearchModel" "widths" "[I", .fieldLink RX6 16 "BreakSearchModel" "stretches" "[I", .fieldLink RX6 19 "BreakSearchModel" "shrinks" "[I", .fieldLink RX6 22 "BreakSearchModel" "values" "[I", .fieldLink RX6 25 "BreakSearchModel" "marked" "[Z"] ++ wsX60)
def wsX6_penalty : List Cond := .code yX6_penalty cX6_penalty 4 (some .int) :: ([.methodLink RX6 70 yX6_in, .static yX6_in, .initialized RX6, .code yX6_in cX6_in 3 (some .boolean), .methodLink RX6 74 yX6_add, .instanceMethod yX6_add, .selects RX6 yX6_add yX6_add, .code yX6_add cX6_add 7 (some .int), .fieldLink RX6 66 "BreakSearchModel" "items" "I", .fieldLink RX6 7 "BreakSearchModel" "kinds" "[I", .fieldLink RX6 13 "BreakSearchModel" "widths" "[I", .fieldLink RX6 16 "BreakSearchModel" "stretches" "[I", .fieldLink RX6 19 "BreakSearchModel" "shrinks" "[I", .fieldLink RX6 22 "BreakSearchModel" "values" "[I", .fieldLink RX6 25 "BreakSearchModel" "marked" "[Z"] ++ wsX60)
def wsX6_shape : List Cond := .code yX6_shape cX6_shape 3 (some .int) :: ([.fieldLink RX6 29 "BreakSearchModel" "shapes" "[I", .methodLink RX6 70 yX6_in, .static yX6_in, .initialized RX6, .code yX6_in cX6_in 3 (some .boolean)] ++ wsX60)
def wsX6_setting : List Cond := .code yX6_setting cX6_setting 3 (some .int) :: ([.fieldLink RX6 32 "BreakSearchModel" "settings" "[I", .methodLink RX6 70 yX6_in, .static yX6_in, .initialized RX6, .code yX6_in cX6_in 3 (some .boolean)] ++ wsX60)
def wsX6_mayBreak : List Cond := .code yX6_mayBreak cX6_mayBreak 3 (some .boolean) :: ([.fieldLink RX6 66 "BreakSearchModel" "items" "I", .fieldLink RX6 7 "BreakSearchModel" "kinds" "[I", .fieldLink RX6 22 "BreakSearchModel" "values" "[I", .fieldLink RX6 25 "BreakSearchModel" "marked" "[Z"] ++ wsX60)
def wsX6_mustBreak : List Cond := .code yX6_mustBreak cX6_mustBreak 2 (some .boolean) :: ([.fieldLink RX6 66 "BreakSearchModel" "items" "I", .fieldLink RX6 7 "BreakSearchModel" "kinds" "[I", .fieldLink RX6 22 "BreakSearchModel" "values" "[I"] ++ wsX60)
def wsX6_sumUp : List Cond := .code yX6_sumUp cX6_sumUp 3 none :: ([.fieldLink RX6 66 "BreakSearchModel" "items" "I", .fieldLink RX6 7 "BreakSearchModel" "kinds" "[I", .fieldLink RX6 35 "BreakSearchModel" "wide" "[I", .fieldLink RX6 13 "BreakSearchModel" "widths" "[I", .fieldLink RX6 38 "BreakSearchModel" "stretchy" "[I", .fieldLink RX6 16 "BreakSearchModel" "stretches" "[I", .fieldLink RX6 41 "BreakSearchModel" "shrinking" "[I", .fieldLink RX6 19 "BreakSearchModel" "shrinks" "[I"] ++ wsX60)
def wsX6_cube : List Cond := .code yX6_cube cX6_cube 2 (some .long) :: ([])
def wsX6_isLine : List Cond := .code yX6_isLine cX6_isLine 14 (some .boolean) :: ([.fieldLink RX6 7 "BreakSearchModel" "kinds" "[I", .fieldLink RX6 66 "BreakSearchModel" "items" "I", .fieldLink RX6 35 "BreakSearchModel" "wide" "[I", .fieldLink RX6 13 "BreakSearchModel" "widths" "[I", .fieldLink RX6 29 "BreakSearchModel" "shapes" "[I", .fieldLink RX6 78 "BreakSearchModel" "lack" "I", .fieldLink RX6 41 "BreakSearchModel" "shrinking" "[I", .fieldLink RX6 38 "BreakSearchModel" "stretchy" "[I", .fieldLink RX6 32 "BreakSearchModel" "settings" "[I", .fieldLink RX6 81 "BreakSearchModel" "bad" "I", .fieldLink RX6 84 "BreakSearchModel" "sort" "I", .constantLong RX6 87 (10000), .constantLong RX6 89 (100), .constantLong RX6 95 (2), .constantLong RX6 97 (-2), .constantLong RX6 99 (10), .fieldLink RX6 101 "BreakSearchModel" "demerit" "J", .fieldLink RX6 22 "BreakSearchModel" "values" "[I", .methodLink RX6 91 yX6_cube, .static yX6_cube, .initialized RX6, .code yX6_cube cX6_cube 2 (some .long)] ++ wsX60)
def wsX6_index : List Cond := .code yX6_index cX6_index 3 (some .int) :: ([])
def wsX6_keep : List Cond := .code yX6_keep cX6_keep 7 none :: ([.fieldLink RX6 48 "BreakSearchModel" "rest" "[I", .fieldLink RX6 44 "BreakSearchModel" "costs" "[J", .fieldLink RX6 51 "BreakSearchModel" "nexts" "[I"] ++ wsX60)
def wsX6_goFrom_r1 : List Cond := [Cond.fieldLink RX6 66 "BreakSearchModel" "items" "I", Cond.fieldLink RX6 84 "BreakSearchModel" "sort" "I", Cond.fieldLink RX6 48 "BreakSearchModel" "rest" "[I", Cond.fieldLink RX6 101 "BreakSearchModel" "demerit" "J", Cond.fieldLink RX6 44 "BreakSearchModel" "costs" "[J", Cond.fieldLink RX6 7 "BreakSearchModel" "kinds" "[I", Cond.fieldLink RX6 25 "BreakSearchModel" "marked" "[Z", Cond.constantLong RX6 128 (3000), Cond.constantLong RX6 130 (2000), Cond.methodLink RX6 116 yX6_mustBreak, Cond.instanceMethod yX6_mustBreak, Cond.selects RX6 yX6_mustBreak yX6_mustBreak, Cond.initialized RX6, Cond.code yX6_mustBreak cX6_mustBreak 2 (some .boolean), Cond.fieldLink RX6 22 "BreakSearchModel" "values" "[I", Cond.methodLink RX6 108 yX6_mayBreak, Cond.instanceMethod yX6_mayBreak, Cond.selects RX6 yX6_mayBreak yX6_mayBreak, Cond.code yX6_mayBreak cX6_mayBreak 3 (some .boolean), Cond.methodLink RX6 120 yX6_isLine, Cond.instanceMethod yX6_isLine, Cond.selects RX6 yX6_isLine yX6_isLine, Cond.code yX6_isLine cX6_isLine 14 (some .boolean), Cond.fieldLink RX6 35 "BreakSearchModel" "wide" "[I"]
def wsX6_goFrom_r2 : List Cond := [Cond.fieldLink RX6 13 "BreakSearchModel" "widths" "[I", Cond.fieldLink RX6 29 "BreakSearchModel" "shapes" "[I", Cond.fieldLink RX6 78 "BreakSearchModel" "lack" "I", Cond.fieldLink RX6 41 "BreakSearchModel" "shrinking" "[I", Cond.fieldLink RX6 38 "BreakSearchModel" "stretchy" "[I", Cond.fieldLink RX6 32 "BreakSearchModel" "settings" "[I", Cond.fieldLink RX6 81 "BreakSearchModel" "bad" "I", Cond.constantLong RX6 87 (10000), Cond.constantLong RX6 89 (100), Cond.constantLong RX6 95 (2), Cond.constantLong RX6 97 (-2), Cond.constantLong RX6 99 (10), Cond.methodLink RX6 91 yX6_cube, Cond.static yX6_cube, Cond.code yX6_cube cX6_cube 2 (some .long), Cond.methodLink RX6 124 yX6_index, Cond.static yX6_index, Cond.code yX6_index cX6_index 3 (some .int), Cond.methodLink RX6 132 yX6_keep, Cond.instanceMethod yX6_keep, Cond.selects RX6 yX6_keep yX6_keep, Cond.code yX6_keep cX6_keep 7 none, Cond.fieldLink RX6 51 "BreakSearchModel" "nexts" "[I"]
def wsX6_goFrom : List Cond := .code yX6_goFrom cX6_goFrom 18 none :: ((wsX6_goFrom_r1 ++ wsX6_goFrom_r2) ++ wsX60)
def wsX6_search_r1 : List Cond := [Cond.fieldLink RX6 48 "BreakSearchModel" "rest" "[I", Cond.fieldLink RX6 66 "BreakSearchModel" "items" "I", Cond.methodLink RX6 105 yX6_sumUp, Cond.instanceMethod yX6_sumUp, Cond.selects RX6 yX6_sumUp yX6_sumUp, Cond.initialized RX6, Cond.code yX6_sumUp cX6_sumUp 3 none, Cond.fieldLink RX6 7 "BreakSearchModel" "kinds" "[I", Cond.fieldLink RX6 35 "BreakSearchModel" "wide" "[I", Cond.fieldLink RX6 13 "BreakSearchModel" "widths" "[I", Cond.fieldLink RX6 38 "BreakSearchModel" "stretchy" "[I", Cond.fieldLink RX6 16 "BreakSearchModel" "stretches" "[I", Cond.fieldLink RX6 41 "BreakSearchModel" "shrinking" "[I", Cond.fieldLink RX6 19 "BreakSearchModel" "shrinks" "[I", Cond.methodLink RX6 108 yX6_mayBreak, Cond.instanceMethod yX6_mayBreak, Cond.selects RX6 yX6_mayBreak yX6_mayBreak, Cond.code yX6_mayBreak cX6_mayBreak 3 (some .boolean), Cond.fieldLink RX6 22 "BreakSearchModel" "values" "[I", Cond.fieldLink RX6 25 "BreakSearchModel" "marked" "[Z", Cond.methodLink RX6 112 yX6_goFrom, Cond.instanceMethod yX6_goFrom, Cond.selects RX6 yX6_goFrom yX6_goFrom, Cond.code yX6_goFrom cX6_goFrom 18 none]
def wsX6_search_r2 : List Cond := [Cond.fieldLink RX6 84 "BreakSearchModel" "sort" "I", Cond.fieldLink RX6 101 "BreakSearchModel" "demerit" "J", Cond.fieldLink RX6 44 "BreakSearchModel" "costs" "[J", Cond.constantLong RX6 128 (3000), Cond.constantLong RX6 130 (2000), Cond.methodLink RX6 116 yX6_mustBreak, Cond.instanceMethod yX6_mustBreak, Cond.selects RX6 yX6_mustBreak yX6_mustBreak, Cond.code yX6_mustBreak cX6_mustBreak 2 (some .boolean), Cond.methodLink RX6 120 yX6_isLine, Cond.instanceMethod yX6_isLine, Cond.selects RX6 yX6_isLine yX6_isLine, Cond.code yX6_isLine cX6_isLine 14 (some .boolean), Cond.fieldLink RX6 29 "BreakSearchModel" "shapes" "[I", Cond.fieldLink RX6 78 "BreakSearchModel" "lack" "I", Cond.fieldLink RX6 32 "BreakSearchModel" "settings" "[I", Cond.fieldLink RX6 81 "BreakSearchModel" "bad" "I", Cond.constantLong RX6 87 (10000), Cond.constantLong RX6 89 (100), Cond.constantLong RX6 95 (2), Cond.constantLong RX6 97 (-2), Cond.constantLong RX6 99 (10), Cond.methodLink RX6 91 yX6_cube, Cond.static yX6_cube]
def wsX6_search_r3 : List Cond := [Cond.code yX6_cube cX6_cube 2 (some .long), Cond.methodLink RX6 124 yX6_index, Cond.static yX6_index, Cond.code yX6_index cX6_index 3 (some .int), Cond.methodLink RX6 132 yX6_keep, Cond.instanceMethod yX6_keep, Cond.selects RX6 yX6_keep yX6_keep, Cond.code yX6_keep cX6_keep 7 none, Cond.fieldLink RX6 51 "BreakSearchModel" "nexts" "[I"]
def wsX6_search : List Cond := .code yX6_search cX6_search 6 none :: ((wsX6_search_r1 ++ (wsX6_search_r2 ++ wsX6_search_r3)) ++ wsX60)
def wsX6_tell_r1 : List Cond := [Cond.fieldLink RX6 44 "BreakSearchModel" "costs" "[J", Cond.fieldLink RX6 136 "BreakSearchModel" "sum" "J", Cond.fieldLink RX6 48 "BreakSearchModel" "rest" "[I", Cond.fieldLink RX6 139 "BreakSearchModel" "told" "I", Cond.fieldLink RX6 142 "BreakSearchModel" "pass" "I", Cond.fieldLink RX6 51 "BreakSearchModel" "nexts" "[I", Cond.fieldLink RX6 54 "BreakSearchModel" "ends" "[I", Cond.fieldLink RX6 57 "BreakSearchModel" "lacks" "[I", Cond.fieldLink RX6 78 "BreakSearchModel" "lack" "I", Cond.fieldLink RX6 60 "BreakSearchModel" "bads" "[I", Cond.fieldLink RX6 81 "BreakSearchModel" "bad" "I", Cond.fieldLink RX6 63 "BreakSearchModel" "classes" "[I", Cond.fieldLink RX6 84 "BreakSearchModel" "sort" "I", Cond.fieldLink RX6 66 "BreakSearchModel" "items" "I", Cond.methodLink RX6 124 yX6_index, Cond.static yX6_index, Cond.initialized RX6, Cond.code yX6_index cX6_index 3 (some .int), Cond.methodLink RX6 120 yX6_isLine, Cond.instanceMethod yX6_isLine, Cond.selects RX6 yX6_isLine yX6_isLine, Cond.code yX6_isLine cX6_isLine 14 (some .boolean), Cond.fieldLink RX6 7 "BreakSearchModel" "kinds" "[I", Cond.fieldLink RX6 35 "BreakSearchModel" "wide" "[I"]
def wsX6_tell_r2 : List Cond := [Cond.fieldLink RX6 13 "BreakSearchModel" "widths" "[I", Cond.fieldLink RX6 29 "BreakSearchModel" "shapes" "[I", Cond.fieldLink RX6 41 "BreakSearchModel" "shrinking" "[I", Cond.fieldLink RX6 38 "BreakSearchModel" "stretchy" "[I", Cond.fieldLink RX6 32 "BreakSearchModel" "settings" "[I", Cond.constantLong RX6 87 (10000), Cond.constantLong RX6 89 (100), Cond.constantLong RX6 95 (2), Cond.constantLong RX6 97 (-2), Cond.constantLong RX6 99 (10), Cond.fieldLink RX6 101 "BreakSearchModel" "demerit" "J", Cond.fieldLink RX6 22 "BreakSearchModel" "values" "[I", Cond.methodLink RX6 91 yX6_cube, Cond.static yX6_cube, Cond.code yX6_cube cX6_cube 2 (some .long)]
def wsX6_tell : List Cond := .code yX6_tell cX6_tell 7 none :: ((wsX6_tell_r1 ++ wsX6_tell_r2) ++ wsX60)
def wsX6_run_r1 : List Cond := [Cond.fieldLink RX6 139 "BreakSearchModel" "told" "I", Cond.fieldLink RX6 136 "BreakSearchModel" "sum" "J", Cond.fieldLink RX6 142 "BreakSearchModel" "pass" "I", Cond.fieldLink RX6 48 "BreakSearchModel" "rest" "[I", Cond.methodLink RX6 145 yX6_search, Cond.instanceMethod yX6_search, Cond.selects RX6 yX6_search yX6_search, Cond.initialized RX6, Cond.code yX6_search cX6_search 6 none, Cond.fieldLink RX6 66 "BreakSearchModel" "items" "I", Cond.methodLink RX6 105 yX6_sumUp, Cond.instanceMethod yX6_sumUp, Cond.selects RX6 yX6_sumUp yX6_sumUp, Cond.code yX6_sumUp cX6_sumUp 3 none, Cond.fieldLink RX6 7 "BreakSearchModel" "kinds" "[I", Cond.fieldLink RX6 35 "BreakSearchModel" "wide" "[I", Cond.fieldLink RX6 13 "BreakSearchModel" "widths" "[I", Cond.fieldLink RX6 38 "BreakSearchModel" "stretchy" "[I", Cond.fieldLink RX6 16 "BreakSearchModel" "stretches" "[I", Cond.fieldLink RX6 41 "BreakSearchModel" "shrinking" "[I", Cond.fieldLink RX6 19 "BreakSearchModel" "shrinks" "[I", Cond.methodLink RX6 108 yX6_mayBreak, Cond.instanceMethod yX6_mayBreak, Cond.selects RX6 yX6_mayBreak yX6_mayBreak]
def wsX6_run_r2 : List Cond := [Cond.code yX6_mayBreak cX6_mayBreak 3 (some .boolean), Cond.fieldLink RX6 22 "BreakSearchModel" "values" "[I", Cond.fieldLink RX6 25 "BreakSearchModel" "marked" "[Z", Cond.methodLink RX6 112 yX6_goFrom, Cond.instanceMethod yX6_goFrom, Cond.selects RX6 yX6_goFrom yX6_goFrom, Cond.code yX6_goFrom cX6_goFrom 18 none, Cond.fieldLink RX6 84 "BreakSearchModel" "sort" "I", Cond.fieldLink RX6 101 "BreakSearchModel" "demerit" "J", Cond.fieldLink RX6 44 "BreakSearchModel" "costs" "[J", Cond.constantLong RX6 128 (3000), Cond.constantLong RX6 130 (2000), Cond.methodLink RX6 116 yX6_mustBreak, Cond.instanceMethod yX6_mustBreak, Cond.selects RX6 yX6_mustBreak yX6_mustBreak, Cond.code yX6_mustBreak cX6_mustBreak 2 (some .boolean), Cond.methodLink RX6 120 yX6_isLine, Cond.instanceMethod yX6_isLine, Cond.selects RX6 yX6_isLine yX6_isLine, Cond.code yX6_isLine cX6_isLine 14 (some .boolean), Cond.fieldLink RX6 29 "BreakSearchModel" "shapes" "[I", Cond.fieldLink RX6 78 "BreakSearchModel" "lack" "I", Cond.fieldLink RX6 32 "BreakSearchModel" "settings" "[I", Cond.fieldLink RX6 81 "BreakSearchModel" "bad" "I"]
def wsX6_run_r3 : List Cond := [Cond.constantLong RX6 87 (10000), Cond.constantLong RX6 89 (100), Cond.constantLong RX6 95 (2), Cond.constantLong RX6 97 (-2), Cond.constantLong RX6 99 (10), Cond.methodLink RX6 91 yX6_cube, Cond.static yX6_cube, Cond.code yX6_cube cX6_cube 2 (some .long), Cond.methodLink RX6 124 yX6_index, Cond.static yX6_index, Cond.code yX6_index cX6_index 3 (some .int), Cond.methodLink RX6 132 yX6_keep, Cond.instanceMethod yX6_keep, Cond.selects RX6 yX6_keep yX6_keep, Cond.code yX6_keep cX6_keep 7 none, Cond.fieldLink RX6 51 "BreakSearchModel" "nexts" "[I", Cond.methodLink RX6 149 yX6_tell, Cond.instanceMethod yX6_tell, Cond.selects RX6 yX6_tell yX6_tell, Cond.code yX6_tell cX6_tell 7 none, Cond.fieldLink RX6 54 "BreakSearchModel" "ends" "[I", Cond.fieldLink RX6 57 "BreakSearchModel" "lacks" "[I", Cond.fieldLink RX6 60 "BreakSearchModel" "bads" "[I", Cond.fieldLink RX6 63 "BreakSearchModel" "classes" "[I"]
def wsX6_run : List Cond := .code yX6_run cX6_run 2 (some .int) :: ((wsX6_run_r1 ++ (wsX6_run_r2 ++ wsX6_run_r3)) ++ wsX60)
def wsX6_loose_r1 : List Cond := [Cond.fieldLink RX6 142 "BreakSearchModel" "pass" "I", Cond.fieldLink RX6 48 "BreakSearchModel" "rest" "[I", Cond.methodLink RX6 70 yX6_in, Cond.static yX6_in, Cond.initialized RX6, Cond.code yX6_in cX6_in 3 (some .boolean), Cond.methodLink RX6 145 yX6_search, Cond.instanceMethod yX6_search, Cond.selects RX6 yX6_search yX6_search, Cond.code yX6_search cX6_search 6 none, Cond.fieldLink RX6 66 "BreakSearchModel" "items" "I", Cond.methodLink RX6 105 yX6_sumUp, Cond.instanceMethod yX6_sumUp, Cond.selects RX6 yX6_sumUp yX6_sumUp, Cond.code yX6_sumUp cX6_sumUp 3 none, Cond.fieldLink RX6 7 "BreakSearchModel" "kinds" "[I", Cond.fieldLink RX6 35 "BreakSearchModel" "wide" "[I", Cond.fieldLink RX6 13 "BreakSearchModel" "widths" "[I", Cond.fieldLink RX6 38 "BreakSearchModel" "stretchy" "[I", Cond.fieldLink RX6 16 "BreakSearchModel" "stretches" "[I", Cond.fieldLink RX6 41 "BreakSearchModel" "shrinking" "[I", Cond.fieldLink RX6 19 "BreakSearchModel" "shrinks" "[I", Cond.methodLink RX6 108 yX6_mayBreak, Cond.instanceMethod yX6_mayBreak]
def wsX6_loose_r2 : List Cond := [Cond.selects RX6 yX6_mayBreak yX6_mayBreak, Cond.code yX6_mayBreak cX6_mayBreak 3 (some .boolean), Cond.fieldLink RX6 22 "BreakSearchModel" "values" "[I", Cond.fieldLink RX6 25 "BreakSearchModel" "marked" "[Z", Cond.methodLink RX6 112 yX6_goFrom, Cond.instanceMethod yX6_goFrom, Cond.selects RX6 yX6_goFrom yX6_goFrom, Cond.code yX6_goFrom cX6_goFrom 18 none, Cond.fieldLink RX6 84 "BreakSearchModel" "sort" "I", Cond.fieldLink RX6 101 "BreakSearchModel" "demerit" "J", Cond.fieldLink RX6 44 "BreakSearchModel" "costs" "[J", Cond.constantLong RX6 128 (3000), Cond.constantLong RX6 130 (2000), Cond.methodLink RX6 116 yX6_mustBreak, Cond.instanceMethod yX6_mustBreak, Cond.selects RX6 yX6_mustBreak yX6_mustBreak, Cond.code yX6_mustBreak cX6_mustBreak 2 (some .boolean), Cond.methodLink RX6 120 yX6_isLine, Cond.instanceMethod yX6_isLine, Cond.selects RX6 yX6_isLine yX6_isLine, Cond.code yX6_isLine cX6_isLine 14 (some .boolean), Cond.fieldLink RX6 29 "BreakSearchModel" "shapes" "[I", Cond.fieldLink RX6 78 "BreakSearchModel" "lack" "I", Cond.fieldLink RX6 32 "BreakSearchModel" "settings" "[I"]
def wsX6_loose_r3 : List Cond := [Cond.fieldLink RX6 81 "BreakSearchModel" "bad" "I", Cond.constantLong RX6 87 (10000), Cond.constantLong RX6 89 (100), Cond.constantLong RX6 95 (2), Cond.constantLong RX6 97 (-2), Cond.constantLong RX6 99 (10), Cond.methodLink RX6 91 yX6_cube, Cond.static yX6_cube, Cond.code yX6_cube cX6_cube 2 (some .long), Cond.methodLink RX6 124 yX6_index, Cond.static yX6_index, Cond.code yX6_index cX6_index 3 (some .int), Cond.methodLink RX6 132 yX6_keep, Cond.instanceMethod yX6_keep, Cond.selects RX6 yX6_keep yX6_keep, Cond.code yX6_keep cX6_keep 7 none, Cond.fieldLink RX6 51 "BreakSearchModel" "nexts" "[I", Cond.methodLink RX6 149 yX6_tell, Cond.instanceMethod yX6_tell, Cond.selects RX6 yX6_tell yX6_tell, Cond.code yX6_tell cX6_tell 7 none, Cond.fieldLink RX6 136 "BreakSearchModel" "sum" "J", Cond.fieldLink RX6 139 "BreakSearchModel" "told" "I", Cond.fieldLink RX6 54 "BreakSearchModel" "ends" "[I"]
def wsX6_loose_r4 : List Cond := [Cond.fieldLink RX6 57 "BreakSearchModel" "lacks" "[I", Cond.fieldLink RX6 60 "BreakSearchModel" "bads" "[I", Cond.fieldLink RX6 63 "BreakSearchModel" "classes" "[I"]
def wsX6_loose : List Cond := .code yX6_loose cX6_loose 2 (some .int) :: ((wsX6_loose_r1 ++ (wsX6_loose_r2 ++ (wsX6_loose_r3 ++ wsX6_loose_r4))) ++ wsX60)
def wsX6_lines : List Cond := .code yX6_lines cX6_lines 1 (some .int) :: ([.fieldLink RX6 139 "BreakSearchModel" "told" "I"] ++ wsX60)
def wsX6_at : List Cond := .code yX6_at cX6_at 2 (some .int) :: ([.fieldLink RX6 139 "BreakSearchModel" "told" "I", .fieldLink RX6 54 "BreakSearchModel" "ends" "[I", .methodLink RX6 70 yX6_in, .static yX6_in, .initialized RX6, .code yX6_in cX6_in 3 (some .boolean)] ++ wsX60)
def wsX6_lacks : List Cond := .code yX6_lacks cX6_lacks 2 (some .int) :: ([.fieldLink RX6 139 "BreakSearchModel" "told" "I", .fieldLink RX6 57 "BreakSearchModel" "lacks" "[I", .methodLink RX6 70 yX6_in, .static yX6_in, .initialized RX6, .code yX6_in cX6_in 3 (some .boolean)] ++ wsX60)
def wsX6_badness : List Cond := .code yX6_badness cX6_badness 2 (some .int) :: ([.fieldLink RX6 139 "BreakSearchModel" "told" "I", .fieldLink RX6 60 "BreakSearchModel" "bads" "[I", .methodLink RX6 70 yX6_in, .static yX6_in, .initialized RX6, .code yX6_in cX6_in 3 (some .boolean)] ++ wsX60)
def wsX6_classOf : List Cond := .code yX6_classOf cX6_classOf 2 (some .int) :: ([.fieldLink RX6 139 "BreakSearchModel" "told" "I", .fieldLink RX6 63 "BreakSearchModel" "classes" "[I", .methodLink RX6 70 yX6_in, .static yX6_in, .initialized RX6, .code yX6_in cX6_in 3 (some .boolean)] ++ wsX60)
def wsX6_demerits : List Cond := .code yX6_demerits cX6_demerits 1 (some .long) :: ([.fieldLink RX6 136 "BreakSearchModel" "sum" "J"] ++ wsX60)
def wsX6_pass : List Cond := .code yX6_pass cX6_pass 1 (some .int) :: ([.fieldLink RX6 142 "BreakSearchModel" "pass" "I"] ++ wsX60)
def wsX6_clear : List Cond := .code yX6_clear cX6_clear 2 (some .int) :: ([.fieldLink RX6 66 "BreakSearchModel" "items" "I"] ++ wsX60)
def wsJ9_abs_0f7a4 : List Cond := .code yJ9_abs_0f7a4 cJ9_abs_0f7a4 1 (some .int) :: ([])
def wsJ9_min_7cf53 : List Cond := .code yJ9_min_7cf53 cJ9_min_7cf53 2 (some .int) :: ([])
def wsJ9_min_f86c9 : List Cond := .code yJ9_min_f86c9 cJ9_min_f86c9 4 (some .long) :: ([])
def wsL_cell : List Cond := .code yL_cell cL_cell 2 (some .int) :: ([])
def wsL_law_r1 : List Cond := [Cond.classLink RL 7 RX5, Cond.instantiable RX5 4, Cond.initialized RX5, Cond.classLink RL 18 RX6, Cond.instantiable RX6 26, Cond.initialized RX6, Cond.methodLink RL 9 yL_cell, Cond.static yL_cell, Cond.initialized RL, Cond.code yL_cell cL_cell 2 (some .int), Cond.methodLink RL 15 yX5_init, Cond.instanceMethod yX5_init, Cond.code yX5_init cX5_init 2 none, Cond.methodLink RX5 1 objectInit, Cond.instanceMethod objectInit, Cond.code objectInit ⟨#[0xb1]⟩ 1 none, Cond.classLink RX5 7 RX0, Cond.instantiable RX0 8, Cond.initialized RX0, Cond.fieldLink RX5 10 "BreakSearch" "items" "LBreakSearch$Items;", Cond.classLink RX5 16 RX2, Cond.instantiable RX2 2, Cond.initialized RX2, Cond.fieldLink RX5 21 "BreakSearch" "rules" "LBreakSearch$Rules;"]
def wsL_law_r2 : List Cond := [Cond.classLink RX5 25 RX3, Cond.instantiable RX3 6, Cond.initialized RX3, Cond.fieldLink RX5 30 "BreakSearch" "search" "LBreakSearch$Search;", Cond.classLink RX5 34 RX4, Cond.instantiable RX4 7, Cond.initialized RX4, Cond.fieldLink RX5 37 "BreakSearch" "told" "LBreakSearch$Way;", Cond.instanceMethod yX0_init, Cond.code yX0_init cX0_init 1 none, Cond.methodLink RX0 3 objectInit, Cond.arrayClass .int, Cond.fieldLink RX0 9 "BreakSearch$Items" "kinds" "[I", Cond.fieldLink RX0 15 "BreakSearch$Items" "values" "[I", Cond.fieldLink RX0 18 "BreakSearch$Items" "penaltyWidths" "[I", Cond.arrayClass .boolean, Cond.fieldLink RX0 21 "BreakSearch$Items" "marks" "[Z", Cond.fieldLink RX0 25 "BreakSearch$Items" "lengthBefore" "[I", Cond.fieldLink RX0 28 "BreakSearch$Items" "stretchBefore" "[I", Cond.fieldLink RX0 31 "BreakSearch$Items" "shrinkBefore" "[I", Cond.instanceMethod yX2_init, Cond.code yX2_init cX2_init 2 none, Cond.methodLink RX2 3 objectInit, Cond.fieldLink RX2 9 "BreakSearch$Rules" "widths" "[I"]
def wsL_law_r3 : List Cond := [Cond.fieldLink RX2 15 "BreakSearch$Rules" "settings" "[I", Cond.methodLink RX2 18 yJ7_fill_53178, Cond.static yJ7_fill_53178, Cond.initialized RJ7, Cond.code yJ7_fill_53178 cJ7_fill_53178 4 none, Cond.instanceMethod yX3_init, Cond.code yX3_init cX3_init 3 none, Cond.methodLink RX3 9 objectInit, Cond.classLink RX3 3 RX1, Cond.instantiable RX1 4, Cond.initialized RX1, Cond.fieldLink RX3 16 "BreakSearch$Search" "line" "LBreakSearch$Line;", Cond.arrayClass .long, Cond.fieldLink RX3 20 "BreakSearch$Search" "costs" "[J", Cond.arrayClass .byte, Cond.fieldLink RX3 24 "BreakSearch$Search" "nextBreaks" "[B", Cond.fieldLink RX3 28 "BreakSearch$Search" "items" "LBreakSearch$Items;", Cond.fieldLink RX3 32 "BreakSearch$Search" "rules" "LBreakSearch$Rules;", Cond.instanceMethod yX1_init, Cond.code yX1_init cX1_init 1 none, Cond.methodLink RX1 3 objectInit, Cond.instanceMethod yX4_init, Cond.code yX4_init cX4_init 1 none, Cond.methodLink RX4 3 objectInit]
def wsL_law_r4 : List Cond := [Cond.fieldLink RX4 9 "BreakSearch$Way" "ends" "[I", Cond.fieldLink RX4 15 "BreakSearch$Way" "lacks" "[I", Cond.fieldLink RX4 18 "BreakSearch$Way" "badnesses" "[I", Cond.fieldLink RX4 21 "BreakSearch$Way" "classes" "[I", Cond.methodLink RL 20 yX6_init, Cond.instanceMethod yX6_init, Cond.code yX6_init cX6_init 3 none, Cond.methodLink RX6 1 objectInit, Cond.fieldLink RX6 7 "BreakSearchModel" "kinds" "[I", Cond.fieldLink RX6 13 "BreakSearchModel" "widths" "[I", Cond.fieldLink RX6 16 "BreakSearchModel" "stretches" "[I", Cond.fieldLink RX6 19 "BreakSearchModel" "shrinks" "[I", Cond.fieldLink RX6 22 "BreakSearchModel" "values" "[I", Cond.fieldLink RX6 25 "BreakSearchModel" "marked" "[Z", Cond.fieldLink RX6 29 "BreakSearchModel" "shapes" "[I", Cond.fieldLink RX6 32 "BreakSearchModel" "settings" "[I", Cond.fieldLink RX6 35 "BreakSearchModel" "wide" "[I", Cond.fieldLink RX6 38 "BreakSearchModel" "stretchy" "[I", Cond.fieldLink RX6 41 "BreakSearchModel" "shrinking" "[I", Cond.fieldLink RX6 44 "BreakSearchModel" "costs" "[J", Cond.fieldLink RX6 48 "BreakSearchModel" "rest" "[I", Cond.fieldLink RX6 51 "BreakSearchModel" "nexts" "[I", Cond.fieldLink RX6 54 "BreakSearchModel" "ends" "[I", Cond.fieldLink RX6 57 "BreakSearchModel" "lacks" "[I"]
def wsL_law_r5 : List Cond := [Cond.fieldLink RX6 60 "BreakSearchModel" "bads" "[I", Cond.fieldLink RX6 63 "BreakSearchModel" "classes" "[I", Cond.methodLink RL 21 yX5_box, Cond.instanceMethod yX5_box, Cond.selects RX5 yX5_box yX5_box, Cond.code yX5_box cX5_box 2 (some .int), Cond.methodLink RX5 41 yX5_isWithin, Cond.static yX5_isWithin, Cond.code yX5_isWithin cX5_isWithin 3 (some .boolean), Cond.instanceMethod yX0_append, Cond.selects RX0 yX0_append yX0_append, Cond.code yX0_append cX0_append 6 (some .int), Cond.fieldLink RX0 34 "BreakSearch$Items" "count" "I", Cond.methodLink RL 25 yX6_box, Cond.instanceMethod yX6_box, Cond.selects RX6 yX6_box yX6_box, Cond.code yX6_box cX6_box 2 (some .int), Cond.methodLink RX6 70 yX6_in, Cond.static yX6_in, Cond.code yX6_in cX6_in 3 (some .boolean), Cond.methodLink RX6 74 yX6_add, Cond.instanceMethod yX6_add, Cond.selects RX6 yX6_add yX6_add, Cond.code yX6_add cX6_add 7 (some .int)]
def wsL_law_r6 : List Cond := [Cond.fieldLink RX6 66 "BreakSearchModel" "items" "I", Cond.methodLink RL 26 yX5_glue, Cond.instanceMethod yX5_glue, Cond.selects RX5 yX5_glue yX5_glue, Cond.code yX5_glue cX5_glue 4 (some .int), Cond.methodLink RL 30 yX6_glue, Cond.instanceMethod yX6_glue, Cond.selects RX6 yX6_glue yX6_glue, Cond.code yX6_glue cX6_glue 4 (some .int), Cond.methodLink RL 31 yX5_penalty, Cond.instanceMethod yX5_penalty, Cond.selects RX5 yX5_penalty yX5_penalty, Cond.code yX5_penalty cX5_penalty 4 (some .int), Cond.instanceMethod yX0_appendPenalty, Cond.selects RX0 yX0_appendPenalty yX0_appendPenalty, Cond.code yX0_appendPenalty cX0_appendPenalty 5 (some .int), Cond.methodLink RX0 38 yX0_append, Cond.methodLink RL 35 yX6_penalty, Cond.instanceMethod yX6_penalty, Cond.selects RX6 yX6_penalty yX6_penalty, Cond.code yX6_penalty cX6_penalty 4 (some .int), Cond.methodLink RL 36 yX5_shape, Cond.instanceMethod yX5_shape, Cond.selects RX5 yX5_shape yX5_shape]
def wsL_law_r7 : List Cond := [Cond.code yX5_shape cX5_shape 3 (some .int), Cond.methodLink RL 40 yX6_shape, Cond.instanceMethod yX6_shape, Cond.selects RX6 yX6_shape yX6_shape, Cond.code yX6_shape cX6_shape 3 (some .int), Cond.methodLink RL 41 yX5_setting, Cond.instanceMethod yX5_setting, Cond.selects RX5 yX5_setting yX5_setting, Cond.code yX5_setting cX5_setting 4 (some .int), Cond.methodLink RL 44 yX6_setting, Cond.instanceMethod yX6_setting, Cond.selects RX6 yX6_setting yX6_setting, Cond.code yX6_setting cX6_setting 3 (some .int), Cond.methodLink RL 45 yX5_run, Cond.instanceMethod yX5_run, Cond.selects RX5 yX5_run yX5_run, Cond.code yX5_run cX5_run 2 (some .int), Cond.instanceMethod yX4_forget, Cond.selects RX4 yX4_forget yX4_forget, Cond.code yX4_forget cX4_forget 1 none, Cond.fieldLink RX4 24 "BreakSearch$Way" "count" "I", Cond.fieldLink RX4 28 "BreakSearch$Way" "pass" "I", Cond.fieldLink RX4 31 "BreakSearch$Way" "demerits" "J", Cond.instanceMethod yX3_findsWay]
def wsL_law_r8 : List Cond := [Cond.selects RX3 yX3_findsWay yX3_findsWay, Cond.code yX3_findsWay cX3_findsWay 5 (some .boolean), Cond.fieldLink RX3 36 "BreakSearch$Search" "pass" "I", Cond.constantLong RX3 70 (9223372036854775807), Cond.methodLink RX3 40 yX3_closeAll, Cond.instanceMethod yX3_closeAll, Cond.selects RX3 yX3_closeAll yX3_closeAll, Cond.code yX3_closeAll cX3_closeAll 3 none, Cond.methodLink RX3 66 yX3_cellOf, Cond.static yX3_cellOf, Cond.code yX3_cellOf cX3_cellOf 3 (some .int), Cond.methodLink RX3 43 yX3_openEnd, Cond.instanceMethod yX3_openEnd, Cond.selects RX3 yX3_openEnd yX3_openEnd, Cond.code yX3_openEnd cX3_openEnd 6 none, Cond.instanceMethod yX2_breaksAtMarksIn, Cond.selects RX2 yX2_breaksAtMarksIn yX2_breaksAtMarksIn, Cond.code yX2_breaksAtMarksIn cX2_breaksAtMarksIn 2 (some .boolean), Cond.instanceMethod yX0_mayBreakAt, Cond.selects RX0 yX0_mayBreakAt yX0_mayBreakAt, Cond.code yX0_mayBreakAt cX0_mayBreakAt 3 (some .boolean), Cond.methodLink RX0 42 yX0_isKind, Cond.instanceMethod yX0_isKind, Cond.selects RX0 yX0_isKind yX0_isKind]
def wsL_law_r9 : List Cond := [Cond.code yX0_isKind cX0_isKind 3 (some .boolean), Cond.methodLink RX0 46 yX0_isEnd, Cond.instanceMethod yX0_isEnd, Cond.selects RX0 yX0_isEnd yX0_isEnd, Cond.code yX0_isEnd cX0_isEnd 2 (some .boolean), Cond.methodLink RX3 62 yX3_tryLinesBehind, Cond.instanceMethod yX3_tryLinesBehind, Cond.selects RX3 yX3_tryLinesBehind yX3_tryLinesBehind, Cond.code yX3_tryLinesBehind cX3_tryLinesBehind 5 none, Cond.instanceMethod yX0_startBehind, Cond.selects RX0 yX0_startBehind yX0_startBehind, Cond.code yX0_startBehind cX0_startBehind 3 (some .int), Cond.methodLink RX3 76 yX3_tryLine, Cond.instanceMethod yX3_tryLine, Cond.selects RX3 yX3_tryLine yX3_tryLine, Cond.code yX3_tryLine cX3_tryLine 9 none, Cond.methodLink RX3 89 Lib.Math.min.name, Cond.static Lib.Math.min.name, Cond.initialized "java/lang/Math", Cond.code Lib.Math.min.name Lib.Math.min.code 2 (some .int), Cond.instanceMethod yX2_toleranceIn, Cond.selects RX2 yX2_toleranceIn yX2_toleranceIn, Cond.code yX2_toleranceIn cX2_toleranceIn 2 (some .int), Cond.instanceMethod yX2_moreStretchIn]
def wsL_law_r10 : List Cond := [Cond.selects RX2 yX2_moreStretchIn yX2_moreStretchIn, Cond.code yX2_moreStretchIn cX2_moreStretchIn 2 (some .int), Cond.instanceMethod yX1_measure, Cond.selects RX1 yX1_measure yX1_measure, Cond.code yX1_measure cX1_measure 8 none, Cond.methodLink RX1 9 Lib.Math.min.name, Cond.fieldLink RX1 25 "BreakSearch$Line" "lack" "I", Cond.instanceMethod yX0_widthEndingAt, Cond.selects RX0 yX0_widthEndingAt yX0_widthEndingAt, Cond.code yX0_widthEndingAt cX0_widthEndingAt 2 (some .int), Cond.methodLink RX1 34 yX1_squeeze, Cond.instanceMethod yX1_squeeze, Cond.selects RX1 yX1_squeeze yX1_squeeze, Cond.code yX1_squeeze cX1_squeeze 3 none, Cond.fieldLink RX1 52 "BreakSearch$Line" "stands" "Z", Cond.methodLink RX1 62 yX1_badnessOf, Cond.static yX1_badnessOf, Cond.code yX1_badnessOf cX1_badnessOf 6 (some .int), Cond.constantLong RX1 65 (100), Cond.constantLong RX1 67 (10000), Cond.methodLink RX1 69 Lib.MathLoose.min_long.x, Cond.static Lib.MathLoose.min_long.x, Cond.code Lib.MathLoose.min_long.x Lib.MathLoose.min_long.code 4 (some .long), Cond.methodLink RX1 42 yX1_settle]
def wsL_law_r11 : List Cond := [Cond.instanceMethod yX1_settle, Cond.selects RX1 yX1_settle yX1_settle, Cond.code yX1_settle cX1_settle 3 none, Cond.fieldLink RX1 56 "BreakSearch$Line" "ugliness" "I", Cond.fieldLink RX1 59 "BreakSearch$Line" "looks" "I", Cond.methodLink RX1 49 yX1_widen, Cond.instanceMethod yX1_widen, Cond.selects RX1 yX1_widen yX1_widen, Cond.code yX1_widen cX1_widen 3 none, Cond.instanceMethod yX1_isToleratedBy, Cond.selects RX1 yX1_isToleratedBy yX1_isToleratedBy, Cond.code yX1_isToleratedBy cX1_isToleratedBy 2 (some .boolean), Cond.methodLink RX3 106 yX3_enterLine, Cond.instanceMethod yX3_enterLine, Cond.selects RX3 yX3_enterLine yX3_enterLine, Cond.code yX3_enterLine cX3_enterLine 13 none, Cond.constantLong RX3 112 (64), Cond.constantLong RX3 122 (128000), Cond.methodLink RX3 114 yX3_demeritsOfLine, Cond.instanceMethod yX3_demeritsOfLine, Cond.selects RX3 yX3_demeritsOfLine yX3_demeritsOfLine, Cond.code yX3_demeritsOfLine cX3_demeritsOfLine 7 (some .long), Cond.constantLong RX3 124 (10), Cond.constantLong RX3 136 (3000)]
def wsL_law_r12 : List Cond := [Cond.instanceMethod yX0_penaltyDemerits, Cond.selects RX0 yX0_penaltyDemerits yX0_penaltyDemerits, Cond.code yX0_penaltyDemerits cX0_penaltyDemerits 4 (some .long), Cond.instanceMethod yX0_isMarked, Cond.selects RX0 yX0_isMarked yX0_isMarked, Cond.code yX0_isMarked cX0_isMarked 2 (some .boolean), Cond.static yX1_isUnlike, Cond.code yX1_isUnlike cX1_isUnlike 2 (some .boolean), Cond.methodLink RX1 72 Lib.Math.abs.name, Cond.static Lib.Math.abs.name, Cond.code Lib.Math.abs.name Lib.Math.abs.code 1 (some .int), Cond.instanceMethod yX0_hasToBreakAt, Cond.selects RX0 yX0_hasToBreakAt yX0_hasToBreakAt, Cond.code yX0_hasToBreakAt cX0_hasToBreakAt 2 (some .boolean), Cond.instanceMethod yX3_tell, Cond.selects RX3 yX3_tell yX3_tell, Cond.code yX3_tell cX3_tell 6 none, Cond.methodLink RX3 144 yJ9_floorDiv_f86c9, Cond.static yJ9_floorDiv_f86c9, Cond.initialized RJ9, Cond.code yJ9_floorDiv_f86c9 cJ9_floorDiv_f86c9 6 (some .long), Cond.instanceMethod yX4_append, Cond.selects RX4 yX4_append yX4_append, Cond.code yX4_append cX4_append 3 none]
def wsL_law_r13 : List Cond := [Cond.methodLink RL 49 yX6_run, Cond.instanceMethod yX6_run, Cond.selects RX6 yX6_run yX6_run, Cond.code yX6_run cX6_run 2 (some .int), Cond.fieldLink RX6 139 "BreakSearchModel" "told" "I", Cond.fieldLink RX6 136 "BreakSearchModel" "sum" "J", Cond.fieldLink RX6 142 "BreakSearchModel" "pass" "I", Cond.methodLink RX6 145 yX6_search, Cond.instanceMethod yX6_search, Cond.selects RX6 yX6_search yX6_search, Cond.code yX6_search cX6_search 6 none, Cond.methodLink RX6 105 yX6_sumUp, Cond.instanceMethod yX6_sumUp, Cond.selects RX6 yX6_sumUp yX6_sumUp, Cond.code yX6_sumUp cX6_sumUp 3 none, Cond.methodLink RX6 108 yX6_mayBreak, Cond.instanceMethod yX6_mayBreak, Cond.selects RX6 yX6_mayBreak yX6_mayBreak, Cond.code yX6_mayBreak cX6_mayBreak 3 (some .boolean), Cond.methodLink RX6 112 yX6_goFrom, Cond.instanceMethod yX6_goFrom, Cond.selects RX6 yX6_goFrom yX6_goFrom, Cond.code yX6_goFrom cX6_goFrom 18 none, Cond.fieldLink RX6 84 "BreakSearchModel" "sort" "I"]
def wsL_law_r14 : List Cond := [Cond.fieldLink RX6 101 "BreakSearchModel" "demerit" "J", Cond.constantLong RX6 128 (3000), Cond.constantLong RX6 130 (2000), Cond.methodLink RX6 116 yX6_mustBreak, Cond.instanceMethod yX6_mustBreak, Cond.selects RX6 yX6_mustBreak yX6_mustBreak, Cond.code yX6_mustBreak cX6_mustBreak 2 (some .boolean), Cond.methodLink RX6 120 yX6_isLine, Cond.instanceMethod yX6_isLine, Cond.selects RX6 yX6_isLine yX6_isLine, Cond.code yX6_isLine cX6_isLine 14 (some .boolean), Cond.fieldLink RX6 78 "BreakSearchModel" "lack" "I", Cond.fieldLink RX6 81 "BreakSearchModel" "bad" "I", Cond.constantLong RX6 87 (10000), Cond.constantLong RX6 89 (100), Cond.constantLong RX6 95 (2), Cond.constantLong RX6 97 (-2), Cond.constantLong RX6 99 (10), Cond.methodLink RX6 91 yX6_cube, Cond.static yX6_cube, Cond.code yX6_cube cX6_cube 2 (some .long), Cond.methodLink RX6 124 yX6_index, Cond.static yX6_index, Cond.code yX6_index cX6_index 3 (some .int)]
def wsL_law_r15 : List Cond := [Cond.methodLink RX6 132 yX6_keep, Cond.instanceMethod yX6_keep, Cond.selects RX6 yX6_keep yX6_keep, Cond.code yX6_keep cX6_keep 7 none, Cond.methodLink RX6 149 yX6_tell, Cond.instanceMethod yX6_tell, Cond.selects RX6 yX6_tell yX6_tell, Cond.code yX6_tell cX6_tell 7 none, Cond.methodLink RL 50 yX5_loose, Cond.instanceMethod yX5_loose, Cond.selects RX5 yX5_loose yX5_loose, Cond.code yX5_loose cX5_loose 2 (some .int), Cond.methodLink RL 53 yX6_loose, Cond.instanceMethod yX6_loose, Cond.selects RX6 yX6_loose yX6_loose, Cond.code yX6_loose cX6_loose 2 (some .int), Cond.methodLink RL 54 yX5_lines, Cond.instanceMethod yX5_lines, Cond.selects RX5 yX5_lines yX5_lines, Cond.code yX5_lines cX5_lines 1 (some .int), Cond.methodLink RL 57 yX6_lines, Cond.instanceMethod yX6_lines, Cond.selects RX6 yX6_lines yX6_lines, Cond.code yX6_lines cX6_lines 1 (some .int)]
def wsL_law_r16 : List Cond := [Cond.methodLink RL 58 yX5_at, Cond.instanceMethod yX5_at, Cond.selects RX5 yX5_at yX5_at, Cond.code yX5_at cX5_at 2 (some .int), Cond.instanceMethod yX4_hasLine, Cond.selects RX4 yX4_hasLine yX4_hasLine, Cond.code yX4_hasLine cX4_hasLine 2 (some .boolean), Cond.methodLink RL 61 yX6_at, Cond.instanceMethod yX6_at, Cond.selects RX6 yX6_at yX6_at, Cond.code yX6_at cX6_at 2 (some .int), Cond.methodLink RL 62 yX5_lacks, Cond.instanceMethod yX5_lacks, Cond.selects RX5 yX5_lacks yX5_lacks, Cond.code yX5_lacks cX5_lacks 2 (some .int), Cond.methodLink RL 65 yX6_lacks, Cond.instanceMethod yX6_lacks, Cond.selects RX6 yX6_lacks yX6_lacks, Cond.code yX6_lacks cX6_lacks 2 (some .int), Cond.methodLink RL 66 yX5_badness, Cond.instanceMethod yX5_badness, Cond.selects RX5 yX5_badness yX5_badness, Cond.code yX5_badness cX5_badness 2 (some .int), Cond.methodLink RL 69 yX6_badness]
def wsL_law_r17 : List Cond := [Cond.instanceMethod yX6_badness, Cond.selects RX6 yX6_badness yX6_badness, Cond.code yX6_badness cX6_badness 2 (some .int), Cond.methodLink RL 70 yX5_classOf, Cond.instanceMethod yX5_classOf, Cond.selects RX5 yX5_classOf yX5_classOf, Cond.code yX5_classOf cX5_classOf 2 (some .int), Cond.methodLink RL 73 yX6_classOf, Cond.instanceMethod yX6_classOf, Cond.selects RX6 yX6_classOf yX6_classOf, Cond.code yX6_classOf cX6_classOf 2 (some .int), Cond.methodLink RL 74 yX5_demerits, Cond.instanceMethod yX5_demerits, Cond.selects RX5 yX5_demerits yX5_demerits, Cond.code yX5_demerits cX5_demerits 1 (some .long), Cond.methodLink RL 78 yX6_demerits, Cond.instanceMethod yX6_demerits, Cond.selects RX6 yX6_demerits yX6_demerits, Cond.code yX6_demerits cX6_demerits 1 (some .long), Cond.methodLink RL 79 yX5_pass, Cond.instanceMethod yX5_pass, Cond.selects RX5 yX5_pass yX5_pass, Cond.code yX5_pass cX5_pass 1 (some .int), Cond.methodLink RL 82 yX6_pass]
def wsL_law_r18 : List Cond := [Cond.instanceMethod yX6_pass, Cond.selects RX6 yX6_pass yX6_pass, Cond.code yX6_pass cX6_pass 1 (some .int), Cond.methodLink RL 83 yX5_clear, Cond.instanceMethod yX5_clear, Cond.selects RX5 yX5_clear yX5_clear, Cond.code yX5_clear cX5_clear 2 (some .int), Cond.methodLink RL 86 yX6_clear, Cond.instanceMethod yX6_clear, Cond.selects RX6 yX6_clear yX6_clear, Cond.code yX6_clear cX6_clear 2 (some .int)]
def wsL_law : List Cond := (wsL_law_r1 ++ (wsL_law_r2 ++ (wsL_law_r3 ++ (wsL_law_r4 ++ (wsL_law_r5 ++ (wsL_law_r6 ++ (wsL_law_r7 ++ (wsL_law_r8 ++ (wsL_law_r9 ++ (wsL_law_r10 ++ (wsL_law_r11 ++ (wsL_law_r12 ++ (wsL_law_r13 ++ (wsL_law_r14 ++ (wsL_law_r15 ++ (wsL_law_r16 ++ (wsL_law_r17 ++ wsL_law_r18))))))))))))))))) ++ wsX50 ++ wsX60 ++ wsX00 ++ wsX20 ++ wsX30 ++ wsX40 ++ wsX10 ++ ([] : List Cond)
theorem inlX0 : ∀ w ∈ wsX00, w ∈ wsL_law := fun _ h => List.mem_append_left _ (List.mem_append_left _ (List.mem_append_left _ (List.mem_append_left _ (List.mem_append_left _ (List.mem_append_right _ h)))))
theorem inlX1 : ∀ w ∈ wsX10, w ∈ wsL_law := fun _ h => List.mem_append_left _ (List.mem_append_right _ h)
theorem inlX2 : ∀ w ∈ wsX20, w ∈ wsL_law := fun _ h => List.mem_append_left _ (List.mem_append_left _ (List.mem_append_left _ (List.mem_append_left _ (List.mem_append_right _ h))))
theorem inlX3 : ∀ w ∈ wsX30, w ∈ wsL_law := fun _ h => List.mem_append_left _ (List.mem_append_left _ (List.mem_append_left _ (List.mem_append_right _ h)))
theorem inlX4 : ∀ w ∈ wsX40, w ∈ wsL_law := fun _ h => List.mem_append_left _ (List.mem_append_left _ (List.mem_append_right _ h))
theorem inlX5 : ∀ w ∈ wsX50, w ∈ wsL_law := fun _ h => List.mem_append_left _ (List.mem_append_left _ (List.mem_append_left _ (List.mem_append_left _ (List.mem_append_left _ (List.mem_append_left _ (List.mem_append_left _ (List.mem_append_right _ h)))))))
theorem inlX6 : ∀ w ∈ wsX60, w ∈ wsL_law := fun _ h => List.mem_append_left _ (List.mem_append_left _ (List.mem_append_left _ (List.mem_append_left _ (List.mem_append_left _ (List.mem_append_left _ (List.mem_append_right _ h))))))
theorem inJ9 : ∀ w ∈ wsJ90, w ∈ lw_tbl := by decide +kernel
theorem inJ7 : ∀ w ∈ wsJ70, w ∈ lw_tbl := by decide +kernel
abbrev vwCl : List vw_C := [(RX0, TX0, 8), (RX1, TX1, 4), (RX2, TX2, 2), (RX3, TX3, 6), (RX4, TX4, 7), (RX5, TX5, 4), (RX6, TX6, 26)]
end
section
theorem dX0_init_0 : decode cX0_init 0 = .ok (.aload_n 0, 1) := by decide +kernel
theorem dX0_init_1 : decode cX0_init 1 = .ok (.invokespecial 3, 3) := by decide +kernel
theorem dX0_init_4 : decode cX0_init 4 = .ok (.aload_n 0, 1) := by decide +kernel
theorem dX0_init_5 : decode cX0_init 5 = .ok (.bipush 100, 2) := by decide +kernel
theorem dX0_init_7 : decode cX0_init 7 = .ok (.newarray .int, 2) := by decide +kernel
theorem dX0_init_9 : decode cX0_init 9 = .ok (.putfield 9, 3) := by decide +kernel
theorem dX0_init_12 : decode cX0_init 12 = .ok (.aload_n 0, 1) := by decide +kernel
theorem dX0_init_13 : decode cX0_init 13 = .ok (.bipush 100, 2) := by decide +kernel
theorem dX0_init_15 : decode cX0_init 15 = .ok (.newarray .int, 2) := by decide +kernel
theorem dX0_init_17 : decode cX0_init 17 = .ok (.putfield 15, 3) := by decide +kernel
theorem dX0_init_20 : decode cX0_init 20 = .ok (.aload_n 0, 1) := by decide +kernel
theorem dX0_init_21 : decode cX0_init 21 = .ok (.bipush 100, 2) := by decide +kernel
theorem dX0_init_23 : decode cX0_init 23 = .ok (.newarray .int, 2) := by decide +kernel
theorem dX0_init_25 : decode cX0_init 25 = .ok (.putfield 18, 3) := by decide +kernel
theorem dX0_init_28 : decode cX0_init 28 = .ok (.aload_n 0, 1) := by decide +kernel
theorem dX0_init_29 : decode cX0_init 29 = .ok (.bipush 100, 2) := by decide +kernel
theorem dX0_init_31 : decode cX0_init 31 = .ok (.newarray .boolean, 2) := by decide +kernel
theorem dX0_init_33 : decode cX0_init 33 = .ok (.putfield 21, 3) := by decide +kernel
theorem dX0_init_36 : decode cX0_init 36 = .ok (.aload_n 0, 1) := by decide +kernel
theorem dX0_init_37 : decode cX0_init 37 = .ok (.bipush 101, 2) := by decide +kernel
theorem dX0_init_39 : decode cX0_init 39 = .ok (.newarray .int, 2) := by decide +kernel
theorem dX0_init_41 : decode cX0_init 41 = .ok (.putfield 25, 3) := by decide +kernel
theorem dX0_init_44 : decode cX0_init 44 = .ok (.aload_n 0, 1) := by decide +kernel
theorem dX0_init_45 : decode cX0_init 45 = .ok (.bipush 101, 2) := by decide +kernel
theorem dX0_init_47 : decode cX0_init 47 = .ok (.newarray .int, 2) := by decide +kernel
theorem dX0_init_49 : decode cX0_init 49 = .ok (.putfield 28, 3) := by decide +kernel
theorem dX0_init_52 : decode cX0_init 52 = .ok (.aload_n 0, 1) := by decide +kernel
theorem dX0_init_53 : decode cX0_init 53 = .ok (.bipush 101, 2) := by decide +kernel
theorem dX0_init_55 : decode cX0_init 55 = .ok (.newarray .int, 2) := by decide +kernel
theorem dX0_init_57 : decode cX0_init 57 = .ok (.putfield 31, 3) := by decide +kernel
theorem dX0_init_60 : decode cX0_init 60 = .ok (.return_, 1) := by decide +kernel
theorem dX0_append_0 : decode cX0_append 0 = .ok (.aload_n 0, 1) := by decide +kernel
theorem dX0_append_1 : decode cX0_append 1 = .ok (.getfield 34, 3) := by decide +kernel
theorem dX0_append_4 : decode cX0_append 4 = .ok (.bipush 100, 2) := by decide +kernel
theorem dX0_append_6 : decode cX0_append 6 = .ok (.if_icmp .lt 6, 3) := by decide +kernel
theorem dX0_append_9 : decode cX0_append 9 = .ok (.bipush (-2), 2) := by decide +kernel
theorem dX0_append_11 : decode cX0_append 11 = .ok (.ireturn, 1) := by decide +kernel
theorem dX0_append_12 : decode cX0_append 12 = .ok (.aload_n 0, 1) := by decide +kernel
theorem dX0_append_13 : decode cX0_append 13 = .ok (.getfield 34, 3) := by decide +kernel
theorem dX0_append_16 : decode cX0_append 16 = .ok (.istore 5, 2) := by decide +kernel
theorem dX0_append_18 : decode cX0_append 18 = .ok (.aload_n 0, 1) := by decide +kernel
theorem dX0_append_19 : decode cX0_append 19 = .ok (.getfield 9, 3) := by decide +kernel
theorem dX0_append_22 : decode cX0_append 22 = .ok (.iload 5, 2) := by decide +kernel
theorem dX0_append_24 : decode cX0_append 24 = .ok (.iload_n 1, 1) := by decide +kernel
theorem dX0_append_25 : decode cX0_append 25 = .ok (.iastore, 1) := by decide +kernel
theorem dX0_append_26 : decode cX0_append 26 = .ok (.aload_n 0, 1) := by decide +kernel
theorem dX0_append_27 : decode cX0_append 27 = .ok (.getfield 25, 3) := by decide +kernel
theorem dX0_append_30 : decode cX0_append 30 = .ok (.iload 5, 2) := by decide +kernel
theorem dX0_append_32 : decode cX0_append 32 = .ok (.iconst 1, 1) := by decide +kernel
theorem dX0_append_33 : decode cX0_append 33 = .ok (.iadd, 1) := by decide +kernel
theorem dX0_append_34 : decode cX0_append 34 = .ok (.aload_n 0, 1) := by decide +kernel
theorem dX0_append_35 : decode cX0_append 35 = .ok (.getfield 25, 3) := by decide +kernel
theorem dX0_append_38 : decode cX0_append 38 = .ok (.iload 5, 2) := by decide +kernel
theorem dX0_append_40 : decode cX0_append 40 = .ok (.iaload, 1) := by decide +kernel
theorem dX0_append_41 : decode cX0_append 41 = .ok (.iload_n 2, 1) := by decide +kernel
theorem dX0_append_42 : decode cX0_append 42 = .ok (.iadd, 1) := by decide +kernel
theorem dX0_append_43 : decode cX0_append 43 = .ok (.iastore, 1) := by decide +kernel
theorem dX0_append_44 : decode cX0_append 44 = .ok (.aload_n 0, 1) := by decide +kernel
theorem dX0_append_45 : decode cX0_append 45 = .ok (.getfield 28, 3) := by decide +kernel
theorem dX0_append_48 : decode cX0_append 48 = .ok (.iload 5, 2) := by decide +kernel
theorem dX0_append_50 : decode cX0_append 50 = .ok (.iconst 1, 1) := by decide +kernel
theorem dX0_append_51 : decode cX0_append 51 = .ok (.iadd, 1) := by decide +kernel
theorem dX0_append_52 : decode cX0_append 52 = .ok (.aload_n 0, 1) := by decide +kernel
theorem dX0_append_53 : decode cX0_append 53 = .ok (.getfield 28, 3) := by decide +kernel
theorem dX0_append_56 : decode cX0_append 56 = .ok (.iload 5, 2) := by decide +kernel
theorem dX0_append_58 : decode cX0_append 58 = .ok (.iaload, 1) := by decide +kernel
theorem dX0_append_59 : decode cX0_append 59 = .ok (.iload_n 3, 1) := by decide +kernel
theorem dX0_append_60 : decode cX0_append 60 = .ok (.iadd, 1) := by decide +kernel
theorem dX0_append_61 : decode cX0_append 61 = .ok (.iastore, 1) := by decide +kernel
theorem dX0_append_62 : decode cX0_append 62 = .ok (.aload_n 0, 1) := by decide +kernel
theorem dX0_append_63 : decode cX0_append 63 = .ok (.getfield 31, 3) := by decide +kernel
theorem dX0_append_66 : decode cX0_append 66 = .ok (.iload 5, 2) := by decide +kernel
theorem dX0_append_68 : decode cX0_append 68 = .ok (.iconst 1, 1) := by decide +kernel
theorem dX0_append_69 : decode cX0_append 69 = .ok (.iadd, 1) := by decide +kernel
theorem dX0_append_70 : decode cX0_append 70 = .ok (.aload_n 0, 1) := by decide +kernel
theorem dX0_append_71 : decode cX0_append 71 = .ok (.getfield 31, 3) := by decide +kernel
theorem dX0_append_74 : decode cX0_append 74 = .ok (.iload 5, 2) := by decide +kernel
theorem dX0_append_76 : decode cX0_append 76 = .ok (.iaload, 1) := by decide +kernel
theorem dX0_append_77 : decode cX0_append 77 = .ok (.iload 4, 2) := by decide +kernel
theorem dX0_append_79 : decode cX0_append 79 = .ok (.iadd, 1) := by decide +kernel
theorem dX0_append_80 : decode cX0_append 80 = .ok (.iastore, 1) := by decide +kernel
theorem dX0_append_81 : decode cX0_append 81 = .ok (.aload_n 0, 1) := by decide +kernel
theorem dX0_append_82 : decode cX0_append 82 = .ok (.iload 5, 2) := by decide +kernel
theorem dX0_append_84 : decode cX0_append 84 = .ok (.iconst 1, 1) := by decide +kernel
theorem dX0_append_85 : decode cX0_append 85 = .ok (.iadd, 1) := by decide +kernel
theorem dX0_append_86 : decode cX0_append 86 = .ok (.putfield 34, 3) := by decide +kernel
theorem dX0_append_89 : decode cX0_append 89 = .ok (.iload 5, 2) := by decide +kernel
theorem dX0_append_91 : decode cX0_append 91 = .ok (.ireturn, 1) := by decide +kernel
set_option maxRecDepth 20000 in
theorem ggX0_appendPenalty_X0_append : GoodIn wsX0_appendPenalty wsX0_append := goodIn_r _ [8, 9, 10, 11, 12, 13, 14, 15, 16, 17, 18, 19, 20, 21] (by decide +kernel) (by decide +kernel)
set_option maxRecDepth 20000 in
theorem gX0_appendPenalty_X0_append : GoodIn wsX0_appendPenalty (wsV RX0 38 RX0 yX0_append wsX0_append) := goodIn_app (goodIn_of _ (by decide +kernel)) ggX0_appendPenalty_X0_append
theorem dX0_appendPenalty_0 : decode cX0_appendPenalty 0 = .ok (.aload_n 0, 1) := by decide +kernel
theorem dX0_appendPenalty_1 : decode cX0_appendPenalty 1 = .ok (.iconst 2, 1) := by decide +kernel
theorem dX0_appendPenalty_2 : decode cX0_appendPenalty 2 = .ok (.iconst 0, 1) := by decide +kernel
theorem dX0_appendPenalty_3 : decode cX0_appendPenalty 3 = .ok (.iconst 0, 1) := by decide +kernel
theorem dX0_appendPenalty_4 : decode cX0_appendPenalty 4 = .ok (.iconst 0, 1) := by decide +kernel
theorem dX0_appendPenalty_5 : decode cX0_appendPenalty 5 = .ok (.invokevirtual 38, 3) := by decide +kernel
theorem dX0_appendPenalty_8 : decode cX0_appendPenalty 8 = .ok (.istore 4, 2) := by decide +kernel
theorem dX0_appendPenalty_10 : decode cX0_appendPenalty 10 = .ok (.iload 4, 2) := by decide +kernel
theorem dX0_appendPenalty_12 : decode cX0_appendPenalty 12 = .ok (.ifCond .lt 27, 3) := by decide +kernel
theorem dX0_appendPenalty_15 : decode cX0_appendPenalty 15 = .ok (.aload_n 0, 1) := by decide +kernel
theorem dX0_appendPenalty_16 : decode cX0_appendPenalty 16 = .ok (.getfield 15, 3) := by decide +kernel
theorem dX0_appendPenalty_19 : decode cX0_appendPenalty 19 = .ok (.iload 4, 2) := by decide +kernel
theorem dX0_appendPenalty_21 : decode cX0_appendPenalty 21 = .ok (.iload_n 1, 1) := by decide +kernel
theorem dX0_appendPenalty_22 : decode cX0_appendPenalty 22 = .ok (.iastore, 1) := by decide +kernel
theorem dX0_appendPenalty_23 : decode cX0_appendPenalty 23 = .ok (.aload_n 0, 1) := by decide +kernel
theorem dX0_appendPenalty_24 : decode cX0_appendPenalty 24 = .ok (.getfield 18, 3) := by decide +kernel
theorem dX0_appendPenalty_27 : decode cX0_appendPenalty 27 = .ok (.iload 4, 2) := by decide +kernel
theorem dX0_appendPenalty_29 : decode cX0_appendPenalty 29 = .ok (.iload_n 2, 1) := by decide +kernel
theorem dX0_appendPenalty_30 : decode cX0_appendPenalty 30 = .ok (.iastore, 1) := by decide +kernel
theorem dX0_appendPenalty_31 : decode cX0_appendPenalty 31 = .ok (.aload_n 0, 1) := by decide +kernel
theorem dX0_appendPenalty_32 : decode cX0_appendPenalty 32 = .ok (.getfield 21, 3) := by decide +kernel
theorem dX0_appendPenalty_35 : decode cX0_appendPenalty 35 = .ok (.iload 4, 2) := by decide +kernel
theorem dX0_appendPenalty_37 : decode cX0_appendPenalty 37 = .ok (.iload_n 3, 1) := by decide +kernel
theorem dX0_appendPenalty_38 : decode cX0_appendPenalty 38 = .ok (.bastore, 1) := by decide +kernel
theorem dX0_appendPenalty_39 : decode cX0_appendPenalty 39 = .ok (.iload 4, 2) := by decide +kernel
theorem dX0_appendPenalty_41 : decode cX0_appendPenalty 41 = .ok (.ireturn, 1) := by decide +kernel
theorem dX0_isEnd_0 : decode cX0_isEnd 0 = .ok (.iload_n 1, 1) := by decide +kernel
theorem dX0_isEnd_1 : decode cX0_isEnd 1 = .ok (.aload_n 0, 1) := by decide +kernel
theorem dX0_isEnd_2 : decode cX0_isEnd 2 = .ok (.getfield 34, 3) := by decide +kernel
theorem dX0_isEnd_5 : decode cX0_isEnd 5 = .ok (.if_icmp .lt 7, 3) := by decide +kernel
theorem dX0_isEnd_8 : decode cX0_isEnd 8 = .ok (.iconst 1, 1) := by decide +kernel
theorem dX0_isEnd_9 : decode cX0_isEnd 9 = .ok (.goto 4, 3) := by decide +kernel
theorem dX0_isEnd_12 : decode cX0_isEnd 12 = .ok (.iconst 0, 1) := by decide +kernel
theorem dX0_isEnd_13 : decode cX0_isEnd 13 = .ok (.ireturn, 1) := by decide +kernel
theorem dX0_isKind_0 : decode cX0_isKind 0 = .ok (.iload_n 1, 1) := by decide +kernel
theorem dX0_isKind_1 : decode cX0_isKind 1 = .ok (.ifCond .lt 25, 3) := by decide +kernel
theorem dX0_isKind_4 : decode cX0_isKind 4 = .ok (.iload_n 1, 1) := by decide +kernel
theorem dX0_isKind_5 : decode cX0_isKind 5 = .ok (.aload_n 0, 1) := by decide +kernel
theorem dX0_isKind_6 : decode cX0_isKind 6 = .ok (.getfield 34, 3) := by decide +kernel
theorem dX0_isKind_9 : decode cX0_isKind 9 = .ok (.if_icmp .ge 17, 3) := by decide +kernel
theorem dX0_isKind_12 : decode cX0_isKind 12 = .ok (.aload_n 0, 1) := by decide +kernel
theorem dX0_isKind_13 : decode cX0_isKind 13 = .ok (.getfield 9, 3) := by decide +kernel
theorem dX0_isKind_16 : decode cX0_isKind 16 = .ok (.iload_n 1, 1) := by decide +kernel
theorem dX0_isKind_17 : decode cX0_isKind 17 = .ok (.iaload, 1) := by decide +kernel
theorem dX0_isKind_18 : decode cX0_isKind 18 = .ok (.iload_n 2, 1) := by decide +kernel
theorem dX0_isKind_19 : decode cX0_isKind 19 = .ok (.if_icmp .ne 7, 3) := by decide +kernel
theorem dX0_isKind_22 : decode cX0_isKind 22 = .ok (.iconst 1, 1) := by decide +kernel
theorem dX0_isKind_23 : decode cX0_isKind 23 = .ok (.goto 4, 3) := by decide +kernel
theorem dX0_isKind_26 : decode cX0_isKind 26 = .ok (.iconst 0, 1) := by decide +kernel
theorem dX0_isKind_27 : decode cX0_isKind 27 = .ok (.ireturn, 1) := by decide +kernel
set_option maxRecDepth 20000 in
theorem ggX0_isMarked_X0_isKind : GoodIn wsX0_isMarked wsX0_isKind := goodIn_r _ [6, 7, 8, 9, 10, 11, 12, 13, 14, 15, 16] (by decide +kernel) (by decide +kernel)
set_option maxRecDepth 20000 in
theorem gX0_isMarked_X0_isKind : GoodIn wsX0_isMarked (wsV RX0 42 RX0 yX0_isKind wsX0_isKind) := goodIn_app (goodIn_of _ (by decide +kernel)) ggX0_isMarked_X0_isKind
theorem dX0_isMarked_0 : decode cX0_isMarked 0 = .ok (.aload_n 0, 1) := by decide +kernel
theorem dX0_isMarked_1 : decode cX0_isMarked 1 = .ok (.iload_n 1, 1) := by decide +kernel
theorem dX0_isMarked_2 : decode cX0_isMarked 2 = .ok (.iconst 2, 1) := by decide +kernel
theorem dX0_isMarked_3 : decode cX0_isMarked 3 = .ok (.invokevirtual 42, 3) := by decide +kernel
theorem dX0_isMarked_6 : decode cX0_isMarked 6 = .ok (.ifCond .eq 16, 3) := by decide +kernel
theorem dX0_isMarked_9 : decode cX0_isMarked 9 = .ok (.aload_n 0, 1) := by decide +kernel
theorem dX0_isMarked_10 : decode cX0_isMarked 10 = .ok (.getfield 21, 3) := by decide +kernel
theorem dX0_isMarked_13 : decode cX0_isMarked 13 = .ok (.iload_n 1, 1) := by decide +kernel
theorem dX0_isMarked_14 : decode cX0_isMarked 14 = .ok (.baload, 1) := by decide +kernel
theorem dX0_isMarked_15 : decode cX0_isMarked 15 = .ok (.ifCond .eq 7, 3) := by decide +kernel
theorem dX0_isMarked_18 : decode cX0_isMarked 18 = .ok (.iconst 1, 1) := by decide +kernel
theorem dX0_isMarked_19 : decode cX0_isMarked 19 = .ok (.goto 4, 3) := by decide +kernel
theorem dX0_isMarked_22 : decode cX0_isMarked 22 = .ok (.iconst 0, 1) := by decide +kernel
theorem dX0_isMarked_23 : decode cX0_isMarked 23 = .ok (.ireturn, 1) := by decide +kernel
set_option maxRecDepth 20000 in
theorem ggX0_mayBreakAt_X0_isKind : GoodIn wsX0_mayBreakAt wsX0_isKind := goodIn_r _ [7, 8, 9, 14, 15, 16, 17, 18, 19, 20, 21] (by decide +kernel) (by decide +kernel)
set_option maxRecDepth 20000 in
theorem gX0_mayBreakAt_X0_isKind : GoodIn wsX0_mayBreakAt (wsV RX0 42 RX0 yX0_isKind wsX0_isKind) := goodIn_app (goodIn_of _ (by decide +kernel)) ggX0_mayBreakAt_X0_isKind
set_option maxRecDepth 20000 in
theorem ggX0_mayBreakAt_X0_isEnd : GoodIn wsX0_mayBreakAt wsX0_isEnd := goodIn_r _ [13, 8, 14, 15, 16, 17, 18, 19, 20, 21] (by decide +kernel) (by decide +kernel)
set_option maxRecDepth 20000 in
theorem gX0_mayBreakAt_X0_isEnd : GoodIn wsX0_mayBreakAt (wsV RX0 46 RX0 yX0_isEnd wsX0_isEnd) := goodIn_app (goodIn_of _ (by decide +kernel)) ggX0_mayBreakAt_X0_isEnd
theorem dX0_mayBreakAt_0 : decode cX0_mayBreakAt 0 = .ok (.aload_n 0, 1) := by decide +kernel
theorem dX0_mayBreakAt_1 : decode cX0_mayBreakAt 1 = .ok (.iload_n 1, 1) := by decide +kernel
theorem dX0_mayBreakAt_2 : decode cX0_mayBreakAt 2 = .ok (.iconst 1, 1) := by decide +kernel
theorem dX0_mayBreakAt_3 : decode cX0_mayBreakAt 3 = .ok (.invokevirtual 42, 3) := by decide +kernel
theorem dX0_mayBreakAt_6 : decode cX0_mayBreakAt 6 = .ok (.ifCond .eq 12, 3) := by decide +kernel
theorem dX0_mayBreakAt_9 : decode cX0_mayBreakAt 9 = .ok (.aload_n 0, 1) := by decide +kernel
theorem dX0_mayBreakAt_10 : decode cX0_mayBreakAt 10 = .ok (.iload_n 1, 1) := by decide +kernel
theorem dX0_mayBreakAt_11 : decode cX0_mayBreakAt 11 = .ok (.iconst 1, 1) := by decide +kernel
theorem dX0_mayBreakAt_12 : decode cX0_mayBreakAt 12 = .ok (.isub, 1) := by decide +kernel
theorem dX0_mayBreakAt_13 : decode cX0_mayBreakAt 13 = .ok (.iconst 0, 1) := by decide +kernel
theorem dX0_mayBreakAt_14 : decode cX0_mayBreakAt 14 = .ok (.invokevirtual 42, 3) := by decide +kernel
theorem dX0_mayBreakAt_17 : decode cX0_mayBreakAt 17 = .ok (.ireturn, 1) := by decide +kernel
theorem dX0_mayBreakAt_18 : decode cX0_mayBreakAt 18 = .ok (.aload_n 0, 1) := by decide +kernel
theorem dX0_mayBreakAt_19 : decode cX0_mayBreakAt 19 = .ok (.iload_n 1, 1) := by decide +kernel
theorem dX0_mayBreakAt_20 : decode cX0_mayBreakAt 20 = .ok (.iconst 2, 1) := by decide +kernel
theorem dX0_mayBreakAt_21 : decode cX0_mayBreakAt 21 = .ok (.invokevirtual 42, 3) := by decide +kernel
theorem dX0_mayBreakAt_24 : decode cX0_mayBreakAt 24 = .ok (.ifCond .eq 34, 3) := by decide +kernel
theorem dX0_mayBreakAt_27 : decode cX0_mayBreakAt 27 = .ok (.aload_n 0, 1) := by decide +kernel
theorem dX0_mayBreakAt_28 : decode cX0_mayBreakAt 28 = .ok (.getfield 15, 3) := by decide +kernel
theorem dX0_mayBreakAt_31 : decode cX0_mayBreakAt 31 = .ok (.iload_n 1, 1) := by decide +kernel
theorem dX0_mayBreakAt_32 : decode cX0_mayBreakAt 32 = .ok (.iaload, 1) := by decide +kernel
theorem dX0_mayBreakAt_33 : decode cX0_mayBreakAt 33 = .ok (.sipush 10000, 3) := by decide +kernel
theorem dX0_mayBreakAt_36 : decode cX0_mayBreakAt 36 = .ok (.if_icmp .ge 20, 3) := by decide +kernel
theorem dX0_mayBreakAt_39 : decode cX0_mayBreakAt 39 = .ok (.iload_n 2, 1) := by decide +kernel
theorem dX0_mayBreakAt_40 : decode cX0_mayBreakAt 40 = .ok (.ifCond .ne 12, 3) := by decide +kernel
theorem dX0_mayBreakAt_43 : decode cX0_mayBreakAt 43 = .ok (.aload_n 0, 1) := by decide +kernel
theorem dX0_mayBreakAt_44 : decode cX0_mayBreakAt 44 = .ok (.getfield 21, 3) := by decide +kernel
theorem dX0_mayBreakAt_47 : decode cX0_mayBreakAt 47 = .ok (.iload_n 1, 1) := by decide +kernel
theorem dX0_mayBreakAt_48 : decode cX0_mayBreakAt 48 = .ok (.baload, 1) := by decide +kernel
theorem dX0_mayBreakAt_49 : decode cX0_mayBreakAt 49 = .ok (.ifCond .ne 7, 3) := by decide +kernel
theorem dX0_mayBreakAt_52 : decode cX0_mayBreakAt 52 = .ok (.iconst 1, 1) := by decide +kernel
theorem dX0_mayBreakAt_53 : decode cX0_mayBreakAt 53 = .ok (.goto 4, 3) := by decide +kernel
theorem dX0_mayBreakAt_56 : decode cX0_mayBreakAt 56 = .ok (.iconst 0, 1) := by decide +kernel
theorem dX0_mayBreakAt_57 : decode cX0_mayBreakAt 57 = .ok (.ireturn, 1) := by decide +kernel
theorem dX0_mayBreakAt_58 : decode cX0_mayBreakAt 58 = .ok (.aload_n 0, 1) := by decide +kernel
theorem dX0_mayBreakAt_59 : decode cX0_mayBreakAt 59 = .ok (.iload_n 1, 1) := by decide +kernel
theorem dX0_mayBreakAt_60 : decode cX0_mayBreakAt 60 = .ok (.invokevirtual 46, 3) := by decide +kernel
theorem dX0_mayBreakAt_63 : decode cX0_mayBreakAt 63 = .ok (.ireturn, 1) := by decide +kernel
set_option maxRecDepth 20000 in
theorem ggX0_hasToBreakAt_X0_isEnd : GoodIn wsX0_hasToBreakAt wsX0_isEnd := goodIn_r _ [6, 7, 13, 14, 15, 16, 17, 18, 19, 20] (by decide +kernel) (by decide +kernel)
set_option maxRecDepth 20000 in
theorem gX0_hasToBreakAt_X0_isEnd : GoodIn wsX0_hasToBreakAt (wsV RX0 46 RX0 yX0_isEnd wsX0_isEnd) := goodIn_app (goodIn_of _ (by decide +kernel)) ggX0_hasToBreakAt_X0_isEnd
set_option maxRecDepth 20000 in
theorem ggX0_hasToBreakAt_X0_isKind : GoodIn wsX0_hasToBreakAt wsX0_isKind := goodIn_r _ [11, 7, 12, 13, 14, 15, 16, 17, 18, 19, 20] (by decide +kernel) (by decide +kernel)
set_option maxRecDepth 20000 in
theorem gX0_hasToBreakAt_X0_isKind : GoodIn wsX0_hasToBreakAt (wsV RX0 42 RX0 yX0_isKind wsX0_isKind) := goodIn_app (goodIn_of _ (by decide +kernel)) ggX0_hasToBreakAt_X0_isKind
theorem dX0_hasToBreakAt_0 : decode cX0_hasToBreakAt 0 = .ok (.aload_n 0, 1) := by decide +kernel
theorem dX0_hasToBreakAt_1 : decode cX0_hasToBreakAt 1 = .ok (.iload_n 1, 1) := by decide +kernel
theorem dX0_hasToBreakAt_2 : decode cX0_hasToBreakAt 2 = .ok (.invokevirtual 46, 3) := by decide +kernel
theorem dX0_hasToBreakAt_5 : decode cX0_hasToBreakAt 5 = .ok (.ifCond .ne 24, 3) := by decide +kernel
theorem dX0_hasToBreakAt_8 : decode cX0_hasToBreakAt 8 = .ok (.aload_n 0, 1) := by decide +kernel
theorem dX0_hasToBreakAt_9 : decode cX0_hasToBreakAt 9 = .ok (.iload_n 1, 1) := by decide +kernel
theorem dX0_hasToBreakAt_10 : decode cX0_hasToBreakAt 10 = .ok (.iconst 2, 1) := by decide +kernel
theorem dX0_hasToBreakAt_11 : decode cX0_hasToBreakAt 11 = .ok (.invokevirtual 42, 3) := by decide +kernel
theorem dX0_hasToBreakAt_14 : decode cX0_hasToBreakAt 14 = .ok (.ifCond .eq 19, 3) := by decide +kernel
theorem dX0_hasToBreakAt_17 : decode cX0_hasToBreakAt 17 = .ok (.aload_n 0, 1) := by decide +kernel
theorem dX0_hasToBreakAt_18 : decode cX0_hasToBreakAt 18 = .ok (.getfield 15, 3) := by decide +kernel
theorem dX0_hasToBreakAt_21 : decode cX0_hasToBreakAt 21 = .ok (.iload_n 1, 1) := by decide +kernel
theorem dX0_hasToBreakAt_22 : decode cX0_hasToBreakAt 22 = .ok (.iaload, 1) := by decide +kernel
theorem dX0_hasToBreakAt_23 : decode cX0_hasToBreakAt 23 = .ok (.sipush (-10000), 3) := by decide +kernel
theorem dX0_hasToBreakAt_26 : decode cX0_hasToBreakAt 26 = .ok (.if_icmp .ne 7, 3) := by decide +kernel
theorem dX0_hasToBreakAt_29 : decode cX0_hasToBreakAt 29 = .ok (.iconst 1, 1) := by decide +kernel
theorem dX0_hasToBreakAt_30 : decode cX0_hasToBreakAt 30 = .ok (.goto 4, 3) := by decide +kernel
theorem dX0_hasToBreakAt_33 : decode cX0_hasToBreakAt 33 = .ok (.iconst 0, 1) := by decide +kernel
theorem dX0_hasToBreakAt_34 : decode cX0_hasToBreakAt 34 = .ok (.ireturn, 1) := by decide +kernel
theorem dX0_startBehind_0 : decode cX0_startBehind 0 = .ok (.iload_n 1, 1) := by decide +kernel
theorem dX0_startBehind_1 : decode cX0_startBehind 1 = .ok (.ifCond .ge 5, 3) := by decide +kernel
theorem dX0_startBehind_4 : decode cX0_startBehind 4 = .ok (.iconst 0, 1) := by decide +kernel
theorem dX0_startBehind_5 : decode cX0_startBehind 5 = .ok (.ireturn, 1) := by decide +kernel
theorem dX0_startBehind_6 : decode cX0_startBehind 6 = .ok (.iload_n 1, 1) := by decide +kernel
theorem dX0_startBehind_7 : decode cX0_startBehind 7 = .ok (.iconst 1, 1) := by decide +kernel
theorem dX0_startBehind_8 : decode cX0_startBehind 8 = .ok (.iadd, 1) := by decide +kernel
theorem dX0_startBehind_9 : decode cX0_startBehind 9 = .ok (.istore_n 2, 1) := by decide +kernel
theorem dX0_startBehind_10 : decode cX0_startBehind 10 = .ok (.iload_n 2, 1) := by decide +kernel
theorem dX0_startBehind_11 : decode cX0_startBehind 11 = .ok (.aload_n 0, 1) := by decide +kernel
theorem dX0_startBehind_12 : decode cX0_startBehind 12 = .ok (.getfield 34, 3) := by decide +kernel
theorem dX0_startBehind_15 : decode cX0_startBehind 15 = .ok (.if_icmp .ge 18, 3) := by decide +kernel
theorem dX0_startBehind_18 : decode cX0_startBehind 18 = .ok (.aload_n 0, 1) := by decide +kernel
theorem dX0_startBehind_19 : decode cX0_startBehind 19 = .ok (.getfield 9, 3) := by decide +kernel
theorem dX0_startBehind_22 : decode cX0_startBehind 22 = .ok (.iload_n 2, 1) := by decide +kernel
theorem dX0_startBehind_23 : decode cX0_startBehind 23 = .ok (.iaload, 1) := by decide +kernel
theorem dX0_startBehind_24 : decode cX0_startBehind 24 = .ok (.ifCond .eq 9, 3) := by decide +kernel
theorem dX0_startBehind_27 : decode cX0_startBehind 27 = .ok (.iinc 2 1, 3) := by decide +kernel
theorem dX0_startBehind_30 : decode cX0_startBehind 30 = .ok (.goto (-20), 3) := by decide +kernel
theorem dX0_startBehind_33 : decode cX0_startBehind 33 = .ok (.iload_n 2, 1) := by decide +kernel
theorem dX0_startBehind_34 : decode cX0_startBehind 34 = .ok (.ireturn, 1) := by decide +kernel
set_option maxRecDepth 20000 in
theorem ggX0_widthEndingAt_X0_isKind : GoodIn wsX0_widthEndingAt wsX0_isKind := goodIn_r _ [6, 7, 8, 9, 10, 11, 12, 13, 14, 15, 16] (by decide +kernel) (by decide +kernel)
set_option maxRecDepth 20000 in
theorem gX0_widthEndingAt_X0_isKind : GoodIn wsX0_widthEndingAt (wsV RX0 42 RX0 yX0_isKind wsX0_isKind) := goodIn_app (goodIn_of _ (by decide +kernel)) ggX0_widthEndingAt_X0_isKind
theorem dX0_widthEndingAt_0 : decode cX0_widthEndingAt 0 = .ok (.aload_n 0, 1) := by decide +kernel
theorem dX0_widthEndingAt_1 : decode cX0_widthEndingAt 1 = .ok (.iload_n 1, 1) := by decide +kernel
theorem dX0_widthEndingAt_2 : decode cX0_widthEndingAt 2 = .ok (.iconst 2, 1) := by decide +kernel
theorem dX0_widthEndingAt_3 : decode cX0_widthEndingAt 3 = .ok (.invokevirtual 42, 3) := by decide +kernel
theorem dX0_widthEndingAt_6 : decode cX0_widthEndingAt 6 = .ok (.ifCond .eq 12, 3) := by decide +kernel
theorem dX0_widthEndingAt_9 : decode cX0_widthEndingAt 9 = .ok (.aload_n 0, 1) := by decide +kernel
theorem dX0_widthEndingAt_10 : decode cX0_widthEndingAt 10 = .ok (.getfield 18, 3) := by decide +kernel
theorem dX0_widthEndingAt_13 : decode cX0_widthEndingAt 13 = .ok (.iload_n 1, 1) := by decide +kernel
theorem dX0_widthEndingAt_14 : decode cX0_widthEndingAt 14 = .ok (.iaload, 1) := by decide +kernel
theorem dX0_widthEndingAt_15 : decode cX0_widthEndingAt 15 = .ok (.goto 4, 3) := by decide +kernel
theorem dX0_widthEndingAt_18 : decode cX0_widthEndingAt 18 = .ok (.iconst 0, 1) := by decide +kernel
theorem dX0_widthEndingAt_19 : decode cX0_widthEndingAt 19 = .ok (.ireturn, 1) := by decide +kernel
set_option maxRecDepth 20000 in
theorem ggX0_penaltyDemerits_X0_isKind : GoodIn wsX0_penaltyDemerits wsX0_isKind := goodIn_r _ [6, 7, 8, 9, 10, 11, 12, 13, 14, 15, 16] (by decide +kernel) (by decide +kernel)
set_option maxRecDepth 20000 in
theorem gX0_penaltyDemerits_X0_isKind : GoodIn wsX0_penaltyDemerits (wsV RX0 42 RX0 yX0_isKind wsX0_isKind) := goodIn_app (goodIn_of _ (by decide +kernel)) ggX0_penaltyDemerits_X0_isKind
theorem dX0_penaltyDemerits_0 : decode cX0_penaltyDemerits 0 = .ok (.aload_n 0, 1) := by decide +kernel
theorem dX0_penaltyDemerits_1 : decode cX0_penaltyDemerits 1 = .ok (.iload_n 1, 1) := by decide +kernel
theorem dX0_penaltyDemerits_2 : decode cX0_penaltyDemerits 2 = .ok (.iconst 2, 1) := by decide +kernel
theorem dX0_penaltyDemerits_3 : decode cX0_penaltyDemerits 3 = .ok (.invokevirtual 42, 3) := by decide +kernel
theorem dX0_penaltyDemerits_6 : decode cX0_penaltyDemerits 6 = .ok (.ifCond .eq 15, 3) := by decide +kernel
theorem dX0_penaltyDemerits_9 : decode cX0_penaltyDemerits 9 = .ok (.aload_n 0, 1) := by decide +kernel
theorem dX0_penaltyDemerits_10 : decode cX0_penaltyDemerits 10 = .ok (.getfield 15, 3) := by decide +kernel
theorem dX0_penaltyDemerits_13 : decode cX0_penaltyDemerits 13 = .ok (.iload_n 1, 1) := by decide +kernel
theorem dX0_penaltyDemerits_14 : decode cX0_penaltyDemerits 14 = .ok (.iaload, 1) := by decide +kernel
theorem dX0_penaltyDemerits_15 : decode cX0_penaltyDemerits 15 = .ok (.sipush (-10000), 3) := by decide +kernel
theorem dX0_penaltyDemerits_18 : decode cX0_penaltyDemerits 18 = .ok (.if_icmp .ne 5, 3) := by decide +kernel
theorem dX0_penaltyDemerits_21 : decode cX0_penaltyDemerits 21 = .ok (.lconst 0, 1) := by decide +kernel
theorem dX0_penaltyDemerits_22 : decode cX0_penaltyDemerits 22 = .ok (.lreturn, 1) := by decide +kernel
theorem dX0_penaltyDemerits_23 : decode cX0_penaltyDemerits 23 = .ok (.aload_n 0, 1) := by decide +kernel
theorem dX0_penaltyDemerits_24 : decode cX0_penaltyDemerits 24 = .ok (.getfield 15, 3) := by decide +kernel
theorem dX0_penaltyDemerits_27 : decode cX0_penaltyDemerits 27 = .ok (.iload_n 1, 1) := by decide +kernel
theorem dX0_penaltyDemerits_28 : decode cX0_penaltyDemerits 28 = .ok (.iaload, 1) := by decide +kernel
theorem dX0_penaltyDemerits_29 : decode cX0_penaltyDemerits 29 = .ok (.i2l, 1) := by decide +kernel
theorem dX0_penaltyDemerits_30 : decode cX0_penaltyDemerits 30 = .ok (.lstore_n 2, 1) := by decide +kernel
theorem dX0_penaltyDemerits_31 : decode cX0_penaltyDemerits 31 = .ok (.lload_n 2, 1) := by decide +kernel
theorem dX0_penaltyDemerits_32 : decode cX0_penaltyDemerits 32 = .ok (.lconst 0, 1) := by decide +kernel
theorem dX0_penaltyDemerits_33 : decode cX0_penaltyDemerits 33 = .ok (.lcmp, 1) := by decide +kernel
theorem dX0_penaltyDemerits_34 : decode cX0_penaltyDemerits 34 = .ok (.ifCond .ge 10, 3) := by decide +kernel
theorem dX0_penaltyDemerits_37 : decode cX0_penaltyDemerits 37 = .ok (.lload_n 2, 1) := by decide +kernel
theorem dX0_penaltyDemerits_38 : decode cX0_penaltyDemerits 38 = .ok (.lneg, 1) := by decide +kernel
theorem dX0_penaltyDemerits_39 : decode cX0_penaltyDemerits 39 = .ok (.lload_n 2, 1) := by decide +kernel
theorem dX0_penaltyDemerits_40 : decode cX0_penaltyDemerits 40 = .ok (.lmul, 1) := by decide +kernel
theorem dX0_penaltyDemerits_41 : decode cX0_penaltyDemerits 41 = .ok (.goto 6, 3) := by decide +kernel
theorem dX0_penaltyDemerits_44 : decode cX0_penaltyDemerits 44 = .ok (.lload_n 2, 1) := by decide +kernel
theorem dX0_penaltyDemerits_45 : decode cX0_penaltyDemerits 45 = .ok (.lload_n 2, 1) := by decide +kernel
theorem dX0_penaltyDemerits_46 : decode cX0_penaltyDemerits 46 = .ok (.lmul, 1) := by decide +kernel
theorem dX0_penaltyDemerits_47 : decode cX0_penaltyDemerits 47 = .ok (.lreturn, 1) := by decide +kernel
theorem dX1_init_0 : decode cX1_init 0 = .ok (.aload_n 0, 1) := by decide +kernel
theorem dX1_init_1 : decode cX1_init 1 = .ok (.invokespecial 3, 3) := by decide +kernel
theorem dX1_init_4 : decode cX1_init 4 = .ok (.return_, 1) := by decide +kernel
set_option maxRecDepth 20000 in
theorem ggX1_measure_X0_widthEndingAt : GoodIn wsX1_measure wsX0_widthEndingAt := goodIn_r _ [9, 10, 11, 12, 13, 7, 14, 15, 16, 44, 45, 46, 47, 48, 49, 50, 51] (by decide +kernel) (by decide +kernel)
set_option maxRecDepth 20000 in
theorem gX1_measure_X0_widthEndingAt_n21 : GoodIn wsX1_measure (wsX0_widthEndingAt) := ggX1_measure_X0_widthEndingAt
set_option maxRecDepth 20000 in
theorem ggX1_measure_X1_squeeze : GoodIn wsX1_measure wsX1_squeeze := goodIn_r _ [21, 5, 22, 23, 24, 20, 25, 26, 27, 28, 29, 3, 30, 31, 32, 33, 34, 35, 36, 52, 53, 54, 55] (by decide +kernel) (by decide +kernel)
set_option maxRecDepth 20000 in
theorem gX1_measure_X1_squeeze : GoodIn wsX1_measure (wsV RX1 34 RX1 yX1_squeeze wsX1_squeeze) := goodIn_app (goodIn_of _ (by decide +kernel)) ggX1_measure_X1_squeeze
set_option maxRecDepth 20000 in
theorem ggX1_measure_X0_isEnd : GoodIn wsX1_measure wsX0_isEnd := goodIn_r _ [39, 15, 44, 45, 46, 47, 48, 49, 50, 51] (by decide +kernel) (by decide +kernel)
set_option maxRecDepth 20000 in
theorem gX1_measure_X0_isEnd_n38 : GoodIn wsX1_measure (wsX0_isEnd) := ggX1_measure_X0_isEnd
set_option maxRecDepth 20000 in
theorem ggX1_measure_X1_settle : GoodIn wsX1_measure wsX1_settle := goodIn_r _ [34, 22, 35, 36, 52, 53, 54, 55] (by decide +kernel) (by decide +kernel)
set_option maxRecDepth 20000 in
theorem gX1_measure_X1_settle : GoodIn wsX1_measure (wsV RX1 42 RX1 yX1_settle wsX1_settle) := goodIn_app (goodIn_of _ (by decide +kernel)) ggX1_measure_X1_settle
set_option maxRecDepth 20000 in
theorem ggX1_measure_X1_widen : GoodIn wsX1_measure wsX1_widen := goodIn_r _ [43, 5, 23, 24, 20, 25, 26, 27, 28, 29, 3, 30, 31, 32, 33, 34, 22, 35, 36, 52, 53, 54, 55] (by decide +kernel) (by decide +kernel)
set_option maxRecDepth 20000 in
theorem gX1_measure_X1_widen : GoodIn wsX1_measure (wsV RX1 49 RX1 yX1_widen wsX1_widen) := goodIn_app (goodIn_of _ (by decide +kernel)) ggX1_measure_X1_widen
theorem dX1_measure_0 : decode cX1_measure 0 = .ok (.iload_n 2, 1) := by decide +kernel
theorem dX1_measure_1 : decode cX1_measure 1 = .ok (.iload_n 3, 1) := by decide +kernel
theorem dX1_measure_2 : decode cX1_measure 2 = .ok (.invokestatic 9, 3) := by decide +kernel
theorem dX1_measure_5 : decode cX1_measure 5 = .ok (.istore 6, 2) := by decide +kernel
theorem dX1_measure_7 : decode cX1_measure 7 = .ok (.aload_n 1, 1) := by decide +kernel
theorem dX1_measure_8 : decode cX1_measure 8 = .ok (.getfield 15, 3) := by decide +kernel
theorem dX1_measure_11 : decode cX1_measure 11 = .ok (.iload_n 3, 1) := by decide +kernel
theorem dX1_measure_12 : decode cX1_measure 12 = .ok (.iaload, 1) := by decide +kernel
theorem dX1_measure_13 : decode cX1_measure 13 = .ok (.aload_n 1, 1) := by decide +kernel
theorem dX1_measure_14 : decode cX1_measure 14 = .ok (.getfield 15, 3) := by decide +kernel
theorem dX1_measure_17 : decode cX1_measure 17 = .ok (.iload 6, 2) := by decide +kernel
theorem dX1_measure_19 : decode cX1_measure 19 = .ok (.iaload, 1) := by decide +kernel
theorem dX1_measure_20 : decode cX1_measure 20 = .ok (.isub, 1) := by decide +kernel
theorem dX1_measure_21 : decode cX1_measure 21 = .ok (.istore 7, 2) := by decide +kernel
theorem dX1_measure_23 : decode cX1_measure 23 = .ok (.aload_n 0, 1) := by decide +kernel
theorem dX1_measure_24 : decode cX1_measure 24 = .ok (.iload 4, 2) := by decide +kernel
theorem dX1_measure_26 : decode cX1_measure 26 = .ok (.iload 7, 2) := by decide +kernel
theorem dX1_measure_28 : decode cX1_measure 28 = .ok (.isub, 1) := by decide +kernel
theorem dX1_measure_29 : decode cX1_measure 29 = .ok (.aload_n 1, 1) := by decide +kernel
theorem dX1_measure_30 : decode cX1_measure 30 = .ok (.iload_n 3, 1) := by decide +kernel
theorem dX1_measure_31 : decode cX1_measure 31 = .ok (.invokevirtual 21, 3) := by decide +kernel
theorem dX1_measure_34 : decode cX1_measure 34 = .ok (.isub, 1) := by decide +kernel
theorem dX1_measure_35 : decode cX1_measure 35 = .ok (.putfield 25, 3) := by decide +kernel
theorem dX1_measure_38 : decode cX1_measure 38 = .ok (.aload_n 0, 1) := by decide +kernel
theorem dX1_measure_39 : decode cX1_measure 39 = .ok (.getfield 25, 3) := by decide +kernel
theorem dX1_measure_42 : decode cX1_measure 42 = .ok (.ifCond .ge 24, 3) := by decide +kernel
theorem dX1_measure_45 : decode cX1_measure 45 = .ok (.aload_n 0, 1) := by decide +kernel
theorem dX1_measure_46 : decode cX1_measure 46 = .ok (.aload_n 1, 1) := by decide +kernel
theorem dX1_measure_47 : decode cX1_measure 47 = .ok (.getfield 31, 3) := by decide +kernel
theorem dX1_measure_50 : decode cX1_measure 50 = .ok (.iload_n 3, 1) := by decide +kernel
theorem dX1_measure_51 : decode cX1_measure 51 = .ok (.iaload, 1) := by decide +kernel
theorem dX1_measure_52 : decode cX1_measure 52 = .ok (.aload_n 1, 1) := by decide +kernel
theorem dX1_measure_53 : decode cX1_measure 53 = .ok (.getfield 31, 3) := by decide +kernel
theorem dX1_measure_56 : decode cX1_measure 56 = .ok (.iload 6, 2) := by decide +kernel
theorem dX1_measure_58 : decode cX1_measure 58 = .ok (.iaload, 1) := by decide +kernel
theorem dX1_measure_59 : decode cX1_measure 59 = .ok (.isub, 1) := by decide +kernel
theorem dX1_measure_60 : decode cX1_measure 60 = .ok (.invokevirtual 34, 3) := by decide +kernel
theorem dX1_measure_63 : decode cX1_measure 63 = .ok (.goto 48, 3) := by decide +kernel
theorem dX1_measure_66 : decode cX1_measure 66 = .ok (.aload_n 0, 1) := by decide +kernel
theorem dX1_measure_67 : decode cX1_measure 67 = .ok (.getfield 25, 3) := by decide +kernel
theorem dX1_measure_70 : decode cX1_measure 70 = .ok (.ifCond .eq 11, 3) := by decide +kernel
theorem dX1_measure_73 : decode cX1_measure 73 = .ok (.aload_n 1, 1) := by decide +kernel
theorem dX1_measure_74 : decode cX1_measure 74 = .ok (.iload_n 3, 1) := by decide +kernel
theorem dX1_measure_75 : decode cX1_measure 75 = .ok (.invokevirtual 38, 3) := by decide +kernel
theorem dX1_measure_78 : decode cX1_measure 78 = .ok (.ifCond .eq 12, 3) := by decide +kernel
theorem dX1_measure_81 : decode cX1_measure 81 = .ok (.aload_n 0, 1) := by decide +kernel
theorem dX1_measure_82 : decode cX1_measure 82 = .ok (.iconst 0, 1) := by decide +kernel
theorem dX1_measure_83 : decode cX1_measure 83 = .ok (.iconst 1, 1) := by decide +kernel
theorem dX1_measure_84 : decode cX1_measure 84 = .ok (.invokevirtual 42, 3) := by decide +kernel
theorem dX1_measure_87 : decode cX1_measure 87 = .ok (.goto 24, 3) := by decide +kernel
theorem dX1_measure_90 : decode cX1_measure 90 = .ok (.aload_n 0, 1) := by decide +kernel
theorem dX1_measure_91 : decode cX1_measure 91 = .ok (.aload_n 1, 1) := by decide +kernel
theorem dX1_measure_92 : decode cX1_measure 92 = .ok (.getfield 46, 3) := by decide +kernel
theorem dX1_measure_95 : decode cX1_measure 95 = .ok (.iload_n 3, 1) := by decide +kernel
theorem dX1_measure_96 : decode cX1_measure 96 = .ok (.iaload, 1) := by decide +kernel
theorem dX1_measure_97 : decode cX1_measure 97 = .ok (.aload_n 1, 1) := by decide +kernel
theorem dX1_measure_98 : decode cX1_measure 98 = .ok (.getfield 46, 3) := by decide +kernel
theorem dX1_measure_101 : decode cX1_measure 101 = .ok (.iload 6, 2) := by decide +kernel
theorem dX1_measure_103 : decode cX1_measure 103 = .ok (.iaload, 1) := by decide +kernel
theorem dX1_measure_104 : decode cX1_measure 104 = .ok (.isub, 1) := by decide +kernel
theorem dX1_measure_105 : decode cX1_measure 105 = .ok (.iload 5, 2) := by decide +kernel
theorem dX1_measure_107 : decode cX1_measure 107 = .ok (.iadd, 1) := by decide +kernel
theorem dX1_measure_108 : decode cX1_measure 108 = .ok (.invokevirtual 49, 3) := by decide +kernel
theorem dX1_measure_111 : decode cX1_measure 111 = .ok (.return_, 1) := by decide +kernel
theorem dX1_settle_0 : decode cX1_settle 0 = .ok (.aload_n 0, 1) := by decide +kernel
theorem dX1_settle_1 : decode cX1_settle 1 = .ok (.iconst 1, 1) := by decide +kernel
theorem dX1_settle_2 : decode cX1_settle 2 = .ok (.putfield 52, 3) := by decide +kernel
theorem dX1_settle_5 : decode cX1_settle 5 = .ok (.aload_n 0, 1) := by decide +kernel
theorem dX1_settle_6 : decode cX1_settle 6 = .ok (.iload_n 1, 1) := by decide +kernel
theorem dX1_settle_7 : decode cX1_settle 7 = .ok (.putfield 56, 3) := by decide +kernel
theorem dX1_settle_10 : decode cX1_settle 10 = .ok (.aload_n 0, 1) := by decide +kernel
theorem dX1_settle_11 : decode cX1_settle 11 = .ok (.iload_n 2, 1) := by decide +kernel
theorem dX1_settle_12 : decode cX1_settle 12 = .ok (.putfield 59, 3) := by decide +kernel
theorem dX1_settle_15 : decode cX1_settle 15 = .ok (.return_, 1) := by decide +kernel
set_option maxRecDepth 20000 in
theorem ggX1_squeeze_X1_badnessOf : GoodIn wsX1_squeeze wsX1_badnessOf := goodIn_r _ [6, 7, 8, 9, 10, 11, 12] (by decide +kernel) (by decide +kernel)
set_option maxRecDepth 20000 in
theorem gX1_squeeze_X1_badnessOf : GoodIn wsX1_squeeze (va_wsS RX1 62 yX1_badnessOf wsX1_badnessOf) := goodIn_app (goodIn_of _ (by decide +kernel)) ggX1_squeeze_X1_badnessOf
set_option maxRecDepth 20000 in
theorem ggX1_squeeze_X1_settle : GoodIn wsX1_squeeze wsX1_settle := goodIn_r _ [16, 2, 17, 18, 19, 20, 21, 22] (by decide +kernel) (by decide +kernel)
set_option maxRecDepth 20000 in
theorem gX1_squeeze_X1_settle : GoodIn wsX1_squeeze (wsV RX1 42 RX1 yX1_settle wsX1_settle) := goodIn_app (goodIn_of _ (by decide +kernel)) ggX1_squeeze_X1_settle
theorem dX1_squeeze_0 : decode cX1_squeeze 0 = .ok (.aload_n 0, 1) := by decide +kernel
theorem dX1_squeeze_1 : decode cX1_squeeze 1 = .ok (.getfield 25, 3) := by decide +kernel
theorem dX1_squeeze_4 : decode cX1_squeeze 4 = .ok (.ineg, 1) := by decide +kernel
theorem dX1_squeeze_5 : decode cX1_squeeze 5 = .ok (.istore_n 2, 1) := by decide +kernel
theorem dX1_squeeze_6 : decode cX1_squeeze 6 = .ok (.iload_n 2, 1) := by decide +kernel
theorem dX1_squeeze_7 : decode cX1_squeeze 7 = .ok (.iload_n 1, 1) := by decide +kernel
theorem dX1_squeeze_8 : decode cX1_squeeze 8 = .ok (.if_icmp .le 9, 3) := by decide +kernel
theorem dX1_squeeze_11 : decode cX1_squeeze 11 = .ok (.aload_n 0, 1) := by decide +kernel
theorem dX1_squeeze_12 : decode cX1_squeeze 12 = .ok (.iconst 0, 1) := by decide +kernel
theorem dX1_squeeze_13 : decode cX1_squeeze 13 = .ok (.putfield 52, 3) := by decide +kernel
theorem dX1_squeeze_16 : decode cX1_squeeze 16 = .ok (.return_, 1) := by decide +kernel
theorem dX1_squeeze_17 : decode cX1_squeeze 17 = .ok (.aload_n 0, 1) := by decide +kernel
theorem dX1_squeeze_18 : decode cX1_squeeze 18 = .ok (.iload_n 2, 1) := by decide +kernel
theorem dX1_squeeze_19 : decode cX1_squeeze 19 = .ok (.iload_n 1, 1) := by decide +kernel
theorem dX1_squeeze_20 : decode cX1_squeeze 20 = .ok (.invokestatic 62, 3) := by decide +kernel
theorem dX1_squeeze_23 : decode cX1_squeeze 23 = .ok (.iconst 2, 1) := by decide +kernel
theorem dX1_squeeze_24 : decode cX1_squeeze 24 = .ok (.iload_n 2, 1) := by decide +kernel
theorem dX1_squeeze_25 : decode cX1_squeeze 25 = .ok (.imul, 1) := by decide +kernel
theorem dX1_squeeze_26 : decode cX1_squeeze 26 = .ok (.iload_n 1, 1) := by decide +kernel
theorem dX1_squeeze_27 : decode cX1_squeeze 27 = .ok (.if_icmp .le 7, 3) := by decide +kernel
theorem dX1_squeeze_30 : decode cX1_squeeze 30 = .ok (.iconst 0, 1) := by decide +kernel
theorem dX1_squeeze_31 : decode cX1_squeeze 31 = .ok (.goto 4, 3) := by decide +kernel
theorem dX1_squeeze_34 : decode cX1_squeeze 34 = .ok (.iconst 1, 1) := by decide +kernel
theorem dX1_squeeze_35 : decode cX1_squeeze 35 = .ok (.invokevirtual 42, 3) := by decide +kernel
theorem dX1_squeeze_38 : decode cX1_squeeze 38 = .ok (.return_, 1) := by decide +kernel
set_option maxRecDepth 20000 in
theorem ggX1_widen_X1_badnessOf : GoodIn wsX1_widen wsX1_badnessOf := goodIn_r _ [5, 6, 7, 8, 9, 10, 11] (by decide +kernel) (by decide +kernel)
set_option maxRecDepth 20000 in
theorem gX1_widen_X1_badnessOf : GoodIn wsX1_widen (va_wsS RX1 62 yX1_badnessOf wsX1_badnessOf) := goodIn_app (goodIn_of _ (by decide +kernel)) ggX1_widen_X1_badnessOf
set_option maxRecDepth 20000 in
theorem ggX1_widen_X1_settle : GoodIn wsX1_widen wsX1_settle := goodIn_r _ [15, 16, 17, 18, 19, 20, 21, 22] (by decide +kernel) (by decide +kernel)
set_option maxRecDepth 20000 in
theorem gX1_widen_X1_settle : GoodIn wsX1_widen (wsV RX1 42 RX1 yX1_settle wsX1_settle) := goodIn_app (goodIn_of _ (by decide +kernel)) ggX1_widen_X1_settle
theorem dX1_widen_0 : decode cX1_widen 0 = .ok (.iconst 1, 1) := by decide +kernel
theorem dX1_widen_1 : decode cX1_widen 1 = .ok (.istore_n 2, 1) := by decide +kernel
theorem dX1_widen_2 : decode cX1_widen 2 = .ok (.aload_n 0, 1) := by decide +kernel
theorem dX1_widen_3 : decode cX1_widen 3 = .ok (.getfield 25, 3) := by decide +kernel
theorem dX1_widen_6 : decode cX1_widen 6 = .ok (.iload_n 1, 1) := by decide +kernel
theorem dX1_widen_7 : decode cX1_widen 7 = .ok (.if_icmp .le 8, 3) := by decide +kernel
theorem dX1_widen_10 : decode cX1_widen 10 = .ok (.iconst 3, 1) := by decide +kernel
theorem dX1_widen_11 : decode cX1_widen 11 = .ok (.istore_n 2, 1) := by decide +kernel
theorem dX1_widen_12 : decode cX1_widen 12 = .ok (.goto 15, 3) := by decide +kernel
theorem dX1_widen_15 : decode cX1_widen 15 = .ok (.iconst 2, 1) := by decide +kernel
theorem dX1_widen_16 : decode cX1_widen 16 = .ok (.aload_n 0, 1) := by decide +kernel
theorem dX1_widen_17 : decode cX1_widen 17 = .ok (.getfield 25, 3) := by decide +kernel
theorem dX1_widen_20 : decode cX1_widen 20 = .ok (.imul, 1) := by decide +kernel
theorem dX1_widen_21 : decode cX1_widen 21 = .ok (.iload_n 1, 1) := by decide +kernel
theorem dX1_widen_22 : decode cX1_widen 22 = .ok (.if_icmp .le 5, 3) := by decide +kernel
theorem dX1_widen_25 : decode cX1_widen 25 = .ok (.iconst 2, 1) := by decide +kernel
theorem dX1_widen_26 : decode cX1_widen 26 = .ok (.istore_n 2, 1) := by decide +kernel
theorem dX1_widen_27 : decode cX1_widen 27 = .ok (.aload_n 0, 1) := by decide +kernel
theorem dX1_widen_28 : decode cX1_widen 28 = .ok (.aload_n 0, 1) := by decide +kernel
theorem dX1_widen_29 : decode cX1_widen 29 = .ok (.getfield 25, 3) := by decide +kernel
theorem dX1_widen_32 : decode cX1_widen 32 = .ok (.iload_n 1, 1) := by decide +kernel
theorem dX1_widen_33 : decode cX1_widen 33 = .ok (.invokestatic 62, 3) := by decide +kernel
theorem dX1_widen_36 : decode cX1_widen 36 = .ok (.iload_n 2, 1) := by decide +kernel
theorem dX1_widen_37 : decode cX1_widen 37 = .ok (.invokevirtual 42, 3) := by decide +kernel
theorem dX1_widen_40 : decode cX1_widen 40 = .ok (.return_, 1) := by decide +kernel
theorem dX1_badnessOf_0 : decode cX1_badnessOf 0 = .ok (.iload_n 1, 1) := by decide +kernel
theorem dX1_badnessOf_1 : decode cX1_badnessOf 1 = .ok (.ifCond .gt 7, 3) := by decide +kernel
theorem dX1_badnessOf_4 : decode cX1_badnessOf 4 = .ok (.sipush 10000, 3) := by decide +kernel
theorem dX1_badnessOf_7 : decode cX1_badnessOf 7 = .ok (.ireturn, 1) := by decide +kernel
theorem dX1_badnessOf_8 : decode cX1_badnessOf 8 = .ok (.iload_n 0, 1) := by decide +kernel
theorem dX1_badnessOf_9 : decode cX1_badnessOf 9 = .ok (.i2l, 1) := by decide +kernel
theorem dX1_badnessOf_10 : decode cX1_badnessOf 10 = .ok (.iload_n 0, 1) := by decide +kernel
theorem dX1_badnessOf_11 : decode cX1_badnessOf 11 = .ok (.i2l, 1) := by decide +kernel
theorem dX1_badnessOf_12 : decode cX1_badnessOf 12 = .ok (.lmul, 1) := by decide +kernel
theorem dX1_badnessOf_13 : decode cX1_badnessOf 13 = .ok (.iload_n 0, 1) := by decide +kernel
theorem dX1_badnessOf_14 : decode cX1_badnessOf 14 = .ok (.i2l, 1) := by decide +kernel
theorem dX1_badnessOf_15 : decode cX1_badnessOf 15 = .ok (.lmul, 1) := by decide +kernel
theorem dX1_badnessOf_16 : decode cX1_badnessOf 16 = .ok (.lstore_n 2, 1) := by decide +kernel
theorem dX1_badnessOf_17 : decode cX1_badnessOf 17 = .ok (.iload_n 1, 1) := by decide +kernel
theorem dX1_badnessOf_18 : decode cX1_badnessOf 18 = .ok (.i2l, 1) := by decide +kernel
theorem dX1_badnessOf_19 : decode cX1_badnessOf 19 = .ok (.iload_n 1, 1) := by decide +kernel
theorem dX1_badnessOf_20 : decode cX1_badnessOf 20 = .ok (.i2l, 1) := by decide +kernel
theorem dX1_badnessOf_21 : decode cX1_badnessOf 21 = .ok (.lmul, 1) := by decide +kernel
theorem dX1_badnessOf_22 : decode cX1_badnessOf 22 = .ok (.iload_n 1, 1) := by decide +kernel
theorem dX1_badnessOf_23 : decode cX1_badnessOf 23 = .ok (.i2l, 1) := by decide +kernel
theorem dX1_badnessOf_24 : decode cX1_badnessOf 24 = .ok (.lmul, 1) := by decide +kernel
theorem dX1_badnessOf_25 : decode cX1_badnessOf 25 = .ok (.lstore 4, 2) := by decide +kernel
theorem dX1_badnessOf_27 : decode cX1_badnessOf 27 = .ok (.ldc2_w 65, 3) := by decide +kernel
theorem dX1_badnessOf_30 : decode cX1_badnessOf 30 = .ok (.lload_n 2, 1) := by decide +kernel
theorem dX1_badnessOf_31 : decode cX1_badnessOf 31 = .ok (.lmul, 1) := by decide +kernel
theorem dX1_badnessOf_32 : decode cX1_badnessOf 32 = .ok (.lload 4, 2) := by decide +kernel
theorem dX1_badnessOf_34 : decode cX1_badnessOf 34 = .ok (.ldiv, 1) := by decide +kernel
theorem dX1_badnessOf_35 : decode cX1_badnessOf 35 = .ok (.ldc2_w 67, 3) := by decide +kernel
theorem dX1_badnessOf_38 : decode cX1_badnessOf 38 = .ok (.invokestatic 69, 3) := by decide +kernel
theorem dX1_badnessOf_41 : decode cX1_badnessOf 41 = .ok (.l2i, 1) := by decide +kernel
theorem dX1_badnessOf_42 : decode cX1_badnessOf 42 = .ok (.ireturn, 1) := by decide +kernel
theorem dX1_isToleratedBy_0 : decode cX1_isToleratedBy 0 = .ok (.aload_n 0, 1) := by decide +kernel
theorem dX1_isToleratedBy_1 : decode cX1_isToleratedBy 1 = .ok (.getfield 52, 3) := by decide +kernel
theorem dX1_isToleratedBy_4 : decode cX1_isToleratedBy 4 = .ok (.ifCond .eq 15, 3) := by decide +kernel
theorem dX1_isToleratedBy_7 : decode cX1_isToleratedBy 7 = .ok (.aload_n 0, 1) := by decide +kernel
theorem dX1_isToleratedBy_8 : decode cX1_isToleratedBy 8 = .ok (.getfield 56, 3) := by decide +kernel
theorem dX1_isToleratedBy_11 : decode cX1_isToleratedBy 11 = .ok (.iload_n 1, 1) := by decide +kernel
theorem dX1_isToleratedBy_12 : decode cX1_isToleratedBy 12 = .ok (.if_icmp .gt 7, 3) := by decide +kernel
theorem dX1_isToleratedBy_15 : decode cX1_isToleratedBy 15 = .ok (.iconst 1, 1) := by decide +kernel
theorem dX1_isToleratedBy_16 : decode cX1_isToleratedBy 16 = .ok (.goto 4, 3) := by decide +kernel
theorem dX1_isToleratedBy_19 : decode cX1_isToleratedBy 19 = .ok (.iconst 0, 1) := by decide +kernel
theorem dX1_isToleratedBy_20 : decode cX1_isToleratedBy 20 = .ok (.ireturn, 1) := by decide +kernel
theorem dX1_isUnlike_0 : decode cX1_isUnlike 0 = .ok (.iload_n 0, 1) := by decide +kernel
theorem dX1_isUnlike_1 : decode cX1_isUnlike 1 = .ok (.iload_n 1, 1) := by decide +kernel
theorem dX1_isUnlike_2 : decode cX1_isUnlike 2 = .ok (.isub, 1) := by decide +kernel
theorem dX1_isUnlike_3 : decode cX1_isUnlike 3 = .ok (.invokestatic 72, 3) := by decide +kernel
theorem dX1_isUnlike_6 : decode cX1_isUnlike 6 = .ok (.iconst 1, 1) := by decide +kernel
theorem dX1_isUnlike_7 : decode cX1_isUnlike 7 = .ok (.if_icmp .le 7, 3) := by decide +kernel
theorem dX1_isUnlike_10 : decode cX1_isUnlike 10 = .ok (.iconst 1, 1) := by decide +kernel
theorem dX1_isUnlike_11 : decode cX1_isUnlike 11 = .ok (.goto 4, 3) := by decide +kernel
theorem dX1_isUnlike_14 : decode cX1_isUnlike 14 = .ok (.iconst 0, 1) := by decide +kernel
theorem dX1_isUnlike_15 : decode cX1_isUnlike 15 = .ok (.ireturn, 1) := by decide +kernel
set_option maxRecDepth 20000 in
theorem ggX2_init_J7_fill_53178 : GoodIn wsX2_init wsJ7_fill_53178 := goodIn_r _ [10] (by decide +kernel) (by decide +kernel)
set_option maxRecDepth 20000 in
theorem gX2_init_J7_fill_53178 : GoodIn wsX2_init (va_wsS RX2 18 yJ7_fill_53178 wsJ7_fill_53178) := goodIn_app (goodIn_of _ (by decide +kernel)) ggX2_init_J7_fill_53178
theorem dX2_init_0 : decode cX2_init 0 = .ok (.aload_n 0, 1) := by decide +kernel
theorem dX2_init_1 : decode cX2_init 1 = .ok (.invokespecial 3, 3) := by decide +kernel
theorem dX2_init_4 : decode cX2_init 4 = .ok (.aload_n 0, 1) := by decide +kernel
theorem dX2_init_5 : decode cX2_init 5 = .ok (.bipush 50, 2) := by decide +kernel
theorem dX2_init_7 : decode cX2_init 7 = .ok (.newarray .int, 2) := by decide +kernel
theorem dX2_init_9 : decode cX2_init 9 = .ok (.putfield 9, 3) := by decide +kernel
theorem dX2_init_12 : decode cX2_init 12 = .ok (.aload_n 0, 1) := by decide +kernel
theorem dX2_init_13 : decode cX2_init 13 = .ok (.iconst 3, 1) := by decide +kernel
theorem dX2_init_14 : decode cX2_init 14 = .ok (.newarray .int, 2) := by decide +kernel
theorem dX2_init_16 : decode cX2_init 16 = .ok (.putfield 15, 3) := by decide +kernel
theorem dX2_init_19 : decode cX2_init 19 = .ok (.aload_n 0, 1) := by decide +kernel
theorem dX2_init_20 : decode cX2_init 20 = .ok (.getfield 9, 3) := by decide +kernel
theorem dX2_init_23 : decode cX2_init 23 = .ok (.iload_n 1, 1) := by decide +kernel
theorem dX2_init_24 : decode cX2_init 24 = .ok (.invokestatic 18, 3) := by decide +kernel
theorem dX2_init_27 : decode cX2_init 27 = .ok (.aload_n 0, 1) := by decide +kernel
theorem dX2_init_28 : decode cX2_init 28 = .ok (.getfield 15, 3) := by decide +kernel
theorem dX2_init_31 : decode cX2_init 31 = .ok (.iconst 0, 1) := by decide +kernel
theorem dX2_init_32 : decode cX2_init 32 = .ok (.bipush 100, 2) := by decide +kernel
theorem dX2_init_34 : decode cX2_init 34 = .ok (.iastore, 1) := by decide +kernel
theorem dX2_init_35 : decode cX2_init 35 = .ok (.aload_n 0, 1) := by decide +kernel
theorem dX2_init_36 : decode cX2_init 36 = .ok (.getfield 15, 3) := by decide +kernel
theorem dX2_init_39 : decode cX2_init 39 = .ok (.iconst 1, 1) := by decide +kernel
theorem dX2_init_40 : decode cX2_init 40 = .ok (.sipush 200, 3) := by decide +kernel
theorem dX2_init_43 : decode cX2_init 43 = .ok (.iastore, 1) := by decide +kernel
theorem dX2_init_44 : decode cX2_init 44 = .ok (.return_, 1) := by decide +kernel
theorem dX2_toleranceIn_0 : decode cX2_toleranceIn 0 = .ok (.aload_n 0, 1) := by decide +kernel
theorem dX2_toleranceIn_1 : decode cX2_toleranceIn 1 = .ok (.getfield 15, 3) := by decide +kernel
theorem dX2_toleranceIn_4 : decode cX2_toleranceIn 4 = .ok (.iload_n 1, 1) := by decide +kernel
theorem dX2_toleranceIn_5 : decode cX2_toleranceIn 5 = .ok (.iconst 1, 1) := by decide +kernel
theorem dX2_toleranceIn_6 : decode cX2_toleranceIn 6 = .ok (.if_icmp .ne 7, 3) := by decide +kernel
theorem dX2_toleranceIn_9 : decode cX2_toleranceIn 9 = .ok (.iconst 0, 1) := by decide +kernel
theorem dX2_toleranceIn_10 : decode cX2_toleranceIn 10 = .ok (.goto 4, 3) := by decide +kernel
theorem dX2_toleranceIn_13 : decode cX2_toleranceIn 13 = .ok (.iconst 1, 1) := by decide +kernel
theorem dX2_toleranceIn_14 : decode cX2_toleranceIn 14 = .ok (.iaload, 1) := by decide +kernel
theorem dX2_toleranceIn_15 : decode cX2_toleranceIn 15 = .ok (.ireturn, 1) := by decide +kernel
theorem dX2_breaksAtMarksIn_0 : decode cX2_breaksAtMarksIn 0 = .ok (.iload_n 1, 1) := by decide +kernel
theorem dX2_breaksAtMarksIn_1 : decode cX2_breaksAtMarksIn 1 = .ok (.iconst 1, 1) := by decide +kernel
theorem dX2_breaksAtMarksIn_2 : decode cX2_breaksAtMarksIn 2 = .ok (.if_icmp .eq 7, 3) := by decide +kernel
theorem dX2_breaksAtMarksIn_5 : decode cX2_breaksAtMarksIn 5 = .ok (.iconst 1, 1) := by decide +kernel
theorem dX2_breaksAtMarksIn_6 : decode cX2_breaksAtMarksIn 6 = .ok (.goto 4, 3) := by decide +kernel
theorem dX2_breaksAtMarksIn_9 : decode cX2_breaksAtMarksIn 9 = .ok (.iconst 0, 1) := by decide +kernel
theorem dX2_breaksAtMarksIn_10 : decode cX2_breaksAtMarksIn 10 = .ok (.ireturn, 1) := by decide +kernel
theorem dX2_moreStretchIn_0 : decode cX2_moreStretchIn 0 = .ok (.iload_n 1, 1) := by decide +kernel
theorem dX2_moreStretchIn_1 : decode cX2_moreStretchIn 1 = .ok (.iconst 3, 1) := by decide +kernel
theorem dX2_moreStretchIn_2 : decode cX2_moreStretchIn 2 = .ok (.if_icmp .ne 12, 3) := by decide +kernel
theorem dX2_moreStretchIn_5 : decode cX2_moreStretchIn 5 = .ok (.aload_n 0, 1) := by decide +kernel
theorem dX2_moreStretchIn_6 : decode cX2_moreStretchIn 6 = .ok (.getfield 15, 3) := by decide +kernel
theorem dX2_moreStretchIn_9 : decode cX2_moreStretchIn 9 = .ok (.iconst 2, 1) := by decide +kernel
theorem dX2_moreStretchIn_10 : decode cX2_moreStretchIn 10 = .ok (.iaload, 1) := by decide +kernel
theorem dX2_moreStretchIn_11 : decode cX2_moreStretchIn 11 = .ok (.goto 4, 3) := by decide +kernel
theorem dX2_moreStretchIn_14 : decode cX2_moreStretchIn 14 = .ok (.iconst 0, 1) := by decide +kernel
theorem dX2_moreStretchIn_15 : decode cX2_moreStretchIn 15 = .ok (.ireturn, 1) := by decide +kernel
set_option maxRecDepth 20000 in
theorem ggX3_init_X1_init : GoodIn wsX3_init wsX1_init := goodIn_r _ [15, 16, 2, 3] (by decide +kernel) (by decide +kernel)
set_option maxRecDepth 20000 in
theorem gX3_init_X1_init_n15 : GoodIn wsX3_init (wsX1_init) := ggX3_init_X1_init
theorem dX3_init_0 : decode cX3_init 0 = .ok (.aload_n 0, 1) := by decide +kernel
theorem dX3_init_1 : decode cX3_init 1 = .ok (.invokespecial 9, 3) := by decide +kernel
theorem dX3_init_4 : decode cX3_init 4 = .ok (.aload_n 0, 1) := by decide +kernel
theorem dX3_init_5 : decode cX3_init 5 = .ok (.new 3, 3) := by decide +kernel
theorem dX3_init_8 : decode cX3_init 8 = .ok (.dup, 1) := by decide +kernel
theorem dX3_init_9 : decode cX3_init 9 = .ok (.invokespecial 15, 3) := by decide +kernel
theorem dX3_init_12 : decode cX3_init 12 = .ok (.putfield 16, 3) := by decide +kernel
theorem dX3_init_15 : decode cX3_init 15 = .ok (.aload_n 0, 1) := by decide +kernel
theorem dX3_init_16 : decode cX3_init 16 = .ok (.sipush 20808, 3) := by decide +kernel
theorem dX3_init_19 : decode cX3_init 19 = .ok (.newarray .long, 2) := by decide +kernel
theorem dX3_init_21 : decode cX3_init 21 = .ok (.putfield 20, 3) := by decide +kernel
theorem dX3_init_24 : decode cX3_init 24 = .ok (.aload_n 0, 1) := by decide +kernel
theorem dX3_init_25 : decode cX3_init 25 = .ok (.sipush 20808, 3) := by decide +kernel
theorem dX3_init_28 : decode cX3_init 28 = .ok (.newarray .byte, 2) := by decide +kernel
theorem dX3_init_30 : decode cX3_init 30 = .ok (.putfield 24, 3) := by decide +kernel
theorem dX3_init_33 : decode cX3_init 33 = .ok (.aload_n 0, 1) := by decide +kernel
theorem dX3_init_34 : decode cX3_init 34 = .ok (.aload_n 1, 1) := by decide +kernel
theorem dX3_init_35 : decode cX3_init 35 = .ok (.putfield 28, 3) := by decide +kernel
theorem dX3_init_38 : decode cX3_init 38 = .ok (.aload_n 0, 1) := by decide +kernel
theorem dX3_init_39 : decode cX3_init 39 = .ok (.aload_n 2, 1) := by decide +kernel
theorem dX3_init_40 : decode cX3_init 40 = .ok (.putfield 32, 3) := by decide +kernel
theorem dX3_init_43 : decode cX3_init 43 = .ok (.return_, 1) := by decide +kernel
theorem dX3_cellOf_0 : decode cX3_cellOf 0 = .ok (.iload_n 0, 1) := by decide +kernel
theorem dX3_cellOf_1 : decode cX3_cellOf 1 = .ok (.iconst 1, 1) := by decide +kernel
theorem dX3_cellOf_2 : decode cX3_cellOf 2 = .ok (.iadd, 1) := by decide +kernel
theorem dX3_cellOf_3 : decode cX3_cellOf 3 = .ok (.bipush 51, 2) := by decide +kernel
theorem dX3_cellOf_5 : decode cX3_cellOf 5 = .ok (.imul, 1) := by decide +kernel
theorem dX3_cellOf_6 : decode cX3_cellOf 6 = .ok (.iload_n 1, 1) := by decide +kernel
theorem dX3_cellOf_7 : decode cX3_cellOf 7 = .ok (.iadd, 1) := by decide +kernel
theorem dX3_cellOf_8 : decode cX3_cellOf 8 = .ok (.iconst 4, 1) := by decide +kernel
theorem dX3_cellOf_9 : decode cX3_cellOf 9 = .ok (.imul, 1) := by decide +kernel
theorem dX3_cellOf_10 : decode cX3_cellOf 10 = .ok (.iload_n 2, 1) := by decide +kernel
theorem dX3_cellOf_11 : decode cX3_cellOf 11 = .ok (.iadd, 1) := by decide +kernel
theorem dX3_cellOf_12 : decode cX3_cellOf 12 = .ok (.ireturn, 1) := by decide +kernel
set_option maxRecDepth 20000 in
theorem ggX3_findsWay_X3_closeAll : GoodIn wsX3_findsWay wsX3_closeAll := goodIn_r _ [10, 3, 4, 5, 11, 12, 9, 13, 124, 125, 126, 127, 128, 129, 130, 131, 132, 133, 134, 135, 136, 137] (by decide +kernel) (by decide +kernel)
set_option maxRecDepth 20000 in
theorem gX3_findsWay_X3_closeAll : GoodIn wsX3_findsWay (wsV RX3 40 RX3 yX3_closeAll wsX3_closeAll) := goodIn_app (goodIn_of _ (by decide +kernel)) ggX3_findsWay_X3_closeAll
set_option maxRecDepth 20000 in
theorem ggX3_findsWay_X3_openEnd : GoodIn wsX3_findsWay wsX3_openEnd := goodIn_r _ [17, 4, 3, 11, 12, 9, 13, 124, 125, 126, 127, 128, 129, 130, 131, 132, 133, 134, 135, 136, 137] (by decide +kernel) (by decide +kernel)
set_option maxRecDepth 20000 in
theorem gX3_findsWay_X3_openEnd : GoodIn wsX3_findsWay (wsV RX3 43 RX3 yX3_openEnd wsX3_openEnd) := goodIn_app (goodIn_of _ (by decide +kernel)) ggX3_findsWay_X3_openEnd
set_option maxRecDepth 20000 in
theorem ggX3_findsWay_X2_breaksAtMarksIn : GoodIn wsX3_findsWay wsX2_breaksAtMarksIn := goodIn_r _ [21] (by decide +kernel) (by decide +kernel)
set_option maxRecDepth 20000 in
theorem gX3_findsWay_X2_breaksAtMarksIn_n47 : GoodIn wsX3_findsWay (wsX2_breaksAtMarksIn) := ggX3_findsWay_X2_breaksAtMarksIn
set_option maxRecDepth 20000 in
theorem ggX3_findsWay_X0_mayBreakAt : GoodIn wsX3_findsWay wsX0_mayBreakAt := goodIn_r _ [25, 26, 27, 28, 29, 30, 23, 31, 32, 33, 34, 35, 36, 37, 130, 131, 132, 133, 134, 135, 136, 137] (by decide +kernel) (by decide +kernel)
set_option maxRecDepth 20000 in
theorem gX3_findsWay_X0_mayBreakAt_n58 : GoodIn wsX3_findsWay (wsX0_mayBreakAt) := ggX3_findsWay_X0_mayBreakAt
set_option maxRecDepth 20000 in
theorem ggX3_findsWay_X3_tryLinesBehind : GoodIn wsX3_findsWay wsX3_tryLinesBehind := goodIn_r _ [41, 3, 42, 23, 43, 44, 32, 33, 22, 24, 25, 26, 27, 28, 29, 30, 31, 34, 35, 36, 37, 45, 46, 47, 9, 48, 2, 1, 49, 50, 51, 52, 53, 54, 19, 55, 56, 57, 58, 59, 60, 61, 62, 63, 64, 65, 66, 67, 68, 69, 70, 71, 72, 73, 74, 75, 76, 77, 78, 79, 80, 81, 82, 83, 84, 85, 86, 87, 88, 89, 90, 91, 92, 93, 94, 95, 96, 97, 98, 99, 100, 4, 5, 101, 102, 103, 11, 12, 13, 104, 105, 106, 107, 108, 109, 110, 111, 112, 113, 114, 115, 116, 117, 118, 119, 120, 121, 122, 123, 124, 125, 126, 127, 128, 129, 130, 131, 132, 133, 134, 135, 136, 137, 138, 139, 140, 141, 142, 143] (by decide +kernel) (by decide +kernel)
set_option maxRecDepth 20000 in
theorem gX3_findsWay_X3_tryLinesBehind : GoodIn wsX3_findsWay (wsV RX3 62 RX3 yX3_tryLinesBehind wsX3_tryLinesBehind) := goodIn_app (goodIn_of _ (by decide +kernel)) ggX3_findsWay_X3_tryLinesBehind
set_option maxRecDepth 20000 in
theorem ggX3_findsWay_X3_cellOf : GoodIn wsX3_findsWay wsX3_cellOf := goodIn_r _ [13] (by decide +kernel) (by decide +kernel)
set_option maxRecDepth 20000 in
theorem gX3_findsWay_X3_cellOf : GoodIn wsX3_findsWay (va_wsS RX3 66 yX3_cellOf wsX3_cellOf) := goodIn_app (goodIn_of _ (by decide +kernel)) ggX3_findsWay_X3_cellOf
theorem dX3_findsWay_0 : decode cX3_findsWay 0 = .ok (.aload_n 0, 1) := by decide +kernel
theorem dX3_findsWay_1 : decode cX3_findsWay 1 = .ok (.iload_n 1, 1) := by decide +kernel
theorem dX3_findsWay_2 : decode cX3_findsWay 2 = .ok (.putfield 36, 3) := by decide +kernel
theorem dX3_findsWay_5 : decode cX3_findsWay 5 = .ok (.aload_n 0, 1) := by decide +kernel
theorem dX3_findsWay_6 : decode cX3_findsWay 6 = .ok (.invokevirtual 40, 3) := by decide +kernel
theorem dX3_findsWay_9 : decode cX3_findsWay 9 = .ok (.aload_n 0, 1) := by decide +kernel
theorem dX3_findsWay_10 : decode cX3_findsWay 10 = .ok (.iload_n 2, 1) := by decide +kernel
theorem dX3_findsWay_11 : decode cX3_findsWay 11 = .ok (.invokevirtual 43, 3) := by decide +kernel
theorem dX3_findsWay_14 : decode cX3_findsWay 14 = .ok (.aload_n 0, 1) := by decide +kernel
theorem dX3_findsWay_15 : decode cX3_findsWay 15 = .ok (.getfield 32, 3) := by decide +kernel
theorem dX3_findsWay_18 : decode cX3_findsWay 18 = .ok (.aload_n 0, 1) := by decide +kernel
theorem dX3_findsWay_19 : decode cX3_findsWay 19 = .ok (.getfield 36, 3) := by decide +kernel
theorem dX3_findsWay_22 : decode cX3_findsWay 22 = .ok (.invokevirtual 47, 3) := by decide +kernel
theorem dX3_findsWay_25 : decode cX3_findsWay 25 = .ok (.istore_n 3, 1) := by decide +kernel
theorem dX3_findsWay_26 : decode cX3_findsWay 26 = .ok (.aload_n 0, 1) := by decide +kernel
theorem dX3_findsWay_27 : decode cX3_findsWay 27 = .ok (.getfield 28, 3) := by decide +kernel
theorem dX3_findsWay_30 : decode cX3_findsWay 30 = .ok (.getfield 53, 3) := by decide +kernel
theorem dX3_findsWay_33 : decode cX3_findsWay 33 = .ok (.iconst 1, 1) := by decide +kernel
theorem dX3_findsWay_34 : decode cX3_findsWay 34 = .ok (.isub, 1) := by decide +kernel
theorem dX3_findsWay_35 : decode cX3_findsWay 35 = .ok (.istore 4, 2) := by decide +kernel
theorem dX3_findsWay_37 : decode cX3_findsWay 37 = .ok (.iload 4, 2) := by decide +kernel
theorem dX3_findsWay_39 : decode cX3_findsWay 39 = .ok (.iconst (-1), 1) := by decide +kernel
theorem dX3_findsWay_40 : decode cX3_findsWay 40 = .ok (.if_icmp .lt 35, 3) := by decide +kernel
theorem dX3_findsWay_43 : decode cX3_findsWay 43 = .ok (.iload 4, 2) := by decide +kernel
theorem dX3_findsWay_45 : decode cX3_findsWay 45 = .ok (.iconst (-1), 1) := by decide +kernel
theorem dX3_findsWay_46 : decode cX3_findsWay 46 = .ok (.if_icmp .eq 16, 3) := by decide +kernel
theorem dX3_findsWay_49 : decode cX3_findsWay 49 = .ok (.aload_n 0, 1) := by decide +kernel
theorem dX3_findsWay_50 : decode cX3_findsWay 50 = .ok (.getfield 28, 3) := by decide +kernel
theorem dX3_findsWay_53 : decode cX3_findsWay 53 = .ok (.iload 4, 2) := by decide +kernel
theorem dX3_findsWay_55 : decode cX3_findsWay 55 = .ok (.iload_n 3, 1) := by decide +kernel
theorem dX3_findsWay_56 : decode cX3_findsWay 56 = .ok (.invokevirtual 58, 3) := by decide +kernel
theorem dX3_findsWay_59 : decode cX3_findsWay 59 = .ok (.ifCond .eq 10, 3) := by decide +kernel
theorem dX3_findsWay_62 : decode cX3_findsWay 62 = .ok (.aload_n 0, 1) := by decide +kernel
theorem dX3_findsWay_63 : decode cX3_findsWay 63 = .ok (.iload 4, 2) := by decide +kernel
theorem dX3_findsWay_65 : decode cX3_findsWay 65 = .ok (.iload_n 3, 1) := by decide +kernel
theorem dX3_findsWay_66 : decode cX3_findsWay 66 = .ok (.invokevirtual 62, 3) := by decide +kernel
theorem dX3_findsWay_69 : decode cX3_findsWay 69 = .ok (.iinc 4 (-1), 3) := by decide +kernel
theorem dX3_findsWay_72 : decode cX3_findsWay 72 = .ok (.goto (-35), 3) := by decide +kernel
theorem dX3_findsWay_75 : decode cX3_findsWay 75 = .ok (.aload_n 0, 1) := by decide +kernel
theorem dX3_findsWay_76 : decode cX3_findsWay 76 = .ok (.getfield 20, 3) := by decide +kernel
theorem dX3_findsWay_79 : decode cX3_findsWay 79 = .ok (.iconst (-1), 1) := by decide +kernel
theorem dX3_findsWay_80 : decode cX3_findsWay 80 = .ok (.iconst 0, 1) := by decide +kernel
theorem dX3_findsWay_81 : decode cX3_findsWay 81 = .ok (.iconst 0, 1) := by decide +kernel
theorem dX3_findsWay_82 : decode cX3_findsWay 82 = .ok (.invokestatic 66, 3) := by decide +kernel
theorem dX3_findsWay_85 : decode cX3_findsWay 85 = .ok (.laload, 1) := by decide +kernel
theorem dX3_findsWay_86 : decode cX3_findsWay 86 = .ok (.ldc2_w 70, 3) := by decide +kernel
theorem dX3_findsWay_89 : decode cX3_findsWay 89 = .ok (.lcmp, 1) := by decide +kernel
theorem dX3_findsWay_90 : decode cX3_findsWay 90 = .ok (.ifCond .eq 7, 3) := by decide +kernel
theorem dX3_findsWay_93 : decode cX3_findsWay 93 = .ok (.iconst 1, 1) := by decide +kernel
theorem dX3_findsWay_94 : decode cX3_findsWay 94 = .ok (.goto 4, 3) := by decide +kernel
theorem dX3_findsWay_97 : decode cX3_findsWay 97 = .ok (.iconst 0, 1) := by decide +kernel
theorem dX3_findsWay_98 : decode cX3_findsWay 98 = .ok (.ireturn, 1) := by decide +kernel
set_option maxRecDepth 20000 in
theorem ggX3_closeAll_X3_cellOf : GoodIn wsX3_closeAll wsX3_cellOf := goodIn_r _ [7] (by decide +kernel) (by decide +kernel)
set_option maxRecDepth 20000 in
theorem gX3_closeAll_X3_cellOf : GoodIn wsX3_closeAll (va_wsS RX3 66 yX3_cellOf wsX3_cellOf) := goodIn_app (goodIn_of _ (by decide +kernel)) ggX3_closeAll_X3_cellOf
theorem dX3_closeAll_0 : decode cX3_closeAll 0 = .ok (.aload_n 0, 1) := by decide +kernel
theorem dX3_closeAll_1 : decode cX3_closeAll 1 = .ok (.getfield 28, 3) := by decide +kernel
theorem dX3_closeAll_4 : decode cX3_closeAll 4 = .ok (.getfield 53, 3) := by decide +kernel
theorem dX3_closeAll_7 : decode cX3_closeAll 7 = .ok (.iconst 1, 1) := by decide +kernel
theorem dX3_closeAll_8 : decode cX3_closeAll 8 = .ok (.iadd, 1) := by decide +kernel
theorem dX3_closeAll_9 : decode cX3_closeAll 9 = .ok (.iconst 0, 1) := by decide +kernel
theorem dX3_closeAll_10 : decode cX3_closeAll 10 = .ok (.iconst 0, 1) := by decide +kernel
theorem dX3_closeAll_11 : decode cX3_closeAll 11 = .ok (.invokestatic 66, 3) := by decide +kernel
theorem dX3_closeAll_14 : decode cX3_closeAll 14 = .ok (.istore_n 1, 1) := by decide +kernel
theorem dX3_closeAll_15 : decode cX3_closeAll 15 = .ok (.iconst 0, 1) := by decide +kernel
theorem dX3_closeAll_16 : decode cX3_closeAll 16 = .ok (.istore_n 2, 1) := by decide +kernel
theorem dX3_closeAll_17 : decode cX3_closeAll 17 = .ok (.iload_n 2, 1) := by decide +kernel
theorem dX3_closeAll_18 : decode cX3_closeAll 18 = .ok (.iload_n 1, 1) := by decide +kernel
theorem dX3_closeAll_19 : decode cX3_closeAll 19 = .ok (.if_icmp .ge 25, 3) := by decide +kernel
theorem dX3_closeAll_22 : decode cX3_closeAll 22 = .ok (.iload_n 2, 1) := by decide +kernel
theorem dX3_closeAll_23 : decode cX3_closeAll 23 = .ok (.sipush 20808, 3) := by decide +kernel
theorem dX3_closeAll_26 : decode cX3_closeAll 26 = .ok (.if_icmp .ge 18, 3) := by decide +kernel
theorem dX3_closeAll_29 : decode cX3_closeAll 29 = .ok (.aload_n 0, 1) := by decide +kernel
theorem dX3_closeAll_30 : decode cX3_closeAll 30 = .ok (.getfield 20, 3) := by decide +kernel
theorem dX3_closeAll_33 : decode cX3_closeAll 33 = .ok (.iload_n 2, 1) := by decide +kernel
theorem dX3_closeAll_34 : decode cX3_closeAll 34 = .ok (.ldc2_w 70, 3) := by decide +kernel
theorem dX3_closeAll_37 : decode cX3_closeAll 37 = .ok (.lastore, 1) := by decide +kernel
theorem dX3_closeAll_38 : decode cX3_closeAll 38 = .ok (.iinc 2 1, 3) := by decide +kernel
theorem dX3_closeAll_41 : decode cX3_closeAll 41 = .ok (.goto (-24), 3) := by decide +kernel
theorem dX3_closeAll_44 : decode cX3_closeAll 44 = .ok (.return_, 1) := by decide +kernel
set_option maxRecDepth 20000 in
theorem ggX3_openEnd_X3_cellOf : GoodIn wsX3_openEnd wsX3_cellOf := goodIn_r _ [6] (by decide +kernel) (by decide +kernel)
set_option maxRecDepth 20000 in
theorem gX3_openEnd_X3_cellOf : GoodIn wsX3_openEnd (va_wsS RX3 66 yX3_cellOf wsX3_cellOf) := goodIn_app (goodIn_of _ (by decide +kernel)) ggX3_openEnd_X3_cellOf
theorem dX3_openEnd_0 : decode cX3_openEnd 0 = .ok (.iload_n 1, 1) := by decide +kernel
theorem dX3_openEnd_1 : decode cX3_openEnd 1 = .ok (.ifCond .ne 7, 3) := by decide +kernel
theorem dX3_openEnd_4 : decode cX3_openEnd 4 = .ok (.iconst 1, 1) := by decide +kernel
theorem dX3_openEnd_5 : decode cX3_openEnd 5 = .ok (.goto 4, 3) := by decide +kernel
theorem dX3_openEnd_8 : decode cX3_openEnd 8 = .ok (.iload_n 1, 1) := by decide +kernel
theorem dX3_openEnd_9 : decode cX3_openEnd 9 = .ok (.istore_n 2, 1) := by decide +kernel
theorem dX3_openEnd_10 : decode cX3_openEnd 10 = .ok (.iload_n 1, 1) := by decide +kernel
theorem dX3_openEnd_11 : decode cX3_openEnd 11 = .ok (.ifCond .ne 8, 3) := by decide +kernel
theorem dX3_openEnd_14 : decode cX3_openEnd 14 = .ok (.bipush 50, 2) := by decide +kernel
theorem dX3_openEnd_16 : decode cX3_openEnd 16 = .ok (.goto 4, 3) := by decide +kernel
theorem dX3_openEnd_19 : decode cX3_openEnd 19 = .ok (.iload_n 1, 1) := by decide +kernel
theorem dX3_openEnd_20 : decode cX3_openEnd 20 = .ok (.istore_n 3, 1) := by decide +kernel
theorem dX3_openEnd_21 : decode cX3_openEnd 21 = .ok (.iload_n 2, 1) := by decide +kernel
theorem dX3_openEnd_22 : decode cX3_openEnd 22 = .ok (.istore 4, 2) := by decide +kernel
theorem dX3_openEnd_24 : decode cX3_openEnd 24 = .ok (.iload 4, 2) := by decide +kernel
theorem dX3_openEnd_26 : decode cX3_openEnd 26 = .ok (.iload_n 3, 1) := by decide +kernel
theorem dX3_openEnd_27 : decode cX3_openEnd 27 = .ok (.if_icmp .gt 44, 3) := by decide +kernel
theorem dX3_openEnd_30 : decode cX3_openEnd 30 = .ok (.iconst 0, 1) := by decide +kernel
theorem dX3_openEnd_31 : decode cX3_openEnd 31 = .ok (.istore 5, 2) := by decide +kernel
theorem dX3_openEnd_33 : decode cX3_openEnd 33 = .ok (.iload 5, 2) := by decide +kernel
theorem dX3_openEnd_35 : decode cX3_openEnd 35 = .ok (.iconst 4, 1) := by decide +kernel
theorem dX3_openEnd_36 : decode cX3_openEnd 36 = .ok (.if_icmp .ge 29, 3) := by decide +kernel
theorem dX3_openEnd_39 : decode cX3_openEnd 39 = .ok (.aload_n 0, 1) := by decide +kernel
theorem dX3_openEnd_40 : decode cX3_openEnd 40 = .ok (.getfield 20, 3) := by decide +kernel
theorem dX3_openEnd_43 : decode cX3_openEnd 43 = .ok (.aload_n 0, 1) := by decide +kernel
theorem dX3_openEnd_44 : decode cX3_openEnd 44 = .ok (.getfield 28, 3) := by decide +kernel
theorem dX3_openEnd_47 : decode cX3_openEnd 47 = .ok (.getfield 53, 3) := by decide +kernel
theorem dX3_openEnd_50 : decode cX3_openEnd 50 = .ok (.iload 4, 2) := by decide +kernel
theorem dX3_openEnd_52 : decode cX3_openEnd 52 = .ok (.iload 5, 2) := by decide +kernel
theorem dX3_openEnd_54 : decode cX3_openEnd 54 = .ok (.invokestatic 66, 3) := by decide +kernel
theorem dX3_openEnd_57 : decode cX3_openEnd 57 = .ok (.lconst 0, 1) := by decide +kernel
theorem dX3_openEnd_58 : decode cX3_openEnd 58 = .ok (.lastore, 1) := by decide +kernel
theorem dX3_openEnd_59 : decode cX3_openEnd 59 = .ok (.iinc 5 1, 3) := by decide +kernel
theorem dX3_openEnd_62 : decode cX3_openEnd 62 = .ok (.goto (-29), 3) := by decide +kernel
theorem dX3_openEnd_65 : decode cX3_openEnd 65 = .ok (.iinc 4 1, 3) := by decide +kernel
theorem dX3_openEnd_68 : decode cX3_openEnd 68 = .ok (.goto (-44), 3) := by decide +kernel
theorem dX3_openEnd_71 : decode cX3_openEnd 71 = .ok (.return_, 1) := by decide +kernel
set_option maxRecDepth 20000 in
theorem ggX3_tryLinesBehind_X0_startBehind : GoodIn wsX3_tryLinesBehind wsX0_startBehind := goodIn_r _ [5, 6, 7, 115, 116, 117, 118, 119, 120, 121, 122] (by decide +kernel) (by decide +kernel)
set_option maxRecDepth 20000 in
theorem gX3_tryLinesBehind_X0_startBehind_n72 : GoodIn wsX3_tryLinesBehind (wsX0_startBehind) := ggX3_tryLinesBehind_X0_startBehind
set_option maxRecDepth 20000 in
theorem ggX3_tryLinesBehind_X0_mayBreakAt : GoodIn wsX3_tryLinesBehind wsX0_mayBreakAt := goodIn_r _ [10, 11, 12, 13, 14, 15, 3, 16, 6, 7, 17, 18, 19, 20, 115, 116, 117, 118, 119, 120, 121, 122] (by decide +kernel) (by decide +kernel)
set_option maxRecDepth 20000 in
theorem gX3_tryLinesBehind_X0_mayBreakAt_n58 : GoodIn wsX3_tryLinesBehind (wsX0_mayBreakAt) := ggX3_tryLinesBehind_X0_mayBreakAt
set_option maxRecDepth 20000 in
theorem ggX3_tryLinesBehind_X3_tryLine : GoodIn wsX3_tryLinesBehind wsX3_tryLine := goodIn_r _ [25, 26, 27, 28, 29, 30, 31, 32, 1, 33, 34, 35, 36, 37, 38, 39, 40, 41, 42, 43, 44, 45, 46, 47, 3, 48, 49, 50, 13, 14, 15, 16, 6, 7, 51, 52, 53, 54, 55, 56, 57, 58, 59, 60, 61, 62, 63, 64, 65, 66, 67, 68, 69, 18, 19, 20, 70, 71, 72, 73, 74, 75, 76, 77, 78, 79, 24, 80, 81, 82, 83, 84, 85, 86, 87, 88, 89, 90, 91, 92, 93, 94, 95, 96, 97, 11, 98, 99, 100, 12, 101, 102, 103, 104, 105, 109, 110, 111, 112, 113, 114, 123, 124, 115, 116, 117, 118, 119, 120, 121, 122, 125, 126, 127, 128] (by decide +kernel) (by decide +kernel)
set_option maxRecDepth 20000 in
theorem gX3_tryLinesBehind_X3_tryLine : GoodIn wsX3_tryLinesBehind (wsV RX3 76 RX3 yX3_tryLine wsX3_tryLine) := goodIn_app (goodIn_of _ (by decide +kernel)) ggX3_tryLinesBehind_X3_tryLine
set_option maxRecDepth 20000 in
theorem ggX3_tryLinesBehind_X0_hasToBreakAt : GoodIn wsX3_tryLinesBehind wsX0_hasToBreakAt := goodIn_r _ [108, 11, 17, 18, 19, 3, 20, 6, 13, 14, 15, 16, 7, 115, 116, 117, 118, 119, 120, 121, 122] (by decide +kernel) (by decide +kernel)
set_option maxRecDepth 20000 in
theorem gX3_tryLinesBehind_X0_hasToBreakAt_n80 : GoodIn wsX3_tryLinesBehind (wsX0_hasToBreakAt) := ggX3_tryLinesBehind_X0_hasToBreakAt
theorem dX3_tryLinesBehind_0 : decode cX3_tryLinesBehind 0 = .ok (.aload_n 0, 1) := by decide +kernel
theorem dX3_tryLinesBehind_1 : decode cX3_tryLinesBehind 1 = .ok (.getfield 28, 3) := by decide +kernel
theorem dX3_tryLinesBehind_4 : decode cX3_tryLinesBehind 4 = .ok (.iload_n 1, 1) := by decide +kernel
theorem dX3_tryLinesBehind_5 : decode cX3_tryLinesBehind 5 = .ok (.invokevirtual 72, 3) := by decide +kernel
theorem dX3_tryLinesBehind_8 : decode cX3_tryLinesBehind 8 = .ok (.istore_n 3, 1) := by decide +kernel
theorem dX3_tryLinesBehind_9 : decode cX3_tryLinesBehind 9 = .ok (.iload_n 1, 1) := by decide +kernel
theorem dX3_tryLinesBehind_10 : decode cX3_tryLinesBehind 10 = .ok (.iconst 1, 1) := by decide +kernel
theorem dX3_tryLinesBehind_11 : decode cX3_tryLinesBehind 11 = .ok (.iadd, 1) := by decide +kernel
theorem dX3_tryLinesBehind_12 : decode cX3_tryLinesBehind 12 = .ok (.istore 4, 2) := by decide +kernel
theorem dX3_tryLinesBehind_14 : decode cX3_tryLinesBehind 14 = .ok (.iload 4, 2) := by decide +kernel
theorem dX3_tryLinesBehind_16 : decode cX3_tryLinesBehind 16 = .ok (.aload_n 0, 1) := by decide +kernel
theorem dX3_tryLinesBehind_17 : decode cX3_tryLinesBehind 17 = .ok (.getfield 28, 3) := by decide +kernel
theorem dX3_tryLinesBehind_20 : decode cX3_tryLinesBehind 20 = .ok (.getfield 53, 3) := by decide +kernel
theorem dX3_tryLinesBehind_23 : decode cX3_tryLinesBehind 23 = .ok (.if_icmp .gt 43, 3) := by decide +kernel
theorem dX3_tryLinesBehind_26 : decode cX3_tryLinesBehind 26 = .ok (.aload_n 0, 1) := by decide +kernel
theorem dX3_tryLinesBehind_27 : decode cX3_tryLinesBehind 27 = .ok (.getfield 28, 3) := by decide +kernel
theorem dX3_tryLinesBehind_30 : decode cX3_tryLinesBehind 30 = .ok (.iload 4, 2) := by decide +kernel
theorem dX3_tryLinesBehind_32 : decode cX3_tryLinesBehind 32 = .ok (.iload_n 2, 1) := by decide +kernel
theorem dX3_tryLinesBehind_33 : decode cX3_tryLinesBehind 33 = .ok (.invokevirtual 58, 3) := by decide +kernel
theorem dX3_tryLinesBehind_36 : decode cX3_tryLinesBehind 36 = .ok (.ifCond .eq 11, 3) := by decide +kernel
theorem dX3_tryLinesBehind_39 : decode cX3_tryLinesBehind 39 = .ok (.aload_n 0, 1) := by decide +kernel
theorem dX3_tryLinesBehind_40 : decode cX3_tryLinesBehind 40 = .ok (.iload_n 1, 1) := by decide +kernel
theorem dX3_tryLinesBehind_41 : decode cX3_tryLinesBehind 41 = .ok (.iload_n 3, 1) := by decide +kernel
theorem dX3_tryLinesBehind_42 : decode cX3_tryLinesBehind 42 = .ok (.iload 4, 2) := by decide +kernel
theorem dX3_tryLinesBehind_44 : decode cX3_tryLinesBehind 44 = .ok (.invokevirtual 76, 3) := by decide +kernel
theorem dX3_tryLinesBehind_47 : decode cX3_tryLinesBehind 47 = .ok (.aload_n 0, 1) := by decide +kernel
theorem dX3_tryLinesBehind_48 : decode cX3_tryLinesBehind 48 = .ok (.getfield 28, 3) := by decide +kernel
theorem dX3_tryLinesBehind_51 : decode cX3_tryLinesBehind 51 = .ok (.iload 4, 2) := by decide +kernel
theorem dX3_tryLinesBehind_53 : decode cX3_tryLinesBehind 53 = .ok (.invokevirtual 80, 3) := by decide +kernel
theorem dX3_tryLinesBehind_56 : decode cX3_tryLinesBehind 56 = .ok (.ifCond .eq 4, 3) := by decide +kernel
theorem dX3_tryLinesBehind_59 : decode cX3_tryLinesBehind 59 = .ok (.return_, 1) := by decide +kernel
theorem dX3_tryLinesBehind_60 : decode cX3_tryLinesBehind 60 = .ok (.iinc 4 1, 3) := by decide +kernel
theorem dX3_tryLinesBehind_63 : decode cX3_tryLinesBehind 63 = .ok (.goto (-49), 3) := by decide +kernel
theorem dX3_tryLinesBehind_66 : decode cX3_tryLinesBehind 66 = .ok (.return_, 1) := by decide +kernel
set_option maxRecDepth 20000 in
theorem ggX3_tryLine_X2_toleranceIn : GoodIn wsX3_tryLine wsX2_toleranceIn := goodIn_r _ [12, 13, 101, 102] (by decide +kernel) (by decide +kernel)
set_option maxRecDepth 20000 in
theorem gX3_tryLine_X2_toleranceIn_n83 : GoodIn wsX3_tryLine (wsX2_toleranceIn) := ggX3_tryLine_X2_toleranceIn
set_option maxRecDepth 20000 in
theorem ggX3_tryLine_X2_moreStretchIn : GoodIn wsX3_tryLine wsX2_moreStretchIn := goodIn_r _ [16, 13, 101, 102] (by decide +kernel) (by decide +kernel)
set_option maxRecDepth 20000 in
theorem gX3_tryLine_X2_moreStretchIn_n86 : GoodIn wsX3_tryLine (wsX2_moreStretchIn) := ggX3_tryLine_X2_moreStretchIn
set_option maxRecDepth 20000 in
theorem ggX3_tryLine_X1_measure : GoodIn wsX3_tryLine wsX1_measure := goodIn_r _ [20, 21, 4, 5, 6, 22, 23, 24, 25, 26, 27, 28, 29, 30, 31, 32, 33, 34, 35, 36, 18, 37, 38, 39, 40, 41, 42, 43, 44, 45, 46, 47, 48, 49, 50, 51, 52, 53, 54, 55, 56, 57, 58, 59, 103, 104, 105, 106, 107, 108, 109, 110, 111, 112, 113, 114] (by decide +kernel) (by decide +kernel)
set_option maxRecDepth 20000 in
theorem gX3_tryLine_X1_measure_n99 : GoodIn wsX3_tryLine (wsX1_measure) := ggX3_tryLine_X1_measure
set_option maxRecDepth 20000 in
theorem ggX3_tryLine_X1_isToleratedBy : GoodIn wsX3_tryLine wsX1_isToleratedBy := goodIn_r _ [62, 38, 51, 111, 112, 113, 114] (by decide +kernel) (by decide +kernel)
set_option maxRecDepth 20000 in
theorem gX3_tryLine_X1_isToleratedBy_n103 : GoodIn wsX3_tryLine (wsX1_isToleratedBy) := ggX3_tryLine_X1_isToleratedBy
set_option maxRecDepth 20000 in
theorem ggX3_tryLine_X3_enterLine : GoodIn wsX3_tryLine wsX3_enterLine := goodIn_r _ [67, 68, 7, 69, 70, 71, 72, 73, 74, 66, 75, 76, 77, 78, 79, 80, 8, 81, 82, 24, 83, 84, 85, 28, 29, 30, 31, 32, 33, 86, 87, 88, 89, 90, 18, 91, 92, 93, 5, 94, 95, 96, 97, 98, 99, 100, 111, 112, 113, 114, 103, 104, 105, 106, 107, 108, 109, 110] (by decide +kernel) (by decide +kernel)
set_option maxRecDepth 20000 in
theorem gX3_tryLine_X3_enterLine : GoodIn wsX3_tryLine (wsV RX3 106 RX3 yX3_enterLine wsX3_enterLine) := goodIn_app (goodIn_of _ (by decide +kernel)) ggX3_tryLine_X3_enterLine
theorem dX3_tryLine_0 : decode cX3_tryLine 0 = .ok (.aload_n 0, 1) := by decide +kernel
theorem dX3_tryLine_1 : decode cX3_tryLine 1 = .ok (.getfield 32, 3) := by decide +kernel
theorem dX3_tryLine_4 : decode cX3_tryLine 4 = .ok (.aload_n 0, 1) := by decide +kernel
theorem dX3_tryLine_5 : decode cX3_tryLine 5 = .ok (.getfield 36, 3) := by decide +kernel
theorem dX3_tryLine_8 : decode cX3_tryLine 8 = .ok (.invokevirtual 83, 3) := by decide +kernel
theorem dX3_tryLine_11 : decode cX3_tryLine 11 = .ok (.istore 4, 2) := by decide +kernel
theorem dX3_tryLine_13 : decode cX3_tryLine 13 = .ok (.aload_n 0, 1) := by decide +kernel
theorem dX3_tryLine_14 : decode cX3_tryLine 14 = .ok (.getfield 32, 3) := by decide +kernel
theorem dX3_tryLine_17 : decode cX3_tryLine 17 = .ok (.aload_n 0, 1) := by decide +kernel
theorem dX3_tryLine_18 : decode cX3_tryLine 18 = .ok (.getfield 36, 3) := by decide +kernel
theorem dX3_tryLine_21 : decode cX3_tryLine 21 = .ok (.invokevirtual 86, 3) := by decide +kernel
theorem dX3_tryLine_24 : decode cX3_tryLine 24 = .ok (.istore 5, 2) := by decide +kernel
theorem dX3_tryLine_26 : decode cX3_tryLine 26 = .ok (.iload_n 1, 1) := by decide +kernel
theorem dX3_tryLine_27 : decode cX3_tryLine 27 = .ok (.iconst (-1), 1) := by decide +kernel
theorem dX3_tryLine_28 : decode cX3_tryLine 28 = .ok (.if_icmp .ne 7, 3) := by decide +kernel
theorem dX3_tryLine_31 : decode cX3_tryLine 31 = .ok (.iconst 0, 1) := by decide +kernel
theorem dX3_tryLine_32 : decode cX3_tryLine 32 = .ok (.goto 4, 3) := by decide +kernel
theorem dX3_tryLine_35 : decode cX3_tryLine 35 = .ok (.iconst 1, 1) := by decide +kernel
theorem dX3_tryLine_36 : decode cX3_tryLine 36 = .ok (.istore 6, 2) := by decide +kernel
theorem dX3_tryLine_38 : decode cX3_tryLine 38 = .ok (.iload_n 1, 1) := by decide +kernel
theorem dX3_tryLine_39 : decode cX3_tryLine 39 = .ok (.iconst 1, 1) := by decide +kernel
theorem dX3_tryLine_40 : decode cX3_tryLine 40 = .ok (.iadd, 1) := by decide +kernel
theorem dX3_tryLine_41 : decode cX3_tryLine 41 = .ok (.bipush 49, 2) := by decide +kernel
theorem dX3_tryLine_43 : decode cX3_tryLine 43 = .ok (.invokestatic 89, 3) := by decide +kernel
theorem dX3_tryLine_46 : decode cX3_tryLine 46 = .ok (.istore 7, 2) := by decide +kernel
theorem dX3_tryLine_48 : decode cX3_tryLine 48 = .ok (.iload 6, 2) := by decide +kernel
theorem dX3_tryLine_50 : decode cX3_tryLine 50 = .ok (.istore 8, 2) := by decide +kernel
theorem dX3_tryLine_52 : decode cX3_tryLine 52 = .ok (.iload 8, 2) := by decide +kernel
theorem dX3_tryLine_54 : decode cX3_tryLine 54 = .ok (.iload 7, 2) := by decide +kernel
theorem dX3_tryLine_56 : decode cX3_tryLine 56 = .ok (.if_icmp .gt 86, 3) := by decide +kernel
theorem dX3_tryLine_59 : decode cX3_tryLine 59 = .ok (.iload 8, 2) := by decide +kernel
theorem dX3_tryLine_61 : decode cX3_tryLine 61 = .ok (.iload 6, 2) := by decide +kernel
theorem dX3_tryLine_63 : decode cX3_tryLine 63 = .ok (.if_icmp .eq 28, 3) := by decide +kernel
theorem dX3_tryLine_66 : decode cX3_tryLine 66 = .ok (.aload_n 0, 1) := by decide +kernel
theorem dX3_tryLine_67 : decode cX3_tryLine 67 = .ok (.getfield 32, 3) := by decide +kernel
theorem dX3_tryLine_70 : decode cX3_tryLine 70 = .ok (.getfield 95, 3) := by decide +kernel
theorem dX3_tryLine_73 : decode cX3_tryLine 73 = .ok (.iload 8, 2) := by decide +kernel
theorem dX3_tryLine_75 : decode cX3_tryLine 75 = .ok (.iaload, 1) := by decide +kernel
theorem dX3_tryLine_76 : decode cX3_tryLine 76 = .ok (.aload_n 0, 1) := by decide +kernel
theorem dX3_tryLine_77 : decode cX3_tryLine 77 = .ok (.getfield 32, 3) := by decide +kernel
theorem dX3_tryLine_80 : decode cX3_tryLine 80 = .ok (.getfield 95, 3) := by decide +kernel
theorem dX3_tryLine_83 : decode cX3_tryLine 83 = .ok (.iload 8, 2) := by decide +kernel
theorem dX3_tryLine_85 : decode cX3_tryLine 85 = .ok (.iconst 1, 1) := by decide +kernel
theorem dX3_tryLine_86 : decode cX3_tryLine 86 = .ok (.isub, 1) := by decide +kernel
theorem dX3_tryLine_87 : decode cX3_tryLine 87 = .ok (.iaload, 1) := by decide +kernel
theorem dX3_tryLine_88 : decode cX3_tryLine 88 = .ok (.if_icmp .eq 28, 3) := by decide +kernel
theorem dX3_tryLine_91 : decode cX3_tryLine 91 = .ok (.aload_n 0, 1) := by decide +kernel
theorem dX3_tryLine_92 : decode cX3_tryLine 92 = .ok (.getfield 16, 3) := by decide +kernel
theorem dX3_tryLine_95 : decode cX3_tryLine 95 = .ok (.aload_n 0, 1) := by decide +kernel
theorem dX3_tryLine_96 : decode cX3_tryLine 96 = .ok (.getfield 28, 3) := by decide +kernel
theorem dX3_tryLine_99 : decode cX3_tryLine 99 = .ok (.iload_n 2, 1) := by decide +kernel
theorem dX3_tryLine_100 : decode cX3_tryLine 100 = .ok (.iload_n 3, 1) := by decide +kernel
theorem dX3_tryLine_101 : decode cX3_tryLine 101 = .ok (.aload_n 0, 1) := by decide +kernel
theorem dX3_tryLine_102 : decode cX3_tryLine 102 = .ok (.getfield 32, 3) := by decide +kernel
theorem dX3_tryLine_105 : decode cX3_tryLine 105 = .ok (.getfield 95, 3) := by decide +kernel
theorem dX3_tryLine_108 : decode cX3_tryLine 108 = .ok (.iload 8, 2) := by decide +kernel
theorem dX3_tryLine_110 : decode cX3_tryLine 110 = .ok (.iaload, 1) := by decide +kernel
theorem dX3_tryLine_111 : decode cX3_tryLine 111 = .ok (.iload 5, 2) := by decide +kernel
theorem dX3_tryLine_113 : decode cX3_tryLine 113 = .ok (.invokevirtual 99, 3) := by decide +kernel
theorem dX3_tryLine_116 : decode cX3_tryLine 116 = .ok (.aload_n 0, 1) := by decide +kernel
theorem dX3_tryLine_117 : decode cX3_tryLine 117 = .ok (.getfield 16, 3) := by decide +kernel
theorem dX3_tryLine_120 : decode cX3_tryLine 120 = .ok (.iload 4, 2) := by decide +kernel
theorem dX3_tryLine_122 : decode cX3_tryLine 122 = .ok (.invokevirtual 103, 3) := by decide +kernel
theorem dX3_tryLine_125 : decode cX3_tryLine 125 = .ok (.ifCond .eq 11, 3) := by decide +kernel
theorem dX3_tryLine_128 : decode cX3_tryLine 128 = .ok (.aload_n 0, 1) := by decide +kernel
theorem dX3_tryLine_129 : decode cX3_tryLine 129 = .ok (.iload_n 1, 1) := by decide +kernel
theorem dX3_tryLine_130 : decode cX3_tryLine 130 = .ok (.iload_n 3, 1) := by decide +kernel
theorem dX3_tryLine_131 : decode cX3_tryLine 131 = .ok (.iload 8, 2) := by decide +kernel
theorem dX3_tryLine_133 : decode cX3_tryLine 133 = .ok (.invokevirtual 106, 3) := by decide +kernel
theorem dX3_tryLine_136 : decode cX3_tryLine 136 = .ok (.iinc 8 1, 3) := by decide +kernel
theorem dX3_tryLine_139 : decode cX3_tryLine 139 = .ok (.goto (-87), 3) := by decide +kernel
theorem dX3_tryLine_142 : decode cX3_tryLine 142 = .ok (.return_, 1) := by decide +kernel
set_option maxRecDepth 20000 in
theorem ggX3_enterLine_X3_cellOf : GoodIn wsX3_enterLine wsX3_cellOf := goodIn_r _ [10] (by decide +kernel) (by decide +kernel)
set_option maxRecDepth 20000 in
theorem gX3_enterLine_X3_cellOf : GoodIn wsX3_enterLine (va_wsS RX3 66 yX3_cellOf wsX3_cellOf) := goodIn_app (goodIn_of _ (by decide +kernel)) ggX3_enterLine_X3_cellOf
set_option maxRecDepth 20000 in
theorem ggX3_enterLine_X3_demeritsOfLine : GoodIn wsX3_enterLine wsX3_demeritsOfLine := goodIn_r _ [14, 15, 2, 16, 17, 18, 19, 20, 21, 22, 23, 24, 25, 26, 27, 28, 29, 30, 31, 32, 40, 41, 42, 43, 44, 45, 46, 47, 48, 49, 50, 51, 52, 53, 54, 55, 56, 57] (by decide +kernel) (by decide +kernel)
set_option maxRecDepth 20000 in
theorem gX3_enterLine_X3_demeritsOfLine : GoodIn wsX3_enterLine (wsV RX3 114 RX3 yX3_demeritsOfLine wsX3_demeritsOfLine) := goodIn_app (goodIn_of _ (by decide +kernel)) ggX3_enterLine_X3_demeritsOfLine
set_option maxRecDepth 20000 in
theorem ggX3_enterLine_X1_isUnlike : GoodIn wsX3_enterLine wsX1_isUnlike := goodIn_r _ [35, 36, 37, 38, 39] (by decide +kernel) (by decide +kernel)
set_option maxRecDepth 20000 in
theorem gX3_enterLine_X1_isUnlike_n118 : GoodIn wsX3_enterLine (wsX1_isUnlike) := ggX3_enterLine_X1_isUnlike
theorem dX3_enterLine_0 : decode cX3_enterLine 0 = .ok (.aload_n 0, 1) := by decide +kernel
theorem dX3_enterLine_1 : decode cX3_enterLine 1 = .ok (.getfield 20, 3) := by decide +kernel
theorem dX3_enterLine_4 : decode cX3_enterLine 4 = .ok (.iload_n 2, 1) := by decide +kernel
theorem dX3_enterLine_5 : decode cX3_enterLine 5 = .ok (.iload_n 3, 1) := by decide +kernel
theorem dX3_enterLine_6 : decode cX3_enterLine 6 = .ok (.iconst 1, 1) := by decide +kernel
theorem dX3_enterLine_7 : decode cX3_enterLine 7 = .ok (.iadd, 1) := by decide +kernel
theorem dX3_enterLine_8 : decode cX3_enterLine 8 = .ok (.aload_n 0, 1) := by decide +kernel
theorem dX3_enterLine_9 : decode cX3_enterLine 9 = .ok (.getfield 16, 3) := by decide +kernel
theorem dX3_enterLine_12 : decode cX3_enterLine 12 = .ok (.getfield 109, 3) := by decide +kernel
theorem dX3_enterLine_15 : decode cX3_enterLine 15 = .ok (.invokestatic 66, 3) := by decide +kernel
theorem dX3_enterLine_18 : decode cX3_enterLine 18 = .ok (.laload, 1) := by decide +kernel
theorem dX3_enterLine_19 : decode cX3_enterLine 19 = .ok (.lstore 4, 2) := by decide +kernel
theorem dX3_enterLine_21 : decode cX3_enterLine 21 = .ok (.lload 4, 2) := by decide +kernel
theorem dX3_enterLine_23 : decode cX3_enterLine 23 = .ok (.ldc2_w 70, 3) := by decide +kernel
theorem dX3_enterLine_26 : decode cX3_enterLine 26 = .ok (.lcmp, 1) := by decide +kernel
theorem dX3_enterLine_27 : decode cX3_enterLine 27 = .ok (.ifCond .ne 4, 3) := by decide +kernel
theorem dX3_enterLine_30 : decode cX3_enterLine 30 = .ok (.return_, 1) := by decide +kernel
theorem dX3_enterLine_31 : decode cX3_enterLine 31 = .ok (.lload 4, 2) := by decide +kernel
theorem dX3_enterLine_33 : decode cX3_enterLine 33 = .ok (.lconst 1, 1) := by decide +kernel
theorem dX3_enterLine_34 : decode cX3_enterLine 34 = .ok (.ladd, 1) := by decide +kernel
theorem dX3_enterLine_35 : decode cX3_enterLine 35 = .ok (.ldc2_w 112, 3) := by decide +kernel
theorem dX3_enterLine_38 : decode cX3_enterLine 38 = .ok (.aload_n 0, 1) := by decide +kernel
theorem dX3_enterLine_39 : decode cX3_enterLine 39 = .ok (.iload_n 1, 1) := by decide +kernel
theorem dX3_enterLine_40 : decode cX3_enterLine 40 = .ok (.iload_n 2, 1) := by decide +kernel
theorem dX3_enterLine_41 : decode cX3_enterLine 41 = .ok (.invokevirtual 114, 3) := by decide +kernel
theorem dX3_enterLine_44 : decode cX3_enterLine 44 = .ok (.lmul, 1) := by decide +kernel
theorem dX3_enterLine_45 : decode cX3_enterLine 45 = .ok (.ladd, 1) := by decide +kernel
theorem dX3_enterLine_46 : decode cX3_enterLine 46 = .ok (.lstore 6, 2) := by decide +kernel
theorem dX3_enterLine_48 : decode cX3_enterLine 48 = .ok (.iconst 0, 1) := by decide +kernel
theorem dX3_enterLine_49 : decode cX3_enterLine 49 = .ok (.istore 8, 2) := by decide +kernel
theorem dX3_enterLine_51 : decode cX3_enterLine 51 = .ok (.iload 8, 2) := by decide +kernel
theorem dX3_enterLine_53 : decode cX3_enterLine 53 = .ok (.iconst 4, 1) := by decide +kernel
theorem dX3_enterLine_54 : decode cX3_enterLine 54 = .ok (.if_icmp .ge 94, 3) := by decide +kernel
theorem dX3_enterLine_57 : decode cX3_enterLine 57 = .ok (.iload_n 1, 1) := by decide +kernel
theorem dX3_enterLine_58 : decode cX3_enterLine 58 = .ok (.iconst (-1), 1) := by decide +kernel
theorem dX3_enterLine_59 : decode cX3_enterLine 59 = .ok (.if_icmp .eq 22, 3) := by decide +kernel
theorem dX3_enterLine_62 : decode cX3_enterLine 62 = .ok (.iload 8, 2) := by decide +kernel
theorem dX3_enterLine_64 : decode cX3_enterLine 64 = .ok (.aload_n 0, 1) := by decide +kernel
theorem dX3_enterLine_65 : decode cX3_enterLine 65 = .ok (.getfield 16, 3) := by decide +kernel
theorem dX3_enterLine_68 : decode cX3_enterLine 68 = .ok (.getfield 109, 3) := by decide +kernel
theorem dX3_enterLine_71 : decode cX3_enterLine 71 = .ok (.invokestatic 118, 3) := by decide +kernel
theorem dX3_enterLine_74 : decode cX3_enterLine 74 = .ok (.ifCond .eq 7, 3) := by decide +kernel
theorem dX3_enterLine_77 : decode cX3_enterLine 77 = .ok (.iconst 1, 1) := by decide +kernel
theorem dX3_enterLine_78 : decode cX3_enterLine 78 = .ok (.goto 4, 3) := by decide +kernel
theorem dX3_enterLine_81 : decode cX3_enterLine 81 = .ok (.iconst 0, 1) := by decide +kernel
theorem dX3_enterLine_82 : decode cX3_enterLine 82 = .ok (.istore 9, 2) := by decide +kernel
theorem dX3_enterLine_84 : decode cX3_enterLine 84 = .ok (.iload 9, 2) := by decide +kernel
theorem dX3_enterLine_86 : decode cX3_enterLine 86 = .ok (.ifCond .eq 12, 3) := by decide +kernel
theorem dX3_enterLine_89 : decode cX3_enterLine 89 = .ok (.lload 6, 2) := by decide +kernel
theorem dX3_enterLine_91 : decode cX3_enterLine 91 = .ok (.ldc2_w 122, 3) := by decide +kernel
theorem dX3_enterLine_94 : decode cX3_enterLine 94 = .ok (.ladd, 1) := by decide +kernel
theorem dX3_enterLine_95 : decode cX3_enterLine 95 = .ok (.goto 5, 3) := by decide +kernel
theorem dX3_enterLine_98 : decode cX3_enterLine 98 = .ok (.lload 6, 2) := by decide +kernel
theorem dX3_enterLine_100 : decode cX3_enterLine 100 = .ok (.lstore 10, 2) := by decide +kernel
theorem dX3_enterLine_102 : decode cX3_enterLine 102 = .ok (.iload_n 1, 1) := by decide +kernel
theorem dX3_enterLine_103 : decode cX3_enterLine 103 = .ok (.iload_n 3, 1) := by decide +kernel
theorem dX3_enterLine_104 : decode cX3_enterLine 104 = .ok (.iload 8, 2) := by decide +kernel
theorem dX3_enterLine_106 : decode cX3_enterLine 106 = .ok (.invokestatic 66, 3) := by decide +kernel
theorem dX3_enterLine_109 : decode cX3_enterLine 109 = .ok (.istore 12, 2) := by decide +kernel
theorem dX3_enterLine_111 : decode cX3_enterLine 111 = .ok (.lload 10, 2) := by decide +kernel
theorem dX3_enterLine_113 : decode cX3_enterLine 113 = .ok (.aload_n 0, 1) := by decide +kernel
theorem dX3_enterLine_114 : decode cX3_enterLine 114 = .ok (.getfield 20, 3) := by decide +kernel
theorem dX3_enterLine_117 : decode cX3_enterLine 117 = .ok (.iload 12, 2) := by decide +kernel
theorem dX3_enterLine_119 : decode cX3_enterLine 119 = .ok (.laload, 1) := by decide +kernel
theorem dX3_enterLine_120 : decode cX3_enterLine 120 = .ok (.lcmp, 1) := by decide +kernel
theorem dX3_enterLine_121 : decode cX3_enterLine 121 = .ok (.ifCond .ge 21, 3) := by decide +kernel
theorem dX3_enterLine_124 : decode cX3_enterLine 124 = .ok (.aload_n 0, 1) := by decide +kernel
theorem dX3_enterLine_125 : decode cX3_enterLine 125 = .ok (.getfield 20, 3) := by decide +kernel
theorem dX3_enterLine_128 : decode cX3_enterLine 128 = .ok (.iload 12, 2) := by decide +kernel
theorem dX3_enterLine_130 : decode cX3_enterLine 130 = .ok (.lload 10, 2) := by decide +kernel
theorem dX3_enterLine_132 : decode cX3_enterLine 132 = .ok (.lastore, 1) := by decide +kernel
theorem dX3_enterLine_133 : decode cX3_enterLine 133 = .ok (.aload_n 0, 1) := by decide +kernel
theorem dX3_enterLine_134 : decode cX3_enterLine 134 = .ok (.getfield 24, 3) := by decide +kernel
theorem dX3_enterLine_137 : decode cX3_enterLine 137 = .ok (.iload 12, 2) := by decide +kernel
theorem dX3_enterLine_139 : decode cX3_enterLine 139 = .ok (.iload_n 2, 1) := by decide +kernel
theorem dX3_enterLine_140 : decode cX3_enterLine 140 = .ok (.i2b, 1) := by decide +kernel
theorem dX3_enterLine_141 : decode cX3_enterLine 141 = .ok (.bastore, 1) := by decide +kernel
theorem dX3_enterLine_142 : decode cX3_enterLine 142 = .ok (.iinc 8 1, 3) := by decide +kernel
theorem dX3_enterLine_145 : decode cX3_enterLine 145 = .ok (.goto (-94), 3) := by decide +kernel
theorem dX3_enterLine_148 : decode cX3_enterLine 148 = .ok (.return_, 1) := by decide +kernel
set_option maxRecDepth 20000 in
theorem ggX3_demeritsOfLine_X0_penaltyDemerits : GoodIn wsX3_demeritsOfLine wsX0_penaltyDemerits := goodIn_r _ [8, 9, 10, 11, 12, 6, 13, 14, 15, 30, 31, 32, 33, 34, 35, 36, 37] (by decide +kernel) (by decide +kernel)
set_option maxRecDepth 20000 in
theorem gX3_demeritsOfLine_X0_penaltyDemerits_n129 : GoodIn wsX3_demeritsOfLine (wsX0_penaltyDemerits) := ggX3_demeritsOfLine_X0_penaltyDemerits
set_option maxRecDepth 20000 in
theorem ggX3_demeritsOfLine_X0_isMarked : GoodIn wsX3_demeritsOfLine wsX0_isMarked := goodIn_r _ [18, 19, 10, 11, 12, 6, 13, 14, 15, 30, 31, 32, 33, 34, 35, 36, 37] (by decide +kernel) (by decide +kernel)
set_option maxRecDepth 20000 in
theorem gX3_demeritsOfLine_X0_isMarked_n133 : GoodIn wsX3_demeritsOfLine (wsX0_isMarked) := ggX3_demeritsOfLine_X0_isMarked
theorem dX3_demeritsOfLine_0 : decode cX3_demeritsOfLine 0 = .ok (.ldc2_w 124, 3) := by decide +kernel
theorem dX3_demeritsOfLine_3 : decode cX3_demeritsOfLine 3 = .ok (.aload_n 0, 1) := by decide +kernel
theorem dX3_demeritsOfLine_4 : decode cX3_demeritsOfLine 4 = .ok (.getfield 16, 3) := by decide +kernel
theorem dX3_demeritsOfLine_7 : decode cX3_demeritsOfLine 7 = .ok (.getfield 126, 3) := by decide +kernel
theorem dX3_demeritsOfLine_10 : decode cX3_demeritsOfLine 10 = .ok (.i2l, 1) := by decide +kernel
theorem dX3_demeritsOfLine_11 : decode cX3_demeritsOfLine 11 = .ok (.ladd, 1) := by decide +kernel
theorem dX3_demeritsOfLine_12 : decode cX3_demeritsOfLine 12 = .ok (.lstore_n 3, 1) := by decide +kernel
theorem dX3_demeritsOfLine_13 : decode cX3_demeritsOfLine 13 = .ok (.lload_n 3, 1) := by decide +kernel
theorem dX3_demeritsOfLine_14 : decode cX3_demeritsOfLine 14 = .ok (.lload_n 3, 1) := by decide +kernel
theorem dX3_demeritsOfLine_15 : decode cX3_demeritsOfLine 15 = .ok (.lmul, 1) := by decide +kernel
theorem dX3_demeritsOfLine_16 : decode cX3_demeritsOfLine 16 = .ok (.aload_n 0, 1) := by decide +kernel
theorem dX3_demeritsOfLine_17 : decode cX3_demeritsOfLine 17 = .ok (.getfield 28, 3) := by decide +kernel
theorem dX3_demeritsOfLine_20 : decode cX3_demeritsOfLine 20 = .ok (.iload_n 2, 1) := by decide +kernel
theorem dX3_demeritsOfLine_21 : decode cX3_demeritsOfLine 21 = .ok (.invokevirtual 129, 3) := by decide +kernel
theorem dX3_demeritsOfLine_24 : decode cX3_demeritsOfLine 24 = .ok (.ladd, 1) := by decide +kernel
theorem dX3_demeritsOfLine_25 : decode cX3_demeritsOfLine 25 = .ok (.lstore 5, 2) := by decide +kernel
theorem dX3_demeritsOfLine_27 : decode cX3_demeritsOfLine 27 = .ok (.aload_n 0, 1) := by decide +kernel
theorem dX3_demeritsOfLine_28 : decode cX3_demeritsOfLine 28 = .ok (.getfield 28, 3) := by decide +kernel
theorem dX3_demeritsOfLine_31 : decode cX3_demeritsOfLine 31 = .ok (.iload_n 1, 1) := by decide +kernel
theorem dX3_demeritsOfLine_32 : decode cX3_demeritsOfLine 32 = .ok (.invokevirtual 133, 3) := by decide +kernel
theorem dX3_demeritsOfLine_35 : decode cX3_demeritsOfLine 35 = .ok (.ifCond .eq 23, 3) := by decide +kernel
theorem dX3_demeritsOfLine_38 : decode cX3_demeritsOfLine 38 = .ok (.aload_n 0, 1) := by decide +kernel
theorem dX3_demeritsOfLine_39 : decode cX3_demeritsOfLine 39 = .ok (.getfield 28, 3) := by decide +kernel
theorem dX3_demeritsOfLine_42 : decode cX3_demeritsOfLine 42 = .ok (.iload_n 2, 1) := by decide +kernel
theorem dX3_demeritsOfLine_43 : decode cX3_demeritsOfLine 43 = .ok (.invokevirtual 133, 3) := by decide +kernel
theorem dX3_demeritsOfLine_46 : decode cX3_demeritsOfLine 46 = .ok (.ifCond .eq 12, 3) := by decide +kernel
theorem dX3_demeritsOfLine_49 : decode cX3_demeritsOfLine 49 = .ok (.lload 5, 2) := by decide +kernel
theorem dX3_demeritsOfLine_51 : decode cX3_demeritsOfLine 51 = .ok (.ldc2_w 136, 3) := by decide +kernel
theorem dX3_demeritsOfLine_54 : decode cX3_demeritsOfLine 54 = .ok (.ladd, 1) := by decide +kernel
theorem dX3_demeritsOfLine_55 : decode cX3_demeritsOfLine 55 = .ok (.goto 5, 3) := by decide +kernel
theorem dX3_demeritsOfLine_58 : decode cX3_demeritsOfLine 58 = .ok (.lload 5, 2) := by decide +kernel
theorem dX3_demeritsOfLine_60 : decode cX3_demeritsOfLine 60 = .ok (.lreturn, 1) := by decide +kernel
set_option maxRecDepth 20000 in
theorem ggX3_tell_X4_forget : GoodIn wsX3_tell wsX4_forget := goodIn_r _ [11, 12, 13, 14, 90, 91, 92, 93, 94, 95, 96] (by decide +kernel) (by decide +kernel)
set_option maxRecDepth 20000 in
theorem gX3_tell_X4_forget_n138 : GoodIn wsX3_tell (wsX4_forget) := ggX3_tell_X4_forget
set_option maxRecDepth 20000 in
theorem ggX3_tell_X3_cellOf : GoodIn wsX3_tell wsX3_cellOf := goodIn_r _ [18] (by decide +kernel) (by decide +kernel)
set_option maxRecDepth 20000 in
theorem gX3_tell_X3_cellOf : GoodIn wsX3_tell (va_wsS RX3 66 yX3_cellOf wsX3_cellOf) := goodIn_app (goodIn_of _ (by decide +kernel)) ggX3_tell_X3_cellOf
set_option maxRecDepth 20000 in
theorem ggX3_tell_J9_floorDiv_f86c9 : GoodIn wsX3_tell wsJ9_floorDiv_f86c9 := goodIn_r _ [22] (by decide +kernel) (by decide +kernel)
set_option maxRecDepth 20000 in
theorem gX3_tell_J9_floorDiv_f86c9 : GoodIn wsX3_tell (va_wsS RX3 144 yJ9_floorDiv_f86c9 wsJ9_floorDiv_f86c9) := goodIn_app (goodIn_of _ (by decide +kernel)) ggX3_tell_J9_floorDiv_f86c9
set_option maxRecDepth 20000 in
theorem ggX3_tell_X0_startBehind : GoodIn wsX3_tell wsX0_startBehind := goodIn_r _ [26, 27, 28, 97, 98, 99, 100, 101, 102, 103, 104] (by decide +kernel) (by decide +kernel)
set_option maxRecDepth 20000 in
theorem gX3_tell_X0_startBehind_n72 : GoodIn wsX3_tell (wsX0_startBehind) := ggX3_tell_X0_startBehind
set_option maxRecDepth 20000 in
theorem ggX3_tell_X2_moreStretchIn : GoodIn wsX3_tell wsX2_moreStretchIn := goodIn_r _ [32, 33, 105, 106] (by decide +kernel) (by decide +kernel)
set_option maxRecDepth 20000 in
theorem gX3_tell_X2_moreStretchIn_n86 : GoodIn wsX3_tell (wsX2_moreStretchIn) := ggX3_tell_X2_moreStretchIn
set_option maxRecDepth 20000 in
theorem ggX3_tell_X1_measure : GoodIn wsX3_tell wsX1_measure := goodIn_r _ [37, 38, 39, 40, 41, 42, 43, 24, 44, 45, 46, 47, 48, 49, 50, 27, 28, 51, 52, 53, 35, 54, 55, 56, 57, 58, 59, 60, 61, 62, 63, 64, 65, 66, 67, 68, 69, 70, 71, 72, 73, 74, 75, 76, 97, 98, 99, 100, 101, 102, 103, 104, 107, 108, 109, 110] (by decide +kernel) (by decide +kernel)
set_option maxRecDepth 20000 in
theorem gX3_tell_X1_measure_n99 : GoodIn wsX3_tell (wsX1_measure) := ggX3_tell_X1_measure
set_option maxRecDepth 20000 in
theorem ggX3_tell_X4_append : GoodIn wsX3_tell wsX4_append := goodIn_r _ [79, 12, 80, 81, 82, 83, 90, 91, 92, 93, 94, 95, 96, 107, 108, 109, 110] (by decide +kernel) (by decide +kernel)
set_option maxRecDepth 20000 in
theorem gX3_tell_X4_append_n152 : GoodIn wsX3_tell (wsX4_append) := ggX3_tell_X4_append
theorem dX3_tell_0 : decode cX3_tell 0 = .ok (.aload_n 1, 1) := by decide +kernel
theorem dX3_tell_1 : decode cX3_tell 1 = .ok (.invokevirtual 138, 3) := by decide +kernel
theorem dX3_tell_4 : decode cX3_tell 4 = .ok (.aload_n 1, 1) := by decide +kernel
theorem dX3_tell_5 : decode cX3_tell 5 = .ok (.aload_n 0, 1) := by decide +kernel
theorem dX3_tell_6 : decode cX3_tell 6 = .ok (.getfield 36, 3) := by decide +kernel
theorem dX3_tell_9 : decode cX3_tell 9 = .ok (.putfield 143, 3) := by decide +kernel
theorem dX3_tell_12 : decode cX3_tell 12 = .ok (.aload_n 1, 1) := by decide +kernel
theorem dX3_tell_13 : decode cX3_tell 13 = .ok (.aload_n 0, 1) := by decide +kernel
theorem dX3_tell_14 : decode cX3_tell 14 = .ok (.getfield 20, 3) := by decide +kernel
theorem dX3_tell_17 : decode cX3_tell 17 = .ok (.iconst (-1), 1) := by decide +kernel
theorem dX3_tell_18 : decode cX3_tell 18 = .ok (.iconst 0, 1) := by decide +kernel
theorem dX3_tell_19 : decode cX3_tell 19 = .ok (.iconst 0, 1) := by decide +kernel
theorem dX3_tell_20 : decode cX3_tell 20 = .ok (.invokestatic 66, 3) := by decide +kernel
theorem dX3_tell_23 : decode cX3_tell 23 = .ok (.laload, 1) := by decide +kernel
theorem dX3_tell_24 : decode cX3_tell 24 = .ok (.ldc2_w 112, 3) := by decide +kernel
theorem dX3_tell_27 : decode cX3_tell 27 = .ok (.invokestatic 144, 3) := by decide +kernel
theorem dX3_tell_30 : decode cX3_tell 30 = .ok (.putfield 148, 3) := by decide +kernel
theorem dX3_tell_33 : decode cX3_tell 33 = .ok (.iconst (-1), 1) := by decide +kernel
theorem dX3_tell_34 : decode cX3_tell 34 = .ok (.istore_n 2, 1) := by decide +kernel
theorem dX3_tell_35 : decode cX3_tell 35 = .ok (.iconst 0, 1) := by decide +kernel
theorem dX3_tell_36 : decode cX3_tell 36 = .ok (.istore_n 3, 1) := by decide +kernel
theorem dX3_tell_37 : decode cX3_tell 37 = .ok (.iconst 0, 1) := by decide +kernel
theorem dX3_tell_38 : decode cX3_tell 38 = .ok (.istore 4, 2) := by decide +kernel
theorem dX3_tell_40 : decode cX3_tell 40 = .ok (.iload 4, 2) := by decide +kernel
theorem dX3_tell_42 : decode cX3_tell 42 = .ok (.bipush 50, 2) := by decide +kernel
theorem dX3_tell_44 : decode cX3_tell 44 = .ok (.if_icmp .ge 116, 3) := by decide +kernel
theorem dX3_tell_47 : decode cX3_tell 47 = .ok (.iload_n 2, 1) := by decide +kernel
theorem dX3_tell_48 : decode cX3_tell 48 = .ok (.aload_n 0, 1) := by decide +kernel
theorem dX3_tell_49 : decode cX3_tell 49 = .ok (.getfield 28, 3) := by decide +kernel
theorem dX3_tell_52 : decode cX3_tell 52 = .ok (.getfield 53, 3) := by decide +kernel
theorem dX3_tell_55 : decode cX3_tell 55 = .ok (.if_icmp .ge 105, 3) := by decide +kernel
theorem dX3_tell_58 : decode cX3_tell 58 = .ok (.aload_n 0, 1) := by decide +kernel
theorem dX3_tell_59 : decode cX3_tell 59 = .ok (.getfield 24, 3) := by decide +kernel
theorem dX3_tell_62 : decode cX3_tell 62 = .ok (.iload_n 2, 1) := by decide +kernel
theorem dX3_tell_63 : decode cX3_tell 63 = .ok (.iload 4, 2) := by decide +kernel
theorem dX3_tell_65 : decode cX3_tell 65 = .ok (.iload_n 3, 1) := by decide +kernel
theorem dX3_tell_66 : decode cX3_tell 66 = .ok (.invokestatic 66, 3) := by decide +kernel
theorem dX3_tell_69 : decode cX3_tell 69 = .ok (.baload, 1) := by decide +kernel
theorem dX3_tell_70 : decode cX3_tell 70 = .ok (.istore 5, 2) := by decide +kernel
theorem dX3_tell_72 : decode cX3_tell 72 = .ok (.iload 5, 2) := by decide +kernel
theorem dX3_tell_74 : decode cX3_tell 74 = .ok (.iload_n 2, 1) := by decide +kernel
theorem dX3_tell_75 : decode cX3_tell 75 = .ok (.if_icmp .le 15, 3) := by decide +kernel
theorem dX3_tell_78 : decode cX3_tell 78 = .ok (.iload 5, 2) := by decide +kernel
theorem dX3_tell_80 : decode cX3_tell 80 = .ok (.aload_n 0, 1) := by decide +kernel
theorem dX3_tell_81 : decode cX3_tell 81 = .ok (.getfield 28, 3) := by decide +kernel
theorem dX3_tell_84 : decode cX3_tell 84 = .ok (.getfield 53, 3) := by decide +kernel
theorem dX3_tell_87 : decode cX3_tell 87 = .ok (.if_icmp .le 4, 3) := by decide +kernel
theorem dX3_tell_90 : decode cX3_tell 90 = .ok (.return_, 1) := by decide +kernel
theorem dX3_tell_91 : decode cX3_tell 91 = .ok (.aload_n 0, 1) := by decide +kernel
theorem dX3_tell_92 : decode cX3_tell 92 = .ok (.getfield 16, 3) := by decide +kernel
theorem dX3_tell_95 : decode cX3_tell 95 = .ok (.aload_n 0, 1) := by decide +kernel
theorem dX3_tell_96 : decode cX3_tell 96 = .ok (.getfield 28, 3) := by decide +kernel
theorem dX3_tell_99 : decode cX3_tell 99 = .ok (.aload_n 0, 1) := by decide +kernel
theorem dX3_tell_100 : decode cX3_tell 100 = .ok (.getfield 28, 3) := by decide +kernel
theorem dX3_tell_103 : decode cX3_tell 103 = .ok (.iload_n 2, 1) := by decide +kernel
theorem dX3_tell_104 : decode cX3_tell 104 = .ok (.invokevirtual 72, 3) := by decide +kernel
theorem dX3_tell_107 : decode cX3_tell 107 = .ok (.iload 5, 2) := by decide +kernel
theorem dX3_tell_109 : decode cX3_tell 109 = .ok (.aload_n 0, 1) := by decide +kernel
theorem dX3_tell_110 : decode cX3_tell 110 = .ok (.getfield 32, 3) := by decide +kernel
theorem dX3_tell_113 : decode cX3_tell 113 = .ok (.getfield 95, 3) := by decide +kernel
theorem dX3_tell_116 : decode cX3_tell 116 = .ok (.iload 4, 2) := by decide +kernel
theorem dX3_tell_118 : decode cX3_tell 118 = .ok (.iaload, 1) := by decide +kernel
theorem dX3_tell_119 : decode cX3_tell 119 = .ok (.aload_n 0, 1) := by decide +kernel
theorem dX3_tell_120 : decode cX3_tell 120 = .ok (.getfield 32, 3) := by decide +kernel
theorem dX3_tell_123 : decode cX3_tell 123 = .ok (.aload_n 0, 1) := by decide +kernel
theorem dX3_tell_124 : decode cX3_tell 124 = .ok (.getfield 36, 3) := by decide +kernel
theorem dX3_tell_127 : decode cX3_tell 127 = .ok (.invokevirtual 86, 3) := by decide +kernel
theorem dX3_tell_130 : decode cX3_tell 130 = .ok (.invokevirtual 99, 3) := by decide +kernel
theorem dX3_tell_133 : decode cX3_tell 133 = .ok (.aload_n 1, 1) := by decide +kernel
theorem dX3_tell_134 : decode cX3_tell 134 = .ok (.iload 5, 2) := by decide +kernel
theorem dX3_tell_136 : decode cX3_tell 136 = .ok (.aload_n 0, 1) := by decide +kernel
theorem dX3_tell_137 : decode cX3_tell 137 = .ok (.getfield 16, 3) := by decide +kernel
theorem dX3_tell_140 : decode cX3_tell 140 = .ok (.invokevirtual 152, 3) := by decide +kernel
theorem dX3_tell_143 : decode cX3_tell 143 = .ok (.iload 5, 2) := by decide +kernel
theorem dX3_tell_145 : decode cX3_tell 145 = .ok (.istore_n 2, 1) := by decide +kernel
theorem dX3_tell_146 : decode cX3_tell 146 = .ok (.aload_n 0, 1) := by decide +kernel
theorem dX3_tell_147 : decode cX3_tell 147 = .ok (.getfield 16, 3) := by decide +kernel
theorem dX3_tell_150 : decode cX3_tell 150 = .ok (.getfield 109, 3) := by decide +kernel
theorem dX3_tell_153 : decode cX3_tell 153 = .ok (.istore_n 3, 1) := by decide +kernel
theorem dX3_tell_154 : decode cX3_tell 154 = .ok (.iinc 4 1, 3) := by decide +kernel
theorem dX3_tell_157 : decode cX3_tell 157 = .ok (.goto (-117), 3) := by decide +kernel
theorem dX3_tell_160 : decode cX3_tell 160 = .ok (.return_, 1) := by decide +kernel
theorem dX4_init_0 : decode cX4_init 0 = .ok (.aload_n 0, 1) := by decide +kernel
theorem dX4_init_1 : decode cX4_init 1 = .ok (.invokespecial 3, 3) := by decide +kernel
theorem dX4_init_4 : decode cX4_init 4 = .ok (.aload_n 0, 1) := by decide +kernel
theorem dX4_init_5 : decode cX4_init 5 = .ok (.bipush 50, 2) := by decide +kernel
theorem dX4_init_7 : decode cX4_init 7 = .ok (.newarray .int, 2) := by decide +kernel
theorem dX4_init_9 : decode cX4_init 9 = .ok (.putfield 9, 3) := by decide +kernel
theorem dX4_init_12 : decode cX4_init 12 = .ok (.aload_n 0, 1) := by decide +kernel
theorem dX4_init_13 : decode cX4_init 13 = .ok (.bipush 50, 2) := by decide +kernel
theorem dX4_init_15 : decode cX4_init 15 = .ok (.newarray .int, 2) := by decide +kernel
theorem dX4_init_17 : decode cX4_init 17 = .ok (.putfield 15, 3) := by decide +kernel
theorem dX4_init_20 : decode cX4_init 20 = .ok (.aload_n 0, 1) := by decide +kernel
theorem dX4_init_21 : decode cX4_init 21 = .ok (.bipush 50, 2) := by decide +kernel
theorem dX4_init_23 : decode cX4_init 23 = .ok (.newarray .int, 2) := by decide +kernel
theorem dX4_init_25 : decode cX4_init 25 = .ok (.putfield 18, 3) := by decide +kernel
theorem dX4_init_28 : decode cX4_init 28 = .ok (.aload_n 0, 1) := by decide +kernel
theorem dX4_init_29 : decode cX4_init 29 = .ok (.bipush 50, 2) := by decide +kernel
theorem dX4_init_31 : decode cX4_init 31 = .ok (.newarray .int, 2) := by decide +kernel
theorem dX4_init_33 : decode cX4_init 33 = .ok (.putfield 21, 3) := by decide +kernel
theorem dX4_init_36 : decode cX4_init 36 = .ok (.return_, 1) := by decide +kernel
theorem dX4_forget_0 : decode cX4_forget 0 = .ok (.aload_n 0, 1) := by decide +kernel
theorem dX4_forget_1 : decode cX4_forget 1 = .ok (.iconst 0, 1) := by decide +kernel
theorem dX4_forget_2 : decode cX4_forget 2 = .ok (.putfield 24, 3) := by decide +kernel
theorem dX4_forget_5 : decode cX4_forget 5 = .ok (.aload_n 0, 1) := by decide +kernel
theorem dX4_forget_6 : decode cX4_forget 6 = .ok (.iconst 0, 1) := by decide +kernel
theorem dX4_forget_7 : decode cX4_forget 7 = .ok (.putfield 28, 3) := by decide +kernel
theorem dX4_forget_10 : decode cX4_forget 10 = .ok (.aload_n 0, 1) := by decide +kernel
theorem dX4_forget_11 : decode cX4_forget 11 = .ok (.lconst 0, 1) := by decide +kernel
theorem dX4_forget_12 : decode cX4_forget 12 = .ok (.putfield 31, 3) := by decide +kernel
theorem dX4_forget_15 : decode cX4_forget 15 = .ok (.return_, 1) := by decide +kernel
theorem dX4_append_0 : decode cX4_append 0 = .ok (.aload_n 0, 1) := by decide +kernel
theorem dX4_append_1 : decode cX4_append 1 = .ok (.getfield 24, 3) := by decide +kernel
theorem dX4_append_4 : decode cX4_append 4 = .ok (.bipush 50, 2) := by decide +kernel
theorem dX4_append_6 : decode cX4_append 6 = .ok (.if_icmp .lt 4, 3) := by decide +kernel
theorem dX4_append_9 : decode cX4_append 9 = .ok (.return_, 1) := by decide +kernel
theorem dX4_append_10 : decode cX4_append 10 = .ok (.aload_n 0, 1) := by decide +kernel
theorem dX4_append_11 : decode cX4_append 11 = .ok (.getfield 9, 3) := by decide +kernel
theorem dX4_append_14 : decode cX4_append 14 = .ok (.aload_n 0, 1) := by decide +kernel
theorem dX4_append_15 : decode cX4_append 15 = .ok (.getfield 24, 3) := by decide +kernel
theorem dX4_append_18 : decode cX4_append 18 = .ok (.iload_n 1, 1) := by decide +kernel
theorem dX4_append_19 : decode cX4_append 19 = .ok (.iastore, 1) := by decide +kernel
theorem dX4_append_20 : decode cX4_append 20 = .ok (.aload_n 0, 1) := by decide +kernel
theorem dX4_append_21 : decode cX4_append 21 = .ok (.getfield 15, 3) := by decide +kernel
theorem dX4_append_24 : decode cX4_append 24 = .ok (.aload_n 0, 1) := by decide +kernel
theorem dX4_append_25 : decode cX4_append 25 = .ok (.getfield 24, 3) := by decide +kernel
theorem dX4_append_28 : decode cX4_append 28 = .ok (.aload_n 2, 1) := by decide +kernel
theorem dX4_append_29 : decode cX4_append 29 = .ok (.getfield 35, 3) := by decide +kernel
theorem dX4_append_32 : decode cX4_append 32 = .ok (.iastore, 1) := by decide +kernel
theorem dX4_append_33 : decode cX4_append 33 = .ok (.aload_n 0, 1) := by decide +kernel
theorem dX4_append_34 : decode cX4_append 34 = .ok (.getfield 18, 3) := by decide +kernel
theorem dX4_append_37 : decode cX4_append 37 = .ok (.aload_n 0, 1) := by decide +kernel
theorem dX4_append_38 : decode cX4_append 38 = .ok (.getfield 24, 3) := by decide +kernel
theorem dX4_append_41 : decode cX4_append 41 = .ok (.aload_n 2, 1) := by decide +kernel
theorem dX4_append_42 : decode cX4_append 42 = .ok (.getfield 40, 3) := by decide +kernel
theorem dX4_append_45 : decode cX4_append 45 = .ok (.iastore, 1) := by decide +kernel
theorem dX4_append_46 : decode cX4_append 46 = .ok (.aload_n 0, 1) := by decide +kernel
theorem dX4_append_47 : decode cX4_append 47 = .ok (.getfield 21, 3) := by decide +kernel
theorem dX4_append_50 : decode cX4_append 50 = .ok (.aload_n 0, 1) := by decide +kernel
theorem dX4_append_51 : decode cX4_append 51 = .ok (.getfield 24, 3) := by decide +kernel
theorem dX4_append_54 : decode cX4_append 54 = .ok (.aload_n 2, 1) := by decide +kernel
theorem dX4_append_55 : decode cX4_append 55 = .ok (.getfield 43, 3) := by decide +kernel
theorem dX4_append_58 : decode cX4_append 58 = .ok (.iastore, 1) := by decide +kernel
theorem dX4_append_59 : decode cX4_append 59 = .ok (.aload_n 0, 1) := by decide +kernel
theorem dX4_append_60 : decode cX4_append 60 = .ok (.dup, 1) := by decide +kernel
theorem dX4_append_61 : decode cX4_append 61 = .ok (.getfield 24, 3) := by decide +kernel
theorem dX4_append_64 : decode cX4_append 64 = .ok (.iconst 1, 1) := by decide +kernel
theorem dX4_append_65 : decode cX4_append 65 = .ok (.iadd, 1) := by decide +kernel
theorem dX4_append_66 : decode cX4_append 66 = .ok (.putfield 24, 3) := by decide +kernel
theorem dX4_append_69 : decode cX4_append 69 = .ok (.return_, 1) := by decide +kernel
theorem dX4_hasLine_0 : decode cX4_hasLine 0 = .ok (.iload_n 1, 1) := by decide +kernel
theorem dX4_hasLine_1 : decode cX4_hasLine 1 = .ok (.ifCond .lt 15, 3) := by decide +kernel
theorem dX4_hasLine_4 : decode cX4_hasLine 4 = .ok (.iload_n 1, 1) := by decide +kernel
theorem dX4_hasLine_5 : decode cX4_hasLine 5 = .ok (.aload_n 0, 1) := by decide +kernel
theorem dX4_hasLine_6 : decode cX4_hasLine 6 = .ok (.getfield 24, 3) := by decide +kernel
theorem dX4_hasLine_9 : decode cX4_hasLine 9 = .ok (.if_icmp .ge 7, 3) := by decide +kernel
theorem dX4_hasLine_12 : decode cX4_hasLine 12 = .ok (.iconst 1, 1) := by decide +kernel
theorem dX4_hasLine_13 : decode cX4_hasLine 13 = .ok (.goto 4, 3) := by decide +kernel
theorem dX4_hasLine_16 : decode cX4_hasLine 16 = .ok (.iconst 0, 1) := by decide +kernel
theorem dX4_hasLine_17 : decode cX4_hasLine 17 = .ok (.ireturn, 1) := by decide +kernel
set_option maxRecDepth 20000 in
theorem ggX5_init_X0_init : GoodIn wsX5_init wsX0_init := goodIn_r _ [21, 22, 2, 3, 23, 24, 25, 26, 27, 28, 29, 30, 31, 64, 65, 66, 67, 68, 69, 70, 71] (by decide +kernel) (by decide +kernel)
set_option maxRecDepth 20000 in
theorem gX5_init_X0_init_n9 : GoodIn wsX5_init (wsX0_init) := ggX5_init_X0_init
set_option maxRecDepth 20000 in
theorem ggX5_init_X2_init : GoodIn wsX5_init wsX2_init := goodIn_r _ [33, 34, 2, 3, 23, 35, 36, 37, 38, 39, 40, 76, 77] (by decide +kernel) (by decide +kernel)
set_option maxRecDepth 20000 in
theorem gX5_init_X2_init_n18 : GoodIn wsX5_init (wsX2_init) := ggX5_init_X2_init
set_option maxRecDepth 20000 in
theorem ggX5_init_X3_init : GoodIn wsX5_init wsX3_init := goodIn_r _ [42, 43, 2, 3, 44, 45, 46, 47, 48, 49, 50, 51, 52, 53, 54, 55, 56, 91, 92, 93, 94, 78, 79, 80, 81, 82, 83] (by decide +kernel) (by decide +kernel)
set_option maxRecDepth 20000 in
theorem gX5_init_X3_init_n27 : GoodIn wsX5_init (wsX3_init) := ggX5_init_X3_init
set_option maxRecDepth 20000 in
theorem ggX5_init_X4_init : GoodIn wsX5_init wsX4_init := goodIn_r _ [58, 59, 2, 3, 23, 60, 61, 62, 63, 84, 85, 86, 87, 88, 89, 90] (by decide +kernel) (by decide +kernel)
set_option maxRecDepth 20000 in
theorem gX5_init_X4_init_n36 : GoodIn wsX5_init (wsX4_init) := ggX5_init_X4_init
theorem dX5_init_0 : decode cX5_init 0 = .ok (.aload_n 0, 1) := by decide +kernel
theorem dX5_init_1 : decode cX5_init 1 = .ok (.invokespecial 1, 3) := by decide +kernel
theorem dX5_init_4 : decode cX5_init 4 = .ok (.aload_n 0, 1) := by decide +kernel
theorem dX5_init_5 : decode cX5_init 5 = .ok (.new 7, 3) := by decide +kernel
theorem dX5_init_8 : decode cX5_init 8 = .ok (.dup, 1) := by decide +kernel
theorem dX5_init_9 : decode cX5_init 9 = .ok (.invokespecial 9, 3) := by decide +kernel
theorem dX5_init_12 : decode cX5_init 12 = .ok (.putfield 10, 3) := by decide +kernel
theorem dX5_init_15 : decode cX5_init 15 = .ok (.aload_n 0, 1) := by decide +kernel
theorem dX5_init_16 : decode cX5_init 16 = .ok (.new 16, 3) := by decide +kernel
theorem dX5_init_19 : decode cX5_init 19 = .ok (.dup, 1) := by decide +kernel
theorem dX5_init_20 : decode cX5_init 20 = .ok (.iload_n 1, 1) := by decide +kernel
theorem dX5_init_21 : decode cX5_init 21 = .ok (.sipush 16383, 3) := by decide +kernel
theorem dX5_init_24 : decode cX5_init 24 = .ok (.iand, 1) := by decide +kernel
theorem dX5_init_25 : decode cX5_init 25 = .ok (.invokespecial 18, 3) := by decide +kernel
theorem dX5_init_28 : decode cX5_init 28 = .ok (.putfield 21, 3) := by decide +kernel
theorem dX5_init_31 : decode cX5_init 31 = .ok (.aload_n 0, 1) := by decide +kernel
theorem dX5_init_32 : decode cX5_init 32 = .ok (.new 25, 3) := by decide +kernel
theorem dX5_init_35 : decode cX5_init 35 = .ok (.dup, 1) := by decide +kernel
theorem dX5_init_36 : decode cX5_init 36 = .ok (.aload_n 0, 1) := by decide +kernel
theorem dX5_init_37 : decode cX5_init 37 = .ok (.getfield 10, 3) := by decide +kernel
theorem dX5_init_40 : decode cX5_init 40 = .ok (.aload_n 0, 1) := by decide +kernel
theorem dX5_init_41 : decode cX5_init 41 = .ok (.getfield 21, 3) := by decide +kernel
theorem dX5_init_44 : decode cX5_init 44 = .ok (.invokespecial 27, 3) := by decide +kernel
theorem dX5_init_47 : decode cX5_init 47 = .ok (.putfield 30, 3) := by decide +kernel
theorem dX5_init_50 : decode cX5_init 50 = .ok (.aload_n 0, 1) := by decide +kernel
theorem dX5_init_51 : decode cX5_init 51 = .ok (.new 34, 3) := by decide +kernel
theorem dX5_init_54 : decode cX5_init 54 = .ok (.dup, 1) := by decide +kernel
theorem dX5_init_55 : decode cX5_init 55 = .ok (.invokespecial 36, 3) := by decide +kernel
theorem dX5_init_58 : decode cX5_init 58 = .ok (.putfield 37, 3) := by decide +kernel
theorem dX5_init_61 : decode cX5_init 61 = .ok (.return_, 1) := by decide +kernel
set_option maxRecDepth 20000 in
theorem ggX5_box_X5_isWithin : GoodIn wsX5_box wsX5_isWithin := goodIn_r _ [5] (by decide +kernel) (by decide +kernel)
set_option maxRecDepth 20000 in
theorem gX5_box_X5_isWithin : GoodIn wsX5_box (va_wsS RX5 41 yX5_isWithin wsX5_isWithin) := goodIn_app (goodIn_of _ (by decide +kernel)) ggX5_box_X5_isWithin
set_option maxRecDepth 20000 in
theorem ggX5_box_X0_append : GoodIn wsX5_box wsX0_append := goodIn_r _ [9, 10, 11, 12, 13, 14, 19, 20, 21, 22, 23, 24, 25, 26] (by decide +kernel) (by decide +kernel)
set_option maxRecDepth 20000 in
theorem gX5_box_X0_append_n45 : GoodIn wsX5_box (wsX0_append) := ggX5_box_X0_append
theorem dX5_box_0 : decode cX5_box 0 = .ok (.iload_n 1, 1) := by decide +kernel
theorem dX5_box_1 : decode cX5_box 1 = .ok (.iconst 0, 1) := by decide +kernel
theorem dX5_box_2 : decode cX5_box 2 = .ok (.sipush 10000, 3) := by decide +kernel
theorem dX5_box_5 : decode cX5_box 5 = .ok (.invokestatic 41, 3) := by decide +kernel
theorem dX5_box_8 : decode cX5_box 8 = .ok (.ifCond .ne 5, 3) := by decide +kernel
theorem dX5_box_11 : decode cX5_box 11 = .ok (.iconst (-1), 1) := by decide +kernel
theorem dX5_box_12 : decode cX5_box 12 = .ok (.ireturn, 1) := by decide +kernel
theorem dX5_box_13 : decode cX5_box 13 = .ok (.aload_n 0, 1) := by decide +kernel
theorem dX5_box_14 : decode cX5_box 14 = .ok (.getfield 10, 3) := by decide +kernel
theorem dX5_box_17 : decode cX5_box 17 = .ok (.iconst 0, 1) := by decide +kernel
theorem dX5_box_18 : decode cX5_box 18 = .ok (.iload_n 1, 1) := by decide +kernel
theorem dX5_box_19 : decode cX5_box 19 = .ok (.iconst 0, 1) := by decide +kernel
theorem dX5_box_20 : decode cX5_box 20 = .ok (.iconst 0, 1) := by decide +kernel
theorem dX5_box_21 : decode cX5_box 21 = .ok (.invokevirtual 45, 3) := by decide +kernel
theorem dX5_box_24 : decode cX5_box 24 = .ok (.ireturn, 1) := by decide +kernel
set_option maxRecDepth 20000 in
theorem ggX5_glue_X5_isWithin : GoodIn wsX5_glue wsX5_isWithin := goodIn_r _ [5] (by decide +kernel) (by decide +kernel)
set_option maxRecDepth 20000 in
theorem gX5_glue_X5_isWithin : GoodIn wsX5_glue (va_wsS RX5 41 yX5_isWithin wsX5_isWithin) := goodIn_app (goodIn_of _ (by decide +kernel)) ggX5_glue_X5_isWithin
set_option maxRecDepth 20000 in
theorem ggX5_glue_X0_append : GoodIn wsX5_glue wsX0_append := goodIn_r _ [9, 10, 11, 12, 13, 14, 19, 20, 21, 22, 23, 24, 25, 26] (by decide +kernel) (by decide +kernel)
set_option maxRecDepth 20000 in
theorem gX5_glue_X0_append_n45 : GoodIn wsX5_glue (wsX0_append) := ggX5_glue_X0_append
theorem dX5_glue_0 : decode cX5_glue 0 = .ok (.iload_n 1, 1) := by decide +kernel
theorem dX5_glue_1 : decode cX5_glue 1 = .ok (.iconst 0, 1) := by decide +kernel
theorem dX5_glue_2 : decode cX5_glue 2 = .ok (.sipush 10000, 3) := by decide +kernel
theorem dX5_glue_5 : decode cX5_glue 5 = .ok (.invokestatic 41, 3) := by decide +kernel
theorem dX5_glue_8 : decode cX5_glue 8 = .ok (.ifCond .eq 25, 3) := by decide +kernel
theorem dX5_glue_11 : decode cX5_glue 11 = .ok (.iload_n 2, 1) := by decide +kernel
theorem dX5_glue_12 : decode cX5_glue 12 = .ok (.iconst 0, 1) := by decide +kernel
theorem dX5_glue_13 : decode cX5_glue 13 = .ok (.sipush 10000, 3) := by decide +kernel
theorem dX5_glue_16 : decode cX5_glue 16 = .ok (.invokestatic 41, 3) := by decide +kernel
theorem dX5_glue_19 : decode cX5_glue 19 = .ok (.ifCond .eq 14, 3) := by decide +kernel
theorem dX5_glue_22 : decode cX5_glue 22 = .ok (.iload_n 3, 1) := by decide +kernel
theorem dX5_glue_23 : decode cX5_glue 23 = .ok (.iconst 0, 1) := by decide +kernel
theorem dX5_glue_24 : decode cX5_glue 24 = .ok (.sipush 1000, 3) := by decide +kernel
theorem dX5_glue_27 : decode cX5_glue 27 = .ok (.invokestatic 41, 3) := by decide +kernel
theorem dX5_glue_30 : decode cX5_glue 30 = .ok (.ifCond .ne 5, 3) := by decide +kernel
theorem dX5_glue_33 : decode cX5_glue 33 = .ok (.iconst (-1), 1) := by decide +kernel
theorem dX5_glue_34 : decode cX5_glue 34 = .ok (.ireturn, 1) := by decide +kernel
theorem dX5_glue_35 : decode cX5_glue 35 = .ok (.aload_n 0, 1) := by decide +kernel
theorem dX5_glue_36 : decode cX5_glue 36 = .ok (.getfield 10, 3) := by decide +kernel
theorem dX5_glue_39 : decode cX5_glue 39 = .ok (.iconst 1, 1) := by decide +kernel
theorem dX5_glue_40 : decode cX5_glue 40 = .ok (.iload_n 1, 1) := by decide +kernel
theorem dX5_glue_41 : decode cX5_glue 41 = .ok (.iload_n 2, 1) := by decide +kernel
theorem dX5_glue_42 : decode cX5_glue 42 = .ok (.iload_n 3, 1) := by decide +kernel
theorem dX5_glue_43 : decode cX5_glue 43 = .ok (.invokevirtual 45, 3) := by decide +kernel
theorem dX5_glue_46 : decode cX5_glue 46 = .ok (.ireturn, 1) := by decide +kernel
set_option maxRecDepth 20000 in
theorem ggX5_penalty_X5_isWithin : GoodIn wsX5_penalty wsX5_isWithin := goodIn_r _ [5] (by decide +kernel) (by decide +kernel)
set_option maxRecDepth 20000 in
theorem gX5_penalty_X5_isWithin : GoodIn wsX5_penalty (va_wsS RX5 41 yX5_isWithin wsX5_isWithin) := goodIn_app (goodIn_of _ (by decide +kernel)) ggX5_penalty_X5_isWithin
set_option maxRecDepth 20000 in
theorem ggX5_penalty_X0_appendPenalty : GoodIn wsX5_penalty wsX0_appendPenalty := goodIn_r _ [9, 10, 11, 12, 13, 14, 15, 7, 16, 17, 18, 19, 20, 21, 26, 27, 28, 29, 30, 31, 32, 33] (by decide +kernel) (by decide +kernel)
set_option maxRecDepth 20000 in
theorem gX5_penalty_X0_appendPenalty_n49 : GoodIn wsX5_penalty (wsX0_appendPenalty) := ggX5_penalty_X0_appendPenalty
theorem dX5_penalty_0 : decode cX5_penalty 0 = .ok (.iload_n 1, 1) := by decide +kernel
theorem dX5_penalty_1 : decode cX5_penalty 1 = .ok (.sipush (-10000), 3) := by decide +kernel
theorem dX5_penalty_4 : decode cX5_penalty 4 = .ok (.sipush 10000, 3) := by decide +kernel
theorem dX5_penalty_7 : decode cX5_penalty 7 = .ok (.invokestatic 41, 3) := by decide +kernel
theorem dX5_penalty_10 : decode cX5_penalty 10 = .ok (.ifCond .eq 14, 3) := by decide +kernel
theorem dX5_penalty_13 : decode cX5_penalty 13 = .ok (.iload_n 2, 1) := by decide +kernel
theorem dX5_penalty_14 : decode cX5_penalty 14 = .ok (.iconst 0, 1) := by decide +kernel
theorem dX5_penalty_15 : decode cX5_penalty 15 = .ok (.sipush 10000, 3) := by decide +kernel
theorem dX5_penalty_18 : decode cX5_penalty 18 = .ok (.invokestatic 41, 3) := by decide +kernel
theorem dX5_penalty_21 : decode cX5_penalty 21 = .ok (.ifCond .ne 5, 3) := by decide +kernel
theorem dX5_penalty_24 : decode cX5_penalty 24 = .ok (.iconst (-1), 1) := by decide +kernel
theorem dX5_penalty_25 : decode cX5_penalty 25 = .ok (.ireturn, 1) := by decide +kernel
theorem dX5_penalty_26 : decode cX5_penalty 26 = .ok (.aload_n 0, 1) := by decide +kernel
theorem dX5_penalty_27 : decode cX5_penalty 27 = .ok (.getfield 10, 3) := by decide +kernel
theorem dX5_penalty_30 : decode cX5_penalty 30 = .ok (.iload_n 1, 1) := by decide +kernel
theorem dX5_penalty_31 : decode cX5_penalty 31 = .ok (.iload_n 2, 1) := by decide +kernel
theorem dX5_penalty_32 : decode cX5_penalty 32 = .ok (.iload_n 3, 1) := by decide +kernel
theorem dX5_penalty_33 : decode cX5_penalty 33 = .ok (.invokevirtual 49, 3) := by decide +kernel
theorem dX5_penalty_36 : decode cX5_penalty 36 = .ok (.ireturn, 1) := by decide +kernel
set_option maxRecDepth 20000 in
theorem ggX5_shape_X5_isWithin : GoodIn wsX5_shape wsX5_isWithin := goodIn_r _ [5] (by decide +kernel) (by decide +kernel)
set_option maxRecDepth 20000 in
theorem gX5_shape_X5_isWithin : GoodIn wsX5_shape (va_wsS RX5 41 yX5_isWithin wsX5_isWithin) := goodIn_app (goodIn_of _ (by decide +kernel)) ggX5_shape_X5_isWithin
theorem dX5_shape_0 : decode cX5_shape 0 = .ok (.iload_n 1, 1) := by decide +kernel
theorem dX5_shape_1 : decode cX5_shape 1 = .ok (.iconst 0, 1) := by decide +kernel
theorem dX5_shape_2 : decode cX5_shape 2 = .ok (.bipush 49, 2) := by decide +kernel
theorem dX5_shape_4 : decode cX5_shape 4 = .ok (.invokestatic 41, 3) := by decide +kernel
theorem dX5_shape_7 : decode cX5_shape 7 = .ok (.ifCond .eq 14, 3) := by decide +kernel
theorem dX5_shape_10 : decode cX5_shape 10 = .ok (.iload_n 2, 1) := by decide +kernel
theorem dX5_shape_11 : decode cX5_shape 11 = .ok (.iconst 0, 1) := by decide +kernel
theorem dX5_shape_12 : decode cX5_shape 12 = .ok (.sipush 10000, 3) := by decide +kernel
theorem dX5_shape_15 : decode cX5_shape 15 = .ok (.invokestatic 41, 3) := by decide +kernel
theorem dX5_shape_18 : decode cX5_shape 18 = .ok (.ifCond .ne 5, 3) := by decide +kernel
theorem dX5_shape_21 : decode cX5_shape 21 = .ok (.iconst (-1), 1) := by decide +kernel
theorem dX5_shape_22 : decode cX5_shape 22 = .ok (.ireturn, 1) := by decide +kernel
theorem dX5_shape_23 : decode cX5_shape 23 = .ok (.aload_n 0, 1) := by decide +kernel
theorem dX5_shape_24 : decode cX5_shape 24 = .ok (.getfield 21, 3) := by decide +kernel
theorem dX5_shape_27 : decode cX5_shape 27 = .ok (.getfield 53, 3) := by decide +kernel
theorem dX5_shape_30 : decode cX5_shape 30 = .ok (.iload_n 1, 1) := by decide +kernel
theorem dX5_shape_31 : decode cX5_shape 31 = .ok (.iload_n 2, 1) := by decide +kernel
theorem dX5_shape_32 : decode cX5_shape 32 = .ok (.iastore, 1) := by decide +kernel
theorem dX5_shape_33 : decode cX5_shape 33 = .ok (.iconst 1, 1) := by decide +kernel
theorem dX5_shape_34 : decode cX5_shape 34 = .ok (.ireturn, 1) := by decide +kernel
set_option maxRecDepth 20000 in
theorem ggX5_setting_X5_isWithin : GoodIn wsX5_setting wsX5_isWithin := goodIn_r _ [5] (by decide +kernel) (by decide +kernel)
set_option maxRecDepth 20000 in
theorem gX5_setting_X5_isWithin : GoodIn wsX5_setting (va_wsS RX5 41 yX5_isWithin wsX5_isWithin) := goodIn_app (goodIn_of _ (by decide +kernel)) ggX5_setting_X5_isWithin
theorem dX5_setting_0 : decode cX5_setting 0 = .ok (.iload_n 1, 1) := by decide +kernel
theorem dX5_setting_1 : decode cX5_setting 1 = .ok (.iconst 0, 1) := by decide +kernel
theorem dX5_setting_2 : decode cX5_setting 2 = .ok (.iconst 2, 1) := by decide +kernel
theorem dX5_setting_3 : decode cX5_setting 3 = .ok (.invokestatic 41, 3) := by decide +kernel
theorem dX5_setting_6 : decode cX5_setting 6 = .ok (.ifCond .ne 5, 3) := by decide +kernel
theorem dX5_setting_9 : decode cX5_setting 9 = .ok (.iconst (-1), 1) := by decide +kernel
theorem dX5_setting_10 : decode cX5_setting 10 = .ok (.ireturn, 1) := by decide +kernel
theorem dX5_setting_11 : decode cX5_setting 11 = .ok (.iload_n 1, 1) := by decide +kernel
theorem dX5_setting_12 : decode cX5_setting 12 = .ok (.iconst 2, 1) := by decide +kernel
theorem dX5_setting_13 : decode cX5_setting 13 = .ok (.if_icmp .ne 7, 3) := by decide +kernel
theorem dX5_setting_16 : decode cX5_setting 16 = .ok (.iconst 0, 1) := by decide +kernel
theorem dX5_setting_17 : decode cX5_setting 17 = .ok (.goto 4, 3) := by decide +kernel
theorem dX5_setting_20 : decode cX5_setting 20 = .ok (.iconst (-1), 1) := by decide +kernel
theorem dX5_setting_21 : decode cX5_setting 21 = .ok (.istore_n 3, 1) := by decide +kernel
theorem dX5_setting_22 : decode cX5_setting 22 = .ok (.iload_n 2, 1) := by decide +kernel
theorem dX5_setting_23 : decode cX5_setting 23 = .ok (.iload_n 3, 1) := by decide +kernel
theorem dX5_setting_24 : decode cX5_setting 24 = .ok (.sipush 10000, 3) := by decide +kernel
theorem dX5_setting_27 : decode cX5_setting 27 = .ok (.invokestatic 41, 3) := by decide +kernel
theorem dX5_setting_30 : decode cX5_setting 30 = .ok (.ifCond .ne 5, 3) := by decide +kernel
theorem dX5_setting_33 : decode cX5_setting 33 = .ok (.iconst (-1), 1) := by decide +kernel
theorem dX5_setting_34 : decode cX5_setting 34 = .ok (.ireturn, 1) := by decide +kernel
theorem dX5_setting_35 : decode cX5_setting 35 = .ok (.aload_n 0, 1) := by decide +kernel
theorem dX5_setting_36 : decode cX5_setting 36 = .ok (.getfield 21, 3) := by decide +kernel
theorem dX5_setting_39 : decode cX5_setting 39 = .ok (.getfield 57, 3) := by decide +kernel
theorem dX5_setting_42 : decode cX5_setting 42 = .ok (.iload_n 1, 1) := by decide +kernel
theorem dX5_setting_43 : decode cX5_setting 43 = .ok (.iload_n 2, 1) := by decide +kernel
theorem dX5_setting_44 : decode cX5_setting 44 = .ok (.iastore, 1) := by decide +kernel
theorem dX5_setting_45 : decode cX5_setting 45 = .ok (.iconst 1, 1) := by decide +kernel
theorem dX5_setting_46 : decode cX5_setting 46 = .ok (.ireturn, 1) := by decide +kernel
set_option maxRecDepth 20000 in
theorem ggX5_run_X4_forget : GoodIn wsX5_run wsX4_forget := goodIn_r _ [6, 7, 8, 9, 154, 155, 156, 157, 158, 159, 160] (by decide +kernel) (by decide +kernel)
set_option maxRecDepth 20000 in
theorem gX5_run_X4_forget_n60 : GoodIn wsX5_run (wsX4_forget) := ggX5_run_X4_forget
set_option maxRecDepth 20000 in
theorem ggX5_run_X3_findsWay : GoodIn wsX5_run wsX3_findsWay := goodIn_r _ [13, 14, 15, 16, 17, 18, 19, 20, 21, 11, 22, 23, 24, 25, 26, 27, 28, 29, 30, 31, 32, 33, 34, 35, 36, 37, 38, 39, 40, 41, 42, 43, 44, 45, 46, 47, 48, 49, 50, 51, 52, 53, 54, 55, 56, 57, 58, 59, 60, 61, 62, 63, 64, 65, 66, 67, 68, 69, 70, 71, 72, 73, 74, 75, 76, 77, 78, 79, 80, 81, 82, 83, 84, 85, 86, 87, 88, 89, 90, 91, 92, 93, 94, 95, 96, 97, 98, 99, 100, 101, 102, 103, 104, 105, 106, 107, 108, 109, 110, 111, 112, 113, 114, 115, 116, 117, 118, 119, 120, 121, 122, 123, 124, 125, 126, 127, 128, 129, 130, 131, 132, 133, 134, 135, 161, 162, 163, 164, 165, 166, 167, 168, 169, 170, 171, 172, 173, 174, 175, 176, 177, 178, 179, 180] (by decide +kernel) (by decide +kernel)
set_option maxRecDepth 20000 in
theorem gX5_run_X3_findsWay_n63 : GoodIn wsX5_run (wsX3_findsWay) := ggX5_run_X3_findsWay
set_option maxRecDepth 20000 in
theorem ggX5_run_X3_tell : GoodIn wsX5_run wsX3_tell := goodIn_r _ [138, 14, 17, 113, 16, 115, 65, 15, 3, 4, 5, 6, 7, 8, 9, 23, 24, 11, 25, 139, 140, 141, 142, 54, 35, 55, 56, 44, 45, 70, 31, 71, 72, 69, 73, 74, 75, 76, 77, 62, 63, 64, 78, 79, 80, 81, 82, 40, 41, 42, 43, 83, 84, 85, 86, 87, 88, 89, 90, 91, 92, 93, 94, 95, 96, 97, 98, 99, 100, 101, 47, 48, 49, 102, 103, 104, 105, 143, 144, 145, 146, 147, 148, 149, 161, 162, 163, 164, 165, 166, 154, 155, 156, 157, 158, 159, 160, 167, 168, 169, 170, 171, 172, 173, 174, 175, 176, 177, 178, 179, 180] (by decide +kernel) (by decide +kernel)
set_option maxRecDepth 20000 in
theorem gX5_run_X3_tell_n67 : GoodIn wsX5_run (wsX3_tell) := ggX5_run_X3_tell
theorem dX5_run_0 : decode cX5_run 0 = .ok (.aload_n 0, 1) := by decide +kernel
theorem dX5_run_1 : decode cX5_run 1 = .ok (.getfield 37, 3) := by decide +kernel
theorem dX5_run_4 : decode cX5_run 4 = .ok (.invokevirtual 60, 3) := by decide +kernel
theorem dX5_run_7 : decode cX5_run 7 = .ok (.iconst 1, 1) := by decide +kernel
theorem dX5_run_8 : decode cX5_run 8 = .ok (.istore_n 1, 1) := by decide +kernel
theorem dX5_run_9 : decode cX5_run 9 = .ok (.iload_n 1, 1) := by decide +kernel
theorem dX5_run_10 : decode cX5_run 10 = .ok (.iconst 3, 1) := by decide +kernel
theorem dX5_run_11 : decode cX5_run 11 = .ok (.if_icmp .gt 40, 3) := by decide +kernel
theorem dX5_run_14 : decode cX5_run 14 = .ok (.aload_n 0, 1) := by decide +kernel
theorem dX5_run_15 : decode cX5_run 15 = .ok (.getfield 30, 3) := by decide +kernel
theorem dX5_run_18 : decode cX5_run 18 = .ok (.iload_n 1, 1) := by decide +kernel
theorem dX5_run_19 : decode cX5_run 19 = .ok (.iconst 0, 1) := by decide +kernel
theorem dX5_run_20 : decode cX5_run 20 = .ok (.invokevirtual 63, 3) := by decide +kernel
theorem dX5_run_23 : decode cX5_run 23 = .ok (.ifCond .eq 22, 3) := by decide +kernel
theorem dX5_run_26 : decode cX5_run 26 = .ok (.aload_n 0, 1) := by decide +kernel
theorem dX5_run_27 : decode cX5_run 27 = .ok (.getfield 30, 3) := by decide +kernel
theorem dX5_run_30 : decode cX5_run 30 = .ok (.aload_n 0, 1) := by decide +kernel
theorem dX5_run_31 : decode cX5_run 31 = .ok (.getfield 37, 3) := by decide +kernel
theorem dX5_run_34 : decode cX5_run 34 = .ok (.invokevirtual 67, 3) := by decide +kernel
theorem dX5_run_37 : decode cX5_run 37 = .ok (.aload_n 0, 1) := by decide +kernel
theorem dX5_run_38 : decode cX5_run 38 = .ok (.getfield 37, 3) := by decide +kernel
theorem dX5_run_41 : decode cX5_run 41 = .ok (.getfield 71, 3) := by decide +kernel
theorem dX5_run_44 : decode cX5_run 44 = .ok (.ireturn, 1) := by decide +kernel
theorem dX5_run_45 : decode cX5_run 45 = .ok (.iinc 1 1, 3) := by decide +kernel
theorem dX5_run_48 : decode cX5_run 48 = .ok (.goto (-39), 3) := by decide +kernel
theorem dX5_run_51 : decode cX5_run 51 = .ok (.iconst 0, 1) := by decide +kernel
theorem dX5_run_52 : decode cX5_run 52 = .ok (.ireturn, 1) := by decide +kernel
set_option maxRecDepth 20000 in
theorem ggX5_loose_X5_isWithin : GoodIn wsX5_loose wsX5_isWithin := goodIn_r _ [6] (by decide +kernel) (by decide +kernel)
set_option maxRecDepth 20000 in
theorem gX5_loose_X5_isWithin : GoodIn wsX5_loose (va_wsS RX5 41 yX5_isWithin wsX5_isWithin) := goodIn_app (goodIn_of _ (by decide +kernel)) ggX5_loose_X5_isWithin
set_option maxRecDepth 20000 in
theorem ggX5_loose_X3_findsWay : GoodIn wsX5_loose wsX3_findsWay := goodIn_r _ [10, 11, 12, 13, 14, 15, 16, 17, 18, 8, 19, 20, 21, 22, 23, 24, 25, 26, 27, 28, 29, 30, 31, 32, 33, 34, 35, 36, 37, 38, 39, 40, 41, 42, 43, 44, 45, 46, 47, 48, 49, 50, 51, 52, 53, 54, 55, 56, 57, 58, 59, 60, 61, 62, 63, 64, 65, 66, 67, 68, 69, 70, 71, 72, 73, 74, 75, 76, 77, 78, 79, 80, 81, 82, 83, 84, 85, 86, 87, 88, 89, 90, 91, 92, 93, 94, 95, 96, 97, 98, 99, 100, 101, 102, 103, 104, 105, 106, 107, 108, 109, 110, 111, 112, 113, 114, 115, 116, 117, 118, 119, 120, 121, 122, 123, 124, 125, 126, 127, 128, 129, 130, 131, 132, 165, 166, 167, 168, 169, 170, 171, 172, 173, 174, 175, 176, 177, 178, 179, 180, 181, 182, 183, 184] (by decide +kernel) (by decide +kernel)
set_option maxRecDepth 20000 in
theorem gX5_loose_X3_findsWay_n63 : GoodIn wsX5_loose (wsX3_findsWay) := ggX5_loose_X3_findsWay
set_option maxRecDepth 20000 in
theorem ggX5_loose_X3_tell : GoodIn wsX5_loose wsX3_tell := goodIn_r _ [135, 11, 14, 110, 13, 112, 62, 12, 136, 137, 138, 139, 140, 141, 142, 20, 21, 8, 22, 143, 144, 145, 146, 51, 32, 52, 53, 41, 42, 67, 28, 68, 69, 66, 70, 71, 72, 73, 74, 59, 60, 61, 75, 76, 77, 78, 79, 37, 38, 39, 40, 80, 81, 82, 83, 84, 85, 86, 87, 88, 89, 90, 91, 92, 93, 94, 95, 96, 97, 98, 44, 45, 46, 99, 100, 101, 102, 147, 148, 149, 150, 151, 152, 153, 165, 166, 167, 168, 169, 170, 158, 159, 160, 161, 162, 163, 164, 171, 172, 173, 174, 175, 176, 177, 178, 179, 180, 181, 182, 183, 184] (by decide +kernel) (by decide +kernel)
set_option maxRecDepth 20000 in
theorem gX5_loose_X3_tell_n67 : GoodIn wsX5_loose (wsX3_tell) := ggX5_loose_X3_tell
theorem dX5_loose_0 : decode cX5_loose 0 = .ok (.iload_n 1, 1) := by decide +kernel
theorem dX5_loose_1 : decode cX5_loose 1 = .ok (.iconst 1, 1) := by decide +kernel
theorem dX5_loose_2 : decode cX5_loose 2 = .ok (.bipush 50, 2) := by decide +kernel
theorem dX5_loose_4 : decode cX5_loose 4 = .ok (.invokestatic 41, 3) := by decide +kernel
theorem dX5_loose_7 : decode cX5_loose 7 = .ok (.ifCond .eq 13, 3) := by decide +kernel
theorem dX5_loose_10 : decode cX5_loose 10 = .ok (.aload_n 0, 1) := by decide +kernel
theorem dX5_loose_11 : decode cX5_loose 11 = .ok (.getfield 37, 3) := by decide +kernel
theorem dX5_loose_14 : decode cX5_loose 14 = .ok (.getfield 71, 3) := by decide +kernel
theorem dX5_loose_17 : decode cX5_loose 17 = .ok (.ifCond .ne 5, 3) := by decide +kernel
theorem dX5_loose_20 : decode cX5_loose 20 = .ok (.iconst (-1), 1) := by decide +kernel
theorem dX5_loose_21 : decode cX5_loose 21 = .ok (.ireturn, 1) := by decide +kernel
theorem dX5_loose_22 : decode cX5_loose 22 = .ok (.aload_n 0, 1) := by decide +kernel
theorem dX5_loose_23 : decode cX5_loose 23 = .ok (.getfield 30, 3) := by decide +kernel
theorem dX5_loose_26 : decode cX5_loose 26 = .ok (.aload_n 0, 1) := by decide +kernel
theorem dX5_loose_27 : decode cX5_loose 27 = .ok (.getfield 37, 3) := by decide +kernel
theorem dX5_loose_30 : decode cX5_loose 30 = .ok (.getfield 75, 3) := by decide +kernel
theorem dX5_loose_33 : decode cX5_loose 33 = .ok (.iload_n 1, 1) := by decide +kernel
theorem dX5_loose_34 : decode cX5_loose 34 = .ok (.invokevirtual 63, 3) := by decide +kernel
theorem dX5_loose_37 : decode cX5_loose 37 = .ok (.ifCond .ne 5, 3) := by decide +kernel
theorem dX5_loose_40 : decode cX5_loose 40 = .ok (.iconst 0, 1) := by decide +kernel
theorem dX5_loose_41 : decode cX5_loose 41 = .ok (.ireturn, 1) := by decide +kernel
theorem dX5_loose_42 : decode cX5_loose 42 = .ok (.aload_n 0, 1) := by decide +kernel
theorem dX5_loose_43 : decode cX5_loose 43 = .ok (.getfield 30, 3) := by decide +kernel
theorem dX5_loose_46 : decode cX5_loose 46 = .ok (.aload_n 0, 1) := by decide +kernel
theorem dX5_loose_47 : decode cX5_loose 47 = .ok (.getfield 37, 3) := by decide +kernel
theorem dX5_loose_50 : decode cX5_loose 50 = .ok (.invokevirtual 67, 3) := by decide +kernel
theorem dX5_loose_53 : decode cX5_loose 53 = .ok (.iconst 1, 1) := by decide +kernel
theorem dX5_loose_54 : decode cX5_loose 54 = .ok (.ireturn, 1) := by decide +kernel
theorem dX5_lines_0 : decode cX5_lines 0 = .ok (.aload_n 0, 1) := by decide +kernel
theorem dX5_lines_1 : decode cX5_lines 1 = .ok (.getfield 37, 3) := by decide +kernel
theorem dX5_lines_4 : decode cX5_lines 4 = .ok (.getfield 71, 3) := by decide +kernel
theorem dX5_lines_7 : decode cX5_lines 7 = .ok (.ireturn, 1) := by decide +kernel
set_option maxRecDepth 20000 in
theorem ggX5_at_X4_hasLine : GoodIn wsX5_at wsX4_hasLine := goodIn_r _ [5, 6, 11, 12, 13, 14, 15, 16, 17] (by decide +kernel) (by decide +kernel)
set_option maxRecDepth 20000 in
theorem gX5_at_X4_hasLine_n78 : GoodIn wsX5_at (wsX4_hasLine) := ggX5_at_X4_hasLine
theorem dX5_at_0 : decode cX5_at 0 = .ok (.aload_n 0, 1) := by decide +kernel
theorem dX5_at_1 : decode cX5_at 1 = .ok (.getfield 37, 3) := by decide +kernel
theorem dX5_at_4 : decode cX5_at 4 = .ok (.iload_n 1, 1) := by decide +kernel
theorem dX5_at_5 : decode cX5_at 5 = .ok (.invokevirtual 78, 3) := by decide +kernel
theorem dX5_at_8 : decode cX5_at 8 = .ok (.ifCond .eq 15, 3) := by decide +kernel
theorem dX5_at_11 : decode cX5_at 11 = .ok (.aload_n 0, 1) := by decide +kernel
theorem dX5_at_12 : decode cX5_at 12 = .ok (.getfield 37, 3) := by decide +kernel
theorem dX5_at_15 : decode cX5_at 15 = .ok (.getfield 82, 3) := by decide +kernel
theorem dX5_at_18 : decode cX5_at 18 = .ok (.iload_n 1, 1) := by decide +kernel
theorem dX5_at_19 : decode cX5_at 19 = .ok (.iaload, 1) := by decide +kernel
theorem dX5_at_20 : decode cX5_at 20 = .ok (.goto 4, 3) := by decide +kernel
theorem dX5_at_23 : decode cX5_at 23 = .ok (.iconst (-1), 1) := by decide +kernel
theorem dX5_at_24 : decode cX5_at 24 = .ok (.ireturn, 1) := by decide +kernel
set_option maxRecDepth 20000 in
theorem ggX5_lacks_X4_hasLine : GoodIn wsX5_lacks wsX4_hasLine := goodIn_r _ [5, 6, 11, 12, 13, 14, 15, 16, 17] (by decide +kernel) (by decide +kernel)
set_option maxRecDepth 20000 in
theorem gX5_lacks_X4_hasLine_n78 : GoodIn wsX5_lacks (wsX4_hasLine) := ggX5_lacks_X4_hasLine
theorem dX5_lacks_0 : decode cX5_lacks 0 = .ok (.aload_n 0, 1) := by decide +kernel
theorem dX5_lacks_1 : decode cX5_lacks 1 = .ok (.getfield 37, 3) := by decide +kernel
theorem dX5_lacks_4 : decode cX5_lacks 4 = .ok (.iload_n 1, 1) := by decide +kernel
theorem dX5_lacks_5 : decode cX5_lacks 5 = .ok (.invokevirtual 78, 3) := by decide +kernel
theorem dX5_lacks_8 : decode cX5_lacks 8 = .ok (.ifCond .eq 15, 3) := by decide +kernel
theorem dX5_lacks_11 : decode cX5_lacks 11 = .ok (.aload_n 0, 1) := by decide +kernel
theorem dX5_lacks_12 : decode cX5_lacks 12 = .ok (.getfield 37, 3) := by decide +kernel
theorem dX5_lacks_15 : decode cX5_lacks 15 = .ok (.getfield 85, 3) := by decide +kernel
theorem dX5_lacks_18 : decode cX5_lacks 18 = .ok (.iload_n 1, 1) := by decide +kernel
theorem dX5_lacks_19 : decode cX5_lacks 19 = .ok (.iaload, 1) := by decide +kernel
theorem dX5_lacks_20 : decode cX5_lacks 20 = .ok (.goto 4, 3) := by decide +kernel
theorem dX5_lacks_23 : decode cX5_lacks 23 = .ok (.iconst 0, 1) := by decide +kernel
theorem dX5_lacks_24 : decode cX5_lacks 24 = .ok (.ireturn, 1) := by decide +kernel
set_option maxRecDepth 20000 in
theorem ggX5_badness_X4_hasLine : GoodIn wsX5_badness wsX4_hasLine := goodIn_r _ [5, 6, 11, 12, 13, 14, 15, 16, 17] (by decide +kernel) (by decide +kernel)
set_option maxRecDepth 20000 in
theorem gX5_badness_X4_hasLine_n78 : GoodIn wsX5_badness (wsX4_hasLine) := ggX5_badness_X4_hasLine
theorem dX5_badness_0 : decode cX5_badness 0 = .ok (.aload_n 0, 1) := by decide +kernel
theorem dX5_badness_1 : decode cX5_badness 1 = .ok (.getfield 37, 3) := by decide +kernel
theorem dX5_badness_4 : decode cX5_badness 4 = .ok (.iload_n 1, 1) := by decide +kernel
theorem dX5_badness_5 : decode cX5_badness 5 = .ok (.invokevirtual 78, 3) := by decide +kernel
theorem dX5_badness_8 : decode cX5_badness 8 = .ok (.ifCond .eq 15, 3) := by decide +kernel
theorem dX5_badness_11 : decode cX5_badness 11 = .ok (.aload_n 0, 1) := by decide +kernel
theorem dX5_badness_12 : decode cX5_badness 12 = .ok (.getfield 37, 3) := by decide +kernel
theorem dX5_badness_15 : decode cX5_badness 15 = .ok (.getfield 88, 3) := by decide +kernel
theorem dX5_badness_18 : decode cX5_badness 18 = .ok (.iload_n 1, 1) := by decide +kernel
theorem dX5_badness_19 : decode cX5_badness 19 = .ok (.iaload, 1) := by decide +kernel
theorem dX5_badness_20 : decode cX5_badness 20 = .ok (.goto 4, 3) := by decide +kernel
theorem dX5_badness_23 : decode cX5_badness 23 = .ok (.iconst 0, 1) := by decide +kernel
theorem dX5_badness_24 : decode cX5_badness 24 = .ok (.ireturn, 1) := by decide +kernel
set_option maxRecDepth 20000 in
theorem ggX5_classOf_X4_hasLine : GoodIn wsX5_classOf wsX4_hasLine := goodIn_r _ [5, 6, 11, 12, 13, 14, 15, 16, 17] (by decide +kernel) (by decide +kernel)
set_option maxRecDepth 20000 in
theorem gX5_classOf_X4_hasLine_n78 : GoodIn wsX5_classOf (wsX4_hasLine) := ggX5_classOf_X4_hasLine
theorem dX5_classOf_0 : decode cX5_classOf 0 = .ok (.aload_n 0, 1) := by decide +kernel
theorem dX5_classOf_1 : decode cX5_classOf 1 = .ok (.getfield 37, 3) := by decide +kernel
theorem dX5_classOf_4 : decode cX5_classOf 4 = .ok (.iload_n 1, 1) := by decide +kernel
theorem dX5_classOf_5 : decode cX5_classOf 5 = .ok (.invokevirtual 78, 3) := by decide +kernel
theorem dX5_classOf_8 : decode cX5_classOf 8 = .ok (.ifCond .eq 15, 3) := by decide +kernel
theorem dX5_classOf_11 : decode cX5_classOf 11 = .ok (.aload_n 0, 1) := by decide +kernel
theorem dX5_classOf_12 : decode cX5_classOf 12 = .ok (.getfield 37, 3) := by decide +kernel
theorem dX5_classOf_15 : decode cX5_classOf 15 = .ok (.getfield 91, 3) := by decide +kernel
theorem dX5_classOf_18 : decode cX5_classOf 18 = .ok (.iload_n 1, 1) := by decide +kernel
theorem dX5_classOf_19 : decode cX5_classOf 19 = .ok (.iaload, 1) := by decide +kernel
theorem dX5_classOf_20 : decode cX5_classOf 20 = .ok (.goto 4, 3) := by decide +kernel
theorem dX5_classOf_23 : decode cX5_classOf 23 = .ok (.iconst 0, 1) := by decide +kernel
theorem dX5_classOf_24 : decode cX5_classOf 24 = .ok (.ireturn, 1) := by decide +kernel
theorem dX5_demerits_0 : decode cX5_demerits 0 = .ok (.aload_n 0, 1) := by decide +kernel
theorem dX5_demerits_1 : decode cX5_demerits 1 = .ok (.getfield 37, 3) := by decide +kernel
theorem dX5_demerits_4 : decode cX5_demerits 4 = .ok (.getfield 94, 3) := by decide +kernel
theorem dX5_demerits_7 : decode cX5_demerits 7 = .ok (.lreturn, 1) := by decide +kernel
theorem dX5_pass_0 : decode cX5_pass 0 = .ok (.aload_n 0, 1) := by decide +kernel
theorem dX5_pass_1 : decode cX5_pass 1 = .ok (.getfield 37, 3) := by decide +kernel
theorem dX5_pass_4 : decode cX5_pass 4 = .ok (.getfield 75, 3) := by decide +kernel
theorem dX5_pass_7 : decode cX5_pass 7 = .ok (.ireturn, 1) := by decide +kernel
theorem dX5_clear_0 : decode cX5_clear 0 = .ok (.aload_n 0, 1) := by decide +kernel
theorem dX5_clear_1 : decode cX5_clear 1 = .ok (.getfield 10, 3) := by decide +kernel
theorem dX5_clear_4 : decode cX5_clear 4 = .ok (.getfield 98, 3) := by decide +kernel
theorem dX5_clear_7 : decode cX5_clear 7 = .ok (.istore_n 1, 1) := by decide +kernel
theorem dX5_clear_8 : decode cX5_clear 8 = .ok (.aload_n 0, 1) := by decide +kernel
theorem dX5_clear_9 : decode cX5_clear 9 = .ok (.getfield 10, 3) := by decide +kernel
theorem dX5_clear_12 : decode cX5_clear 12 = .ok (.iconst 0, 1) := by decide +kernel
theorem dX5_clear_13 : decode cX5_clear 13 = .ok (.putfield 98, 3) := by decide +kernel
theorem dX5_clear_16 : decode cX5_clear 16 = .ok (.iload_n 1, 1) := by decide +kernel
theorem dX5_clear_17 : decode cX5_clear 17 = .ok (.ireturn, 1) := by decide +kernel
theorem dX5_isWithin_0 : decode cX5_isWithin 0 = .ok (.iload_n 0, 1) := by decide +kernel
theorem dX5_isWithin_1 : decode cX5_isWithin 1 = .ok (.iload_n 1, 1) := by decide +kernel
theorem dX5_isWithin_2 : decode cX5_isWithin 2 = .ok (.if_icmp .lt 12, 3) := by decide +kernel
theorem dX5_isWithin_5 : decode cX5_isWithin 5 = .ok (.iload_n 0, 1) := by decide +kernel
theorem dX5_isWithin_6 : decode cX5_isWithin 6 = .ok (.iload_n 2, 1) := by decide +kernel
theorem dX5_isWithin_7 : decode cX5_isWithin 7 = .ok (.if_icmp .gt 7, 3) := by decide +kernel
theorem dX5_isWithin_10 : decode cX5_isWithin 10 = .ok (.iconst 1, 1) := by decide +kernel
theorem dX5_isWithin_11 : decode cX5_isWithin 11 = .ok (.goto 4, 3) := by decide +kernel
theorem dX5_isWithin_14 : decode cX5_isWithin 14 = .ok (.iconst 0, 1) := by decide +kernel
theorem dX5_isWithin_15 : decode cX5_isWithin 15 = .ok (.ireturn, 1) := by decide +kernel
theorem dJ9_floorDiv_f86c9_0 : decode cJ9_floorDiv_f86c9 0 = .ok (.lload_n 0, 1) := by decide +kernel
theorem dJ9_floorDiv_f86c9_1 : decode cJ9_floorDiv_f86c9 1 = .ok (.lload_n 2, 1) := by decide +kernel
theorem dJ9_floorDiv_f86c9_2 : decode cJ9_floorDiv_f86c9 2 = .ok (.ldiv, 1) := by decide +kernel
theorem dJ9_floorDiv_f86c9_3 : decode cJ9_floorDiv_f86c9 3 = .ok (.lstore 4, 2) := by decide +kernel
theorem dJ9_floorDiv_f86c9_5 : decode cJ9_floorDiv_f86c9 5 = .ok (.lload_n 0, 1) := by decide +kernel
theorem dJ9_floorDiv_f86c9_6 : decode cJ9_floorDiv_f86c9 6 = .ok (.lload_n 2, 1) := by decide +kernel
theorem dJ9_floorDiv_f86c9_7 : decode cJ9_floorDiv_f86c9 7 = .ok (.lxor, 1) := by decide +kernel
theorem dJ9_floorDiv_f86c9_8 : decode cJ9_floorDiv_f86c9 8 = .ok (.lconst 0, 1) := by decide +kernel
theorem dJ9_floorDiv_f86c9_9 : decode cJ9_floorDiv_f86c9 9 = .ok (.lcmp, 1) := by decide +kernel
theorem dJ9_floorDiv_f86c9_10 : decode cJ9_floorDiv_f86c9 10 = .ok (.ifCond .ge 17, 3) := by decide +kernel
theorem dJ9_floorDiv_f86c9_13 : decode cJ9_floorDiv_f86c9 13 = .ok (.lload 4, 2) := by decide +kernel
theorem dJ9_floorDiv_f86c9_15 : decode cJ9_floorDiv_f86c9 15 = .ok (.lload_n 2, 1) := by decide +kernel
theorem dJ9_floorDiv_f86c9_16 : decode cJ9_floorDiv_f86c9 16 = .ok (.lmul, 1) := by decide +kernel
theorem dJ9_floorDiv_f86c9_17 : decode cJ9_floorDiv_f86c9 17 = .ok (.lload_n 0, 1) := by decide +kernel
theorem dJ9_floorDiv_f86c9_18 : decode cJ9_floorDiv_f86c9 18 = .ok (.lcmp, 1) := by decide +kernel
theorem dJ9_floorDiv_f86c9_19 : decode cJ9_floorDiv_f86c9 19 = .ok (.ifCond .eq 8, 3) := by decide +kernel
theorem dJ9_floorDiv_f86c9_22 : decode cJ9_floorDiv_f86c9 22 = .ok (.lload 4, 2) := by decide +kernel
theorem dJ9_floorDiv_f86c9_24 : decode cJ9_floorDiv_f86c9 24 = .ok (.lconst 1, 1) := by decide +kernel
theorem dJ9_floorDiv_f86c9_25 : decode cJ9_floorDiv_f86c9 25 = .ok (.lsub, 1) := by decide +kernel
theorem dJ9_floorDiv_f86c9_26 : decode cJ9_floorDiv_f86c9 26 = .ok (.lreturn, 1) := by decide +kernel
theorem dJ9_floorDiv_f86c9_27 : decode cJ9_floorDiv_f86c9 27 = .ok (.lload 4, 2) := by decide +kernel
theorem dJ9_floorDiv_f86c9_29 : decode cJ9_floorDiv_f86c9 29 = .ok (.lreturn, 1) := by decide +kernel
theorem dJ9_abs_0f7a4_0 : decode cJ9_abs_0f7a4 0 = .ok (.iload_n 0, 1) := by decide +kernel
theorem dJ9_abs_0f7a4_1 : decode cJ9_abs_0f7a4 1 = .ok (.ifCond .ge 8, 3) := by decide +kernel
theorem dJ9_abs_0f7a4_4 : decode cJ9_abs_0f7a4 4 = .ok (.iload_n 0, 1) := by decide +kernel
theorem dJ9_abs_0f7a4_5 : decode cJ9_abs_0f7a4 5 = .ok (.ineg, 1) := by decide +kernel
theorem dJ9_abs_0f7a4_6 : decode cJ9_abs_0f7a4 6 = .ok (.goto 4, 3) := by decide +kernel
theorem dJ9_abs_0f7a4_9 : decode cJ9_abs_0f7a4 9 = .ok (.iload_n 0, 1) := by decide +kernel
theorem dJ9_abs_0f7a4_10 : decode cJ9_abs_0f7a4 10 = .ok (.ireturn, 1) := by decide +kernel
theorem dJ9_min_7cf53_0 : decode cJ9_min_7cf53 0 = .ok (.iload_n 0, 1) := by decide +kernel
theorem dJ9_min_7cf53_1 : decode cJ9_min_7cf53 1 = .ok (.iload_n 1, 1) := by decide +kernel
theorem dJ9_min_7cf53_2 : decode cJ9_min_7cf53 2 = .ok (.if_icmp .gt 7, 3) := by decide +kernel
theorem dJ9_min_7cf53_5 : decode cJ9_min_7cf53 5 = .ok (.iload_n 0, 1) := by decide +kernel
theorem dJ9_min_7cf53_6 : decode cJ9_min_7cf53 6 = .ok (.goto 4, 3) := by decide +kernel
theorem dJ9_min_7cf53_9 : decode cJ9_min_7cf53 9 = .ok (.iload_n 1, 1) := by decide +kernel
theorem dJ9_min_7cf53_10 : decode cJ9_min_7cf53 10 = .ok (.ireturn, 1) := by decide +kernel
theorem dJ9_min_f86c9_0 : decode cJ9_min_f86c9 0 = .ok (.lload_n 0, 1) := by decide +kernel
theorem dJ9_min_f86c9_1 : decode cJ9_min_f86c9 1 = .ok (.lload_n 2, 1) := by decide +kernel
theorem dJ9_min_f86c9_2 : decode cJ9_min_f86c9 2 = .ok (.lcmp, 1) := by decide +kernel
theorem dJ9_min_f86c9_3 : decode cJ9_min_f86c9 3 = .ok (.ifCond .gt 7, 3) := by decide +kernel
theorem dJ9_min_f86c9_6 : decode cJ9_min_f86c9 6 = .ok (.lload_n 0, 1) := by decide +kernel
theorem dJ9_min_f86c9_7 : decode cJ9_min_f86c9 7 = .ok (.goto 4, 3) := by decide +kernel
theorem dJ9_min_f86c9_10 : decode cJ9_min_f86c9 10 = .ok (.lload_n 2, 1) := by decide +kernel
theorem dJ9_min_f86c9_11 : decode cJ9_min_f86c9 11 = .ok (.lreturn, 1) := by decide +kernel
theorem dJ7_fill_53178_0 : decode cJ7_fill_53178 0 = .ok (.iconst 0, 1) := by decide +kernel
theorem dJ7_fill_53178_1 : decode cJ7_fill_53178 1 = .ok (.istore_n 2, 1) := by decide +kernel
theorem dJ7_fill_53178_2 : decode cJ7_fill_53178 2 = .ok (.aload_n 0, 1) := by decide +kernel
theorem dJ7_fill_53178_3 : decode cJ7_fill_53178 3 = .ok (.arraylength, 1) := by decide +kernel
theorem dJ7_fill_53178_4 : decode cJ7_fill_53178 4 = .ok (.istore_n 3, 1) := by decide +kernel
theorem dJ7_fill_53178_5 : decode cJ7_fill_53178 5 = .ok (.iload_n 2, 1) := by decide +kernel
theorem dJ7_fill_53178_6 : decode cJ7_fill_53178 6 = .ok (.iload_n 3, 1) := by decide +kernel
theorem dJ7_fill_53178_7 : decode cJ7_fill_53178 7 = .ok (.if_icmp .ge 13, 3) := by decide +kernel
theorem dJ7_fill_53178_10 : decode cJ7_fill_53178 10 = .ok (.aload_n 0, 1) := by decide +kernel
theorem dJ7_fill_53178_11 : decode cJ7_fill_53178 11 = .ok (.iload_n 2, 1) := by decide +kernel
theorem dJ7_fill_53178_12 : decode cJ7_fill_53178 12 = .ok (.iload_n 1, 1) := by decide +kernel
theorem dJ7_fill_53178_13 : decode cJ7_fill_53178 13 = .ok (.iastore, 1) := by decide +kernel
theorem dJ7_fill_53178_14 : decode cJ7_fill_53178 14 = .ok (.iinc 2 1, 3) := by decide +kernel
theorem dJ7_fill_53178_17 : decode cJ7_fill_53178 17 = .ok (.goto (-12), 3) := by decide +kernel
theorem dJ7_fill_53178_20 : decode cJ7_fill_53178 20 = .ok (.return_, 1) := by decide +kernel
end
section
theorem dX6_init_0 : decode cX6_init 0 = .ok (.aload_n 0, 1) := by decide +kernel
theorem dX6_init_1 : decode cX6_init 1 = .ok (.invokespecial 1, 3) := by decide +kernel
theorem dX6_init_4 : decode cX6_init 4 = .ok (.aload_n 0, 1) := by decide +kernel
theorem dX6_init_5 : decode cX6_init 5 = .ok (.bipush 100, 2) := by decide +kernel
theorem dX6_init_7 : decode cX6_init 7 = .ok (.newarray .int, 2) := by decide +kernel
theorem dX6_init_9 : decode cX6_init 9 = .ok (.putfield 7, 3) := by decide +kernel
theorem dX6_init_12 : decode cX6_init 12 = .ok (.aload_n 0, 1) := by decide +kernel
theorem dX6_init_13 : decode cX6_init 13 = .ok (.bipush 100, 2) := by decide +kernel
theorem dX6_init_15 : decode cX6_init 15 = .ok (.newarray .int, 2) := by decide +kernel
theorem dX6_init_17 : decode cX6_init 17 = .ok (.putfield 13, 3) := by decide +kernel
theorem dX6_init_20 : decode cX6_init 20 = .ok (.aload_n 0, 1) := by decide +kernel
theorem dX6_init_21 : decode cX6_init 21 = .ok (.bipush 100, 2) := by decide +kernel
theorem dX6_init_23 : decode cX6_init 23 = .ok (.newarray .int, 2) := by decide +kernel
theorem dX6_init_25 : decode cX6_init 25 = .ok (.putfield 16, 3) := by decide +kernel
theorem dX6_init_28 : decode cX6_init 28 = .ok (.aload_n 0, 1) := by decide +kernel
theorem dX6_init_29 : decode cX6_init 29 = .ok (.bipush 100, 2) := by decide +kernel
theorem dX6_init_31 : decode cX6_init 31 = .ok (.newarray .int, 2) := by decide +kernel
theorem dX6_init_33 : decode cX6_init 33 = .ok (.putfield 19, 3) := by decide +kernel
theorem dX6_init_36 : decode cX6_init 36 = .ok (.aload_n 0, 1) := by decide +kernel
theorem dX6_init_37 : decode cX6_init 37 = .ok (.bipush 100, 2) := by decide +kernel
theorem dX6_init_39 : decode cX6_init 39 = .ok (.newarray .int, 2) := by decide +kernel
theorem dX6_init_41 : decode cX6_init 41 = .ok (.putfield 22, 3) := by decide +kernel
theorem dX6_init_44 : decode cX6_init 44 = .ok (.aload_n 0, 1) := by decide +kernel
theorem dX6_init_45 : decode cX6_init 45 = .ok (.bipush 100, 2) := by decide +kernel
theorem dX6_init_47 : decode cX6_init 47 = .ok (.newarray .boolean, 2) := by decide +kernel
theorem dX6_init_49 : decode cX6_init 49 = .ok (.putfield 25, 3) := by decide +kernel
theorem dX6_init_52 : decode cX6_init 52 = .ok (.aload_n 0, 1) := by decide +kernel
theorem dX6_init_53 : decode cX6_init 53 = .ok (.bipush 50, 2) := by decide +kernel
theorem dX6_init_55 : decode cX6_init 55 = .ok (.newarray .int, 2) := by decide +kernel
theorem dX6_init_57 : decode cX6_init 57 = .ok (.putfield 29, 3) := by decide +kernel
theorem dX6_init_60 : decode cX6_init 60 = .ok (.aload_n 0, 1) := by decide +kernel
theorem dX6_init_61 : decode cX6_init 61 = .ok (.iconst 3, 1) := by decide +kernel
theorem dX6_init_62 : decode cX6_init 62 = .ok (.newarray .int, 2) := by decide +kernel
theorem dX6_init_64 : decode cX6_init 64 = .ok (.dup, 1) := by decide +kernel
theorem dX6_init_65 : decode cX6_init 65 = .ok (.iconst 0, 1) := by decide +kernel
theorem dX6_init_66 : decode cX6_init 66 = .ok (.bipush 100, 2) := by decide +kernel
theorem dX6_init_68 : decode cX6_init 68 = .ok (.iastore, 1) := by decide +kernel
theorem dX6_init_69 : decode cX6_init 69 = .ok (.dup, 1) := by decide +kernel
theorem dX6_init_70 : decode cX6_init 70 = .ok (.iconst 1, 1) := by decide +kernel
theorem dX6_init_71 : decode cX6_init 71 = .ok (.sipush 200, 3) := by decide +kernel
theorem dX6_init_74 : decode cX6_init 74 = .ok (.iastore, 1) := by decide +kernel
theorem dX6_init_75 : decode cX6_init 75 = .ok (.dup, 1) := by decide +kernel
theorem dX6_init_76 : decode cX6_init 76 = .ok (.iconst 2, 1) := by decide +kernel
theorem dX6_init_77 : decode cX6_init 77 = .ok (.iconst 0, 1) := by decide +kernel
theorem dX6_init_78 : decode cX6_init 78 = .ok (.iastore, 1) := by decide +kernel
theorem dX6_init_79 : decode cX6_init 79 = .ok (.putfield 32, 3) := by decide +kernel
theorem dX6_init_82 : decode cX6_init 82 = .ok (.aload_n 0, 1) := by decide +kernel
theorem dX6_init_83 : decode cX6_init 83 = .ok (.bipush 101, 2) := by decide +kernel
theorem dX6_init_85 : decode cX6_init 85 = .ok (.newarray .int, 2) := by decide +kernel
theorem dX6_init_87 : decode cX6_init 87 = .ok (.putfield 35, 3) := by decide +kernel
theorem dX6_init_90 : decode cX6_init 90 = .ok (.aload_n 0, 1) := by decide +kernel
theorem dX6_init_91 : decode cX6_init 91 = .ok (.bipush 101, 2) := by decide +kernel
theorem dX6_init_93 : decode cX6_init 93 = .ok (.newarray .int, 2) := by decide +kernel
theorem dX6_init_95 : decode cX6_init 95 = .ok (.putfield 38, 3) := by decide +kernel
theorem dX6_init_98 : decode cX6_init 98 = .ok (.aload_n 0, 1) := by decide +kernel
theorem dX6_init_99 : decode cX6_init 99 = .ok (.bipush 101, 2) := by decide +kernel
theorem dX6_init_101 : decode cX6_init 101 = .ok (.newarray .int, 2) := by decide +kernel
theorem dX6_init_103 : decode cX6_init 103 = .ok (.putfield 41, 3) := by decide +kernel
theorem dX6_init_106 : decode cX6_init 106 = .ok (.aload_n 0, 1) := by decide +kernel
theorem dX6_init_107 : decode cX6_init 107 = .ok (.sipush 20604, 3) := by decide +kernel
theorem dX6_init_110 : decode cX6_init 110 = .ok (.newarray .long, 2) := by decide +kernel
theorem dX6_init_112 : decode cX6_init 112 = .ok (.putfield 44, 3) := by decide +kernel
theorem dX6_init_115 : decode cX6_init 115 = .ok (.aload_n 0, 1) := by decide +kernel
theorem dX6_init_116 : decode cX6_init 116 = .ok (.sipush 20604, 3) := by decide +kernel
theorem dX6_init_119 : decode cX6_init 119 = .ok (.newarray .int, 2) := by decide +kernel
theorem dX6_init_121 : decode cX6_init 121 = .ok (.putfield 48, 3) := by decide +kernel
theorem dX6_init_124 : decode cX6_init 124 = .ok (.aload_n 0, 1) := by decide +kernel
theorem dX6_init_125 : decode cX6_init 125 = .ok (.sipush 20604, 3) := by decide +kernel
theorem dX6_init_128 : decode cX6_init 128 = .ok (.newarray .int, 2) := by decide +kernel
theorem dX6_init_130 : decode cX6_init 130 = .ok (.putfield 51, 3) := by decide +kernel
theorem dX6_init_133 : decode cX6_init 133 = .ok (.aload_n 0, 1) := by decide +kernel
theorem dX6_init_134 : decode cX6_init 134 = .ok (.bipush 50, 2) := by decide +kernel
theorem dX6_init_136 : decode cX6_init 136 = .ok (.newarray .int, 2) := by decide +kernel
theorem dX6_init_138 : decode cX6_init 138 = .ok (.putfield 54, 3) := by decide +kernel
theorem dX6_init_141 : decode cX6_init 141 = .ok (.aload_n 0, 1) := by decide +kernel
theorem dX6_init_142 : decode cX6_init 142 = .ok (.bipush 50, 2) := by decide +kernel
theorem dX6_init_144 : decode cX6_init 144 = .ok (.newarray .int, 2) := by decide +kernel
theorem dX6_init_146 : decode cX6_init 146 = .ok (.putfield 57, 3) := by decide +kernel
theorem dX6_init_149 : decode cX6_init 149 = .ok (.aload_n 0, 1) := by decide +kernel
theorem dX6_init_150 : decode cX6_init 150 = .ok (.bipush 50, 2) := by decide +kernel
theorem dX6_init_152 : decode cX6_init 152 = .ok (.newarray .int, 2) := by decide +kernel
theorem dX6_init_154 : decode cX6_init 154 = .ok (.putfield 60, 3) := by decide +kernel
theorem dX6_init_157 : decode cX6_init 157 = .ok (.aload_n 0, 1) := by decide +kernel
theorem dX6_init_158 : decode cX6_init 158 = .ok (.bipush 50, 2) := by decide +kernel
theorem dX6_init_160 : decode cX6_init 160 = .ok (.newarray .int, 2) := by decide +kernel
theorem dX6_init_162 : decode cX6_init 162 = .ok (.putfield 63, 3) := by decide +kernel
theorem dX6_init_165 : decode cX6_init 165 = .ok (.iconst 0, 1) := by decide +kernel
theorem dX6_init_166 : decode cX6_init 166 = .ok (.istore_n 2, 1) := by decide +kernel
theorem dX6_init_167 : decode cX6_init 167 = .ok (.iload_n 2, 1) := by decide +kernel
theorem dX6_init_168 : decode cX6_init 168 = .ok (.bipush 50, 2) := by decide +kernel
theorem dX6_init_170 : decode cX6_init 170 = .ok (.if_icmp .ge 20, 3) := by decide +kernel
theorem dX6_init_173 : decode cX6_init 173 = .ok (.aload_n 0, 1) := by decide +kernel
theorem dX6_init_174 : decode cX6_init 174 = .ok (.getfield 29, 3) := by decide +kernel
theorem dX6_init_177 : decode cX6_init 177 = .ok (.iload_n 2, 1) := by decide +kernel
theorem dX6_init_178 : decode cX6_init 178 = .ok (.iload_n 1, 1) := by decide +kernel
theorem dX6_init_179 : decode cX6_init 179 = .ok (.sipush 16383, 3) := by decide +kernel
theorem dX6_init_182 : decode cX6_init 182 = .ok (.iand, 1) := by decide +kernel
theorem dX6_init_183 : decode cX6_init 183 = .ok (.iastore, 1) := by decide +kernel
theorem dX6_init_184 : decode cX6_init 184 = .ok (.iinc 2 1, 3) := by decide +kernel
theorem dX6_init_187 : decode cX6_init 187 = .ok (.goto (-20), 3) := by decide +kernel
theorem dX6_init_190 : decode cX6_init 190 = .ok (.return_, 1) := by decide +kernel
theorem dX6_in_0 : decode cX6_in 0 = .ok (.iload_n 0, 1) := by decide +kernel
theorem dX6_in_1 : decode cX6_in 1 = .ok (.iload_n 1, 1) := by decide +kernel
theorem dX6_in_2 : decode cX6_in 2 = .ok (.if_icmp .lt 12, 3) := by decide +kernel
theorem dX6_in_5 : decode cX6_in 5 = .ok (.iload_n 0, 1) := by decide +kernel
theorem dX6_in_6 : decode cX6_in 6 = .ok (.iload_n 2, 1) := by decide +kernel
theorem dX6_in_7 : decode cX6_in 7 = .ok (.if_icmp .gt 7, 3) := by decide +kernel
theorem dX6_in_10 : decode cX6_in 10 = .ok (.iconst 1, 1) := by decide +kernel
theorem dX6_in_11 : decode cX6_in 11 = .ok (.goto 4, 3) := by decide +kernel
theorem dX6_in_14 : decode cX6_in 14 = .ok (.iconst 0, 1) := by decide +kernel
theorem dX6_in_15 : decode cX6_in 15 = .ok (.ireturn, 1) := by decide +kernel
theorem dX6_add_0 : decode cX6_add 0 = .ok (.aload_n 0, 1) := by decide +kernel
theorem dX6_add_1 : decode cX6_add 1 = .ok (.getfield 66, 3) := by decide +kernel
theorem dX6_add_4 : decode cX6_add 4 = .ok (.bipush 100, 2) := by decide +kernel
theorem dX6_add_6 : decode cX6_add 6 = .ok (.if_icmp .ne 6, 3) := by decide +kernel
theorem dX6_add_9 : decode cX6_add 9 = .ok (.bipush (-2), 2) := by decide +kernel
theorem dX6_add_11 : decode cX6_add 11 = .ok (.ireturn, 1) := by decide +kernel
theorem dX6_add_12 : decode cX6_add 12 = .ok (.aload_n 0, 1) := by decide +kernel
theorem dX6_add_13 : decode cX6_add 13 = .ok (.getfield 7, 3) := by decide +kernel
theorem dX6_add_16 : decode cX6_add 16 = .ok (.aload_n 0, 1) := by decide +kernel
theorem dX6_add_17 : decode cX6_add 17 = .ok (.getfield 66, 3) := by decide +kernel
theorem dX6_add_20 : decode cX6_add 20 = .ok (.iload_n 1, 1) := by decide +kernel
theorem dX6_add_21 : decode cX6_add 21 = .ok (.iastore, 1) := by decide +kernel
theorem dX6_add_22 : decode cX6_add 22 = .ok (.aload_n 0, 1) := by decide +kernel
theorem dX6_add_23 : decode cX6_add 23 = .ok (.getfield 13, 3) := by decide +kernel
theorem dX6_add_26 : decode cX6_add 26 = .ok (.aload_n 0, 1) := by decide +kernel
theorem dX6_add_27 : decode cX6_add 27 = .ok (.getfield 66, 3) := by decide +kernel
theorem dX6_add_30 : decode cX6_add 30 = .ok (.iload_n 2, 1) := by decide +kernel
theorem dX6_add_31 : decode cX6_add 31 = .ok (.iastore, 1) := by decide +kernel
theorem dX6_add_32 : decode cX6_add 32 = .ok (.aload_n 0, 1) := by decide +kernel
theorem dX6_add_33 : decode cX6_add 33 = .ok (.getfield 16, 3) := by decide +kernel
theorem dX6_add_36 : decode cX6_add 36 = .ok (.aload_n 0, 1) := by decide +kernel
theorem dX6_add_37 : decode cX6_add 37 = .ok (.getfield 66, 3) := by decide +kernel
theorem dX6_add_40 : decode cX6_add 40 = .ok (.iload_n 3, 1) := by decide +kernel
theorem dX6_add_41 : decode cX6_add 41 = .ok (.iastore, 1) := by decide +kernel
theorem dX6_add_42 : decode cX6_add 42 = .ok (.aload_n 0, 1) := by decide +kernel
theorem dX6_add_43 : decode cX6_add 43 = .ok (.getfield 19, 3) := by decide +kernel
theorem dX6_add_46 : decode cX6_add 46 = .ok (.aload_n 0, 1) := by decide +kernel
theorem dX6_add_47 : decode cX6_add 47 = .ok (.getfield 66, 3) := by decide +kernel
theorem dX6_add_50 : decode cX6_add 50 = .ok (.iload 4, 2) := by decide +kernel
theorem dX6_add_52 : decode cX6_add 52 = .ok (.iastore, 1) := by decide +kernel
theorem dX6_add_53 : decode cX6_add 53 = .ok (.aload_n 0, 1) := by decide +kernel
theorem dX6_add_54 : decode cX6_add 54 = .ok (.getfield 22, 3) := by decide +kernel
theorem dX6_add_57 : decode cX6_add 57 = .ok (.aload_n 0, 1) := by decide +kernel
theorem dX6_add_58 : decode cX6_add 58 = .ok (.getfield 66, 3) := by decide +kernel
theorem dX6_add_61 : decode cX6_add 61 = .ok (.iload 5, 2) := by decide +kernel
theorem dX6_add_63 : decode cX6_add 63 = .ok (.iastore, 1) := by decide +kernel
theorem dX6_add_64 : decode cX6_add 64 = .ok (.aload_n 0, 1) := by decide +kernel
theorem dX6_add_65 : decode cX6_add 65 = .ok (.getfield 25, 3) := by decide +kernel
theorem dX6_add_68 : decode cX6_add 68 = .ok (.aload_n 0, 1) := by decide +kernel
theorem dX6_add_69 : decode cX6_add 69 = .ok (.getfield 66, 3) := by decide +kernel
theorem dX6_add_72 : decode cX6_add 72 = .ok (.iload 6, 2) := by decide +kernel
theorem dX6_add_74 : decode cX6_add 74 = .ok (.bastore, 1) := by decide +kernel
theorem dX6_add_75 : decode cX6_add 75 = .ok (.aload_n 0, 1) := by decide +kernel
theorem dX6_add_76 : decode cX6_add 76 = .ok (.dup, 1) := by decide +kernel
theorem dX6_add_77 : decode cX6_add 77 = .ok (.getfield 66, 3) := by decide +kernel
theorem dX6_add_80 : decode cX6_add 80 = .ok (.iconst 1, 1) := by decide +kernel
theorem dX6_add_81 : decode cX6_add 81 = .ok (.iadd, 1) := by decide +kernel
theorem dX6_add_82 : decode cX6_add 82 = .ok (.putfield 66, 3) := by decide +kernel
theorem dX6_add_85 : decode cX6_add 85 = .ok (.aload_n 0, 1) := by decide +kernel
theorem dX6_add_86 : decode cX6_add 86 = .ok (.getfield 66, 3) := by decide +kernel
theorem dX6_add_89 : decode cX6_add 89 = .ok (.iconst 1, 1) := by decide +kernel
theorem dX6_add_90 : decode cX6_add 90 = .ok (.isub, 1) := by decide +kernel
theorem dX6_add_91 : decode cX6_add 91 = .ok (.ireturn, 1) := by decide +kernel
set_option maxRecDepth 20000 in
theorem ggX6_box_X6_in : GoodIn wsX6_box wsX6_in := goodIn_r _ [4] (by decide +kernel) (by decide +kernel)
set_option maxRecDepth 20000 in
theorem gX6_box_X6_in : GoodIn wsX6_box (va_wsS RX6 70 yX6_in wsX6_in) := goodIn_app (goodIn_of _ (by decide +kernel)) ggX6_box_X6_in
set_option maxRecDepth 20000 in
theorem ggX6_box_X6_add : GoodIn wsX6_box wsX6_add := goodIn_r _ [8, 9, 10, 11, 12, 13, 14, 15, 16, 17, 18, 19, 20, 21, 22, 23, 24, 25, 26, 27, 28, 29, 30, 31, 32, 33, 34, 35, 36, 37, 38, 39, 40, 41] (by decide +kernel) (by decide +kernel)
set_option maxRecDepth 20000 in
theorem gX6_box_X6_add : GoodIn wsX6_box (wsV RX6 74 RX6 yX6_add wsX6_add) := goodIn_app (goodIn_of _ (by decide +kernel)) ggX6_box_X6_add
theorem dX6_box_0 : decode cX6_box 0 = .ok (.iload_n 1, 1) := by decide +kernel
theorem dX6_box_1 : decode cX6_box 1 = .ok (.iconst 0, 1) := by decide +kernel
theorem dX6_box_2 : decode cX6_box 2 = .ok (.sipush 10000, 3) := by decide +kernel
theorem dX6_box_5 : decode cX6_box 5 = .ok (.invokestatic 70, 3) := by decide +kernel
theorem dX6_box_8 : decode cX6_box 8 = .ok (.ifCond .eq 16, 3) := by decide +kernel
theorem dX6_box_11 : decode cX6_box 11 = .ok (.aload_n 0, 1) := by decide +kernel
theorem dX6_box_12 : decode cX6_box 12 = .ok (.iconst 0, 1) := by decide +kernel
theorem dX6_box_13 : decode cX6_box 13 = .ok (.iload_n 1, 1) := by decide +kernel
theorem dX6_box_14 : decode cX6_box 14 = .ok (.iconst 0, 1) := by decide +kernel
theorem dX6_box_15 : decode cX6_box 15 = .ok (.iconst 0, 1) := by decide +kernel
theorem dX6_box_16 : decode cX6_box 16 = .ok (.iconst 0, 1) := by decide +kernel
theorem dX6_box_17 : decode cX6_box 17 = .ok (.iconst 0, 1) := by decide +kernel
theorem dX6_box_18 : decode cX6_box 18 = .ok (.invokevirtual 74, 3) := by decide +kernel
theorem dX6_box_21 : decode cX6_box 21 = .ok (.goto 4, 3) := by decide +kernel
theorem dX6_box_24 : decode cX6_box 24 = .ok (.iconst (-1), 1) := by decide +kernel
theorem dX6_box_25 : decode cX6_box 25 = .ok (.ireturn, 1) := by decide +kernel
set_option maxRecDepth 20000 in
theorem ggX6_glue_X6_in : GoodIn wsX6_glue wsX6_in := goodIn_r _ [4] (by decide +kernel) (by decide +kernel)
set_option maxRecDepth 20000 in
theorem gX6_glue_X6_in : GoodIn wsX6_glue (va_wsS RX6 70 yX6_in wsX6_in) := goodIn_app (goodIn_of _ (by decide +kernel)) ggX6_glue_X6_in
set_option maxRecDepth 20000 in
theorem ggX6_glue_X6_add : GoodIn wsX6_glue wsX6_add := goodIn_r _ [8, 9, 10, 11, 12, 13, 14, 15, 16, 17, 18, 19, 20, 21, 22, 23, 24, 25, 26, 27, 28, 29, 30, 31, 32, 33, 34, 35, 36, 37, 38, 39, 40, 41] (by decide +kernel) (by decide +kernel)
set_option maxRecDepth 20000 in
theorem gX6_glue_X6_add : GoodIn wsX6_glue (wsV RX6 74 RX6 yX6_add wsX6_add) := goodIn_app (goodIn_of _ (by decide +kernel)) ggX6_glue_X6_add
theorem dX6_glue_0 : decode cX6_glue 0 = .ok (.iload_n 1, 1) := by decide +kernel
theorem dX6_glue_1 : decode cX6_glue 1 = .ok (.iconst 0, 1) := by decide +kernel
theorem dX6_glue_2 : decode cX6_glue 2 = .ok (.sipush 10000, 3) := by decide +kernel
theorem dX6_glue_5 : decode cX6_glue 5 = .ok (.invokestatic 70, 3) := by decide +kernel
theorem dX6_glue_8 : decode cX6_glue 8 = .ok (.ifCond .eq 38, 3) := by decide +kernel
theorem dX6_glue_11 : decode cX6_glue 11 = .ok (.iload_n 2, 1) := by decide +kernel
theorem dX6_glue_12 : decode cX6_glue 12 = .ok (.iconst 0, 1) := by decide +kernel
theorem dX6_glue_13 : decode cX6_glue 13 = .ok (.sipush 10000, 3) := by decide +kernel
theorem dX6_glue_16 : decode cX6_glue 16 = .ok (.invokestatic 70, 3) := by decide +kernel
theorem dX6_glue_19 : decode cX6_glue 19 = .ok (.ifCond .eq 27, 3) := by decide +kernel
theorem dX6_glue_22 : decode cX6_glue 22 = .ok (.iload_n 3, 1) := by decide +kernel
theorem dX6_glue_23 : decode cX6_glue 23 = .ok (.iconst 0, 1) := by decide +kernel
theorem dX6_glue_24 : decode cX6_glue 24 = .ok (.sipush 1000, 3) := by decide +kernel
theorem dX6_glue_27 : decode cX6_glue 27 = .ok (.invokestatic 70, 3) := by decide +kernel
theorem dX6_glue_30 : decode cX6_glue 30 = .ok (.ifCond .eq 16, 3) := by decide +kernel
theorem dX6_glue_33 : decode cX6_glue 33 = .ok (.aload_n 0, 1) := by decide +kernel
theorem dX6_glue_34 : decode cX6_glue 34 = .ok (.iconst 1, 1) := by decide +kernel
theorem dX6_glue_35 : decode cX6_glue 35 = .ok (.iload_n 1, 1) := by decide +kernel
theorem dX6_glue_36 : decode cX6_glue 36 = .ok (.iload_n 2, 1) := by decide +kernel
theorem dX6_glue_37 : decode cX6_glue 37 = .ok (.iload_n 3, 1) := by decide +kernel
theorem dX6_glue_38 : decode cX6_glue 38 = .ok (.iconst 0, 1) := by decide +kernel
theorem dX6_glue_39 : decode cX6_glue 39 = .ok (.iconst 0, 1) := by decide +kernel
theorem dX6_glue_40 : decode cX6_glue 40 = .ok (.invokevirtual 74, 3) := by decide +kernel
theorem dX6_glue_43 : decode cX6_glue 43 = .ok (.goto 4, 3) := by decide +kernel
theorem dX6_glue_46 : decode cX6_glue 46 = .ok (.iconst (-1), 1) := by decide +kernel
theorem dX6_glue_47 : decode cX6_glue 47 = .ok (.ireturn, 1) := by decide +kernel
set_option maxRecDepth 20000 in
theorem ggX6_penalty_X6_in : GoodIn wsX6_penalty wsX6_in := goodIn_r _ [4] (by decide +kernel) (by decide +kernel)
set_option maxRecDepth 20000 in
theorem gX6_penalty_X6_in : GoodIn wsX6_penalty (va_wsS RX6 70 yX6_in wsX6_in) := goodIn_app (goodIn_of _ (by decide +kernel)) ggX6_penalty_X6_in
set_option maxRecDepth 20000 in
theorem ggX6_penalty_X6_add : GoodIn wsX6_penalty wsX6_add := goodIn_r _ [8, 9, 10, 11, 12, 13, 14, 15, 16, 17, 18, 19, 20, 21, 22, 23, 24, 25, 26, 27, 28, 29, 30, 31, 32, 33, 34, 35, 36, 37, 38, 39, 40, 41] (by decide +kernel) (by decide +kernel)
set_option maxRecDepth 20000 in
theorem gX6_penalty_X6_add : GoodIn wsX6_penalty (wsV RX6 74 RX6 yX6_add wsX6_add) := goodIn_app (goodIn_of _ (by decide +kernel)) ggX6_penalty_X6_add
theorem dX6_penalty_0 : decode cX6_penalty 0 = .ok (.iload_n 1, 1) := by decide +kernel
theorem dX6_penalty_1 : decode cX6_penalty 1 = .ok (.sipush (-10000), 3) := by decide +kernel
theorem dX6_penalty_4 : decode cX6_penalty 4 = .ok (.sipush 10000, 3) := by decide +kernel
theorem dX6_penalty_7 : decode cX6_penalty 7 = .ok (.invokestatic 70, 3) := by decide +kernel
theorem dX6_penalty_10 : decode cX6_penalty 10 = .ok (.ifCond .eq 27, 3) := by decide +kernel
theorem dX6_penalty_13 : decode cX6_penalty 13 = .ok (.iload_n 2, 1) := by decide +kernel
theorem dX6_penalty_14 : decode cX6_penalty 14 = .ok (.iconst 0, 1) := by decide +kernel
theorem dX6_penalty_15 : decode cX6_penalty 15 = .ok (.sipush 10000, 3) := by decide +kernel
theorem dX6_penalty_18 : decode cX6_penalty 18 = .ok (.invokestatic 70, 3) := by decide +kernel
theorem dX6_penalty_21 : decode cX6_penalty 21 = .ok (.ifCond .eq 16, 3) := by decide +kernel
theorem dX6_penalty_24 : decode cX6_penalty 24 = .ok (.aload_n 0, 1) := by decide +kernel
theorem dX6_penalty_25 : decode cX6_penalty 25 = .ok (.iconst 2, 1) := by decide +kernel
theorem dX6_penalty_26 : decode cX6_penalty 26 = .ok (.iload_n 2, 1) := by decide +kernel
theorem dX6_penalty_27 : decode cX6_penalty 27 = .ok (.iconst 0, 1) := by decide +kernel
theorem dX6_penalty_28 : decode cX6_penalty 28 = .ok (.iconst 0, 1) := by decide +kernel
theorem dX6_penalty_29 : decode cX6_penalty 29 = .ok (.iload_n 1, 1) := by decide +kernel
theorem dX6_penalty_30 : decode cX6_penalty 30 = .ok (.iload_n 3, 1) := by decide +kernel
theorem dX6_penalty_31 : decode cX6_penalty 31 = .ok (.invokevirtual 74, 3) := by decide +kernel
theorem dX6_penalty_34 : decode cX6_penalty 34 = .ok (.goto 4, 3) := by decide +kernel
theorem dX6_penalty_37 : decode cX6_penalty 37 = .ok (.iconst (-1), 1) := by decide +kernel
theorem dX6_penalty_38 : decode cX6_penalty 38 = .ok (.ireturn, 1) := by decide +kernel
set_option maxRecDepth 20000 in
theorem ggX6_shape_X6_in : GoodIn wsX6_shape wsX6_in := goodIn_r _ [5] (by decide +kernel) (by decide +kernel)
set_option maxRecDepth 20000 in
theorem gX6_shape_X6_in : GoodIn wsX6_shape (va_wsS RX6 70 yX6_in wsX6_in) := goodIn_app (goodIn_of _ (by decide +kernel)) ggX6_shape_X6_in
theorem dX6_shape_0 : decode cX6_shape 0 = .ok (.iload_n 1, 1) := by decide +kernel
theorem dX6_shape_1 : decode cX6_shape 1 = .ok (.iconst 0, 1) := by decide +kernel
theorem dX6_shape_2 : decode cX6_shape 2 = .ok (.bipush 49, 2) := by decide +kernel
theorem dX6_shape_4 : decode cX6_shape 4 = .ok (.invokestatic 70, 3) := by decide +kernel
theorem dX6_shape_7 : decode cX6_shape 7 = .ok (.ifCond .eq 14, 3) := by decide +kernel
theorem dX6_shape_10 : decode cX6_shape 10 = .ok (.iload_n 2, 1) := by decide +kernel
theorem dX6_shape_11 : decode cX6_shape 11 = .ok (.iconst 0, 1) := by decide +kernel
theorem dX6_shape_12 : decode cX6_shape 12 = .ok (.sipush 10000, 3) := by decide +kernel
theorem dX6_shape_15 : decode cX6_shape 15 = .ok (.invokestatic 70, 3) := by decide +kernel
theorem dX6_shape_18 : decode cX6_shape 18 = .ok (.ifCond .ne 5, 3) := by decide +kernel
theorem dX6_shape_21 : decode cX6_shape 21 = .ok (.iconst (-1), 1) := by decide +kernel
theorem dX6_shape_22 : decode cX6_shape 22 = .ok (.ireturn, 1) := by decide +kernel
theorem dX6_shape_23 : decode cX6_shape 23 = .ok (.aload_n 0, 1) := by decide +kernel
theorem dX6_shape_24 : decode cX6_shape 24 = .ok (.getfield 29, 3) := by decide +kernel
theorem dX6_shape_27 : decode cX6_shape 27 = .ok (.iload_n 1, 1) := by decide +kernel
theorem dX6_shape_28 : decode cX6_shape 28 = .ok (.iload_n 2, 1) := by decide +kernel
theorem dX6_shape_29 : decode cX6_shape 29 = .ok (.iastore, 1) := by decide +kernel
theorem dX6_shape_30 : decode cX6_shape 30 = .ok (.iconst 1, 1) := by decide +kernel
theorem dX6_shape_31 : decode cX6_shape 31 = .ok (.ireturn, 1) := by decide +kernel
set_option maxRecDepth 20000 in
theorem ggX6_setting_X6_in : GoodIn wsX6_setting wsX6_in := goodIn_r _ [5] (by decide +kernel) (by decide +kernel)
set_option maxRecDepth 20000 in
theorem gX6_setting_X6_in : GoodIn wsX6_setting (va_wsS RX6 70 yX6_in wsX6_in) := goodIn_app (goodIn_of _ (by decide +kernel)) ggX6_setting_X6_in
theorem dX6_setting_0 : decode cX6_setting 0 = .ok (.iload_n 1, 1) := by decide +kernel
theorem dX6_setting_1 : decode cX6_setting 1 = .ok (.iconst 0, 1) := by decide +kernel
theorem dX6_setting_2 : decode cX6_setting 2 = .ok (.iconst 2, 1) := by decide +kernel
theorem dX6_setting_3 : decode cX6_setting 3 = .ok (.invokestatic 70, 3) := by decide +kernel
theorem dX6_setting_6 : decode cX6_setting 6 = .ok (.ifCond .eq 23, 3) := by decide +kernel
theorem dX6_setting_9 : decode cX6_setting 9 = .ok (.iload_n 2, 1) := by decide +kernel
theorem dX6_setting_10 : decode cX6_setting 10 = .ok (.iload_n 1, 1) := by decide +kernel
theorem dX6_setting_11 : decode cX6_setting 11 = .ok (.iconst 2, 1) := by decide +kernel
theorem dX6_setting_12 : decode cX6_setting 12 = .ok (.if_icmp .ne 7, 3) := by decide +kernel
theorem dX6_setting_15 : decode cX6_setting 15 = .ok (.iconst 0, 1) := by decide +kernel
theorem dX6_setting_16 : decode cX6_setting 16 = .ok (.goto 4, 3) := by decide +kernel
theorem dX6_setting_19 : decode cX6_setting 19 = .ok (.iconst (-1), 1) := by decide +kernel
theorem dX6_setting_20 : decode cX6_setting 20 = .ok (.sipush 10000, 3) := by decide +kernel
theorem dX6_setting_23 : decode cX6_setting 23 = .ok (.invokestatic 70, 3) := by decide +kernel
theorem dX6_setting_26 : decode cX6_setting 26 = .ok (.ifCond .ne 5, 3) := by decide +kernel
theorem dX6_setting_29 : decode cX6_setting 29 = .ok (.iconst (-1), 1) := by decide +kernel
theorem dX6_setting_30 : decode cX6_setting 30 = .ok (.ireturn, 1) := by decide +kernel
theorem dX6_setting_31 : decode cX6_setting 31 = .ok (.aload_n 0, 1) := by decide +kernel
theorem dX6_setting_32 : decode cX6_setting 32 = .ok (.getfield 32, 3) := by decide +kernel
theorem dX6_setting_35 : decode cX6_setting 35 = .ok (.iload_n 1, 1) := by decide +kernel
theorem dX6_setting_36 : decode cX6_setting 36 = .ok (.iload_n 2, 1) := by decide +kernel
theorem dX6_setting_37 : decode cX6_setting 37 = .ok (.iastore, 1) := by decide +kernel
theorem dX6_setting_38 : decode cX6_setting 38 = .ok (.iconst 1, 1) := by decide +kernel
theorem dX6_setting_39 : decode cX6_setting 39 = .ok (.ireturn, 1) := by decide +kernel
theorem dX6_mayBreak_0 : decode cX6_mayBreak 0 = .ok (.iload_n 1, 1) := by decide +kernel
theorem dX6_mayBreak_1 : decode cX6_mayBreak 1 = .ok (.aload_n 0, 1) := by decide +kernel
theorem dX6_mayBreak_2 : decode cX6_mayBreak 2 = .ok (.getfield 66, 3) := by decide +kernel
theorem dX6_mayBreak_5 : decode cX6_mayBreak 5 = .ok (.if_icmp .ne 5, 3) := by decide +kernel
theorem dX6_mayBreak_8 : decode cX6_mayBreak 8 = .ok (.iconst 1, 1) := by decide +kernel
theorem dX6_mayBreak_9 : decode cX6_mayBreak 9 = .ok (.ireturn, 1) := by decide +kernel
theorem dX6_mayBreak_10 : decode cX6_mayBreak 10 = .ok (.aload_n 0, 1) := by decide +kernel
theorem dX6_mayBreak_11 : decode cX6_mayBreak 11 = .ok (.getfield 7, 3) := by decide +kernel
theorem dX6_mayBreak_14 : decode cX6_mayBreak 14 = .ok (.iload_n 1, 1) := by decide +kernel
theorem dX6_mayBreak_15 : decode cX6_mayBreak 15 = .ok (.iaload, 1) := by decide +kernel
theorem dX6_mayBreak_16 : decode cX6_mayBreak 16 = .ok (.iconst 1, 1) := by decide +kernel
theorem dX6_mayBreak_17 : decode cX6_mayBreak 17 = .ok (.if_icmp .ne 24, 3) := by decide +kernel
theorem dX6_mayBreak_20 : decode cX6_mayBreak 20 = .ok (.iload_n 1, 1) := by decide +kernel
theorem dX6_mayBreak_21 : decode cX6_mayBreak 21 = .ok (.ifCond .le 18, 3) := by decide +kernel
theorem dX6_mayBreak_24 : decode cX6_mayBreak 24 = .ok (.aload_n 0, 1) := by decide +kernel
theorem dX6_mayBreak_25 : decode cX6_mayBreak 25 = .ok (.getfield 7, 3) := by decide +kernel
theorem dX6_mayBreak_28 : decode cX6_mayBreak 28 = .ok (.iload_n 1, 1) := by decide +kernel
theorem dX6_mayBreak_29 : decode cX6_mayBreak 29 = .ok (.iconst 1, 1) := by decide +kernel
theorem dX6_mayBreak_30 : decode cX6_mayBreak 30 = .ok (.isub, 1) := by decide +kernel
theorem dX6_mayBreak_31 : decode cX6_mayBreak 31 = .ok (.iaload, 1) := by decide +kernel
theorem dX6_mayBreak_32 : decode cX6_mayBreak 32 = .ok (.ifCond .ne 7, 3) := by decide +kernel
theorem dX6_mayBreak_35 : decode cX6_mayBreak 35 = .ok (.iconst 1, 1) := by decide +kernel
theorem dX6_mayBreak_36 : decode cX6_mayBreak 36 = .ok (.goto 4, 3) := by decide +kernel
theorem dX6_mayBreak_39 : decode cX6_mayBreak 39 = .ok (.iconst 0, 1) := by decide +kernel
theorem dX6_mayBreak_40 : decode cX6_mayBreak 40 = .ok (.ireturn, 1) := by decide +kernel
theorem dX6_mayBreak_41 : decode cX6_mayBreak 41 = .ok (.aload_n 0, 1) := by decide +kernel
theorem dX6_mayBreak_42 : decode cX6_mayBreak 42 = .ok (.getfield 7, 3) := by decide +kernel
theorem dX6_mayBreak_45 : decode cX6_mayBreak 45 = .ok (.iload_n 1, 1) := by decide +kernel
theorem dX6_mayBreak_46 : decode cX6_mayBreak 46 = .ok (.iaload, 1) := by decide +kernel
theorem dX6_mayBreak_47 : decode cX6_mayBreak 47 = .ok (.iconst 2, 1) := by decide +kernel
theorem dX6_mayBreak_48 : decode cX6_mayBreak 48 = .ok (.if_icmp .ne 33, 3) := by decide +kernel
theorem dX6_mayBreak_51 : decode cX6_mayBreak 51 = .ok (.aload_n 0, 1) := by decide +kernel
theorem dX6_mayBreak_52 : decode cX6_mayBreak 52 = .ok (.getfield 22, 3) := by decide +kernel
theorem dX6_mayBreak_55 : decode cX6_mayBreak 55 = .ok (.iload_n 1, 1) := by decide +kernel
theorem dX6_mayBreak_56 : decode cX6_mayBreak 56 = .ok (.iaload, 1) := by decide +kernel
theorem dX6_mayBreak_57 : decode cX6_mayBreak 57 = .ok (.sipush 10000, 3) := by decide +kernel
theorem dX6_mayBreak_60 : decode cX6_mayBreak 60 = .ok (.if_icmp .ge 21, 3) := by decide +kernel
theorem dX6_mayBreak_63 : decode cX6_mayBreak 63 = .ok (.iload_n 2, 1) := by decide +kernel
theorem dX6_mayBreak_64 : decode cX6_mayBreak 64 = .ok (.iconst 1, 1) := by decide +kernel
theorem dX6_mayBreak_65 : decode cX6_mayBreak 65 = .ok (.if_icmp .ne 12, 3) := by decide +kernel
theorem dX6_mayBreak_68 : decode cX6_mayBreak 68 = .ok (.aload_n 0, 1) := by decide +kernel
theorem dX6_mayBreak_69 : decode cX6_mayBreak 69 = .ok (.getfield 25, 3) := by decide +kernel
theorem dX6_mayBreak_72 : decode cX6_mayBreak 72 = .ok (.iload_n 1, 1) := by decide +kernel
theorem dX6_mayBreak_73 : decode cX6_mayBreak 73 = .ok (.baload, 1) := by decide +kernel
theorem dX6_mayBreak_74 : decode cX6_mayBreak 74 = .ok (.ifCond .ne 7, 3) := by decide +kernel
theorem dX6_mayBreak_77 : decode cX6_mayBreak 77 = .ok (.iconst 1, 1) := by decide +kernel
theorem dX6_mayBreak_78 : decode cX6_mayBreak 78 = .ok (.goto 4, 3) := by decide +kernel
theorem dX6_mayBreak_81 : decode cX6_mayBreak 81 = .ok (.iconst 0, 1) := by decide +kernel
theorem dX6_mayBreak_82 : decode cX6_mayBreak 82 = .ok (.ireturn, 1) := by decide +kernel
theorem dX6_mustBreak_0 : decode cX6_mustBreak 0 = .ok (.iload_n 1, 1) := by decide +kernel
theorem dX6_mustBreak_1 : decode cX6_mustBreak 1 = .ok (.aload_n 0, 1) := by decide +kernel
theorem dX6_mustBreak_2 : decode cX6_mustBreak 2 = .ok (.getfield 66, 3) := by decide +kernel
theorem dX6_mustBreak_5 : decode cX6_mustBreak 5 = .ok (.if_icmp .ge 29, 3) := by decide +kernel
theorem dX6_mustBreak_8 : decode cX6_mustBreak 8 = .ok (.aload_n 0, 1) := by decide +kernel
theorem dX6_mustBreak_9 : decode cX6_mustBreak 9 = .ok (.getfield 7, 3) := by decide +kernel
theorem dX6_mustBreak_12 : decode cX6_mustBreak 12 = .ok (.iload_n 1, 1) := by decide +kernel
theorem dX6_mustBreak_13 : decode cX6_mustBreak 13 = .ok (.iaload, 1) := by decide +kernel
theorem dX6_mustBreak_14 : decode cX6_mustBreak 14 = .ok (.iconst 2, 1) := by decide +kernel
theorem dX6_mustBreak_15 : decode cX6_mustBreak 15 = .ok (.if_icmp .ne 19, 3) := by decide +kernel
theorem dX6_mustBreak_18 : decode cX6_mustBreak 18 = .ok (.aload_n 0, 1) := by decide +kernel
theorem dX6_mustBreak_19 : decode cX6_mustBreak 19 = .ok (.getfield 22, 3) := by decide +kernel
theorem dX6_mustBreak_22 : decode cX6_mustBreak 22 = .ok (.iload_n 1, 1) := by decide +kernel
theorem dX6_mustBreak_23 : decode cX6_mustBreak 23 = .ok (.iaload, 1) := by decide +kernel
theorem dX6_mustBreak_24 : decode cX6_mustBreak 24 = .ok (.sipush (-10000), 3) := by decide +kernel
theorem dX6_mustBreak_27 : decode cX6_mustBreak 27 = .ok (.if_icmp .ne 7, 3) := by decide +kernel
theorem dX6_mustBreak_30 : decode cX6_mustBreak 30 = .ok (.iconst 1, 1) := by decide +kernel
theorem dX6_mustBreak_31 : decode cX6_mustBreak 31 = .ok (.goto 4, 3) := by decide +kernel
theorem dX6_mustBreak_34 : decode cX6_mustBreak 34 = .ok (.iconst 0, 1) := by decide +kernel
theorem dX6_mustBreak_35 : decode cX6_mustBreak 35 = .ok (.ireturn, 1) := by decide +kernel
theorem dX6_sumUp_0 : decode cX6_sumUp 0 = .ok (.iconst 0, 1) := by decide +kernel
theorem dX6_sumUp_1 : decode cX6_sumUp 1 = .ok (.istore_n 1, 1) := by decide +kernel
theorem dX6_sumUp_2 : decode cX6_sumUp 2 = .ok (.iload_n 1, 1) := by decide +kernel
theorem dX6_sumUp_3 : decode cX6_sumUp 3 = .ok (.aload_n 0, 1) := by decide +kernel
theorem dX6_sumUp_4 : decode cX6_sumUp 4 = .ok (.getfield 66, 3) := by decide +kernel
theorem dX6_sumUp_7 : decode cX6_sumUp 7 = .ok (.if_icmp .ge 96, 3) := by decide +kernel
theorem dX6_sumUp_10 : decode cX6_sumUp 10 = .ok (.aload_n 0, 1) := by decide +kernel
theorem dX6_sumUp_11 : decode cX6_sumUp 11 = .ok (.getfield 7, 3) := by decide +kernel
theorem dX6_sumUp_14 : decode cX6_sumUp 14 = .ok (.iload_n 1, 1) := by decide +kernel
theorem dX6_sumUp_15 : decode cX6_sumUp 15 = .ok (.iaload, 1) := by decide +kernel
theorem dX6_sumUp_16 : decode cX6_sumUp 16 = .ok (.iconst 2, 1) := by decide +kernel
theorem dX6_sumUp_17 : decode cX6_sumUp 17 = .ok (.if_icmp .eq 7, 3) := by decide +kernel
theorem dX6_sumUp_20 : decode cX6_sumUp 20 = .ok (.iconst 1, 1) := by decide +kernel
theorem dX6_sumUp_21 : decode cX6_sumUp 21 = .ok (.goto 4, 3) := by decide +kernel
theorem dX6_sumUp_24 : decode cX6_sumUp 24 = .ok (.iconst 0, 1) := by decide +kernel
theorem dX6_sumUp_25 : decode cX6_sumUp 25 = .ok (.istore_n 2, 1) := by decide +kernel
theorem dX6_sumUp_26 : decode cX6_sumUp 26 = .ok (.aload_n 0, 1) := by decide +kernel
theorem dX6_sumUp_27 : decode cX6_sumUp 27 = .ok (.getfield 35, 3) := by decide +kernel
theorem dX6_sumUp_30 : decode cX6_sumUp 30 = .ok (.iload_n 1, 1) := by decide +kernel
theorem dX6_sumUp_31 : decode cX6_sumUp 31 = .ok (.iconst 1, 1) := by decide +kernel
theorem dX6_sumUp_32 : decode cX6_sumUp 32 = .ok (.iadd, 1) := by decide +kernel
theorem dX6_sumUp_33 : decode cX6_sumUp 33 = .ok (.aload_n 0, 1) := by decide +kernel
theorem dX6_sumUp_34 : decode cX6_sumUp 34 = .ok (.getfield 35, 3) := by decide +kernel
theorem dX6_sumUp_37 : decode cX6_sumUp 37 = .ok (.iload_n 1, 1) := by decide +kernel
theorem dX6_sumUp_38 : decode cX6_sumUp 38 = .ok (.iaload, 1) := by decide +kernel
theorem dX6_sumUp_39 : decode cX6_sumUp 39 = .ok (.iload_n 2, 1) := by decide +kernel
theorem dX6_sumUp_40 : decode cX6_sumUp 40 = .ok (.ifCond .eq 12, 3) := by decide +kernel
theorem dX6_sumUp_43 : decode cX6_sumUp 43 = .ok (.aload_n 0, 1) := by decide +kernel
theorem dX6_sumUp_44 : decode cX6_sumUp 44 = .ok (.getfield 13, 3) := by decide +kernel
theorem dX6_sumUp_47 : decode cX6_sumUp 47 = .ok (.iload_n 1, 1) := by decide +kernel
theorem dX6_sumUp_48 : decode cX6_sumUp 48 = .ok (.iaload, 1) := by decide +kernel
theorem dX6_sumUp_49 : decode cX6_sumUp 49 = .ok (.goto 4, 3) := by decide +kernel
theorem dX6_sumUp_52 : decode cX6_sumUp 52 = .ok (.iconst 0, 1) := by decide +kernel
theorem dX6_sumUp_53 : decode cX6_sumUp 53 = .ok (.iadd, 1) := by decide +kernel
theorem dX6_sumUp_54 : decode cX6_sumUp 54 = .ok (.iastore, 1) := by decide +kernel
theorem dX6_sumUp_55 : decode cX6_sumUp 55 = .ok (.aload_n 0, 1) := by decide +kernel
theorem dX6_sumUp_56 : decode cX6_sumUp 56 = .ok (.getfield 38, 3) := by decide +kernel
theorem dX6_sumUp_59 : decode cX6_sumUp 59 = .ok (.iload_n 1, 1) := by decide +kernel
theorem dX6_sumUp_60 : decode cX6_sumUp 60 = .ok (.iconst 1, 1) := by decide +kernel
theorem dX6_sumUp_61 : decode cX6_sumUp 61 = .ok (.iadd, 1) := by decide +kernel
theorem dX6_sumUp_62 : decode cX6_sumUp 62 = .ok (.aload_n 0, 1) := by decide +kernel
theorem dX6_sumUp_63 : decode cX6_sumUp 63 = .ok (.getfield 38, 3) := by decide +kernel
theorem dX6_sumUp_66 : decode cX6_sumUp 66 = .ok (.iload_n 1, 1) := by decide +kernel
theorem dX6_sumUp_67 : decode cX6_sumUp 67 = .ok (.iaload, 1) := by decide +kernel
theorem dX6_sumUp_68 : decode cX6_sumUp 68 = .ok (.aload_n 0, 1) := by decide +kernel
theorem dX6_sumUp_69 : decode cX6_sumUp 69 = .ok (.getfield 16, 3) := by decide +kernel
theorem dX6_sumUp_72 : decode cX6_sumUp 72 = .ok (.iload_n 1, 1) := by decide +kernel
theorem dX6_sumUp_73 : decode cX6_sumUp 73 = .ok (.iaload, 1) := by decide +kernel
theorem dX6_sumUp_74 : decode cX6_sumUp 74 = .ok (.iadd, 1) := by decide +kernel
theorem dX6_sumUp_75 : decode cX6_sumUp 75 = .ok (.iastore, 1) := by decide +kernel
theorem dX6_sumUp_76 : decode cX6_sumUp 76 = .ok (.aload_n 0, 1) := by decide +kernel
theorem dX6_sumUp_77 : decode cX6_sumUp 77 = .ok (.getfield 41, 3) := by decide +kernel
theorem dX6_sumUp_80 : decode cX6_sumUp 80 = .ok (.iload_n 1, 1) := by decide +kernel
theorem dX6_sumUp_81 : decode cX6_sumUp 81 = .ok (.iconst 1, 1) := by decide +kernel
theorem dX6_sumUp_82 : decode cX6_sumUp 82 = .ok (.iadd, 1) := by decide +kernel
theorem dX6_sumUp_83 : decode cX6_sumUp 83 = .ok (.aload_n 0, 1) := by decide +kernel
theorem dX6_sumUp_84 : decode cX6_sumUp 84 = .ok (.getfield 41, 3) := by decide +kernel
theorem dX6_sumUp_87 : decode cX6_sumUp 87 = .ok (.iload_n 1, 1) := by decide +kernel
theorem dX6_sumUp_88 : decode cX6_sumUp 88 = .ok (.iaload, 1) := by decide +kernel
theorem dX6_sumUp_89 : decode cX6_sumUp 89 = .ok (.aload_n 0, 1) := by decide +kernel
theorem dX6_sumUp_90 : decode cX6_sumUp 90 = .ok (.getfield 19, 3) := by decide +kernel
theorem dX6_sumUp_93 : decode cX6_sumUp 93 = .ok (.iload_n 1, 1) := by decide +kernel
theorem dX6_sumUp_94 : decode cX6_sumUp 94 = .ok (.iaload, 1) := by decide +kernel
theorem dX6_sumUp_95 : decode cX6_sumUp 95 = .ok (.iadd, 1) := by decide +kernel
theorem dX6_sumUp_96 : decode cX6_sumUp 96 = .ok (.iastore, 1) := by decide +kernel
theorem dX6_sumUp_97 : decode cX6_sumUp 97 = .ok (.iinc 1 1, 3) := by decide +kernel
theorem dX6_sumUp_100 : decode cX6_sumUp 100 = .ok (.goto (-98), 3) := by decide +kernel
theorem dX6_sumUp_103 : decode cX6_sumUp 103 = .ok (.return_, 1) := by decide +kernel
theorem dX6_cube_0 : decode cX6_cube 0 = .ok (.lload_n 0, 1) := by decide +kernel
theorem dX6_cube_1 : decode cX6_cube 1 = .ok (.lload_n 0, 1) := by decide +kernel
theorem dX6_cube_2 : decode cX6_cube 2 = .ok (.lmul, 1) := by decide +kernel
theorem dX6_cube_3 : decode cX6_cube 3 = .ok (.lload_n 0, 1) := by decide +kernel
theorem dX6_cube_4 : decode cX6_cube 4 = .ok (.lmul, 1) := by decide +kernel
theorem dX6_cube_5 : decode cX6_cube 5 = .ok (.lreturn, 1) := by decide +kernel
set_option maxRecDepth 20000 in
theorem ggX6_isLine_X6_cube : GoodIn wsX6_isLine wsX6_cube := goodIn_r _ [22] (by decide +kernel) (by decide +kernel)
set_option maxRecDepth 20000 in
theorem gX6_isLine_X6_cube : GoodIn wsX6_isLine (va_wsS RX6 91 yX6_cube wsX6_cube) := goodIn_app (goodIn_of _ (by decide +kernel)) ggX6_isLine_X6_cube
theorem dX6_isLine_0 : decode cX6_isLine 0 = .ok (.iload_n 1, 1) := by decide +kernel
theorem dX6_isLine_1 : decode cX6_isLine 1 = .ok (.iconst 1, 1) := by decide +kernel
theorem dX6_isLine_2 : decode cX6_isLine 2 = .ok (.iadd, 1) := by decide +kernel
theorem dX6_isLine_3 : decode cX6_isLine 3 = .ok (.istore 5, 2) := by decide +kernel
theorem dX6_isLine_5 : decode cX6_isLine 5 = .ok (.iload_n 1, 1) := by decide +kernel
theorem dX6_isLine_6 : decode cX6_isLine 6 = .ok (.ifCond .lt 25, 3) := by decide +kernel
theorem dX6_isLine_9 : decode cX6_isLine 9 = .ok (.iload 5, 2) := by decide +kernel
theorem dX6_isLine_11 : decode cX6_isLine 11 = .ok (.iload_n 2, 1) := by decide +kernel
theorem dX6_isLine_12 : decode cX6_isLine 12 = .ok (.if_icmp .ge 19, 3) := by decide +kernel
theorem dX6_isLine_15 : decode cX6_isLine 15 = .ok (.aload_n 0, 1) := by decide +kernel
theorem dX6_isLine_16 : decode cX6_isLine 16 = .ok (.getfield 7, 3) := by decide +kernel
theorem dX6_isLine_19 : decode cX6_isLine 19 = .ok (.iload 5, 2) := by decide +kernel
theorem dX6_isLine_21 : decode cX6_isLine 21 = .ok (.iaload, 1) := by decide +kernel
theorem dX6_isLine_22 : decode cX6_isLine 22 = .ok (.ifCond .eq 9, 3) := by decide +kernel
theorem dX6_isLine_25 : decode cX6_isLine 25 = .ok (.iinc 5 1, 3) := by decide +kernel
theorem dX6_isLine_28 : decode cX6_isLine 28 = .ok (.goto (-23), 3) := by decide +kernel
theorem dX6_isLine_31 : decode cX6_isLine 31 = .ok (.iload_n 2, 1) := by decide +kernel
theorem dX6_isLine_32 : decode cX6_isLine 32 = .ok (.aload_n 0, 1) := by decide +kernel
theorem dX6_isLine_33 : decode cX6_isLine 33 = .ok (.getfield 66, 3) := by decide +kernel
theorem dX6_isLine_36 : decode cX6_isLine 36 = .ok (.if_icmp .ge 17, 3) := by decide +kernel
theorem dX6_isLine_39 : decode cX6_isLine 39 = .ok (.aload_n 0, 1) := by decide +kernel
theorem dX6_isLine_40 : decode cX6_isLine 40 = .ok (.getfield 7, 3) := by decide +kernel
theorem dX6_isLine_43 : decode cX6_isLine 43 = .ok (.iload_n 2, 1) := by decide +kernel
theorem dX6_isLine_44 : decode cX6_isLine 44 = .ok (.iaload, 1) := by decide +kernel
theorem dX6_isLine_45 : decode cX6_isLine 45 = .ok (.iconst 2, 1) := by decide +kernel
theorem dX6_isLine_46 : decode cX6_isLine 46 = .ok (.if_icmp .ne 7, 3) := by decide +kernel
theorem dX6_isLine_49 : decode cX6_isLine 49 = .ok (.iconst 1, 1) := by decide +kernel
theorem dX6_isLine_50 : decode cX6_isLine 50 = .ok (.goto 4, 3) := by decide +kernel
theorem dX6_isLine_53 : decode cX6_isLine 53 = .ok (.iconst 0, 1) := by decide +kernel
theorem dX6_isLine_54 : decode cX6_isLine 54 = .ok (.istore 6, 2) := by decide +kernel
theorem dX6_isLine_56 : decode cX6_isLine 56 = .ok (.aload_n 0, 1) := by decide +kernel
theorem dX6_isLine_57 : decode cX6_isLine 57 = .ok (.getfield 35, 3) := by decide +kernel
theorem dX6_isLine_60 : decode cX6_isLine 60 = .ok (.iload_n 2, 1) := by decide +kernel
theorem dX6_isLine_61 : decode cX6_isLine 61 = .ok (.iaload, 1) := by decide +kernel
theorem dX6_isLine_62 : decode cX6_isLine 62 = .ok (.aload_n 0, 1) := by decide +kernel
theorem dX6_isLine_63 : decode cX6_isLine 63 = .ok (.getfield 35, 3) := by decide +kernel
theorem dX6_isLine_66 : decode cX6_isLine 66 = .ok (.iload 5, 2) := by decide +kernel
theorem dX6_isLine_68 : decode cX6_isLine 68 = .ok (.iaload, 1) := by decide +kernel
theorem dX6_isLine_69 : decode cX6_isLine 69 = .ok (.isub, 1) := by decide +kernel
theorem dX6_isLine_70 : decode cX6_isLine 70 = .ok (.iload 6, 2) := by decide +kernel
theorem dX6_isLine_72 : decode cX6_isLine 72 = .ok (.ifCond .eq 12, 3) := by decide +kernel
theorem dX6_isLine_75 : decode cX6_isLine 75 = .ok (.aload_n 0, 1) := by decide +kernel
theorem dX6_isLine_76 : decode cX6_isLine 76 = .ok (.getfield 13, 3) := by decide +kernel
theorem dX6_isLine_79 : decode cX6_isLine 79 = .ok (.iload_n 2, 1) := by decide +kernel
theorem dX6_isLine_80 : decode cX6_isLine 80 = .ok (.iaload, 1) := by decide +kernel
theorem dX6_isLine_81 : decode cX6_isLine 81 = .ok (.goto 4, 3) := by decide +kernel
theorem dX6_isLine_84 : decode cX6_isLine 84 = .ok (.iconst 0, 1) := by decide +kernel
theorem dX6_isLine_85 : decode cX6_isLine 85 = .ok (.iadd, 1) := by decide +kernel
theorem dX6_isLine_86 : decode cX6_isLine 86 = .ok (.istore 7, 2) := by decide +kernel
theorem dX6_isLine_88 : decode cX6_isLine 88 = .ok (.aload_n 0, 1) := by decide +kernel
theorem dX6_isLine_89 : decode cX6_isLine 89 = .ok (.aload_n 0, 1) := by decide +kernel
theorem dX6_isLine_90 : decode cX6_isLine 90 = .ok (.getfield 29, 3) := by decide +kernel
theorem dX6_isLine_93 : decode cX6_isLine 93 = .ok (.iload_n 3, 1) := by decide +kernel
theorem dX6_isLine_94 : decode cX6_isLine 94 = .ok (.iaload, 1) := by decide +kernel
theorem dX6_isLine_95 : decode cX6_isLine 95 = .ok (.iload 7, 2) := by decide +kernel
theorem dX6_isLine_97 : decode cX6_isLine 97 = .ok (.isub, 1) := by decide +kernel
theorem dX6_isLine_98 : decode cX6_isLine 98 = .ok (.putfield 78, 3) := by decide +kernel
theorem dX6_isLine_101 : decode cX6_isLine 101 = .ok (.aload_n 0, 1) := by decide +kernel
theorem dX6_isLine_102 : decode cX6_isLine 102 = .ok (.getfield 78, 3) := by decide +kernel
theorem dX6_isLine_105 : decode cX6_isLine 105 = .ok (.i2l, 1) := by decide +kernel
theorem dX6_isLine_106 : decode cX6_isLine 106 = .ok (.lstore 8, 2) := by decide +kernel
theorem dX6_isLine_108 : decode cX6_isLine 108 = .ok (.lload 8, 2) := by decide +kernel
theorem dX6_isLine_110 : decode cX6_isLine 110 = .ok (.lconst 0, 1) := by decide +kernel
theorem dX6_isLine_111 : decode cX6_isLine 111 = .ok (.lcmp, 1) := by decide +kernel
theorem dX6_isLine_112 : decode cX6_isLine 112 = .ok (.ifCond .ge 21, 3) := by decide +kernel
theorem dX6_isLine_115 : decode cX6_isLine 115 = .ok (.aload_n 0, 1) := by decide +kernel
theorem dX6_isLine_116 : decode cX6_isLine 116 = .ok (.getfield 41, 3) := by decide +kernel
theorem dX6_isLine_119 : decode cX6_isLine 119 = .ok (.iload_n 2, 1) := by decide +kernel
theorem dX6_isLine_120 : decode cX6_isLine 120 = .ok (.iaload, 1) := by decide +kernel
theorem dX6_isLine_121 : decode cX6_isLine 121 = .ok (.aload_n 0, 1) := by decide +kernel
theorem dX6_isLine_122 : decode cX6_isLine 122 = .ok (.getfield 41, 3) := by decide +kernel
theorem dX6_isLine_125 : decode cX6_isLine 125 = .ok (.iload 5, 2) := by decide +kernel
theorem dX6_isLine_127 : decode cX6_isLine 127 = .ok (.iaload, 1) := by decide +kernel
theorem dX6_isLine_128 : decode cX6_isLine 128 = .ok (.isub, 1) := by decide +kernel
theorem dX6_isLine_129 : decode cX6_isLine 129 = .ok (.i2l, 1) := by decide +kernel
theorem dX6_isLine_130 : decode cX6_isLine 130 = .ok (.goto 35, 3) := by decide +kernel
theorem dX6_isLine_133 : decode cX6_isLine 133 = .ok (.aload_n 0, 1) := by decide +kernel
theorem dX6_isLine_134 : decode cX6_isLine 134 = .ok (.getfield 38, 3) := by decide +kernel
theorem dX6_isLine_137 : decode cX6_isLine 137 = .ok (.iload_n 2, 1) := by decide +kernel
theorem dX6_isLine_138 : decode cX6_isLine 138 = .ok (.iaload, 1) := by decide +kernel
theorem dX6_isLine_139 : decode cX6_isLine 139 = .ok (.aload_n 0, 1) := by decide +kernel
theorem dX6_isLine_140 : decode cX6_isLine 140 = .ok (.getfield 38, 3) := by decide +kernel
theorem dX6_isLine_143 : decode cX6_isLine 143 = .ok (.iload 5, 2) := by decide +kernel
theorem dX6_isLine_145 : decode cX6_isLine 145 = .ok (.iaload, 1) := by decide +kernel
theorem dX6_isLine_146 : decode cX6_isLine 146 = .ok (.isub, 1) := by decide +kernel
theorem dX6_isLine_147 : decode cX6_isLine 147 = .ok (.iload 4, 2) := by decide +kernel
theorem dX6_isLine_149 : decode cX6_isLine 149 = .ok (.iconst 3, 1) := by decide +kernel
theorem dX6_isLine_150 : decode cX6_isLine 150 = .ok (.if_icmp .ne 12, 3) := by decide +kernel
theorem dX6_isLine_153 : decode cX6_isLine 153 = .ok (.aload_n 0, 1) := by decide +kernel
theorem dX6_isLine_154 : decode cX6_isLine 154 = .ok (.getfield 32, 3) := by decide +kernel
theorem dX6_isLine_157 : decode cX6_isLine 157 = .ok (.iconst 2, 1) := by decide +kernel
theorem dX6_isLine_158 : decode cX6_isLine 158 = .ok (.iaload, 1) := by decide +kernel
theorem dX6_isLine_159 : decode cX6_isLine 159 = .ok (.goto 4, 3) := by decide +kernel
theorem dX6_isLine_162 : decode cX6_isLine 162 = .ok (.iconst 0, 1) := by decide +kernel
theorem dX6_isLine_163 : decode cX6_isLine 163 = .ok (.iadd, 1) := by decide +kernel
theorem dX6_isLine_164 : decode cX6_isLine 164 = .ok (.i2l, 1) := by decide +kernel
theorem dX6_isLine_165 : decode cX6_isLine 165 = .ok (.lstore 10, 2) := by decide +kernel
theorem dX6_isLine_167 : decode cX6_isLine 167 = .ok (.lload 8, 2) := by decide +kernel
theorem dX6_isLine_169 : decode cX6_isLine 169 = .ok (.lneg, 1) := by decide +kernel
theorem dX6_isLine_170 : decode cX6_isLine 170 = .ok (.lload 10, 2) := by decide +kernel
theorem dX6_isLine_172 : decode cX6_isLine 172 = .ok (.lcmp, 1) := by decide +kernel
theorem dX6_isLine_173 : decode cX6_isLine 173 = .ok (.ifCond .le 5, 3) := by decide +kernel
theorem dX6_isLine_176 : decode cX6_isLine 176 = .ok (.iconst 0, 1) := by decide +kernel
theorem dX6_isLine_177 : decode cX6_isLine 177 = .ok (.ireturn, 1) := by decide +kernel
theorem dX6_isLine_178 : decode cX6_isLine 178 = .ok (.aload_n 0, 1) := by decide +kernel
theorem dX6_isLine_179 : decode cX6_isLine 179 = .ok (.iconst 0, 1) := by decide +kernel
theorem dX6_isLine_180 : decode cX6_isLine 180 = .ok (.putfield 81, 3) := by decide +kernel
theorem dX6_isLine_183 : decode cX6_isLine 183 = .ok (.aload_n 0, 1) := by decide +kernel
theorem dX6_isLine_184 : decode cX6_isLine 184 = .ok (.iconst 1, 1) := by decide +kernel
theorem dX6_isLine_185 : decode cX6_isLine 185 = .ok (.putfield 84, 3) := by decide +kernel
theorem dX6_isLine_188 : decode cX6_isLine 188 = .ok (.lload 8, 2) := by decide +kernel
theorem dX6_isLine_190 : decode cX6_isLine 190 = .ok (.lconst 0, 1) := by decide +kernel
theorem dX6_isLine_191 : decode cX6_isLine 191 = .ok (.lcmp, 1) := by decide +kernel
theorem dX6_isLine_192 : decode cX6_isLine 192 = .ok (.ifCond .le 99, 3) := by decide +kernel
theorem dX6_isLine_195 : decode cX6_isLine 195 = .ok (.iload_n 2, 1) := by decide +kernel
theorem dX6_isLine_196 : decode cX6_isLine 196 = .ok (.aload_n 0, 1) := by decide +kernel
theorem dX6_isLine_197 : decode cX6_isLine 197 = .ok (.getfield 66, 3) := by decide +kernel
theorem dX6_isLine_200 : decode cX6_isLine 200 = .ok (.if_icmp .ge 91, 3) := by decide +kernel
theorem dX6_isLine_203 : decode cX6_isLine 203 = .ok (.lload 10, 2) := by decide +kernel
theorem dX6_isLine_205 : decode cX6_isLine 205 = .ok (.lconst 0, 1) := by decide +kernel
theorem dX6_isLine_206 : decode cX6_isLine 206 = .ok (.lcmp, 1) := by decide +kernel
theorem dX6_isLine_207 : decode cX6_isLine 207 = .ok (.ifCond .ne 9, 3) := by decide +kernel
theorem dX6_isLine_210 : decode cX6_isLine 210 = .ok (.ldc2_w 87, 3) := by decide +kernel
theorem dX6_isLine_213 : decode cX6_isLine 213 = .ok (.goto 18, 3) := by decide +kernel
theorem dX6_isLine_216 : decode cX6_isLine 216 = .ok (.ldc2_w 89, 3) := by decide +kernel
theorem dX6_isLine_219 : decode cX6_isLine 219 = .ok (.lload 8, 2) := by decide +kernel
theorem dX6_isLine_221 : decode cX6_isLine 221 = .ok (.invokestatic 91, 3) := by decide +kernel
theorem dX6_isLine_224 : decode cX6_isLine 224 = .ok (.lmul, 1) := by decide +kernel
theorem dX6_isLine_225 : decode cX6_isLine 225 = .ok (.lload 10, 2) := by decide +kernel
theorem dX6_isLine_227 : decode cX6_isLine 227 = .ok (.invokestatic 91, 3) := by decide +kernel
theorem dX6_isLine_230 : decode cX6_isLine 230 = .ok (.ldiv, 1) := by decide +kernel
theorem dX6_isLine_231 : decode cX6_isLine 231 = .ok (.lstore 12, 2) := by decide +kernel
theorem dX6_isLine_233 : decode cX6_isLine 233 = .ok (.aload_n 0, 1) := by decide +kernel
theorem dX6_isLine_234 : decode cX6_isLine 234 = .ok (.lload 12, 2) := by decide +kernel
theorem dX6_isLine_236 : decode cX6_isLine 236 = .ok (.ldc2_w 87, 3) := by decide +kernel
theorem dX6_isLine_239 : decode cX6_isLine 239 = .ok (.lcmp, 1) := by decide +kernel
theorem dX6_isLine_240 : decode cX6_isLine 240 = .ok (.ifCond .le 9, 3) := by decide +kernel
theorem dX6_isLine_243 : decode cX6_isLine 243 = .ok (.sipush 10000, 3) := by decide +kernel
theorem dX6_isLine_246 : decode cX6_isLine 246 = .ok (.goto 6, 3) := by decide +kernel
theorem dX6_isLine_249 : decode cX6_isLine 249 = .ok (.lload 12, 2) := by decide +kernel
theorem dX6_isLine_251 : decode cX6_isLine 251 = .ok (.l2i, 1) := by decide +kernel
theorem dX6_isLine_252 : decode cX6_isLine 252 = .ok (.putfield 81, 3) := by decide +kernel
theorem dX6_isLine_255 : decode cX6_isLine 255 = .ok (.aload_n 0, 1) := by decide +kernel
theorem dX6_isLine_256 : decode cX6_isLine 256 = .ok (.lload 8, 2) := by decide +kernel
theorem dX6_isLine_258 : decode cX6_isLine 258 = .ok (.lload 10, 2) := by decide +kernel
theorem dX6_isLine_260 : decode cX6_isLine 260 = .ok (.lcmp, 1) := by decide +kernel
theorem dX6_isLine_261 : decode cX6_isLine 261 = .ok (.ifCond .le 7, 3) := by decide +kernel
theorem dX6_isLine_264 : decode cX6_isLine 264 = .ok (.iconst 3, 1) := by decide +kernel
theorem dX6_isLine_265 : decode cX6_isLine 265 = .ok (.goto 20, 3) := by decide +kernel
theorem dX6_isLine_268 : decode cX6_isLine 268 = .ok (.ldc2_w 95, 3) := by decide +kernel
theorem dX6_isLine_271 : decode cX6_isLine 271 = .ok (.lload 8, 2) := by decide +kernel
theorem dX6_isLine_273 : decode cX6_isLine 273 = .ok (.lmul, 1) := by decide +kernel
theorem dX6_isLine_274 : decode cX6_isLine 274 = .ok (.lload 10, 2) := by decide +kernel
theorem dX6_isLine_276 : decode cX6_isLine 276 = .ok (.lcmp, 1) := by decide +kernel
theorem dX6_isLine_277 : decode cX6_isLine 277 = .ok (.ifCond .le 7, 3) := by decide +kernel
theorem dX6_isLine_280 : decode cX6_isLine 280 = .ok (.iconst 2, 1) := by decide +kernel
theorem dX6_isLine_281 : decode cX6_isLine 281 = .ok (.goto 4, 3) := by decide +kernel
theorem dX6_isLine_284 : decode cX6_isLine 284 = .ok (.iconst 1, 1) := by decide +kernel
theorem dX6_isLine_285 : decode cX6_isLine 285 = .ok (.putfield 84, 3) := by decide +kernel
theorem dX6_isLine_288 : decode cX6_isLine 288 = .ok (.goto 52, 3) := by decide +kernel
theorem dX6_isLine_291 : decode cX6_isLine 291 = .ok (.lload 8, 2) := by decide +kernel
theorem dX6_isLine_293 : decode cX6_isLine 293 = .ok (.lconst 0, 1) := by decide +kernel
theorem dX6_isLine_294 : decode cX6_isLine 294 = .ok (.lcmp, 1) := by decide +kernel
theorem dX6_isLine_295 : decode cX6_isLine 295 = .ok (.ifCond .ge 45, 3) := by decide +kernel
theorem dX6_isLine_298 : decode cX6_isLine 298 = .ok (.aload_n 0, 1) := by decide +kernel
theorem dX6_isLine_299 : decode cX6_isLine 299 = .ok (.ldc2_w 89, 3) := by decide +kernel
theorem dX6_isLine_302 : decode cX6_isLine 302 = .ok (.lload 8, 2) := by decide +kernel
theorem dX6_isLine_304 : decode cX6_isLine 304 = .ok (.lneg, 1) := by decide +kernel
theorem dX6_isLine_305 : decode cX6_isLine 305 = .ok (.invokestatic 91, 3) := by decide +kernel
theorem dX6_isLine_308 : decode cX6_isLine 308 = .ok (.lmul, 1) := by decide +kernel
theorem dX6_isLine_309 : decode cX6_isLine 309 = .ok (.lload 10, 2) := by decide +kernel
theorem dX6_isLine_311 : decode cX6_isLine 311 = .ok (.invokestatic 91, 3) := by decide +kernel
theorem dX6_isLine_314 : decode cX6_isLine 314 = .ok (.ldiv, 1) := by decide +kernel
theorem dX6_isLine_315 : decode cX6_isLine 315 = .ok (.l2i, 1) := by decide +kernel
theorem dX6_isLine_316 : decode cX6_isLine 316 = .ok (.putfield 81, 3) := by decide +kernel
theorem dX6_isLine_319 : decode cX6_isLine 319 = .ok (.aload_n 0, 1) := by decide +kernel
theorem dX6_isLine_320 : decode cX6_isLine 320 = .ok (.ldc2_w 97, 3) := by decide +kernel
theorem dX6_isLine_323 : decode cX6_isLine 323 = .ok (.lload 8, 2) := by decide +kernel
theorem dX6_isLine_325 : decode cX6_isLine 325 = .ok (.lmul, 1) := by decide +kernel
theorem dX6_isLine_326 : decode cX6_isLine 326 = .ok (.lload 10, 2) := by decide +kernel
theorem dX6_isLine_328 : decode cX6_isLine 328 = .ok (.lcmp, 1) := by decide +kernel
theorem dX6_isLine_329 : decode cX6_isLine 329 = .ok (.ifCond .le 7, 3) := by decide +kernel
theorem dX6_isLine_332 : decode cX6_isLine 332 = .ok (.iconst 0, 1) := by decide +kernel
theorem dX6_isLine_333 : decode cX6_isLine 333 = .ok (.goto 4, 3) := by decide +kernel
theorem dX6_isLine_336 : decode cX6_isLine 336 = .ok (.iconst 1, 1) := by decide +kernel
theorem dX6_isLine_337 : decode cX6_isLine 337 = .ok (.putfield 84, 3) := by decide +kernel
theorem dX6_isLine_340 : decode cX6_isLine 340 = .ok (.aload_n 0, 1) := by decide +kernel
theorem dX6_isLine_341 : decode cX6_isLine 341 = .ok (.ldc2_w 99, 3) := by decide +kernel
theorem dX6_isLine_344 : decode cX6_isLine 344 = .ok (.aload_n 0, 1) := by decide +kernel
theorem dX6_isLine_345 : decode cX6_isLine 345 = .ok (.getfield 81, 3) := by decide +kernel
theorem dX6_isLine_348 : decode cX6_isLine 348 = .ok (.i2l, 1) := by decide +kernel
theorem dX6_isLine_349 : decode cX6_isLine 349 = .ok (.ladd, 1) := by decide +kernel
theorem dX6_isLine_350 : decode cX6_isLine 350 = .ok (.ldc2_w 99, 3) := by decide +kernel
theorem dX6_isLine_353 : decode cX6_isLine 353 = .ok (.aload_n 0, 1) := by decide +kernel
theorem dX6_isLine_354 : decode cX6_isLine 354 = .ok (.getfield 81, 3) := by decide +kernel
theorem dX6_isLine_357 : decode cX6_isLine 357 = .ok (.i2l, 1) := by decide +kernel
theorem dX6_isLine_358 : decode cX6_isLine 358 = .ok (.ladd, 1) := by decide +kernel
theorem dX6_isLine_359 : decode cX6_isLine 359 = .ok (.lmul, 1) := by decide +kernel
theorem dX6_isLine_360 : decode cX6_isLine 360 = .ok (.putfield 101, 3) := by decide +kernel
theorem dX6_isLine_363 : decode cX6_isLine 363 = .ok (.iload 6, 2) := by decide +kernel
theorem dX6_isLine_365 : decode cX6_isLine 365 = .ok (.ifCond .eq 54, 3) := by decide +kernel
theorem dX6_isLine_368 : decode cX6_isLine 368 = .ok (.aload_n 0, 1) := by decide +kernel
theorem dX6_isLine_369 : decode cX6_isLine 369 = .ok (.getfield 22, 3) := by decide +kernel
theorem dX6_isLine_372 : decode cX6_isLine 372 = .ok (.iload_n 2, 1) := by decide +kernel
theorem dX6_isLine_373 : decode cX6_isLine 373 = .ok (.iaload, 1) := by decide +kernel
theorem dX6_isLine_374 : decode cX6_isLine 374 = .ok (.sipush (-10000), 3) := by decide +kernel
theorem dX6_isLine_377 : decode cX6_isLine 377 = .ok (.if_icmp .le 42, 3) := by decide +kernel
theorem dX6_isLine_380 : decode cX6_isLine 380 = .ok (.aload_n 0, 1) := by decide +kernel
theorem dX6_isLine_381 : decode cX6_isLine 381 = .ok (.getfield 22, 3) := by decide +kernel
theorem dX6_isLine_384 : decode cX6_isLine 384 = .ok (.iload_n 2, 1) := by decide +kernel
theorem dX6_isLine_385 : decode cX6_isLine 385 = .ok (.iaload, 1) := by decide +kernel
theorem dX6_isLine_386 : decode cX6_isLine 386 = .ok (.i2l, 1) := by decide +kernel
theorem dX6_isLine_387 : decode cX6_isLine 387 = .ok (.lstore 12, 2) := by decide +kernel
theorem dX6_isLine_389 : decode cX6_isLine 389 = .ok (.aload_n 0, 1) := by decide +kernel
theorem dX6_isLine_390 : decode cX6_isLine 390 = .ok (.dup, 1) := by decide +kernel
theorem dX6_isLine_391 : decode cX6_isLine 391 = .ok (.getfield 101, 3) := by decide +kernel
theorem dX6_isLine_394 : decode cX6_isLine 394 = .ok (.lload 12, 2) := by decide +kernel
theorem dX6_isLine_396 : decode cX6_isLine 396 = .ok (.lconst 0, 1) := by decide +kernel
theorem dX6_isLine_397 : decode cX6_isLine 397 = .ok (.lcmp, 1) := by decide +kernel
theorem dX6_isLine_398 : decode cX6_isLine 398 = .ok (.ifCond .ge 12, 3) := by decide +kernel
theorem dX6_isLine_401 : decode cX6_isLine 401 = .ok (.lload 12, 2) := by decide +kernel
theorem dX6_isLine_403 : decode cX6_isLine 403 = .ok (.lneg, 1) := by decide +kernel
theorem dX6_isLine_404 : decode cX6_isLine 404 = .ok (.lload 12, 2) := by decide +kernel
theorem dX6_isLine_406 : decode cX6_isLine 406 = .ok (.lmul, 1) := by decide +kernel
theorem dX6_isLine_407 : decode cX6_isLine 407 = .ok (.goto 8, 3) := by decide +kernel
theorem dX6_isLine_410 : decode cX6_isLine 410 = .ok (.lload 12, 2) := by decide +kernel
theorem dX6_isLine_412 : decode cX6_isLine 412 = .ok (.lload 12, 2) := by decide +kernel
theorem dX6_isLine_414 : decode cX6_isLine 414 = .ok (.lmul, 1) := by decide +kernel
theorem dX6_isLine_415 : decode cX6_isLine 415 = .ok (.ladd, 1) := by decide +kernel
theorem dX6_isLine_416 : decode cX6_isLine 416 = .ok (.putfield 101, 3) := by decide +kernel
theorem dX6_isLine_419 : decode cX6_isLine 419 = .ok (.aload_n 0, 1) := by decide +kernel
theorem dX6_isLine_420 : decode cX6_isLine 420 = .ok (.getfield 81, 3) := by decide +kernel
theorem dX6_isLine_423 : decode cX6_isLine 423 = .ok (.aload_n 0, 1) := by decide +kernel
theorem dX6_isLine_424 : decode cX6_isLine 424 = .ok (.getfield 32, 3) := by decide +kernel
theorem dX6_isLine_427 : decode cX6_isLine 427 = .ok (.iload 4, 2) := by decide +kernel
theorem dX6_isLine_429 : decode cX6_isLine 429 = .ok (.iconst 1, 1) := by decide +kernel
theorem dX6_isLine_430 : decode cX6_isLine 430 = .ok (.if_icmp .ne 7, 3) := by decide +kernel
theorem dX6_isLine_433 : decode cX6_isLine 433 = .ok (.iconst 0, 1) := by decide +kernel
theorem dX6_isLine_434 : decode cX6_isLine 434 = .ok (.goto 4, 3) := by decide +kernel
theorem dX6_isLine_437 : decode cX6_isLine 437 = .ok (.iconst 1, 1) := by decide +kernel
theorem dX6_isLine_438 : decode cX6_isLine 438 = .ok (.iaload, 1) := by decide +kernel
theorem dX6_isLine_439 : decode cX6_isLine 439 = .ok (.if_icmp .gt 7, 3) := by decide +kernel
theorem dX6_isLine_442 : decode cX6_isLine 442 = .ok (.iconst 1, 1) := by decide +kernel
theorem dX6_isLine_443 : decode cX6_isLine 443 = .ok (.goto 4, 3) := by decide +kernel
theorem dX6_isLine_446 : decode cX6_isLine 446 = .ok (.iconst 0, 1) := by decide +kernel
theorem dX6_isLine_447 : decode cX6_isLine 447 = .ok (.ireturn, 1) := by decide +kernel
theorem dX6_index_0 : decode cX6_index 0 = .ok (.iload_n 0, 1) := by decide +kernel
theorem dX6_index_1 : decode cX6_index 1 = .ok (.iconst 1, 1) := by decide +kernel
theorem dX6_index_2 : decode cX6_index 2 = .ok (.iadd, 1) := by decide +kernel
theorem dX6_index_3 : decode cX6_index 3 = .ok (.bipush 51, 2) := by decide +kernel
theorem dX6_index_5 : decode cX6_index 5 = .ok (.imul, 1) := by decide +kernel
theorem dX6_index_6 : decode cX6_index 6 = .ok (.iload_n 1, 1) := by decide +kernel
theorem dX6_index_7 : decode cX6_index 7 = .ok (.iadd, 1) := by decide +kernel
theorem dX6_index_8 : decode cX6_index 8 = .ok (.iconst 4, 1) := by decide +kernel
theorem dX6_index_9 : decode cX6_index 9 = .ok (.imul, 1) := by decide +kernel
theorem dX6_index_10 : decode cX6_index 10 = .ok (.iload_n 2, 1) := by decide +kernel
theorem dX6_index_11 : decode cX6_index 11 = .ok (.iadd, 1) := by decide +kernel
theorem dX6_index_12 : decode cX6_index 12 = .ok (.ireturn, 1) := by decide +kernel
set_option maxRecDepth 20000 in
theorem ggX6_goFrom_X6_mustBreak : GoodIn wsX6_goFrom wsX6_mustBreak := goodIn_r _ [14, 1, 6, 15, 48, 49, 50, 51, 52, 53, 54, 55, 56, 57, 58, 59, 60, 61, 62, 63, 64, 65, 66, 67, 68, 69, 70, 71, 72, 73] (by decide +kernel) (by decide +kernel)
set_option maxRecDepth 20000 in
theorem gX6_goFrom_X6_mustBreak : GoodIn wsX6_goFrom (wsV RX6 116 RX6 yX6_mustBreak wsX6_mustBreak) := goodIn_app (goodIn_of _ (by decide +kernel)) ggX6_goFrom_X6_mustBreak
set_option maxRecDepth 20000 in
theorem ggX6_goFrom_X6_mayBreak : GoodIn wsX6_goFrom wsX6_mayBreak := goodIn_r _ [19, 1, 6, 15, 7, 48, 49, 50, 51, 52, 53, 54, 55, 56, 57, 58, 59, 60, 61, 62, 63, 64, 65, 66, 67, 68, 69, 70, 71, 72, 73] (by decide +kernel) (by decide +kernel)
set_option maxRecDepth 20000 in
theorem gX6_goFrom_X6_mayBreak : GoodIn wsX6_goFrom (wsV RX6 108 RX6 yX6_mayBreak wsX6_mayBreak) := goodIn_app (goodIn_of _ (by decide +kernel)) ggX6_goFrom_X6_mayBreak
set_option maxRecDepth 20000 in
theorem ggX6_goFrom_X6_isLine : GoodIn wsX6_goFrom wsX6_isLine := goodIn_r _ [23, 6, 1, 24, 25, 26, 27, 28, 29, 30, 31, 2, 32, 33, 34, 35, 36, 4, 15, 37, 38, 13, 39, 48, 49, 50, 51, 52, 53, 54, 55, 56, 57, 58, 59, 60, 61, 62, 63, 64, 65, 66, 67, 68, 69, 70, 71, 72, 73] (by decide +kernel) (by decide +kernel)
set_option maxRecDepth 20000 in
theorem gX6_goFrom_X6_isLine : GoodIn wsX6_goFrom (wsV RX6 120 RX6 yX6_isLine wsX6_isLine) := goodIn_app (goodIn_of _ (by decide +kernel)) ggX6_goFrom_X6_isLine
set_option maxRecDepth 20000 in
theorem ggX6_goFrom_X6_index : GoodIn wsX6_goFrom wsX6_index := goodIn_r _ [42] (by decide +kernel) (by decide +kernel)
set_option maxRecDepth 20000 in
theorem gX6_goFrom_X6_index : GoodIn wsX6_goFrom (va_wsS RX6 124 yX6_index wsX6_index) := goodIn_app (goodIn_of _ (by decide +kernel)) ggX6_goFrom_X6_index
set_option maxRecDepth 20000 in
theorem ggX6_goFrom_X6_keep : GoodIn wsX6_goFrom wsX6_keep := goodIn_r _ [46, 3, 5, 47, 48, 49, 50, 51, 52, 53, 54, 55, 56, 57, 58, 59, 60, 61, 62, 63, 64, 65, 66, 67, 68, 69, 70, 71, 72, 73] (by decide +kernel) (by decide +kernel)
set_option maxRecDepth 20000 in
theorem gX6_goFrom_X6_keep : GoodIn wsX6_goFrom (wsV RX6 132 RX6 yX6_keep wsX6_keep) := goodIn_app (goodIn_of _ (by decide +kernel)) ggX6_goFrom_X6_keep
theorem dX6_goFrom_0 : decode cX6_goFrom 0 = .ok (.iconst 1, 1) := by decide +kernel
theorem dX6_goFrom_1 : decode cX6_goFrom 1 = .ok (.istore 6, 2) := by decide +kernel
theorem dX6_goFrom_3 : decode cX6_goFrom 3 = .ok (.iload_n 1, 1) := by decide +kernel
theorem dX6_goFrom_4 : decode cX6_goFrom 4 = .ok (.iconst 1, 1) := by decide +kernel
theorem dX6_goFrom_5 : decode cX6_goFrom 5 = .ok (.iadd, 1) := by decide +kernel
theorem dX6_goFrom_6 : decode cX6_goFrom 6 = .ok (.istore 7, 2) := by decide +kernel
theorem dX6_goFrom_8 : decode cX6_goFrom 8 = .ok (.iload 7, 2) := by decide +kernel
theorem dX6_goFrom_10 : decode cX6_goFrom 10 = .ok (.aload_n 0, 1) := by decide +kernel
theorem dX6_goFrom_11 : decode cX6_goFrom 11 = .ok (.getfield 66, 3) := by decide +kernel
theorem dX6_goFrom_14 : decode cX6_goFrom 14 = .ok (.if_icmp .gt 351, 3) := by decide +kernel
theorem dX6_goFrom_17 : decode cX6_goFrom 17 = .ok (.iload 6, 2) := by decide +kernel
theorem dX6_goFrom_19 : decode cX6_goFrom 19 = .ok (.ifCond .eq 346, 3) := by decide +kernel
theorem dX6_goFrom_22 : decode cX6_goFrom 22 = .ok (.aload_n 0, 1) := by decide +kernel
theorem dX6_goFrom_23 : decode cX6_goFrom 23 = .ok (.iload 7, 2) := by decide +kernel
theorem dX6_goFrom_25 : decode cX6_goFrom 25 = .ok (.invokevirtual 116, 3) := by decide +kernel
theorem dX6_goFrom_28 : decode cX6_goFrom 28 = .ok (.ifCond .ne 7, 3) := by decide +kernel
theorem dX6_goFrom_31 : decode cX6_goFrom 31 = .ok (.iconst 1, 1) := by decide +kernel
theorem dX6_goFrom_32 : decode cX6_goFrom 32 = .ok (.goto 4, 3) := by decide +kernel
theorem dX6_goFrom_35 : decode cX6_goFrom 35 = .ok (.iconst 0, 1) := by decide +kernel
theorem dX6_goFrom_36 : decode cX6_goFrom 36 = .ok (.istore 6, 2) := by decide +kernel
theorem dX6_goFrom_38 : decode cX6_goFrom 38 = .ok (.iload 7, 2) := by decide +kernel
theorem dX6_goFrom_40 : decode cX6_goFrom 40 = .ok (.aload_n 0, 1) := by decide +kernel
theorem dX6_goFrom_41 : decode cX6_goFrom 41 = .ok (.getfield 66, 3) := by decide +kernel
theorem dX6_goFrom_44 : decode cX6_goFrom 44 = .ok (.if_icmp .ne 7, 3) := by decide +kernel
theorem dX6_goFrom_47 : decode cX6_goFrom 47 = .ok (.iconst 1, 1) := by decide +kernel
theorem dX6_goFrom_48 : decode cX6_goFrom 48 = .ok (.goto 4, 3) := by decide +kernel
theorem dX6_goFrom_51 : decode cX6_goFrom 51 = .ok (.iconst 0, 1) := by decide +kernel
theorem dX6_goFrom_52 : decode cX6_goFrom 52 = .ok (.istore 8, 2) := by decide +kernel
theorem dX6_goFrom_54 : decode cX6_goFrom 54 = .ok (.iload 8, 2) := by decide +kernel
theorem dX6_goFrom_56 : decode cX6_goFrom 56 = .ok (.ifCond .eq 24, 3) := by decide +kernel
theorem dX6_goFrom_59 : decode cX6_goFrom 59 = .ok (.iload 4, 2) := by decide +kernel
theorem dX6_goFrom_61 : decode cX6_goFrom 61 = .ok (.ifCond .eq 11, 3) := by decide +kernel
theorem dX6_goFrom_64 : decode cX6_goFrom 64 = .ok (.iload_n 2, 1) := by decide +kernel
theorem dX6_goFrom_65 : decode cX6_goFrom 65 = .ok (.iload 4, 2) := by decide +kernel
theorem dX6_goFrom_67 : decode cX6_goFrom 67 = .ok (.iconst 1, 1) := by decide +kernel
theorem dX6_goFrom_68 : decode cX6_goFrom 68 = .ok (.isub, 1) := by decide +kernel
theorem dX6_goFrom_69 : decode cX6_goFrom 69 = .ok (.if_icmp .ne 7, 3) := by decide +kernel
theorem dX6_goFrom_72 : decode cX6_goFrom 72 = .ok (.iconst 1, 1) := by decide +kernel
theorem dX6_goFrom_73 : decode cX6_goFrom 73 = .ok (.goto 20, 3) := by decide +kernel
theorem dX6_goFrom_76 : decode cX6_goFrom 76 = .ok (.iconst 0, 1) := by decide +kernel
theorem dX6_goFrom_77 : decode cX6_goFrom 77 = .ok (.goto 16, 3) := by decide +kernel
theorem dX6_goFrom_80 : decode cX6_goFrom 80 = .ok (.iload_n 2, 1) := by decide +kernel
theorem dX6_goFrom_81 : decode cX6_goFrom 81 = .ok (.iconst 1, 1) := by decide +kernel
theorem dX6_goFrom_82 : decode cX6_goFrom 82 = .ok (.iadd, 1) := by decide +kernel
theorem dX6_goFrom_83 : decode cX6_goFrom 83 = .ok (.iload 5, 2) := by decide +kernel
theorem dX6_goFrom_85 : decode cX6_goFrom 85 = .ok (.if_icmp .ge 7, 3) := by decide +kernel
theorem dX6_goFrom_88 : decode cX6_goFrom 88 = .ok (.iconst 1, 1) := by decide +kernel
theorem dX6_goFrom_89 : decode cX6_goFrom 89 = .ok (.goto 4, 3) := by decide +kernel
theorem dX6_goFrom_92 : decode cX6_goFrom 92 = .ok (.iconst 0, 1) := by decide +kernel
theorem dX6_goFrom_93 : decode cX6_goFrom 93 = .ok (.istore 9, 2) := by decide +kernel
theorem dX6_goFrom_95 : decode cX6_goFrom 95 = .ok (.iload 9, 2) := by decide +kernel
theorem dX6_goFrom_97 : decode cX6_goFrom 97 = .ok (.ifCond .eq 262, 3) := by decide +kernel
theorem dX6_goFrom_100 : decode cX6_goFrom 100 = .ok (.aload_n 0, 1) := by decide +kernel
theorem dX6_goFrom_101 : decode cX6_goFrom 101 = .ok (.iload 7, 2) := by decide +kernel
theorem dX6_goFrom_103 : decode cX6_goFrom 103 = .ok (.iload_n 3, 1) := by decide +kernel
theorem dX6_goFrom_104 : decode cX6_goFrom 104 = .ok (.invokevirtual 108, 3) := by decide +kernel
theorem dX6_goFrom_107 : decode cX6_goFrom 107 = .ok (.ifCond .eq 252, 3) := by decide +kernel
theorem dX6_goFrom_110 : decode cX6_goFrom 110 = .ok (.aload_n 0, 1) := by decide +kernel
theorem dX6_goFrom_111 : decode cX6_goFrom 111 = .ok (.iload_n 1, 1) := by decide +kernel
theorem dX6_goFrom_112 : decode cX6_goFrom 112 = .ok (.iload 7, 2) := by decide +kernel
theorem dX6_goFrom_114 : decode cX6_goFrom 114 = .ok (.iload_n 2, 1) := by decide +kernel
theorem dX6_goFrom_115 : decode cX6_goFrom 115 = .ok (.iload_n 3, 1) := by decide +kernel
theorem dX6_goFrom_116 : decode cX6_goFrom 116 = .ok (.invokevirtual 120, 3) := by decide +kernel
theorem dX6_goFrom_119 : decode cX6_goFrom 119 = .ok (.ifCond .ne 6, 3) := by decide +kernel
theorem dX6_goFrom_122 : decode cX6_goFrom 122 = .ok (.goto 237, 3) := by decide +kernel
theorem dX6_goFrom_125 : decode cX6_goFrom 125 = .ok (.iload 8, 2) := by decide +kernel
theorem dX6_goFrom_127 : decode cX6_goFrom 127 = .ok (.ifCond .eq 7, 3) := by decide +kernel
theorem dX6_goFrom_130 : decode cX6_goFrom 130 = .ok (.iconst 0, 1) := by decide +kernel
theorem dX6_goFrom_131 : decode cX6_goFrom 131 = .ok (.goto 15, 3) := by decide +kernel
theorem dX6_goFrom_134 : decode cX6_goFrom 134 = .ok (.iload 7, 2) := by decide +kernel
theorem dX6_goFrom_136 : decode cX6_goFrom 136 = .ok (.iload_n 2, 1) := by decide +kernel
theorem dX6_goFrom_137 : decode cX6_goFrom 137 = .ok (.iconst 1, 1) := by decide +kernel
theorem dX6_goFrom_138 : decode cX6_goFrom 138 = .ok (.iadd, 1) := by decide +kernel
theorem dX6_goFrom_139 : decode cX6_goFrom 139 = .ok (.aload_n 0, 1) := by decide +kernel
theorem dX6_goFrom_140 : decode cX6_goFrom 140 = .ok (.getfield 84, 3) := by decide +kernel
theorem dX6_goFrom_143 : decode cX6_goFrom 143 = .ok (.invokestatic 124, 3) := by decide +kernel
theorem dX6_goFrom_146 : decode cX6_goFrom 146 = .ok (.istore 10, 2) := by decide +kernel
theorem dX6_goFrom_148 : decode cX6_goFrom 148 = .ok (.iload 8, 2) := by decide +kernel
theorem dX6_goFrom_150 : decode cX6_goFrom 150 = .ok (.ifCond .ne 16, 3) := by decide +kernel
theorem dX6_goFrom_153 : decode cX6_goFrom 153 = .ok (.aload_n 0, 1) := by decide +kernel
theorem dX6_goFrom_154 : decode cX6_goFrom 154 = .ok (.getfield 48, 3) := by decide +kernel
theorem dX6_goFrom_157 : decode cX6_goFrom 157 = .ok (.iload 10, 2) := by decide +kernel
theorem dX6_goFrom_159 : decode cX6_goFrom 159 = .ok (.iaload, 1) := by decide +kernel
theorem dX6_goFrom_160 : decode cX6_goFrom 160 = .ok (.ifCond .ne 6, 3) := by decide +kernel
theorem dX6_goFrom_163 : decode cX6_goFrom 163 = .ok (.goto 196, 3) := by decide +kernel
theorem dX6_goFrom_166 : decode cX6_goFrom 166 = .ok (.aload_n 0, 1) := by decide +kernel
theorem dX6_goFrom_167 : decode cX6_goFrom 167 = .ok (.getfield 101, 3) := by decide +kernel
theorem dX6_goFrom_170 : decode cX6_goFrom 170 = .ok (.iload 8, 2) := by decide +kernel
theorem dX6_goFrom_172 : decode cX6_goFrom 172 = .ok (.ifCond .eq 7, 3) := by decide +kernel
theorem dX6_goFrom_175 : decode cX6_goFrom 175 = .ok (.lconst 0, 1) := by decide +kernel
theorem dX6_goFrom_176 : decode cX6_goFrom 176 = .ok (.goto 10, 3) := by decide +kernel
theorem dX6_goFrom_179 : decode cX6_goFrom 179 = .ok (.aload_n 0, 1) := by decide +kernel
theorem dX6_goFrom_180 : decode cX6_goFrom 180 = .ok (.getfield 44, 3) := by decide +kernel
theorem dX6_goFrom_183 : decode cX6_goFrom 183 = .ok (.iload 10, 2) := by decide +kernel
theorem dX6_goFrom_185 : decode cX6_goFrom 185 = .ok (.laload, 1) := by decide +kernel
theorem dX6_goFrom_186 : decode cX6_goFrom 186 = .ok (.ladd, 1) := by decide +kernel
theorem dX6_goFrom_187 : decode cX6_goFrom 187 = .ok (.lstore 11, 2) := by decide +kernel
theorem dX6_goFrom_189 : decode cX6_goFrom 189 = .ok (.iconst 1, 1) := by decide +kernel
theorem dX6_goFrom_190 : decode cX6_goFrom 190 = .ok (.iload 8, 2) := by decide +kernel
theorem dX6_goFrom_192 : decode cX6_goFrom 192 = .ok (.ifCond .eq 7, 3) := by decide +kernel
theorem dX6_goFrom_195 : decode cX6_goFrom 195 = .ok (.iconst 0, 1) := by decide +kernel
theorem dX6_goFrom_196 : decode cX6_goFrom 196 = .ok (.goto 10, 3) := by decide +kernel
theorem dX6_goFrom_199 : decode cX6_goFrom 199 = .ok (.aload_n 0, 1) := by decide +kernel
theorem dX6_goFrom_200 : decode cX6_goFrom 200 = .ok (.getfield 48, 3) := by decide +kernel
theorem dX6_goFrom_203 : decode cX6_goFrom 203 = .ok (.iload 10, 2) := by decide +kernel
theorem dX6_goFrom_205 : decode cX6_goFrom 205 = .ok (.iaload, 1) := by decide +kernel
theorem dX6_goFrom_206 : decode cX6_goFrom 206 = .ok (.iadd, 1) := by decide +kernel
theorem dX6_goFrom_207 : decode cX6_goFrom 207 = .ok (.istore 13, 2) := by decide +kernel
theorem dX6_goFrom_209 : decode cX6_goFrom 209 = .ok (.iload_n 1, 1) := by decide +kernel
theorem dX6_goFrom_210 : decode cX6_goFrom 210 = .ok (.ifCond .lt 52, 3) := by decide +kernel
theorem dX6_goFrom_213 : decode cX6_goFrom 213 = .ok (.iload 8, 2) := by decide +kernel
theorem dX6_goFrom_215 : decode cX6_goFrom 215 = .ok (.ifCond .ne 47, 3) := by decide +kernel
theorem dX6_goFrom_218 : decode cX6_goFrom 218 = .ok (.aload_n 0, 1) := by decide +kernel
theorem dX6_goFrom_219 : decode cX6_goFrom 219 = .ok (.getfield 7, 3) := by decide +kernel
theorem dX6_goFrom_222 : decode cX6_goFrom 222 = .ok (.iload_n 1, 1) := by decide +kernel
theorem dX6_goFrom_223 : decode cX6_goFrom 223 = .ok (.iaload, 1) := by decide +kernel
theorem dX6_goFrom_224 : decode cX6_goFrom 224 = .ok (.iconst 2, 1) := by decide +kernel
theorem dX6_goFrom_225 : decode cX6_goFrom 225 = .ok (.if_icmp .ne 37, 3) := by decide +kernel
theorem dX6_goFrom_228 : decode cX6_goFrom 228 = .ok (.aload_n 0, 1) := by decide +kernel
theorem dX6_goFrom_229 : decode cX6_goFrom 229 = .ok (.getfield 7, 3) := by decide +kernel
theorem dX6_goFrom_232 : decode cX6_goFrom 232 = .ok (.iload 7, 2) := by decide +kernel
theorem dX6_goFrom_234 : decode cX6_goFrom 234 = .ok (.iaload, 1) := by decide +kernel
theorem dX6_goFrom_235 : decode cX6_goFrom 235 = .ok (.iconst 2, 1) := by decide +kernel
theorem dX6_goFrom_236 : decode cX6_goFrom 236 = .ok (.if_icmp .ne 26, 3) := by decide +kernel
theorem dX6_goFrom_239 : decode cX6_goFrom 239 = .ok (.aload_n 0, 1) := by decide +kernel
theorem dX6_goFrom_240 : decode cX6_goFrom 240 = .ok (.getfield 25, 3) := by decide +kernel
theorem dX6_goFrom_243 : decode cX6_goFrom 243 = .ok (.iload_n 1, 1) := by decide +kernel
theorem dX6_goFrom_244 : decode cX6_goFrom 244 = .ok (.baload, 1) := by decide +kernel
theorem dX6_goFrom_245 : decode cX6_goFrom 245 = .ok (.ifCond .eq 17, 3) := by decide +kernel
theorem dX6_goFrom_248 : decode cX6_goFrom 248 = .ok (.aload_n 0, 1) := by decide +kernel
theorem dX6_goFrom_249 : decode cX6_goFrom 249 = .ok (.getfield 25, 3) := by decide +kernel
theorem dX6_goFrom_252 : decode cX6_goFrom 252 = .ok (.iload 7, 2) := by decide +kernel
theorem dX6_goFrom_254 : decode cX6_goFrom 254 = .ok (.baload, 1) := by decide +kernel
theorem dX6_goFrom_255 : decode cX6_goFrom 255 = .ok (.ifCond .eq 7, 3) := by decide +kernel
theorem dX6_goFrom_258 : decode cX6_goFrom 258 = .ok (.iconst 1, 1) := by decide +kernel
theorem dX6_goFrom_259 : decode cX6_goFrom 259 = .ok (.goto 4, 3) := by decide +kernel
theorem dX6_goFrom_262 : decode cX6_goFrom 262 = .ok (.iconst 0, 1) := by decide +kernel
theorem dX6_goFrom_263 : decode cX6_goFrom 263 = .ok (.istore 14, 2) := by decide +kernel
theorem dX6_goFrom_265 : decode cX6_goFrom 265 = .ok (.lload 11, 2) := by decide +kernel
theorem dX6_goFrom_267 : decode cX6_goFrom 267 = .ok (.iload 14, 2) := by decide +kernel
theorem dX6_goFrom_269 : decode cX6_goFrom 269 = .ok (.ifCond .eq 9, 3) := by decide +kernel
theorem dX6_goFrom_272 : decode cX6_goFrom 272 = .ok (.ldc2_w 128, 3) := by decide +kernel
theorem dX6_goFrom_275 : decode cX6_goFrom 275 = .ok (.goto 4, 3) := by decide +kernel
theorem dX6_goFrom_278 : decode cX6_goFrom 278 = .ok (.lconst 0, 1) := by decide +kernel
theorem dX6_goFrom_279 : decode cX6_goFrom 279 = .ok (.ladd, 1) := by decide +kernel
theorem dX6_goFrom_280 : decode cX6_goFrom 280 = .ok (.lstore 11, 2) := by decide +kernel
theorem dX6_goFrom_282 : decode cX6_goFrom 282 = .ok (.iconst 0, 1) := by decide +kernel
theorem dX6_goFrom_283 : decode cX6_goFrom 283 = .ok (.istore 15, 2) := by decide +kernel
theorem dX6_goFrom_285 : decode cX6_goFrom 285 = .ok (.iload 15, 2) := by decide +kernel
theorem dX6_goFrom_287 : decode cX6_goFrom 287 = .ok (.iconst 4, 1) := by decide +kernel
theorem dX6_goFrom_288 : decode cX6_goFrom 288 = .ok (.if_icmp .ge 71, 3) := by decide +kernel
theorem dX6_goFrom_291 : decode cX6_goFrom 291 = .ok (.aload_n 0, 1) := by decide +kernel
theorem dX6_goFrom_292 : decode cX6_goFrom 292 = .ok (.getfield 84, 3) := by decide +kernel
theorem dX6_goFrom_295 : decode cX6_goFrom 295 = .ok (.iload 15, 2) := by decide +kernel
theorem dX6_goFrom_297 : decode cX6_goFrom 297 = .ok (.isub, 1) := by decide +kernel
theorem dX6_goFrom_298 : decode cX6_goFrom 298 = .ok (.istore 16, 2) := by decide +kernel
theorem dX6_goFrom_300 : decode cX6_goFrom 300 = .ok (.iload_n 1, 1) := by decide +kernel
theorem dX6_goFrom_301 : decode cX6_goFrom 301 = .ok (.ifCond .lt 19, 3) := by decide +kernel
theorem dX6_goFrom_304 : decode cX6_goFrom 304 = .ok (.iload 16, 2) := by decide +kernel
theorem dX6_goFrom_306 : decode cX6_goFrom 306 = .ok (.iconst 1, 1) := by decide +kernel
theorem dX6_goFrom_307 : decode cX6_goFrom 307 = .ok (.if_icmp .gt 9, 3) := by decide +kernel
theorem dX6_goFrom_310 : decode cX6_goFrom 310 = .ok (.iload 16, 2) := by decide +kernel
theorem dX6_goFrom_312 : decode cX6_goFrom 312 = .ok (.iconst (-1), 1) := by decide +kernel
theorem dX6_goFrom_313 : decode cX6_goFrom 313 = .ok (.if_icmp .ge 7, 3) := by decide +kernel
theorem dX6_goFrom_316 : decode cX6_goFrom 316 = .ok (.iconst 1, 1) := by decide +kernel
theorem dX6_goFrom_317 : decode cX6_goFrom 317 = .ok (.goto 4, 3) := by decide +kernel
theorem dX6_goFrom_320 : decode cX6_goFrom 320 = .ok (.iconst 0, 1) := by decide +kernel
theorem dX6_goFrom_321 : decode cX6_goFrom 321 = .ok (.istore 17, 2) := by decide +kernel
theorem dX6_goFrom_323 : decode cX6_goFrom 323 = .ok (.aload_n 0, 1) := by decide +kernel
theorem dX6_goFrom_324 : decode cX6_goFrom 324 = .ok (.iload_n 1, 1) := by decide +kernel
theorem dX6_goFrom_325 : decode cX6_goFrom 325 = .ok (.iload_n 2, 1) := by decide +kernel
theorem dX6_goFrom_326 : decode cX6_goFrom 326 = .ok (.iload 15, 2) := by decide +kernel
theorem dX6_goFrom_328 : decode cX6_goFrom 328 = .ok (.invokestatic 124, 3) := by decide +kernel
theorem dX6_goFrom_331 : decode cX6_goFrom 331 = .ok (.lload 11, 2) := by decide +kernel
theorem dX6_goFrom_333 : decode cX6_goFrom 333 = .ok (.iload 17, 2) := by decide +kernel
theorem dX6_goFrom_335 : decode cX6_goFrom 335 = .ok (.ifCond .eq 9, 3) := by decide +kernel
theorem dX6_goFrom_338 : decode cX6_goFrom 338 = .ok (.ldc2_w 130, 3) := by decide +kernel
theorem dX6_goFrom_341 : decode cX6_goFrom 341 = .ok (.goto 4, 3) := by decide +kernel
theorem dX6_goFrom_344 : decode cX6_goFrom 344 = .ok (.lconst 0, 1) := by decide +kernel
theorem dX6_goFrom_345 : decode cX6_goFrom 345 = .ok (.ladd, 1) := by decide +kernel
theorem dX6_goFrom_346 : decode cX6_goFrom 346 = .ok (.iload 13, 2) := by decide +kernel
theorem dX6_goFrom_348 : decode cX6_goFrom 348 = .ok (.iload 7, 2) := by decide +kernel
theorem dX6_goFrom_350 : decode cX6_goFrom 350 = .ok (.invokevirtual 132, 3) := by decide +kernel
theorem dX6_goFrom_353 : decode cX6_goFrom 353 = .ok (.iinc 15 1, 3) := by decide +kernel
theorem dX6_goFrom_356 : decode cX6_goFrom 356 = .ok (.goto (-71), 3) := by decide +kernel
theorem dX6_goFrom_359 : decode cX6_goFrom 359 = .ok (.iinc 7 1, 3) := by decide +kernel
theorem dX6_goFrom_362 : decode cX6_goFrom 362 = .ok (.goto (-354), 3) := by decide +kernel
theorem dX6_goFrom_365 : decode cX6_goFrom 365 = .ok (.return_, 1) := by decide +kernel
theorem dX6_keep_0 : decode cX6_keep 0 = .ok (.aload_n 0, 1) := by decide +kernel
theorem dX6_keep_1 : decode cX6_keep 1 = .ok (.getfield 48, 3) := by decide +kernel
theorem dX6_keep_4 : decode cX6_keep 4 = .ok (.iload_n 1, 1) := by decide +kernel
theorem dX6_keep_5 : decode cX6_keep 5 = .ok (.iaload, 1) := by decide +kernel
theorem dX6_keep_6 : decode cX6_keep 6 = .ok (.ifCond .eq 36, 3) := by decide +kernel
theorem dX6_keep_9 : decode cX6_keep 9 = .ok (.lload_n 2, 1) := by decide +kernel
theorem dX6_keep_10 : decode cX6_keep 10 = .ok (.aload_n 0, 1) := by decide +kernel
theorem dX6_keep_11 : decode cX6_keep 11 = .ok (.getfield 44, 3) := by decide +kernel
theorem dX6_keep_14 : decode cX6_keep 14 = .ok (.iload_n 1, 1) := by decide +kernel
theorem dX6_keep_15 : decode cX6_keep 15 = .ok (.laload, 1) := by decide +kernel
theorem dX6_keep_16 : decode cX6_keep 16 = .ok (.lcmp, 1) := by decide +kernel
theorem dX6_keep_17 : decode cX6_keep 17 = .ok (.ifCond .lt 25, 3) := by decide +kernel
theorem dX6_keep_20 : decode cX6_keep 20 = .ok (.lload_n 2, 1) := by decide +kernel
theorem dX6_keep_21 : decode cX6_keep 21 = .ok (.aload_n 0, 1) := by decide +kernel
theorem dX6_keep_22 : decode cX6_keep 22 = .ok (.getfield 44, 3) := by decide +kernel
theorem dX6_keep_25 : decode cX6_keep 25 = .ok (.iload_n 1, 1) := by decide +kernel
theorem dX6_keep_26 : decode cX6_keep 26 = .ok (.laload, 1) := by decide +kernel
theorem dX6_keep_27 : decode cX6_keep 27 = .ok (.lcmp, 1) := by decide +kernel
theorem dX6_keep_28 : decode cX6_keep 28 = .ok (.ifCond .ne 18, 3) := by decide +kernel
theorem dX6_keep_31 : decode cX6_keep 31 = .ok (.iload 4, 2) := by decide +kernel
theorem dX6_keep_33 : decode cX6_keep 33 = .ok (.aload_n 0, 1) := by decide +kernel
theorem dX6_keep_34 : decode cX6_keep 34 = .ok (.getfield 48, 3) := by decide +kernel
theorem dX6_keep_37 : decode cX6_keep 37 = .ok (.iload_n 1, 1) := by decide +kernel
theorem dX6_keep_38 : decode cX6_keep 38 = .ok (.iaload, 1) := by decide +kernel
theorem dX6_keep_39 : decode cX6_keep 39 = .ok (.if_icmp .ge 7, 3) := by decide +kernel
theorem dX6_keep_42 : decode cX6_keep 42 = .ok (.iconst 1, 1) := by decide +kernel
theorem dX6_keep_43 : decode cX6_keep 43 = .ok (.goto 4, 3) := by decide +kernel
theorem dX6_keep_46 : decode cX6_keep 46 = .ok (.iconst 0, 1) := by decide +kernel
theorem dX6_keep_47 : decode cX6_keep 47 = .ok (.istore 6, 2) := by decide +kernel
theorem dX6_keep_49 : decode cX6_keep 49 = .ok (.iload 6, 2) := by decide +kernel
theorem dX6_keep_51 : decode cX6_keep 51 = .ok (.ifCond .eq 26, 3) := by decide +kernel
theorem dX6_keep_54 : decode cX6_keep 54 = .ok (.aload_n 0, 1) := by decide +kernel
theorem dX6_keep_55 : decode cX6_keep 55 = .ok (.getfield 44, 3) := by decide +kernel
theorem dX6_keep_58 : decode cX6_keep 58 = .ok (.iload_n 1, 1) := by decide +kernel
theorem dX6_keep_59 : decode cX6_keep 59 = .ok (.lload_n 2, 1) := by decide +kernel
theorem dX6_keep_60 : decode cX6_keep 60 = .ok (.lastore, 1) := by decide +kernel
theorem dX6_keep_61 : decode cX6_keep 61 = .ok (.aload_n 0, 1) := by decide +kernel
theorem dX6_keep_62 : decode cX6_keep 62 = .ok (.getfield 48, 3) := by decide +kernel
theorem dX6_keep_65 : decode cX6_keep 65 = .ok (.iload_n 1, 1) := by decide +kernel
theorem dX6_keep_66 : decode cX6_keep 66 = .ok (.iload 4, 2) := by decide +kernel
theorem dX6_keep_68 : decode cX6_keep 68 = .ok (.iastore, 1) := by decide +kernel
theorem dX6_keep_69 : decode cX6_keep 69 = .ok (.aload_n 0, 1) := by decide +kernel
theorem dX6_keep_70 : decode cX6_keep 70 = .ok (.getfield 51, 3) := by decide +kernel
theorem dX6_keep_73 : decode cX6_keep 73 = .ok (.iload_n 1, 1) := by decide +kernel
theorem dX6_keep_74 : decode cX6_keep 74 = .ok (.iload 5, 2) := by decide +kernel
theorem dX6_keep_76 : decode cX6_keep 76 = .ok (.iastore, 1) := by decide +kernel
theorem dX6_keep_77 : decode cX6_keep 77 = .ok (.return_, 1) := by decide +kernel
end
section
set_option maxRecDepth 20000 in
theorem ggX6_search_X6_sumUp : GoodIn wsX6_search wsX6_sumUp := goodIn_r _ [7, 2, 8, 9, 10, 11, 12, 13, 14, 58, 59, 60, 61, 62, 63, 64, 65, 66, 67, 68, 69, 70, 71, 72, 73, 74, 75, 76, 77, 78, 79, 80, 81, 82, 83] (by decide +kernel) (by decide +kernel)
set_option maxRecDepth 20000 in
theorem gX6_search_X6_sumUp : GoodIn wsX6_search (wsV RX6 105 RX6 yX6_sumUp wsX6_sumUp) := goodIn_app (goodIn_of _ (by decide +kernel)) ggX6_search_X6_sumUp
set_option maxRecDepth 20000 in
theorem ggX6_search_X6_mayBreak : GoodIn wsX6_search wsX6_mayBreak := goodIn_r _ [18, 2, 8, 19, 20, 58, 59, 60, 61, 62, 63, 64, 65, 66, 67, 68, 69, 70, 71, 72, 73, 74, 75, 76, 77, 78, 79, 80, 81, 82, 83] (by decide +kernel) (by decide +kernel)
set_option maxRecDepth 20000 in
theorem gX6_search_X6_mayBreak : GoodIn wsX6_search (wsV RX6 108 RX6 yX6_mayBreak wsX6_mayBreak) := goodIn_app (goodIn_of _ (by decide +kernel)) ggX6_search_X6_mayBreak
set_option maxRecDepth 20000 in
theorem ggX6_search_X6_goFrom : GoodIn wsX6_search wsX6_goFrom := goodIn_r _ [24, 2, 25, 1, 26, 27, 8, 20, 28, 29, 30, 31, 32, 6, 33, 19, 15, 16, 17, 18, 34, 35, 36, 37, 9, 10, 38, 39, 13, 11, 40, 41, 42, 43, 44, 45, 46, 47, 48, 49, 50, 51, 52, 53, 54, 55, 56, 57, 58, 59, 60, 61, 62, 63, 64, 65, 66, 67, 68, 69, 70, 71, 72, 73, 74, 75, 76, 77, 78, 79, 80, 81, 82, 83] (by decide +kernel) (by decide +kernel)
set_option maxRecDepth 20000 in
theorem gX6_search_X6_goFrom : GoodIn wsX6_search (wsV RX6 112 RX6 yX6_goFrom wsX6_goFrom) := goodIn_app (goodIn_of _ (by decide +kernel)) ggX6_search_X6_goFrom
theorem dX6_search_0 : decode cX6_search 0 = .ok (.aload_n 0, 1) := by decide +kernel
theorem dX6_search_1 : decode cX6_search 1 = .ok (.invokevirtual 105, 3) := by decide +kernel
theorem dX6_search_4 : decode cX6_search 4 = .ok (.iconst 0, 1) := by decide +kernel
theorem dX6_search_5 : decode cX6_search 5 = .ok (.istore_n 3, 1) := by decide +kernel
theorem dX6_search_6 : decode cX6_search 6 = .ok (.iload_n 3, 1) := by decide +kernel
theorem dX6_search_7 : decode cX6_search 7 = .ok (.sipush 20604, 3) := by decide +kernel
theorem dX6_search_10 : decode cX6_search 10 = .ok (.if_icmp .ge 16, 3) := by decide +kernel
theorem dX6_search_13 : decode cX6_search 13 = .ok (.aload_n 0, 1) := by decide +kernel
theorem dX6_search_14 : decode cX6_search 14 = .ok (.getfield 48, 3) := by decide +kernel
theorem dX6_search_17 : decode cX6_search 17 = .ok (.iload_n 3, 1) := by decide +kernel
theorem dX6_search_18 : decode cX6_search 18 = .ok (.iconst 0, 1) := by decide +kernel
theorem dX6_search_19 : decode cX6_search 19 = .ok (.iastore, 1) := by decide +kernel
theorem dX6_search_20 : decode cX6_search 20 = .ok (.iinc 3 1, 3) := by decide +kernel
theorem dX6_search_23 : decode cX6_search 23 = .ok (.goto (-17), 3) := by decide +kernel
theorem dX6_search_26 : decode cX6_search 26 = .ok (.iload_n 2, 1) := by decide +kernel
theorem dX6_search_27 : decode cX6_search 27 = .ok (.ifCond .le 7, 3) := by decide +kernel
theorem dX6_search_30 : decode cX6_search 30 = .ok (.iload_n 2, 1) := by decide +kernel
theorem dX6_search_31 : decode cX6_search 31 = .ok (.goto 5, 3) := by decide +kernel
theorem dX6_search_34 : decode cX6_search 34 = .ok (.bipush 50, 2) := by decide +kernel
theorem dX6_search_36 : decode cX6_search 36 = .ok (.istore_n 3, 1) := by decide +kernel
theorem dX6_search_37 : decode cX6_search 37 = .ok (.iload_n 3, 1) := by decide +kernel
theorem dX6_search_38 : decode cX6_search 38 = .ok (.iconst 1, 1) := by decide +kernel
theorem dX6_search_39 : decode cX6_search 39 = .ok (.isub, 1) := by decide +kernel
theorem dX6_search_40 : decode cX6_search 40 = .ok (.istore 4, 2) := by decide +kernel
theorem dX6_search_42 : decode cX6_search 42 = .ok (.iload 4, 2) := by decide +kernel
theorem dX6_search_44 : decode cX6_search 44 = .ok (.ifCond .lt 71, 3) := by decide +kernel
theorem dX6_search_47 : decode cX6_search 47 = .ok (.iload 4, 2) := by decide +kernel
theorem dX6_search_49 : decode cX6_search 49 = .ok (.ifCond .ne 7, 3) := by decide +kernel
theorem dX6_search_52 : decode cX6_search 52 = .ok (.iconst (-1), 1) := by decide +kernel
theorem dX6_search_53 : decode cX6_search 53 = .ok (.goto 4, 3) := by decide +kernel
theorem dX6_search_56 : decode cX6_search 56 = .ok (.iconst 0, 1) := by decide +kernel
theorem dX6_search_57 : decode cX6_search 57 = .ok (.istore 5, 2) := by decide +kernel
theorem dX6_search_59 : decode cX6_search 59 = .ok (.iload 5, 2) := by decide +kernel
theorem dX6_search_61 : decode cX6_search 61 = .ok (.iload 4, 2) := by decide +kernel
theorem dX6_search_63 : decode cX6_search 63 = .ok (.ifCond .ne 7, 3) := by decide +kernel
theorem dX6_search_66 : decode cX6_search 66 = .ok (.iconst 0, 1) := by decide +kernel
theorem dX6_search_67 : decode cX6_search 67 = .ok (.goto 7, 3) := by decide +kernel
theorem dX6_search_70 : decode cX6_search 70 = .ok (.aload_n 0, 1) := by decide +kernel
theorem dX6_search_71 : decode cX6_search 71 = .ok (.getfield 66, 3) := by decide +kernel
theorem dX6_search_74 : decode cX6_search 74 = .ok (.if_icmp .ge 35, 3) := by decide +kernel
theorem dX6_search_77 : decode cX6_search 77 = .ok (.iload 5, 2) := by decide +kernel
theorem dX6_search_79 : decode cX6_search 79 = .ok (.ifCond .lt 13, 3) := by decide +kernel
theorem dX6_search_82 : decode cX6_search 82 = .ok (.aload_n 0, 1) := by decide +kernel
theorem dX6_search_83 : decode cX6_search 83 = .ok (.iload 5, 2) := by decide +kernel
theorem dX6_search_85 : decode cX6_search 85 = .ok (.iload_n 1, 1) := by decide +kernel
theorem dX6_search_86 : decode cX6_search 86 = .ok (.invokevirtual 108, 3) := by decide +kernel
theorem dX6_search_89 : decode cX6_search 89 = .ok (.ifCond .eq 14, 3) := by decide +kernel
theorem dX6_search_92 : decode cX6_search 92 = .ok (.aload_n 0, 1) := by decide +kernel
theorem dX6_search_93 : decode cX6_search 93 = .ok (.iload 5, 2) := by decide +kernel
theorem dX6_search_95 : decode cX6_search 95 = .ok (.iload 4, 2) := by decide +kernel
theorem dX6_search_97 : decode cX6_search 97 = .ok (.iload_n 1, 1) := by decide +kernel
theorem dX6_search_98 : decode cX6_search 98 = .ok (.iload_n 2, 1) := by decide +kernel
theorem dX6_search_99 : decode cX6_search 99 = .ok (.iload_n 3, 1) := by decide +kernel
theorem dX6_search_100 : decode cX6_search 100 = .ok (.invokevirtual 112, 3) := by decide +kernel
theorem dX6_search_103 : decode cX6_search 103 = .ok (.iinc 5 1, 3) := by decide +kernel
theorem dX6_search_106 : decode cX6_search 106 = .ok (.goto (-47), 3) := by decide +kernel
theorem dX6_search_109 : decode cX6_search 109 = .ok (.iinc 4 (-1), 3) := by decide +kernel
theorem dX6_search_112 : decode cX6_search 112 = .ok (.goto (-70), 3) := by decide +kernel
theorem dX6_search_115 : decode cX6_search 115 = .ok (.return_, 1) := by decide +kernel
set_option maxRecDepth 20000 in
theorem ggX6_tell_X6_index : GoodIn wsX6_tell wsX6_index := goodIn_r _ [18] (by decide +kernel) (by decide +kernel)
set_option maxRecDepth 20000 in
theorem gX6_tell_X6_index : GoodIn wsX6_tell (va_wsS RX6 124 yX6_index wsX6_index) := goodIn_app (goodIn_of _ (by decide +kernel)) ggX6_tell_X6_index
set_option maxRecDepth 20000 in
theorem ggX6_tell_X6_isLine : GoodIn wsX6_tell wsX6_isLine := goodIn_r _ [22, 23, 14, 24, 25, 26, 9, 27, 28, 29, 11, 13, 30, 31, 32, 33, 34, 35, 36, 37, 38, 17, 39, 40, 41, 42, 43, 44, 45, 46, 47, 48, 49, 50, 51, 52, 53, 54, 55, 56, 57, 58, 59, 60, 61, 62, 63, 64, 65] (by decide +kernel) (by decide +kernel)
set_option maxRecDepth 20000 in
theorem gX6_tell_X6_isLine : GoodIn wsX6_tell (wsV RX6 120 RX6 yX6_isLine wsX6_isLine) := goodIn_app (goodIn_of _ (by decide +kernel)) ggX6_tell_X6_isLine
theorem dX6_tell_0 : decode cX6_tell 0 = .ok (.iconst (-1), 1) := by decide +kernel
theorem dX6_tell_1 : decode cX6_tell 1 = .ok (.iconst 0, 1) := by decide +kernel
theorem dX6_tell_2 : decode cX6_tell 2 = .ok (.iconst 0, 1) := by decide +kernel
theorem dX6_tell_3 : decode cX6_tell 3 = .ok (.invokestatic 124, 3) := by decide +kernel
theorem dX6_tell_6 : decode cX6_tell 6 = .ok (.istore_n 2, 1) := by decide +kernel
theorem dX6_tell_7 : decode cX6_tell 7 = .ok (.iconst (-1), 1) := by decide +kernel
theorem dX6_tell_8 : decode cX6_tell 8 = .ok (.istore_n 3, 1) := by decide +kernel
theorem dX6_tell_9 : decode cX6_tell 9 = .ok (.aload_n 0, 1) := by decide +kernel
theorem dX6_tell_10 : decode cX6_tell 10 = .ok (.aload_n 0, 1) := by decide +kernel
theorem dX6_tell_11 : decode cX6_tell 11 = .ok (.getfield 44, 3) := by decide +kernel
theorem dX6_tell_14 : decode cX6_tell 14 = .ok (.iload_n 2, 1) := by decide +kernel
theorem dX6_tell_15 : decode cX6_tell 15 = .ok (.laload, 1) := by decide +kernel
theorem dX6_tell_16 : decode cX6_tell 16 = .ok (.putfield 136, 3) := by decide +kernel
theorem dX6_tell_19 : decode cX6_tell 19 = .ok (.aload_n 0, 1) := by decide +kernel
theorem dX6_tell_20 : decode cX6_tell 20 = .ok (.aload_n 0, 1) := by decide +kernel
theorem dX6_tell_21 : decode cX6_tell 21 = .ok (.getfield 48, 3) := by decide +kernel
theorem dX6_tell_24 : decode cX6_tell 24 = .ok (.iload_n 2, 1) := by decide +kernel
theorem dX6_tell_25 : decode cX6_tell 25 = .ok (.iaload, 1) := by decide +kernel
theorem dX6_tell_26 : decode cX6_tell 26 = .ok (.putfield 139, 3) := by decide +kernel
theorem dX6_tell_29 : decode cX6_tell 29 = .ok (.aload_n 0, 1) := by decide +kernel
theorem dX6_tell_30 : decode cX6_tell 30 = .ok (.iload_n 1, 1) := by decide +kernel
theorem dX6_tell_31 : decode cX6_tell 31 = .ok (.putfield 142, 3) := by decide +kernel
theorem dX6_tell_34 : decode cX6_tell 34 = .ok (.iconst 0, 1) := by decide +kernel
theorem dX6_tell_35 : decode cX6_tell 35 = .ok (.istore 4, 2) := by decide +kernel
theorem dX6_tell_37 : decode cX6_tell 37 = .ok (.iload 4, 2) := by decide +kernel
theorem dX6_tell_39 : decode cX6_tell 39 = .ok (.aload_n 0, 1) := by decide +kernel
theorem dX6_tell_40 : decode cX6_tell 40 = .ok (.getfield 139, 3) := by decide +kernel
theorem dX6_tell_43 : decode cX6_tell 43 = .ok (.if_icmp .ge 101, 3) := by decide +kernel
theorem dX6_tell_46 : decode cX6_tell 46 = .ok (.aload_n 0, 1) := by decide +kernel
theorem dX6_tell_47 : decode cX6_tell 47 = .ok (.getfield 51, 3) := by decide +kernel
theorem dX6_tell_50 : decode cX6_tell 50 = .ok (.iload_n 2, 1) := by decide +kernel
theorem dX6_tell_51 : decode cX6_tell 51 = .ok (.iaload, 1) := by decide +kernel
theorem dX6_tell_52 : decode cX6_tell 52 = .ok (.istore 5, 2) := by decide +kernel
theorem dX6_tell_54 : decode cX6_tell 54 = .ok (.aload_n 0, 1) := by decide +kernel
theorem dX6_tell_55 : decode cX6_tell 55 = .ok (.iload_n 3, 1) := by decide +kernel
theorem dX6_tell_56 : decode cX6_tell 56 = .ok (.iload 5, 2) := by decide +kernel
theorem dX6_tell_58 : decode cX6_tell 58 = .ok (.iload 4, 2) := by decide +kernel
theorem dX6_tell_60 : decode cX6_tell 60 = .ok (.iload_n 1, 1) := by decide +kernel
theorem dX6_tell_61 : decode cX6_tell 61 = .ok (.invokevirtual 120, 3) := by decide +kernel
theorem dX6_tell_64 : decode cX6_tell 64 = .ok (.istore 6, 2) := by decide +kernel
theorem dX6_tell_66 : decode cX6_tell 66 = .ok (.aload_n 0, 1) := by decide +kernel
theorem dX6_tell_67 : decode cX6_tell 67 = .ok (.getfield 54, 3) := by decide +kernel
theorem dX6_tell_70 : decode cX6_tell 70 = .ok (.iload 4, 2) := by decide +kernel
theorem dX6_tell_72 : decode cX6_tell 72 = .ok (.iload 5, 2) := by decide +kernel
theorem dX6_tell_74 : decode cX6_tell 74 = .ok (.iastore, 1) := by decide +kernel
theorem dX6_tell_75 : decode cX6_tell 75 = .ok (.aload_n 0, 1) := by decide +kernel
theorem dX6_tell_76 : decode cX6_tell 76 = .ok (.getfield 57, 3) := by decide +kernel
theorem dX6_tell_79 : decode cX6_tell 79 = .ok (.iload 4, 2) := by decide +kernel
theorem dX6_tell_81 : decode cX6_tell 81 = .ok (.aload_n 0, 1) := by decide +kernel
theorem dX6_tell_82 : decode cX6_tell 82 = .ok (.getfield 78, 3) := by decide +kernel
theorem dX6_tell_85 : decode cX6_tell 85 = .ok (.iastore, 1) := by decide +kernel
theorem dX6_tell_86 : decode cX6_tell 86 = .ok (.aload_n 0, 1) := by decide +kernel
theorem dX6_tell_87 : decode cX6_tell 87 = .ok (.getfield 60, 3) := by decide +kernel
theorem dX6_tell_90 : decode cX6_tell 90 = .ok (.iload 4, 2) := by decide +kernel
theorem dX6_tell_92 : decode cX6_tell 92 = .ok (.aload_n 0, 1) := by decide +kernel
theorem dX6_tell_93 : decode cX6_tell 93 = .ok (.getfield 81, 3) := by decide +kernel
theorem dX6_tell_96 : decode cX6_tell 96 = .ok (.iastore, 1) := by decide +kernel
theorem dX6_tell_97 : decode cX6_tell 97 = .ok (.aload_n 0, 1) := by decide +kernel
theorem dX6_tell_98 : decode cX6_tell 98 = .ok (.getfield 63, 3) := by decide +kernel
theorem dX6_tell_101 : decode cX6_tell 101 = .ok (.iload 4, 2) := by decide +kernel
theorem dX6_tell_103 : decode cX6_tell 103 = .ok (.aload_n 0, 1) := by decide +kernel
theorem dX6_tell_104 : decode cX6_tell 104 = .ok (.getfield 84, 3) := by decide +kernel
theorem dX6_tell_107 : decode cX6_tell 107 = .ok (.iastore, 1) := by decide +kernel
theorem dX6_tell_108 : decode cX6_tell 108 = .ok (.iload 5, 2) := by decide +kernel
theorem dX6_tell_110 : decode cX6_tell 110 = .ok (.istore_n 3, 1) := by decide +kernel
theorem dX6_tell_111 : decode cX6_tell 111 = .ok (.iload 5, 2) := by decide +kernel
theorem dX6_tell_113 : decode cX6_tell 113 = .ok (.aload_n 0, 1) := by decide +kernel
theorem dX6_tell_114 : decode cX6_tell 114 = .ok (.getfield 66, 3) := by decide +kernel
theorem dX6_tell_117 : decode cX6_tell 117 = .ok (.if_icmp .ge 19, 3) := by decide +kernel
theorem dX6_tell_120 : decode cX6_tell 120 = .ok (.iload 5, 2) := by decide +kernel
theorem dX6_tell_122 : decode cX6_tell 122 = .ok (.iload 4, 2) := by decide +kernel
theorem dX6_tell_124 : decode cX6_tell 124 = .ok (.iconst 1, 1) := by decide +kernel
theorem dX6_tell_125 : decode cX6_tell 125 = .ok (.iadd, 1) := by decide +kernel
theorem dX6_tell_126 : decode cX6_tell 126 = .ok (.aload_n 0, 1) := by decide +kernel
theorem dX6_tell_127 : decode cX6_tell 127 = .ok (.getfield 84, 3) := by decide +kernel
theorem dX6_tell_130 : decode cX6_tell 130 = .ok (.invokestatic 124, 3) := by decide +kernel
theorem dX6_tell_133 : decode cX6_tell 133 = .ok (.goto 4, 3) := by decide +kernel
theorem dX6_tell_136 : decode cX6_tell 136 = .ok (.iconst 0, 1) := by decide +kernel
theorem dX6_tell_137 : decode cX6_tell 137 = .ok (.istore_n 2, 1) := by decide +kernel
theorem dX6_tell_138 : decode cX6_tell 138 = .ok (.iinc 4 1, 3) := by decide +kernel
theorem dX6_tell_141 : decode cX6_tell 141 = .ok (.goto (-104), 3) := by decide +kernel
theorem dX6_tell_144 : decode cX6_tell 144 = .ok (.return_, 1) := by decide +kernel
set_option maxRecDepth 20000 in
theorem ggX6_run_X6_index : GoodIn wsX6_run wsX6_index := goodIn_r _ [59] (by decide +kernel) (by decide +kernel)
set_option maxRecDepth 20000 in
theorem gX6_run_X6_index : GoodIn wsX6_run (va_wsS RX6 124 yX6_index wsX6_index) := goodIn_app (goodIn_of _ (by decide +kernel)) ggX6_run_X6_index
set_option maxRecDepth 20000 in
theorem ggX6_run_X6_tell : GoodIn wsX6_run wsX6_tell := goodIn_r _ [68, 34, 2, 4, 1, 3, 64, 69, 70, 46, 71, 48, 72, 32, 10, 57, 58, 8, 59, 41, 42, 43, 44, 15, 16, 17, 45, 20, 18, 47, 49, 50, 51, 52, 53, 33, 26, 54, 55, 56, 73, 74, 75, 76, 77, 78, 79, 80, 81, 82, 83, 84, 85, 86, 87, 88, 89, 90, 91, 92, 93, 94, 95, 96, 97, 98] (by decide +kernel) (by decide +kernel)
set_option maxRecDepth 20000 in
theorem gX6_run_X6_tell : GoodIn wsX6_run (wsV RX6 149 RX6 yX6_tell wsX6_tell) := goodIn_app (goodIn_of _ (by decide +kernel)) ggX6_run_X6_tell
theorem dX6_run_0 : decode cX6_run 0 = .ok (.aload_n 0, 1) := by decide +kernel
theorem dX6_run_1 : decode cX6_run 1 = .ok (.iconst 0, 1) := by decide +kernel
theorem dX6_run_2 : decode cX6_run 2 = .ok (.putfield 139, 3) := by decide +kernel
theorem dX6_run_5 : decode cX6_run 5 = .ok (.aload_n 0, 1) := by decide +kernel
theorem dX6_run_6 : decode cX6_run 6 = .ok (.lconst 0, 1) := by decide +kernel
theorem dX6_run_7 : decode cX6_run 7 = .ok (.putfield 136, 3) := by decide +kernel
theorem dX6_run_10 : decode cX6_run 10 = .ok (.aload_n 0, 1) := by decide +kernel
theorem dX6_run_11 : decode cX6_run 11 = .ok (.iconst 0, 1) := by decide +kernel
theorem dX6_run_12 : decode cX6_run 12 = .ok (.putfield 142, 3) := by decide +kernel
theorem dX6_run_15 : decode cX6_run 15 = .ok (.iconst 1, 1) := by decide +kernel
theorem dX6_run_16 : decode cX6_run 16 = .ok (.istore_n 1, 1) := by decide +kernel
theorem dX6_run_17 : decode cX6_run 17 = .ok (.iload_n 1, 1) := by decide +kernel
theorem dX6_run_18 : decode cX6_run 18 = .ok (.iconst 4, 1) := by decide +kernel
theorem dX6_run_19 : decode cX6_run 19 = .ok (.if_icmp .ge 41, 3) := by decide +kernel
theorem dX6_run_22 : decode cX6_run 22 = .ok (.aload_n 0, 1) := by decide +kernel
theorem dX6_run_23 : decode cX6_run 23 = .ok (.getfield 142, 3) := by decide +kernel
theorem dX6_run_26 : decode cX6_run 26 = .ok (.ifCond .ne 34, 3) := by decide +kernel
theorem dX6_run_29 : decode cX6_run 29 = .ok (.aload_n 0, 1) := by decide +kernel
theorem dX6_run_30 : decode cX6_run 30 = .ok (.iload_n 1, 1) := by decide +kernel
theorem dX6_run_31 : decode cX6_run 31 = .ok (.iconst 0, 1) := by decide +kernel
theorem dX6_run_32 : decode cX6_run 32 = .ok (.invokevirtual 145, 3) := by decide +kernel
theorem dX6_run_35 : decode cX6_run 35 = .ok (.aload_n 0, 1) := by decide +kernel
theorem dX6_run_36 : decode cX6_run 36 = .ok (.getfield 48, 3) := by decide +kernel
theorem dX6_run_39 : decode cX6_run 39 = .ok (.iconst (-1), 1) := by decide +kernel
theorem dX6_run_40 : decode cX6_run 40 = .ok (.iconst 0, 1) := by decide +kernel
theorem dX6_run_41 : decode cX6_run 41 = .ok (.iconst 0, 1) := by decide +kernel
theorem dX6_run_42 : decode cX6_run 42 = .ok (.invokestatic 124, 3) := by decide +kernel
theorem dX6_run_45 : decode cX6_run 45 = .ok (.iaload, 1) := by decide +kernel
theorem dX6_run_46 : decode cX6_run 46 = .ok (.ifCond .le 8, 3) := by decide +kernel
theorem dX6_run_49 : decode cX6_run 49 = .ok (.aload_n 0, 1) := by decide +kernel
theorem dX6_run_50 : decode cX6_run 50 = .ok (.iload_n 1, 1) := by decide +kernel
theorem dX6_run_51 : decode cX6_run 51 = .ok (.invokevirtual 149, 3) := by decide +kernel
theorem dX6_run_54 : decode cX6_run 54 = .ok (.iinc 1 1, 3) := by decide +kernel
theorem dX6_run_57 : decode cX6_run 57 = .ok (.goto (-40), 3) := by decide +kernel
theorem dX6_run_60 : decode cX6_run 60 = .ok (.aload_n 0, 1) := by decide +kernel
theorem dX6_run_61 : decode cX6_run 61 = .ok (.getfield 139, 3) := by decide +kernel
theorem dX6_run_64 : decode cX6_run 64 = .ok (.ireturn, 1) := by decide +kernel
set_option maxRecDepth 20000 in
theorem ggX6_loose_X6_in : GoodIn wsX6_loose wsX6_in := goodIn_r _ [6] (by decide +kernel) (by decide +kernel)
set_option maxRecDepth 20000 in
theorem gX6_loose_X6_in : GoodIn wsX6_loose (va_wsS RX6 70 yX6_in wsX6_in) := goodIn_app (goodIn_of _ (by decide +kernel)) ggX6_loose_X6_in
set_option maxRecDepth 20000 in
theorem ggX6_loose_X6_index : GoodIn wsX6_loose wsX6_index := goodIn_r _ [60] (by decide +kernel) (by decide +kernel)
set_option maxRecDepth 20000 in
theorem gX6_loose_X6_index : GoodIn wsX6_loose (va_wsS RX6 124 yX6_index wsX6_index) := goodIn_app (goodIn_of _ (by decide +kernel)) ggX6_loose_X6_index
set_option maxRecDepth 20000 in
theorem ggX6_loose_X6_tell : GoodIn wsX6_loose wsX6_tell := goodIn_r _ [69, 35, 70, 2, 71, 1, 65, 72, 73, 47, 74, 49, 75, 33, 11, 58, 59, 5, 60, 42, 43, 44, 45, 16, 17, 18, 46, 21, 19, 48, 50, 51, 52, 53, 54, 34, 27, 55, 56, 57, 76, 77, 78, 79, 80, 81, 82, 83, 84, 85, 86, 87, 88, 89, 90, 91, 92, 93, 94, 95, 96, 97, 98, 99, 100, 101] (by decide +kernel) (by decide +kernel)
set_option maxRecDepth 20000 in
theorem gX6_loose_X6_tell : GoodIn wsX6_loose (wsV RX6 149 RX6 yX6_tell wsX6_tell) := goodIn_app (goodIn_of _ (by decide +kernel)) ggX6_loose_X6_tell
theorem dX6_loose_0 : decode cX6_loose 0 = .ok (.iload_n 1, 1) := by decide +kernel
theorem dX6_loose_1 : decode cX6_loose 1 = .ok (.iconst 1, 1) := by decide +kernel
theorem dX6_loose_2 : decode cX6_loose 2 = .ok (.bipush 50, 2) := by decide +kernel
theorem dX6_loose_4 : decode cX6_loose 4 = .ok (.invokestatic 70, 3) := by decide +kernel
theorem dX6_loose_7 : decode cX6_loose 7 = .ok (.ifCond .eq 10, 3) := by decide +kernel
theorem dX6_loose_10 : decode cX6_loose 10 = .ok (.aload_n 0, 1) := by decide +kernel
theorem dX6_loose_11 : decode cX6_loose 11 = .ok (.getfield 142, 3) := by decide +kernel
theorem dX6_loose_14 : decode cX6_loose 14 = .ok (.ifCond .ne 5, 3) := by decide +kernel
theorem dX6_loose_17 : decode cX6_loose 17 = .ok (.iconst (-1), 1) := by decide +kernel
theorem dX6_loose_18 : decode cX6_loose 18 = .ok (.ireturn, 1) := by decide +kernel
theorem dX6_loose_19 : decode cX6_loose 19 = .ok (.aload_n 0, 1) := by decide +kernel
theorem dX6_loose_20 : decode cX6_loose 20 = .ok (.aload_n 0, 1) := by decide +kernel
theorem dX6_loose_21 : decode cX6_loose 21 = .ok (.getfield 142, 3) := by decide +kernel
theorem dX6_loose_24 : decode cX6_loose 24 = .ok (.iload_n 1, 1) := by decide +kernel
theorem dX6_loose_25 : decode cX6_loose 25 = .ok (.invokevirtual 145, 3) := by decide +kernel
theorem dX6_loose_28 : decode cX6_loose 28 = .ok (.aload_n 0, 1) := by decide +kernel
theorem dX6_loose_29 : decode cX6_loose 29 = .ok (.getfield 48, 3) := by decide +kernel
theorem dX6_loose_32 : decode cX6_loose 32 = .ok (.iconst (-1), 1) := by decide +kernel
theorem dX6_loose_33 : decode cX6_loose 33 = .ok (.iconst 0, 1) := by decide +kernel
theorem dX6_loose_34 : decode cX6_loose 34 = .ok (.iconst 0, 1) := by decide +kernel
theorem dX6_loose_35 : decode cX6_loose 35 = .ok (.invokestatic 124, 3) := by decide +kernel
theorem dX6_loose_38 : decode cX6_loose 38 = .ok (.iaload, 1) := by decide +kernel
theorem dX6_loose_39 : decode cX6_loose 39 = .ok (.ifCond .ne 5, 3) := by decide +kernel
theorem dX6_loose_42 : decode cX6_loose 42 = .ok (.iconst 0, 1) := by decide +kernel
theorem dX6_loose_43 : decode cX6_loose 43 = .ok (.ireturn, 1) := by decide +kernel
theorem dX6_loose_44 : decode cX6_loose 44 = .ok (.aload_n 0, 1) := by decide +kernel
theorem dX6_loose_45 : decode cX6_loose 45 = .ok (.aload_n 0, 1) := by decide +kernel
theorem dX6_loose_46 : decode cX6_loose 46 = .ok (.getfield 142, 3) := by decide +kernel
theorem dX6_loose_49 : decode cX6_loose 49 = .ok (.invokevirtual 149, 3) := by decide +kernel
theorem dX6_loose_52 : decode cX6_loose 52 = .ok (.iconst 1, 1) := by decide +kernel
theorem dX6_loose_53 : decode cX6_loose 53 = .ok (.ireturn, 1) := by decide +kernel
theorem dX6_lines_0 : decode cX6_lines 0 = .ok (.aload_n 0, 1) := by decide +kernel
theorem dX6_lines_1 : decode cX6_lines 1 = .ok (.getfield 139, 3) := by decide +kernel
theorem dX6_lines_4 : decode cX6_lines 4 = .ok (.ireturn, 1) := by decide +kernel
set_option maxRecDepth 20000 in
theorem ggX6_at_X6_in : GoodIn wsX6_at wsX6_in := goodIn_r _ [6] (by decide +kernel) (by decide +kernel)
set_option maxRecDepth 20000 in
theorem gX6_at_X6_in : GoodIn wsX6_at (va_wsS RX6 70 yX6_in wsX6_in) := goodIn_app (goodIn_of _ (by decide +kernel)) ggX6_at_X6_in
theorem dX6_at_0 : decode cX6_at 0 = .ok (.iload_n 1, 1) := by decide +kernel
theorem dX6_at_1 : decode cX6_at 1 = .ok (.iconst 0, 1) := by decide +kernel
theorem dX6_at_2 : decode cX6_at 2 = .ok (.aload_n 0, 1) := by decide +kernel
theorem dX6_at_3 : decode cX6_at 3 = .ok (.getfield 139, 3) := by decide +kernel
theorem dX6_at_6 : decode cX6_at 6 = .ok (.iconst 1, 1) := by decide +kernel
theorem dX6_at_7 : decode cX6_at 7 = .ok (.isub, 1) := by decide +kernel
theorem dX6_at_8 : decode cX6_at 8 = .ok (.invokestatic 70, 3) := by decide +kernel
theorem dX6_at_11 : decode cX6_at 11 = .ok (.ifCond .eq 12, 3) := by decide +kernel
theorem dX6_at_14 : decode cX6_at 14 = .ok (.aload_n 0, 1) := by decide +kernel
theorem dX6_at_15 : decode cX6_at 15 = .ok (.getfield 54, 3) := by decide +kernel
theorem dX6_at_18 : decode cX6_at 18 = .ok (.iload_n 1, 1) := by decide +kernel
theorem dX6_at_19 : decode cX6_at 19 = .ok (.iaload, 1) := by decide +kernel
theorem dX6_at_20 : decode cX6_at 20 = .ok (.goto 4, 3) := by decide +kernel
theorem dX6_at_23 : decode cX6_at 23 = .ok (.iconst (-1), 1) := by decide +kernel
theorem dX6_at_24 : decode cX6_at 24 = .ok (.ireturn, 1) := by decide +kernel
set_option maxRecDepth 20000 in
theorem ggX6_lacks_X6_in : GoodIn wsX6_lacks wsX6_in := goodIn_r _ [6] (by decide +kernel) (by decide +kernel)
set_option maxRecDepth 20000 in
theorem gX6_lacks_X6_in : GoodIn wsX6_lacks (va_wsS RX6 70 yX6_in wsX6_in) := goodIn_app (goodIn_of _ (by decide +kernel)) ggX6_lacks_X6_in
theorem dX6_lacks_0 : decode cX6_lacks 0 = .ok (.iload_n 1, 1) := by decide +kernel
theorem dX6_lacks_1 : decode cX6_lacks 1 = .ok (.iconst 0, 1) := by decide +kernel
theorem dX6_lacks_2 : decode cX6_lacks 2 = .ok (.aload_n 0, 1) := by decide +kernel
theorem dX6_lacks_3 : decode cX6_lacks 3 = .ok (.getfield 139, 3) := by decide +kernel
theorem dX6_lacks_6 : decode cX6_lacks 6 = .ok (.iconst 1, 1) := by decide +kernel
theorem dX6_lacks_7 : decode cX6_lacks 7 = .ok (.isub, 1) := by decide +kernel
theorem dX6_lacks_8 : decode cX6_lacks 8 = .ok (.invokestatic 70, 3) := by decide +kernel
theorem dX6_lacks_11 : decode cX6_lacks 11 = .ok (.ifCond .eq 12, 3) := by decide +kernel
theorem dX6_lacks_14 : decode cX6_lacks 14 = .ok (.aload_n 0, 1) := by decide +kernel
theorem dX6_lacks_15 : decode cX6_lacks 15 = .ok (.getfield 57, 3) := by decide +kernel
theorem dX6_lacks_18 : decode cX6_lacks 18 = .ok (.iload_n 1, 1) := by decide +kernel
theorem dX6_lacks_19 : decode cX6_lacks 19 = .ok (.iaload, 1) := by decide +kernel
theorem dX6_lacks_20 : decode cX6_lacks 20 = .ok (.goto 4, 3) := by decide +kernel
theorem dX6_lacks_23 : decode cX6_lacks 23 = .ok (.iconst 0, 1) := by decide +kernel
theorem dX6_lacks_24 : decode cX6_lacks 24 = .ok (.ireturn, 1) := by decide +kernel
set_option maxRecDepth 20000 in
theorem ggX6_badness_X6_in : GoodIn wsX6_badness wsX6_in := goodIn_r _ [6] (by decide +kernel) (by decide +kernel)
set_option maxRecDepth 20000 in
theorem gX6_badness_X6_in : GoodIn wsX6_badness (va_wsS RX6 70 yX6_in wsX6_in) := goodIn_app (goodIn_of _ (by decide +kernel)) ggX6_badness_X6_in
theorem dX6_badness_0 : decode cX6_badness 0 = .ok (.iload_n 1, 1) := by decide +kernel
theorem dX6_badness_1 : decode cX6_badness 1 = .ok (.iconst 0, 1) := by decide +kernel
theorem dX6_badness_2 : decode cX6_badness 2 = .ok (.aload_n 0, 1) := by decide +kernel
theorem dX6_badness_3 : decode cX6_badness 3 = .ok (.getfield 139, 3) := by decide +kernel
theorem dX6_badness_6 : decode cX6_badness 6 = .ok (.iconst 1, 1) := by decide +kernel
theorem dX6_badness_7 : decode cX6_badness 7 = .ok (.isub, 1) := by decide +kernel
theorem dX6_badness_8 : decode cX6_badness 8 = .ok (.invokestatic 70, 3) := by decide +kernel
theorem dX6_badness_11 : decode cX6_badness 11 = .ok (.ifCond .eq 12, 3) := by decide +kernel
theorem dX6_badness_14 : decode cX6_badness 14 = .ok (.aload_n 0, 1) := by decide +kernel
theorem dX6_badness_15 : decode cX6_badness 15 = .ok (.getfield 60, 3) := by decide +kernel
theorem dX6_badness_18 : decode cX6_badness 18 = .ok (.iload_n 1, 1) := by decide +kernel
theorem dX6_badness_19 : decode cX6_badness 19 = .ok (.iaload, 1) := by decide +kernel
theorem dX6_badness_20 : decode cX6_badness 20 = .ok (.goto 4, 3) := by decide +kernel
theorem dX6_badness_23 : decode cX6_badness 23 = .ok (.iconst 0, 1) := by decide +kernel
theorem dX6_badness_24 : decode cX6_badness 24 = .ok (.ireturn, 1) := by decide +kernel
set_option maxRecDepth 20000 in
theorem ggX6_classOf_X6_in : GoodIn wsX6_classOf wsX6_in := goodIn_r _ [6] (by decide +kernel) (by decide +kernel)
set_option maxRecDepth 20000 in
theorem gX6_classOf_X6_in : GoodIn wsX6_classOf (va_wsS RX6 70 yX6_in wsX6_in) := goodIn_app (goodIn_of _ (by decide +kernel)) ggX6_classOf_X6_in
theorem dX6_classOf_0 : decode cX6_classOf 0 = .ok (.iload_n 1, 1) := by decide +kernel
theorem dX6_classOf_1 : decode cX6_classOf 1 = .ok (.iconst 0, 1) := by decide +kernel
theorem dX6_classOf_2 : decode cX6_classOf 2 = .ok (.aload_n 0, 1) := by decide +kernel
theorem dX6_classOf_3 : decode cX6_classOf 3 = .ok (.getfield 139, 3) := by decide +kernel
theorem dX6_classOf_6 : decode cX6_classOf 6 = .ok (.iconst 1, 1) := by decide +kernel
theorem dX6_classOf_7 : decode cX6_classOf 7 = .ok (.isub, 1) := by decide +kernel
theorem dX6_classOf_8 : decode cX6_classOf 8 = .ok (.invokestatic 70, 3) := by decide +kernel
theorem dX6_classOf_11 : decode cX6_classOf 11 = .ok (.ifCond .eq 12, 3) := by decide +kernel
theorem dX6_classOf_14 : decode cX6_classOf 14 = .ok (.aload_n 0, 1) := by decide +kernel
theorem dX6_classOf_15 : decode cX6_classOf 15 = .ok (.getfield 63, 3) := by decide +kernel
theorem dX6_classOf_18 : decode cX6_classOf 18 = .ok (.iload_n 1, 1) := by decide +kernel
theorem dX6_classOf_19 : decode cX6_classOf 19 = .ok (.iaload, 1) := by decide +kernel
theorem dX6_classOf_20 : decode cX6_classOf 20 = .ok (.goto 4, 3) := by decide +kernel
theorem dX6_classOf_23 : decode cX6_classOf 23 = .ok (.iconst 0, 1) := by decide +kernel
theorem dX6_classOf_24 : decode cX6_classOf 24 = .ok (.ireturn, 1) := by decide +kernel
theorem dX6_demerits_0 : decode cX6_demerits 0 = .ok (.aload_n 0, 1) := by decide +kernel
theorem dX6_demerits_1 : decode cX6_demerits 1 = .ok (.getfield 136, 3) := by decide +kernel
theorem dX6_demerits_4 : decode cX6_demerits 4 = .ok (.lreturn, 1) := by decide +kernel
theorem dX6_pass_0 : decode cX6_pass 0 = .ok (.aload_n 0, 1) := by decide +kernel
theorem dX6_pass_1 : decode cX6_pass 1 = .ok (.getfield 142, 3) := by decide +kernel
theorem dX6_pass_4 : decode cX6_pass 4 = .ok (.ireturn, 1) := by decide +kernel
theorem dX6_clear_0 : decode cX6_clear 0 = .ok (.aload_n 0, 1) := by decide +kernel
theorem dX6_clear_1 : decode cX6_clear 1 = .ok (.getfield 66, 3) := by decide +kernel
theorem dX6_clear_4 : decode cX6_clear 4 = .ok (.istore_n 1, 1) := by decide +kernel
theorem dX6_clear_5 : decode cX6_clear 5 = .ok (.aload_n 0, 1) := by decide +kernel
theorem dX6_clear_6 : decode cX6_clear 6 = .ok (.iconst 0, 1) := by decide +kernel
theorem dX6_clear_7 : decode cX6_clear 7 = .ok (.putfield 66, 3) := by decide +kernel
theorem dX6_clear_10 : decode cX6_clear 10 = .ok (.iload_n 1, 1) := by decide +kernel
theorem dX6_clear_11 : decode cX6_clear 11 = .ok (.ireturn, 1) := by decide +kernel
end
section
set_option maxRecDepth 200000 in
theorem ggX6_run_X6_search : GoodIn wsX6_run wsX6_search := goodIn_r _ [9, 4, 10, 11, 12, 13, 8, 14, 15, 16, 17, 18, 19, 20, 21, 22, 23, 24, 25, 26, 27, 28, 29, 30, 31, 32, 33, 34, 35, 36, 37, 38, 39, 40, 41, 42, 43, 44, 45, 46, 47, 48, 49, 50, 51, 52, 53, 54, 55, 56, 57, 58, 59, 60, 61, 62, 63, 64, 73, 74, 75, 76, 77, 78, 79, 80, 81, 82, 83, 84, 85, 86, 87, 88, 89, 90, 91, 92, 93, 94, 95, 96, 97, 98] rfl (by decide +kernel)
set_option maxRecDepth 20000 in
theorem gX6_run_X6_search : GoodIn wsX6_run (wsV RX6 145 RX6 yX6_search wsX6_search) := goodIn_app (goodIn_of _ (by decide +kernel)) ggX6_run_X6_search
end
section
set_option maxRecDepth 200000 in
theorem ggX6_loose_X6_search : GoodIn wsX6_loose wsX6_search := goodIn_r _ [10, 2, 11, 12, 13, 14, 5, 15, 16, 17, 18, 19, 20, 21, 22, 23, 24, 25, 26, 27, 28, 29, 30, 31, 32, 33, 34, 35, 36, 37, 38, 39, 40, 41, 42, 43, 44, 45, 46, 47, 48, 49, 50, 51, 52, 53, 54, 55, 56, 57, 58, 59, 60, 61, 62, 63, 64, 65, 76, 77, 78, 79, 80, 81, 82, 83, 84, 85, 86, 87, 88, 89, 90, 91, 92, 93, 94, 95, 96, 97, 98, 99, 100, 101] rfl (by decide +kernel)
set_option maxRecDepth 20000 in
theorem gX6_loose_X6_search : GoodIn wsX6_loose (wsV RX6 145 RX6 yX6_search wsX6_search) := goodIn_app (goodIn_of _ (by decide +kernel)) ggX6_loose_X6_search
end
section
/-! own layer: ints by their Int; one judgement; two kinds of contract -/
def iZ (z : Int) : Int32 := Int32.ofInt z
def lZ (z : Int) : Int64 := Int64.ofInt z
def aZ (F : Int → Int) : Nat → Int32 := fun j => iZ (F (j : Int))
def lA (F : Int → Int) : Nat → Int64 := fun j => lZ (F (j : Int))
def uZ (F : Int → Int) (i v : Int) : Int → Int := fun j => if j = i then v else F j
theorem uZ_s (F : Int → Int) (i v : Int) : uZ F i v i = v := by simp [uZ]
theorem uZ_n (F : Int → Int) {i j : Int} (v : Int) (h : j ≠ i) : uZ F i v j = F j := by simp [uZ, h]
theorem uZ_e (F : Int → Int) (i v j : Int) : uZ F i v j = if j = i then v else F j := rfl
theorem iZ_add (a b : Int) : iZ a + iZ b = iZ (a + b) := (Int32.ofInt_add a b).symm
theorem iZ_sub (a b : Int) : iZ a - iZ b = iZ (a - b) := (Int32.ofInt_sub a b).symm
theorem iZ_mul (a b : Int) : iZ a * iZ b = iZ (a * b) := (Int32.ofInt_mul a b).symm
theorem iZ_neg (a : Int) : -iZ a = iZ (-a) := (Int32.ofInt_neg a).symm
theorem lZ_add (a b : Int) : lZ a + lZ b = lZ (a + b) := (Int64.ofInt_add a b).symm
theorem lZ_sub (a b : Int) : lZ a - lZ b = lZ (a - b) := (Int64.ofInt_sub a b).symm
theorem lZ_mul (a b : Int) : lZ a * lZ b = lZ (a * b) := (Int64.ofInt_mul a b).symm
theorem lZ_neg (a : Int) : -lZ a = lZ (-a) := (Int64.ofInt_neg a).symm
def zr (a : Int) : Prop := -2147483648 ≤ a ∧ a ≤ 2147483647
def zl (a : Int) : Prop := -9223372036854775808 ≤ a ∧ a ≤ 9223372036854775807
theorem iZ_t {a : Int} (h : -2147483648 ≤ a ∧ a ≤ 2147483647) : (iZ a).toInt = a := Int32.toInt_ofInt_of_le (by omega) (by omega)
theorem lZ_t {a : Int} (h : -9223372036854775808 ≤ a ∧ a ≤ 9223372036854775807) : (lZ a).toInt = a := Int64.toInt_ofInt_of_le (by omega) (by omega)
theorem iZ_lt {a b : Int} (ha : -2147483648 ≤ a ∧ a ≤ 2147483647) (hb : -2147483648 ≤ b ∧ b ≤ 2147483647) : iZ a < iZ b ↔ a < b := by rw [Int32.lt_iff_toInt_lt, iZ_t ha, iZ_t hb]
theorem iZ_le {a b : Int} (ha : -2147483648 ≤ a ∧ a ≤ 2147483647) (hb : -2147483648 ≤ b ∧ b ≤ 2147483647) : iZ a ≤ iZ b ↔ a ≤ b := by rw [Int32.le_iff_toInt_le, iZ_t ha, iZ_t hb]
theorem iZ_eq {a b : Int} (ha : -2147483648 ≤ a ∧ a ≤ 2147483647) (hb : -2147483648 ≤ b ∧ b ≤ 2147483647) : iZ a = iZ b ↔ a = b := ⟨fun h => by rw [← iZ_t ha, ← iZ_t hb, h], fun h => by rw [h]⟩
theorem lZ_lt {a b : Int} (ha : -9223372036854775808 ≤ a ∧ a ≤ 9223372036854775807) (hb : -9223372036854775808 ≤ b ∧ b ≤ 9223372036854775807) : lZ a < lZ b ↔ a < b := by rw [Int64.lt_iff_toInt_lt, lZ_t ha, lZ_t hb]
theorem lZ_eq {a b : Int} (ha : -9223372036854775808 ≤ a ∧ a ≤ 9223372036854775807) (hb : -9223372036854775808 ≤ b ∧ b ≤ 9223372036854775807) : lZ a = lZ b ↔ a = b := ⟨fun h => by rw [← lZ_t ha, ← lZ_t hb, h], fun h => by rw [h]⟩
theorem iZ_of (x : Int32) : iZ x.toInt = x := Int32.ofInt_toInt x
theorem iZ_0 : iZ 0 = 0 := rfl
theorem iZ_cl {a : Int} (h0 : 0 ≤ a) (h : a ≤ 2147483647) : (iZ a).toNatClampNeg = a.toNat := by
  unfold Int32.toNatClampNeg; rw [iZ_t (by omega)]
theorem iZ_in {a : Int} {n : Nat} (h : 0 ≤ a ∧ a < n) (hn : (n : Int) ≤ 2147483647) : vp_in (iZ a) n := vp_in_iff.mpr (by rw [iZ_t (by omega)]; exact h)
theorem iZ_l {a : Int} (h : -2147483648 ≤ a ∧ a ≤ 2147483647) : (iZ a).toInt64 = lZ a := by
  apply Int64.toInt_inj.mp
  rw [Int32.toInt_toInt64, iZ_t h, lZ_t (by omega)]
theorem lZ_i (a : Int) : (lZ a).toInt32 = iZ a := Int64.toInt32_ofInt
theorem aZ_rd {F : Int → Int} {a : Int} (h0 : 0 ≤ a) (h : a ≤ 2147483647) : aZ F (iZ a).toNatClampNeg = iZ (F a) := by
  rw [iZ_cl h0 h]; unfold aZ; rw [Int.toNat_of_nonneg h0]
theorem lA_rd {F : Int → Int} {a : Int} (h0 : 0 ≤ a) (h : a ≤ 2147483647) : lA F (iZ a).toNatClampNeg = lZ (F a) := by
  rw [iZ_cl h0 h]; unfold lA; rw [Int.toNat_of_nonneg h0]
theorem aZ_wr {F : Int → Int} {a v : Int} (h0 : 0 ≤ a) (h : a ≤ 2147483647) : upd (aZ F) (iZ a).toNatClampNeg (iZ v) = aZ (uZ F a v) := by
  rw [iZ_cl h0 h]
  funext j
  by_cases hj : j = a.toNat
  · subst hj
    simp [upd, aZ, uZ, Int.toNat_of_nonneg h0]
  · have : (j : Int) ≠ a := by omega
    simp [upd, aZ, uZ, hj, this]
theorem lA_wr {F : Int → Int} {a v : Int} (h0 : 0 ≤ a) (h : a ≤ 2147483647) : vp_updL (lA F) (iZ a).toNatClampNeg (lZ v) = lA (uZ F a v) := by
  rw [iZ_cl h0 h]
  funext j
  by_cases hj : j = a.toNat
  · subst hj
    simp [vp_updL, lA, uZ, Int.toNat_of_nonneg h0]
  · have : (j : Int) ≠ a := by omega
    simp [vp_updL, lA, uZ, hj, this]
theorem iZ_byte {v : Int} (h : -128 ≤ v ∧ v ≤ 127) : (iZ v).toInt8.toInt32 = iZ v := by
  unfold iZ
  rw [Int32.toInt8_ofInt]
  apply Int32.toInt_inj.mp
  rw [Int8.toInt_toInt32, Int8.toInt_ofInt_of_le (by omega) (by omega), Int32.toInt_ofInt_of_le (by omega) (by omega)]
theorem nar_byte {v : Int} (h : -128 ≤ v ∧ v ≤ 127) : vp_nar .byte (iZ v) = iZ v := by rw [vp_nar_byte, iZ_byte h]
theorem nar_bool {v : Int} (h : v = 0 ∨ v = 1) : narrow .boolean (.int (iZ v)) = .int (iZ v) := by
  rcases h with rfl | rfl <;> rfl
theorem nar_boolv {v : Int} (h : v = 0 ∨ v = 1) : vp_nar .boolean (iZ v) = iZ v := by
  rcases h with rfl | rfl <;> rfl
theorem fit_bool {v : Int} (h : v = 0 ∨ v = 1) : fits .boolean (.int (iZ v)) = true := by
  rcases h with rfl | rfl <;> rfl
theorem lZ_div {a b : Int} (ha : -9223372036854775807 ≤ a ∧ a ≤ 9223372036854775807) (hb : 0 < b ∧ b ≤ 9223372036854775807) : lZ a / lZ b = lZ (a.tdiv b) := by
  apply Int64.toInt_inj.mp
  have h1 : -9223372036854775807 ≤ a.tdiv b ∧ a.tdiv b ≤ 9223372036854775807 := by
    have := Int.natAbs_tdiv_le_natAbs a b
    omega
  rw [Int64.toInt_div_of_ne_left, lZ_t (by omega), lZ_t (by omega), lZ_t (by omega)]
  intro q
  have := congrArg Int64.toInt q
  rw [lZ_t (by omega)] at this
  have h2 : Int64.minValue.toInt = -9223372036854775808 := by decide
  omega
/-- what is fixed in one method's run -/
def zX : Type := Program × Launch × Env × Room × State × MethodId × Array Value × List Frame × Method × Code × Nat × (State → Prop)
abbrev xp (X : zX) : Program := X.1
abbrev xl (X : zX) : Launch := X.2.1
abbrev xe (X : zX) : Env := X.2.2.1
abbrev xR (X : zX) : Room := X.2.2.2.1
abbrev xs (X : zX) : State := X.2.2.2.2.1
abbrev xm (X : zX) : MethodId := X.2.2.2.2.2.1
abbrev xa (X : zX) : Array Value := X.2.2.2.2.2.2.1
abbrev xb (X : zX) : List Frame := X.2.2.2.2.2.2.2.1
abbrev xM (X : zX) : Method := X.2.2.2.2.2.2.2.2.1
abbrev xc (X : zX) : Code := X.2.2.2.2.2.2.2.2.2.1
abbrev xn (X : zX) : Nat := X.2.2.2.2.2.2.2.2.2.2.1
abbrev xQ (X : zX) : State → Prop := X.2.2.2.2.2.2.2.2.2.2.2
/-- the tables' classes: objects, and rows of ints, longs, booleans, bytes -/
abbrev zG : Type := va_G × ClassId × ClassId × ClassId × ClassId
def zT (g : zG) : List (ClassId × FieldType) := [(g.2.1, .int), (g.2.2.1, .long), (g.2.2.2.1, .boolean), (g.2.2.2.2, .byte)]
def eo (k : Nat) (fs : List Value) : va_E := .inr (k, fs)
def ei (g : zG) (n : Nat) (F : Int → Int) : va_E := .inl (g.2.1, n, .inl (aZ F))
def el (g : zG) (n : Nat) (F : Int → Int) : va_E := .inl (g.2.2.1, n, .inr (.inl (lA F)))
def ez (g : zG) (n : Nat) (F : Int → Int) : va_E := .inl (g.2.2.2.1, n, .inl (aZ F))
def eb (g : zG) (n : Nat) (F : Int → Int) : va_E := .inl (g.2.2.2.2, n, .inl (aZ F))
def zNF : List (String × Nat × String × String × String × String) := [("BreakSearch$Line", 15, "BreakSearch$Items", "lengthBefore", "[I", "BreakSearch"), ("BreakSearch$Line", 46, "BreakSearch$Items", "stretchBefore", "[I", "BreakSearch"), ("BreakSearch$Line", 31, "BreakSearch$Items", "shrinkBefore", "[I", "BreakSearch"), ("BreakSearch$Search", 53, "BreakSearch$Items", "count", "I", "BreakSearch"), ("BreakSearch", 98, "BreakSearch$Items", "count", "I", "BreakSearch"), ("BreakSearch", 53, "BreakSearch$Rules", "widths", "[I", "BreakSearch"), ("BreakSearch$Search", 95, "BreakSearch$Rules", "widths", "[I", "BreakSearch"), ("BreakSearch", 57, "BreakSearch$Rules", "settings", "[I", "BreakSearch"), ("BreakSearch$Way", 35, "BreakSearch$Line", "lack", "I", "BreakSearch"), ("BreakSearch$Way", 40, "BreakSearch$Line", "ugliness", "I", "BreakSearch"), ("BreakSearch$Search", 126, "BreakSearch$Line", "ugliness", "I", "BreakSearch"), ("BreakSearch$Way", 43, "BreakSearch$Line", "looks", "I", "BreakSearch"), ("BreakSearch$Search", 109, "BreakSearch$Line", "looks", "I", "BreakSearch"), ("BreakSearch", 82, "BreakSearch$Way", "ends", "[I", "BreakSearch"), ("BreakSearch", 85, "BreakSearch$Way", "lacks", "[I", "BreakSearch"), ("BreakSearch", 88, "BreakSearch$Way", "badnesses", "[I", "BreakSearch"), ("BreakSearch", 91, "BreakSearch$Way", "classes", "[I", "BreakSearch"), ("BreakSearch", 71, "BreakSearch$Way", "count", "I", "BreakSearch"), ("BreakSearch", 75, "BreakSearch$Way", "pass", "I", "BreakSearch"), ("BreakSearch$Search", 143, "BreakSearch$Way", "pass", "I", "BreakSearch"), ("BreakSearch$Search", 148, "BreakSearch$Way", "demerits", "J", "BreakSearch"), ("BreakSearch", 94, "BreakSearch$Way", "demerits", "J", "BreakSearch")]
def zNM : List (String × Nat × MethodName × String) := [("BreakSearch", 9, ⟨"BreakSearch$Items", "<init>", "()V"⟩, "BreakSearch"), ("BreakSearch", 18, ⟨"BreakSearch$Rules", "<init>", "(I)V"⟩, "BreakSearch"), ("BreakSearch", 27, ⟨"BreakSearch$Search", "<init>", "(LBreakSearch$Items;LBreakSearch$Rules;)V"⟩, "BreakSearch"), ("BreakSearch$Search", 15, ⟨"BreakSearch$Line", "<init>", "()V"⟩, "BreakSearch"), ("BreakSearch", 36, ⟨"BreakSearch$Way", "<init>", "()V"⟩, "BreakSearch"), ("BreakSearch", 45, ⟨"BreakSearch$Items", "append", "(IIII)I"⟩, "BreakSearch"), ("BreakSearch", 49, ⟨"BreakSearch$Items", "appendPenalty", "(IIZ)I"⟩, "BreakSearch"), ("BreakSearch", 60, ⟨"BreakSearch$Way", "forget", "()V"⟩, "BreakSearch"), ("BreakSearch", 63, ⟨"BreakSearch$Search", "findsWay", "(II)Z"⟩, "BreakSearch"), ("BreakSearch$Search", 47, ⟨"BreakSearch$Rules", "breaksAtMarksIn", "(I)Z"⟩, "BreakSearch"), ("BreakSearch$Search", 58, ⟨"BreakSearch$Items", "mayBreakAt", "(IZ)Z"⟩, "BreakSearch"), ("BreakSearch$Search", 72, ⟨"BreakSearch$Items", "startBehind", "(I)I"⟩, "BreakSearch"), ("BreakSearch$Search", 83, ⟨"BreakSearch$Rules", "toleranceIn", "(I)I"⟩, "BreakSearch"), ("BreakSearch$Search", 86, ⟨"BreakSearch$Rules", "moreStretchIn", "(I)I"⟩, "BreakSearch"), ("BreakSearch$Search", 99, ⟨"BreakSearch$Line", "measure", "(LBreakSearch$Items;IIII)V"⟩, "BreakSearch"), ("BreakSearch$Line", 21, ⟨"BreakSearch$Items", "widthEndingAt", "(I)I"⟩, "BreakSearch"), ("BreakSearch$Line", 38, ⟨"BreakSearch$Items", "isEnd", "(I)Z"⟩, "BreakSearch"), ("BreakSearch$Search", 103, ⟨"BreakSearch$Line", "isToleratedBy", "(I)Z"⟩, "BreakSearch"), ("BreakSearch$Search", 129, ⟨"BreakSearch$Items", "penaltyDemerits", "(I)J"⟩, "BreakSearch"), ("BreakSearch$Search", 133, ⟨"BreakSearch$Items", "isMarked", "(I)Z"⟩, "BreakSearch"), ("BreakSearch$Search", 118, ⟨"BreakSearch$Line", "isUnlike", "(II)Z"⟩, "BreakSearch"), ("BreakSearch$Search", 80, ⟨"BreakSearch$Items", "hasToBreakAt", "(I)Z"⟩, "BreakSearch"), ("BreakSearch", 67, ⟨"BreakSearch$Search", "tell", "(LBreakSearch$Way;)V"⟩, "BreakSearch"), ("BreakSearch$Search", 138, ⟨"BreakSearch$Way", "forget", "()V"⟩, "BreakSearch"), ("BreakSearch$Search", 152, ⟨"BreakSearch$Way", "append", "(ILBreakSearch$Line;)V"⟩, "BreakSearch"), ("BreakSearch", 78, ⟨"BreakSearch$Way", "hasLine", "(I)Z"⟩, "BreakSearch")]
def zNFw (q : String × Nat × String × String × String × String) : Cond := .fieldLinkNest q.1 q.2.1 q.2.2.1 q.2.2.2.1 q.2.2.2.2.1 q.2.2.2.2.2
def zNMw (q : String × Nat × MethodName × String) : Cond := .methodLinkNest q.1 q.2.1 q.2.2.1 q.2.2.2
def zNe (U : State) : Prop := (∀ q ∈ zNF, va_Nw (zNFw q) U) ∧ ∀ q ∈ zNM, va_Nw (zNMw q) U
def zK (g : zG) (U : State) : Prop := va_K g.1 vwCl (zT g) U ∧ zNe U
theorem zNe.same {u U : State} (h : u.vm = U.vm) (k : zNe u) : zNe U := ⟨fun q hq => va_Nw.same rfl h (k.1 q hq), fun q hq => va_Nw.same rfl h (k.2 q hq)⟩
theorem zNe.warm {s U : State} (h : s.WarmedH U.vm) (k : zNe s) : zNe U := ⟨fun q hq => va_Nw.warmF h (k.1 q hq), fun q hq => va_Nw.warmM h (k.2 q hq)⟩
theorem zK.warm {g : zG} {s U : State} (h : s.WarmedH U.vm) (k : zK g s) : zK g U := ⟨va_K.moved h.alike k.1, k.2.warm h⟩
theorem zK.same {g : zG} {u U : State} (h : u.vm = U.vm) (k : zK g u) : zK g U := ⟨va_K.moved (by rw [h]; exact Vm.Alike.refl U.vm) k.1, k.2.same h⟩
def zC (X : zX) (g : zG) (cc : ByteArray) (own : String) (Ts : List Cond) (rm : Room) (nL : Nat) : Prop := CallFix (xp X) (xm X) (xc X) cc nL (xs X) (xa X) Ts own ∧ zK g (xs X) ∧ xR X = rm ∧ xn X = nL
/-- the judgement: from here the method comes to its end -/
def ZG (X : zX) (g : zG) (Y : va_W → Heap → List Loc → Prop) (cells slots : Nat) (ws : va_W) (lv : List (Nat × Value)) (pc : Nat) (st : List Value) : Prop :=
  ∀ (H : Heap) (locs : List Loc) (ls : Array Slot), va_P g.1 vwCl ws H → va_D (fun _ => True) ws → Y ws H locs → lv_has ls (xn X) lv → W (xp X) (xl X) (xe X) (xR X) (xs X) (xm X) (xa X) (xb X) (xM X) (xc X) H locs cells slots (xQ X) (F0 (xm X) pc ls st)
/-- a writer: its cells, and new ones -/
def zD (X : zX) (A : Nat → Prop) : va_W → Heap → List Loc → Prop := fun ws H locs => va_D A ws ∧ va_S A (xs X).heap H locs ∧ ∀ q, (xs X).heap.size ≤ q → A q
/-- a reader -/
def zE (X : zX) : va_W → Heap → List Loc → Prop := fun _ H locs => H = (xs X).heap ∧ locs = []
def zPc (g : zG) (wc : va_W) (As : List Value) : Array Value → State → Prop := va_Pc As (fun U => va_P g.1 vwCl wc U.heap ∧ zK g U ∧ va_D (fun _ => True) wc)
def zPs (g : zG) (wc : va_W) (As : List Value) (sz : Nat) : Array Value → State → Prop := va_Pc As (fun U => U.heap.size = sz ∧ va_P g.1 vwCl wc U.heap ∧ zK g U ∧ va_D (fun _ => True) wc)
def zR (v : Option Value) : Array Value → State → Outcome → State → Prop := fun _ st o t => o = .returned v ∧ t.heap = st.heap
def zQ {S : Type} (g : zG) (A : Nat → Prop) (post : S → Prop) (v : S → Option Value) (w1 : S → va_W) : Array Value → State → Outcome → State → Prop := fun _ st o t => (∃ u : S, o = .returned (v u) ∧ post u ∧ va_P g.1 vwCl (w1 u) t.heap ∧ va_D A (w1 u)) ∧ va_F A st t
/-- a reader's contract -/
def zMR (l : Launch) (y : MethodName) (wsy : List Cond) (rm : Room) (g : zG) (wc : va_W) (As : List Value) (v : Option Value) : Prop := Met l y wsy rm (zPc g wc As) (zR v) 0 0 (fun _ => False)
/-- a writer's contract -/
def zMW {S : Type} (l : Launch) (y : MethodName) (wsy : List Cond) (rm : Room) (g : zG) (wc : va_W) (As : List Value) (post : S → Prop) (v : S → Option Value) (w1 : S → va_W) (mc ms : Nat) : Prop := ∀ sz : Nat, Met l y wsy rm (zPs g wc As sz) (zQ g (va_A wc sz) post v w1) mc ms (va_A wc sz)
theorem zPc_blind {g : zG} {wc : va_W} {As : List Value} : FrameBlind (zPc g wc As) := fun _ U gg mk ⟨h1, h2, h3, h4⟩ => ⟨h1, h2, zK.same (u := U) (U := U.calling gg mk _) rfl h3, h4⟩
theorem zPs_blind {g : zG} {wc : va_W} {As : List Value} {sz : Nat} : FrameBlind (zPs g wc As sz) := fun _ U gg mk ⟨h1, h0, h2, h3, h4⟩ => ⟨h1, h0, h2, zK.same (u := U) (U := U.calling gg mk _) rfl h3, h4⟩
section ZROWS
variable {X : zX} {g : zG} {cc : ByteArray} {own : String} {Ts : List Cond} {rm : Room} {nL : Nat} {Y : va_W → Heap → List Loc → Prop} {cells slots : Nat} {ws : va_W} {lv : List (Nat × Value)} {pc : Nat} {st : List Value}
theorem z_top {a b : Int} (h : a = b) (k : ZG X g Y cells slots ws lv pc (.int (iZ b) :: st)) : ZG X g Y cells slots ws lv pc (.int (iZ a) :: st) := h ▸ k
theorem z_topl {a b : Int} (h : a = b) (k : ZG X g Y cells slots ws lv pc (.long (lZ b) :: st)) : ZG X g Y cells slots ws lv pc (.long (lZ a) :: st) := h ▸ k
theorem z_nm {a : Int} (k : ∀ b, b = a → ZG X g Y cells slots ws lv pc (.int (iZ b) :: st)) : ZG X g Y cells slots ws lv pc (.int (iZ a) :: st) := k a rfl
theorem z_nml {a : Int} (k : ∀ b, b = a → ZG X g Y cells slots ws lv pc (.long (lZ b) :: st)) : ZG X g Y cells slots ws lv pc (.long (lZ a) :: st) := k a rfl
theorem z_pc {pc' : Nat} (h : pc = pc') (k : ZG X g Y cells slots ws lv pc' st) : ZG X g Y cells slots ws lv pc st := h ▸ k
theorem z_lv {lv' : List (Nat × Value)} (ks : List Nat) (hl : lv_pick lv ks = lv') (k : ZG X g Y cells slots ws lv' pc st) : ZG X g Y cells slots ws lv pc st := fun H locs ls hP hD hY hl0 => k H locs ls hP hD hY (lv_sub hl0 ks hl)
theorem z_fm {α : Type} {f : Nat → Option α} {is : List Nat} {w : List α} (h : is.map f = w.map some) : is.filterMap f = w := by
  have e : is.filterMap f = (is.map f).filterMap id := by simp [List.filterMap_map]
  rw [e, h]
  simp [List.filterMap_map]
theorem z_ws {ws' : va_W} {A : Nat → Prop} (is : List Nat) (hn : va_nd is = true) (hs : is.map (fun i => ws[i]?) = ws'.map some) (k : ZG X g (zD X A) cells slots ws' lv pc st) : ZG X g (zD X A) cells slots ws lv pc st := fun H locs ls hP hD hY hl0 =>
  k H locs ls (hP.sub is (z_fm hs)) (hD.sub is hn hs) ⟨hY.1.sub is hn hs, hY.2⟩ hl0
theorem z_wid {c' s' : Nat} (h1 : cells ≤ c') (h2 : slots ≤ s') (k : ZG X g Y c' s' ws lv pc st) : ZG X g Y cells slots ws lv pc st := fun H locs ls hP hD hY hl0 => W.widen h1 h2 (k H locs ls hP hD hY hl0)
theorem z_iconst (hC : zC X g cc own Ts rm nL) {n : Int} (d : decode cc pc = .ok (.iconst n, 1)) (k : ZG X g Y cells slots ws lv (pc + 1) (.int (iZ n) :: st)) : ZG X g Y cells slots ws lv pc st := fun H locs ls hP hD hY hl0 => lv_iconst hC.1.1 hC.1.2.1 d rfl (k H locs ls hP hD hY hl0)
theorem z_bip (hC : zC X g cc own Ts rm nL) {n : Int} (d : decode cc pc = .ok (.bipush n, 2)) (hn : (Int8.ofInt n).toInt32 = iZ n) (k : ZG X g Y cells slots ws lv (pc + 2) (.int (iZ n) :: st)) : ZG X g Y cells slots ws lv pc st := fun H locs ls hP hD hY hl0 => lv_bipush hC.1.1 hC.1.2.1 d hn (k H locs ls hP hD hY hl0)
theorem z_sip (hC : zC X g cc own Ts rm nL) {n : Int} (d : decode cc pc = .ok (.sipush n, 3)) (hn : (Int16.ofInt n).toInt32 = iZ n) (k : ZG X g Y cells slots ws lv (pc + 3) (.int (iZ n) :: st)) : ZG X g Y cells slots ws lv pc st := fun H locs ls hP hD hY hl0 => lv_sipush hC.1.1 hC.1.2.1 d hn (k H locs ls hP hD hY hl0)
theorem z_lconst (hC : zC X g cc own Ts rm nL) {n : Fin 2} {z : Int} (d : decode cc pc = .ok (.lconst n, 1)) (hn : Int64.ofNat (n : Nat) = lZ z) (k : ZG X g Y cells slots ws lv (pc + 1) (.long (lZ z) :: st)) : ZG X g Y cells slots ws lv pc st := fun H locs ls hP hD hY hl0 => lv_lconst hC.1.1 hC.1.2.1 d hn (k H locs ls hP hD hY hl0)
theorem z_ldc2 (hC : zC X g cc own Ts rm nL) {index : Nat} {w : Int64} (z : Int) (hw : Cond.constantLong own index w ∈ Ts) (hz : w = lZ z) (d : decode cc pc = .ok (.ldc2_w index, 3)) (k : ZG X g Y cells slots ws lv (pc + 3) (.long (lZ z) :: st)) : ZG X g Y cells slots ws lv pc st := fun H locs ls hP hD hY hl0 => lv_ldc2 hC.1.1 hC.1.2.1 hC.1.2.2.2.1 (hC.1.2.2.2.2 _ hw) d (by rw [hz]; exact k H locs ls hP hD hY hl0)
theorem z_pop1 (hC : zC X g cc own Ts rm nL) {v : Value} (d : decode cc pc = .ok (.pop, 1)) (hv : v.category = 1) (k : ZG X g Y cells slots ws lv (pc + 1) st) : ZG X g Y cells slots ws lv pc (v :: st) := fun H locs ls hP hD hY hl0 => lv_pop hC.1.1 hC.1.2.1 d hv (k H locs ls hP hD hY hl0)
theorem z_dup (hC : zC X g cc own Ts rm nL) {v : Value} (d : decode cc pc = .ok (.dup, 1)) (hv : v.category = 1) (k : ZG X g Y cells slots ws lv (pc + 1) (v :: v :: st)) : ZG X g Y cells slots ws lv pc (v :: st) := fun H locs ls hP hD hY hl0 => lv_dup hC.1.1 hC.1.2.1 d hv (k H locs ls hP hD hY hl0)
theorem z_goto (hC : zC X g cc own Ts rm nL) {off : Int} {tgt : Nat} (d : decode cc pc = .ok (.goto off, 3)) (ht : (pc : Int) + off = (tgt : Int)) (k : ZG X g Y cells slots ws lv tgt st) : ZG X g Y cells slots ws lv pc st := fun H locs ls hP hD hY hl0 => lv_goto hC.1.1 hC.1.2.1 d ht (k H locs ls hP hD hY hl0)
theorem z_iload_n (hC : zC X g cc own Ts rm nL) {k : Fin 4} {i : Nat} {x : Int32} (q : Nat) (d : decode cc pc = .ok (.iload_n k, 1)) (hi : (k : Nat) = i) (h : lv[q]? = some (i, .int x)) (kk : ZG X g Y cells slots ws lv (pc + 1) (.int x :: st)) : ZG X g Y cells slots ws lv pc st := fun H locs ls hP hD hY hl0 => lv_iload_n hC.1.1 hC.1.2.1 d hi (lv_at hl0 q h) (kk H locs ls hP hD hY hl0)
theorem z_iload (hC : zC X g cc own Ts rm nL) {i : Nat} {x : Int32} (q : Nat) (d : decode cc pc = .ok (.iload i, 2)) (h : lv[q]? = some (i, .int x)) (kk : ZG X g Y cells slots ws lv (pc + 2) (.int x :: st)) : ZG X g Y cells slots ws lv pc st := fun H locs ls hP hD hY hl0 => lv_iload hC.1.1 hC.1.2.1 d (lv_at hl0 q h) (kk H locs ls hP hD hY hl0)
theorem z_lload_n (hC : zC X g cc own Ts rm nL) {k : Fin 4} {i : Nat} {x : Int64} (q : Nat) (d : decode cc pc = .ok (.lload_n k, 1)) (hi : (k : Nat) = i) (h : lv[q]? = some (i, .long x)) (kk : ZG X g Y cells slots ws lv (pc + 1) (.long x :: st)) : ZG X g Y cells slots ws lv pc st := fun H locs ls hP hD hY hl0 => lv_lload_n hC.1.1 hC.1.2.1 d hi (lv_at hl0 q h) (kk H locs ls hP hD hY hl0)
theorem z_lload (hC : zC X g cc own Ts rm nL) {i : Nat} {x : Int64} (q : Nat) (d : decode cc pc = .ok (.lload i, 2)) (h : lv[q]? = some (i, .long x)) (kk : ZG X g Y cells slots ws lv (pc + 2) (.long x :: st)) : ZG X g Y cells slots ws lv pc st := fun H locs ls hP hD hY hl0 => lv_lload hC.1.1 hC.1.2.1 d (lv_at hl0 q h) (kk H locs ls hP hD hY hl0)
theorem z_aload_n (hC : zC X g cc own Ts rm nL) {k : Fin 4} {i : Nat} {x : Nat} (q : Nat) (d : decode cc pc = .ok (.aload_n k, 1)) (hi : (k : Nat) = i) (h : lv[q]? = some (i, .ref x)) (kk : ZG X g Y cells slots ws lv (pc + 1) (.ref x :: st)) : ZG X g Y cells slots ws lv pc st := fun H locs ls hP hD hY hl0 => lv_aload_n hC.1.1 hC.1.2.1 d hi (lv_at hl0 q h) (kk H locs ls hP hD hY hl0)
theorem z_aload (hC : zC X g cc own Ts rm nL) {i : Nat} {x : Nat} (q : Nat) (d : decode cc pc = .ok (.aload i, 2)) (h : lv[q]? = some (i, .ref x)) (kk : ZG X g Y cells slots ws lv (pc + 2) (.ref x :: st)) : ZG X g Y cells slots ws lv pc st := fun H locs ls hP hD hY hl0 => lv_aload hC.1.1 hC.1.2.1 d (lv_at hl0 q h) (kk H locs ls hP hD hY hl0)
theorem z_istore_n (hC : zC X g cc own Ts rm nL) {k : Fin 4} {i : Nat} {x : Int32} {lv' : List (Nat × Value)} (d : decode cc pc = .ok (.istore_n k, 1)) (hi : (k : Nat) = i) (hn : i < nL) (hl : (i, Value.int x) :: lv.filter (fun q => !(q.1 == i) && !(q.1 + 1 == i && q.2.category == 2)) = lv') (kk : ZG X g Y cells slots ws lv' (pc + 1) st) : ZG X g Y cells slots ws lv pc (.int x :: st) := fun H locs ls hP hD hY hl0 => lv_istore_n hC.1.1 hC.1.2.1 d hi hl0 (by rw [hC.2.2.2]; exact hn) hl (fun ls' hl1 => kk H locs ls' hP hD hY hl1)
theorem z_istore (hC : zC X g cc own Ts rm nL) {i : Nat} {x : Int32} {lv' : List (Nat × Value)} (d : decode cc pc = .ok (.istore i, 2)) (hn : i < nL) (hl : (i, Value.int x) :: lv.filter (fun q => !(q.1 == i) && !(q.1 + 1 == i && q.2.category == 2)) = lv') (kk : ZG X g Y cells slots ws lv' (pc + 2) st) : ZG X g Y cells slots ws lv pc (.int x :: st) := fun H locs ls hP hD hY hl0 => lv_istore hC.1.1 hC.1.2.1 d hl0 (by rw [hC.2.2.2]; exact hn) hl (fun ls' hl1 => kk H locs ls' hP hD hY hl1)
theorem z_astore_n (hC : zC X g cc own Ts rm nL) {k : Fin 4} {i : Nat} {x : Nat} {lv' : List (Nat × Value)} (d : decode cc pc = .ok (.astore_n k, 1)) (hi : (k : Nat) = i) (hn : i < nL) (hl : (i, Value.ref x) :: lv.filter (fun q => !(q.1 == i) && !(q.1 + 1 == i && q.2.category == 2)) = lv') (kk : ZG X g Y cells slots ws lv' (pc + 1) st) : ZG X g Y cells slots ws lv pc (.ref x :: st) := fun H locs ls hP hD hY hl0 => lv_astore_n hC.1.1 hC.1.2.1 d hi hl0 (by rw [hC.2.2.2]; exact hn) hl (fun ls' hl1 => kk H locs ls' hP hD hY hl1)
theorem z_astore (hC : zC X g cc own Ts rm nL) {i : Nat} {x : Nat} {lv' : List (Nat × Value)} (d : decode cc pc = .ok (.astore i, 2)) (hn : i < nL) (hl : (i, Value.ref x) :: lv.filter (fun q => !(q.1 == i) && !(q.1 + 1 == i && q.2.category == 2)) = lv') (kk : ZG X g Y cells slots ws lv' (pc + 2) st) : ZG X g Y cells slots ws lv pc (.ref x :: st) := fun H locs ls hP hD hY hl0 => lv_astore hC.1.1 hC.1.2.1 d hl0 (by rw [hC.2.2.2]; exact hn) hl (fun ls' hl1 => kk H locs ls' hP hD hY hl1)
theorem z_lstore_n (hC : zC X g cc own Ts rm nL) {k : Fin 4} {i : Nat} {x : Int64} {lv' : List (Nat × Value)} (d : decode cc pc = .ok (.lstore_n k, 1)) (hi : (k : Nat) = i) (hn : i + 1 < nL) (hl : (i, Value.long x) :: lv.filter (fun q => !(q.1 == i) && (!(q.1 == i + 1) && !(q.1 + 1 == i && q.2.category == 2))) = lv') (kk : ZG X g Y cells slots ws lv' (pc + 1) st) : ZG X g Y cells slots ws lv pc (.long x :: st) := fun H locs ls hP hD hY hl0 => lv_lstore_n hC.1.1 hC.1.2.1 d hi hl0 (by rw [hC.2.2.2]; exact hn) hl (fun ls' hl1 => kk H locs ls' hP hD hY hl1)
theorem z_lstore (hC : zC X g cc own Ts rm nL) {i : Nat} {x : Int64} {lv' : List (Nat × Value)} (d : decode cc pc = .ok (.lstore i, 2)) (hn : i + 1 < nL) (hl : (i, Value.long x) :: lv.filter (fun q => !(q.1 == i) && (!(q.1 == i + 1) && !(q.1 + 1 == i && q.2.category == 2))) = lv') (kk : ZG X g Y cells slots ws lv' (pc + 2) st) : ZG X g Y cells slots ws lv pc (.long x :: st) := fun H locs ls hP hD hY hl0 => lv_lstore hC.1.1 hC.1.2.1 d hl0 (by rw [hC.2.2.2]; exact hn) hl (fun ls' hl1 => kk H locs ls' hP hD hY hl1)
theorem z_iinc (hC : zC X g cc own Ts rm nL) {i : Nat} {n a : Int} {lv' : List (Nat × Value)} (q : Nat) (d : decode cc pc = .ok (.iinc i n, 3)) (hq : lv[q]? = some (i, .int (iZ a))) (hn : i < nL) (hl : (i, Value.int (iZ (a + n))) :: lv.filter (fun q => !(q.1 == i) && !(q.1 + 1 == i && q.2.category == 2)) = lv') (kk : ZG X g Y cells slots ws lv' (pc + 3) st) : ZG X g Y cells slots ws lv pc st := fun H locs ls hP hD hY hl0 => lv_iinc hC.1.1 hC.1.2.1 d hl0 hq (v := iZ (a + n)) (iZ_add a n) (by rw [hC.2.2.2]; exact hn) hl (fun ls' hl1 => kk H locs ls' hP hD hY hl1)
theorem z_iadd (hC : zC X g cc own Ts rm nL) {a b : Int} (d : decode cc pc = .ok (.iadd, 1)) (k : ZG X g Y cells slots ws lv (pc + 1) (.int (iZ (a + b)) :: st)) : ZG X g Y cells slots ws lv pc (.int (iZ b) :: .int (iZ a) :: st) := fun H locs ls hP hD hY hl0 => lv_iadd hC.1.1 hC.1.2.1 d (by rw [iZ_add]; exact k H locs ls hP hD hY hl0)
theorem z_isub (hC : zC X g cc own Ts rm nL) {a b : Int} (d : decode cc pc = .ok (.isub, 1)) (k : ZG X g Y cells slots ws lv (pc + 1) (.int (iZ (a - b)) :: st)) : ZG X g Y cells slots ws lv pc (.int (iZ b) :: .int (iZ a) :: st) := fun H locs ls hP hD hY hl0 => lv_isub hC.1.1 hC.1.2.1 d (by rw [iZ_sub]; exact k H locs ls hP hD hY hl0)
theorem z_imul (hC : zC X g cc own Ts rm nL) {a b : Int} (d : decode cc pc = .ok (.imul, 1)) (k : ZG X g Y cells slots ws lv (pc + 1) (.int (iZ (a * b)) :: st)) : ZG X g Y cells slots ws lv pc (.int (iZ b) :: .int (iZ a) :: st) := fun H locs ls hP hD hY hl0 => lv_imul hC.1.1 hC.1.2.1 d (by rw [iZ_mul]; exact k H locs ls hP hD hY hl0)
theorem z_ladd (hC : zC X g cc own Ts rm nL) {a b : Int} (d : decode cc pc = .ok (.ladd, 1)) (k : ZG X g Y cells slots ws lv (pc + 1) (.long (lZ (a + b)) :: st)) : ZG X g Y cells slots ws lv pc (.long (lZ b) :: .long (lZ a) :: st) := fun H locs ls hP hD hY hl0 => lv_ladd hC.1.1 hC.1.2.1 d (by rw [lZ_add]; exact k H locs ls hP hD hY hl0)
theorem z_lsub (hC : zC X g cc own Ts rm nL) {a b : Int} (d : decode cc pc = .ok (.lsub, 1)) (k : ZG X g Y cells slots ws lv (pc + 1) (.long (lZ (a - b)) :: st)) : ZG X g Y cells slots ws lv pc (.long (lZ b) :: .long (lZ a) :: st) := fun H locs ls hP hD hY hl0 => lv_lsub hC.1.1 hC.1.2.1 d (by rw [lZ_sub]; exact k H locs ls hP hD hY hl0)
theorem z_lmul (hC : zC X g cc own Ts rm nL) {a b : Int} (d : decode cc pc = .ok (.lmul, 1)) (k : ZG X g Y cells slots ws lv (pc + 1) (.long (lZ (a * b)) :: st)) : ZG X g Y cells slots ws lv pc (.long (lZ b) :: .long (lZ a) :: st) := fun H locs ls hP hD hY hl0 => lv_lmul hC.1.1 hC.1.2.1 d (by rw [lZ_mul]; exact k H locs ls hP hD hY hl0)
theorem z_ineg (hC : zC X g cc own Ts rm nL) {a : Int} (d : decode cc pc = .ok (.ineg, 1)) (k : ZG X g Y cells slots ws lv (pc + 1) (.int (iZ (-a)) :: st)) : ZG X g Y cells slots ws lv pc (.int (iZ a) :: st) := fun H locs ls hP hD hY hl0 => lv_ineg hC.1.1 hC.1.2.1 d (by rw [iZ_neg]; exact k H locs ls hP hD hY hl0)
theorem z_lneg (hC : zC X g cc own Ts rm nL) {a : Int} (d : decode cc pc = .ok (.lneg, 1)) (k : ZG X g Y cells slots ws lv (pc + 1) (.long (lZ (-a)) :: st)) : ZG X g Y cells slots ws lv pc (.long (lZ a) :: st) := fun H locs ls hP hD hY hl0 => lv_lneg hC.1.1 hC.1.2.1 d (by rw [lZ_neg]; exact k H locs ls hP hD hY hl0)
theorem z_i2l (hC : zC X g cc own Ts rm nL) {a : Int} (d : decode cc pc = .ok (.i2l, 1)) (h : -2147483648 ≤ a ∧ a ≤ 2147483647) (k : ZG X g Y cells slots ws lv (pc + 1) (.long (lZ a) :: st)) : ZG X g Y cells slots ws lv pc (.int (iZ a) :: st) := fun H locs ls hP hD hY hl0 => lv_i2l hC.1.1 hC.1.2.1 d (iZ_l h) (k H locs ls hP hD hY hl0)
theorem z_l2i (hC : zC X g cc own Ts rm nL) {a : Int} (d : decode cc pc = .ok (.l2i, 1)) (k : ZG X g Y cells slots ws lv (pc + 1) (.int (iZ a) :: st)) : ZG X g Y cells slots ws lv pc (.long (lZ a) :: st) := fun H locs ls hP hD hY hl0 => lv_l2i hC.1.1 hC.1.2.1 d (lZ_i a) (k H locs ls hP hD hY hl0)
theorem z_i2b (hC : zC X g cc own Ts rm nL) {a : Int} (d : decode cc pc = .ok (.i2b, 1)) (h : -128 ≤ a ∧ a ≤ 127) (k : ZG X g Y cells slots ws lv (pc + 1) (.int (iZ a) :: st)) : ZG X g Y cells slots ws lv pc (.int (iZ a) :: st) := fun H locs ls hP hD hY hl0 => lv_i2b hC.1.1 hC.1.2.1 d (iZ_byte h) (k H locs ls hP hD hY hl0)
theorem z_ldiv (hC : zC X g cc own Ts rm nL) {a b : Int} (d : decode cc pc = .ok (.ldiv, 1)) (ha : -9223372036854775807 ≤ a ∧ a ≤ 9223372036854775807) (hb : 0 < b ∧ b ≤ 9223372036854775807) (k : ZG X g Y cells slots ws lv (pc + 1) (.long (lZ (a.tdiv b)) :: st)) : ZG X g Y cells slots ws lv pc (.long (lZ b) :: .long (lZ a) :: st) := fun H locs ls hP hD hY hl0 => lv_ldiv hC.1.1 hC.1.2.1 d (fun q => by have := congrArg Int64.toInt q; rw [lZ_t (by omega), Int64.toInt_zero] at this; omega) (by rw [lZ_div ha hb]; exact k H locs ls hP hD hY hl0)
theorem zr_0 : -2147483648 ≤ (0 : Int) ∧ (0 : Int) ≤ 2147483647 := by omega
theorem zcmp_e {a b : Int} (ha : -9223372036854775808 ≤ a ∧ a ≤ 9223372036854775807) (hb : -9223372036854775808 ≤ b ∧ b ≤ 9223372036854775807) : lg_cmp (lZ a) (lZ b) = if b < a then 1 else if a = b then 0 else -1 := by
  simp only [lg_cmp, lZ_lt hb ha, lZ_eq ha hb]
theorem z_icmp_eq (hC : zC X g cc own Ts rm nL) {a b : Int} {off : Int} (tgt : Nat) (d : decode cc pc = .ok (.if_icmp .eq off, 3)) (ht : (pc : Int) + off = (tgt : Int)) (ha : -2147483648 ≤ a ∧ a ≤ 2147483647) (hb : -2147483648 ≤ b ∧ b ≤ 2147483647) (kt : a = b → ZG X g Y cells slots ws lv tgt st) (kf : ¬ a = b → ZG X g Y cells slots ws lv (pc + 3) st) : ZG X g Y cells slots ws lv pc (.int (iZ b) :: .int (iZ a) :: st) := fun H locs ls hP hD hY hl0 => lv_icmp_eq hC.1.1 hC.1.2.1 d ht (fun q => kt (by simp only [iZ_eq ha hb, iZ_lt ha hb, iZ_le ha hb, iZ_lt hb ha, iZ_le hb ha, Int.not_lt, Int.not_le] at q; exact q) H locs ls hP hD hY hl0) (fun q => kf (by simp only [iZ_eq ha hb, iZ_lt ha hb, iZ_le ha hb, iZ_lt hb ha, iZ_le hb ha, Int.not_lt, Int.not_le] at q; exact q) H locs ls hP hD hY hl0)
theorem z_if_eq (hC : zC X g cc own Ts rm nL) {a : Int} {off : Int} (tgt : Nat) (d : decode cc pc = .ok (.ifCond .eq off, 3)) (ht : (pc : Int) + off = (tgt : Int)) (ha : -2147483648 ≤ a ∧ a ≤ 2147483647) (kt : a = 0 → ZG X g Y cells slots ws lv tgt st) (kf : ¬ a = 0 → ZG X g Y cells slots ws lv (pc + 3) st) : ZG X g Y cells slots ws lv pc (.int (iZ a) :: st) := fun H locs ls hP hD hY hl0 => lv_if_eq hC.1.1 hC.1.2.1 d ht (fun q => kt (by rw [← iZ_0] at q; simp only [iZ_eq ha zr_0, iZ_lt ha zr_0, iZ_le ha zr_0, iZ_lt zr_0 ha, iZ_le zr_0 ha, Int.not_lt, Int.not_le] at q; exact q) H locs ls hP hD hY hl0) (fun q => kf (by rw [← iZ_0] at q; simp only [iZ_eq ha zr_0, iZ_lt ha zr_0, iZ_le ha zr_0, iZ_lt zr_0 ha, iZ_le zr_0 ha, Int.not_lt, Int.not_le] at q; exact q) H locs ls hP hD hY hl0)
theorem z_lc_eq (hC : zC X g cc own Ts rm nL) {a b : Int} {off : Int} (tgt : Nat) (d1 : decode cc pc = .ok (.lcmp, 1)) (d : decode cc (pc + 1) = .ok (.ifCond .eq off, 3)) (ht : ((pc + 1 : Nat) : Int) + off = (tgt : Int)) (ha : -9223372036854775808 ≤ a ∧ a ≤ 9223372036854775807) (hb : -9223372036854775808 ≤ b ∧ b ≤ 9223372036854775807) (kt : a = b → ZG X g Y cells slots ws lv tgt st) (kf : ¬ a = b → ZG X g Y cells slots ws lv (pc + 1 + 3) st) : ZG X g Y cells slots ws lv pc (.long (lZ b) :: .long (lZ a) :: st) := fun H locs ls hP hD hY hl0 => W.lcmp hC.1.1 hC.1.2.1 d1 (lv_if_eq hC.1.1 hC.1.2.1 d ht (fun q => kt (by rw [zcmp_e ha hb] at q; revert q; split <;> (try split) <;> intro q <;> first | omega | (exact absurd q (by decide)) | (simp at q)) H locs ls hP hD hY hl0) (fun q => kf (by rw [zcmp_e ha hb] at q; revert q; split <;> (try split) <;> intro q <;> first | omega | (exact absurd q (by decide)) | (simp at q)) H locs ls hP hD hY hl0))
theorem z_icmp_ne (hC : zC X g cc own Ts rm nL) {a b : Int} {off : Int} (tgt : Nat) (d : decode cc pc = .ok (.if_icmp .ne off, 3)) (ht : (pc : Int) + off = (tgt : Int)) (ha : -2147483648 ≤ a ∧ a ≤ 2147483647) (hb : -2147483648 ≤ b ∧ b ≤ 2147483647) (kt : ¬ a = b → ZG X g Y cells slots ws lv tgt st) (kf : a = b → ZG X g Y cells slots ws lv (pc + 3) st) : ZG X g Y cells slots ws lv pc (.int (iZ b) :: .int (iZ a) :: st) := fun H locs ls hP hD hY hl0 => lv_icmp_ne hC.1.1 hC.1.2.1 d ht (fun q => kt (by simp only [iZ_eq ha hb, iZ_lt ha hb, iZ_le ha hb, iZ_lt hb ha, iZ_le hb ha, Int.not_lt, Int.not_le] at q; exact q) H locs ls hP hD hY hl0) (fun q => kf (by simp only [iZ_eq ha hb, iZ_lt ha hb, iZ_le ha hb, iZ_lt hb ha, iZ_le hb ha, Int.not_lt, Int.not_le] at q; exact q) H locs ls hP hD hY hl0)
theorem z_if_ne (hC : zC X g cc own Ts rm nL) {a : Int} {off : Int} (tgt : Nat) (d : decode cc pc = .ok (.ifCond .ne off, 3)) (ht : (pc : Int) + off = (tgt : Int)) (ha : -2147483648 ≤ a ∧ a ≤ 2147483647) (kt : ¬ a = 0 → ZG X g Y cells slots ws lv tgt st) (kf : a = 0 → ZG X g Y cells slots ws lv (pc + 3) st) : ZG X g Y cells slots ws lv pc (.int (iZ a) :: st) := fun H locs ls hP hD hY hl0 => lv_if_ne hC.1.1 hC.1.2.1 d ht (fun q => kt (by rw [← iZ_0] at q; simp only [iZ_eq ha zr_0, iZ_lt ha zr_0, iZ_le ha zr_0, iZ_lt zr_0 ha, iZ_le zr_0 ha, Int.not_lt, Int.not_le] at q; exact q) H locs ls hP hD hY hl0) (fun q => kf (by rw [← iZ_0] at q; simp only [iZ_eq ha zr_0, iZ_lt ha zr_0, iZ_le ha zr_0, iZ_lt zr_0 ha, iZ_le zr_0 ha, Int.not_lt, Int.not_le] at q; exact q) H locs ls hP hD hY hl0)
theorem z_lc_ne (hC : zC X g cc own Ts rm nL) {a b : Int} {off : Int} (tgt : Nat) (d1 : decode cc pc = .ok (.lcmp, 1)) (d : decode cc (pc + 1) = .ok (.ifCond .ne off, 3)) (ht : ((pc + 1 : Nat) : Int) + off = (tgt : Int)) (ha : -9223372036854775808 ≤ a ∧ a ≤ 9223372036854775807) (hb : -9223372036854775808 ≤ b ∧ b ≤ 9223372036854775807) (kt : ¬ a = b → ZG X g Y cells slots ws lv tgt st) (kf : a = b → ZG X g Y cells slots ws lv (pc + 1 + 3) st) : ZG X g Y cells slots ws lv pc (.long (lZ b) :: .long (lZ a) :: st) := fun H locs ls hP hD hY hl0 => W.lcmp hC.1.1 hC.1.2.1 d1 (lv_if_ne hC.1.1 hC.1.2.1 d ht (fun q => kt (by rw [zcmp_e ha hb] at q; revert q; split <;> (try split) <;> intro q <;> first | omega | (exact absurd q (by decide)) | (simp at q)) H locs ls hP hD hY hl0) (fun q => kf (by rw [zcmp_e ha hb] at q; revert q; split <;> (try split) <;> intro q <;> first | omega | (exact absurd q (by decide)) | (simp at q)) H locs ls hP hD hY hl0))
theorem z_icmp_lt (hC : zC X g cc own Ts rm nL) {a b : Int} {off : Int} (tgt : Nat) (d : decode cc pc = .ok (.if_icmp .lt off, 3)) (ht : (pc : Int) + off = (tgt : Int)) (ha : -2147483648 ≤ a ∧ a ≤ 2147483647) (hb : -2147483648 ≤ b ∧ b ≤ 2147483647) (kt : a < b → ZG X g Y cells slots ws lv tgt st) (kf : b ≤ a → ZG X g Y cells slots ws lv (pc + 3) st) : ZG X g Y cells slots ws lv pc (.int (iZ b) :: .int (iZ a) :: st) := fun H locs ls hP hD hY hl0 => lv_icmp_lt hC.1.1 hC.1.2.1 d ht (fun q => kt (by simp only [iZ_eq ha hb, iZ_lt ha hb, iZ_le ha hb, iZ_lt hb ha, iZ_le hb ha, Int.not_lt, Int.not_le] at q; exact q) H locs ls hP hD hY hl0) (fun q => kf (by simp only [iZ_eq ha hb, iZ_lt ha hb, iZ_le ha hb, iZ_lt hb ha, iZ_le hb ha, Int.not_lt, Int.not_le] at q; exact q) H locs ls hP hD hY hl0)
theorem z_if_lt (hC : zC X g cc own Ts rm nL) {a : Int} {off : Int} (tgt : Nat) (d : decode cc pc = .ok (.ifCond .lt off, 3)) (ht : (pc : Int) + off = (tgt : Int)) (ha : -2147483648 ≤ a ∧ a ≤ 2147483647) (kt : a < 0 → ZG X g Y cells slots ws lv tgt st) (kf : 0 ≤ a → ZG X g Y cells slots ws lv (pc + 3) st) : ZG X g Y cells slots ws lv pc (.int (iZ a) :: st) := fun H locs ls hP hD hY hl0 => lv_if_lt hC.1.1 hC.1.2.1 d ht (fun q => kt (by rw [← iZ_0] at q; simp only [iZ_eq ha zr_0, iZ_lt ha zr_0, iZ_le ha zr_0, iZ_lt zr_0 ha, iZ_le zr_0 ha, Int.not_lt, Int.not_le] at q; exact q) H locs ls hP hD hY hl0) (fun q => kf (by rw [← iZ_0] at q; simp only [iZ_eq ha zr_0, iZ_lt ha zr_0, iZ_le ha zr_0, iZ_lt zr_0 ha, iZ_le zr_0 ha, Int.not_lt, Int.not_le] at q; exact q) H locs ls hP hD hY hl0)
theorem z_lc_lt (hC : zC X g cc own Ts rm nL) {a b : Int} {off : Int} (tgt : Nat) (d1 : decode cc pc = .ok (.lcmp, 1)) (d : decode cc (pc + 1) = .ok (.ifCond .lt off, 3)) (ht : ((pc + 1 : Nat) : Int) + off = (tgt : Int)) (ha : -9223372036854775808 ≤ a ∧ a ≤ 9223372036854775807) (hb : -9223372036854775808 ≤ b ∧ b ≤ 9223372036854775807) (kt : a < b → ZG X g Y cells slots ws lv tgt st) (kf : b ≤ a → ZG X g Y cells slots ws lv (pc + 1 + 3) st) : ZG X g Y cells slots ws lv pc (.long (lZ b) :: .long (lZ a) :: st) := fun H locs ls hP hD hY hl0 => W.lcmp hC.1.1 hC.1.2.1 d1 (lv_if_lt hC.1.1 hC.1.2.1 d ht (fun q => kt (by rw [zcmp_e ha hb] at q; revert q; split <;> (try split) <;> intro q <;> first | omega | (exact absurd q (by decide)) | (simp at q)) H locs ls hP hD hY hl0) (fun q => kf (by rw [zcmp_e ha hb] at q; revert q; split <;> (try split) <;> intro q <;> first | omega | (exact absurd q (by decide)) | (simp at q)) H locs ls hP hD hY hl0))
theorem z_icmp_ge (hC : zC X g cc own Ts rm nL) {a b : Int} {off : Int} (tgt : Nat) (d : decode cc pc = .ok (.if_icmp .ge off, 3)) (ht : (pc : Int) + off = (tgt : Int)) (ha : -2147483648 ≤ a ∧ a ≤ 2147483647) (hb : -2147483648 ≤ b ∧ b ≤ 2147483647) (kt : b ≤ a → ZG X g Y cells slots ws lv tgt st) (kf : a < b → ZG X g Y cells slots ws lv (pc + 3) st) : ZG X g Y cells slots ws lv pc (.int (iZ b) :: .int (iZ a) :: st) := fun H locs ls hP hD hY hl0 => lv_icmp_ge hC.1.1 hC.1.2.1 d ht (fun q => kt (by simp only [iZ_eq ha hb, iZ_lt ha hb, iZ_le ha hb, iZ_lt hb ha, iZ_le hb ha, Int.not_lt, Int.not_le] at q; exact q) H locs ls hP hD hY hl0) (fun q => kf (by simp only [iZ_eq ha hb, iZ_lt ha hb, iZ_le ha hb, iZ_lt hb ha, iZ_le hb ha, Int.not_lt, Int.not_le] at q; exact q) H locs ls hP hD hY hl0)
theorem z_if_ge (hC : zC X g cc own Ts rm nL) {a : Int} {off : Int} (tgt : Nat) (d : decode cc pc = .ok (.ifCond .ge off, 3)) (ht : (pc : Int) + off = (tgt : Int)) (ha : -2147483648 ≤ a ∧ a ≤ 2147483647) (kt : 0 ≤ a → ZG X g Y cells slots ws lv tgt st) (kf : a < 0 → ZG X g Y cells slots ws lv (pc + 3) st) : ZG X g Y cells slots ws lv pc (.int (iZ a) :: st) := fun H locs ls hP hD hY hl0 => lv_if_ge hC.1.1 hC.1.2.1 d ht (fun q => kt (by rw [← iZ_0] at q; simp only [iZ_eq ha zr_0, iZ_lt ha zr_0, iZ_le ha zr_0, iZ_lt zr_0 ha, iZ_le zr_0 ha, Int.not_lt, Int.not_le] at q; exact q) H locs ls hP hD hY hl0) (fun q => kf (by rw [← iZ_0] at q; simp only [iZ_eq ha zr_0, iZ_lt ha zr_0, iZ_le ha zr_0, iZ_lt zr_0 ha, iZ_le zr_0 ha, Int.not_lt, Int.not_le] at q; exact q) H locs ls hP hD hY hl0)
theorem z_lc_ge (hC : zC X g cc own Ts rm nL) {a b : Int} {off : Int} (tgt : Nat) (d1 : decode cc pc = .ok (.lcmp, 1)) (d : decode cc (pc + 1) = .ok (.ifCond .ge off, 3)) (ht : ((pc + 1 : Nat) : Int) + off = (tgt : Int)) (ha : -9223372036854775808 ≤ a ∧ a ≤ 9223372036854775807) (hb : -9223372036854775808 ≤ b ∧ b ≤ 9223372036854775807) (kt : b ≤ a → ZG X g Y cells slots ws lv tgt st) (kf : a < b → ZG X g Y cells slots ws lv (pc + 1 + 3) st) : ZG X g Y cells slots ws lv pc (.long (lZ b) :: .long (lZ a) :: st) := fun H locs ls hP hD hY hl0 => W.lcmp hC.1.1 hC.1.2.1 d1 (lv_if_ge hC.1.1 hC.1.2.1 d ht (fun q => kt (by rw [zcmp_e ha hb] at q; revert q; split <;> (try split) <;> intro q <;> first | omega | (exact absurd q (by decide)) | (simp at q)) H locs ls hP hD hY hl0) (fun q => kf (by rw [zcmp_e ha hb] at q; revert q; split <;> (try split) <;> intro q <;> first | omega | (exact absurd q (by decide)) | (simp at q)) H locs ls hP hD hY hl0))
theorem z_icmp_gt (hC : zC X g cc own Ts rm nL) {a b : Int} {off : Int} (tgt : Nat) (d : decode cc pc = .ok (.if_icmp .gt off, 3)) (ht : (pc : Int) + off = (tgt : Int)) (ha : -2147483648 ≤ a ∧ a ≤ 2147483647) (hb : -2147483648 ≤ b ∧ b ≤ 2147483647) (kt : b < a → ZG X g Y cells slots ws lv tgt st) (kf : a ≤ b → ZG X g Y cells slots ws lv (pc + 3) st) : ZG X g Y cells slots ws lv pc (.int (iZ b) :: .int (iZ a) :: st) := fun H locs ls hP hD hY hl0 => lv_icmp_gt hC.1.1 hC.1.2.1 d ht (fun q => kt (by simp only [iZ_eq ha hb, iZ_lt ha hb, iZ_le ha hb, iZ_lt hb ha, iZ_le hb ha, Int.not_lt, Int.not_le] at q; exact q) H locs ls hP hD hY hl0) (fun q => kf (by simp only [iZ_eq ha hb, iZ_lt ha hb, iZ_le ha hb, iZ_lt hb ha, iZ_le hb ha, Int.not_lt, Int.not_le] at q; exact q) H locs ls hP hD hY hl0)
theorem z_if_gt (hC : zC X g cc own Ts rm nL) {a : Int} {off : Int} (tgt : Nat) (d : decode cc pc = .ok (.ifCond .gt off, 3)) (ht : (pc : Int) + off = (tgt : Int)) (ha : -2147483648 ≤ a ∧ a ≤ 2147483647) (kt : 0 < a → ZG X g Y cells slots ws lv tgt st) (kf : a ≤ 0 → ZG X g Y cells slots ws lv (pc + 3) st) : ZG X g Y cells slots ws lv pc (.int (iZ a) :: st) := fun H locs ls hP hD hY hl0 => lv_if_gt hC.1.1 hC.1.2.1 d ht (fun q => kt (by rw [← iZ_0] at q; simp only [iZ_eq ha zr_0, iZ_lt ha zr_0, iZ_le ha zr_0, iZ_lt zr_0 ha, iZ_le zr_0 ha, Int.not_lt, Int.not_le] at q; exact q) H locs ls hP hD hY hl0) (fun q => kf (by rw [← iZ_0] at q; simp only [iZ_eq ha zr_0, iZ_lt ha zr_0, iZ_le ha zr_0, iZ_lt zr_0 ha, iZ_le zr_0 ha, Int.not_lt, Int.not_le] at q; exact q) H locs ls hP hD hY hl0)
theorem z_lc_gt (hC : zC X g cc own Ts rm nL) {a b : Int} {off : Int} (tgt : Nat) (d1 : decode cc pc = .ok (.lcmp, 1)) (d : decode cc (pc + 1) = .ok (.ifCond .gt off, 3)) (ht : ((pc + 1 : Nat) : Int) + off = (tgt : Int)) (ha : -9223372036854775808 ≤ a ∧ a ≤ 9223372036854775807) (hb : -9223372036854775808 ≤ b ∧ b ≤ 9223372036854775807) (kt : b < a → ZG X g Y cells slots ws lv tgt st) (kf : a ≤ b → ZG X g Y cells slots ws lv (pc + 1 + 3) st) : ZG X g Y cells slots ws lv pc (.long (lZ b) :: .long (lZ a) :: st) := fun H locs ls hP hD hY hl0 => W.lcmp hC.1.1 hC.1.2.1 d1 (lv_if_gt hC.1.1 hC.1.2.1 d ht (fun q => kt (by rw [zcmp_e ha hb] at q; revert q; split <;> (try split) <;> intro q <;> first | omega | (exact absurd q (by decide)) | (simp at q)) H locs ls hP hD hY hl0) (fun q => kf (by rw [zcmp_e ha hb] at q; revert q; split <;> (try split) <;> intro q <;> first | omega | (exact absurd q (by decide)) | (simp at q)) H locs ls hP hD hY hl0))
theorem z_icmp_le (hC : zC X g cc own Ts rm nL) {a b : Int} {off : Int} (tgt : Nat) (d : decode cc pc = .ok (.if_icmp .le off, 3)) (ht : (pc : Int) + off = (tgt : Int)) (ha : -2147483648 ≤ a ∧ a ≤ 2147483647) (hb : -2147483648 ≤ b ∧ b ≤ 2147483647) (kt : a ≤ b → ZG X g Y cells slots ws lv tgt st) (kf : b < a → ZG X g Y cells slots ws lv (pc + 3) st) : ZG X g Y cells slots ws lv pc (.int (iZ b) :: .int (iZ a) :: st) := fun H locs ls hP hD hY hl0 => lv_icmp_le hC.1.1 hC.1.2.1 d ht (fun q => kt (by simp only [iZ_eq ha hb, iZ_lt ha hb, iZ_le ha hb, iZ_lt hb ha, iZ_le hb ha, Int.not_lt, Int.not_le] at q; exact q) H locs ls hP hD hY hl0) (fun q => kf (by simp only [iZ_eq ha hb, iZ_lt ha hb, iZ_le ha hb, iZ_lt hb ha, iZ_le hb ha, Int.not_lt, Int.not_le] at q; exact q) H locs ls hP hD hY hl0)
theorem z_if_le (hC : zC X g cc own Ts rm nL) {a : Int} {off : Int} (tgt : Nat) (d : decode cc pc = .ok (.ifCond .le off, 3)) (ht : (pc : Int) + off = (tgt : Int)) (ha : -2147483648 ≤ a ∧ a ≤ 2147483647) (kt : a ≤ 0 → ZG X g Y cells slots ws lv tgt st) (kf : 0 < a → ZG X g Y cells slots ws lv (pc + 3) st) : ZG X g Y cells slots ws lv pc (.int (iZ a) :: st) := fun H locs ls hP hD hY hl0 => lv_if_le hC.1.1 hC.1.2.1 d ht (fun q => kt (by rw [← iZ_0] at q; simp only [iZ_eq ha zr_0, iZ_lt ha zr_0, iZ_le ha zr_0, iZ_lt zr_0 ha, iZ_le zr_0 ha, Int.not_lt, Int.not_le] at q; exact q) H locs ls hP hD hY hl0) (fun q => kf (by rw [← iZ_0] at q; simp only [iZ_eq ha zr_0, iZ_lt ha zr_0, iZ_le ha zr_0, iZ_lt zr_0 ha, iZ_le zr_0 ha, Int.not_lt, Int.not_le] at q; exact q) H locs ls hP hD hY hl0)
theorem z_lc_le (hC : zC X g cc own Ts rm nL) {a b : Int} {off : Int} (tgt : Nat) (d1 : decode cc pc = .ok (.lcmp, 1)) (d : decode cc (pc + 1) = .ok (.ifCond .le off, 3)) (ht : ((pc + 1 : Nat) : Int) + off = (tgt : Int)) (ha : -9223372036854775808 ≤ a ∧ a ≤ 9223372036854775807) (hb : -9223372036854775808 ≤ b ∧ b ≤ 9223372036854775807) (kt : a ≤ b → ZG X g Y cells slots ws lv tgt st) (kf : b < a → ZG X g Y cells slots ws lv (pc + 1 + 3) st) : ZG X g Y cells slots ws lv pc (.long (lZ b) :: .long (lZ a) :: st) := fun H locs ls hP hD hY hl0 => W.lcmp hC.1.1 hC.1.2.1 d1 (lv_if_le hC.1.1 hC.1.2.1 d ht (fun q => kt (by rw [zcmp_e ha hb] at q; revert q; split <;> (try split) <;> intro q <;> first | omega | (exact absurd q (by decide)) | (simp at q)) H locs ls hP hD hY hl0) (fun q => kf (by rw [zcmp_e ha hb] at q; revert q; split <;> (try split) <;> intro q <;> first | omega | (exact absurd q (by decide)) | (simp at q)) H locs ls hP hD hY hl0))
end ZROWS
end
section
section ZHEAP
variable {X : zX} {g : zG} {cc : ByteArray} {own : String} {Ts : List Cond} {rm : Room} {nL : Nat} {Y : va_W → Heap → List Loc → Prop} {cells slots : Nat} {ws : va_W} {lv : List (Nat × Value)} {pc : Nat} {st : List Value} {A : Nat → Prop}
theorem z_get (hC : zC X g cc own Ts rm nL) {C : String} {T : u_T} {N ci index : Nat} (hin : ∀ w ∈ u_ws C T N, w ∈ Ts) (q0 k : Nat) {a : Nat} {fs : List Value} {v : Value} (he : ws[q0]? = some (a, eo ci fs)) (hc : vwCl[ci]? = some (C, T, N)) (hk : k < N) (hlink : Cond.fieldLink own index (T k).1 (T k).2.1 (T k).2.2.1 ∈ Ts) (hv : fs[k]? = some v) (d : decode cc pc = .ok (.getfield index, 3)) (kk : ZG X g Y cells slots ws lv (pc + 3) (v :: st)) : ZG X g Y cells slots ws lv pc (.ref a :: st) :=
  fun H locs ls hP hD hY hl0 => va_get (ref := (T k).1) hC.1.1 hC.1.2.1 hC.1.2.2.2.2 hin hC.1.2.2.2.1 hC.2.1.1 hP q0 he hc k hk (hC.1.2.2.2.2 _ hlink) (fun _ h => h) hv d (kk H locs ls hP hD hY hl0)
theorem z_getN (hC : zC X g cc own Ts rm nL) {C : String} {T : u_T} {N ci index : Nat} (hin : ∀ w ∈ u_ws C T N, w ∈ Ts) (q0 k : Nat) {a : Nat} {fs : List Value} {v : Value} (he : ws[q0]? = some (a, eo ci fs)) (hc : vwCl[ci]? = some (C, T, N)) (hk : k < N) {host : String} (hlink : (own, index, (T k).1, (T k).2.1, (T k).2.2.1, host) ∈ zNF) (hv : fs[k]? = some v) (d : decode cc pc = .ok (.getfield index, 3)) (kk : ZG X g Y cells slots ws lv (pc + 3) (v :: st)) : ZG X g Y cells slots ws lv pc (.ref a :: st) :=
  fun H locs ls hP hD hY hl0 => va_getN (ref := (T k).1) hC.1.1 hC.1.2.1 hC.1.2.2.2.2 hin hC.1.2.2.2.1 hC.2.1.1 hP q0 he hc k hk (va_Nw.use rfl (hC.2.1.2.1 _ hlink)) (fun _ h => h) hv d (kk H locs ls hP hD hY hl0)
theorem z_put (hC : zC X g cc own Ts rm nL) {C : String} {T : u_T} {N ci index : Nat} (hin : ∀ w ∈ u_ws C T N, w ∈ Ts) (ty0 : Nat → FieldType) (hty : ∀ k, k < N → parseFieldDescriptor (T k).2.2.1 = some (ty0 k)) (hnm : ∀ a, a < N → ∀ b, b < N → a ≠ b → (T a).2.1 ≠ (T b).2.1) (q0 k : Nat) {a : Nat} {fs : List Value} {v : Value} (he : ws[q0]? = some (a, eo ci fs)) (hc : vwCl[ci]? = some (C, T, N)) (hk : k < N) (hlink : Cond.fieldLink own index (T k).1 (T k).2.1 (T k).2.2.1 ∈ Ts) (hfin : (T k).2.2.2 = false) (hn : narrow (ty0 k) v = v) (hfit : fits (ty0 k) v = true) (hl : k < fs.length) (d : decode cc pc = .ok (.putfield index, 3)) {ws' : va_W} (hw : ws.set q0 (a, eo ci (fs.set k v)) = ws') (kk : ZG X g (zD X A) cells slots ws' lv (pc + 3) st) : ZG X g (zD X A) cells slots ws lv pc (v :: .ref a :: st) :=
  fun H locs ls hP hD hY hl0 => va_put (ref := (T k).1) hC.1.1 hC.1.2.1 hC.1.2.2.2.2 hin ty0 hty hnm hC.1.2.2.2.1 hC.2.1.1 hP hY.1 hY.2.1 q0 he hc k hk (hC.1.2.2.2.2 _ hlink) (fun _ h => h) hfin (hty k hk) hn hfit hl d (fun H1 locs1 hP1 hD1 hS1 => kk H1 locs1 ls (hw ▸ hP1) ((hw ▸ hD1 : va_D A ws').weaken (fun _ _ _ _ => trivial)) ⟨hw ▸ hD1, hS1, hY.2.2⟩ hl0)
theorem z_putN (hC : zC X g cc own Ts rm nL) {C : String} {T : u_T} {N ci index : Nat} (hin : ∀ w ∈ u_ws C T N, w ∈ Ts) (ty0 : Nat → FieldType) (hty : ∀ k, k < N → parseFieldDescriptor (T k).2.2.1 = some (ty0 k)) (hnm : ∀ a, a < N → ∀ b, b < N → a ≠ b → (T a).2.1 ≠ (T b).2.1) (q0 k : Nat) {a : Nat} {fs : List Value} {v : Value} (he : ws[q0]? = some (a, eo ci fs)) (hc : vwCl[ci]? = some (C, T, N)) (hk : k < N) {host : String} (hlink : (own, index, (T k).1, (T k).2.1, (T k).2.2.1, host) ∈ zNF) (hfin : (T k).2.2.2 = false) (hn : narrow (ty0 k) v = v) (hfit : fits (ty0 k) v = true) (hl : k < fs.length) (d : decode cc pc = .ok (.putfield index, 3)) {ws' : va_W} (hw : ws.set q0 (a, eo ci (fs.set k v)) = ws') (kk : ZG X g (zD X A) cells slots ws' lv (pc + 3) st) : ZG X g (zD X A) cells slots ws lv pc (v :: .ref a :: st) :=
  fun H locs ls hP hD hY hl0 => va_putN (ref := (T k).1) hC.1.1 hC.1.2.1 hC.1.2.2.2.2 hin ty0 hty hnm hC.1.2.2.2.1 hC.2.1.1 hP hY.1 hY.2.1 q0 he hc k hk (va_Nw.use rfl (hC.2.1.2.1 _ hlink)) (fun _ h => h) hfin (hty k hk) hn hfit hl d (fun H1 locs1 hP1 hD1 hS1 => kk H1 locs1 ls (hw ▸ hP1) ((hw ▸ hD1 : va_D A ws').weaken (fun _ _ _ _ => trivial)) ⟨hw ▸ hD1, hS1, hY.2.2⟩ hl0)
theorem z_putF (hC : zC X g cc own Ts rm nL) {C : String} {T : u_T} {N ci index : Nat} (hin : ∀ w ∈ u_ws C T N, w ∈ Ts) (ty0 : Nat → FieldType) (hty : ∀ k, k < N → parseFieldDescriptor (T k).2.2.1 = some (ty0 k)) (hnm : ∀ a, a < N → ∀ b, b < N → a ≠ b → (T a).2.1 ≠ (T b).2.1) (q0 k : Nat) {a : Nat} {fs : List Value} {v : Value} (he : ws[q0]? = some (a, eo ci fs)) (hc : vwCl[ci]? = some (C, T, N)) (hk : k < N) (hlink : Cond.fieldLink own index (T k).1 (T k).2.1 (T k).2.2.1 ∈ Ts) (hfin : (T k).2.2.2 = true) (hin2 : (xM X).name = "<init>") (hdecl : (T k).1 = own) (hn : narrow (ty0 k) v = v) (hfit : fits (ty0 k) v = true) (hl : k < fs.length) (d : decode cc pc = .ok (.putfield index, 3)) {ws' : va_W} (hw : ws.set q0 (a, eo ci (fs.set k v)) = ws') (kk : ZG X g (zD X A) cells slots ws' lv (pc + 3) st) : ZG X g (zD X A) cells slots ws lv pc (v :: .ref a :: st) :=
  fun H locs ls hP hD hY hl0 => va_putF (ref := (T k).1) hC.1.1 hC.1.2.1 hC.1.2.2.2.2 hin ty0 hty hnm hC.1.2.2.2.1 hC.2.1.1 hP hY.1 hY.2.1 q0 he hc k hk (hC.1.2.2.2.2 _ hlink) (fun _ h => h) hfin hin2 hdecl (hty k hk) hn hfit hl d (fun H1 locs1 hP1 hD1 hS1 => kk H1 locs1 ls (hw ▸ hP1) ((hw ▸ hD1 : va_D A ws').weaken (fun _ _ _ _ => trivial)) ⟨hw ▸ hD1, hS1, hY.2.2⟩ hl0)
theorem z_iald (hC : zC X g cc own Ts rm nL) (q0 : Nat) {a n : Nat} {F : Int → Int} {i : Int} (he : ws[q0]? = some (a, ei g n F)) (hi : 0 ≤ i ∧ i < (n : Int)) (hn : (n : Int) ≤ 2147483647) (d : decode cc pc = .ok (.iaload, 1)) (kk : ZG X g Y cells slots ws lv (pc + 1) (.int (iZ (F i)) :: st)) : ZG X g Y cells slots ws lv pc (.int (iZ i) :: .ref a :: st) :=
  fun H locs ls hP hD hY hl0 => va_iald hC.1.1 hC.1.2.1 hC.2.1.1 hP q0 0 he rfl (iZ_in hi hn) d (by rw [aZ_rd hi.1 (by omega)]; exact kk H locs ls hP hD hY hl0)
theorem z_zald (hC : zC X g cc own Ts rm nL) (q0 : Nat) {a n : Nat} {F : Int → Int} {i : Int} (he : ws[q0]? = some (a, ez g n F)) (hi : 0 ≤ i ∧ i < (n : Int)) (hn : (n : Int) ≤ 2147483647) (d : decode cc pc = .ok (.baload, 1)) (kk : ZG X g Y cells slots ws lv (pc + 1) (.int (iZ (F i)) :: st)) : ZG X g Y cells slots ws lv pc (.int (iZ i) :: .ref a :: st) :=
  fun H locs ls hP hD hY hl0 => va_zald hC.1.1 hC.1.2.1 hC.2.1.1 hP q0 2 he rfl (iZ_in hi hn) d (by rw [aZ_rd hi.1 (by omega)]; exact kk H locs ls hP hD hY hl0)
theorem z_bald (hC : zC X g cc own Ts rm nL) (q0 : Nat) {a n : Nat} {F : Int → Int} {i : Int} (he : ws[q0]? = some (a, eb g n F)) (hi : 0 ≤ i ∧ i < (n : Int)) (hn : (n : Int) ≤ 2147483647) (d : decode cc pc = .ok (.baload, 1)) (kk : ZG X g Y cells slots ws lv (pc + 1) (.int (iZ (F i)) :: st)) : ZG X g Y cells slots ws lv pc (.int (iZ i) :: .ref a :: st) :=
  fun H locs ls hP hD hY hl0 => va_bald hC.1.1 hC.1.2.1 hC.2.1.1 hP q0 3 he rfl (iZ_in hi hn) d (by rw [aZ_rd hi.1 (by omega)]; exact kk H locs ls hP hD hY hl0)
theorem z_lald (hC : zC X g cc own Ts rm nL) (q0 : Nat) {a n : Nat} {F : Int → Int} {i : Int} (he : ws[q0]? = some (a, el g n F)) (hi : 0 ≤ i ∧ i < (n : Int)) (hn : (n : Int) ≤ 2147483647) (d : decode cc pc = .ok (.laload, 1)) (kk : ZG X g Y cells slots ws lv (pc + 1) (.long (lZ (F i)) :: st)) : ZG X g Y cells slots ws lv pc (.int (iZ i) :: .ref a :: st) :=
  fun H locs ls hP hD hY hl0 => va_lald hC.1.1 hC.1.2.1 hC.2.1.1 hP q0 1 he rfl (iZ_in hi hn) d (by rw [lA_rd hi.1 (by omega)]; exact kk H locs ls hP hD hY hl0)
theorem z_iast (hC : zC X g cc own Ts rm nL) (q0 : Nat) {a n : Nat} {F : Int → Int} {i v : Int} (he : ws[q0]? = some (a, ei g n F)) (hi : 0 ≤ i ∧ i < (n : Int)) (hn : (n : Int) ≤ 2147483647)  (d : decode cc pc = .ok (.iastore, 1)) {ws' : va_W} (hw : ws.set q0 (a, ei g n (uZ F i v)) = ws') (kk : ZG X g (zD X A) cells slots ws' lv (pc + 1) st) : ZG X g (zD X A) cells slots ws lv pc (.int (iZ v) :: .int (iZ i) :: .ref a :: st) :=
  fun H locs ls hP hD hY hl0 => va_iast hC.1.1 hC.1.2.1 hC.2.1.1 hP hY.1 hY.2.1 q0 0 he rfl (iZ_in hi hn) d (fun H1 locs1 hP1 hD1 hS1 => by
    rw [aZ_wr hi.1 (by omega)] at hP1 hD1
    exact kk H1 locs1 ls (hw ▸ hP1) ((hw ▸ hD1 : va_D A ws').weaken (fun _ _ _ _ => trivial)) ⟨hw ▸ hD1, hS1, hY.2.2⟩ hl0)
theorem z_zast (hC : zC X g cc own Ts rm nL) (q0 : Nat) {a n : Nat} {F : Int → Int} {i v : Int} (he : ws[q0]? = some (a, ez g n F)) (hi : 0 ≤ i ∧ i < (n : Int)) (hn : (n : Int) ≤ 2147483647) (hv : v = 0 ∨ v = 1) (d : decode cc pc = .ok (.bastore, 1)) {ws' : va_W} (hw : ws.set q0 (a, ez g n (uZ F i v)) = ws') (kk : ZG X g (zD X A) cells slots ws' lv (pc + 1) st) : ZG X g (zD X A) cells slots ws lv pc (.int (iZ v) :: .int (iZ i) :: .ref a :: st) :=
  fun H locs ls hP hD hY hl0 => va_zast hC.1.1 hC.1.2.1 hC.2.1.1 hP hY.1 hY.2.1 q0 2 he rfl (iZ_in hi hn) d (fun H1 locs1 hP1 hD1 hS1 => by
    rw [nar_boolv hv] at hP1 hD1; rw [aZ_wr hi.1 (by omega)] at hP1 hD1
    exact kk H1 locs1 ls (hw ▸ hP1) ((hw ▸ hD1 : va_D A ws').weaken (fun _ _ _ _ => trivial)) ⟨hw ▸ hD1, hS1, hY.2.2⟩ hl0)
theorem z_bast (hC : zC X g cc own Ts rm nL) (q0 : Nat) {a n : Nat} {F : Int → Int} {i v : Int} (he : ws[q0]? = some (a, eb g n F)) (hi : 0 ≤ i ∧ i < (n : Int)) (hn : (n : Int) ≤ 2147483647) (hv : -128 ≤ v ∧ v ≤ 127) (d : decode cc pc = .ok (.bastore, 1)) {ws' : va_W} (hw : ws.set q0 (a, eb g n (uZ F i v)) = ws') (kk : ZG X g (zD X A) cells slots ws' lv (pc + 1) st) : ZG X g (zD X A) cells slots ws lv pc (.int (iZ v) :: .int (iZ i) :: .ref a :: st) :=
  fun H locs ls hP hD hY hl0 => va_bast hC.1.1 hC.1.2.1 hC.2.1.1 hP hY.1 hY.2.1 q0 3 he rfl (iZ_in hi hn) d (fun H1 locs1 hP1 hD1 hS1 => by
    rw [nar_byte hv] at hP1 hD1; rw [aZ_wr hi.1 (by omega)] at hP1 hD1
    exact kk H1 locs1 ls (hw ▸ hP1) ((hw ▸ hD1 : va_D A ws').weaken (fun _ _ _ _ => trivial)) ⟨hw ▸ hD1, hS1, hY.2.2⟩ hl0)
theorem z_last (hC : zC X g cc own Ts rm nL) (q0 : Nat) {a n : Nat} {F : Int → Int} {i v : Int} (he : ws[q0]? = some (a, el g n F)) (hi : 0 ≤ i ∧ i < (n : Int)) (hn : (n : Int) ≤ 2147483647)  (d : decode cc pc = .ok (.lastore, 1)) {ws' : va_W} (hw : ws.set q0 (a, el g n (uZ F i v)) = ws') (kk : ZG X g (zD X A) cells slots ws' lv (pc + 1) st) : ZG X g (zD X A) cells slots ws lv pc (.long (lZ v) :: .int (iZ i) :: .ref a :: st) :=
  fun H locs ls hP hD hY hl0 => va_last hC.1.1 hC.1.2.1 hC.2.1.1 hP hY.1 hY.2.1 q0 1 he rfl (iZ_in hi hn) d (fun H1 locs1 hP1 hD1 hS1 => by
    rw [lA_wr hi.1 (by omega)] at hP1 hD1
    exact kk H1 locs1 ls (hw ▸ hP1) ((hw ▸ hD1 : va_D A ws').weaken (fun _ _ _ _ => trivial)) ⟨hw ▸ hD1, hS1, hY.2.2⟩ hl0)
theorem iZ_ofNat (n : Nat) : Int32.ofNat n = iZ (n : Int) := Int32.ofInt_eq_ofNat.symm
theorem z_alen (hC : zC X g cc own Ts rm nL) (q0 : Nat) {a n : Nat} {F : Int → Int} (he : ws[q0]? = some (a, ei g n F)) (d : decode cc pc = .ok (.arraylength, 1)) (kk : ZG X g Y cells slots ws lv (pc + 1) (.int (iZ (n : Int)) :: st)) : ZG X g Y cells slots ws lv pc (.ref a :: st) :=
  fun H locs ls hP hD hY hl0 => va_alen (v := iZ (n : Int)) hC.1.1 hC.1.2.1 hC.2.1.1 hP q0 0 he (ty := .int) rfl (iZ_ofNat n) d (kk H locs ls hP hD hY hl0)
theorem z_new (hC : zC X g cc own Ts rm nL) {C : String} {T : u_T} {N ci index : Nat} (hin : ∀ w ∈ u_ws C T N, w ∈ Ts) (ty : Nat → FieldType) (hty : ∀ k, k < N → parseFieldDescriptor (T k).2.2.1 = some (ty k)) (hcl : Cond.classLink own index C ∈ Ts) (hinst : Cond.instantiable C N ∈ Ts) (hini : Cond.initialized C ∈ Ts) (hc : vwCl[ci]? = some (C, T, N)) {fs : List Value} (hfs : ∀ j, j < N → defaultValue (ty j) = vp_V fs j) (hcells : cells + 1 ≤ rm.cells) (hslots : slots + N ≤ rm.slots) (d : decode cc pc = .ok (.new index, 3)) (kk : ∀ q : Nat, ZG X g (zD X A) (cells + 1) (slots + N) (ws ++ [(q, eo ci fs)]) lv (pc + 3) (.ref q :: st)) : ZG X g (zD X A) cells slots ws lv pc st :=
  fun H locs ls hP hD hY hl0 => va_new hC.1.1 hC.1.2.1 hC.1.2.2.2.2 hin ty hty hC.1.2.2.2.1 (hC.1.2.2.2.2 _ hcl) (hC.1.2.2.2.2 _ hinst) (hC.1.2.2.2.2 _ hini) hC.2.1.1 hP hY.1 hY.2.1 hY.2.2 hc hfs (by rw [hC.2.2.1]; exact hcells) (by rw [hC.2.2.1]; exact hslots) d (fun q H1 hP1 hD1 hS1 => kk q H1 locs ls hP1 (hD1.weaken (fun _ _ _ _ => trivial)) ⟨hD1, hS1, hY.2.2⟩ hl0)
theorem z_objInit (hC : zC X g cc own Ts rm nL) {index : Nat} (h1 : Cond.methodLink own index Lib.objectInit ∈ Ts) (h2 : Cond.instanceMethod Lib.objectInit ∈ Ts) (h3 : Cond.code Lib.objectInit ⟨#[0xb1]⟩ 1 none ∈ Ts) {a : Nat} (d : decode cc pc = .ok (.invokespecial index, 3)) (hf : 1 ≤ rm.frames) (hlo : (st.map fun v => v.category).sum + 12 ≤ rm.locals) (kk : ZG X g Y cells slots ws lv (pc + 3) st) : ZG X g Y cells slots ws lv pc (.ref a :: st) :=
  fun H locs ls hP hD hY hl0 => W.objInit hC.1.1 hC.1.2.1 hC.1.2.2.2.1 (hC.1.2.2.2.2 _ h1) (hC.1.2.2.2.2 _ h2) (hC.1.2.2.2.2 _ h3) rfl (hl0.1.trans (hC.2.2.2.trans hC.1.2.2.1.symm)) rfl d (by rw [hC.2.2.1]; exact hf) (by rw [hC.2.2.1]; show 2 * 0 + _ + 12 ≤ _; omega) (kk H locs ls hP hD hY hl0)
theorem z_min (hC : zC X g cc own Ts rm nL) {index : Nat} (h1 : Cond.methodLink own index Lib.Math.min.name ∈ Ts) (h2 : Cond.static Lib.Math.min.name ∈ Ts) (h3 : Cond.initialized "java/lang/Math" ∈ Ts) (h4 : Cond.code Lib.Math.min.name Lib.Math.min.code 2 (some .int) ∈ Ts) {a b : Int} (ha : -2147483648 ≤ a ∧ a ≤ 2147483647) (hb : -2147483648 ≤ b ∧ b ≤ 2147483647) (hf : 1 ≤ rm.frames) (hlo : (st.map fun v => v.category).sum + 13 ≤ rm.locals) (hc : cells ≤ rm.cells) (hs : slots ≤ rm.slots) (d : decode cc pc = .ok (.invokestatic index, 3)) (kk : ZG X g Y cells slots ws lv (pc + 3) (.int (iZ (min a b)) :: st)) : ZG X g Y cells slots ws lv pc (.int (iZ b) :: .int (iZ a) :: st) :=
  fun H locs ls hP hD hY hl0 => va_mmin hC.1.1 hC.1.2.1 (hC.1.2.2.1.trans (hC.2.2.2.symm.trans hl0.1.symm)) hC.1.2.2.2.1 (hC.1.2.2.2.2 _ h1) (hC.1.2.2.2.2 _ h2) (hC.1.2.2.2.2 _ h3) (hC.1.2.2.2.2 _ h4) (by rw [hC.2.2.1]; exact hf) (by rw [hC.2.2.1]; exact hlo) (by rw [hC.2.2.1]; exact hc) (by rw [hC.2.2.1]; exact hs) d (by
    rw [show (if iZ b < iZ a then iZ b else iZ a) = iZ (min a b) by
      by_cases h : b < a
      · rw [if_pos ((iZ_lt hb ha).mpr h), show min a b = b by omega]
      · rw [if_neg (fun q => h ((iZ_lt hb ha).mp q)), show min a b = a by omega]]
    exact kk H locs ls hP hD hY hl0)
theorem z_minl (hC : zC X g cc own Ts rm nL) {index : Nat} (h1 : Cond.methodLink own index Lib.MathLoose.min_long.x ∈ Ts) (h2 : Cond.static Lib.MathLoose.min_long.x ∈ Ts) (h3 : Cond.initialized "java/lang/Math" ∈ Ts) (h4 : Cond.code Lib.MathLoose.min_long.x Lib.MathLoose.min_long.code 4 (some .long) ∈ Ts) {a b : Int} (ha : -9223372036854775808 ≤ a ∧ a ≤ 9223372036854775807) (hb : -9223372036854775808 ≤ b ∧ b ≤ 9223372036854775807) (hf : 1 ≤ rm.frames) (hlo : (st.map fun v => v.category).sum + 15 ≤ rm.locals) (hc : cells ≤ rm.cells) (hs : slots ≤ rm.slots) (d : decode cc pc = .ok (.invokestatic index, 3)) (kk : ZG X g Y cells slots ws lv (pc + 3) (.long (lZ (min a b)) :: st)) : ZG X g Y cells slots ws lv pc (.long (lZ b) :: .long (lZ a) :: st) :=
  fun H locs ls hP hD hY hl0 => va_mmin_long hC.1.1 hC.1.2.1 (hC.1.2.2.1.trans (hC.2.2.2.symm.trans hl0.1.symm)) hC.1.2.2.2.1 (hC.1.2.2.2.2 _ h1) (hC.1.2.2.2.2 _ h2) (hC.1.2.2.2.2 _ h3) (hC.1.2.2.2.2 _ h4) (by rw [hC.2.2.1]; exact hf) (by rw [hC.2.2.1]; exact hlo) (by rw [hC.2.2.1]; exact hc) (by rw [hC.2.2.1]; exact hs) d (by
    rw [show (if lZ b < lZ a then lZ b else lZ a) = lZ (min a b) by
      by_cases h : b < a
      · rw [if_pos ((lZ_lt hb ha).mpr h), show min a b = b by omega]
      · rw [if_neg (fun q => h ((lZ_lt hb ha).mp q)), show min a b = a by omega]]
    exact kk H locs ls hP hD hY hl0)
theorem z_abs (hC : zC X g cc own Ts rm nL) {index : Nat} (h1 : Cond.methodLink own index Lib.Math.abs.name ∈ Ts) (h2 : Cond.static Lib.Math.abs.name ∈ Ts) (h3 : Cond.initialized "java/lang/Math" ∈ Ts) (h4 : Cond.code Lib.Math.abs.name Lib.Math.abs.code 1 (some .int) ∈ Ts) {a : Int} (ha : -2147483647 ≤ a ∧ a ≤ 2147483647) (hf : 1 ≤ rm.frames) (hlo : (st.map fun v => v.category).sum + 13 ≤ rm.locals) (hc : cells ≤ rm.cells) (hs : slots ≤ rm.slots) (d : decode cc pc = .ok (.invokestatic index, 3)) (kk : ZG X g Y cells slots ws lv (pc + 3) (.int (iZ (if 0 ≤ a then a else -a)) :: st)) : ZG X g Y cells slots ws lv pc (.int (iZ a) :: st) :=
  fun H locs ls hP hD hY hl0 => va_mabs hC.1.1 hC.1.2.1 (hC.1.2.2.1.trans (hC.2.2.2.symm.trans hl0.1.symm)) hC.1.2.2.2.1 (hC.1.2.2.2.2 _ h1) (hC.1.2.2.2.2 _ h2) (hC.1.2.2.2.2 _ h3) (hC.1.2.2.2.2 _ h4) (by rw [hC.2.2.1]; exact hf) (by rw [hC.2.2.1]; exact hlo) (by rw [hC.2.2.1]; exact hc) (by rw [hC.2.2.1]; exact hs) d (by
    rw [show (if 0 ≤ iZ a then iZ a else 0 - iZ a) = iZ (if 0 ≤ a then a else -a) by
      rw [← iZ_0]
      by_cases h : 0 ≤ a
      · rw [if_pos ((iZ_le zr_0 (by omega)).mpr h), if_pos h]
      · rw [if_neg (fun q => h ((iZ_le zr_0 (by omega)).mp q)), if_neg h, iZ_sub, Int.zero_sub]]
    exact kk H locs ls hP hD hY hl0)
/-- readers: an int or a long -/
def zMRi (l : Launch) (y : MethodName) (wsy : List Cond) (rmy : Room) (g : zG) (wc : va_W) (As : List Value) (r : Int) : Prop := zMR l y wsy rmy g wc As (some (.int (iZ r)))
def zMRl (l : Launch) (y : MethodName) (wsy : List Cond) (rmy : Room) (g : zG) (wc : va_W) (As : List Value) (r : Int) : Prop := zMR l y wsy rmy g wc As (some (.long (lZ r)))
/-- writers: an int, nothing -/
def zMWi {S : Type} (l : Launch) (y : MethodName) (wsy : List Cond) (rmy : Room) (g : zG) (wc : va_W) (As : List Value) (post : S → Prop) (r : S → Int) (w1 : S → va_W) (mc ms : Nat) : Prop := zMW l y wsy rmy g wc As post (fun u => some (.int (iZ (r u)))) w1 mc ms
def zMWv {S : Type} (l : Launch) (y : MethodName) (wsy : List Cond) (rmy : Room) (g : zG) (wc : va_W) (As : List Value) (post : S → Prop) (w1 : S → va_W) (mc ms : Nat) : Prop := zMW l y wsy rmy g wc As post (fun _ => none) w1 mc ms
theorem z_modR {st0 rest : List Value} {a : Array Value} {v : Option Value} (hr : ∀ (H : Heap) (locs : List Loc) (ls : Array Slot), va_P g.1 vwCl ws H → va_D (fun _ => True) ws → lv_has ls (xn X) lv → va_Run (xp X) (xl X) (xe X) (xR X) (xs X) (xm X) (xa X) (xb X) (xM X) (xc X) H locs cells slots 0 0 (F0 (xm X) pc ls st0) rest (zR v a) (fun _ => False)) (kk : ZG X g Y cells slots ws lv (pc + 3) (v.toList ++ rest)) : ZG X g Y cells slots ws lv pc st0 := by
  intro H locs ls hP hD hY hl T hT XX
  obtain ⟨v', st₀, t, T', L, h0, X', hL, e1, e2, ⟨hv, hh⟩, st⟩ := hr H locs ls hP hD hl T hT XX
  cases hv
  have hLn : L = [] := List.eq_nil_iff_forall_not_mem.mpr (fun q hq => hL q hq)
  subst hLn
  rw [List.append_nil] at X'
  obtain ⟨t2, a1, b1⟩ := kk H locs ls hP hD hY hl T' (by rw [e1, hh, h0]) X'
  exact ⟨t2, st t2 a1, b1⟩
theorem z_modW {S : Type} {post : S → Prop} {v : S → Option Value} {w1 : S → va_W} {wc wr : va_W} {mc ms : Nat} {st0 rest : List Value} {a : Array Value} (hr : ∀ (H : Heap) (locs : List Loc) (ls : Array Slot), va_P g.1 vwCl ws H → va_D (fun _ => True) ws → lv_has ls (xn X) lv → va_Run (xp X) (xl X) (xe X) (xR X) (xs X) (xm X) (xa X) (xb X) (xM X) (xc X) H locs cells slots mc ms (F0 (xm X) pc ls st0) rest (zQ g (va_A wc H.size) post v w1 a) (va_A wc H.size)) (isC isR : List Nat) (hC : isC.map (fun i => ws[i]?) = wc.map some) (hR : isR.map (fun i => ws[i]?) = wr.map some) (hn : va_nd isR = true) (hdis : ∀ i ∈ isR, i ∉ isC) (kk : ∀ u, post u → ZG X g (zD X A) (cells + mc) (slots + ms) (wr ++ w1 u) lv (pc + 3) ((v u).toList ++ rest)) : ZG X g (zD X A) cells slots ws lv pc st0 := by
  intro H locs ls hP hD hY hl T hT XX
  obtain ⟨v', st₀, t, T', L, h0, X', hL, e1, e2, ⟨⟨u, hv, hp, hP1, hD1⟩, hz, hk⟩, st⟩ := hr H locs ls hP hD hl T hT XX
  cases hv
  rw [h0] at hz hk
  have hF := va_free (wc := wc) hY.1 hY.2.1 hY.2.2 isC hC
  rw [← e1] at hP1 hz hk
  obtain ⟨hP2, hD2⟩ := va_join (wr := wr) (w1 := w1 u) hP hY.1 isC isR hC hR hn hdis hk hF hP1 hD1
  have hS2 : va_S A (xs X).heap T'.heap (locs ++ L) := ⟨Nat.le_trans hY.2.1.1 hz, fun q h1 h2 => by
      rw [hk q (Nat.lt_of_lt_of_le h1 hY.2.1.1) (fun z => h2 (hF q z))]; exact hY.2.1.2.1 q h1 h2, fun q hq => by
      rcases List.mem_append.mp hq with h | h
      · exact hY.2.1.2.2 q h
      · exact hF _ (hL q h)⟩
  obtain ⟨t2, a1, b1⟩ := kk u hp T'.heap (locs ++ L) ls hP2 (hD2.weaken (fun _ _ _ _ => trivial)) ⟨hD2, hS2, hY.2.2⟩ hl T' rfl X'
  exact ⟨t2, st t2 a1, b1⟩
theorem zPc_at {wc : va_W} {As : List Value} (hC : zC X g cc own Ts rm nL) {H : Heap} (hP : va_P g.1 vwCl ws H) (hD : va_D (fun _ => True) ws) (is : List Nat) (hn : va_nd is = true) (his : is.map (fun i => ws[i]?) = wc.map some) : ∀ U : State, U.heap = H → (xs X).WarmedH U.vm → zPc g wc As As.toArray U := fun U hU hW => ⟨rfl, by rw [hU]; exact hP.sub is (z_fm his), hC.2.1.warm hW, hD.sub is hn his⟩
theorem zPs_at {wc : va_W} {As : List Value} (hC : zC X g cc own Ts rm nL) {H : Heap} (hP : va_P g.1 vwCl ws H) (hD : va_D (fun _ => True) ws) (is : List Nat) (hn : va_nd is = true) (his : is.map (fun i => ws[i]?) = wc.map some) : ∀ U : State, U.heap = H → (xs X).WarmedH U.vm → zPs g wc As H.size As.toArray U := fun U hU hW => ⟨rfl, by rw [hU], by rw [hU]; exact hP.sub is (z_fm his), hC.2.1.warm hW, hD.sub is hn his⟩
theorem z_vRi (hC : zC X g cc own Ts rm nL) {y : MethodName} {bytes : ByteArray} {maxL index : Nat} {ret : Option FieldType} {wsy wsy' : List Cond} {rmy : Room} {wc : va_W} {C : String} {b : Nat} {As rest : List Value} {r : Int} (n : Nat) (hM : zMRi (xl X) y wsy rmy g wc (.ref b :: As) r) (hG : GoodIn Ts (wsV own index C y wsy)) (hw : wsy = Cond.code y bytes maxL ret :: wsy') (hd : y.cls = C ∧ y.cls ≠ "java/lang/invoke/MethodHandle" ∧ y.cls ≠ "java/lang/invoke/VarHandle" ∧ (parseMethodDescriptor y.desc).map (fun d => d.parameters.length) = some n) (hrm : rmy.frames + 1 ≤ rm.frames ∧ 8 + (maxL + 11) + rmy.locals ≤ rm.locals) (hr0 : rmy.cells = 0 ∧ rmy.slots = 0) (is : List Nat) (hn : va_nd is = true) (his : is.map (fun i => ws[i]?) = wc.map some) (q0 ci : Nat) {q : vw_C} {fs : List Value} (hc : vwCl[ci]? = some q) (hq : q.1 = C) (he : ws[q0]? = some (b, eo ci fs)) (hlen : As.length = n) {st0 : List Value} (hst : st0 = As.reverse ++ .ref b :: rest) (hcat : (rest.map fun v => v.category).sum ≤ 8) (d : decode cc pc = .ok (.invokevirtual index, 3)) (hr : cells ≤ rm.cells ∧ slots ≤ rm.slots) (kk : ZG X g Y cells slots ws lv (pc + 3) (.int (iZ r) :: rest)) : ZG X g Y cells slots ws lv pc st0 :=
  z_modR (fun H locs ls hP hD hl0 => va_runV hC.1 hM (cwV n hC.1.2.2.2.2 hG hw hr0.1 hr0.2 hd (by rw [hC.2.2.1]; exact hrm)) ⟨zPc_blind, by obtain ⟨cell, w1, w2, w3⟩ := va_recv (tys := zT g) hC.2.1.1 hP hc he; exact ⟨cell, w1, w2, by rw [← hq]; exact w3⟩, zPc_at hC hP hD is hn his⟩ rfl hlen (hl0.1.trans hC.2.2.2) hst (lv_room hcat) d (by rw [hC.2.2.1]; exact hr)) kk
theorem z_vRl (hC : zC X g cc own Ts rm nL) {y : MethodName} {bytes : ByteArray} {maxL index : Nat} {ret : Option FieldType} {wsy wsy' : List Cond} {rmy : Room} {wc : va_W} {C : String} {b : Nat} {As rest : List Value} {r : Int} (n : Nat) (hM : zMRl (xl X) y wsy rmy g wc (.ref b :: As) r) (hG : GoodIn Ts (wsV own index C y wsy)) (hw : wsy = Cond.code y bytes maxL ret :: wsy') (hd : y.cls = C ∧ y.cls ≠ "java/lang/invoke/MethodHandle" ∧ y.cls ≠ "java/lang/invoke/VarHandle" ∧ (parseMethodDescriptor y.desc).map (fun d => d.parameters.length) = some n) (hrm : rmy.frames + 1 ≤ rm.frames ∧ 8 + (maxL + 11) + rmy.locals ≤ rm.locals) (hr0 : rmy.cells = 0 ∧ rmy.slots = 0) (is : List Nat) (hn : va_nd is = true) (his : is.map (fun i => ws[i]?) = wc.map some) (q0 ci : Nat) {q : vw_C} {fs : List Value} (hc : vwCl[ci]? = some q) (hq : q.1 = C) (he : ws[q0]? = some (b, eo ci fs)) (hlen : As.length = n) {st0 : List Value} (hst : st0 = As.reverse ++ .ref b :: rest) (hcat : (rest.map fun v => v.category).sum ≤ 8) (d : decode cc pc = .ok (.invokevirtual index, 3)) (hr : cells ≤ rm.cells ∧ slots ≤ rm.slots) (kk : ZG X g Y cells slots ws lv (pc + 3) (.long (lZ r) :: rest)) : ZG X g Y cells slots ws lv pc st0 :=
  z_modR (fun H locs ls hP hD hl0 => va_runV hC.1 hM (cwV n hC.1.2.2.2.2 hG hw hr0.1 hr0.2 hd (by rw [hC.2.2.1]; exact hrm)) ⟨zPc_blind, by obtain ⟨cell, w1, w2, w3⟩ := va_recv (tys := zT g) hC.2.1.1 hP hc he; exact ⟨cell, w1, w2, by rw [← hq]; exact w3⟩, zPc_at hC hP hD is hn his⟩ rfl hlen (hl0.1.trans hC.2.2.2) hst (lv_room hcat) d (by rw [hC.2.2.1]; exact hr)) kk
theorem z_vWi (hC : zC X g cc own Ts rm nL) {y : MethodName} {bytes : ByteArray} {maxL index : Nat} {ret : Option FieldType} {wsy wsy' : List Cond} {rmy : Room} {wc : va_W} {C : String} {b : Nat} {As rest : List Value} {S : Type} {post : S → Prop} {w1 : S → va_W} {mc ms : Nat} {wr : va_W} {r : S → Int} (n : Nat) (hM : zMWi (xl X) y wsy rmy g wc (.ref b :: As) post r w1 mc ms) (hG : GoodIn Ts (wsV own index C y wsy)) (hw : wsy = Cond.code y bytes maxL ret :: wsy') (hd : y.cls = C ∧ y.cls ≠ "java/lang/invoke/MethodHandle" ∧ y.cls ≠ "java/lang/invoke/VarHandle" ∧ (parseMethodDescriptor y.desc).map (fun d => d.parameters.length) = some n) (hrm : rmy.frames + 1 ≤ rm.frames ∧ 8 + (maxL + 11) + rmy.locals ≤ rm.locals) (hr0 : rmy.cells = mc ∧ rmy.slots = ms) (isC isR : List Nat) (hnC : va_nd isC = true) (his : isC.map (fun i => ws[i]?) = wc.map some) (hiR : isR.map (fun i => ws[i]?) = wr.map some) (hn : va_nd isR = true) (hdis : ∀ i ∈ isR, i ∉ isC) (q0 ci : Nat) {q : vw_C} {fs : List Value} (hc : vwCl[ci]? = some q) (hq : q.1 = C) (he : ws[q0]? = some (b, eo ci fs)) (hlen : As.length = n) {st0 : List Value} (hst : st0 = As.reverse ++ .ref b :: rest) (hcat : (rest.map fun v => v.category).sum ≤ 8) (d : decode cc pc = .ok (.invokevirtual index, 3)) (hr : cells + mc ≤ rm.cells ∧ slots + ms ≤ rm.slots) (kk : ∀ u, post u → ZG X g (zD X A) (cells + mc) (slots + ms) (wr ++ w1 u) lv (pc + 3) (.int (iZ (r u)) :: rest)) : ZG X g (zD X A) cells slots ws lv pc st0 :=
  z_modW (fun H locs ls hP hD hl0 => va_runV hC.1 (hM H.size) (cwV n hC.1.2.2.2.2 hG hw hr0.1 hr0.2 hd (by rw [hC.2.2.1]; exact hrm)) ⟨zPs_blind, by obtain ⟨cell, w1, w2, w3⟩ := va_recv (tys := zT g) hC.2.1.1 hP hc he; exact ⟨cell, w1, w2, by rw [← hq]; exact w3⟩, zPs_at hC hP hD isC hnC his⟩ rfl hlen (hl0.1.trans hC.2.2.2) hst (lv_room hcat) d (by rw [hC.2.2.1]; exact hr)) isC isR his hiR hn hdis kk
theorem z_vWv (hC : zC X g cc own Ts rm nL) {y : MethodName} {bytes : ByteArray} {maxL index : Nat} {ret : Option FieldType} {wsy wsy' : List Cond} {rmy : Room} {wc : va_W} {C : String} {b : Nat} {As rest : List Value} {S : Type} {post : S → Prop} {w1 : S → va_W} {mc ms : Nat} {wr : va_W} (n : Nat) (hM : zMWv (xl X) y wsy rmy g wc (.ref b :: As) post w1 mc ms) (hG : GoodIn Ts (wsV own index C y wsy)) (hw : wsy = Cond.code y bytes maxL ret :: wsy') (hd : y.cls = C ∧ y.cls ≠ "java/lang/invoke/MethodHandle" ∧ y.cls ≠ "java/lang/invoke/VarHandle" ∧ (parseMethodDescriptor y.desc).map (fun d => d.parameters.length) = some n) (hrm : rmy.frames + 1 ≤ rm.frames ∧ 8 + (maxL + 11) + rmy.locals ≤ rm.locals) (hr0 : rmy.cells = mc ∧ rmy.slots = ms) (isC isR : List Nat) (hnC : va_nd isC = true) (his : isC.map (fun i => ws[i]?) = wc.map some) (hiR : isR.map (fun i => ws[i]?) = wr.map some) (hn : va_nd isR = true) (hdis : ∀ i ∈ isR, i ∉ isC) (q0 ci : Nat) {q : vw_C} {fs : List Value} (hc : vwCl[ci]? = some q) (hq : q.1 = C) (he : ws[q0]? = some (b, eo ci fs)) (hlen : As.length = n) {st0 : List Value} (hst : st0 = As.reverse ++ .ref b :: rest) (hcat : (rest.map fun v => v.category).sum ≤ 8) (d : decode cc pc = .ok (.invokevirtual index, 3)) (hr : cells + mc ≤ rm.cells ∧ slots + ms ≤ rm.slots) (kk : ∀ u, post u → ZG X g (zD X A) (cells + mc) (slots + ms) (wr ++ w1 u) lv (pc + 3) rest) : ZG X g (zD X A) cells slots ws lv pc st0 :=
  z_modW (fun H locs ls hP hD hl0 => va_runV hC.1 (hM H.size) (cwV n hC.1.2.2.2.2 hG hw hr0.1 hr0.2 hd (by rw [hC.2.2.1]; exact hrm)) ⟨zPs_blind, by obtain ⟨cell, w1, w2, w3⟩ := va_recv (tys := zT g) hC.2.1.1 hP hc he; exact ⟨cell, w1, w2, by rw [← hq]; exact w3⟩, zPs_at hC hP hD isC hnC his⟩ rfl hlen (hl0.1.trans hC.2.2.2) hst (lv_room hcat) d (by rw [hC.2.2.1]; exact hr)) isC isR his hiR hn hdis kk
theorem z_vnRi (hC : zC X g cc own Ts rm nL) {y : MethodName} {bytes : ByteArray} {maxL index : Nat} {ret : Option FieldType} {wsy wsy' : List Cond} {rmy : Room} {wc : va_W} {C : String} {b : Nat} {As rest : List Value} {r : Int} (n : Nat) (hM : zMRi (xl X) y wsy rmy g wc (.ref b :: As) r) {host : String} (hG : GoodIn Ts wsy) (hln : (own, index, y, host) ∈ zNM) (hini : Cond.initialized y.cls ∈ Ts) (him : Cond.instanceMethod y ∈ Ts) (hsl : Cond.selects C y y ∈ Ts) (hw : wsy = Cond.code y bytes maxL ret :: wsy') (hd : y.cls ≠ "java/lang/invoke/MethodHandle" ∧ y.cls ≠ "java/lang/invoke/VarHandle" ∧ (parseMethodDescriptor y.desc).map (fun d => d.parameters.length) = some n) (hrm : rmy.frames + 1 ≤ rm.frames ∧ 8 + (maxL + 11) + rmy.locals ≤ rm.locals) (hr0 : rmy.cells = 0 ∧ rmy.slots = 0) (is : List Nat) (hn : va_nd is = true) (his : is.map (fun i => ws[i]?) = wc.map some) (q0 ci : Nat) {q : vw_C} {fs : List Value} (hc : vwCl[ci]? = some q) (hq : q.1 = C) (he : ws[q0]? = some (b, eo ci fs)) (hlen : As.length = n) {st0 : List Value} (hst : st0 = As.reverse ++ .ref b :: rest) (hcat : (rest.map fun v => v.category).sum ≤ 8) (d : decode cc pc = .ok (.invokevirtual index, 3)) (hr : cells ≤ rm.cells ∧ slots ≤ rm.slots) (kk : ZG X g Y cells slots ws lv (pc + 3) (.int (iZ r) :: rest)) : ZG X g Y cells slots ws lv pc st0 :=
  z_modR (fun H locs ls hP hD hl0 => va_runVN hC.1 hM ⟨va_cnB n hC.1.2.2.2.2 hG hw hr0.1 hr0.2 (hC.2.1.2.2 _ hln) (hC.1.2.2.2.2 _ hini) hd (by rw [hC.2.2.1]; exact hrm), hC.1.2.2.2.2 _ him, hC.1.2.2.2.2 _ hsl⟩ ⟨zPc_blind, by obtain ⟨cell, w1, w2, w3⟩ := va_recv (tys := zT g) hC.2.1.1 hP hc he; exact ⟨cell, w1, w2, by rw [← hq]; exact w3⟩, zPc_at hC hP hD is hn his⟩ rfl hlen (hl0.1.trans hC.2.2.2) hst (lv_room hcat) d (by rw [hC.2.2.1]; exact hr)) kk
theorem z_vnRl (hC : zC X g cc own Ts rm nL) {y : MethodName} {bytes : ByteArray} {maxL index : Nat} {ret : Option FieldType} {wsy wsy' : List Cond} {rmy : Room} {wc : va_W} {C : String} {b : Nat} {As rest : List Value} {r : Int} (n : Nat) (hM : zMRl (xl X) y wsy rmy g wc (.ref b :: As) r) {host : String} (hG : GoodIn Ts wsy) (hln : (own, index, y, host) ∈ zNM) (hini : Cond.initialized y.cls ∈ Ts) (him : Cond.instanceMethod y ∈ Ts) (hsl : Cond.selects C y y ∈ Ts) (hw : wsy = Cond.code y bytes maxL ret :: wsy') (hd : y.cls ≠ "java/lang/invoke/MethodHandle" ∧ y.cls ≠ "java/lang/invoke/VarHandle" ∧ (parseMethodDescriptor y.desc).map (fun d => d.parameters.length) = some n) (hrm : rmy.frames + 1 ≤ rm.frames ∧ 8 + (maxL + 11) + rmy.locals ≤ rm.locals) (hr0 : rmy.cells = 0 ∧ rmy.slots = 0) (is : List Nat) (hn : va_nd is = true) (his : is.map (fun i => ws[i]?) = wc.map some) (q0 ci : Nat) {q : vw_C} {fs : List Value} (hc : vwCl[ci]? = some q) (hq : q.1 = C) (he : ws[q0]? = some (b, eo ci fs)) (hlen : As.length = n) {st0 : List Value} (hst : st0 = As.reverse ++ .ref b :: rest) (hcat : (rest.map fun v => v.category).sum ≤ 8) (d : decode cc pc = .ok (.invokevirtual index, 3)) (hr : cells ≤ rm.cells ∧ slots ≤ rm.slots) (kk : ZG X g Y cells slots ws lv (pc + 3) (.long (lZ r) :: rest)) : ZG X g Y cells slots ws lv pc st0 :=
  z_modR (fun H locs ls hP hD hl0 => va_runVN hC.1 hM ⟨va_cnB n hC.1.2.2.2.2 hG hw hr0.1 hr0.2 (hC.2.1.2.2 _ hln) (hC.1.2.2.2.2 _ hini) hd (by rw [hC.2.2.1]; exact hrm), hC.1.2.2.2.2 _ him, hC.1.2.2.2.2 _ hsl⟩ ⟨zPc_blind, by obtain ⟨cell, w1, w2, w3⟩ := va_recv (tys := zT g) hC.2.1.1 hP hc he; exact ⟨cell, w1, w2, by rw [← hq]; exact w3⟩, zPc_at hC hP hD is hn his⟩ rfl hlen (hl0.1.trans hC.2.2.2) hst (lv_room hcat) d (by rw [hC.2.2.1]; exact hr)) kk
theorem z_vnWi (hC : zC X g cc own Ts rm nL) {y : MethodName} {bytes : ByteArray} {maxL index : Nat} {ret : Option FieldType} {wsy wsy' : List Cond} {rmy : Room} {wc : va_W} {C : String} {b : Nat} {As rest : List Value} {S : Type} {post : S → Prop} {w1 : S → va_W} {mc ms : Nat} {wr : va_W} {r : S → Int} (n : Nat) (hM : zMWi (xl X) y wsy rmy g wc (.ref b :: As) post r w1 mc ms) {host : String} (hG : GoodIn Ts wsy) (hln : (own, index, y, host) ∈ zNM) (hini : Cond.initialized y.cls ∈ Ts) (him : Cond.instanceMethod y ∈ Ts) (hsl : Cond.selects C y y ∈ Ts) (hw : wsy = Cond.code y bytes maxL ret :: wsy') (hd : y.cls ≠ "java/lang/invoke/MethodHandle" ∧ y.cls ≠ "java/lang/invoke/VarHandle" ∧ (parseMethodDescriptor y.desc).map (fun d => d.parameters.length) = some n) (hrm : rmy.frames + 1 ≤ rm.frames ∧ 8 + (maxL + 11) + rmy.locals ≤ rm.locals) (hr0 : rmy.cells = mc ∧ rmy.slots = ms) (isC isR : List Nat) (hnC : va_nd isC = true) (his : isC.map (fun i => ws[i]?) = wc.map some) (hiR : isR.map (fun i => ws[i]?) = wr.map some) (hn : va_nd isR = true) (hdis : ∀ i ∈ isR, i ∉ isC) (q0 ci : Nat) {q : vw_C} {fs : List Value} (hc : vwCl[ci]? = some q) (hq : q.1 = C) (he : ws[q0]? = some (b, eo ci fs)) (hlen : As.length = n) {st0 : List Value} (hst : st0 = As.reverse ++ .ref b :: rest) (hcat : (rest.map fun v => v.category).sum ≤ 8) (d : decode cc pc = .ok (.invokevirtual index, 3)) (hr : cells + mc ≤ rm.cells ∧ slots + ms ≤ rm.slots) (kk : ∀ u, post u → ZG X g (zD X A) (cells + mc) (slots + ms) (wr ++ w1 u) lv (pc + 3) (.int (iZ (r u)) :: rest)) : ZG X g (zD X A) cells slots ws lv pc st0 :=
  z_modW (fun H locs ls hP hD hl0 => va_runVN hC.1 (hM H.size) ⟨va_cnB n hC.1.2.2.2.2 hG hw hr0.1 hr0.2 (hC.2.1.2.2 _ hln) (hC.1.2.2.2.2 _ hini) hd (by rw [hC.2.2.1]; exact hrm), hC.1.2.2.2.2 _ him, hC.1.2.2.2.2 _ hsl⟩ ⟨zPs_blind, by obtain ⟨cell, w1, w2, w3⟩ := va_recv (tys := zT g) hC.2.1.1 hP hc he; exact ⟨cell, w1, w2, by rw [← hq]; exact w3⟩, zPs_at hC hP hD isC hnC his⟩ rfl hlen (hl0.1.trans hC.2.2.2) hst (lv_room hcat) d (by rw [hC.2.2.1]; exact hr)) isC isR his hiR hn hdis kk
theorem z_vnWv (hC : zC X g cc own Ts rm nL) {y : MethodName} {bytes : ByteArray} {maxL index : Nat} {ret : Option FieldType} {wsy wsy' : List Cond} {rmy : Room} {wc : va_W} {C : String} {b : Nat} {As rest : List Value} {S : Type} {post : S → Prop} {w1 : S → va_W} {mc ms : Nat} {wr : va_W} (n : Nat) (hM : zMWv (xl X) y wsy rmy g wc (.ref b :: As) post w1 mc ms) {host : String} (hG : GoodIn Ts wsy) (hln : (own, index, y, host) ∈ zNM) (hini : Cond.initialized y.cls ∈ Ts) (him : Cond.instanceMethod y ∈ Ts) (hsl : Cond.selects C y y ∈ Ts) (hw : wsy = Cond.code y bytes maxL ret :: wsy') (hd : y.cls ≠ "java/lang/invoke/MethodHandle" ∧ y.cls ≠ "java/lang/invoke/VarHandle" ∧ (parseMethodDescriptor y.desc).map (fun d => d.parameters.length) = some n) (hrm : rmy.frames + 1 ≤ rm.frames ∧ 8 + (maxL + 11) + rmy.locals ≤ rm.locals) (hr0 : rmy.cells = mc ∧ rmy.slots = ms) (isC isR : List Nat) (hnC : va_nd isC = true) (his : isC.map (fun i => ws[i]?) = wc.map some) (hiR : isR.map (fun i => ws[i]?) = wr.map some) (hn : va_nd isR = true) (hdis : ∀ i ∈ isR, i ∉ isC) (q0 ci : Nat) {q : vw_C} {fs : List Value} (hc : vwCl[ci]? = some q) (hq : q.1 = C) (he : ws[q0]? = some (b, eo ci fs)) (hlen : As.length = n) {st0 : List Value} (hst : st0 = As.reverse ++ .ref b :: rest) (hcat : (rest.map fun v => v.category).sum ≤ 8) (d : decode cc pc = .ok (.invokevirtual index, 3)) (hr : cells + mc ≤ rm.cells ∧ slots + ms ≤ rm.slots) (kk : ∀ u, post u → ZG X g (zD X A) (cells + mc) (slots + ms) (wr ++ w1 u) lv (pc + 3) rest) : ZG X g (zD X A) cells slots ws lv pc st0 :=
  z_modW (fun H locs ls hP hD hl0 => va_runVN hC.1 (hM H.size) ⟨va_cnB n hC.1.2.2.2.2 hG hw hr0.1 hr0.2 (hC.2.1.2.2 _ hln) (hC.1.2.2.2.2 _ hini) hd (by rw [hC.2.2.1]; exact hrm), hC.1.2.2.2.2 _ him, hC.1.2.2.2.2 _ hsl⟩ ⟨zPs_blind, by obtain ⟨cell, w1, w2, w3⟩ := va_recv (tys := zT g) hC.2.1.1 hP hc he; exact ⟨cell, w1, w2, by rw [← hq]; exact w3⟩, zPs_at hC hP hD isC hnC his⟩ rfl hlen (hl0.1.trans hC.2.2.2) hst (lv_room hcat) d (by rw [hC.2.2.1]; exact hr)) isC isR his hiR hn hdis kk
theorem z_sRi (hC : zC X g cc own Ts rm nL) {y : MethodName} {bytes : ByteArray} {maxL index : Nat} {ret : Option FieldType} {wsy wsy' : List Cond} {rmy : Room} {wc : va_W} {As rest : List Value} {r : Int} (n : Nat) (hM : zMRi (xl X) y wsy rmy g wc As r) (hG : GoodIn Ts (va_wsS own index y wsy)) (hw : wsy = Cond.code y bytes maxL ret :: wsy') (hd : y.cls ≠ "java/lang/invoke/MethodHandle" ∧ y.cls ≠ "java/lang/invoke/VarHandle" ∧ (parseMethodDescriptor y.desc).map (fun d => d.parameters.length) = some n) (hrm : rmy.frames + 1 ≤ rm.frames ∧ 8 + (maxL + 11) + rmy.locals ≤ rm.locals) (hr0 : rmy.cells = 0 ∧ rmy.slots = 0) (is : List Nat) (hn : va_nd is = true) (his : is.map (fun i => ws[i]?) = wc.map some)  (hlen : As.length = n) {st0 : List Value} (hst : st0 = As.reverse ++ rest) (hcat : (rest.map fun v => v.category).sum ≤ 8) (d : decode cc pc = .ok (.invokestatic index, 3)) (hr : cells ≤ rm.cells ∧ slots ≤ rm.slots) (kk : ZG X g Y cells slots ws lv (pc + 3) (.int (iZ r) :: rest)) : ZG X g Y cells slots ws lv pc st0 :=
  z_modR (fun H locs ls hP hD hl0 => va_runS hC.1 hM (va_cwS n hC.1.2.2.2.2 hG hw hr0.1 hr0.2 hd (by rw [hC.2.2.1]; exact hrm)) ⟨zPc_blind, zPc_at hC hP hD is hn his⟩ rfl hlen (hl0.1.trans hC.2.2.2) hst (lv_room hcat) d (by rw [hC.2.2.1]; exact hr)) kk
theorem z_sRl (hC : zC X g cc own Ts rm nL) {y : MethodName} {bytes : ByteArray} {maxL index : Nat} {ret : Option FieldType} {wsy wsy' : List Cond} {rmy : Room} {wc : va_W} {As rest : List Value} {r : Int} (n : Nat) (hM : zMRl (xl X) y wsy rmy g wc As r) (hG : GoodIn Ts (va_wsS own index y wsy)) (hw : wsy = Cond.code y bytes maxL ret :: wsy') (hd : y.cls ≠ "java/lang/invoke/MethodHandle" ∧ y.cls ≠ "java/lang/invoke/VarHandle" ∧ (parseMethodDescriptor y.desc).map (fun d => d.parameters.length) = some n) (hrm : rmy.frames + 1 ≤ rm.frames ∧ 8 + (maxL + 11) + rmy.locals ≤ rm.locals) (hr0 : rmy.cells = 0 ∧ rmy.slots = 0) (is : List Nat) (hn : va_nd is = true) (his : is.map (fun i => ws[i]?) = wc.map some)  (hlen : As.length = n) {st0 : List Value} (hst : st0 = As.reverse ++ rest) (hcat : (rest.map fun v => v.category).sum ≤ 8) (d : decode cc pc = .ok (.invokestatic index, 3)) (hr : cells ≤ rm.cells ∧ slots ≤ rm.slots) (kk : ZG X g Y cells slots ws lv (pc + 3) (.long (lZ r) :: rest)) : ZG X g Y cells slots ws lv pc st0 :=
  z_modR (fun H locs ls hP hD hl0 => va_runS hC.1 hM (va_cwS n hC.1.2.2.2.2 hG hw hr0.1 hr0.2 hd (by rw [hC.2.2.1]; exact hrm)) ⟨zPc_blind, zPc_at hC hP hD is hn his⟩ rfl hlen (hl0.1.trans hC.2.2.2) hst (lv_room hcat) d (by rw [hC.2.2.1]; exact hr)) kk
theorem z_sWv (hC : zC X g cc own Ts rm nL) {y : MethodName} {bytes : ByteArray} {maxL index : Nat} {ret : Option FieldType} {wsy wsy' : List Cond} {rmy : Room} {wc : va_W} {As rest : List Value} {S : Type} {post : S → Prop} {w1 : S → va_W} {mc ms : Nat} {wr : va_W} (n : Nat) (hM : zMWv (xl X) y wsy rmy g wc As post w1 mc ms) (hG : GoodIn Ts (va_wsS own index y wsy)) (hw : wsy = Cond.code y bytes maxL ret :: wsy') (hd : y.cls ≠ "java/lang/invoke/MethodHandle" ∧ y.cls ≠ "java/lang/invoke/VarHandle" ∧ (parseMethodDescriptor y.desc).map (fun d => d.parameters.length) = some n) (hrm : rmy.frames + 1 ≤ rm.frames ∧ 8 + (maxL + 11) + rmy.locals ≤ rm.locals) (hr0 : rmy.cells = mc ∧ rmy.slots = ms) (isC isR : List Nat) (hnC : va_nd isC = true) (his : isC.map (fun i => ws[i]?) = wc.map some) (hiR : isR.map (fun i => ws[i]?) = wr.map some) (hn : va_nd isR = true) (hdis : ∀ i ∈ isR, i ∉ isC)  (hlen : As.length = n) {st0 : List Value} (hst : st0 = As.reverse ++ rest) (hcat : (rest.map fun v => v.category).sum ≤ 8) (d : decode cc pc = .ok (.invokestatic index, 3)) (hr : cells + mc ≤ rm.cells ∧ slots + ms ≤ rm.slots) (kk : ∀ u, post u → ZG X g (zD X A) (cells + mc) (slots + ms) (wr ++ w1 u) lv (pc + 3) rest) : ZG X g (zD X A) cells slots ws lv pc st0 :=
  z_modW (fun H locs ls hP hD hl0 => va_runS hC.1 (hM H.size) (va_cwS n hC.1.2.2.2.2 hG hw hr0.1 hr0.2 hd (by rw [hC.2.2.1]; exact hrm)) ⟨zPs_blind, zPs_at hC hP hD isC hnC his⟩ rfl hlen (hl0.1.trans hC.2.2.2) hst (lv_room hcat) d (by rw [hC.2.2.1]; exact hr)) isC isR his hiR hn hdis kk
theorem z_snRi (hC : zC X g cc own Ts rm nL) {y : MethodName} {bytes : ByteArray} {maxL index : Nat} {ret : Option FieldType} {wsy wsy' : List Cond} {rmy : Room} {wc : va_W} {As rest : List Value} {r : Int} (n : Nat) (hM : zMRi (xl X) y wsy rmy g wc As r) {host : String} (hG : GoodIn Ts wsy) (hln : (own, index, y, host) ∈ zNM) (hini : Cond.initialized y.cls ∈ Ts) (hstt : Cond.static y ∈ Ts) (hw : wsy = Cond.code y bytes maxL ret :: wsy') (hd : y.cls ≠ "java/lang/invoke/MethodHandle" ∧ y.cls ≠ "java/lang/invoke/VarHandle" ∧ (parseMethodDescriptor y.desc).map (fun d => d.parameters.length) = some n) (hrm : rmy.frames + 1 ≤ rm.frames ∧ 8 + (maxL + 11) + rmy.locals ≤ rm.locals) (hr0 : rmy.cells = 0 ∧ rmy.slots = 0) (is : List Nat) (hn : va_nd is = true) (his : is.map (fun i => ws[i]?) = wc.map some)  (hlen : As.length = n) {st0 : List Value} (hst : st0 = As.reverse ++ rest) (hcat : (rest.map fun v => v.category).sum ≤ 8) (d : decode cc pc = .ok (.invokestatic index, 3)) (hr : cells ≤ rm.cells ∧ slots ≤ rm.slots) (kk : ZG X g Y cells slots ws lv (pc + 3) (.int (iZ r) :: rest)) : ZG X g Y cells slots ws lv pc st0 :=
  z_modR (fun H locs ls hP hD hl0 => va_runSN hC.1 hM ⟨va_cnB n hC.1.2.2.2.2 hG hw hr0.1 hr0.2 (hC.2.1.2.2 _ hln) (hC.1.2.2.2.2 _ hini) hd (by rw [hC.2.2.1]; exact hrm), hC.1.2.2.2.2 _ hstt, trivial⟩ ⟨zPc_blind, zPc_at hC hP hD is hn his⟩ rfl hlen (hl0.1.trans hC.2.2.2) hst (lv_room hcat) d (by rw [hC.2.2.1]; exact hr)) kk
theorem z_snRl (hC : zC X g cc own Ts rm nL) {y : MethodName} {bytes : ByteArray} {maxL index : Nat} {ret : Option FieldType} {wsy wsy' : List Cond} {rmy : Room} {wc : va_W} {As rest : List Value} {r : Int} (n : Nat) (hM : zMRl (xl X) y wsy rmy g wc As r) {host : String} (hG : GoodIn Ts wsy) (hln : (own, index, y, host) ∈ zNM) (hini : Cond.initialized y.cls ∈ Ts) (hstt : Cond.static y ∈ Ts) (hw : wsy = Cond.code y bytes maxL ret :: wsy') (hd : y.cls ≠ "java/lang/invoke/MethodHandle" ∧ y.cls ≠ "java/lang/invoke/VarHandle" ∧ (parseMethodDescriptor y.desc).map (fun d => d.parameters.length) = some n) (hrm : rmy.frames + 1 ≤ rm.frames ∧ 8 + (maxL + 11) + rmy.locals ≤ rm.locals) (hr0 : rmy.cells = 0 ∧ rmy.slots = 0) (is : List Nat) (hn : va_nd is = true) (his : is.map (fun i => ws[i]?) = wc.map some)  (hlen : As.length = n) {st0 : List Value} (hst : st0 = As.reverse ++ rest) (hcat : (rest.map fun v => v.category).sum ≤ 8) (d : decode cc pc = .ok (.invokestatic index, 3)) (hr : cells ≤ rm.cells ∧ slots ≤ rm.slots) (kk : ZG X g Y cells slots ws lv (pc + 3) (.long (lZ r) :: rest)) : ZG X g Y cells slots ws lv pc st0 :=
  z_modR (fun H locs ls hP hD hl0 => va_runSN hC.1 hM ⟨va_cnB n hC.1.2.2.2.2 hG hw hr0.1 hr0.2 (hC.2.1.2.2 _ hln) (hC.1.2.2.2.2 _ hini) hd (by rw [hC.2.2.1]; exact hrm), hC.1.2.2.2.2 _ hstt, trivial⟩ ⟨zPc_blind, zPc_at hC hP hD is hn his⟩ rfl hlen (hl0.1.trans hC.2.2.2) hst (lv_room hcat) d (by rw [hC.2.2.1]; exact hr)) kk
theorem z_snWv (hC : zC X g cc own Ts rm nL) {y : MethodName} {bytes : ByteArray} {maxL index : Nat} {ret : Option FieldType} {wsy wsy' : List Cond} {rmy : Room} {wc : va_W} {As rest : List Value} {S : Type} {post : S → Prop} {w1 : S → va_W} {mc ms : Nat} {wr : va_W} (n : Nat) (hM : zMWv (xl X) y wsy rmy g wc As post w1 mc ms) {host : String} (hG : GoodIn Ts wsy) (hln : (own, index, y, host) ∈ zNM) (hini : Cond.initialized y.cls ∈ Ts) (hstt : Cond.static y ∈ Ts) (hw : wsy = Cond.code y bytes maxL ret :: wsy') (hd : y.cls ≠ "java/lang/invoke/MethodHandle" ∧ y.cls ≠ "java/lang/invoke/VarHandle" ∧ (parseMethodDescriptor y.desc).map (fun d => d.parameters.length) = some n) (hrm : rmy.frames + 1 ≤ rm.frames ∧ 8 + (maxL + 11) + rmy.locals ≤ rm.locals) (hr0 : rmy.cells = mc ∧ rmy.slots = ms) (isC isR : List Nat) (hnC : va_nd isC = true) (his : isC.map (fun i => ws[i]?) = wc.map some) (hiR : isR.map (fun i => ws[i]?) = wr.map some) (hn : va_nd isR = true) (hdis : ∀ i ∈ isR, i ∉ isC)  (hlen : As.length = n) {st0 : List Value} (hst : st0 = As.reverse ++ rest) (hcat : (rest.map fun v => v.category).sum ≤ 8) (d : decode cc pc = .ok (.invokestatic index, 3)) (hr : cells + mc ≤ rm.cells ∧ slots + ms ≤ rm.slots) (kk : ∀ u, post u → ZG X g (zD X A) (cells + mc) (slots + ms) (wr ++ w1 u) lv (pc + 3) rest) : ZG X g (zD X A) cells slots ws lv pc st0 :=
  z_modW (fun H locs ls hP hD hl0 => va_runSN hC.1 (hM H.size) ⟨va_cnB n hC.1.2.2.2.2 hG hw hr0.1 hr0.2 (hC.2.1.2.2 _ hln) (hC.1.2.2.2.2 _ hini) hd (by rw [hC.2.2.1]; exact hrm), hC.1.2.2.2.2 _ hstt, trivial⟩ ⟨zPs_blind, zPs_at hC hP hD isC hnC his⟩ rfl hlen (hl0.1.trans hC.2.2.2) hst (lv_room hcat) d (by rw [hC.2.2.1]; exact hr)) isC isR his hiR hn hdis kk
theorem z_iWv (hC : zC X g cc own Ts rm nL) {y : MethodName} {bytes : ByteArray} {maxL index : Nat} {wsy wsy' : List Cond} {rmy : Room} {wc : va_W} {b : Nat} {As rest : List Value} {S : Type} {post : S → Prop} {w1 : S → va_W} {mc ms : Nat} {wr : va_W} (n : Nat) (hM : zMWv (xl X) y wsy rmy g wc (.ref b :: As) post w1 mc ms) (hG : GoodIn Ts wsy) (hini : Cond.initialized y.cls ∈ Ts) (hlk : Cond.methodLink own index y ∈ Ts) (him : Cond.instanceMethod y ∈ Ts) (hy1 : y.name = "<init>") (hw : wsy = Cond.code y bytes maxL none :: wsy') (hd : y.cls ≠ "java/lang/invoke/MethodHandle" ∧ y.cls ≠ "java/lang/invoke/VarHandle" ∧ (parseMethodDescriptor y.desc).map (fun d => d.parameters.length) = some n) (hrm : rmy.frames + 1 ≤ rm.frames ∧ 8 + (maxL + 11) + rmy.locals ≤ rm.locals) (hr0 : rmy.cells = mc ∧ rmy.slots = ms) (isC isR : List Nat) (hnC : va_nd isC = true) (his : isC.map (fun i => ws[i]?) = wc.map some) (hiR : isR.map (fun i => ws[i]?) = wr.map some) (hn : va_nd isR = true) (hdis : ∀ i ∈ isR, i ∉ isC)  (hlen : As.length = n) {st0 : List Value} (hst : st0 = As.reverse ++ .ref b :: rest) (hcat : (rest.map fun v => v.category).sum ≤ 8) (d : decode cc pc = .ok (.invokespecial index, 3)) (hr : cells + mc ≤ rm.cells ∧ slots + ms ≤ rm.slots) (kk : ∀ u, post u → ZG X g (zD X A) (cells + mc) (slots + ms) (wr ++ w1 u) lv (pc + 3) rest) : ZG X g (zD X A) cells slots ws lv pc st0 :=
  z_modW (fun H locs ls hP hD hl0 => va_runI hC.1 (hM H.size) (cwI n hC.1.2.2.2.2 hG hw hr0.1 hr0.2 (hC.1.2.2.2.2 _ hini) (hC.1.2.2.2.2 _ hlk) (hC.1.2.2.2.2 _ him) hy1 hd (by rw [hC.2.2.1]; exact hrm)) ⟨zPs_blind, zPs_at hC hP hD isC hnC his⟩ rfl hlen (hl0.1.trans hC.2.2.2) hst (lv_room hcat) d (by rw [hC.2.2.1]; exact hr)) isC isR his hiR hn hdis kk
theorem z_inWv (hC : zC X g cc own Ts rm nL) {y : MethodName} {bytes : ByteArray} {maxL index : Nat} {wsy wsy' : List Cond} {rmy : Room} {wc : va_W} {b : Nat} {As rest : List Value} {S : Type} {post : S → Prop} {w1 : S → va_W} {mc ms : Nat} {wr : va_W} (n : Nat) (hM : zMWv (xl X) y wsy rmy g wc (.ref b :: As) post w1 mc ms) {host : String} (hG : GoodIn Ts wsy) (hln : (own, index, y, host) ∈ zNM) (hini : Cond.initialized y.cls ∈ Ts) (him : Cond.instanceMethod y ∈ Ts) (hy1 : y.name = "<init>") (hw : wsy = Cond.code y bytes maxL none :: wsy') (hd : y.cls ≠ "java/lang/invoke/MethodHandle" ∧ y.cls ≠ "java/lang/invoke/VarHandle" ∧ (parseMethodDescriptor y.desc).map (fun d => d.parameters.length) = some n) (hrm : rmy.frames + 1 ≤ rm.frames ∧ 8 + (maxL + 11) + rmy.locals ≤ rm.locals) (hr0 : rmy.cells = mc ∧ rmy.slots = ms) (isC isR : List Nat) (hnC : va_nd isC = true) (his : isC.map (fun i => ws[i]?) = wc.map some) (hiR : isR.map (fun i => ws[i]?) = wr.map some) (hn : va_nd isR = true) (hdis : ∀ i ∈ isR, i ∉ isC)  (hlen : As.length = n) {st0 : List Value} (hst : st0 = As.reverse ++ .ref b :: rest) (hcat : (rest.map fun v => v.category).sum ≤ 8) (d : decode cc pc = .ok (.invokespecial index, 3)) (hr : cells + mc ≤ rm.cells ∧ slots + ms ≤ rm.slots) (kk : ∀ u, post u → ZG X g (zD X A) (cells + mc) (slots + ms) (wr ++ w1 u) lv (pc + 3) rest) : ZG X g (zD X A) cells slots ws lv pc st0 :=
  z_modW (fun H locs ls hP hD hl0 => va_runIN hC.1 (hM H.size) ⟨va_cnB n hC.1.2.2.2.2 hG hw hr0.1 hr0.2 (hC.2.1.2.2 _ hln) (hC.1.2.2.2.2 _ hini) hd (by rw [hC.2.2.1]; exact hrm), hy1, hC.1.2.2.2.2 _ him⟩ ⟨zPs_blind, zPs_at hC hP hD isC hnC his⟩ rfl hlen (hl0.1.trans hC.2.2.2) hst (lv_room hcat) d (by rw [hC.2.2.1]; exact hr)) isC isR his hiR hn hdis kk
theorem z_ofW {l : Launch} {y : MethodName} {wsy wsy' : List Cond} {rmy : Room} {Pc : Array Value → State → Prop} {Qc : Array Value → State → Outcome → State → Prop} {mc ms : Nat} {free : Addr → Prop} {ret : Option FieldType} (hy : plainFor y = true) (hw : wsy = Cond.code y cc nL ret :: wsy')
    (body : ∀ p e s m args below meth c s₁, BodyLoose p l y (headSpec wsy rmy) cc nL ret e s m args below meth c s₁ → c.maxLocals = nL → Pc args s → W p l e (headSpec wsy rmy).room s m args below meth c s.heap [] 0 0 (MQ below Qc args s mc ms free) (entryFrame m args nL)) : Met l y wsy rmy Pc Qc mc ms free := by
  refine MetFree.of_bodySF (code := cc) (maxLocals := nL) (ret := ret) hy (fun args s m h hn => ?_) (fun p e s m args below meth c s₁ B hml hP _ => ?_)
  · have hcd := Cond.code_spec hn (atoms_spec (ws := wsy) h _ (by rw [hw]; exact List.mem_cons_self))
    obtain ⟨meth, c, g1, g2, g3, g4, g5, g6, -, -⟩ := hcd
    exact ⟨meth, c, g1, g2, g3, g4, g5, g6⟩
  · obtain ⟨t, a1, o, b1, b2, b3, b4⟩ := body p e s m args below meth c s₁ B hml hP s₁ (by rw [B.state]; rfl) (Stand.of_body B)
    exact ⟨t, o, a1, b1, b2, b3, b4⟩
theorem z_enter {l : Launch} {y : MethodName} {wsy wsy' : List Cond} {rmy : Room} {Pc : Array Value → State → Prop} {Qc : Array Value → State → Outcome → State → Prop} {mc ms : Nat} {free : Nat → Nat → Prop} {ret : Option FieldType} {wc : va_W} {As : List Value} (sz : Nat)
    (hPc : ∀ a U, Pc a U → a = As.toArray ∧ va_P g.1 vwCl wc U.heap ∧ zK g U ∧ va_D (fun _ => True) wc ∧ free sz = free U.heap.size) (hy : plainFor y = true) (hw : wsy = Cond.code y cc nL ret :: wsy') (hlen : (lg_sl As).length ≤ nL)
    (body : ∀ (X : zX), zC X g cc y.cls wsy rmy nL → (xM X).name = y.name → (xM X).sig.returnType = ret → (xM X).locks = false → xa X = As.toArray → xQ X = MQ (xb X) Qc (xa X) (xs X) mc ms (free (xs X).heap.size) → Pc As.toArray (xs X) → va_D (fun _ => True) wc → ∀ ls, lv_has ls nL (lv_args 0 As) → va_P g.1 vwCl wc (xs X).heap → W (xp X) (xl X) (xe X) (xR X) (xs X) (xm X) (xa X) (xb X) (xM X) (xc X) (xs X).heap [] 0 0 (xQ X) (F0 (xm X) 0 ls [])) : Met l y wsy rmy Pc Qc mc ms (free sz) := by
  refine z_ofW (cc := cc) (nL := nL) (ret := ret) hy hw ?_
  intro p e s m args below meth c s₁ B hml hv
  obtain ⟨rfl, hP, hK, hD, hfr⟩ := hPc _ _ hv
  rw [hfr, lg_entry_eq]
  exact body (p, l, e, _, s, m, As.toArray, below, meth, c, nL, _) ⟨⟨B.exec, B.bytes, hml, findClass_of_methodNamed B.named, atoms_spec (ws := wsy) B.pre⟩, hK, rfl, rfl⟩ (name_of_methodNamed B.named B.method).1 B.returns B.notSynchronized rfl rfl hv hD _ (lv_entry As hlen) hP
theorem z_beRi {l : Launch} {y : MethodName} {wsy wsy' : List Cond} {rmy : Room} {ret : Option FieldType} {wc : va_W} {As : List Value} {r : Int} (hy : plainFor y = true) (hw : wsy = Cond.code y cc nL ret :: wsy') (hret : ret = some .int ∨ (ret = some .boolean ∧ (r = 0 ∨ r = 1))) (hlen : (lg_sl As).length ≤ nL)
    (body : ∀ (X : zX), zC X g cc y.cls wsy rmy nL → (∀ (ws : va_W) (lv : List (Nat × Value)) (pc : Nat) (r' : Int), r' = r → decode cc pc = .ok (.ireturn, 1) → ZG X g (zE X) 0 0 ws lv pc [.int (iZ r')]) → ZG X g (zE X) 0 0 wc (lv_args 0 As) 0 []) : zMRi l y wsy rmy g wc As r := by
  refine z_enter (g := g) (cc := cc) (nL := nL) (ret := ret) (wc := wc) (As := As) (free := fun _ _ => False) 0 (fun a U h => ⟨h.1, h.2.1, h.2.2.1, h.2.2.2, rfl⟩) hy hw hlen ?_
  intro X hC hN hr hlocks hxa hxq hPcX hD ls hl hP
  refine body X hC ?_ (xs X).heap [] ls hP hD ⟨rfl, rfl⟩ (by rw [hC.2.2.2]; exact hl)
  intro ws lv pc r' hr' d H locs ls hP hD hY hl
  obtain ⟨rfl, rfl⟩ := hY
  subst hr'
  rw [hxq]
  rcases hret with h | ⟨h, h01⟩
  · exact W.iret hC.1.1 hC.1.2.1 (hr.trans h) (fun t ht hW => ⟨rfl, ht⟩) (fun q hq => by cases hq) d hlocks
  · exact W.zret hC.1.1 hC.1.2.1 (hr.trans h) (nar_bool h01) (fun t ht hW => ⟨rfl, ht⟩) (fun q hq => by cases hq) d hlocks
theorem z_beRl {l : Launch} {y : MethodName} {wsy wsy' : List Cond} {rmy : Room} {wc : va_W} {As : List Value} {r : Int} (hy : plainFor y = true) (hw : wsy = Cond.code y cc nL (some .long) :: wsy') (hlen : (lg_sl As).length ≤ nL)
    (body : ∀ (X : zX), zC X g cc y.cls wsy rmy nL → (∀ (ws : va_W) (lv : List (Nat × Value)) (pc : Nat) (r' : Int), r' = r → decode cc pc = .ok (.lreturn, 1) → ZG X g (zE X) 0 0 ws lv pc [.long (lZ r')]) → ZG X g (zE X) 0 0 wc (lv_args 0 As) 0 []) : zMRl l y wsy rmy g wc As r := by
  refine z_enter (g := g) (cc := cc) (nL := nL) (ret := some .long) (wc := wc) (As := As) (free := fun _ _ => False) 0 (fun a U h => ⟨h.1, h.2.1, h.2.2.1, h.2.2.2, rfl⟩) hy hw hlen ?_
  intro X hC hN hr hlocks hxa hxq hPcX hD ls hl hP
  refine body X hC ?_ (xs X).heap [] ls hP hD ⟨rfl, rfl⟩ (by rw [hC.2.2.2]; exact hl)
  intro ws lv pc r' hr' d H locs ls hP hD hY hl
  obtain ⟨rfl, rfl⟩ := hY
  subst hr'
  rw [hxq]
  exact W.lret hC.1.1 hC.1.2.1 hr (fun t ht hW => ⟨rfl, ht⟩) (fun q hq => by cases hq) d hlocks
theorem z_beWv {S : Type} {l : Launch} {y : MethodName} {wsy wsy' : List Cond} {rmy : Room} {wc : va_W} {As : List Value} {post : S → Prop} {w1 : S → va_W} {mc ms : Nat} (hy : plainFor y = true) (hw : wsy = Cond.code y cc nL none :: wsy') (hlen : (lg_sl As).length ≤ nL)
    (body : ∀ (X : zX) (A : Nat → Prop), zC X g cc y.cls wsy rmy nL → (xM X).name = y.name → (∀ (u : S) (ws : va_W) (lv : List (Nat × Value)) (pc : Nat) (is : List Nat), post u → va_nd is = true → is.map (fun i => ws[i]?) = (w1 u).map some → decode cc pc = .ok (.return_, 1) → ZG X g (zD X A) mc ms ws lv pc []) → ZG X g (zD X A) 0 0 wc (lv_args 0 As) 0 []) : zMWv l y wsy rmy g wc As post w1 mc ms := by
  intro sz
  refine z_enter (g := g) (cc := cc) (nL := nL) (ret := none) (wc := wc) (As := As) (free := va_A wc) sz (fun a U h => ⟨h.1, h.2.2.1, h.2.2.2.1, h.2.2.2.2, by rw [h.2.1]⟩) hy hw hlen ?_
  intro X hC hN hr hlocks hxa hxq hPcX hD ls hl hP
  have hsz : (xs X).heap.size = sz := hPcX.2.1
  subst hsz
  refine body X (va_A wc (xs X).heap.size) hC hN ?_ (xs X).heap [] ls hP hD ⟨hD.self, va_S.rf, fun q h => Or.inr h⟩ (by rw [hC.2.2.2]; exact hl)
  intro u ws lv pc is hp hn his d H locs ls hP hD hY hl
  rw [hxq]
  exact W.vret hC.1.1 hC.1.2.1 hr (fun t ht hW => ⟨⟨u, rfl, hp, by rw [ht]; exact hP.sub is (z_fm his), hY.1.sub is hn his⟩, hY.2.1.F ht⟩) hY.2.1.2.2 d hlocks
theorem z_beWi {S : Type} {l : Launch} {y : MethodName} {wsy wsy' : List Cond} {rmy : Room} {wc : va_W} {As : List Value} {post : S → Prop} {r : S → Int} {w1 : S → va_W} {mc ms : Nat} {ret : Option FieldType} (hy : plainFor y = true) (hw : wsy = Cond.code y cc nL ret :: wsy') (hret : ret = some .int ∨ (ret = some .boolean ∧ ∀ u, post u → r u = 0 ∨ r u = 1)) (hlen : (lg_sl As).length ≤ nL)
    (body : ∀ (X : zX) (A : Nat → Prop), zC X g cc y.cls wsy rmy nL → (xM X).name = y.name → (∀ (u : S) (ws : va_W) (lv : List (Nat × Value)) (pc : Nat) (is : List Nat) (r' : Int), post u → r' = r u → va_nd is = true → is.map (fun i => ws[i]?) = (w1 u).map some → decode cc pc = .ok (.ireturn, 1) → ZG X g (zD X A) mc ms ws lv pc [.int (iZ r')]) → ZG X g (zD X A) 0 0 wc (lv_args 0 As) 0 []) : zMWi l y wsy rmy g wc As post r w1 mc ms := by
  intro sz
  refine z_enter (g := g) (cc := cc) (nL := nL) (ret := ret) (wc := wc) (As := As) (free := va_A wc) sz (fun a U h => ⟨h.1, h.2.2.1, h.2.2.2.1, h.2.2.2.2, by rw [h.2.1]⟩) hy hw hlen ?_
  intro X hC hN hr hlocks hxa hxq hPcX hD ls hl hP
  have hsz : (xs X).heap.size = sz := hPcX.2.1
  subst hsz
  refine body X (va_A wc (xs X).heap.size) hC hN ?_ (xs X).heap [] ls hP hD ⟨hD.self, va_S.rf, fun q h => Or.inr h⟩ (by rw [hC.2.2.2]; exact hl)
  intro u ws lv pc is r' hp hr' hn his d H locs ls hP hD hY hl
  subst hr'
  rw [hxq]
  rcases hret with h | ⟨h, h01⟩
  · exact W.iret hC.1.1 hC.1.2.1 (hr.trans h) (fun t ht hW => ⟨⟨u, rfl, hp, by rw [ht]; exact hP.sub is (z_fm his), hY.1.sub is hn his⟩, hY.2.1.F ht⟩) hY.2.1.2.2 d hlocks
  · exact W.zret hC.1.1 hC.1.2.1 (hr.trans h) (nar_bool (h01 u hp)) (fun t ht hW => ⟨⟨u, rfl, hp, by rw [ht]; exact hP.sub is (z_fm his), hY.1.sub is hn his⟩, hY.2.1.F ht⟩) hY.2.1.2.2 d hlocks
end ZHEAP
end
section
noncomputable def b2 (P : Prop) : Int := @ite _ P (Classical.propDecidable P) 1 0
theorem b2_1 {P : Prop} (h : P) : b2 P = 1 := by unfold b2; exact if_pos h
theorem b2_0 {P : Prop} (h : ¬ P) : b2 P = 0 := by unfold b2; exact if_neg h
theorem b2_01 (P : Prop) : b2 P = 0 ∨ b2 P = 1 := by by_cases h : P; exact Or.inr (b2_1 h); exact Or.inl (b2_0 h)
theorem b2_r (P : Prop) : -2147483648 ≤ b2 P ∧ b2 P ≤ 2147483647 := by rcases b2_01 P with h | h <;> omega
theorem b2_t {P : Prop} (h : ¬ b2 P = 0) : P := by by_cases q : P; exact q; exact absurd (b2_0 q) h
theorem b2_f {P : Prop} (h : b2 P = 0) : ¬ P := fun q => by rw [b2_1 q] at h; omega
theorem b2_1' {P : Prop} (h : P) : 1 = b2 P := (b2_1 h).symm
theorem b2_0' {P : Prop} (h : ¬ P) : 0 = b2 P := (b2_0 h).symm
theorem b2_eq {P Q : Prop} (h : P ↔ Q) : b2 P = b2 Q := by by_cases q : P; rw [b2_1 q, b2_1 (h.mp q)]; rw [b2_0 q, b2_0 (fun z => q (h.mpr z))]
/-- a break may be there -/
def zMay (K V M : Int → Int) (n p mt : Int) : Prop := p = n ∨ (p < n ∧ ((K p = 1 ∧ 0 < p ∧ K (p - 1) = 0) ∨ (K p = 2 ∧ V p < 10000 ∧ (mt = 1 ∨ M p = 0))))
/-- a break has to be there -/
def zMust (K V : Int → Int) (n p : Int) : Prop := p < n ∧ K p = 2 ∧ V p = -10000
/-- a class's items, as far as they are there -/
def zIok (n : Int) (K V P M : Int → Int) : Prop := (0 ≤ n ∧ n ≤ 100) ∧ (∀ j, 0 ≤ j → j < n → 0 ≤ K j ∧ K j ≤ 2) ∧ ∀ j, 0 ≤ j → j < n → K j = 2 → (-10000 ≤ V j ∧ V j ≤ 10000) ∧ (M j = 0 ∨ M j = 1) ∧ 0 ≤ P j ∧ P j ≤ 10000
/-- the next box from j on, before e (fuel: e - j) -/
def nbF (K : Int → Int) : Nat → Int → Int
  | 0, j => j
  | k + 1, j => if K j = 0 then j else nbF K k (j + 1)
def nb (K : Int → Int) (e j : Int) : Int := nbF K (e - j).toNat j
theorem nb_end {K : Int → Int} {e j : Int} (h : e ≤ j) : nb K e j = j := by
  unfold nb; rw [show (e - j).toNat = 0 by omega]; rfl
theorem nb_box {K : Int → Int} {e j : Int} (h : K j = 0) : nb K e j = j := by
  unfold nb
  cases (e - j).toNat with
  | zero => rfl
  | succ k => simp [nbF, h]
theorem nb_go {K : Int → Int} {e j : Int} (h : j < e) (hk : ¬ K j = 0) : nb K e j = nb K e (j + 1) := by
  unfold nb
  rw [show (e - j).toNat = (e - (j + 1)).toNat + 1 by omega]
  simp [nbF, hk]
theorem nb_in {K : Int → Int} : ∀ (k : Nat) {e j : Int}, (e - j).toNat ≤ k → j ≤ e → j ≤ nb K e j ∧ nb K e j ≤ e := by
  intro k
  induction k with
  | zero => intro e j h1 h2; rw [nb_end (by omega)]; omega
  | succ k ih =>
    intro e j h1 h2
    by_cases hj : e ≤ j
    · rw [nb_end hj]; omega
    · by_cases hk : K j = 0
      · rw [nb_box hk]; omega
      · rw [nb_go (by omega) hk]
        have := @ih e (j + 1) (by omega) (by omega)
        omega
theorem nb_le {K : Int → Int} {e j : Int} (h : j ≤ e) : j ≤ nb K e j ∧ nb K e j ≤ e := nb_in _ (Nat.le_refl _) h
/-- where what counts in a line behind a begins -/
def zSt (K : Int → Int) (n a : Int) : Int := if a < 0 then 0 else nb K n (a + 1)
/-- p squared, by its sign -/
def zPen (K V : Int → Int) (n p : Int) : Int := if p < n ∧ K p = 2 ∧ ¬ V p = -10000 then (if V p < 0 then -(V p) * V p else V p * V p) else 0
theorem zPen_0 {K V : Int → Int} {n p : Int} (h : ¬ (p < n ∧ K p = 2 ∧ ¬ V p = -10000)) : 0 = zPen K V n p := by unfold zPen; rw [if_neg h]
theorem zPen_n {K V : Int → Int} {n p : Int} (h : p < n ∧ K p = 2 ∧ ¬ V p = -10000) (h2 : V p < 0) : -(V p) * V p = zPen K V n p := by unfold zPen; rw [if_pos h, if_pos h2]
theorem zPen_p {K V : Int → Int} {n p : Int} (h : p < n ∧ K p = 2 ∧ ¬ V p = -10000) (h2 : ¬ V p < 0) : V p * V p = zPen K V n p := by unfold zPen; rw [if_pos h, if_neg h2]
theorem hd_X0_isKind_v : yX0_isKind.cls = RX0 ∧ yX0_isKind.cls ≠ "java/lang/invoke/MethodHandle" ∧ yX0_isKind.cls ≠ "java/lang/invoke/VarHandle" ∧ (parseMethodDescriptor yX0_isKind.desc).map (fun d => d.parameters.length) = some 2 := by decide +kernel
theorem hd_X0_isEnd_v : yX0_isEnd.cls = RX0 ∧ yX0_isEnd.cls ≠ "java/lang/invoke/MethodHandle" ∧ yX0_isEnd.cls ≠ "java/lang/invoke/VarHandle" ∧ (parseMethodDescriptor yX0_isEnd.desc).map (fun d => d.parameters.length) = some 1 := by decide +kernel
theorem hd_X0_append_v : yX0_append.cls = RX0 ∧ yX0_append.cls ≠ "java/lang/invoke/MethodHandle" ∧ yX0_append.cls ≠ "java/lang/invoke/VarHandle" ∧ (parseMethodDescriptor yX0_append.desc).map (fun d => d.parameters.length) = some 4 := by decide +kernel
set_option maxRecDepth 20000 in
theorem mX0_isEnd_f34 : Cond.fieldLink RX0 34 "BreakSearch$Items" "count" "I" ∈ wsX0_isEnd := by decide +kernel
set_option maxRecDepth 20000 in
theorem iX0_isEnd_0 : ∀ w ∈ u_ws RX0 TX0 8, w ∈ wsX0_isEnd := by decide +kernel
abbrev rm_X0_isEnd : Room := { frames := 1, cells := 0, slots := 0, locals := 12 }
set_option maxHeartbeats 4000000 in
set_option maxRecDepth 100000 in
theorem c_X0_isEnd (l : Launch) (g : zG) (hI aK aV aP aM aL aS aH : Nat) (n : Int) (K V P M LB SB HB : Int → Int) (p : Int) (h1 : 0 ≤ n ∧ n ≤ 100) (h2 : -2147483648 ≤ p ∧ p ≤ 2147483647) : zMRi l yX0_isEnd wsX0_isEnd rm_X0_isEnd g [(hI, eo 0 [.ref aK, .ref aV, .ref aP, .ref aM, .ref aL, .ref aS, .ref aH, .int (iZ (n))]), (aK, ei g 100 K), (aV, ei g 100 V), (aP, ei g 100 P), (aM, ez g 100 M), (aL, ei g 101 LB), (aS, ei g 101 SB), (aH, ei g 101 HB)] [.ref hI, .int (iZ (p))] (b2 (n ≤ p)) := by
  refine z_beRi (cc := cX0_isEnd) (nL := 2) (ret := some .boolean) (plainFor_of_name (by decide +kernel)) rfl (Or.inr ⟨rfl, b2_01 _⟩) (Nat.le_of_ble_eq_true rfl) ?_
  intro X hC hR
  have hC : zC X g cX0_isEnd RX0 wsX0_isEnd rm_X0_isEnd 2 := hC
  show ZG X g (zE X) 0 0 [(hI, eo 0 [.ref aK, .ref aV, .ref aP, .ref aM, .ref aL, .ref aS, .ref aH, .int (iZ (n))]), (aK, ei g 100 K), (aV, ei g 100 V), (aP, ei g 100 P), (aM, ez g 100 M), (aL, ei g 101 LB), (aS, ei g 101 SB), (aH, ei g 101 HB)] [(0, .ref hI), (1, .int (iZ (p)))] 0 []
  refine z_iload_n hC 1 dX0_isEnd_0 rfl rfl ?_
  refine z_aload_n hC 0 dX0_isEnd_1 rfl rfl ?_
  refine z_get hC iX0_isEnd_0 0 7 rfl rfl (by decide) mX0_isEnd_f34 rfl dX0_isEnd_2 ?_
  refine z_icmp_lt hC 12 dX0_isEnd_5 (by decide) (by omega) (by omega) (fun c_5 => ?_) (fun c_5 => ?_)
  ·
    refine z_iconst hC dX0_isEnd_12 ?_
    exact hR _ _ _ _ (by first | exact b2_1' (by omega) | exact b2_0' (by omega) | exact b2_eq (by omega)) dX0_isEnd_13
  ·
    refine z_iconst hC dX0_isEnd_8 ?_
    refine z_goto (tgt := 13) hC dX0_isEnd_9 (by decide) ?_
    exact hR _ _ _ _ (by first | exact b2_1' (by omega) | exact b2_0' (by omega) | exact b2_eq (by omega)) dX0_isEnd_13
set_option maxRecDepth 20000 in
theorem mX0_isKind_f34 : Cond.fieldLink RX0 34 "BreakSearch$Items" "count" "I" ∈ wsX0_isKind := by decide +kernel
set_option maxRecDepth 20000 in
theorem iX0_isKind_0 : ∀ w ∈ u_ws RX0 TX0 8, w ∈ wsX0_isKind := by decide +kernel
set_option maxRecDepth 20000 in
theorem mX0_isKind_f9 : Cond.fieldLink RX0 9 "BreakSearch$Items" "kinds" "[I" ∈ wsX0_isKind := by decide +kernel
abbrev rm_X0_isKind : Room := { frames := 1, cells := 0, slots := 0, locals := 12 }
set_option maxHeartbeats 4000000 in
set_option maxRecDepth 100000 in
theorem c_X0_isKind (l : Launch) (g : zG) (hI aK aV aP aM aL aS aH : Nat) (n : Int) (K V P M LB SB HB : Int → Int) (p k : Int) (h1 : zIok n K V P M) (h2 : -2147483648 ≤ p ∧ p ≤ 2147483647) (h3 : 0 ≤ k ∧ k ≤ 2) : zMRi l yX0_isKind wsX0_isKind rm_X0_isKind g [(hI, eo 0 [.ref aK, .ref aV, .ref aP, .ref aM, .ref aL, .ref aS, .ref aH, .int (iZ (n))]), (aK, ei g 100 K), (aV, ei g 100 V), (aP, ei g 100 P), (aM, ez g 100 M), (aL, ei g 101 LB), (aS, ei g 101 SB), (aH, ei g 101 HB)] [.ref hI, .int (iZ (p)), .int (iZ (k))] (b2 (0 ≤ p ∧ p < n ∧ K p = k)) := by
  refine z_beRi (cc := cX0_isKind) (nL := 3) (ret := some .boolean) (plainFor_of_name (by decide +kernel)) rfl (Or.inr ⟨rfl, b2_01 _⟩) (Nat.le_of_ble_eq_true rfl) ?_
  intro X hC hR
  have hC : zC X g cX0_isKind RX0 wsX0_isKind rm_X0_isKind 3 := hC
  show ZG X g (zE X) 0 0 [(hI, eo 0 [.ref aK, .ref aV, .ref aP, .ref aM, .ref aL, .ref aS, .ref aH, .int (iZ (n))]), (aK, ei g 100 K), (aV, ei g 100 V), (aP, ei g 100 P), (aM, ez g 100 M), (aL, ei g 101 LB), (aS, ei g 101 SB), (aH, ei g 101 HB)] [(0, .ref hI), (1, .int (iZ (p))), (2, .int (iZ (k)))] 0 []
  have ⟨hn, hK, hV⟩ := h1
  refine z_iload_n hC 1 dX0_isKind_0 rfl rfl ?_
  refine z_if_lt hC 26 dX0_isKind_1 (by decide) (by omega) (fun c_1 => ?_) (fun c_1 => ?_)
  ·
    refine z_iconst hC dX0_isKind_26 ?_
    exact hR _ _ _ _ (by first | exact b2_1' (by omega) | exact b2_0' (by omega) | exact b2_eq (by omega)) dX0_isKind_27
  ·
    refine z_iload_n hC 1 dX0_isKind_4 rfl rfl ?_
    refine z_aload_n hC 0 dX0_isKind_5 rfl rfl ?_
    refine z_get hC iX0_isKind_0 0 7 rfl rfl (by decide) mX0_isKind_f34 rfl dX0_isKind_6 ?_
    refine z_icmp_ge hC 26 dX0_isKind_9 (by decide) (by omega) (by omega) (fun c_9 => ?_) (fun c_9 => ?_)
    ·
      refine z_iconst hC dX0_isKind_26 ?_
      exact hR _ _ _ _ (by first | exact b2_1' (by omega) | exact b2_0' (by omega) | exact b2_eq (by omega)) dX0_isKind_27
    ·
      refine z_aload_n hC 0 dX0_isKind_12 rfl rfl ?_
      refine z_get hC iX0_isKind_0 0 0 rfl rfl (by decide) mX0_isKind_f9 rfl dX0_isKind_13 ?_
      refine z_iload_n hC 1 dX0_isKind_16 rfl rfl ?_
      refine z_iald hC 1 rfl (by omega) (by decide) dX0_isKind_17 ?_
      refine z_iload_n hC 2 dX0_isKind_18 rfl rfl ?_
      refine z_icmp_ne hC 26 dX0_isKind_19 (by decide) (by have := hK p (by omega) (by omega); omega) (by omega) (fun c_19 => ?_) (fun c_19 => ?_)
      ·
        refine z_iconst hC dX0_isKind_26 ?_
        exact hR _ _ _ _ (by first | exact b2_1' (by omega) | exact b2_0' (by omega) | exact b2_eq (by omega)) dX0_isKind_27
      ·
        refine z_iconst hC dX0_isKind_22 ?_
        refine z_goto (tgt := 27) hC dX0_isKind_23 (by decide) ?_
        exact hR _ _ _ _ (by first | exact b2_1' (by omega) | exact b2_0' (by omega) | exact b2_eq (by omega)) dX0_isKind_27
set_option maxRecDepth 20000 in
theorem mX0_isMarked_f21 : Cond.fieldLink RX0 21 "BreakSearch$Items" "marks" "[Z" ∈ wsX0_isMarked := by decide +kernel
set_option maxRecDepth 20000 in
theorem iX0_isMarked_0 : ∀ w ∈ u_ws RX0 TX0 8, w ∈ wsX0_isMarked := by decide +kernel
abbrev rm_X0_isMarked : Room := { frames := 2, cells := 0, slots := 0, locals := 34 }
set_option maxHeartbeats 4000000 in
set_option maxRecDepth 100000 in
theorem c_X0_isMarked (l : Launch) (g : zG) (hI aK aV aP aM aL aS aH : Nat) (n : Int) (K V P M LB SB HB : Int → Int) (p : Int) (h1 : zIok n K V P M) (h2 : -2147483648 ≤ p ∧ p ≤ 2147483647) : zMRi l yX0_isMarked wsX0_isMarked rm_X0_isMarked g [(hI, eo 0 [.ref aK, .ref aV, .ref aP, .ref aM, .ref aL, .ref aS, .ref aH, .int (iZ (n))]), (aK, ei g 100 K), (aV, ei g 100 V), (aP, ei g 100 P), (aM, ez g 100 M), (aL, ei g 101 LB), (aS, ei g 101 SB), (aH, ei g 101 HB)] [.ref hI, .int (iZ (p))] (b2 (0 ≤ p ∧ p < n ∧ K p = 2 ∧ M p = 1)) := by
  refine z_beRi (cc := cX0_isMarked) (nL := 2) (ret := some .boolean) (plainFor_of_name (by decide +kernel)) rfl (Or.inr ⟨rfl, b2_01 _⟩) (Nat.le_of_ble_eq_true rfl) ?_
  intro X hC hR
  have hC : zC X g cX0_isMarked RX0 wsX0_isMarked rm_X0_isMarked 2 := hC
  show ZG X g (zE X) 0 0 [(hI, eo 0 [.ref aK, .ref aV, .ref aP, .ref aM, .ref aL, .ref aS, .ref aH, .int (iZ (n))]), (aK, ei g 100 K), (aV, ei g 100 V), (aP, ei g 100 P), (aM, ez g 100 M), (aL, ei g 101 LB), (aS, ei g 101 SB), (aH, ei g 101 HB)] [(0, .ref hI), (1, .int (iZ (p)))] 0 []
  have ⟨hn, hK, hV⟩ := h1
  refine z_aload_n hC 0 dX0_isMarked_0 rfl rfl ?_
  refine z_iload_n hC 1 dX0_isMarked_1 rfl rfl ?_
  refine z_iconst hC dX0_isMarked_2 ?_
  refine z_vRi hC 2 (c_X0_isKind (xl X) g _ _ _ _ _ _ _ _ _ _ _ _ _ _ _ _ _ _ h1 (by omega) (by omega)) gX0_isMarked_X0_isKind rfl hd_X0_isKind_v (by decide) ⟨rfl, rfl⟩ [0, 1, 2, 3, 4, 5, 6, 7] (by decide) rfl 0 0 rfl rfl rfl rfl rfl (Nat.le_of_ble_eq_true rfl) dX0_isMarked_3 (by decide) ?_
  refine z_if_eq hC 22 dX0_isMarked_6 (by decide) (b2_r _) (fun c_6 => ?_) (fun c_6 => ?_)
  ·
    have c_6 := b2_f c_6
    refine z_iconst hC dX0_isMarked_22 ?_
    exact hR _ _ _ _ (by first | exact b2_1' (by omega) | exact b2_0' (by omega) | exact b2_eq (by omega)) dX0_isMarked_23
  ·
    have c_6 := b2_t c_6
    have v_6 := hV p (by omega) (by omega) (by omega)
    refine z_aload_n hC 0 dX0_isMarked_9 rfl rfl ?_
    refine z_get hC iX0_isMarked_0 0 3 rfl rfl (by decide) mX0_isMarked_f21 rfl dX0_isMarked_10 ?_
    refine z_iload_n hC 1 dX0_isMarked_13 rfl rfl ?_
    refine z_zald hC 4 rfl (by omega) (by decide) dX0_isMarked_14 ?_
    refine z_if_eq hC 22 dX0_isMarked_15 (by decide) (by omega) (fun c_15 => ?_) (fun c_15 => ?_)
    ·
      refine z_iconst hC dX0_isMarked_22 ?_
      exact hR _ _ _ _ (by first | exact b2_1' (by omega) | exact b2_0' (by omega) | exact b2_eq (by omega)) dX0_isMarked_23
    ·
      refine z_iconst hC dX0_isMarked_18 ?_
      refine z_goto (tgt := 23) hC dX0_isMarked_19 (by decide) ?_
      exact hR _ _ _ _ (by first | exact b2_1' (by omega) | exact b2_0' (by omega) | exact b2_eq (by omega)) dX0_isMarked_23
set_option maxRecDepth 20000 in
theorem mX0_mayBreakAt_f15 : Cond.fieldLink RX0 15 "BreakSearch$Items" "values" "[I" ∈ wsX0_mayBreakAt := by decide +kernel
set_option maxRecDepth 20000 in
theorem iX0_mayBreakAt_0 : ∀ w ∈ u_ws RX0 TX0 8, w ∈ wsX0_mayBreakAt := by decide +kernel
set_option maxRecDepth 20000 in
theorem mX0_mayBreakAt_f21 : Cond.fieldLink RX0 21 "BreakSearch$Items" "marks" "[Z" ∈ wsX0_mayBreakAt := by decide +kernel
abbrev rm_X0_mayBreakAt : Room := { frames := 2, cells := 0, slots := 0, locals := 34 }
set_option maxHeartbeats 4000000 in
set_option maxRecDepth 100000 in
theorem c_X0_mayBreakAt (l : Launch) (g : zG) (hI aK aV aP aM aL aS aH : Nat) (n : Int) (K V P M LB SB HB : Int → Int) (p mt : Int) (h1 : zIok n K V P M) (h2 : 0 ≤ p ∧ p ≤ n) (h3 : mt = 0 ∨ mt = 1) : zMRi l yX0_mayBreakAt wsX0_mayBreakAt rm_X0_mayBreakAt g [(hI, eo 0 [.ref aK, .ref aV, .ref aP, .ref aM, .ref aL, .ref aS, .ref aH, .int (iZ (n))]), (aK, ei g 100 K), (aV, ei g 100 V), (aP, ei g 100 P), (aM, ez g 100 M), (aL, ei g 101 LB), (aS, ei g 101 SB), (aH, ei g 101 HB)] [.ref hI, .int (iZ (p)), .int (iZ (mt))] (b2 (zMay K V M n p mt)) := by
  refine z_beRi (cc := cX0_mayBreakAt) (nL := 3) (ret := some .boolean) (plainFor_of_name (by decide +kernel)) rfl (Or.inr ⟨rfl, b2_01 _⟩) (Nat.le_of_ble_eq_true rfl) ?_
  intro X hC hR
  have hC : zC X g cX0_mayBreakAt RX0 wsX0_mayBreakAt rm_X0_mayBreakAt 3 := hC
  show ZG X g (zE X) 0 0 [(hI, eo 0 [.ref aK, .ref aV, .ref aP, .ref aM, .ref aL, .ref aS, .ref aH, .int (iZ (n))]), (aK, ei g 100 K), (aV, ei g 100 V), (aP, ei g 100 P), (aM, ez g 100 M), (aL, ei g 101 LB), (aS, ei g 101 SB), (aH, ei g 101 HB)] [(0, .ref hI), (1, .int (iZ (p))), (2, .int (iZ (mt)))] 0 []
  have ⟨hn, hK, hV⟩ := h1
  refine z_aload_n hC 0 dX0_mayBreakAt_0 rfl rfl ?_
  refine z_iload_n hC 1 dX0_mayBreakAt_1 rfl rfl ?_
  refine z_iconst hC dX0_mayBreakAt_2 ?_
  refine z_vRi hC 2 (c_X0_isKind (xl X) g _ _ _ _ _ _ _ _ _ _ _ _ _ _ _ _ _ _ h1 (by omega) (by omega)) gX0_mayBreakAt_X0_isKind rfl hd_X0_isKind_v (by decide) ⟨rfl, rfl⟩ [0, 1, 2, 3, 4, 5, 6, 7] (by decide) rfl 0 0 rfl rfl rfl rfl rfl (Nat.le_of_ble_eq_true rfl) dX0_mayBreakAt_3 (by decide) ?_
  refine z_if_eq hC 18 dX0_mayBreakAt_6 (by decide) (b2_r _) (fun c_6 => ?_) (fun c_6 => ?_)
  ·
    have c_6 := b2_f c_6
    refine z_aload_n hC 0 dX0_mayBreakAt_18 rfl rfl ?_
    refine z_iload_n hC 1 dX0_mayBreakAt_19 rfl rfl ?_
    refine z_iconst hC dX0_mayBreakAt_20 ?_
    refine z_vRi hC 2 (c_X0_isKind (xl X) g _ _ _ _ _ _ _ _ _ _ _ _ _ _ _ _ _ _ h1 (by omega) (by omega)) gX0_mayBreakAt_X0_isKind rfl hd_X0_isKind_v (by decide) ⟨rfl, rfl⟩ [0, 1, 2, 3, 4, 5, 6, 7] (by decide) rfl 0 0 rfl rfl rfl rfl rfl (Nat.le_of_ble_eq_true rfl) dX0_mayBreakAt_21 (by decide) ?_
    refine z_if_eq hC 58 dX0_mayBreakAt_24 (by decide) (b2_r _) (fun c_24 => ?_) (fun c_24 => ?_)
    ·
      have c_24 := b2_f c_24
      refine z_aload_n hC 0 dX0_mayBreakAt_58 rfl rfl ?_
      refine z_iload_n hC 1 dX0_mayBreakAt_59 rfl rfl ?_
      refine z_vRi hC 1 (c_X0_isEnd (xl X) g _ _ _ _ _ _ _ _ _ _ _ _ _ _ _ _ _ hn (by omega)) gX0_mayBreakAt_X0_isEnd rfl hd_X0_isEnd_v (by decide) ⟨rfl, rfl⟩ [0, 1, 2, 3, 4, 5, 6, 7] (by decide) rfl 0 0 rfl rfl rfl rfl rfl (Nat.le_of_ble_eq_true rfl) dX0_mayBreakAt_60 (by decide) ?_
      exact hR _ _ _ _ (by first | exact b2_1' (by unfold zMay; omega) | exact b2_0' (by unfold zMay; omega) | exact b2_eq (by unfold zMay; omega)) dX0_mayBreakAt_63
    ·
      have c_24 := b2_t c_24
      have v_24 := hV p (by omega) (by omega) (by omega)
      refine z_aload_n hC 0 dX0_mayBreakAt_27 rfl rfl ?_
      refine z_get hC iX0_mayBreakAt_0 0 1 rfl rfl (by decide) mX0_mayBreakAt_f15 rfl dX0_mayBreakAt_28 ?_
      refine z_iload_n hC 1 dX0_mayBreakAt_31 rfl rfl ?_
      refine z_iald hC 2 rfl (by omega) (by decide) dX0_mayBreakAt_32 ?_
      refine z_sip hC dX0_mayBreakAt_33 (by decide) ?_
      refine z_icmp_ge hC 56 dX0_mayBreakAt_36 (by decide) (by omega) (by omega) (fun c_36 => ?_) (fun c_36 => ?_)
      ·
        refine z_iconst hC dX0_mayBreakAt_56 ?_
        exact hR _ _ _ _ (by first | exact b2_1' (by unfold zMay; omega) | exact b2_0' (by unfold zMay; omega) | exact b2_eq (by unfold zMay; omega)) dX0_mayBreakAt_57
      ·
        refine z_iload_n hC 2 dX0_mayBreakAt_39 rfl rfl ?_
        refine z_if_ne hC 52 dX0_mayBreakAt_40 (by decide) (by omega) (fun c_40 => ?_) (fun c_40 => ?_)
        ·
          refine z_iconst hC dX0_mayBreakAt_52 ?_
          refine z_goto (tgt := 57) hC dX0_mayBreakAt_53 (by decide) ?_
          exact hR _ _ _ _ (by first | exact b2_1' (by unfold zMay; omega) | exact b2_0' (by unfold zMay; omega) | exact b2_eq (by unfold zMay; omega)) dX0_mayBreakAt_57
        ·
          refine z_aload_n hC 0 dX0_mayBreakAt_43 rfl rfl ?_
          refine z_get hC iX0_mayBreakAt_0 0 3 rfl rfl (by decide) mX0_mayBreakAt_f21 rfl dX0_mayBreakAt_44 ?_
          refine z_iload_n hC 1 dX0_mayBreakAt_47 rfl rfl ?_
          refine z_zald hC 4 rfl (by omega) (by decide) dX0_mayBreakAt_48 ?_
          refine z_if_ne hC 56 dX0_mayBreakAt_49 (by decide) (by omega) (fun c_49 => ?_) (fun c_49 => ?_)
          ·
            refine z_iconst hC dX0_mayBreakAt_56 ?_
            exact hR _ _ _ _ (by first | exact b2_1' (by unfold zMay; omega) | exact b2_0' (by unfold zMay; omega) | exact b2_eq (by unfold zMay; omega)) dX0_mayBreakAt_57
          ·
            refine z_iconst hC dX0_mayBreakAt_52 ?_
            refine z_goto (tgt := 57) hC dX0_mayBreakAt_53 (by decide) ?_
            exact hR _ _ _ _ (by first | exact b2_1' (by unfold zMay; omega) | exact b2_0' (by unfold zMay; omega) | exact b2_eq (by unfold zMay; omega)) dX0_mayBreakAt_57
  ·
    have c_6 := b2_t c_6
    refine z_aload_n hC 0 dX0_mayBreakAt_9 rfl rfl ?_
    refine z_iload_n hC 1 dX0_mayBreakAt_10 rfl rfl ?_
    refine z_iconst hC dX0_mayBreakAt_11 ?_
    refine z_isub hC dX0_mayBreakAt_12 ?_
    refine z_iconst hC dX0_mayBreakAt_13 ?_
    refine z_vRi hC 2 (c_X0_isKind (xl X) g _ _ _ _ _ _ _ _ _ _ _ _ _ _ _ _ _ _ h1 (by omega) (by omega)) gX0_mayBreakAt_X0_isKind rfl hd_X0_isKind_v (by decide) ⟨rfl, rfl⟩ [0, 1, 2, 3, 4, 5, 6, 7] (by decide) rfl 0 0 rfl rfl rfl rfl rfl (Nat.le_of_ble_eq_true rfl) dX0_mayBreakAt_14 (by decide) ?_
    exact hR _ _ _ _ (by first | exact b2_1' (by unfold zMay; omega) | exact b2_0' (by unfold zMay; omega) | exact b2_eq (by unfold zMay; omega)) dX0_mayBreakAt_17
set_option maxRecDepth 20000 in
theorem mX0_hasToBreakAt_f15 : Cond.fieldLink RX0 15 "BreakSearch$Items" "values" "[I" ∈ wsX0_hasToBreakAt := by decide +kernel
set_option maxRecDepth 20000 in
theorem iX0_hasToBreakAt_0 : ∀ w ∈ u_ws RX0 TX0 8, w ∈ wsX0_hasToBreakAt := by decide +kernel
abbrev rm_X0_hasToBreakAt : Room := { frames := 2, cells := 0, slots := 0, locals := 34 }
set_option maxHeartbeats 4000000 in
set_option maxRecDepth 100000 in
theorem c_X0_hasToBreakAt (l : Launch) (g : zG) (hI aK aV aP aM aL aS aH : Nat) (n : Int) (K V P M LB SB HB : Int → Int) (p : Int) (h1 : zIok n K V P M) (h2 : 0 ≤ p ∧ p ≤ n) : zMRi l yX0_hasToBreakAt wsX0_hasToBreakAt rm_X0_hasToBreakAt g [(hI, eo 0 [.ref aK, .ref aV, .ref aP, .ref aM, .ref aL, .ref aS, .ref aH, .int (iZ (n))]), (aK, ei g 100 K), (aV, ei g 100 V), (aP, ei g 100 P), (aM, ez g 100 M), (aL, ei g 101 LB), (aS, ei g 101 SB), (aH, ei g 101 HB)] [.ref hI, .int (iZ (p))] (b2 (p = n ∨ zMust K V n p)) := by
  refine z_beRi (cc := cX0_hasToBreakAt) (nL := 2) (ret := some .boolean) (plainFor_of_name (by decide +kernel)) rfl (Or.inr ⟨rfl, b2_01 _⟩) (Nat.le_of_ble_eq_true rfl) ?_
  intro X hC hR
  have hC : zC X g cX0_hasToBreakAt RX0 wsX0_hasToBreakAt rm_X0_hasToBreakAt 2 := hC
  show ZG X g (zE X) 0 0 [(hI, eo 0 [.ref aK, .ref aV, .ref aP, .ref aM, .ref aL, .ref aS, .ref aH, .int (iZ (n))]), (aK, ei g 100 K), (aV, ei g 100 V), (aP, ei g 100 P), (aM, ez g 100 M), (aL, ei g 101 LB), (aS, ei g 101 SB), (aH, ei g 101 HB)] [(0, .ref hI), (1, .int (iZ (p)))] 0 []
  have ⟨hn, hK, hV⟩ := h1
  refine z_aload_n hC 0 dX0_hasToBreakAt_0 rfl rfl ?_
  refine z_iload_n hC 1 dX0_hasToBreakAt_1 rfl rfl ?_
  refine z_vRi hC 1 (c_X0_isEnd (xl X) g _ _ _ _ _ _ _ _ _ _ _ _ _ _ _ _ _ hn (by omega)) gX0_hasToBreakAt_X0_isEnd rfl hd_X0_isEnd_v (by decide) ⟨rfl, rfl⟩ [0, 1, 2, 3, 4, 5, 6, 7] (by decide) rfl 0 0 rfl rfl rfl rfl rfl (Nat.le_of_ble_eq_true rfl) dX0_hasToBreakAt_2 (by decide) ?_
  refine z_if_ne hC 29 dX0_hasToBreakAt_5 (by decide) (b2_r _) (fun c_5 => ?_) (fun c_5 => ?_)
  ·
    have c_5 := b2_t c_5
    refine z_iconst hC dX0_hasToBreakAt_29 ?_
    refine z_goto (tgt := 34) hC dX0_hasToBreakAt_30 (by decide) ?_
    exact hR _ _ _ _ (by first | exact b2_1' (by unfold zMust; omega) | exact b2_0' (by unfold zMust; omega) | exact b2_eq (by unfold zMust; omega)) dX0_hasToBreakAt_34
  ·
    have c_5 := b2_f c_5
    refine z_aload_n hC 0 dX0_hasToBreakAt_8 rfl rfl ?_
    refine z_iload_n hC 1 dX0_hasToBreakAt_9 rfl rfl ?_
    refine z_iconst hC dX0_hasToBreakAt_10 ?_
    refine z_vRi hC 2 (c_X0_isKind (xl X) g _ _ _ _ _ _ _ _ _ _ _ _ _ _ _ _ _ _ h1 (by omega) (by omega)) gX0_hasToBreakAt_X0_isKind rfl hd_X0_isKind_v (by decide) ⟨rfl, rfl⟩ [0, 1, 2, 3, 4, 5, 6, 7] (by decide) rfl 0 0 rfl rfl rfl rfl rfl (Nat.le_of_ble_eq_true rfl) dX0_hasToBreakAt_11 (by decide) ?_
    refine z_if_eq hC 33 dX0_hasToBreakAt_14 (by decide) (b2_r _) (fun c_14 => ?_) (fun c_14 => ?_)
    ·
      have c_14 := b2_f c_14
      refine z_iconst hC dX0_hasToBreakAt_33 ?_
      exact hR _ _ _ _ (by first | exact b2_1' (by unfold zMust; omega) | exact b2_0' (by unfold zMust; omega) | exact b2_eq (by unfold zMust; omega)) dX0_hasToBreakAt_34
    ·
      have c_14 := b2_t c_14
      have v_14 := hV p (by omega) (by omega) (by omega)
      refine z_aload_n hC 0 dX0_hasToBreakAt_17 rfl rfl ?_
      refine z_get hC iX0_hasToBreakAt_0 0 1 rfl rfl (by decide) mX0_hasToBreakAt_f15 rfl dX0_hasToBreakAt_18 ?_
      refine z_iload_n hC 1 dX0_hasToBreakAt_21 rfl rfl ?_
      refine z_iald hC 2 rfl (by omega) (by decide) dX0_hasToBreakAt_22 ?_
      refine z_sip hC dX0_hasToBreakAt_23 (by decide) ?_
      refine z_icmp_ne hC 33 dX0_hasToBreakAt_26 (by decide) (by omega) (by omega) (fun c_26 => ?_) (fun c_26 => ?_)
      ·
        refine z_iconst hC dX0_hasToBreakAt_33 ?_
        exact hR _ _ _ _ (by first | exact b2_1' (by unfold zMust; omega) | exact b2_0' (by unfold zMust; omega) | exact b2_eq (by unfold zMust; omega)) dX0_hasToBreakAt_34
      ·
        refine z_iconst hC dX0_hasToBreakAt_29 ?_
        refine z_goto (tgt := 34) hC dX0_hasToBreakAt_30 (by decide) ?_
        exact hR _ _ _ _ (by first | exact b2_1' (by unfold zMust; omega) | exact b2_0' (by unfold zMust; omega) | exact b2_eq (by unfold zMust; omega)) dX0_hasToBreakAt_34
set_option maxRecDepth 20000 in
theorem mX0_startBehind_f34 : Cond.fieldLink RX0 34 "BreakSearch$Items" "count" "I" ∈ wsX0_startBehind := by decide +kernel
set_option maxRecDepth 20000 in
theorem iX0_startBehind_0 : ∀ w ∈ u_ws RX0 TX0 8, w ∈ wsX0_startBehind := by decide +kernel
set_option maxRecDepth 20000 in
theorem mX0_startBehind_f9 : Cond.fieldLink RX0 9 "BreakSearch$Items" "kinds" "[I" ∈ wsX0_startBehind := by decide +kernel
abbrev rm_X0_startBehind : Room := { frames := 1, cells := 0, slots := 0, locals := 12 }
set_option maxHeartbeats 4000000 in
set_option maxRecDepth 100000 in
theorem c_X0_startBehind (l : Launch) (g : zG) (hI aK aV aP aM aL aS aH : Nat) (n : Int) (K V P M LB SB HB : Int → Int) (a : Int) (h1 : zIok n K V P M) (h2 : -1 ≤ a ∧ (a < n ∨ a < 0)) : zMRi l yX0_startBehind wsX0_startBehind rm_X0_startBehind g [(hI, eo 0 [.ref aK, .ref aV, .ref aP, .ref aM, .ref aL, .ref aS, .ref aH, .int (iZ (n))]), (aK, ei g 100 K), (aV, ei g 100 V), (aP, ei g 100 P), (aM, ez g 100 M), (aL, ei g 101 LB), (aS, ei g 101 SB), (aH, ei g 101 HB)] [.ref hI, .int (iZ (a))] (zSt K n a) := by
  refine z_beRi (cc := cX0_startBehind) (nL := 3) (ret := some .int) (plainFor_of_name (by decide +kernel)) rfl (Or.inl rfl) (Nat.le_of_ble_eq_true rfl) ?_
  intro X hC hR
  have hC : zC X g cX0_startBehind RX0 wsX0_startBehind rm_X0_startBehind 3 := hC
  show ZG X g (zE X) 0 0 [(hI, eo 0 [.ref aK, .ref aV, .ref aP, .ref aM, .ref aL, .ref aS, .ref aH, .int (iZ (n))]), (aK, ei g 100 K), (aV, ei g 100 V), (aP, ei g 100 P), (aM, ez g 100 M), (aL, ei g 101 LB), (aS, ei g 101 SB), (aH, ei g 101 HB)] [(0, .ref hI), (1, .int (iZ (a)))] 0 []
  have ⟨hn, hK, hV⟩ := h1
  refine z_iload_n hC 1 dX0_startBehind_0 rfl rfl ?_
  refine z_if_ge hC 6 dX0_startBehind_1 (by decide) (by omega) (fun c_1 => ?_) (fun c_1 => ?_)
  ·
    refine z_iload_n hC 1 dX0_startBehind_6 rfl rfl ?_
    refine z_iconst hC dX0_startBehind_7 ?_
    refine z_iadd hC dX0_startBehind_8 ?_
    refine z_istore_n hC (lv' := [(2, _), (0, _), (1, _)]) dX0_startBehind_9 rfl (by decide) rfl ?_
    have L10 : ∀ (fu : Nat) (j : Int), (a + 1 ≤ j ∧ j ≤ n) → (nb K n j = nb K n (a + 1)) → (n - j).toNat < fu → ZG X g (zE X) 0 0 [(hI, eo 0 [.ref aK, .ref aV, .ref aP, .ref aM, .ref aL, .ref aS, .ref aH, .int (iZ (n))]), (aK, ei g 100 K), (aV, ei g 100 V), (aP, ei g 100 P), (aM, ez g 100 M), (aL, ei g 101 LB), (aS, ei g 101 SB), (aH, ei g 101 HB)] [(2, .int (iZ (j))), (0, .ref hI), (1, .int (iZ (a)))] 10 [] := by
      intro fu
      induction fu with
      | zero => intro j; intros; omega
      | succ fu ih_10 =>
        intro j hj hq hn
        refine z_iload_n hC 0 dX0_startBehind_10 rfl rfl ?_
        refine z_aload_n hC 1 dX0_startBehind_11 rfl rfl ?_
        refine z_get hC iX0_startBehind_0 0 7 rfl rfl (by decide) mX0_startBehind_f34 rfl dX0_startBehind_12 ?_
        refine z_icmp_ge hC 33 dX0_startBehind_15 (by decide) (by omega) (by omega) (fun c_15 => ?_) (fun c_15 => ?_)
        ·
          refine z_iload_n hC 0 dX0_startBehind_33 rfl rfl ?_
          exact hR _ _ _ _ (by unfold zSt; first | exact (if_pos (by omega)).symm | (rw [if_neg (by omega), ← hq, nb_end (by omega)]) | (rw [if_neg (by omega), ← hq, nb_box (by omega)])) dX0_startBehind_34
        ·
          refine z_aload_n hC 1 dX0_startBehind_18 rfl rfl ?_
          refine z_get hC iX0_startBehind_0 0 0 rfl rfl (by decide) mX0_startBehind_f9 rfl dX0_startBehind_19 ?_
          refine z_iload_n hC 0 dX0_startBehind_22 rfl rfl ?_
          refine z_iald hC 1 rfl (by omega) (by decide) dX0_startBehind_23 ?_
          refine z_if_eq hC 33 dX0_startBehind_24 (by decide) (by have := hK j (by omega) (by omega); omega) (fun c_24 => ?_) (fun c_24 => ?_)
          ·
            refine z_iload_n hC 0 dX0_startBehind_33 rfl rfl ?_
            exact hR _ _ _ _ (by unfold zSt; first | exact (if_pos (by omega)).symm | (rw [if_neg (by omega), ← hq, nb_end (by omega)]) | (rw [if_neg (by omega), ← hq, nb_box (by omega)])) dX0_startBehind_34
          ·
            refine z_iinc hC (lv' := [(2, _), (0, _), (1, _)]) 0 dX0_startBehind_27 rfl (by decide) rfl ?_
            refine z_goto (tgt := 10) hC dX0_startBehind_30 (by decide) ?_
            exact ih_10 (j + 1) (by omega) (by rw [← nb_go (by omega) (by omega)]; exact hq) (by omega)
    exact L10 _ (a + 1) (by omega) rfl (Nat.lt_succ_self _)
  ·
    refine z_iconst hC dX0_startBehind_4 ?_
    exact hR _ _ _ _ (by unfold zSt; first | exact (if_pos (by omega)).symm | (rw [if_neg (by omega), ← hq, nb_end (by omega)]) | (rw [if_neg (by omega), ← hq, nb_box (by omega)])) dX0_startBehind_5
set_option maxRecDepth 20000 in
theorem mX0_widthEndingAt_f18 : Cond.fieldLink RX0 18 "BreakSearch$Items" "penaltyWidths" "[I" ∈ wsX0_widthEndingAt := by decide +kernel
set_option maxRecDepth 20000 in
theorem iX0_widthEndingAt_0 : ∀ w ∈ u_ws RX0 TX0 8, w ∈ wsX0_widthEndingAt := by decide +kernel
abbrev rm_X0_widthEndingAt : Room := { frames := 2, cells := 0, slots := 0, locals := 34 }
set_option maxHeartbeats 4000000 in
set_option maxRecDepth 100000 in
theorem c_X0_widthEndingAt (l : Launch) (g : zG) (hI aK aV aP aM aL aS aH : Nat) (n : Int) (K V P M LB SB HB : Int → Int) (p : Int) (h1 : zIok n K V P M) (h2 : -2147483648 ≤ p ∧ p ≤ 2147483647) : zMRi l yX0_widthEndingAt wsX0_widthEndingAt rm_X0_widthEndingAt g [(hI, eo 0 [.ref aK, .ref aV, .ref aP, .ref aM, .ref aL, .ref aS, .ref aH, .int (iZ (n))]), (aK, ei g 100 K), (aV, ei g 100 V), (aP, ei g 100 P), (aM, ez g 100 M), (aL, ei g 101 LB), (aS, ei g 101 SB), (aH, ei g 101 HB)] [.ref hI, .int (iZ (p))] (if 0 ≤ p ∧ p < n ∧ K p = 2 then P p else 0) := by
  refine z_beRi (cc := cX0_widthEndingAt) (nL := 2) (ret := some .int) (plainFor_of_name (by decide +kernel)) rfl (Or.inl rfl) (Nat.le_of_ble_eq_true rfl) ?_
  intro X hC hR
  have hC : zC X g cX0_widthEndingAt RX0 wsX0_widthEndingAt rm_X0_widthEndingAt 2 := hC
  show ZG X g (zE X) 0 0 [(hI, eo 0 [.ref aK, .ref aV, .ref aP, .ref aM, .ref aL, .ref aS, .ref aH, .int (iZ (n))]), (aK, ei g 100 K), (aV, ei g 100 V), (aP, ei g 100 P), (aM, ez g 100 M), (aL, ei g 101 LB), (aS, ei g 101 SB), (aH, ei g 101 HB)] [(0, .ref hI), (1, .int (iZ (p)))] 0 []
  have ⟨hn, hK, hV⟩ := h1
  refine z_aload_n hC 0 dX0_widthEndingAt_0 rfl rfl ?_
  refine z_iload_n hC 1 dX0_widthEndingAt_1 rfl rfl ?_
  refine z_iconst hC dX0_widthEndingAt_2 ?_
  refine z_vRi hC 2 (c_X0_isKind (xl X) g _ _ _ _ _ _ _ _ _ _ _ _ _ _ _ _ _ _ h1 (by omega) (by omega)) gX0_widthEndingAt_X0_isKind rfl hd_X0_isKind_v (by decide) ⟨rfl, rfl⟩ [0, 1, 2, 3, 4, 5, 6, 7] (by decide) rfl 0 0 rfl rfl rfl rfl rfl (Nat.le_of_ble_eq_true rfl) dX0_widthEndingAt_3 (by decide) ?_
  refine z_if_eq hC 18 dX0_widthEndingAt_6 (by decide) (b2_r _) (fun c_6 => ?_) (fun c_6 => ?_)
  ·
    have c_6 := b2_f c_6
    refine z_iconst hC dX0_widthEndingAt_18 ?_
    exact hR _ _ _ _ (by first | exact (if_pos (by omega)).symm | exact (if_neg (by omega)).symm) dX0_widthEndingAt_19
  ·
    have c_6 := b2_t c_6
    refine z_aload_n hC 0 dX0_widthEndingAt_9 rfl rfl ?_
    refine z_get hC iX0_widthEndingAt_0 0 2 rfl rfl (by decide) mX0_widthEndingAt_f18 rfl dX0_widthEndingAt_10 ?_
    refine z_iload_n hC 1 dX0_widthEndingAt_13 rfl rfl ?_
    refine z_iald hC 3 rfl (by omega) (by decide) dX0_widthEndingAt_14 ?_
    refine z_goto (tgt := 19) hC dX0_widthEndingAt_15 (by decide) ?_
    exact hR _ _ _ _ (by first | exact (if_pos (by omega)).symm | exact (if_neg (by omega)).symm) dX0_widthEndingAt_19
set_option maxRecDepth 20000 in
theorem mX0_penaltyDemerits_f15 : Cond.fieldLink RX0 15 "BreakSearch$Items" "values" "[I" ∈ wsX0_penaltyDemerits := by decide +kernel
set_option maxRecDepth 20000 in
theorem iX0_penaltyDemerits_0 : ∀ w ∈ u_ws RX0 TX0 8, w ∈ wsX0_penaltyDemerits := by decide +kernel
abbrev rm_X0_penaltyDemerits : Room := { frames := 2, cells := 0, slots := 0, locals := 34 }
set_option maxHeartbeats 4000000 in
set_option maxRecDepth 100000 in
theorem c_X0_penaltyDemerits (l : Launch) (g : zG) (hI aK aV aP aM aL aS aH : Nat) (n : Int) (K V P M LB SB HB : Int → Int) (p : Int) (h1 : zIok n K V P M) (h2 : 0 ≤ p ∧ p ≤ n) : zMRl l yX0_penaltyDemerits wsX0_penaltyDemerits rm_X0_penaltyDemerits g [(hI, eo 0 [.ref aK, .ref aV, .ref aP, .ref aM, .ref aL, .ref aS, .ref aH, .int (iZ (n))]), (aK, ei g 100 K), (aV, ei g 100 V), (aP, ei g 100 P), (aM, ez g 100 M), (aL, ei g 101 LB), (aS, ei g 101 SB), (aH, ei g 101 HB)] [.ref hI, .int (iZ (p))] (zPen K V n p) := by
  refine z_beRl (cc := cX0_penaltyDemerits) (nL := 4) (plainFor_of_name (by decide +kernel)) rfl (Nat.le_of_ble_eq_true rfl) ?_
  intro X hC hR
  have hC : zC X g cX0_penaltyDemerits RX0 wsX0_penaltyDemerits rm_X0_penaltyDemerits 4 := hC
  show ZG X g (zE X) 0 0 [(hI, eo 0 [.ref aK, .ref aV, .ref aP, .ref aM, .ref aL, .ref aS, .ref aH, .int (iZ (n))]), (aK, ei g 100 K), (aV, ei g 100 V), (aP, ei g 100 P), (aM, ez g 100 M), (aL, ei g 101 LB), (aS, ei g 101 SB), (aH, ei g 101 HB)] [(0, .ref hI), (1, .int (iZ (p)))] 0 []
  have ⟨hn, hK, hV⟩ := h1
  refine z_aload_n hC 0 dX0_penaltyDemerits_0 rfl rfl ?_
  refine z_iload_n hC 1 dX0_penaltyDemerits_1 rfl rfl ?_
  refine z_iconst hC dX0_penaltyDemerits_2 ?_
  refine z_vRi hC 2 (c_X0_isKind (xl X) g _ _ _ _ _ _ _ _ _ _ _ _ _ _ _ _ _ _ h1 (by omega) (by omega)) gX0_penaltyDemerits_X0_isKind rfl hd_X0_isKind_v (by decide) ⟨rfl, rfl⟩ [0, 1, 2, 3, 4, 5, 6, 7] (by decide) rfl 0 0 rfl rfl rfl rfl rfl (Nat.le_of_ble_eq_true rfl) dX0_penaltyDemerits_3 (by decide) ?_
  refine z_if_eq hC 21 dX0_penaltyDemerits_6 (by decide) (b2_r _) (fun c_6 => ?_) (fun c_6 => ?_)
  ·
    have c_6 := b2_f c_6
    refine z_lconst (z := 0) hC dX0_penaltyDemerits_21 (by decide) ?_
    exact hR _ _ _ _ (by first | exact zPen_0 (by omega) | exact zPen_n (by omega) (by omega) | exact zPen_p (by omega) (by omega)) dX0_penaltyDemerits_22
  ·
    have c_6 := b2_t c_6
    have v_6 := hV p (by omega) (by omega) (by omega)
    refine z_aload_n hC 0 dX0_penaltyDemerits_9 rfl rfl ?_
    refine z_get hC iX0_penaltyDemerits_0 0 1 rfl rfl (by decide) mX0_penaltyDemerits_f15 rfl dX0_penaltyDemerits_10 ?_
    refine z_iload_n hC 1 dX0_penaltyDemerits_13 rfl rfl ?_
    refine z_iald hC 2 rfl (by omega) (by decide) dX0_penaltyDemerits_14 ?_
    refine z_sip hC dX0_penaltyDemerits_15 (by decide) ?_
    refine z_icmp_ne hC 23 dX0_penaltyDemerits_18 (by decide) (by omega) (by omega) (fun c_18 => ?_) (fun c_18 => ?_)
    ·
      refine z_aload_n hC 0 dX0_penaltyDemerits_23 rfl rfl ?_
      refine z_get hC iX0_penaltyDemerits_0 0 1 rfl rfl (by decide) mX0_penaltyDemerits_f15 rfl dX0_penaltyDemerits_24 ?_
      refine z_iload_n hC 1 dX0_penaltyDemerits_27 rfl rfl ?_
      refine z_iald hC 2 rfl (by omega) (by decide) dX0_penaltyDemerits_28 ?_
      refine z_i2l hC dX0_penaltyDemerits_29 (by omega) ?_
      refine z_lstore_n hC (lv' := [(2, _), (0, _), (1, _)]) dX0_penaltyDemerits_30 rfl (by decide) rfl ?_
      refine z_lload_n hC 0 dX0_penaltyDemerits_31 rfl rfl ?_
      refine z_lconst (z := 0) hC dX0_penaltyDemerits_32 (by decide) ?_
      refine z_lc_ge hC 44 dX0_penaltyDemerits_33 dX0_penaltyDemerits_34 (by decide) (by omega) (by omega) (fun c_33 => ?_) (fun c_33 => ?_)
      ·
        refine z_lload_n hC 0 dX0_penaltyDemerits_44 rfl rfl ?_
        refine z_lload_n hC 0 dX0_penaltyDemerits_45 rfl rfl ?_
        refine z_lmul hC dX0_penaltyDemerits_46 ?_
        exact hR _ _ _ _ (by first | exact zPen_0 (by omega) | exact zPen_n (by omega) (by omega) | exact zPen_p (by omega) (by omega)) dX0_penaltyDemerits_47
      ·
        refine z_lload_n hC 0 dX0_penaltyDemerits_37 rfl rfl ?_
        refine z_lneg hC dX0_penaltyDemerits_38 ?_
        refine z_lload_n hC 0 dX0_penaltyDemerits_39 rfl rfl ?_
        refine z_lmul hC dX0_penaltyDemerits_40 ?_
        refine z_goto (tgt := 47) hC dX0_penaltyDemerits_41 (by decide) ?_
        exact hR _ _ _ _ (by first | exact zPen_0 (by omega) | exact zPen_n (by omega) (by omega) | exact zPen_p (by omega) (by omega)) dX0_penaltyDemerits_47
    ·
      refine z_lconst (z := 0) hC dX0_penaltyDemerits_21 (by decide) ?_
      exact hR _ _ _ _ (by first | exact zPen_0 (by omega) | exact zPen_n (by omega) (by omega) | exact zPen_p (by omega) (by omega)) dX0_penaltyDemerits_22
set_option maxRecDepth 20000 in
theorem mX0_append_f34 : Cond.fieldLink RX0 34 "BreakSearch$Items" "count" "I" ∈ wsX0_append := by decide +kernel
set_option maxRecDepth 20000 in
theorem iX0_append_0 : ∀ w ∈ u_ws RX0 TX0 8, w ∈ wsX0_append := by decide +kernel
set_option maxRecDepth 20000 in
theorem mX0_append_f9 : Cond.fieldLink RX0 9 "BreakSearch$Items" "kinds" "[I" ∈ wsX0_append := by decide +kernel
set_option maxRecDepth 20000 in
theorem mX0_append_f25 : Cond.fieldLink RX0 25 "BreakSearch$Items" "lengthBefore" "[I" ∈ wsX0_append := by decide +kernel
set_option maxRecDepth 20000 in
theorem mX0_append_f28 : Cond.fieldLink RX0 28 "BreakSearch$Items" "stretchBefore" "[I" ∈ wsX0_append := by decide +kernel
set_option maxRecDepth 20000 in
theorem mX0_append_f31 : Cond.fieldLink RX0 31 "BreakSearch$Items" "shrinkBefore" "[I" ∈ wsX0_append := by decide +kernel
abbrev rm_X0_append : Room := { frames := 1, cells := 0, slots := 0, locals := 12 }
set_option maxHeartbeats 4000000 in
set_option maxRecDepth 100000 in
theorem c_X0_append (l : Launch) (g : zG) (hI aK aV aP aM aL aS aH : Nat) (n : Int) (K V P M LB SB HB : Int → Int) (k w t s : Int) (h1 : 0 ≤ n ∧ n ≤ 100) : zMWi (S := (Int → Int) × (Int → Int) × (Int → Int) × (Int → Int) × (Int) × (Int)) l yX0_append wsX0_append rm_X0_append g [(hI, eo 0 [.ref aK, .ref aV, .ref aP, .ref aM, .ref aL, .ref aS, .ref aH, .int (iZ (n))]), (aK, ei g 100 K), (aV, ei g 100 V), (aP, ei g 100 P), (aM, ez g 100 M), (aL, ei g 101 LB), (aS, ei g 101 SB), (aH, ei g 101 HB)] [.ref hI, .int (iZ (k)), .int (iZ (w)), .int (iZ (t)), .int (iZ (s))] (fun u => ((100 ≤ n) ∧ u = (K, LB, SB, HB, n, -2)) ∨ ((n < 100) ∧ u = (uZ K n k, uZ LB (n + 1) (LB n + w), uZ SB (n + 1) (SB n + t), uZ HB (n + 1) (HB n + s), n + 1, n))) (fun u => u.2.2.2.2.2) (fun u => [(hI, eo 0 [.ref aK, .ref aV, .ref aP, .ref aM, .ref aL, .ref aS, .ref aH, .int (iZ (u.2.2.2.2.1))]), (aK, ei g 100 u.1), (aV, ei g 100 V), (aP, ei g 100 P), (aM, ez g 100 M), (aL, ei g 101 u.2.1), (aS, ei g 101 u.2.2.1), (aH, ei g 101 u.2.2.2.1)]) 0 0 := by
  refine z_beWi (cc := cX0_append) (nL := 6) (ret := some .int) (plainFor_of_name (by decide +kernel)) rfl (Or.inl rfl) (Nat.le_of_ble_eq_true rfl) ?_
  intro X A hC hN hR
  have hC : zC X g cX0_append RX0 wsX0_append rm_X0_append 6 := hC
  show ZG X g (zD X A) 0 0 [(hI, eo 0 [.ref aK, .ref aV, .ref aP, .ref aM, .ref aL, .ref aS, .ref aH, .int (iZ (n))]), (aK, ei g 100 K), (aV, ei g 100 V), (aP, ei g 100 P), (aM, ez g 100 M), (aL, ei g 101 LB), (aS, ei g 101 SB), (aH, ei g 101 HB)] [(0, .ref hI), (1, .int (iZ (k))), (2, .int (iZ (w))), (3, .int (iZ (t))), (4, .int (iZ (s)))] 0 []
  refine z_aload_n hC 0 dX0_append_0 rfl rfl ?_
  refine z_get hC iX0_append_0 0 7 rfl rfl (by decide) mX0_append_f34 rfl dX0_append_1 ?_
  refine z_bip hC dX0_append_4 (by decide) ?_
  refine z_icmp_lt hC 12 dX0_append_6 (by decide) (by omega) (by omega) (fun c_6 => ?_) (fun c_6 => ?_)
  ·
    refine z_aload_n hC 0 dX0_append_12 rfl rfl ?_
    refine z_get hC iX0_append_0 0 7 rfl rfl (by decide) mX0_append_f34 rfl dX0_append_13 ?_
    refine z_istore hC (lv' := [(5, _), (0, _), (1, _), (2, _), (3, _), (4, _)]) dX0_append_16 (by decide) rfl ?_
    refine z_aload_n hC 1 dX0_append_18 rfl rfl ?_
    refine z_get hC iX0_append_0 0 0 rfl rfl (by decide) mX0_append_f9 rfl dX0_append_19 ?_
    refine z_iload hC 0 dX0_append_22 rfl ?_
    refine z_iload_n hC 2 dX0_append_24 rfl rfl ?_
    refine z_iast hC 1 rfl (by omega) (by decide) dX0_append_25 (ws' := [_, _, _, _, _, _, _, _]) rfl ?_
    refine z_aload_n hC 1 dX0_append_26 rfl rfl ?_
    refine z_get hC iX0_append_0 0 4 rfl rfl (by decide) mX0_append_f25 rfl dX0_append_27 ?_
    refine z_iload hC 0 dX0_append_30 rfl ?_
    refine z_iconst hC dX0_append_32 ?_
    refine z_iadd hC dX0_append_33 ?_
    refine z_aload_n hC 1 dX0_append_34 rfl rfl ?_
    refine z_get hC iX0_append_0 0 4 rfl rfl (by decide) mX0_append_f25 rfl dX0_append_35 ?_
    refine z_iload hC 0 dX0_append_38 rfl ?_
    refine z_iald hC 5 rfl (by omega) (by decide) dX0_append_40 ?_
    refine z_iload_n hC 3 dX0_append_41 rfl rfl ?_
    refine z_iadd hC dX0_append_42 ?_
    refine z_iast hC 5 rfl (by omega) (by decide) dX0_append_43 (ws' := [_, _, _, _, _, _, _, _]) rfl ?_
    refine z_aload_n hC 1 dX0_append_44 rfl rfl ?_
    refine z_get hC iX0_append_0 0 5 rfl rfl (by decide) mX0_append_f28 rfl dX0_append_45 ?_
    refine z_iload hC 0 dX0_append_48 rfl ?_
    refine z_iconst hC dX0_append_50 ?_
    refine z_iadd hC dX0_append_51 ?_
    refine z_aload_n hC 1 dX0_append_52 rfl rfl ?_
    refine z_get hC iX0_append_0 0 5 rfl rfl (by decide) mX0_append_f28 rfl dX0_append_53 ?_
    refine z_iload hC 0 dX0_append_56 rfl ?_
    refine z_iald hC 6 rfl (by omega) (by decide) dX0_append_58 ?_
    refine z_iload_n hC 4 dX0_append_59 rfl rfl ?_
    refine z_iadd hC dX0_append_60 ?_
    refine z_iast hC 6 rfl (by omega) (by decide) dX0_append_61 (ws' := [_, _, _, _, _, _, _, _]) rfl ?_
    refine z_aload_n hC 1 dX0_append_62 rfl rfl ?_
    refine z_get hC iX0_append_0 0 6 rfl rfl (by decide) mX0_append_f31 rfl dX0_append_63 ?_
    refine z_iload hC 0 dX0_append_66 rfl ?_
    refine z_iconst hC dX0_append_68 ?_
    refine z_iadd hC dX0_append_69 ?_
    refine z_aload_n hC 1 dX0_append_70 rfl rfl ?_
    refine z_get hC iX0_append_0 0 6 rfl rfl (by decide) mX0_append_f31 rfl dX0_append_71 ?_
    refine z_iload hC 0 dX0_append_74 rfl ?_
    refine z_iald hC 7 rfl (by omega) (by decide) dX0_append_76 ?_
    refine z_iload hC 5 dX0_append_77 rfl ?_
    refine z_iadd hC dX0_append_79 ?_
    refine z_iast hC 7 rfl (by omega) (by decide) dX0_append_80 (ws' := [_, _, _, _, _, _, _, _]) rfl ?_
    refine z_aload_n hC 1 dX0_append_81 rfl rfl ?_
    refine z_iload hC 0 dX0_append_82 rfl ?_
    refine z_iconst hC dX0_append_84 ?_
    refine z_iadd hC dX0_append_85 ?_
    refine z_put hC iX0_append_0 tyX0 tyX0_ok nmX0 0 7 rfl rfl (by decide) mX0_append_f34 rfl rfl rfl (Nat.le_of_ble_eq_true rfl) dX0_append_86 (ws' := [_, _, _, _, _, _, _, _]) rfl ?_
    refine z_iload hC 0 dX0_append_89 rfl ?_
    exact hR (uZ K n k, uZ LB (n + 1) ((LB n) + w), uZ SB (n + 1) ((SB n) + t), uZ HB (n + 1) ((HB n) + s), n + 1, n) _ _ _ [0, 1, 2, 3, 4, 5, 6, 7] _ (by first | exact Or.inl ⟨by omega, rfl⟩ | exact Or.inr ⟨by omega, rfl⟩) rfl (by decide) rfl dX0_append_91
  ·
    refine z_bip hC dX0_append_9 (by decide) ?_
    exact hR (K, LB, SB, HB, n, -2) _ _ _ [0, 1, 2, 3, 4, 5, 6, 7] _ (by first | exact Or.inl ⟨by omega, rfl⟩ | exact Or.inr ⟨by omega, rfl⟩) rfl (by decide) rfl dX0_append_11
set_option maxRecDepth 20000 in
theorem mX0_appendPenalty_f15 : Cond.fieldLink RX0 15 "BreakSearch$Items" "values" "[I" ∈ wsX0_appendPenalty := by decide +kernel
set_option maxRecDepth 20000 in
theorem iX0_appendPenalty_0 : ∀ w ∈ u_ws RX0 TX0 8, w ∈ wsX0_appendPenalty := by decide +kernel
set_option maxRecDepth 20000 in
theorem mX0_appendPenalty_f18 : Cond.fieldLink RX0 18 "BreakSearch$Items" "penaltyWidths" "[I" ∈ wsX0_appendPenalty := by decide +kernel
set_option maxRecDepth 20000 in
theorem mX0_appendPenalty_f21 : Cond.fieldLink RX0 21 "BreakSearch$Items" "marks" "[Z" ∈ wsX0_appendPenalty := by decide +kernel
abbrev rm_X0_appendPenalty : Room := { frames := 2, cells := 0, slots := 0, locals := 37 }
set_option maxHeartbeats 4000000 in
set_option maxRecDepth 100000 in
theorem c_X0_appendPenalty (l : Launch) (g : zG) (hI aK aV aP aM aL aS aH : Nat) (n : Int) (K V P M LB SB HB : Int → Int) (x w mk : Int) (h1 : 0 ≤ n ∧ n ≤ 100) (h2 : mk = 0 ∨ mk = 1) : zMWi (S := (Int → Int) × (Int → Int) × (Int → Int) × (Int → Int) × (Int → Int) × (Int → Int) × (Int → Int) × (Int) × (Int)) l yX0_appendPenalty wsX0_appendPenalty rm_X0_appendPenalty g [(hI, eo 0 [.ref aK, .ref aV, .ref aP, .ref aM, .ref aL, .ref aS, .ref aH, .int (iZ (n))]), (aK, ei g 100 K), (aV, ei g 100 V), (aP, ei g 100 P), (aM, ez g 100 M), (aL, ei g 101 LB), (aS, ei g 101 SB), (aH, ei g 101 HB)] [.ref hI, .int (iZ (x)), .int (iZ (w)), .int (iZ (mk))] (fun u => ((100 ≤ n) ∧ u = (K, V, P, M, LB, SB, HB, n, -2)) ∨ ((n < 100) ∧ u = (uZ K n 2, uZ V n x, uZ P n w, uZ M n mk, uZ LB (n + 1) (LB n + 0), uZ SB (n + 1) (SB n + 0), uZ HB (n + 1) (HB n + 0), n + 1, n))) (fun u => u.2.2.2.2.2.2.2.2) (fun u => [(hI, eo 0 [.ref aK, .ref aV, .ref aP, .ref aM, .ref aL, .ref aS, .ref aH, .int (iZ (u.2.2.2.2.2.2.2.1))]), (aK, ei g 100 u.1), (aV, ei g 100 u.2.1), (aP, ei g 100 u.2.2.1), (aM, ez g 100 u.2.2.2.1), (aL, ei g 101 u.2.2.2.2.1), (aS, ei g 101 u.2.2.2.2.2.1), (aH, ei g 101 u.2.2.2.2.2.2.1)]) 0 0 := by
  refine z_beWi (cc := cX0_appendPenalty) (nL := 5) (ret := some .int) (plainFor_of_name (by decide +kernel)) rfl (Or.inl rfl) (Nat.le_of_ble_eq_true rfl) ?_
  intro X A hC hN hR
  have hC : zC X g cX0_appendPenalty RX0 wsX0_appendPenalty rm_X0_appendPenalty 5 := hC
  show ZG X g (zD X A) 0 0 [(hI, eo 0 [.ref aK, .ref aV, .ref aP, .ref aM, .ref aL, .ref aS, .ref aH, .int (iZ (n))]), (aK, ei g 100 K), (aV, ei g 100 V), (aP, ei g 100 P), (aM, ez g 100 M), (aL, ei g 101 LB), (aS, ei g 101 SB), (aH, ei g 101 HB)] [(0, .ref hI), (1, .int (iZ (x))), (2, .int (iZ (w))), (3, .int (iZ (mk)))] 0 []
  refine z_aload_n hC 0 dX0_appendPenalty_0 rfl rfl ?_
  refine z_iconst hC dX0_appendPenalty_1 ?_
  refine z_iconst hC dX0_appendPenalty_2 ?_
  refine z_iconst hC dX0_appendPenalty_3 ?_
  refine z_iconst hC dX0_appendPenalty_4 ?_
  refine z_vWi (wr := []) hC 4 (c_X0_append (xl X) g _ _ _ _ _ _ _ _ _ _ _ _ _ _ _ _ _ _ _ _ (by omega)) gX0_appendPenalty_X0_append rfl hd_X0_append_v (by decide) ⟨rfl, rfl⟩ [0, 1, 2, 3, 4, 5, 6, 7] [] (by decide) rfl rfl (by decide) (by decide) 0 0 rfl rfl rfl rfl rfl (Nat.le_of_ble_eq_true rfl) dX0_appendPenalty_5 (by decide) (fun u_5 p_5 => ?_)
  rcases p_5 with ⟨a_5, rfl⟩ | ⟨a_5, rfl⟩
  ·
    refine z_ws (ws' := [(hI, eo 0 [.ref aK, .ref aV, .ref aP, .ref aM, .ref aL, .ref aS, .ref aH, .int (iZ (n))]), (aK, ei g 100 K), (aV, ei g 100 V), (aP, ei g 100 P), (aM, ez g 100 M), (aL, ei g 101 LB), (aS, ei g 101 SB), (aH, ei g 101 HB)]) [0, 1, 2, 3, 4, 5, 6, 7] (by decide) rfl ?_
    refine z_top (b := (-2)) rfl ?_
    refine z_istore hC (lv' := [(4, _), (0, _), (1, _), (2, _), (3, _)]) dX0_appendPenalty_8 (by decide) rfl ?_
    refine z_iload hC 0 dX0_appendPenalty_10 rfl ?_
    refine z_if_lt hC 39 dX0_appendPenalty_12 (by decide) (by omega) (fun c_12 => ?_) (fun c_12 => ?_)
    ·
      refine z_iload hC 0 dX0_appendPenalty_39 rfl ?_
      exact hR (K, V, P, M, LB, SB, HB, n, (-2)) _ _ _ [0, 1, 2, 3, 4, 5, 6, 7] _ (by first | exact Or.inl ⟨by omega, rfl⟩ | exact Or.inr ⟨by omega, rfl⟩) rfl (by decide) rfl dX0_appendPenalty_41
    ·
      exfalso; omega
  ·
    refine z_ws (ws' := [(hI, eo 0 [.ref aK, .ref aV, .ref aP, .ref aM, .ref aL, .ref aS, .ref aH, .int (iZ ((n + 1)))]), (aK, ei g 100 ((uZ K n 2))), (aV, ei g 100 V), (aP, ei g 100 P), (aM, ez g 100 M), (aL, ei g 101 ((uZ LB (n + 1) (LB n + 0)))), (aS, ei g 101 ((uZ SB (n + 1) (SB n + 0)))), (aH, ei g 101 ((uZ HB (n + 1) (HB n + 0))))]) [0, 1, 2, 3, 4, 5, 6, 7] (by decide) rfl ?_
    refine z_top (b := n) rfl ?_
    refine z_istore hC (lv' := [(4, _), (0, _), (1, _), (2, _), (3, _)]) dX0_appendPenalty_8 (by decide) rfl ?_
    refine z_iload hC 0 dX0_appendPenalty_10 rfl ?_
    refine z_if_lt hC 39 dX0_appendPenalty_12 (by decide) (by omega) (fun c_12 => ?_) (fun c_12 => ?_)
    ·
      exfalso; omega
    ·
      refine z_aload_n hC 1 dX0_appendPenalty_15 rfl rfl ?_
      refine z_get hC iX0_appendPenalty_0 0 1 rfl rfl (by decide) mX0_appendPenalty_f15 rfl dX0_appendPenalty_16 ?_
      refine z_iload hC 0 dX0_appendPenalty_19 rfl ?_
      refine z_iload_n hC 2 dX0_appendPenalty_21 rfl rfl ?_
      refine z_iast hC 2 rfl (by omega) (by decide) dX0_appendPenalty_22 (ws' := [_, _, _, _, _, _, _, _]) rfl ?_
      refine z_aload_n hC 1 dX0_appendPenalty_23 rfl rfl ?_
      refine z_get hC iX0_appendPenalty_0 0 2 rfl rfl (by decide) mX0_appendPenalty_f18 rfl dX0_appendPenalty_24 ?_
      refine z_iload hC 0 dX0_appendPenalty_27 rfl ?_
      refine z_iload_n hC 3 dX0_appendPenalty_29 rfl rfl ?_
      refine z_iast hC 3 rfl (by omega) (by decide) dX0_appendPenalty_30 (ws' := [_, _, _, _, _, _, _, _]) rfl ?_
      refine z_aload_n hC 1 dX0_appendPenalty_31 rfl rfl ?_
      refine z_get hC iX0_appendPenalty_0 0 3 rfl rfl (by decide) mX0_appendPenalty_f21 rfl dX0_appendPenalty_32 ?_
      refine z_iload hC 0 dX0_appendPenalty_35 rfl ?_
      refine z_iload_n hC 4 dX0_appendPenalty_37 rfl rfl ?_
      refine z_zast hC 4 rfl (by omega) (by decide) (by omega) dX0_appendPenalty_38 (ws' := [_, _, _, _, _, _, _, _]) rfl ?_
      refine z_iload hC 0 dX0_appendPenalty_39 rfl ?_
      exact hR ((uZ K n 2), uZ V n x, uZ P n w, uZ M n mk, (uZ LB (n + 1) (LB n + 0)), (uZ SB (n + 1) (SB n + 0)), (uZ HB (n + 1) (HB n + 0)), (n + 1), n) _ _ _ [0, 1, 2, 3, 4, 5, 6, 7] _ (by first | exact Or.inl ⟨by omega, rfl⟩ | exact Or.inr ⟨by omega, rfl⟩) rfl (by decide) rfl dX0_appendPenalty_41
end
section
/-- 100 times the cube of what is wanted by the cube of what is given, at most 10000 -/
def zBad (gap give : Int) : Int := if give ≤ 0 then 10000 else min ((100 * (gap * gap * gap)).tdiv (give * give * give)) 10000
theorem cube_in {x b : Int} (h0 : 0 ≤ x) (h : x ≤ b) : 0 ≤ x * x * x ∧ x * x * x ≤ b * b * b := by
  have h1 : 0 ≤ x * x := Int.mul_nonneg h0 h0
  have hb : 0 ≤ b := Int.le_trans h0 h
  have h2 : x * x ≤ b * b := Int.mul_le_mul h h h0 hb
  exact ⟨Int.mul_nonneg h1 h0, Int.mul_le_mul h2 h h0 (Int.mul_nonneg hb hb)⟩
theorem cube_pos {x : Int} (h : 0 < x) : 0 < x * x * x := Int.mul_pos (Int.mul_pos h h) h
theorem zBad_in {gap give : Int} (h : 0 ≤ gap) : 0 ≤ zBad gap give ∧ zBad gap give ≤ 10000 := by
  unfold zBad
  split
  · omega
  · next hg =>
    have h1 : 0 ≤ gap * gap * gap := Int.mul_nonneg (Int.mul_nonneg h h) h
    have h2 : 0 < give * give * give := cube_pos (by omega)
    have h3 : 0 ≤ (100 * (gap * gap * gap)).tdiv (give * give * give) := Int.tdiv_nonneg (by omega) (by omega)
    omega
theorem zq_in {a b : Int} (ha : 0 ≤ a ∧ a ≤ 900000000000000000) (hb : 0 < b) : 0 ≤ a.tdiv b ∧ a.tdiv b ≤ 900000000000000000 := by
  refine ⟨Int.tdiv_nonneg ha.1 (by omega), ?_⟩
  have := Int.natAbs_tdiv_le_natAbs a b
  omega
def zWid (k s : Int) : Int := if s < k then 3 else if s < 2 * k then 2 else 1
/-- a line's numbers out of what it lacks, and by how much it may give -/
def zOk (lk sh : Int) : Prop := ¬ (lk < 0 ∧ sh < -lk)
def zUg (n e lk st sh : Int) : Int := if lk < 0 then zBad (-lk) sh else if lk = 0 ∨ n ≤ e then 0 else zBad lk st
def zCl (n e lk st sh : Int) : Int := if lk < 0 then (if sh < 2 * -lk then 0 else 1) else if lk = 0 ∨ n ≤ e then 1 else zWid lk st
theorem zUg_n {n e lk st sh : Int} (h : lk < 0) : zUg n e lk st sh = zBad (-lk) sh := if_pos h
theorem zUg_z {n e lk st sh : Int} (h : ¬ lk < 0) (h2 : lk = 0 ∨ n ≤ e) : zUg n e lk st sh = 0 := by unfold zUg; rw [if_neg h, if_pos h2]
theorem zUg_w {n e lk st sh : Int} (h : ¬ lk < 0) (h2 : ¬ (lk = 0 ∨ n ≤ e)) : zUg n e lk st sh = zBad lk st := by unfold zUg; rw [if_neg h, if_neg h2]
theorem zCl_n {n e lk st sh : Int} (h : lk < 0) : zCl n e lk st sh = if sh < 2 * -lk then 0 else 1 := if_pos h
theorem zCl_z {n e lk st sh : Int} (h : ¬ lk < 0) (h2 : lk = 0 ∨ n ≤ e) : zCl n e lk st sh = 1 := by unfold zCl; rw [if_neg h, if_pos h2]
theorem zCl_w {n e lk st sh : Int} (h : ¬ lk < 0) (h2 : ¬ (lk = 0 ∨ n ≤ e)) : zCl n e lk st sh = zWid lk st := by unfold zCl; rw [if_neg h, if_neg h2]
/-- the sums over what stands before an item -/
def zPok (n : Int) (LB SB HB : Int → Int) : Prop := (∀ j, 0 ≤ j → j ≤ n → (0 ≤ LB j ∧ LB j ≤ 1000000) ∧ (0 ≤ SB j ∧ SB j ≤ 1000000) ∧ (0 ≤ HB j ∧ HB j ≤ 100000)) ∧ ∀ i j, 0 ≤ i → i ≤ j → j ≤ n → LB i ≤ LB j ∧ SB i ≤ SB j ∧ HB i ≤ HB j
/-- what the line from s to e lacks -/
def zLk (n : Int) (K P LB : Int → Int) (s e w : Int) : Int := w - (LB e - LB (min s e)) - (if 0 ≤ e ∧ e < n ∧ K e = 2 then P e else 0)
theorem hd_X1_badnessOf_s : yX1_badnessOf.cls ≠ "java/lang/invoke/MethodHandle" ∧ yX1_badnessOf.cls ≠ "java/lang/invoke/VarHandle" ∧ (parseMethodDescriptor yX1_badnessOf.desc).map (fun d => d.parameters.length) = some 2 := by decide +kernel
theorem hd_X1_settle_v : yX1_settle.cls = RX1 ∧ yX1_settle.cls ≠ "java/lang/invoke/MethodHandle" ∧ yX1_settle.cls ≠ "java/lang/invoke/VarHandle" ∧ (parseMethodDescriptor yX1_settle.desc).map (fun d => d.parameters.length) = some 2 := by decide +kernel
theorem nf_RX1_15 : (RX1, 15, "BreakSearch$Items", "lengthBefore", "[I", "BreakSearch") ∈ zNF := by decide +kernel
theorem nm_RX1_21 : (RX1, 21, yX0_widthEndingAt, "BreakSearch") ∈ zNM := by decide +kernel
theorem hd_X0_widthEndingAt_s : yX0_widthEndingAt.cls ≠ "java/lang/invoke/MethodHandle" ∧ yX0_widthEndingAt.cls ≠ "java/lang/invoke/VarHandle" ∧ (parseMethodDescriptor yX0_widthEndingAt.desc).map (fun d => d.parameters.length) = some 1 := by decide +kernel
theorem nm_RX1_38 : (RX1, 38, yX0_isEnd, "BreakSearch") ∈ zNM := by decide +kernel
theorem hd_X0_isEnd_s : yX0_isEnd.cls ≠ "java/lang/invoke/MethodHandle" ∧ yX0_isEnd.cls ≠ "java/lang/invoke/VarHandle" ∧ (parseMethodDescriptor yX0_isEnd.desc).map (fun d => d.parameters.length) = some 1 := by decide +kernel
theorem nf_RX1_46 : (RX1, 46, "BreakSearch$Items", "stretchBefore", "[I", "BreakSearch") ∈ zNF := by decide +kernel
theorem hd_X1_widen_v : yX1_widen.cls = RX1 ∧ yX1_widen.cls ≠ "java/lang/invoke/MethodHandle" ∧ yX1_widen.cls ≠ "java/lang/invoke/VarHandle" ∧ (parseMethodDescriptor yX1_widen.desc).map (fun d => d.parameters.length) = some 1 := by decide +kernel
theorem nf_RX1_31 : (RX1, 31, "BreakSearch$Items", "shrinkBefore", "[I", "BreakSearch") ∈ zNF := by decide +kernel
theorem hd_X1_squeeze_v : yX1_squeeze.cls = RX1 ∧ yX1_squeeze.cls ≠ "java/lang/invoke/MethodHandle" ∧ yX1_squeeze.cls ≠ "java/lang/invoke/VarHandle" ∧ (parseMethodDescriptor yX1_squeeze.desc).map (fun d => d.parameters.length) = some 1 := by decide +kernel
theorem nf_RX4_35 : (RX4, 35, "BreakSearch$Line", "lack", "I", "BreakSearch") ∈ zNF := by decide +kernel
theorem nf_RX4_40 : (RX4, 40, "BreakSearch$Line", "ugliness", "I", "BreakSearch") ∈ zNF := by decide +kernel
theorem nf_RX4_43 : (RX4, 43, "BreakSearch$Line", "looks", "I", "BreakSearch") ∈ zNF := by decide +kernel
set_option maxRecDepth 20000 in
theorem mX2_toleranceIn_f15 : Cond.fieldLink RX2 15 "BreakSearch$Rules" "settings" "[I" ∈ wsX2_toleranceIn := by decide +kernel
set_option maxRecDepth 20000 in
theorem iX2_toleranceIn_2 : ∀ w ∈ u_ws RX2 TX2 2, w ∈ wsX2_toleranceIn := by decide +kernel
abbrev rm_X2_toleranceIn : Room := { frames := 1, cells := 0, slots := 0, locals := 12 }
set_option maxHeartbeats 4000000 in
set_option maxRecDepth 100000 in
theorem c_X2_toleranceIn (l : Launch) (g : zG) (oR aW aT : Nat) (W T : Int → Int) (ps : Int) (h1 : -2147483648 ≤ ps ∧ ps ≤ 2147483647) : zMRi l yX2_toleranceIn wsX2_toleranceIn rm_X2_toleranceIn g [(oR, eo 2 [.ref aW, .ref aT]), (aW, ei g 50 W), (aT, ei g 3 T)] [.ref oR, .int (iZ (ps))] (if ps = 1 then T 0 else T 1) := by
  refine z_beRi (cc := cX2_toleranceIn) (nL := 2) (ret := some .int) (plainFor_of_name (by decide +kernel)) rfl (Or.inl rfl) (Nat.le_of_ble_eq_true rfl) ?_
  intro X hC hR
  have hC : zC X g cX2_toleranceIn RX2 wsX2_toleranceIn rm_X2_toleranceIn 2 := hC
  show ZG X g (zE X) 0 0 [(oR, eo 2 [.ref aW, .ref aT]), (aW, ei g 50 W), (aT, ei g 3 T)] [(0, .ref oR), (1, .int (iZ (ps)))] 0 []
  refine z_aload_n hC 0 dX2_toleranceIn_0 rfl rfl ?_
  refine z_get hC iX2_toleranceIn_2 0 1 rfl rfl (by decide) mX2_toleranceIn_f15 rfl dX2_toleranceIn_1 ?_
  refine z_iload_n hC 1 dX2_toleranceIn_4 rfl rfl ?_
  refine z_iconst hC dX2_toleranceIn_5 ?_
  refine z_icmp_ne hC 13 dX2_toleranceIn_6 (by decide) (by omega) (by omega) (fun c_6 => ?_) (fun c_6 => ?_)
  ·
    refine z_iconst hC dX2_toleranceIn_13 ?_
    refine z_iald hC 2 rfl (by omega) (by decide) dX2_toleranceIn_14 ?_
    exact hR _ _ _ _ (by first | exact (if_pos (by omega)).symm | exact (if_neg (by omega)).symm) dX2_toleranceIn_15
  ·
    refine z_iconst hC dX2_toleranceIn_9 ?_
    refine z_goto (tgt := 14) hC dX2_toleranceIn_10 (by decide) ?_
    refine z_iald hC 2 rfl (by omega) (by decide) dX2_toleranceIn_14 ?_
    exact hR _ _ _ _ (by first | exact (if_pos (by omega)).symm | exact (if_neg (by omega)).symm) dX2_toleranceIn_15
abbrev rm_X2_breaksAtMarksIn : Room := { frames := 1, cells := 0, slots := 0, locals := 12 }
set_option maxHeartbeats 4000000 in
set_option maxRecDepth 100000 in
theorem c_X2_breaksAtMarksIn (l : Launch) (g : zG) (oR aW aT : Nat) (W T : Int → Int) (ps : Int) (h1 : -2147483648 ≤ ps ∧ ps ≤ 2147483647) : zMRi l yX2_breaksAtMarksIn wsX2_breaksAtMarksIn rm_X2_breaksAtMarksIn g [(oR, eo 2 [.ref aW, .ref aT]), (aW, ei g 50 W), (aT, ei g 3 T)] [.ref oR, .int (iZ (ps))] (b2 (¬ ps = 1)) := by
  refine z_beRi (cc := cX2_breaksAtMarksIn) (nL := 2) (ret := some .boolean) (plainFor_of_name (by decide +kernel)) rfl (Or.inr ⟨rfl, b2_01 _⟩) (Nat.le_of_ble_eq_true rfl) ?_
  intro X hC hR
  have hC : zC X g cX2_breaksAtMarksIn RX2 wsX2_breaksAtMarksIn rm_X2_breaksAtMarksIn 2 := hC
  show ZG X g (zE X) 0 0 [(oR, eo 2 [.ref aW, .ref aT]), (aW, ei g 50 W), (aT, ei g 3 T)] [(0, .ref oR), (1, .int (iZ (ps)))] 0 []
  refine z_iload_n hC 1 dX2_breaksAtMarksIn_0 rfl rfl ?_
  refine z_iconst hC dX2_breaksAtMarksIn_1 ?_
  refine z_icmp_eq hC 9 dX2_breaksAtMarksIn_2 (by decide) (by omega) (by omega) (fun c_2 => ?_) (fun c_2 => ?_)
  ·
    refine z_iconst hC dX2_breaksAtMarksIn_9 ?_
    exact hR _ _ _ _ (by first | exact b2_1' (by omega) | exact b2_0' (by omega) | exact b2_eq (by omega)) dX2_breaksAtMarksIn_10
  ·
    refine z_iconst hC dX2_breaksAtMarksIn_5 ?_
    refine z_goto (tgt := 10) hC dX2_breaksAtMarksIn_6 (by decide) ?_
    exact hR _ _ _ _ (by first | exact b2_1' (by omega) | exact b2_0' (by omega) | exact b2_eq (by omega)) dX2_breaksAtMarksIn_10
set_option maxRecDepth 20000 in
theorem mX2_moreStretchIn_f15 : Cond.fieldLink RX2 15 "BreakSearch$Rules" "settings" "[I" ∈ wsX2_moreStretchIn := by decide +kernel
set_option maxRecDepth 20000 in
theorem iX2_moreStretchIn_2 : ∀ w ∈ u_ws RX2 TX2 2, w ∈ wsX2_moreStretchIn := by decide +kernel
abbrev rm_X2_moreStretchIn : Room := { frames := 1, cells := 0, slots := 0, locals := 12 }
set_option maxHeartbeats 4000000 in
set_option maxRecDepth 100000 in
theorem c_X2_moreStretchIn (l : Launch) (g : zG) (oR aW aT : Nat) (W T : Int → Int) (ps : Int) (h1 : -2147483648 ≤ ps ∧ ps ≤ 2147483647) : zMRi l yX2_moreStretchIn wsX2_moreStretchIn rm_X2_moreStretchIn g [(oR, eo 2 [.ref aW, .ref aT]), (aW, ei g 50 W), (aT, ei g 3 T)] [.ref oR, .int (iZ (ps))] (if ps = 3 then T 2 else 0) := by
  refine z_beRi (cc := cX2_moreStretchIn) (nL := 2) (ret := some .int) (plainFor_of_name (by decide +kernel)) rfl (Or.inl rfl) (Nat.le_of_ble_eq_true rfl) ?_
  intro X hC hR
  have hC : zC X g cX2_moreStretchIn RX2 wsX2_moreStretchIn rm_X2_moreStretchIn 2 := hC
  show ZG X g (zE X) 0 0 [(oR, eo 2 [.ref aW, .ref aT]), (aW, ei g 50 W), (aT, ei g 3 T)] [(0, .ref oR), (1, .int (iZ (ps)))] 0 []
  refine z_iload_n hC 1 dX2_moreStretchIn_0 rfl rfl ?_
  refine z_iconst hC dX2_moreStretchIn_1 ?_
  refine z_icmp_ne hC 14 dX2_moreStretchIn_2 (by decide) (by omega) (by omega) (fun c_2 => ?_) (fun c_2 => ?_)
  ·
    refine z_iconst hC dX2_moreStretchIn_14 ?_
    exact hR _ _ _ _ (by first | exact (if_pos (by omega)).symm | exact (if_neg (by omega)).symm) dX2_moreStretchIn_15
  ·
    refine z_aload_n hC 0 dX2_moreStretchIn_5 rfl rfl ?_
    refine z_get hC iX2_moreStretchIn_2 0 1 rfl rfl (by decide) mX2_moreStretchIn_f15 rfl dX2_moreStretchIn_6 ?_
    refine z_iconst hC dX2_moreStretchIn_9 ?_
    refine z_iald hC 2 rfl (by omega) (by decide) dX2_moreStretchIn_10 ?_
    refine z_goto (tgt := 15) hC dX2_moreStretchIn_11 (by decide) ?_
    exact hR _ _ _ _ (by first | exact (if_pos (by omega)).symm | exact (if_neg (by omega)).symm) dX2_moreStretchIn_15
set_option maxRecDepth 20000 in
theorem mX1_badnessOf_k65 : Cond.constantLong RX1 65 (100) ∈ wsX1_badnessOf := by decide +kernel
set_option maxRecDepth 20000 in
theorem mX1_badnessOf_k67 : Cond.constantLong RX1 67 (10000) ∈ wsX1_badnessOf := by decide +kernel
set_option maxRecDepth 20000 in
theorem mX1_badnessOf_l69 : Cond.methodLink RX1 69 Lib.MathLoose.min_long.x ∈ wsX1_badnessOf := by decide +kernel
set_option maxRecDepth 20000 in
theorem mX1_badnessOf_ls69 : Cond.static Lib.MathLoose.min_long.x ∈ wsX1_badnessOf := by decide +kernel
set_option maxRecDepth 20000 in
theorem mX1_badnessOf_li : Cond.initialized "java/lang/Math" ∈ wsX1_badnessOf := by decide +kernel
set_option maxRecDepth 20000 in
theorem mX1_badnessOf_lc69 : Cond.code Lib.MathLoose.min_long.x Lib.MathLoose.min_long.code 4 (some .long) ∈ wsX1_badnessOf := by decide +kernel
abbrev rm_X1_badnessOf : Room := { frames := 1, cells := 0, slots := 0, locals := 23 }
set_option maxHeartbeats 4000000 in
set_option maxRecDepth 100000 in
theorem c_X1_badnessOf (l : Launch) (g : zG) (gap give : Int) (h1 : 0 ≤ gap ∧ gap ≤ 200000) (h2 : -2147483648 ≤ give ∧ give ≤ 2000000) : zMRi l yX1_badnessOf wsX1_badnessOf rm_X1_badnessOf g [] [.int (iZ (gap)), .int (iZ (give))] (zBad gap give) := by
  refine z_beRi (cc := cX1_badnessOf) (nL := 6) (ret := some .int) (plainFor_of_name (by decide +kernel)) rfl (Or.inl rfl) (Nat.le_of_ble_eq_true rfl) ?_
  intro X hC hR
  have hC : zC X g cX1_badnessOf RX1 wsX1_badnessOf rm_X1_badnessOf 6 := hC
  show ZG X g (zE X) 0 0 [] [(0, .int (iZ (gap))), (1, .int (iZ (give)))] 0 []
  refine z_iload_n hC 1 dX1_badnessOf_0 rfl rfl ?_
  refine z_if_gt hC 8 dX1_badnessOf_1 (by decide) (by omega) (fun c_1 => ?_) (fun c_1 => ?_)
  ·
    have q1 := cube_in h1.1 h1.2
    have q2 := cube_in (x := give) (b := 2000000) (by omega) (by omega)
    have q3 := cube_pos (x := give) (by omega)
    have q4 := zq_in (a := 100 * (gap * gap * gap)) (b := give * give * give) (by omega) (by omega)
    refine z_iload_n hC 0 dX1_badnessOf_8 rfl rfl ?_
    refine z_i2l hC dX1_badnessOf_9 (by omega) ?_
    refine z_iload_n hC 0 dX1_badnessOf_10 rfl rfl ?_
    refine z_i2l hC dX1_badnessOf_11 (by omega) ?_
    refine z_lmul hC dX1_badnessOf_12 ?_
    refine z_iload_n hC 0 dX1_badnessOf_13 rfl rfl ?_
    refine z_i2l hC dX1_badnessOf_14 (by omega) ?_
    refine z_lmul hC dX1_badnessOf_15 ?_
    refine z_lstore_n hC (lv' := [(2, _), (0, _), (1, _)]) dX1_badnessOf_16 rfl (by decide) rfl ?_
    refine z_iload_n hC 2 dX1_badnessOf_17 rfl rfl ?_
    refine z_i2l hC dX1_badnessOf_18 (by omega) ?_
    refine z_iload_n hC 2 dX1_badnessOf_19 rfl rfl ?_
    refine z_i2l hC dX1_badnessOf_20 (by omega) ?_
    refine z_lmul hC dX1_badnessOf_21 ?_
    refine z_iload_n hC 2 dX1_badnessOf_22 rfl rfl ?_
    refine z_i2l hC dX1_badnessOf_23 (by omega) ?_
    refine z_lmul hC dX1_badnessOf_24 ?_
    refine z_lstore hC (lv' := [(4, _), (2, _), (0, _), (1, _)]) dX1_badnessOf_25 (by decide) rfl ?_
    refine z_ldc2 hC (100) mX1_badnessOf_k65 (by decide) dX1_badnessOf_27 ?_
    refine z_lload_n hC 1 dX1_badnessOf_30 rfl rfl ?_
    refine z_lmul hC dX1_badnessOf_31 ?_
    refine z_lload hC 0 dX1_badnessOf_32 rfl ?_
    refine z_ldiv hC dX1_badnessOf_34 (by omega) (by omega) ?_
    refine z_ldc2 hC (10000) mX1_badnessOf_k67 (by decide) dX1_badnessOf_35 ?_
    refine z_minl hC mX1_badnessOf_l69 mX1_badnessOf_ls69 mX1_badnessOf_li mX1_badnessOf_lc69 (by omega) (by omega) (by decide) (Nat.le_of_ble_eq_true rfl) (by decide) (by decide) dX1_badnessOf_38 ?_
    refine z_l2i hC dX1_badnessOf_41 ?_
    exact hR _ _ _ _ (by unfold zBad; first | exact (if_pos (by omega)).symm | exact (if_neg (by omega)).symm) dX1_badnessOf_42
  ·
    refine z_sip hC dX1_badnessOf_4 (by decide) ?_
    exact hR _ _ _ _ (by unfold zBad; first | exact (if_pos (by omega)).symm | exact (if_neg (by omega)).symm) dX1_badnessOf_7
set_option maxRecDepth 20000 in
theorem mX1_settle_f52 : Cond.fieldLink RX1 52 "BreakSearch$Line" "stands" "Z" ∈ wsX1_settle := by decide +kernel
set_option maxRecDepth 20000 in
theorem iX1_settle_1 : ∀ w ∈ u_ws RX1 TX1 4, w ∈ wsX1_settle := by decide +kernel
set_option maxRecDepth 20000 in
theorem mX1_settle_f56 : Cond.fieldLink RX1 56 "BreakSearch$Line" "ugliness" "I" ∈ wsX1_settle := by decide +kernel
set_option maxRecDepth 20000 in
theorem mX1_settle_f59 : Cond.fieldLink RX1 59 "BreakSearch$Line" "looks" "I" ∈ wsX1_settle := by decide +kernel
abbrev rm_X1_settle : Room := { frames := 1, cells := 0, slots := 0, locals := 12 }
set_option maxHeartbeats 4000000 in
set_option maxRecDepth 100000 in
theorem c_X1_settle (l : Launch) (g : zG) (hL : Nat) (k ug lo sd : Int) (b c : Int)  : zMWv (S := Unit) l yX1_settle wsX1_settle rm_X1_settle g [(hL, eo 1 [.int (iZ (k)), .int (iZ (ug)), .int (iZ (lo)), .int (iZ (sd))])] [.ref hL, .int (iZ (b)), .int (iZ (c))] (fun _ => True) (fun u => [(hL, eo 1 [.int (iZ (k)), .int (iZ (b)), .int (iZ (c)), .int (iZ (1))])]) 0 0 := by
  refine z_beWv (cc := cX1_settle) (nL := 3) (plainFor_of_name (by decide +kernel)) rfl (Nat.le_of_ble_eq_true rfl) ?_
  intro X A hC hN hR
  have hC : zC X g cX1_settle RX1 wsX1_settle rm_X1_settle 3 := hC
  show ZG X g (zD X A) 0 0 [(hL, eo 1 [.int (iZ (k)), .int (iZ (ug)), .int (iZ (lo)), .int (iZ (sd))])] [(0, .ref hL), (1, .int (iZ (b))), (2, .int (iZ (c)))] 0 []
  refine z_aload_n hC 0 dX1_settle_0 rfl rfl ?_
  refine z_iconst hC dX1_settle_1 ?_
  refine z_put hC iX1_settle_1 tyX1 tyX1_ok nmX1 0 3 rfl rfl (by decide) mX1_settle_f52 rfl (nar_bool (by omega)) (fit_bool (by omega)) (Nat.le_of_ble_eq_true rfl) dX1_settle_2 (ws' := [_]) rfl ?_
  refine z_aload_n hC 0 dX1_settle_5 rfl rfl ?_
  refine z_iload_n hC 1 dX1_settle_6 rfl rfl ?_
  refine z_put hC iX1_settle_1 tyX1 tyX1_ok nmX1 0 1 rfl rfl (by decide) mX1_settle_f56 rfl rfl rfl (Nat.le_of_ble_eq_true rfl) dX1_settle_7 (ws' := [_]) rfl ?_
  refine z_aload_n hC 0 dX1_settle_10 rfl rfl ?_
  refine z_iload_n hC 2 dX1_settle_11 rfl rfl ?_
  refine z_put hC iX1_settle_1 tyX1 tyX1_ok nmX1 0 2 rfl rfl (by decide) mX1_settle_f59 rfl rfl rfl (Nat.le_of_ble_eq_true rfl) dX1_settle_12 (ws' := [_]) rfl ?_
  exact hR () _ _ _ [0] trivial (by decide) rfl dX1_settle_15
set_option maxRecDepth 20000 in
theorem mX1_squeeze_f25 : Cond.fieldLink RX1 25 "BreakSearch$Line" "lack" "I" ∈ wsX1_squeeze := by decide +kernel
set_option maxRecDepth 20000 in
theorem iX1_squeeze_1 : ∀ w ∈ u_ws RX1 TX1 4, w ∈ wsX1_squeeze := by decide +kernel
set_option maxRecDepth 20000 in
theorem mX1_squeeze_f52 : Cond.fieldLink RX1 52 "BreakSearch$Line" "stands" "Z" ∈ wsX1_squeeze := by decide +kernel
abbrev rm_X1_squeeze : Room := { frames := 2, cells := 0, slots := 0, locals := 48 }
set_option maxHeartbeats 4000000 in
set_option maxRecDepth 100000 in
theorem c_X1_squeeze (l : Launch) (g : zG) (hL : Nat) (k ug lo sd : Int) (s : Int) (h1 : -2000000 ≤ k ∧ k < 0) (h2 : 0 ≤ s ∧ s ≤ 200000) : zMWv (S := (Int) × (Int) × (Int)) l yX1_squeeze wsX1_squeeze rm_X1_squeeze g [(hL, eo 1 [.int (iZ (k)), .int (iZ (ug)), .int (iZ (lo)), .int (iZ (sd))])] [.ref hL, .int (iZ (s))] (fun u => ((s < -k) ∧ u = (ug, lo, 0)) ∨ ((-k ≤ s) ∧ u = (zBad (-k) s, if s < 2 * -k then 0 else 1, 1))) (fun u => [(hL, eo 1 [.int (iZ (k)), .int (iZ (u.1)), .int (iZ (u.2.1)), .int (iZ (u.2.2))])]) 0 0 := by
  refine z_beWv (cc := cX1_squeeze) (nL := 3) (plainFor_of_name (by decide +kernel)) rfl (Nat.le_of_ble_eq_true rfl) ?_
  intro X A hC hN hR
  have hC : zC X g cX1_squeeze RX1 wsX1_squeeze rm_X1_squeeze 3 := hC
  show ZG X g (zD X A) 0 0 [(hL, eo 1 [.int (iZ (k)), .int (iZ (ug)), .int (iZ (lo)), .int (iZ (sd))])] [(0, .ref hL), (1, .int (iZ (s)))] 0 []
  refine z_aload_n hC 0 dX1_squeeze_0 rfl rfl ?_
  refine z_get hC iX1_squeeze_1 0 0 rfl rfl (by decide) mX1_squeeze_f25 rfl dX1_squeeze_1 ?_
  refine z_ineg hC dX1_squeeze_4 ?_
  refine z_istore_n hC (lv' := [(2, _), (0, _), (1, _)]) dX1_squeeze_5 rfl (by decide) rfl ?_
  refine z_iload_n hC 0 dX1_squeeze_6 rfl rfl ?_
  refine z_iload_n hC 2 dX1_squeeze_7 rfl rfl ?_
  refine z_icmp_le hC 17 dX1_squeeze_8 (by decide) (by omega) (by omega) (fun c_8 => ?_) (fun c_8 => ?_)
  ·
    refine z_aload_n hC 1 dX1_squeeze_17 rfl rfl ?_
    refine z_iload_n hC 0 dX1_squeeze_18 rfl rfl ?_
    refine z_iload_n hC 2 dX1_squeeze_19 rfl rfl ?_
    refine z_sRi hC 2 (c_X1_badnessOf (xl X) g _ _ (by omega) (by omega)) gX1_squeeze_X1_badnessOf rfl hd_X1_badnessOf_s (by decide) ⟨rfl, rfl⟩ [] (by decide) rfl rfl rfl (Nat.le_of_ble_eq_true rfl) dX1_squeeze_20 (by decide) ?_
    refine z_iconst hC dX1_squeeze_23 ?_
    refine z_iload_n hC 0 dX1_squeeze_24 rfl rfl ?_
    refine z_imul hC dX1_squeeze_25 ?_
    refine z_iload_n hC 2 dX1_squeeze_26 rfl rfl ?_
    refine z_icmp_le hC 34 dX1_squeeze_27 (by decide) (by omega) (by omega) (fun c_27 => ?_) (fun c_27 => ?_)
    ·
      refine z_iconst hC dX1_squeeze_34 ?_
      refine z_vWv (wr := []) hC 2 (c_X1_settle (xl X) g _ _ _ _ _ _ _) gX1_squeeze_X1_settle rfl hd_X1_settle_v (by decide) ⟨rfl, rfl⟩ [0] [] (by decide) rfl rfl (by decide) (by decide) 0 1 rfl rfl rfl rfl rfl (Nat.le_of_ble_eq_true rfl) dX1_squeeze_35 (by decide) (fun u_35 p_35 => ?_)
      refine z_ws (ws' := [(hL, eo 1 [.int (iZ (k)), .int (iZ ((zBad (-k) s))), .int (iZ (1)), .int (iZ (1))])]) [0] (by decide) rfl ?_
      exact hR ((zBad (-k) s), 1, 1) _ _ _ [0] (by first | exact Or.inl ⟨by omega, rfl⟩ | (refine Or.inr ⟨by omega, ?_⟩; (repeat (first | rw [if_pos (by omega)] | rw [if_neg (by omega)])))) (by decide) rfl dX1_squeeze_38
    ·
      refine z_iconst hC dX1_squeeze_30 ?_
      refine z_goto (tgt := 35) hC dX1_squeeze_31 (by decide) ?_
      refine z_vWv (wr := []) hC 2 (c_X1_settle (xl X) g _ _ _ _ _ _ _) gX1_squeeze_X1_settle rfl hd_X1_settle_v (by decide) ⟨rfl, rfl⟩ [0] [] (by decide) rfl rfl (by decide) (by decide) 0 1 rfl rfl rfl rfl rfl (Nat.le_of_ble_eq_true rfl) dX1_squeeze_35 (by decide) (fun u_35 p_35 => ?_)
      refine z_ws (ws' := [(hL, eo 1 [.int (iZ (k)), .int (iZ ((zBad (-k) s))), .int (iZ (0)), .int (iZ (1))])]) [0] (by decide) rfl ?_
      exact hR ((zBad (-k) s), 0, 1) _ _ _ [0] (by first | exact Or.inl ⟨by omega, rfl⟩ | (refine Or.inr ⟨by omega, ?_⟩; (repeat (first | rw [if_pos (by omega)] | rw [if_neg (by omega)])))) (by decide) rfl dX1_squeeze_38
  ·
    refine z_aload_n hC 1 dX1_squeeze_11 rfl rfl ?_
    refine z_iconst hC dX1_squeeze_12 ?_
    refine z_put hC iX1_squeeze_1 tyX1 tyX1_ok nmX1 0 3 rfl rfl (by decide) mX1_squeeze_f52 rfl (nar_bool (by omega)) (fit_bool (by omega)) (Nat.le_of_ble_eq_true rfl) dX1_squeeze_13 (ws' := [_]) rfl ?_
    exact hR (ug, lo, 0) _ _ _ [0] (by first | exact Or.inl ⟨by omega, rfl⟩ | (refine Or.inr ⟨by omega, ?_⟩; (repeat (first | rw [if_pos (by omega)] | rw [if_neg (by omega)])))) (by decide) rfl dX1_squeeze_16
set_option maxRecDepth 20000 in
theorem mX1_widen_f25 : Cond.fieldLink RX1 25 "BreakSearch$Line" "lack" "I" ∈ wsX1_widen := by decide +kernel
set_option maxRecDepth 20000 in
theorem iX1_widen_1 : ∀ w ∈ u_ws RX1 TX1 4, w ∈ wsX1_widen := by decide +kernel
abbrev rm_X1_widen : Room := { frames := 2, cells := 0, slots := 0, locals := 48 }
set_option maxHeartbeats 4000000 in
set_option maxRecDepth 100000 in
theorem c_X1_widen (l : Launch) (g : zG) (hL : Nat) (k ug lo sd : Int) (s : Int) (h1 : 0 < k ∧ k ≤ 200000) (h2 : 0 ≤ s ∧ s ≤ 2000000) : zMWv (S := (Int) × (Int) × (Int)) l yX1_widen wsX1_widen rm_X1_widen g [(hL, eo 1 [.int (iZ (k)), .int (iZ (ug)), .int (iZ (lo)), .int (iZ (sd))])] [.ref hL, .int (iZ (s))] (fun u => u.1 = zBad k s ∧ u.2.1 = zWid k s ∧ u.2.2 = 1) (fun u => [(hL, eo 1 [.int (iZ (k)), .int (iZ (u.1)), .int (iZ (u.2.1)), .int (iZ (u.2.2))])]) 0 0 := by
  refine z_beWv (cc := cX1_widen) (nL := 3) (plainFor_of_name (by decide +kernel)) rfl (Nat.le_of_ble_eq_true rfl) ?_
  intro X A hC hN hR
  have hC : zC X g cX1_widen RX1 wsX1_widen rm_X1_widen 3 := hC
  show ZG X g (zD X A) 0 0 [(hL, eo 1 [.int (iZ (k)), .int (iZ (ug)), .int (iZ (lo)), .int (iZ (sd))])] [(0, .ref hL), (1, .int (iZ (s)))] 0 []
  refine z_iconst hC dX1_widen_0 ?_
  refine z_istore_n hC (lv' := [(2, _), (0, _), (1, _)]) dX1_widen_1 rfl (by decide) rfl ?_
  refine z_aload_n hC 1 dX1_widen_2 rfl rfl ?_
  refine z_get hC iX1_widen_1 0 0 rfl rfl (by decide) mX1_widen_f25 rfl dX1_widen_3 ?_
  refine z_iload_n hC 2 dX1_widen_6 rfl rfl ?_
  refine z_icmp_le hC 15 dX1_widen_7 (by decide) (by omega) (by omega) (fun c_7 => ?_) (fun c_7 => ?_)
  ·
    refine z_iconst hC dX1_widen_15 ?_
    refine z_aload_n hC 1 dX1_widen_16 rfl rfl ?_
    refine z_get hC iX1_widen_1 0 0 rfl rfl (by decide) mX1_widen_f25 rfl dX1_widen_17 ?_
    refine z_imul hC dX1_widen_20 ?_
    refine z_iload_n hC 2 dX1_widen_21 rfl rfl ?_
    refine z_icmp_le hC 27 dX1_widen_22 (by decide) (by omega) (by omega) (fun c_22 => ?_) (fun c_22 => ?_)
    ·
      refine z_aload_n hC 1 dX1_widen_27 rfl rfl ?_
      refine z_aload_n hC 1 dX1_widen_28 rfl rfl ?_
      refine z_get hC iX1_widen_1 0 0 rfl rfl (by decide) mX1_widen_f25 rfl dX1_widen_29 ?_
      refine z_iload_n hC 2 dX1_widen_32 rfl rfl ?_
      refine z_sRi hC 2 (c_X1_badnessOf (xl X) g _ _ (by omega) (by omega)) gX1_widen_X1_badnessOf rfl hd_X1_badnessOf_s (by decide) ⟨rfl, rfl⟩ [] (by decide) rfl rfl rfl (Nat.le_of_ble_eq_true rfl) dX1_widen_33 (by decide) ?_
      refine z_iload_n hC 0 dX1_widen_36 rfl rfl ?_
      refine z_vWv (wr := []) hC 2 (c_X1_settle (xl X) g _ _ _ _ _ _ _) gX1_widen_X1_settle rfl hd_X1_settle_v (by decide) ⟨rfl, rfl⟩ [0] [] (by decide) rfl rfl (by decide) (by decide) 0 1 rfl rfl rfl rfl rfl (Nat.le_of_ble_eq_true rfl) dX1_widen_37 (by decide) (fun u_37 p_37 => ?_)
      refine z_ws (ws' := [(hL, eo 1 [.int (iZ (k)), .int (iZ ((zBad k s))), .int (iZ (1)), .int (iZ (1))])]) [0] (by decide) rfl ?_
      exact hR ((zBad k s), 1, 1) _ _ _ [0] ⟨rfl, by unfold zWid; (repeat (first | rw [if_pos (by omega)] | rw [if_neg (by omega)])), rfl⟩ (by decide) rfl dX1_widen_40
    ·
      refine z_iconst hC dX1_widen_25 ?_
      refine z_istore_n hC (lv' := [(2, _), (0, _), (1, _)]) dX1_widen_26 rfl (by decide) rfl ?_
      refine z_aload_n hC 1 dX1_widen_27 rfl rfl ?_
      refine z_aload_n hC 1 dX1_widen_28 rfl rfl ?_
      refine z_get hC iX1_widen_1 0 0 rfl rfl (by decide) mX1_widen_f25 rfl dX1_widen_29 ?_
      refine z_iload_n hC 2 dX1_widen_32 rfl rfl ?_
      refine z_sRi hC 2 (c_X1_badnessOf (xl X) g _ _ (by omega) (by omega)) gX1_widen_X1_badnessOf rfl hd_X1_badnessOf_s (by decide) ⟨rfl, rfl⟩ [] (by decide) rfl rfl rfl (Nat.le_of_ble_eq_true rfl) dX1_widen_33 (by decide) ?_
      refine z_iload_n hC 0 dX1_widen_36 rfl rfl ?_
      refine z_vWv (wr := []) hC 2 (c_X1_settle (xl X) g _ _ _ _ _ _ _) gX1_widen_X1_settle rfl hd_X1_settle_v (by decide) ⟨rfl, rfl⟩ [0] [] (by decide) rfl rfl (by decide) (by decide) 0 1 rfl rfl rfl rfl rfl (Nat.le_of_ble_eq_true rfl) dX1_widen_37 (by decide) (fun u_37 p_37 => ?_)
      refine z_ws (ws' := [(hL, eo 1 [.int (iZ (k)), .int (iZ ((zBad k s))), .int (iZ (2)), .int (iZ (1))])]) [0] (by decide) rfl ?_
      exact hR ((zBad k s), 2, 1) _ _ _ [0] ⟨rfl, by unfold zWid; (repeat (first | rw [if_pos (by omega)] | rw [if_neg (by omega)])), rfl⟩ (by decide) rfl dX1_widen_40
  ·
    refine z_iconst hC dX1_widen_10 ?_
    refine z_istore_n hC (lv' := [(2, _), (0, _), (1, _)]) dX1_widen_11 rfl (by decide) rfl ?_
    refine z_goto (tgt := 27) hC dX1_widen_12 (by decide) ?_
    refine z_aload_n hC 1 dX1_widen_27 rfl rfl ?_
    refine z_aload_n hC 1 dX1_widen_28 rfl rfl ?_
    refine z_get hC iX1_widen_1 0 0 rfl rfl (by decide) mX1_widen_f25 rfl dX1_widen_29 ?_
    refine z_iload_n hC 2 dX1_widen_32 rfl rfl ?_
    refine z_sRi hC 2 (c_X1_badnessOf (xl X) g _ _ (by omega) (by omega)) gX1_widen_X1_badnessOf rfl hd_X1_badnessOf_s (by decide) ⟨rfl, rfl⟩ [] (by decide) rfl rfl rfl (Nat.le_of_ble_eq_true rfl) dX1_widen_33 (by decide) ?_
    refine z_iload_n hC 0 dX1_widen_36 rfl rfl ?_
    refine z_vWv (wr := []) hC 2 (c_X1_settle (xl X) g _ _ _ _ _ _ _) gX1_widen_X1_settle rfl hd_X1_settle_v (by decide) ⟨rfl, rfl⟩ [0] [] (by decide) rfl rfl (by decide) (by decide) 0 1 rfl rfl rfl rfl rfl (Nat.le_of_ble_eq_true rfl) dX1_widen_37 (by decide) (fun u_37 p_37 => ?_)
    refine z_ws (ws' := [(hL, eo 1 [.int (iZ (k)), .int (iZ ((zBad k s))), .int (iZ (3)), .int (iZ (1))])]) [0] (by decide) rfl ?_
    exact hR ((zBad k s), 3, 1) _ _ _ [0] ⟨rfl, by unfold zWid; (repeat (first | rw [if_pos (by omega)] | rw [if_neg (by omega)])), rfl⟩ (by decide) rfl dX1_widen_40
set_option maxRecDepth 20000 in
theorem mX1_isToleratedBy_f52 : Cond.fieldLink RX1 52 "BreakSearch$Line" "stands" "Z" ∈ wsX1_isToleratedBy := by decide +kernel
set_option maxRecDepth 20000 in
theorem iX1_isToleratedBy_1 : ∀ w ∈ u_ws RX1 TX1 4, w ∈ wsX1_isToleratedBy := by decide +kernel
set_option maxRecDepth 20000 in
theorem mX1_isToleratedBy_f56 : Cond.fieldLink RX1 56 "BreakSearch$Line" "ugliness" "I" ∈ wsX1_isToleratedBy := by decide +kernel
abbrev rm_X1_isToleratedBy : Room := { frames := 1, cells := 0, slots := 0, locals := 12 }
set_option maxHeartbeats 4000000 in
set_option maxRecDepth 100000 in
theorem c_X1_isToleratedBy (l : Launch) (g : zG) (hL : Nat) (k ug lo sd : Int) (t : Int) (h1 : sd = 0 ∨ sd = 1) (h2 : sd = 1 → 0 ≤ ug ∧ ug ≤ 10000) (h3 : -2147483648 ≤ t ∧ t ≤ 2147483647) : zMRi l yX1_isToleratedBy wsX1_isToleratedBy rm_X1_isToleratedBy g [(hL, eo 1 [.int (iZ (k)), .int (iZ (ug)), .int (iZ (lo)), .int (iZ (sd))])] [.ref hL, .int (iZ (t))] (b2 (sd = 1 ∧ ug ≤ t)) := by
  refine z_beRi (cc := cX1_isToleratedBy) (nL := 2) (ret := some .boolean) (plainFor_of_name (by decide +kernel)) rfl (Or.inr ⟨rfl, b2_01 _⟩) (Nat.le_of_ble_eq_true rfl) ?_
  intro X hC hR
  have hC : zC X g cX1_isToleratedBy RX1 wsX1_isToleratedBy rm_X1_isToleratedBy 2 := hC
  show ZG X g (zE X) 0 0 [(hL, eo 1 [.int (iZ (k)), .int (iZ (ug)), .int (iZ (lo)), .int (iZ (sd))])] [(0, .ref hL), (1, .int (iZ (t)))] 0 []
  refine z_aload_n hC 0 dX1_isToleratedBy_0 rfl rfl ?_
  refine z_get hC iX1_isToleratedBy_1 0 3 rfl rfl (by decide) mX1_isToleratedBy_f52 rfl dX1_isToleratedBy_1 ?_
  refine z_if_eq hC 19 dX1_isToleratedBy_4 (by decide) (by omega) (fun c_4 => ?_) (fun c_4 => ?_)
  ·
    refine z_iconst hC dX1_isToleratedBy_19 ?_
    exact hR _ _ _ _ (by first | exact b2_1' (by omega) | exact b2_0' (by omega) | exact b2_eq (by omega)) dX1_isToleratedBy_20
  ·
    have h2u := h2 (by omega)
    refine z_aload_n hC 0 dX1_isToleratedBy_7 rfl rfl ?_
    refine z_get hC iX1_isToleratedBy_1 0 1 rfl rfl (by decide) mX1_isToleratedBy_f56 rfl dX1_isToleratedBy_8 ?_
    refine z_iload_n hC 1 dX1_isToleratedBy_11 rfl rfl ?_
    refine z_icmp_gt hC 19 dX1_isToleratedBy_12 (by decide) (by omega) (by omega) (fun c_12 => ?_) (fun c_12 => ?_)
    ·
      refine z_iconst hC dX1_isToleratedBy_19 ?_
      exact hR _ _ _ _ (by first | exact b2_1' (by omega) | exact b2_0' (by omega) | exact b2_eq (by omega)) dX1_isToleratedBy_20
    ·
      refine z_iconst hC dX1_isToleratedBy_15 ?_
      refine z_goto (tgt := 20) hC dX1_isToleratedBy_16 (by decide) ?_
      exact hR _ _ _ _ (by first | exact b2_1' (by omega) | exact b2_0' (by omega) | exact b2_eq (by omega)) dX1_isToleratedBy_20
set_option maxRecDepth 20000 in
theorem mX1_isUnlike_l72 : Cond.methodLink RX1 72 Lib.Math.abs.name ∈ wsX1_isUnlike := by decide +kernel
set_option maxRecDepth 20000 in
theorem mX1_isUnlike_ls72 : Cond.static Lib.Math.abs.name ∈ wsX1_isUnlike := by decide +kernel
set_option maxRecDepth 20000 in
theorem mX1_isUnlike_li : Cond.initialized "java/lang/Math" ∈ wsX1_isUnlike := by decide +kernel
set_option maxRecDepth 20000 in
theorem mX1_isUnlike_lc72 : Cond.code Lib.Math.abs.name Lib.Math.abs.code 1 (some .int) ∈ wsX1_isUnlike := by decide +kernel
abbrev rm_X1_isUnlike : Room := { frames := 1, cells := 0, slots := 0, locals := 21 }
set_option maxHeartbeats 4000000 in
set_option maxRecDepth 100000 in
theorem c_X1_isUnlike (l : Launch) (g : zG) (a b : Int) (h1 : 0 ≤ a ∧ a ≤ 3) (h2 : 0 ≤ b ∧ b ≤ 3) : zMRi l yX1_isUnlike wsX1_isUnlike rm_X1_isUnlike g [] [.int (iZ (a)), .int (iZ (b))] (b2 (1 < a - b ∨ 1 < b - a)) := by
  refine z_beRi (cc := cX1_isUnlike) (nL := 2) (ret := some .boolean) (plainFor_of_name (by decide +kernel)) rfl (Or.inr ⟨rfl, b2_01 _⟩) (Nat.le_of_ble_eq_true rfl) ?_
  intro X hC hR
  have hC : zC X g cX1_isUnlike RX1 wsX1_isUnlike rm_X1_isUnlike 2 := hC
  show ZG X g (zE X) 0 0 [] [(0, .int (iZ (a))), (1, .int (iZ (b)))] 0 []
  refine z_iload_n hC 0 dX1_isUnlike_0 rfl rfl ?_
  refine z_iload_n hC 1 dX1_isUnlike_1 rfl rfl ?_
  refine z_isub hC dX1_isUnlike_2 ?_
  refine z_abs hC mX1_isUnlike_l72 mX1_isUnlike_ls72 mX1_isUnlike_li mX1_isUnlike_lc72 (by omega) (by decide) (Nat.le_of_ble_eq_true rfl) (by decide) (by decide) dX1_isUnlike_3 ?_
  refine z_nm (fun v_6 e_6 => ?_)
  have f_6 : (0 ≤ a - b ∧ v_6 = a - b) ∨ (a - b < 0 ∧ v_6 = -(a - b)) := by rw [e_6]; by_cases q : 0 ≤ a - b; exact Or.inl ⟨q, if_pos q⟩; exact Or.inr ⟨by omega, if_neg q⟩
  refine z_iconst hC dX1_isUnlike_6 ?_
  refine z_icmp_le hC 14 dX1_isUnlike_7 (by decide) (by omega) (by omega) (fun c_7 => ?_) (fun c_7 => ?_)
  ·
    refine z_iconst hC dX1_isUnlike_14 ?_
    exact hR _ _ _ _ (by first | exact b2_1' (by omega) | exact b2_0' (by omega) | exact b2_eq (by omega)) dX1_isUnlike_15
  ·
    refine z_iconst hC dX1_isUnlike_10 ?_
    refine z_goto (tgt := 15) hC dX1_isUnlike_11 (by decide) ?_
    exact hR _ _ _ _ (by first | exact b2_1' (by omega) | exact b2_0' (by omega) | exact b2_eq (by omega)) dX1_isUnlike_15
set_option maxRecDepth 20000 in
theorem mX1_measure_l9 : Cond.methodLink RX1 9 Lib.Math.min.name ∈ wsX1_measure := by decide +kernel
set_option maxRecDepth 20000 in
theorem mX1_measure_ls9 : Cond.static Lib.Math.min.name ∈ wsX1_measure := by decide +kernel
set_option maxRecDepth 20000 in
theorem mX1_measure_li : Cond.initialized "java/lang/Math" ∈ wsX1_measure := by decide +kernel
set_option maxRecDepth 20000 in
theorem mX1_measure_lc9 : Cond.code Lib.Math.min.name Lib.Math.min.code 2 (some .int) ∈ wsX1_measure := by decide +kernel
set_option maxRecDepth 20000 in
theorem iX1_measure_0 : ∀ w ∈ u_ws RX0 TX0 8, w ∈ wsX1_measure := by decide +kernel
set_option maxRecDepth 20000 in
theorem mX1_measure_iniRX0 : Cond.initialized RX0 ∈ wsX1_measure := by decide +kernel
set_option maxRecDepth 20000 in
theorem mX1_measure_im_X0_widthEndingAt : Cond.instanceMethod yX0_widthEndingAt ∈ wsX1_measure := by decide +kernel
set_option maxRecDepth 20000 in
theorem mX1_measure_se_X0_widthEndingAt : Cond.selects RX0 yX0_widthEndingAt yX0_widthEndingAt ∈ wsX1_measure := by decide +kernel
set_option maxRecDepth 20000 in
theorem mX1_measure_f25 : Cond.fieldLink RX1 25 "BreakSearch$Line" "lack" "I" ∈ wsX1_measure := by decide +kernel
set_option maxRecDepth 20000 in
theorem iX1_measure_1 : ∀ w ∈ u_ws RX1 TX1 4, w ∈ wsX1_measure := by decide +kernel
set_option maxRecDepth 20000 in
theorem mX1_measure_im_X0_isEnd : Cond.instanceMethod yX0_isEnd ∈ wsX1_measure := by decide +kernel
set_option maxRecDepth 20000 in
theorem mX1_measure_se_X0_isEnd : Cond.selects RX0 yX0_isEnd yX0_isEnd ∈ wsX1_measure := by decide +kernel
abbrev rm_X1_measure : Room := { frames := 3, cells := 0, slots := 0, locals := 70 }
set_option maxHeartbeats 4000000 in
set_option maxRecDepth 100000 in
theorem c_X1_measure (l : Launch) (g : zG) (hL : Nat) (k ug lo sd : Int) (hI aK aV aP aM aL aS aH : Nat) (n : Int) (K V P M LB SB HB : Int → Int) (s e w mo : Int) (h1 : zIok n K V P M) (h2 : zPok n LB SB HB) (h3 : (0 ≤ s ∧ s ≤ n) ∧ (0 ≤ e ∧ e ≤ n)) (h4 : (0 ≤ w ∧ w ≤ 20000) ∧ (0 ≤ mo ∧ mo ≤ 10000)) : zMWv (S := (Int) × (Int) × (Int) × (Int)) l yX1_measure wsX1_measure rm_X1_measure g [(hL, eo 1 [.int (iZ (k)), .int (iZ (ug)), .int (iZ (lo)), .int (iZ (sd))]), (hI, eo 0 [.ref aK, .ref aV, .ref aP, .ref aM, .ref aL, .ref aS, .ref aH, .int (iZ (n))]), (aK, ei g 100 K), (aV, ei g 100 V), (aP, ei g 100 P), (aM, ez g 100 M), (aL, ei g 101 LB), (aS, ei g 101 SB), (aH, ei g 101 HB)] [.ref hL, .ref hI, .int (iZ (s)), .int (iZ (e)), .int (iZ (w)), .int (iZ (mo))] (fun u => u.1 = zLk n K P LB s e w ∧ (zOk (zLk n K P LB s e w) (HB e - HB (min s e)) → u.2.2.2 = 1 ∧ u.2.1 = zUg n e (zLk n K P LB s e w) (SB e - SB (min s e) + mo) (HB e - HB (min s e)) ∧ u.2.2.1 = zCl n e (zLk n K P LB s e w) (SB e - SB (min s e) + mo) (HB e - HB (min s e))) ∧ (¬ zOk (zLk n K P LB s e w) (HB e - HB (min s e)) → u.2.2.2 = 0)) (fun u => [(hL, eo 1 [.int (iZ (u.1)), .int (iZ (u.2.1)), .int (iZ (u.2.2.1)), .int (iZ (u.2.2.2))]), (hI, eo 0 [.ref aK, .ref aV, .ref aP, .ref aM, .ref aL, .ref aS, .ref aH, .int (iZ (n))]), (aK, ei g 100 K), (aV, ei g 100 V), (aP, ei g 100 P), (aM, ez g 100 M), (aL, ei g 101 LB), (aS, ei g 101 SB), (aH, ei g 101 HB)]) 0 0 := by
  refine z_beWv (cc := cX1_measure) (nL := 8) (plainFor_of_name (by decide +kernel)) rfl (Nat.le_of_ble_eq_true rfl) ?_
  intro X A hC hN hR
  have hC : zC X g cX1_measure RX1 wsX1_measure rm_X1_measure 8 := hC
  show ZG X g (zD X A) 0 0 [(hL, eo 1 [.int (iZ (k)), .int (iZ (ug)), .int (iZ (lo)), .int (iZ (sd))]), (hI, eo 0 [.ref aK, .ref aV, .ref aP, .ref aM, .ref aL, .ref aS, .ref aH, .int (iZ (n))]), (aK, ei g 100 K), (aV, ei g 100 V), (aP, ei g 100 P), (aM, ez g 100 M), (aL, ei g 101 LB), (aS, ei g 101 SB), (aH, ei g 101 HB)] [(0, .ref hL), (1, .ref hI), (2, .int (iZ (s))), (3, .int (iZ (e))), (4, .int (iZ (w))), (5, .int (iZ (mo)))] 0 []
  have ⟨hn, hK, hV⟩ := h1
  have hp := h2
  refine z_iload_n hC 2 dX1_measure_0 rfl rfl ?_
  refine z_iload_n hC 3 dX1_measure_1 rfl rfl ?_
  refine z_min hC mX1_measure_l9 mX1_measure_ls9 mX1_measure_li mX1_measure_lc9 (by omega) (by omega) (by decide) (Nat.le_of_ble_eq_true rfl) (by decide) (by decide) dX1_measure_2 ?_
  refine z_istore hC (lv' := [(6, _), (0, _), (1, _), (2, _), (3, _), (4, _), (5, _)]) dX1_measure_5 (by decide) rfl ?_
  refine z_aload_n hC 2 dX1_measure_7 rfl rfl ?_
  refine z_getN hC iX1_measure_0 1 4 rfl rfl (by decide) nf_RX1_15 rfl dX1_measure_8 ?_
  refine z_iload_n hC 4 dX1_measure_11 rfl rfl ?_
  refine z_iald hC 6 rfl (by omega) (by decide) dX1_measure_12 ?_
  refine z_aload_n hC 2 dX1_measure_13 rfl rfl ?_
  refine z_getN hC iX1_measure_0 1 4 rfl rfl (by decide) nf_RX1_15 rfl dX1_measure_14 ?_
  refine z_iload hC 0 dX1_measure_17 rfl ?_
  refine z_iald hC 6 rfl (by omega) (by decide) dX1_measure_19 ?_
  refine z_isub hC dX1_measure_20 ?_
  refine z_istore hC (lv' := [(7, _), (6, _), (0, _), (1, _), (2, _), (3, _), (4, _), (5, _)]) dX1_measure_21 (by decide) rfl ?_
  refine z_aload_n hC 2 dX1_measure_23 rfl rfl ?_
  refine z_iload hC 6 dX1_measure_24 rfl ?_
  refine z_iload hC 0 dX1_measure_26 rfl ?_
  refine z_isub hC dX1_measure_28 ?_
  refine z_aload_n hC 3 dX1_measure_29 rfl rfl ?_
  refine z_iload_n hC 5 dX1_measure_30 rfl rfl ?_
  refine z_vnRi hC 1 (c_X0_widthEndingAt (xl X) g _ _ _ _ _ _ _ _ _ _ _ _ _ _ _ _ _ h1 (by omega)) gX1_measure_X0_widthEndingAt_n21 nm_RX1_21 mX1_measure_iniRX0 mX1_measure_im_X0_widthEndingAt mX1_measure_se_X0_widthEndingAt rfl hd_X0_widthEndingAt_s (by decide) ⟨rfl, rfl⟩ [1, 2, 3, 4, 5, 6, 7, 8] (by decide) rfl 1 0 rfl rfl rfl rfl rfl (Nat.le_of_ble_eq_true rfl) dX1_measure_31 (by decide) ?_
  refine z_isub hC dX1_measure_34 ?_
  have hlk : w - (LB e - LB (min s e)) - (if 0 ≤ e ∧ e < n ∧ K e = 2 then P e else 0) = zLk n K P LB s e w := rfl
  refine z_top hlk ?_
  have hpw : 0 ≤ (if 0 ≤ e ∧ e < n ∧ K e = 2 then P e else 0) ∧ (if 0 ≤ e ∧ e < n ∧ K e = 2 then P e else 0) ≤ 10000 := by by_cases q : 0 ≤ e ∧ e < n ∧ K e = 2; rw [if_pos q]; have := hV e (by omega) (by omega) (by omega); omega; rw [if_neg q]; omega
  have b1 := hp.1 e (by omega) (by omega)
  have b2 := hp.1 (min s e) (by omega) (by omega)
  have b3 := hp.2 (min s e) e (by omega) (by omega) (by omega)
  have hlr : -1100000 ≤ zLk n K P LB s e w ∧ zLk n K P LB s e w ≤ 20000 := by rw [← hlk]; omega
  clear hlk
  generalize zLk n K P LB s e w = lk at *
  refine z_put hC iX1_measure_1 tyX1 tyX1_ok nmX1 0 0 rfl rfl (by decide) mX1_measure_f25 rfl rfl rfl (Nat.le_of_ble_eq_true rfl) dX1_measure_35 (ws' := [_, _, _, _, _, _, _, _, _]) rfl ?_
  refine z_aload_n hC 2 dX1_measure_38 rfl rfl ?_
  refine z_get hC iX1_measure_1 0 0 rfl rfl (by decide) mX1_measure_f25 rfl dX1_measure_39 ?_
  refine z_if_ge hC 66 dX1_measure_42 (by decide) (by omega) (fun c_42 => ?_) (fun c_42 => ?_)
  ·
    refine z_aload_n hC 2 dX1_measure_66 rfl rfl ?_
    refine z_get hC iX1_measure_1 0 0 rfl rfl (by decide) mX1_measure_f25 rfl dX1_measure_67 ?_
    refine z_if_eq hC 81 dX1_measure_70 (by decide) (by omega) (fun c_70 => ?_) (fun c_70 => ?_)
    ·
      refine z_aload_n hC 2 dX1_measure_81 rfl rfl ?_
      refine z_iconst hC dX1_measure_82 ?_
      refine z_iconst hC dX1_measure_83 ?_
      refine z_vWv (wr := [_, _, _, _, _, _, _, _]) hC 2 (c_X1_settle (xl X) g _ _ _ _ _ _ _) gX1_measure_X1_settle rfl hd_X1_settle_v (by decide) ⟨rfl, rfl⟩ [0] [1, 2, 3, 4, 5, 6, 7, 8] (by decide) rfl rfl (by decide) (by decide) 0 1 rfl rfl rfl rfl rfl (Nat.le_of_ble_eq_true rfl) dX1_measure_84 (by decide) (fun u_84 p_84 => ?_)
      refine z_ws (ws' := [(hL, eo 1 [.int (iZ (lk)), .int (iZ (0)), .int (iZ (1)), .int (iZ (1))]), (hI, eo 0 [.ref aK, .ref aV, .ref aP, .ref aM, .ref aL, .ref aS, .ref aH, .int (iZ (n))]), (aK, ei g 100 K), (aV, ei g 100 V), (aP, ei g 100 P), (aM, ez g 100 M), (aL, ei g 101 LB), (aS, ei g 101 SB), (aH, ei g 101 HB)]) [8, 0, 1, 2, 3, 4, 5, 6, 7] (by decide) rfl ?_
      refine z_goto (tgt := 111) hC dX1_measure_87 (by decide) ?_
      exact hR (lk, 0, 1, 1) _ _ _ [0, 1, 2, 3, 4, 5, 6, 7, 8] (by refine ⟨rfl, fun q => ?_, fun q => ?_⟩ <;> unfold zOk at q <;> first | (exfalso; omega) | rfl | (exact ⟨rfl, (zUg_n (by omega)).symm, (zCl_n (by omega)).symm⟩) | (exact ⟨rfl, (zUg_z (by omega) (by omega)).symm, (zCl_z (by omega) (by omega)).symm⟩) | (exact ⟨p3, p1.trans (zUg_w (by omega) (by omega)).symm, p2.trans (zCl_w (by omega) (by omega)).symm⟩)) (by decide) rfl dX1_measure_111
    ·
      refine z_aload_n hC 3 dX1_measure_73 rfl rfl ?_
      refine z_iload_n hC 5 dX1_measure_74 rfl rfl ?_
      refine z_vnRi hC 1 (c_X0_isEnd (xl X) g _ _ _ _ _ _ _ _ _ _ _ _ _ _ _ _ _ hn (by omega)) gX1_measure_X0_isEnd_n38 nm_RX1_38 mX1_measure_iniRX0 mX1_measure_im_X0_isEnd mX1_measure_se_X0_isEnd rfl hd_X0_isEnd_s (by decide) ⟨rfl, rfl⟩ [1, 2, 3, 4, 5, 6, 7, 8] (by decide) rfl 1 0 rfl rfl rfl rfl rfl (Nat.le_of_ble_eq_true rfl) dX1_measure_75 (by decide) ?_
      refine z_if_eq hC 90 dX1_measure_78 (by decide) (b2_r _) (fun c_78 => ?_) (fun c_78 => ?_)
      ·
        have c_78 := b2_f c_78
        refine z_aload_n hC 2 dX1_measure_90 rfl rfl ?_
        refine z_aload_n hC 3 dX1_measure_91 rfl rfl ?_
        refine z_getN hC iX1_measure_0 1 5 rfl rfl (by decide) nf_RX1_46 rfl dX1_measure_92 ?_
        refine z_iload_n hC 5 dX1_measure_95 rfl rfl ?_
        refine z_iald hC 7 rfl (by omega) (by decide) dX1_measure_96 ?_
        refine z_aload_n hC 3 dX1_measure_97 rfl rfl ?_
        refine z_getN hC iX1_measure_0 1 5 rfl rfl (by decide) nf_RX1_46 rfl dX1_measure_98 ?_
        refine z_iload hC 1 dX1_measure_101 rfl ?_
        refine z_iald hC 7 rfl (by omega) (by decide) dX1_measure_103 ?_
        refine z_isub hC dX1_measure_104 ?_
        refine z_iload hC 7 dX1_measure_105 rfl ?_
        refine z_iadd hC dX1_measure_107 ?_
        refine z_vWv (wr := [_, _, _, _, _, _, _, _]) hC 1 (c_X1_widen (xl X) g _ _ _ _ _ _ (by omega) (by omega)) gX1_measure_X1_widen rfl hd_X1_widen_v (by decide) ⟨rfl, rfl⟩ [0] [1, 2, 3, 4, 5, 6, 7, 8] (by decide) rfl rfl (by decide) (by decide) 0 1 rfl rfl rfl rfl rfl (Nat.le_of_ble_eq_true rfl) dX1_measure_108 (by decide) (fun u_108 p_108 => ?_)
        obtain ⟨u1_108, k1_108, d1_108⟩ := u_108
        try dsimp only at p_108
        refine z_ws (ws' := [(hL, eo 1 [.int (iZ (lk)), .int (iZ (u1_108)), .int (iZ (k1_108)), .int (iZ (d1_108))]), (hI, eo 0 [.ref aK, .ref aV, .ref aP, .ref aM, .ref aL, .ref aS, .ref aH, .int (iZ (n))]), (aK, ei g 100 K), (aV, ei g 100 V), (aP, ei g 100 P), (aM, ez g 100 M), (aL, ei g 101 LB), (aS, ei g 101 SB), (aH, ei g 101 HB)]) [8, 0, 1, 2, 3, 4, 5, 6, 7] (by decide) rfl ?_
        obtain ⟨p1, p2, p3⟩ := p_108
        exact hR (lk, u1_108, k1_108, d1_108) _ _ _ [0, 1, 2, 3, 4, 5, 6, 7, 8] (by refine ⟨rfl, fun q => ?_, fun q => ?_⟩ <;> unfold zOk at q <;> first | (exfalso; omega) | rfl | (exact ⟨rfl, (zUg_n (by omega)).symm, (zCl_n (by omega)).symm⟩) | (exact ⟨rfl, (zUg_z (by omega) (by omega)).symm, (zCl_z (by omega) (by omega)).symm⟩) | (exact ⟨p3, p1.trans (zUg_w (by omega) (by omega)).symm, p2.trans (zCl_w (by omega) (by omega)).symm⟩)) (by decide) rfl dX1_measure_111
      ·
        have c_78 := b2_t c_78
        refine z_aload_n hC 2 dX1_measure_81 rfl rfl ?_
        refine z_iconst hC dX1_measure_82 ?_
        refine z_iconst hC dX1_measure_83 ?_
        refine z_vWv (wr := [_, _, _, _, _, _, _, _]) hC 2 (c_X1_settle (xl X) g _ _ _ _ _ _ _) gX1_measure_X1_settle rfl hd_X1_settle_v (by decide) ⟨rfl, rfl⟩ [0] [1, 2, 3, 4, 5, 6, 7, 8] (by decide) rfl rfl (by decide) (by decide) 0 1 rfl rfl rfl rfl rfl (Nat.le_of_ble_eq_true rfl) dX1_measure_84 (by decide) (fun u_84 p_84 => ?_)
        refine z_ws (ws' := [(hL, eo 1 [.int (iZ (lk)), .int (iZ (0)), .int (iZ (1)), .int (iZ (1))]), (hI, eo 0 [.ref aK, .ref aV, .ref aP, .ref aM, .ref aL, .ref aS, .ref aH, .int (iZ (n))]), (aK, ei g 100 K), (aV, ei g 100 V), (aP, ei g 100 P), (aM, ez g 100 M), (aL, ei g 101 LB), (aS, ei g 101 SB), (aH, ei g 101 HB)]) [8, 0, 1, 2, 3, 4, 5, 6, 7] (by decide) rfl ?_
        refine z_goto (tgt := 111) hC dX1_measure_87 (by decide) ?_
        exact hR (lk, 0, 1, 1) _ _ _ [0, 1, 2, 3, 4, 5, 6, 7, 8] (by refine ⟨rfl, fun q => ?_, fun q => ?_⟩ <;> unfold zOk at q <;> first | (exfalso; omega) | rfl | (exact ⟨rfl, (zUg_n (by omega)).symm, (zCl_n (by omega)).symm⟩) | (exact ⟨rfl, (zUg_z (by omega) (by omega)).symm, (zCl_z (by omega) (by omega)).symm⟩) | (exact ⟨p3, p1.trans (zUg_w (by omega) (by omega)).symm, p2.trans (zCl_w (by omega) (by omega)).symm⟩)) (by decide) rfl dX1_measure_111
  ·
    refine z_aload_n hC 2 dX1_measure_45 rfl rfl ?_
    refine z_aload_n hC 3 dX1_measure_46 rfl rfl ?_
    refine z_getN hC iX1_measure_0 1 6 rfl rfl (by decide) nf_RX1_31 rfl dX1_measure_47 ?_
    refine z_iload_n hC 5 dX1_measure_50 rfl rfl ?_
    refine z_iald hC 8 rfl (by omega) (by decide) dX1_measure_51 ?_
    refine z_aload_n hC 3 dX1_measure_52 rfl rfl ?_
    refine z_getN hC iX1_measure_0 1 6 rfl rfl (by decide) nf_RX1_31 rfl dX1_measure_53 ?_
    refine z_iload hC 1 dX1_measure_56 rfl ?_
    refine z_iald hC 8 rfl (by omega) (by decide) dX1_measure_58 ?_
    refine z_isub hC dX1_measure_59 ?_
    refine z_vWv (wr := [_, _, _, _, _, _, _, _]) hC 1 (c_X1_squeeze (xl X) g _ _ _ _ _ _ (by omega) (by omega)) gX1_measure_X1_squeeze rfl hd_X1_squeeze_v (by decide) ⟨rfl, rfl⟩ [0] [1, 2, 3, 4, 5, 6, 7, 8] (by decide) rfl rfl (by decide) (by decide) 0 1 rfl rfl rfl rfl rfl (Nat.le_of_ble_eq_true rfl) dX1_measure_60 (by decide) (fun u_60 p_60 => ?_)
    rcases p_60 with ⟨a_60, rfl⟩ | ⟨a_60, rfl⟩
    ·
      refine z_ws (ws' := [(hL, eo 1 [.int (iZ (lk)), .int (iZ (ug)), .int (iZ (lo)), .int (iZ (0))]), (hI, eo 0 [.ref aK, .ref aV, .ref aP, .ref aM, .ref aL, .ref aS, .ref aH, .int (iZ (n))]), (aK, ei g 100 K), (aV, ei g 100 V), (aP, ei g 100 P), (aM, ez g 100 M), (aL, ei g 101 LB), (aS, ei g 101 SB), (aH, ei g 101 HB)]) [8, 0, 1, 2, 3, 4, 5, 6, 7] (by decide) rfl ?_
      refine z_goto (tgt := 111) hC dX1_measure_63 (by decide) ?_
      exact hR (lk, ug, lo, 0) _ _ _ [0, 1, 2, 3, 4, 5, 6, 7, 8] (by refine ⟨rfl, fun q => ?_, fun q => ?_⟩ <;> unfold zOk at q <;> first | (exfalso; omega) | rfl | (exact ⟨rfl, (zUg_n (by omega)).symm, (zCl_n (by omega)).symm⟩) | (exact ⟨rfl, (zUg_z (by omega) (by omega)).symm, (zCl_z (by omega) (by omega)).symm⟩) | (exact ⟨p3, p1.trans (zUg_w (by omega) (by omega)).symm, p2.trans (zCl_w (by omega) (by omega)).symm⟩)) (by decide) rfl dX1_measure_111
    ·
      refine z_ws (ws' := [(hL, eo 1 [.int (iZ (lk)), .int (iZ ((zBad (-lk) ((HB e) - (HB (min s e)))))), .int (iZ ((if ((HB e) - (HB (min s e))) < 2 * -lk then 0 else 1))), .int (iZ (1))]), (hI, eo 0 [.ref aK, .ref aV, .ref aP, .ref aM, .ref aL, .ref aS, .ref aH, .int (iZ (n))]), (aK, ei g 100 K), (aV, ei g 100 V), (aP, ei g 100 P), (aM, ez g 100 M), (aL, ei g 101 LB), (aS, ei g 101 SB), (aH, ei g 101 HB)]) [8, 0, 1, 2, 3, 4, 5, 6, 7] (by decide) rfl ?_
      refine z_goto (tgt := 111) hC dX1_measure_63 (by decide) ?_
      exact hR (lk, (zBad (-lk) ((HB e) - (HB (min s e)))), (if ((HB e) - (HB (min s e))) < 2 * -lk then 0 else 1), 1) _ _ _ [0, 1, 2, 3, 4, 5, 6, 7, 8] (by refine ⟨rfl, fun q => ?_, fun q => ?_⟩ <;> unfold zOk at q <;> first | (exfalso; omega) | rfl | (exact ⟨rfl, (zUg_n (by omega)).symm, (zCl_n (by omega)).symm⟩) | (exact ⟨rfl, (zUg_z (by omega) (by omega)).symm, (zCl_z (by omega) (by omega)).symm⟩) | (exact ⟨p3, p1.trans (zUg_w (by omega) (by omega)).symm, p2.trans (zCl_w (by omega) (by omega)).symm⟩)) (by decide) rfl dX1_measure_111
set_option maxRecDepth 20000 in
theorem mX4_forget_f24 : Cond.fieldLink RX4 24 "BreakSearch$Way" "count" "I" ∈ wsX4_forget := by decide +kernel
set_option maxRecDepth 20000 in
theorem iX4_forget_4 : ∀ w ∈ u_ws RX4 TX4 7, w ∈ wsX4_forget := by decide +kernel
set_option maxRecDepth 20000 in
theorem mX4_forget_f28 : Cond.fieldLink RX4 28 "BreakSearch$Way" "pass" "I" ∈ wsX4_forget := by decide +kernel
set_option maxRecDepth 20000 in
theorem mX4_forget_f31 : Cond.fieldLink RX4 31 "BreakSearch$Way" "demerits" "J" ∈ wsX4_forget := by decide +kernel
abbrev rm_X4_forget : Room := { frames := 1, cells := 0, slots := 0, locals := 12 }
set_option maxHeartbeats 4000000 in
set_option maxRecDepth 100000 in
theorem c_X4_forget (l : Launch) (g : zG) (hY aE aQ aB aU : Nat) (tc tp td : Int) (E Q B U : Int → Int)  : zMWv (S := Unit) l yX4_forget wsX4_forget rm_X4_forget g [(hY, eo 4 [.ref aE, .ref aQ, .ref aB, .ref aU, .int (iZ (tc)), .int (iZ (tp)), .long (lZ (td))]), (aE, ei g 50 E), (aQ, ei g 50 Q), (aB, ei g 50 B), (aU, ei g 50 U)] [.ref hY] (fun _ => True) (fun u => [(hY, eo 4 [.ref aE, .ref aQ, .ref aB, .ref aU, .int (iZ (0)), .int (iZ (0)), .long (lZ (0))]), (aE, ei g 50 E), (aQ, ei g 50 Q), (aB, ei g 50 B), (aU, ei g 50 U)]) 0 0 := by
  refine z_beWv (cc := cX4_forget) (nL := 1) (plainFor_of_name (by decide +kernel)) rfl (Nat.le_of_ble_eq_true rfl) ?_
  intro X A hC hN hR
  have hC : zC X g cX4_forget RX4 wsX4_forget rm_X4_forget 1 := hC
  show ZG X g (zD X A) 0 0 [(hY, eo 4 [.ref aE, .ref aQ, .ref aB, .ref aU, .int (iZ (tc)), .int (iZ (tp)), .long (lZ (td))]), (aE, ei g 50 E), (aQ, ei g 50 Q), (aB, ei g 50 B), (aU, ei g 50 U)] [(0, .ref hY)] 0 []
  refine z_aload_n hC 0 dX4_forget_0 rfl rfl ?_
  refine z_iconst hC dX4_forget_1 ?_
  refine z_put hC iX4_forget_4 tyX4 tyX4_ok nmX4 0 4 rfl rfl (by decide) mX4_forget_f24 rfl rfl rfl (Nat.le_of_ble_eq_true rfl) dX4_forget_2 (ws' := [_, _, _, _, _]) rfl ?_
  refine z_aload_n hC 0 dX4_forget_5 rfl rfl ?_
  refine z_iconst hC dX4_forget_6 ?_
  refine z_put hC iX4_forget_4 tyX4 tyX4_ok nmX4 0 5 rfl rfl (by decide) mX4_forget_f28 rfl rfl rfl (Nat.le_of_ble_eq_true rfl) dX4_forget_7 (ws' := [_, _, _, _, _]) rfl ?_
  refine z_aload_n hC 0 dX4_forget_10 rfl rfl ?_
  refine z_lconst (z := 0) hC dX4_forget_11 (by decide) ?_
  refine z_put hC iX4_forget_4 tyX4 tyX4_ok nmX4 0 6 rfl rfl (by decide) mX4_forget_f31 rfl rfl rfl (Nat.le_of_ble_eq_true rfl) dX4_forget_12 (ws' := [_, _, _, _, _]) rfl ?_
  exact hR () _ _ _ [0, 1, 2, 3, 4] trivial (by decide) rfl dX4_forget_15
set_option maxRecDepth 20000 in
theorem mX4_hasLine_f24 : Cond.fieldLink RX4 24 "BreakSearch$Way" "count" "I" ∈ wsX4_hasLine := by decide +kernel
set_option maxRecDepth 20000 in
theorem iX4_hasLine_4 : ∀ w ∈ u_ws RX4 TX4 7, w ∈ wsX4_hasLine := by decide +kernel
abbrev rm_X4_hasLine : Room := { frames := 1, cells := 0, slots := 0, locals := 12 }
set_option maxHeartbeats 4000000 in
set_option maxRecDepth 100000 in
theorem c_X4_hasLine (l : Launch) (g : zG) (hY aE aQ aB aU : Nat) (tc tp td : Int) (E Q B U : Int → Int) (p : Int) (h1 : 0 ≤ tc ∧ tc ≤ 50) (h2 : -2147483648 ≤ p ∧ p ≤ 2147483647) : zMRi l yX4_hasLine wsX4_hasLine rm_X4_hasLine g [(hY, eo 4 [.ref aE, .ref aQ, .ref aB, .ref aU, .int (iZ (tc)), .int (iZ (tp)), .long (lZ (td))]), (aE, ei g 50 E), (aQ, ei g 50 Q), (aB, ei g 50 B), (aU, ei g 50 U)] [.ref hY, .int (iZ (p))] (b2 (0 ≤ p ∧ p < tc)) := by
  refine z_beRi (cc := cX4_hasLine) (nL := 2) (ret := some .boolean) (plainFor_of_name (by decide +kernel)) rfl (Or.inr ⟨rfl, b2_01 _⟩) (Nat.le_of_ble_eq_true rfl) ?_
  intro X hC hR
  have hC : zC X g cX4_hasLine RX4 wsX4_hasLine rm_X4_hasLine 2 := hC
  show ZG X g (zE X) 0 0 [(hY, eo 4 [.ref aE, .ref aQ, .ref aB, .ref aU, .int (iZ (tc)), .int (iZ (tp)), .long (lZ (td))]), (aE, ei g 50 E), (aQ, ei g 50 Q), (aB, ei g 50 B), (aU, ei g 50 U)] [(0, .ref hY), (1, .int (iZ (p)))] 0 []
  refine z_iload_n hC 1 dX4_hasLine_0 rfl rfl ?_
  refine z_if_lt hC 16 dX4_hasLine_1 (by decide) (by omega) (fun c_1 => ?_) (fun c_1 => ?_)
  ·
    refine z_iconst hC dX4_hasLine_16 ?_
    exact hR _ _ _ _ (by first | exact b2_1' (by omega) | exact b2_0' (by omega) | exact b2_eq (by omega)) dX4_hasLine_17
  ·
    refine z_iload_n hC 1 dX4_hasLine_4 rfl rfl ?_
    refine z_aload_n hC 0 dX4_hasLine_5 rfl rfl ?_
    refine z_get hC iX4_hasLine_4 0 4 rfl rfl (by decide) mX4_hasLine_f24 rfl dX4_hasLine_6 ?_
    refine z_icmp_ge hC 16 dX4_hasLine_9 (by decide) (by omega) (by omega) (fun c_9 => ?_) (fun c_9 => ?_)
    ·
      refine z_iconst hC dX4_hasLine_16 ?_
      exact hR _ _ _ _ (by first | exact b2_1' (by omega) | exact b2_0' (by omega) | exact b2_eq (by omega)) dX4_hasLine_17
    ·
      refine z_iconst hC dX4_hasLine_12 ?_
      refine z_goto (tgt := 17) hC dX4_hasLine_13 (by decide) ?_
      exact hR _ _ _ _ (by first | exact b2_1' (by omega) | exact b2_0' (by omega) | exact b2_eq (by omega)) dX4_hasLine_17
set_option maxRecDepth 20000 in
theorem mX4_append_f24 : Cond.fieldLink RX4 24 "BreakSearch$Way" "count" "I" ∈ wsX4_append := by decide +kernel
set_option maxRecDepth 20000 in
theorem iX4_append_4 : ∀ w ∈ u_ws RX4 TX4 7, w ∈ wsX4_append := by decide +kernel
set_option maxRecDepth 20000 in
theorem mX4_append_f9 : Cond.fieldLink RX4 9 "BreakSearch$Way" "ends" "[I" ∈ wsX4_append := by decide +kernel
set_option maxRecDepth 20000 in
theorem mX4_append_f15 : Cond.fieldLink RX4 15 "BreakSearch$Way" "lacks" "[I" ∈ wsX4_append := by decide +kernel
set_option maxRecDepth 20000 in
theorem iX4_append_1 : ∀ w ∈ u_ws RX1 TX1 4, w ∈ wsX4_append := by decide +kernel
set_option maxRecDepth 20000 in
theorem mX4_append_f18 : Cond.fieldLink RX4 18 "BreakSearch$Way" "badnesses" "[I" ∈ wsX4_append := by decide +kernel
set_option maxRecDepth 20000 in
theorem mX4_append_f21 : Cond.fieldLink RX4 21 "BreakSearch$Way" "classes" "[I" ∈ wsX4_append := by decide +kernel
abbrev rm_X4_append : Room := { frames := 1, cells := 0, slots := 0, locals := 12 }
set_option maxHeartbeats 4000000 in
set_option maxRecDepth 100000 in
theorem c_X4_append (l : Launch) (g : zG) (hY aE aQ aB aU : Nat) (tc tp td : Int) (E Q B U : Int → Int) (hL : Nat) (k ug lo sd : Int) (e : Int) (h1 : 0 ≤ tc ∧ tc ≤ 50) : zMWv (S := (Int → Int) × (Int → Int) × (Int → Int) × (Int → Int) × (Int)) l yX4_append wsX4_append rm_X4_append g [(hY, eo 4 [.ref aE, .ref aQ, .ref aB, .ref aU, .int (iZ (tc)), .int (iZ (tp)), .long (lZ (td))]), (aE, ei g 50 E), (aQ, ei g 50 Q), (aB, ei g 50 B), (aU, ei g 50 U), (hL, eo 1 [.int (iZ (k)), .int (iZ (ug)), .int (iZ (lo)), .int (iZ (sd))])] [.ref hY, .int (iZ (e)), .ref hL] (fun u => ((50 ≤ tc) ∧ u = (E, Q, B, U, tc)) ∨ ((tc < 50) ∧ u = (uZ E tc e, uZ Q tc k, uZ B tc ug, uZ U tc lo, tc + 1))) (fun u => [(hY, eo 4 [.ref aE, .ref aQ, .ref aB, .ref aU, .int (iZ (u.2.2.2.2)), .int (iZ (tp)), .long (lZ (td))]), (aE, ei g 50 u.1), (aQ, ei g 50 u.2.1), (aB, ei g 50 u.2.2.1), (aU, ei g 50 u.2.2.2.1), (hL, eo 1 [.int (iZ (k)), .int (iZ (ug)), .int (iZ (lo)), .int (iZ (sd))])]) 0 0 := by
  refine z_beWv (cc := cX4_append) (nL := 3) (plainFor_of_name (by decide +kernel)) rfl (Nat.le_of_ble_eq_true rfl) ?_
  intro X A hC hN hR
  have hC : zC X g cX4_append RX4 wsX4_append rm_X4_append 3 := hC
  show ZG X g (zD X A) 0 0 [(hY, eo 4 [.ref aE, .ref aQ, .ref aB, .ref aU, .int (iZ (tc)), .int (iZ (tp)), .long (lZ (td))]), (aE, ei g 50 E), (aQ, ei g 50 Q), (aB, ei g 50 B), (aU, ei g 50 U), (hL, eo 1 [.int (iZ (k)), .int (iZ (ug)), .int (iZ (lo)), .int (iZ (sd))])] [(0, .ref hY), (1, .int (iZ (e))), (2, .ref hL)] 0 []
  refine z_aload_n hC 0 dX4_append_0 rfl rfl ?_
  refine z_get hC iX4_append_4 0 4 rfl rfl (by decide) mX4_append_f24 rfl dX4_append_1 ?_
  refine z_bip hC dX4_append_4 (by decide) ?_
  refine z_icmp_lt hC 10 dX4_append_6 (by decide) (by omega) (by omega) (fun c_6 => ?_) (fun c_6 => ?_)
  ·
    refine z_aload_n hC 0 dX4_append_10 rfl rfl ?_
    refine z_get hC iX4_append_4 0 0 rfl rfl (by decide) mX4_append_f9 rfl dX4_append_11 ?_
    refine z_aload_n hC 0 dX4_append_14 rfl rfl ?_
    refine z_get hC iX4_append_4 0 4 rfl rfl (by decide) mX4_append_f24 rfl dX4_append_15 ?_
    refine z_iload_n hC 1 dX4_append_18 rfl rfl ?_
    refine z_iast hC 1 rfl (by omega) (by decide) dX4_append_19 (ws' := [_, _, _, _, _, _]) rfl ?_
    refine z_aload_n hC 0 dX4_append_20 rfl rfl ?_
    refine z_get hC iX4_append_4 0 1 rfl rfl (by decide) mX4_append_f15 rfl dX4_append_21 ?_
    refine z_aload_n hC 0 dX4_append_24 rfl rfl ?_
    refine z_get hC iX4_append_4 0 4 rfl rfl (by decide) mX4_append_f24 rfl dX4_append_25 ?_
    refine z_aload_n hC 2 dX4_append_28 rfl rfl ?_
    refine z_getN hC iX4_append_1 5 0 rfl rfl (by decide) nf_RX4_35 rfl dX4_append_29 ?_
    refine z_iast hC 2 rfl (by omega) (by decide) dX4_append_32 (ws' := [_, _, _, _, _, _]) rfl ?_
    refine z_aload_n hC 0 dX4_append_33 rfl rfl ?_
    refine z_get hC iX4_append_4 0 2 rfl rfl (by decide) mX4_append_f18 rfl dX4_append_34 ?_
    refine z_aload_n hC 0 dX4_append_37 rfl rfl ?_
    refine z_get hC iX4_append_4 0 4 rfl rfl (by decide) mX4_append_f24 rfl dX4_append_38 ?_
    refine z_aload_n hC 2 dX4_append_41 rfl rfl ?_
    refine z_getN hC iX4_append_1 5 1 rfl rfl (by decide) nf_RX4_40 rfl dX4_append_42 ?_
    refine z_iast hC 3 rfl (by omega) (by decide) dX4_append_45 (ws' := [_, _, _, _, _, _]) rfl ?_
    refine z_aload_n hC 0 dX4_append_46 rfl rfl ?_
    refine z_get hC iX4_append_4 0 3 rfl rfl (by decide) mX4_append_f21 rfl dX4_append_47 ?_
    refine z_aload_n hC 0 dX4_append_50 rfl rfl ?_
    refine z_get hC iX4_append_4 0 4 rfl rfl (by decide) mX4_append_f24 rfl dX4_append_51 ?_
    refine z_aload_n hC 2 dX4_append_54 rfl rfl ?_
    refine z_getN hC iX4_append_1 5 2 rfl rfl (by decide) nf_RX4_43 rfl dX4_append_55 ?_
    refine z_iast hC 4 rfl (by omega) (by decide) dX4_append_58 (ws' := [_, _, _, _, _, _]) rfl ?_
    refine z_aload_n hC 0 dX4_append_59 rfl rfl ?_
    refine z_dup hC dX4_append_60 rfl ?_
    refine z_get hC iX4_append_4 0 4 rfl rfl (by decide) mX4_append_f24 rfl dX4_append_61 ?_
    refine z_iconst hC dX4_append_64 ?_
    refine z_iadd hC dX4_append_65 ?_
    refine z_put hC iX4_append_4 tyX4 tyX4_ok nmX4 0 4 rfl rfl (by decide) mX4_append_f24 rfl rfl rfl (Nat.le_of_ble_eq_true rfl) dX4_append_66 (ws' := [_, _, _, _, _, _]) rfl ?_
    exact hR (uZ E tc e, uZ Q tc k, uZ B tc ug, uZ U tc lo, tc + 1) _ _ _ [0, 1, 2, 3, 4, 5] (by first | exact Or.inl ⟨by omega, rfl⟩ | exact Or.inr ⟨by omega, rfl⟩) (by decide) rfl dX4_append_69
  ·
    exact hR (E, Q, B, U, tc) _ _ _ [0, 1, 2, 3, 4, 5] (by first | exact Or.inl ⟨by omega, rfl⟩ | exact Or.inr ⟨by omega, rfl⟩) (by decide) rfl dX4_append_9
end
section
/-! the best way, as numbers: what is left to do behind a break, line by line from the end -/
noncomputable def cit {α : Type} (P : Prop) (x y : α) : α := @ite α P (Classical.propDecidable P) x y
theorem cit_t {α : Type} {P : Prop} {x y : α} (h : P) : cit P x y = x := by unfold cit; exact if_pos h
theorem cit_f {α : Type} {P : Prop} {x y : α} (h : ¬ P) : cit P x y = y := by unfold cit; exact if_neg h
/-- how many items; just so many lines, or 0; whether a line from a to b with number i is one; its demerits; its class -/
abbrev zDP : Type := Int × Int × (Int → Int → Int → Prop) × (Int → Int → Int → Int) × (Int → Int → Int → Int)
abbrev z3 : Type := Int × Int × Int
def zRs (d : zDP) (Vk : Int → Int → z3) (b s : Int) : z3 := if b = d.1 then (0, 0, 0) else Vk b s
def zOkc (d : zDP) (Vk : Int → Int → z3) (i a b : Int) : Prop := d.2.2.1 a b i ∧ (b = d.1 → (d.2.1 = 0 ∨ i + 1 = d.2.1)) ∧ (b ≠ d.1 → (Vk b (d.2.2.2.2 a b i)).2.1 ≠ 0)
def zY (d : zDP) (Vk : Int → Int → z3) (i a c b : Int) : z3 := (d.2.2.2.1 a b i + (zRs d Vk b (d.2.2.2.2 a b i)).1 + (if 0 ≤ a ∧ (1 < d.2.2.2.2 a b i - c ∨ 1 < c - d.2.2.2.2 a b i) then 2000 else 0), (zRs d Vk b (d.2.2.2.2 a b i)).2.1 + 1, b)
def zBt (x y : z3) : Prop := x.2.1 = 0 ∨ y.1 < x.1 ∨ (y.1 = x.1 ∧ y.2.1 < x.2.1)
noncomputable def zF (d : zDP) (Vk : Int → Int → z3) (i a c : Int) : Nat → z3
  | 0 => (0, 0, 0)
  | j + 1 => cit (zOkc d Vk i a (a + 1 + j) ∧ zBt (zF d Vk i a c j) (zY d Vk i a c (a + 1 + j))) (zY d Vk i a c (a + 1 + j)) (zF d Vk i a c j)
noncomputable def zV (d : zDP) : Nat → Int → Int → z3
  | 0 => fun _ _ => (0, 0, 0)
  | k + 1 => fun a c => zF d (zV d k) (49 - k) a c (d.1 - a).toNat
noncomputable def zVL (d : zDP) (i a c : Int) : z3 := zV d (50 - i).toNat a c
theorem zVL_50 (d : zDP) (a c : Int) : zVL d 50 a c = (0, 0, 0) := rfl
theorem zVL_go (d : zDP) {i : Int} (h : 0 ≤ i ∧ i ≤ 49) (a c : Int) : zVL d i a c = zF d (zVL d (i + 1)) i a c (d.1 - a).toNat := by
  have e : (50 - i).toNat = (50 - (i + 1)).toNat + 1 := by omega
  have e2 : (49 : Int) - ((50 - (i + 1)).toNat : Int) = i := by omega
  show zV d (50 - i).toNat a c = _
  rw [e]
  show zF d (zV d (50 - (i + 1)).toNat) (49 - ((50 - (i + 1)).toNat : Int)) a c (d.1 - a).toNat = _
  rw [e2]
  rfl
/-- what the numbers are between -/
def zNb (k : Int) (x : z3) : Prop := 0 ≤ x.2.1 ∧ x.2.1 ≤ k ∧ -(300000000 * x.2.1) ≤ x.1 ∧ x.1 ≤ 300000000 * x.2.1
def zDb (d : zDP) : Prop := ∀ a b i, d.2.2.1 a b i → -290000000 ≤ d.2.2.2.1 a b i ∧ d.2.2.2.1 a b i ≤ 290000000
theorem zY_in {d : zDP} (hB : zDb d) {Vk : Int → Int → z3} {k : Int} (hk : 0 ≤ k) (hV : ∀ b s, zNb k (Vk b s)) {i a c b : Int} (hf : d.2.2.1 a b i) : zNb (k + 1) (zY d Vk i a c b) ∧ 1 ≤ (zY d Vk i a c b).2.1 := by
  have h1 := hB a b i hf
  have h2 : zNb k (zRs d Vk b (d.2.2.2.2 a b i)) := by
    unfold zRs
    split
    · exact ⟨by show (0 : Int) ≤ 0; omega, hk, by show -(300000000 * (0 : Int)) ≤ 0; omega, by show (0 : Int) ≤ 300000000 * 0; omega⟩
    · exact hV _ _
  obtain ⟨g1, g2, g3, g4⟩ := h2
  have h3 : 0 ≤ (if 0 ≤ a ∧ (1 < d.2.2.2.2 a b i - c ∨ 1 < c - d.2.2.2.2 a b i) then (2000 : Int) else 0) ∧ (if 0 ≤ a ∧ (1 < d.2.2.2.2 a b i - c ∨ 1 < c - d.2.2.2.2 a b i) then (2000 : Int) else 0) ≤ 2000 := by split <;> omega
  unfold zNb zY
  dsimp only
  omega
theorem zF_in {d : zDP} (hB : zDb d) {Vk : Int → Int → z3} {k : Int} (hk : 0 ≤ k) (hV : ∀ b s, zNb k (Vk b s)) (i a c : Int) : ∀ j : Nat, zNb (k + 1) (zF d Vk i a c j) := by
  intro j
  induction j with
  | zero => exact ⟨by show (0 : Int) ≤ 0; omega, by show (0 : Int) ≤ k + 1; omega, by show -(300000000 * (0 : Int)) ≤ 0; omega, by show (0 : Int) ≤ 300000000 * 0; omega⟩
  | succ j ih =>
    show zNb (k + 1) (cit _ _ _)
    by_cases h : zOkc d Vk i a (a + 1 + j) ∧ zBt (zF d Vk i a c j) (zY d Vk i a c (a + 1 + j))
    · rw [cit_t h]; exact (zY_in hB hk hV h.1.1).1
    · rw [cit_f h]; exact ih
theorem zV_in {d : zDP} (hB : zDb d) : ∀ (k : Nat) (a c : Int), zNb k (zV d k a c) := by
  intro k
  induction k with
  | zero => intro a c; exact ⟨by show (0 : Int) ≤ 0; omega, by show (0 : Int) ≤ 0; omega, by show -(300000000 * (0 : Int)) ≤ 0; omega, by show (0 : Int) ≤ 300000000 * 0; omega⟩
  | succ k ih => intro a c; have := zF_in hB (k := k) (by omega) ih (49 - k) a c (d.1 - a).toNat; exact this
theorem zVL_in {d : zDP} (hB : zDb d) {i : Int} (h : 0 ≤ i ∧ i ≤ 50) (a c : Int) : zNb (50 - i) (zVL d i a c) := by
  have := zV_in hB (50 - i).toNat a c
  rw [show (((50 - i).toNat : Nat) : Int) = 50 - i by omega] at this
  exact this
theorem zF_in2 {d : zDP} (hB : zDb d) {i : Int} (h : 0 ≤ i ∧ i ≤ 49) (a c : Int) (j : Nat) : zNb (50 - i) (zF d (zVL d (i + 1)) i a c j) := by
  have := zF_in hB (Vk := zVL d (i + 1)) (k := 50 - (i + 1)) (by omega) (fun b s => zVL_in hB (by omega) b s) i a c j
  rw [show 50 - (i + 1) + 1 = 50 - i by omega] at this
  exact this
/-- one candidate more -/
theorem zF_t {d : zDP} {Vk : Int → Int → z3} {i a c b : Int} {j j' : Nat} (hb : b = a + 1 + j) (hj : j' = j + 1) (h : zOkc d Vk i a b) (h2 : zBt (zF d Vk i a c j) (zY d Vk i a c b)) : zF d Vk i a c j' = zY d Vk i a c b := by subst hb; subst hj; exact cit_t ⟨h, h2⟩
theorem zF_f {d : zDP} {Vk : Int → Int → z3} {i a c b : Int} {j j' : Nat} (hb : b = a + 1 + j) (hj : j' = j + 1) (h : ¬ zOkc d Vk i a b) : zF d Vk i a c j' = zF d Vk i a c j := by subst hb; subst hj; exact cit_f (fun q => h q.1)
theorem zF_n {d : zDP} {Vk : Int → Int → z3} {i a c b : Int} {j j' : Nat} (hb : b = a + 1 + j) (hj : j' = j + 1) (h : ¬ zBt (zF d Vk i a c j) (zY d Vk i a c b)) : zF d Vk i a c j' = zF d Vk i a c j := by subst hb; subst hj; exact cit_f (fun q => h q.2)
/-- behind a break that has to be there is no line -/
theorem zF_stop {d : zDP} {Vk : Int → Int → z3} {i a c : Int} (j0 : Nat) (h : ∀ b, a + 1 + j0 ≤ b → ¬ d.2.2.1 a b i) : ∀ j, j0 ≤ j → zF d Vk i a c j = zF d Vk i a c j0 := by
  intro j
  induction j with
  | zero => intro hj; rw [show j0 = 0 by omega]
  | succ j ih =>
    intro hj
    by_cases e : j0 = j + 1
    · rw [e]
    · rw [zF_f (b := a + 1 + j) rfl rfl (fun q => h _ (by omega) q.1)]
      exact ih (by omega)
/-- with just so many lines there is none behind them -/
theorem zF_none {d : zDP} {Vk : Int → Int → z3} {i a c : Int} (h : ∀ b, ¬ zOkc d Vk i a b) : ∀ j, zF d Vk i a c j = (0, 0, 0) := by
  intro j
  induction j with
  | zero => rfl
  | succ j ih => rw [zF_f (b := a + 1 + j) rfl rfl (h _)]; exact ih
theorem zV_ex {d : zDP} (hx : 0 < d.2.1) : ∀ (k : Nat), d.2.1 ≤ 50 - k → ∀ a c, zV d k a c = (0, 0, 0) := by
  intro k
  induction k with
  | zero => intro _ a c; rfl
  | succ k ih =>
    intro hk a c
    refine zF_none (fun b q => ?_) _
    by_cases hb : b = d.1
    · have := q.2.1 hb; omega
    · exact q.2.2 hb (by rw [ih (by omega)])
theorem zVL_ex {d : zDP} (hx : 0 < d.2.1) {i : Int} (h : d.2.1 ≤ i) (hi : i ≤ 50) (a c : Int) : zVL d i a c = (0, 0, 0) := zV_ex hx _ (by omega) a c
/-- what was found: its next break, and what stands behind it -/
theorem zF_ok {d : zDP} {Vk : Int → Int → z3} {i a c : Int} : ∀ j : Nat, (zF d Vk i a c j).2.1 ≠ 0 → zOkc d Vk i a (zF d Vk i a c j).2.2 ∧ zF d Vk i a c j = zY d Vk i a c (zF d Vk i a c j).2.2 ∧ a < (zF d Vk i a c j).2.2 ∧ (zF d Vk i a c j).2.2 ≤ a + j := by
  intro j
  induction j with
  | zero => intro h; exact absurd rfl h
  | succ j ih =>
    by_cases h : zOkc d Vk i a (a + 1 + j) ∧ zBt (zF d Vk i a c j) (zY d Vk i a c (a + 1 + j))
    · rw [zF_t rfl rfl h.1 h.2]
      intro _
      exact ⟨h.1, rfl, by show a < a + 1 + j; omega, by show a + 1 + j ≤ a + (j + 1 : Nat); omega⟩
    · rw [show zF d Vk i a c (j + 1) = zF d Vk i a c j from cit_f h]
      intro h2
      obtain ⟨g1, g2, g3, g4⟩ := ih h2
      exact ⟨g1, g2, g3, by omega⟩
theorem zVL_ok {d : zDP} {i a c : Int} (h : 0 ≤ i ∧ i ≤ 49) (ha : a ≤ d.1) (h0 : (zVL d i a c).2.1 ≠ 0) : d.2.2.1 a (zVL d i a c).2.2 i ∧ a < (zVL d i a c).2.2 ∧ (zVL d i a c).2.2 ≤ d.1 ∧ ((zVL d i a c).2.2 = d.1 → (zVL d i a c).2.1 = 1) ∧ ((zVL d i a c).2.2 ≠ d.1 → (zVL d (i + 1) (zVL d i a c).2.2 (d.2.2.2.2 a (zVL d i a c).2.2 i)).2.1 ≠ 0 ∧ (zVL d i a c).2.1 = (zVL d (i + 1) (zVL d i a c).2.2 (d.2.2.2.2 a (zVL d i a c).2.2 i)).2.1 + 1) := by
  rw [zVL_go d h] at h0 ⊢
  obtain ⟨g1, g2, g3, g4⟩ := zF_ok _ h0
  generalize hb : (zF d (zVL d (i + 1)) i a c (d.1 - a).toNat).2.2 = b at *
  refine ⟨g1.1, g3, by omega, fun e => ?_, fun e => ⟨g1.2.2 e, ?_⟩⟩
  · rw [g2]
    show (zRs d _ b _).2.1 + 1 = 1
    rw [zRs, if_pos e]; rfl
  · rw [g2]
    show (zRs d _ b _).2.1 + 1 = _
    rw [zRs, if_neg e]
/-- the way: break and class behind i lines -/
noncomputable def zPth (d : zDP) : Nat → Int × Int
  | 0 => (-1, 0)
  | i + 1 => ((zVL d i (zPth d i).1 (zPth d i).2).2.2, d.2.2.2.2 (zPth d i).1 (zVL d i (zPth d i).1 (zPth d i).2).2.2 i)
theorem zPth_ok {d : zDP} (hB : zDb d) (hn : 0 ≤ d.1) (h0 : (zVL d 0 (-1) 0).2.1 ≠ 0) : ∀ i : Nat, (i : Int) < (zVL d 0 (-1) 0).2.1 → (zVL d i (zPth d i).1 (zPth d i).2).2.1 = (zVL d 0 (-1) 0).2.1 - i ∧ (zPth d i).1 < d.1 ∧ -1 ≤ (zPth d i).1 ∧ (0 < i → 0 ≤ (zPth d i).1 ∧ i ≤ (zPth d i).1 + 1) ∧ (i = 0 → (zPth d i).1 = -1) := by
  have hb := zVL_in hB (i := 0) (by omega) (-1) 0
  intro i
  induction i with
  | zero => intro _; refine ⟨by show (zVL d 0 (-1) 0).2.1 = _; omega, by show (-1 : Int) < _; omega, by show (-1 : Int) ≤ -1; omega, fun h => absurd h (by omega), fun _ => rfl⟩
  | succ i ih =>
    intro hi
    obtain ⟨g1, g2, g3, g4, g5⟩ := ih (by omega)
    have h49 : (0 : Int) ≤ i ∧ (i : Int) ≤ 49 := by unfold zNb at hb; omega
    obtain ⟨k1, k2, k3, k4, k5⟩ := zVL_ok (d := d) (i := i) (a := (zPth d i).1) (c := (zPth d i).2) h49 (by omega) (by omega)
    have hne : (zVL d i (zPth d i).1 (zPth d i).2).2.2 ≠ d.1 := fun e => by have := k4 e; omega
    obtain ⟨m1, m2⟩ := k5 hne
    have e : zPth d (i + 1) = ((zVL d i (zPth d i).1 (zPth d i).2).2.2, d.2.2.2.2 (zPth d i).1 (zVL d i (zPth d i).1 (zPth d i).2).2.2 i) := rfl
    rw [e]
    dsimp only
    rw [show (((i + 1 : Nat)) : Int) = (i : Int) + 1 by omega]
    refine ⟨by omega, by omega, by omega, fun _ => ⟨by omega, ?_⟩, fun h => absurd h (by omega)⟩
    by_cases hz : i = 0
    · subst hz; have := g5 rfl; omega
    · have := g4 (by omega); omega
theorem zPth_end {d : zDP} (hB : zDb d) (hn : 0 ≤ d.1) (h0 : (zVL d 0 (-1) 0).2.1 ≠ 0) (i : Nat) (hi : (i : Int) + 1 = (zVL d 0 (-1) 0).2.1) : (zPth d (i + 1)).1 = d.1 := by
  have hb := zVL_in hB (i := 0) (by omega) (-1) 0
  obtain ⟨g1, g2, g3, g4, g5⟩ := zPth_ok hB hn h0 i (by omega)
  have h49 : (0 : Int) ≤ i ∧ (i : Int) ≤ 49 := by unfold zNb at hb; omega
  obtain ⟨k1, k2, k3, k4, k5⟩ := zVL_ok (d := d) (i := i) (a := (zPth d i).1) (c := (zPth d i).2) h49 (by omega) (by omega)
  show (zVL d i (zPth d i).1 (zPth d i).2).2.2 = d.1
  by_cases e : (zVL d i (zPth d i).1 (zPth d i).2).2.2 = d.1
  · exact e
  · have hb2 := zVL_in hB (i := (i : Int) + 1) (by omega) (zVL d i (zPth d i).1 (zPth d i).2).2.2 (d.2.2.2.2 (zPth d i).1 (zVL d i (zPth d i).1 (zPth d i).2).2.2 i)
    have := k5 e
    unfold zNb at hb2
    omega
end
section
/-! the search's numbers: a line from a to b with number i; what the rows of costs hold -/
def lLk (n : Int) (K P LB W : Int → Int) (a b i : Int) : Int := zLk n K P LB (zSt K n a) b (W i)
def lSh (n : Int) (K HB : Int → Int) (a b : Int) : Int := HB b - HB (min (zSt K n a) b)
def lSt (n : Int) (K SB : Int → Int) (mo a b : Int) : Int := SB b - SB (min (zSt K n a) b) + mo
def lUg (n : Int) (K P LB SB HB W : Int → Int) (mo a b i : Int) : Int := zUg n b (lLk n K P LB W a b i) (lSt n K SB mo a b) (lSh n K HB a b)
def lCl (n : Int) (K P LB SB HB W : Int → Int) (mo a b i : Int) : Int := zCl n b (lLk n K P LB W a b i) (lSt n K SB mo a b) (lSh n K HB a b)
/-- demerits of a line of that ugliness -/
def zDm (n : Int) (K V M : Int → Int) (a b ug : Int) : Int := (10 + ug) * (10 + ug) + zPen K V n b + (if (0 ≤ a ∧ a < n ∧ K a = 2 ∧ M a = 1) ∧ (0 ≤ b ∧ b < n ∧ K b = 2 ∧ M b = 1) then 3000 else 0)
def zFit (n : Int) (K V P M LB SB HB W : Int → Int) (tol mo mt a b i : Int) : Prop := (-1 ≤ a ∧ a < b ∧ b ≤ n) ∧ zMay K V M n b mt ∧ (∀ m, a < m → m < b → ¬ zMust K V n m) ∧ zOk (lLk n K P LB W a b i) (lSh n K HB a b) ∧ lUg n K P LB SB HB W mo a b i ≤ tol
def zMk (n : Int) (K V P M LB SB HB W : Int → Int) (tol mo mt ex : Int) : zDP := (n, ex, zFit n K V P M LB SB HB W tol mo mt, fun a b i => zDm n K V M a b (lUg n K P LB SB HB W mo a b i), fun a b i => lCl n K P LB SB HB W mo a b i)
/-- what is fixed while one pass searches -/
def zEnv (n : Int) (K V P M LB SB HB W T : Int → Int) (ps mt ex : Int) (d : zDP) : Prop := zIok n K V P M ∧ zPok n LB SB HB ∧ (∀ i, 0 ≤ i → i ≤ 49 → 0 ≤ W i ∧ W i ≤ 20000) ∧ ((-1 ≤ T 0 ∧ T 0 ≤ 10000) ∧ (-1 ≤ T 1 ∧ T 1 ≤ 10000) ∧ (0 ≤ T 2 ∧ T 2 ≤ 10000)) ∧ (1 ≤ ps ∧ ps ≤ 3) ∧ (mt = 0 ∨ mt = 1) ∧ (mt = 1 ↔ ¬ ps = 1) ∧ (0 ≤ ex ∧ ex ≤ 50) ∧ d = zMk n K V P M LB SB HB W (if ps = 1 then T 0 else T 1) (if ps = 3 then T 2 else 0) mt ex
theorem zUg_in {n e lk st sh : Int} : 0 ≤ zUg n e lk st sh ∧ zUg n e lk st sh ≤ 10000 := by
  unfold zUg
  split
  · exact zBad_in (by omega)
  · split
    · omega
    · exact zBad_in (by omega)
theorem zCl_in {n e lk st sh : Int} : 0 ≤ zCl n e lk st sh ∧ zCl n e lk st sh ≤ 3 := by
  unfold zCl zWid
  split
  · split <;> omega
  · split
    · omega
    · split
      · omega
      · split <;> omega
theorem sq_in {x b : Int} (h0 : 0 ≤ x) (h : x ≤ b) : 0 ≤ x * x ∧ x * x ≤ b * b := ⟨Int.mul_nonneg h0 h0, Int.mul_le_mul h h h0 (by omega)⟩
theorem zPen_in {n : Int} {K V P M : Int → Int} (h : zIok n K V P M) {b : Int} (hb : 0 ≤ b) : -100000000 ≤ zPen K V n b ∧ zPen K V n b ≤ 100000000 := by
  unfold zPen
  split
  · next q =>
    have hv := h.2.2 b hb q.1 q.2.1
    split
    · have := sq_in (x := -V b) (b := 10000) (by omega) (by omega)
      rw [Int.neg_mul] at this ⊢
      rw [Int.mul_neg] at this
      omega
    · have := sq_in (x := V b) (b := 10000) (by omega) (by omega)
      omega
  · omega
theorem zDm_in {n : Int} {K V P M : Int → Int} (h : zIok n K V P M) {a b ug : Int} (hb : 0 ≤ b) (hu : 0 ≤ ug ∧ ug ≤ 10000) : -290000000 ≤ zDm n K V M a b ug ∧ zDm n K V M a b ug ≤ 290000000 := by
  have h1 := zPen_in h hb
  have h2 := sq_in (x := 10 + ug) (b := 10010) (by omega) (by omega)
  unfold zDm
  split <;> omega
theorem zMk_b {n : Int} {K V P M LB SB HB W : Int → Int} {tol mo mt ex : Int} (h : zIok n K V P M) : zDb (zMk n K V P M LB SB HB W tol mo mt ex) := by
  intro a b i hf
  exact zDm_in h (by have := hf.1; omega) zUg_in
theorem zEnv_b {n : Int} {K V P M LB SB HB W T : Int → Int} {ps mt ex : Int} {d : zDP} (h : zEnv n K V P M LB SB HB W T ps mt ex d) : zDb d := by
  obtain ⟨h1, -, -, -, -, -, -, -, rfl⟩ := h
  exact zMk_b h1
/-- what the line object holds -/
def zMeas (n : Int) (K P LB SB HB W : Int → Int) (mo a b i l u k dd : Int) : Prop := l = lLk n K P LB W a b i ∧ (zOk (lLk n K P LB W a b i) (lSh n K HB a b) → dd = 1 ∧ u = lUg n K P LB SB HB W mo a b i ∧ k = lCl n K P LB SB HB W mo a b i) ∧ (¬ zOk (lLk n K P LB W a b i) (lSh n K HB a b) → dd = 0)
theorem zMeas_same {n : Int} {K P LB SB HB W : Int → Int} {mo a b i i' l u k dd : Int} (h : zMeas n K P LB SB HB W mo a b i l u k dd) (hw : W i' = W i) : zMeas n K P LB SB HB W mo a b i' l u k dd := by
  unfold zMeas lUg lCl lLk at *
  rw [hw]
  exact h
theorem zMeas_01 {n : Int} {K P LB SB HB W : Int → Int} {mo a b i l u k dd : Int} (h : zMeas n K P LB SB HB W mo a b i l u k dd) : (dd = 0 ∨ dd = 1) ∧ (dd = 1 → zOk (lLk n K P LB W a b i) (lSh n K HB a b) ∧ u = lUg n K P LB SB HB W mo a b i ∧ k = lCl n K P LB SB HB W mo a b i ∧ (0 ≤ u ∧ u ≤ 10000) ∧ (0 ≤ k ∧ k ≤ 3)) := by
  by_cases q : zOk (lLk n K P LB W a b i) (lSh n K HB a b)
  · obtain ⟨g1, g2, g3⟩ := h.2.1 q
    refine ⟨Or.inr g1, fun _ => ⟨q, g2, g3, ?_, ?_⟩⟩
    · rw [g2]; exact zUg_in
    · rw [g3]; exact zCl_in
  · have := h.2.2 q
    exact ⟨Or.inl this, fun e => by omega⟩
def zNW : Int := 9223372036854775807
/-- a cell of the two rows holds x -/
def zCc (C N : Int → Int) (p i c : Int) (x : z3) : Prop := (x.2.1 = 0 → C (((p + 1) * 51 + i) * 4 + c) = 9223372036854775807) ∧ (x.2.1 ≠ 0 → C (((p + 1) * 51 + i) * 4 + c) = 64 * x.1 + x.2.1 ∧ N (((p + 1) * 51 + i) * 4 + c) = x.2.2)
/-- what is left to do behind a break at b with i lines -/
def zRst (d : zDP) (C : Int → Int) (b i s : Int) : Prop := (b = d.1 → ((d.2.1 = 0 ∨ i = d.2.1) → C (((b + 1) * 51 + i) * 4 + s) = 0) ∧ (¬ (d.2.1 = 0 ∨ i = d.2.1) → C (((b + 1) * 51 + i) * 4 + s) = 9223372036854775807)) ∧ (b ≠ d.1 → ((zVL d i b s).2.1 = 0 → C (((b + 1) * 51 + i) * 4 + s) = 9223372036854775807) ∧ ((zVL d i b s).2.1 ≠ 0 → C (((b + 1) * 51 + i) * 4 + s) = 64 * (zVL d i b s).1 + (zVL d i b s).2.1))
theorem zRst_in {d : zDP} (hB : zDb d) {C : Int → Int} {b i s : Int} (hi : 0 ≤ i ∧ i ≤ 50) (h : zRst d C b i s) : C (((b + 1) * 51 + i) * 4 + s) = 9223372036854775807 ∨ (-1000000000000 ≤ C (((b + 1) * 51 + i) * 4 + s) ∧ C (((b + 1) * 51 + i) * 4 + s) ≤ 1000000000000) := by
  by_cases e : b = d.1
  · have h1 := h.1 e
    by_cases q : d.2.1 = 0 ∨ i = d.2.1
    · have := h1.1 q; omega
    · exact Or.inl (h1.2 q)
  · have h1 := h.2 e
    have hb := zVL_in hB hi b s
    unfold zNb at hb
    by_cases q : (zVL d i b s).2.1 = 0
    · exact Or.inl (h1.1 q)
    · have := h1.2 q; omega
theorem zCc_in {d : zDP} (hB : zDb d) {C N : Int → Int} {p i c : Int} {k : Int} {x : z3} (hk : k ≤ 50) (hx : zNb k x) (h : zCc C N p i c x) : C (((p + 1) * 51 + i) * 4 + c) = 9223372036854775807 ∨ (-1000000000000 ≤ C (((p + 1) * 51 + i) * 4 + c) ∧ C (((p + 1) * 51 + i) * 4 + c) ≤ 1000000000000) := by
  unfold zNb at hx
  by_cases q : x.2.1 = 0
  · exact Or.inl (h.1 q)
  · have := (h.2 q).1; omega
/-- a whole way's cost -/
def zWh (a c lo rest E : Int) : Int := rest + 1 + 64 * E + (if 0 ≤ a ∧ (1 < lo - c ∨ 1 < c - lo) then 128000 else 0)
theorem zWh_t {a c lo rest E : Int} (h : 0 ≤ a) (h2 : 1 < c - lo ∨ 1 < lo - c) : rest + 1 + 64 * E + 128000 = zWh a c lo rest E := by unfold zWh; rw [if_pos (by omega)]
theorem zWh_f {a c lo rest E : Int} (h : ¬ (0 ≤ a ∧ (1 < c - lo ∨ 1 < lo - c))) : rest + 1 + 64 * E = zWh a c lo rest E := by unfold zWh; rw [if_neg (by omega)]; omega
/-- a line is entered for the classes below u -/
def zEnt (u a b base rest E lo : Int) (C N C1 N1 : Int → Int) : Prop := (∀ x, x < base ∨ base + u ≤ x → C1 x = C x ∧ N1 x = N x) ∧ ∀ c, 0 ≤ c → c < u → (zWh a c lo rest E < C (base + c) → C1 (base + c) = zWh a c lo rest E ∧ N1 (base + c) = b) ∧ (¬ zWh a c lo rest E < C (base + c) → C1 (base + c) = C (base + c) ∧ N1 (base + c) = N (base + c))
theorem zEnt_0 {a b base rest E lo : Int} {C N : Int → Int} : zEnt 0 a b base rest E lo C N C N := ⟨fun _ _ => ⟨rfl, rfl⟩, fun c h1 h2 => by omega⟩
theorem zEnt_y {u a b base rest E lo w : Int} {C N C1 N1 : Int → Int} (hu : 0 ≤ u) (h : zEnt u a b base rest E lo C N C1 N1) (hw : w = zWh a u lo rest E) (hlt : w < C (base + u)) : zEnt (u + 1) a b base rest E lo C N (uZ C1 (base + u) w) (uZ N1 (base + u) b) := by
  subst hw
  refine ⟨fun x hx => ?_, fun c h1 h2 => ?_⟩
  · rw [uZ_n _ _ (by omega), uZ_n _ _ (by omega)]
    exact h.1 x (by omega)
  · by_cases e : c = u
    · subst e
      rw [uZ_s, uZ_s]
      exact ⟨fun _ => ⟨rfl, rfl⟩, fun q => absurd hlt q⟩
    · rw [uZ_n _ _ (by omega), uZ_n _ _ (by omega)]
      exact h.2 c h1 (by omega)
theorem zEnt_x {u a b base rest E lo w : Int} {C N C1 N1 : Int → Int} (hu : 0 ≤ u) (h : zEnt u a b base rest E lo C N C1 N1) (hw : w = zWh a u lo rest E) (hlt : ¬ w < C (base + u)) : zEnt (u + 1) a b base rest E lo C N C1 N1 := by
  subst hw
  refine ⟨fun x hx => h.1 x (by omega), fun c h1 h2 => ?_⟩
  by_cases e : c = u
  · subst e
    have := h.1 (base + c) (by omega)
    exact ⟨fun q => absurd q hlt, fun _ => this⟩
  · exact h.2 c h1 (by omega)
/-- one candidate more in a cell: the end b of a line from a, entered -/
theorem zCc_ent {d : zDP} (hB : zDb d) {C N C1 N1 : Int → Int} {a b i c : Int} {j j' : Nat} (hi : 0 ≤ i ∧ i ≤ 49) (hc : 0 ≤ c ∧ c ≤ 3) (ha : -1 ≤ a) (hj : b = a + 1 + j) (hj' : j' = j + 1) (h : zCc C N a i c (zF d (zVL d (i + 1)) i a c j)) (hf : d.2.2.1 a b i) (hr : zRst d C b (i + 1) (d.2.2.2.2 a b i))
    (h1 : C (((b + 1) * 51 + (i + 1)) * 4 + d.2.2.2.2 a b i) = 9223372036854775807 → C1 = C ∧ N1 = N)
    (h2 : ¬ C (((b + 1) * 51 + (i + 1)) * 4 + d.2.2.2.2 a b i) = 9223372036854775807 → zEnt 4 a b (((a + 1) * 51 + i) * 4) (C (((b + 1) * 51 + (i + 1)) * 4 + d.2.2.2.2 a b i)) (d.2.2.2.1 a b i) (d.2.2.2.2 a b i) C N C1 N1) : zCc C1 N1 a i c (zF d (zVL d (i + 1)) i a c j') := by
  have hin := zF_in2 hB hi a c j
  have hy := zY_in hB (Vk := zVL d (i + 1)) (k := 50 - (i + 1)) (by omega) (fun b s => zVL_in hB (by omega) b s) (i := i) (a := a) (c := c) (b := b) hf
  by_cases q : C (((b + 1) * 51 + (i + 1)) * 4 + d.2.2.2.2 a b i) = 9223372036854775807
  · obtain ⟨rfl, rfl⟩ := h1 q
    rw [zF_f hj hj' (fun k => ?_)]
    · exact h
    · by_cases e : b = d.1
      · have := (hr.1 e).1 (k.2.1 e); omega
      · have hk := (hr.2 e).2 (k.2.2 e)
        have hb := zVL_in hB (i := i + 1) (by omega) b (d.2.2.2.2 a b i)
        unfold zNb at hb
        omega
  · have hE := h2 q
    have hok : zOkc d (zVL d (i + 1)) i a b := by
      refine ⟨hf, fun e => ?_, fun e z => q ((hr.2 e).1 z)⟩
      by_cases z : d.2.1 = 0 ∨ i + 1 = d.2.1
      · exact z
      · exact absurd ((hr.1 e).2 z) q
    have hrs : C (((b + 1) * 51 + (i + 1)) * 4 + d.2.2.2.2 a b i) = 64 * (zRs d (zVL d (i + 1)) b (d.2.2.2.2 a b i)).1 + (zRs d (zVL d (i + 1)) b (d.2.2.2.2 a b i)).2.1 := by
      unfold zRs
      by_cases e : b = d.1
      · rw [if_pos e]; have := (hr.1 e).1 (hok.2.1 e); show _ = 64 * (0 : Int) + 0; omega
      · rw [if_neg e]; exact (hr.2 e).2 (hok.2.2 e)
    have hwh : zWh a c (d.2.2.2.2 a b i) (C (((b + 1) * 51 + (i + 1)) * 4 + d.2.2.2.2 a b i)) (d.2.2.2.1 a b i) = 64 * (zY d (zVL d (i + 1)) i a c b).1 + (zY d (zVL d (i + 1)) i a c b).2.1 := by
      rw [hrs]
      unfold zWh zY
      dsimp only
      split <;> omega
    have hE2 := hE.2 c hc.1 (by omega)
    rw [hwh] at hE2
    unfold zNb at hin hy
    by_cases z : zBt (zF d (zVL d (i + 1)) i a c j) (zY d (zVL d (i + 1)) i a c b)
    · rw [zF_t hj hj' hok z]
      have hlt : 64 * (zY d (zVL d (i + 1)) i a c b).1 + (zY d (zVL d (i + 1)) i a c b).2.1 < C (((a + 1) * 51 + i) * 4 + c) := by
        by_cases z0 : (zF d (zVL d (i + 1)) i a c j).2.1 = 0
        · rw [h.1 z0]; omega
        · rw [(h.2 z0).1]
          unfold zBt at z
          omega
      have := hE2.1 hlt
      exact ⟨fun k => by omega, fun _ => ⟨this.1, this.2⟩⟩
    · rw [zF_n hj hj' z]
      have hlt : ¬ 64 * (zY d (zVL d (i + 1)) i a c b).1 + (zY d (zVL d (i + 1)) i a c b).2.1 < C (((a + 1) * 51 + i) * 4 + c) := by
        unfold zBt at z
        have z0 : ¬ (zF d (zVL d (i + 1)) i a c j).2.1 = 0 := fun k => z (Or.inl k)
        rw [(h.2 z0).1]
        omega
      have := hE2.2 hlt
      unfold zCc
      rw [this.1, this.2]
      exact h
/-- no line to b: the cell stays -/
theorem zCc_no {d : zDP} {C N : Int → Int} {a b i c : Int} {j j' : Nat} (hj : b = a + 1 + j) (hj' : j' = j + 1) (h : zCc C N a i c (zF d (zVL d (i + 1)) i a c j)) (hf : ¬ d.2.2.1 a b i) : zCc C N a i c (zF d (zVL d (i + 1)) i a c j') := by
  rw [zF_f hj hj' (fun k => hf k.1)]; exact h
theorem zCc_kept {C N C1 N1 : Int → Int} {p i c : Int} {x : z3} (h : zCc C N p i c x) (h1 : C1 (((p + 1) * 51 + i) * 4 + c) = C (((p + 1) * 51 + i) * 4 + c)) (h2 : N1 (((p + 1) * 51 + i) * 4 + c) = N (((p + 1) * 51 + i) * 4 + c)) : zCc C1 N1 p i c x := by
  unfold zCc; rw [h1, h2]; exact h
theorem zRst_kept {d : zDP} {C C1 : Int → Int} {b i s : Int} (h : zRst d C b i s) (h1 : C1 (((b + 1) * 51 + i) * 4 + s) = C (((b + 1) * 51 + i) * 4 + s)) : zRst d C1 b i s := by
  unfold zRst; rw [h1]; exact h
theorem zCc_rst {d : zDP} {C N : Int → Int} {b i s : Int} (hb : b ≠ d.1) (h : zCc C N b i s (zVL d i b s)) : zRst d C b i s := ⟨fun e => absurd e hb, fun _ => ⟨h.1, fun q => (h.2 q).1⟩⟩
theorem tdiv64 (a : Int) : a.tdiv 64 = if 0 ≤ a then a / 64 else -((-a) / 64) := by
  split
  · next h => exact Int.tdiv_eq_ediv_of_nonneg h
  · next h =>
    have e : a.tdiv 64 = -((-a).tdiv 64) := by rw [Int.neg_tdiv, Int.neg_neg]
    rw [e, Int.tdiv_eq_ediv_of_nonneg (by omega)]
theorem lxor_neg (a : Int) (ha : -9223372036854775808 ≤ a ∧ a ≤ 9223372036854775807) : (lZ a ^^^ lZ 64).toInt < 0 ↔ a < 0 := by
  have h0 : ∀ x : Int64, x.toInt < 0 ↔ x.toBitVec.msb = true := by
    intro x
    rw [← BitVec.slt_zero_iff_msb_cond, BitVec.slt_iff_toInt_lt]
    simp
  rw [h0]
  have h1 := h0 (lZ a)
  rw [lZ_t ha] at h1
  rw [h1, Int64.toBitVec_xor, BitVec.msb_xor]
  have h2 : (lZ 64).toBitVec.msb = false := by decide
  rw [h2]
  simp
section ZMORE
variable {X : zX} {g : zG} {cc : ByteArray} {own : String} {Ts : List Cond} {rm : Room} {nL : Nat} {Y : va_W → Heap → List Loc → Prop} {cells slots : Nat} {ws : va_W} {lv : List (Nat × Value)} {pc : Nat} {st : List Value} {A : Nat → Prop}
theorem z_lxor64 (hC : zC X g cc own Ts rm nL) {a : Int} (d : decode cc pc = .ok (.lxor, 1)) (ha : -9223372036854775808 ≤ a ∧ a ≤ 9223372036854775807) (k : ∀ v : Int, (-9223372036854775808 ≤ v ∧ v ≤ 9223372036854775807) → (v < 0 ↔ a < 0) → ZG X g Y cells slots ws lv (pc + 1) (.long (lZ v) :: st)) : ZG X g Y cells slots ws lv pc (.long (lZ 64) :: .long (lZ a) :: st) := fun H locs ls hP hD hY hl0 => lv_lxor hC.1.1 hC.1.2.1 d (by
  have h1 := Int64.toInt_lt (lZ a ^^^ lZ 64)
  have h2 := Int64.le_toInt (lZ a ^^^ lZ 64)
  have := k (lZ a ^^^ lZ 64).toInt (by omega) (lxor_neg a ha) H locs ls hP hD hY hl0
  rw [show lZ (lZ a ^^^ lZ 64).toInt = lZ a ^^^ lZ 64 from Int64.ofInt_toInt _] at this
  exact this)
end ZMORE
end
section
/-! steps of the search, as numbers -/
def zLe (a : Int) : Int := if a = -1 then 0 else 1
theorem zLe_e (a : Int) : (a = -1 ∧ zLe a = 0) ∨ (a ≠ -1 ∧ zLe a = 1) := by
  unfold zLe; split <;> omega
/-- only cells of row a, lines le to mx - 1, differ -/
def zFr (a le mx : Int) (C N C1 N1 : Int → Int) : Prop := ∀ x, x < ((a + 1) * 51 + le) * 4 ∨ ((a + 1) * 51 + mx) * 4 ≤ x → C1 x = C x ∧ N1 x = N x
def zRow (d : zDP) (a le mx : Int) (j : Nat) (C N : Int → Int) : Prop := ∀ i c, le ≤ i → i < mx → 0 ≤ c → c ≤ 3 → zCc C N a i c (zF d (zVL d (i + 1)) i a c j)
theorem zFr_0 {a le : Int} {C N : Int → Int} : zFr a le le C N C N := fun _ _ => ⟨rfl, rfl⟩
theorem zRow_0 {d : zDP} {a le : Int} {j : Nat} {C N : Int → Int} : zRow d a le le j C N := fun i c h1 h2 => by omega
theorem tl_no {d : zDP} {a b le i : Int} {j j' : Nat} {C N C2 N2 : Int → Int} (hj : b = a + 1 + j) (hj' : j' = j + 1) (hi : le ≤ i) (hF : zFr a le i C N C2 N2) (hR : zRow d a le i j' C2 N2) (h5 : ∀ c, 0 ≤ c → c ≤ 3 → zCc C N a i c (zF d (zVL d (i + 1)) i a c j)) (hf : ¬ d.2.2.1 a b i) : zFr a le (i + 1) C N C2 N2 ∧ zRow d a le (i + 1) j' C2 N2 := by
  refine ⟨fun x hx => hF x (by omega), fun i2 c h1 h2 h3 h4 => ?_⟩
  by_cases e : i2 = i
  · subst e
    have := hF (((a + 1) * 51 + i2) * 4 + c) (by omega)
    exact zCc_no hj hj' (zCc_kept (h5 c h3 h4) this.1 this.2) hf
  · exact hR i2 c h1 (by omega) h3 h4
theorem tl_en {d : zDP} (hB : zDb d) {a b le i : Int} {j j' : Nat} {C N C2 N2 C3 N3 : Int → Int} (hj : b = a + 1 + j) (hj' : j' = j + 1) (hi : le ≤ i) (hi2 : 0 ≤ i ∧ i ≤ 49) (ha : -1 ≤ a ∧ a < b) (hF : zFr a le i C N C2 N2) (hR : zRow d a le i j' C2 N2) (h5 : ∀ c, 0 ≤ c → c ≤ 3 → zCc C N a i c (zF d (zVL d (i + 1)) i a c j)) (hf : d.2.2.1 a b i) (hk : 0 ≤ d.2.2.2.2 a b i ∧ d.2.2.2.2 a b i ≤ 3) (hr : zRst d C b (i + 1) (d.2.2.2.2 a b i))
    (h1 : C2 (((b + 1) * 51 + (i + 1)) * 4 + d.2.2.2.2 a b i) = 9223372036854775807 → C3 = C2 ∧ N3 = N2)
    (h2 : ¬ C2 (((b + 1) * 51 + (i + 1)) * 4 + d.2.2.2.2 a b i) = 9223372036854775807 → zEnt 4 a b (((a + 1) * 51 + i) * 4) (C2 (((b + 1) * 51 + (i + 1)) * 4 + d.2.2.2.2 a b i)) (d.2.2.2.1 a b i) (d.2.2.2.2 a b i) C2 N2 C3 N3) : zFr a le (i + 1) C N C3 N3 ∧ zRow d a le (i + 1) j' C3 N3 := by
  have hoff : ∀ x, x < ((a + 1) * 51 + i) * 4 ∨ ((a + 1) * 51 + i) * 4 + 4 ≤ x → C3 x = C2 x ∧ N3 x = N2 x := by
    intro x hx
    by_cases q : C2 (((b + 1) * 51 + (i + 1)) * 4 + d.2.2.2.2 a b i) = 9223372036854775807
    · obtain ⟨rfl, rfl⟩ := h1 q; exact ⟨rfl, rfl⟩
    · exact (h2 q).1 x hx
  refine ⟨fun x hx => ?_, fun i2 c g1 g2 g3 g4 => ?_⟩
  · have e1 := hF x (by omega)
    have e2 := hoff x (by omega)
    exact ⟨e2.1.trans e1.1, e2.2.trans e1.2⟩
  · by_cases e : i2 = i
    · subst e
      have e1 := hF (((a + 1) * 51 + i2) * 4 + c) (by omega)
      refine zCc_ent hB hi2 ⟨g3, g4⟩ ha.1 hj hj' (zCc_kept (h5 c g3 g4) e1.1 e1.2) hf (zRst_kept hr ?_) h1 h2
      exact (hF _ (by omega)).1
    · have e2 := hoff (((a + 1) * 51 + i2) * 4 + c) (by omega)
      exact zCc_kept (hR i2 c g1 (by omega) g3 g4) e2.1 e2.2
/-- the last break of a row has been tried -/
theorem tb_end {n : Int} {K V P M LB SB HB W : Int → Int} {tol mo mt ex : Int} {a b mx : Int} {C N : Int → Int} (hb : a < b ∧ b ≤ n) (hm : b = n ∨ zMust K V n b) (hmx : mx ≤ 50) (h0 : 0 ≤ zLe a) (h : zRow (zMk n K V P M LB SB HB W tol mo mt ex) a (zLe a) mx (b - a).toNat C N) : ∀ i c, zLe a ≤ i → i < mx → 0 ≤ c → c ≤ 3 → zCc C N a i c (zVL (zMk n K V P M LB SB HB W tol mo mt ex) i a c) := by
  intro i c h1 h2 h3 h4
  rw [zVL_go _ (by omega)]
  show zCc C N a i c (zF (zMk n K V P M LB SB HB W tol mo mt ex) (zVL (zMk n K V P M LB SB HB W tol mo mt ex) (i + 1)) i a c (n - a).toNat)
  rw [zF_stop (b - a).toNat (fun b' hb' hf => ?_) (n - a).toNat (by omega)]
  · exact h i c h1 h2 h3 h4
  · obtain ⟨g1, g2, g3, -⟩ : zFit n K V P M LB SB HB W tol mo mt a b' i := hf
    rcases hm with e | e
    · omega
    · exact g3 b hb.1 (by omega) e
/-- the rows behind break f are made -/
def zT1 (d : zDP) (K V M : Int → Int) (n mt f : Int) (C N : Int → Int) : Prop := ∀ p i c, f < p → p < n → (p = -1 ∨ zMay K V M n p mt) → zLe p ≤ i → i < min (p + 1) 49 + 1 → 0 ≤ c → c ≤ 3 → zCc C N p i c (zVL d i p c)
def zT2 (n f : Int) (C : Int → Int) : Prop := ∀ p i c, -1 ≤ p → p ≤ f → 0 ≤ i → i ≤ 50 → 0 ≤ c → c ≤ 3 → C (((p + 1) * 51 + i) * 4 + c) = 9223372036854775807
def zT3 (d : zDP) (n : Int) (C : Int → Int) : Prop := ∀ i s, 1 ≤ i → i ≤ 50 → 0 ≤ s → s ≤ 3 → zRst d C n i s
def zT4 (n : Int) (C : Int → Int) : Prop := ∀ p c, -1 ≤ p → p < n → 0 ≤ c → c ≤ 3 → C (((p + 1) * 51 + 50) * 4 + c) = 9223372036854775807
def zTT (d : zDP) (K V M : Int → Int) (n mt f : Int) (C N : Int → Int) : Prop := zT1 d K V M n mt f C N ∧ zT2 n f C ∧ zT3 d n C ∧ zT4 n C
theorem fw_rst {d : zDP} {K V M : Int → Int} {n mt f : Int} {C N : Int → Int} (hn : d.1 = n) (hf : -1 ≤ f) (h : zTT d K V M n mt f C N) : ∀ b i s, f < b → b ≤ n → zMay K V M n b mt → zLe f ≤ i → i < min (f + 1) 49 + 1 → 0 ≤ s → s ≤ 3 → zRst d C b (i + 1) s := by
  intro b i s h1 h2 hm h3 h4 h5 h6
  have hl := zLe_e f
  have hlb := zLe_e b
  by_cases e : b = n
  · subst e; exact h.2.2.1 (i + 1) s (by omega) (by omega) h5 h6
  · by_cases e2 : i + 1 = 50
    · rw [e2]
      refine ⟨fun q => absurd q (by omega), fun _ => ⟨fun _ => h.2.2.2 b s (by omega) (by omega) h5 h6, fun q => absurd rfl q⟩⟩
    · exact zCc_rst (N := N) (by omega) (h.1 b (i + 1) s h1 (by omega) (Or.inr hm) (by omega) (by omega) h5 h6)
theorem fw_no {d : zDP} {K V M : Int → Int} {n mt f : Int} {C N : Int → Int} (h : zTT d K V M n mt f C N) (hf : ¬ (f = -1 ∨ zMay K V M n f mt)) : zTT d K V M n mt (f - 1) C N := by
  refine ⟨fun p i c h1 h2 h3 h4 h5 h6 h7 => ?_, fun p i c h1 h2 => h.2.1 p i c h1 (by omega), h.2.2⟩
  by_cases e : p = f
  · subst e; exact absurd h3 hf
  · exact h.1 p i c (by omega) h2 h3 h4 h5 h6 h7
theorem fw_go {d : zDP} {K V M : Int → Int} {n mt f : Int} {C N C1 N1 : Int → Int} (hf : -1 ≤ f ∧ f < n) (h : zTT d K V M n mt f C N) (hF : zFr f (zLe f) (min (f + 1) 49 + 1) C N C1 N1) (hR : ∀ i c, zLe f ≤ i → i < min (f + 1) 49 + 1 → 0 ≤ c → c ≤ 3 → zCc C1 N1 f i c (zVL d i f c)) : zTT d K V M n mt (f - 1) C1 N1 := by
  have hl := zLe_e f
  refine ⟨fun p i c h1 h2 h3 h4 h5 h6 h7 => ?_, fun p i c h1 h2 h3 h4 h5 h6 => ?_, fun i s h1 h2 h3 h4 => ?_, fun p c h1 h2 h3 h4 => ?_⟩
  · by_cases e : p = f
    · subst e; exact hR i c h4 h5 h6 h7
    · have hlp := zLe_e p
      have := hF (((p + 1) * 51 + i) * 4 + c) (by omega)
      exact zCc_kept (h.1 p i c (by omega) h2 h3 h4 h5 h6 h7) this.1 this.2
  · rw [(hF _ (by omega)).1]; exact h.2.1 p i c h1 (by omega) h3 h4 h5 h6
  · exact zRst_kept (h.2.2.1 i s h1 h2 h3 h4) (hF _ (by omega)).1
  · rw [(hF _ (by omega)).1]; exact h.2.2.2 p c h1 h2 h3 h4
/-- closed, and opened at the end -/
theorem fw_0 {d : zDP} {K V M : Int → Int} {n mt ex : Int} {C0 C1 N : Int → Int} (hn : d.1 = n) (hx : d.2.1 = ex) (h0 : 0 ≤ n) (hex : 0 ≤ ex ∧ ex ≤ 50) (h1 : ∀ x, 0 ≤ x → x < (n + 2) * 204 → C0 x = 9223372036854775807) (h2 : ∀ x, x < (n + 1) * 204 ∨ (n + 2) * 204 ≤ x → C1 x = C0 x) (h3 : ∀ i c, 0 ≤ i → i ≤ 50 → 0 ≤ c → c ≤ 3 → ((ex = 0 ∧ 1 ≤ i) ∨ (i = ex ∧ ¬ ex = 0) → C1 (((n + 1) * 51 + i) * 4 + c) = 0) ∧ (¬ ((ex = 0 ∧ 1 ≤ i) ∨ (i = ex ∧ ¬ ex = 0)) → C1 (((n + 1) * 51 + i) * 4 + c) = C0 (((n + 1) * 51 + i) * 4 + c))) : zTT d K V M n mt (n - 1) C1 N := by
  refine ⟨fun p i c g1 g2 => by omega, fun p i c g1 g2 g3 g4 g5 g6 => ?_, fun i s g1 g2 g3 g4 => ⟨fun _ => ⟨fun q => ?_, fun q => ?_⟩, fun q => absurd hn.symm q⟩, fun p c g1 g2 g3 g4 => ?_⟩
  · rw [h2 _ (by omega)]; exact h1 _ (by omega) (by omega)
  · exact (h3 i s (by omega) g2 g3 g4).1 (by omega)
  · rw [(h3 i s (by omega) g2 g3 g4).2 (by omega)]; exact h1 _ (by omega) (by omega)
  · rw [h2 _ (by omega)]; exact h1 _ (by omega) (by omega)
/-- every line of the way is one -/
theorem zPth_fit {d : zDP} (hB : zDb d) (hn : 0 ≤ d.1) (h0 : (zVL d 0 (-1) 0).2.1 ≠ 0) (i : Nat) (hi : (i : Int) < (zVL d 0 (-1) 0).2.1) : d.2.2.1 (zPth d i).1 (zPth d (i + 1)).1 i := by
  have hb := zVL_in hB (i := 0) (by omega) (-1) 0
  obtain ⟨g1, g2, g3, g4, g5⟩ := zPth_ok hB hn h0 i hi
  have h49 : (0 : Int) ≤ i ∧ (i : Int) ≤ 49 := by unfold zNb at hb; omega
  exact (zVL_ok (d := d) (i := i) (a := (zPth d i).1) (c := (zPth d i).2) h49 (by omega) (by omega)).1
/-- what is told of the way -/
def zWay (n : Int) (K P LB SB HB W : Int → Int) (mo : Int) (d : zDP) (tc : Int) (E Q B U : Int → Int) : Prop := ∀ i : Nat, (i : Int) < tc → E i = (zPth d (i + 1)).1 ∧ Q i = lLk n K P LB W (zPth d i).1 (zPth d (i + 1)).1 i ∧ B i = lUg n K P LB SB HB W mo (zPth d i).1 (zPth d (i + 1)).1 i ∧ U i = (zPth d (i + 1)).2
theorem zWay_0 {n : Int} {K P LB SB HB W : Int → Int} {mo : Int} {d : zDP} {E Q B U : Int → Int} : zWay n K P LB SB HB W mo d 0 E Q B U := fun i h => by omega
theorem zWay_s {n : Int} {K P LB SB HB W : Int → Int} {mo : Int} {d : zDP} {E Q B U : Int → Int} {j : Nat} {e q b u : Int} (h : zWay n K P LB SB HB W mo d j E Q B U) (h1 : e = (zPth d (j + 1)).1) (h2 : q = lLk n K P LB W (zPth d j).1 (zPth d (j + 1)).1 j) (h3 : b = lUg n K P LB SB HB W mo (zPth d j).1 (zPth d (j + 1)).1 j) (h4 : u = (zPth d (j + 1)).2) : zWay n K P LB SB HB W mo d ((j : Int) + 1) (uZ E j e) (uZ Q j q) (uZ B j b) (uZ U j u) := by
  intro i hi
  by_cases e : i = j
  · subst e
    rw [uZ_s, uZ_s, uZ_s, uZ_s]
    exact ⟨h1, h2, h3, h4⟩
  · rw [uZ_n _ _ (by omega), uZ_n _ _ (by omega), uZ_n _ _ (by omega), uZ_n _ _ (by omega)]
    exact h i (by omega)
/-- a row of the table, from its last row on -/
def zTab (d : zDP) (K V M : Int → Int) (n mt : Int) (C N : Int → Int) : Prop := zT1 d K V M n mt (-2) C N
end
section
theorem zDm_t {n : Int} {K V M : Int → Int} {a b ug : Int} (h : (0 ≤ a ∧ a < n ∧ K a = 2 ∧ M a = 1) ∧ (0 ≤ b ∧ b < n ∧ K b = 2 ∧ M b = 1)) : (10 + ug) * (10 + ug) + zPen K V n b + 3000 = zDm n K V M a b ug := by unfold zDm; rw [if_pos h]
theorem zDm_f {n : Int} {K V M : Int → Int} {a b ug : Int} (h : ¬ ((0 ≤ a ∧ a < n ∧ K a = 2 ∧ M a = 1) ∧ (0 ≤ b ∧ b < n ∧ K b = 2 ∧ M b = 1))) : (10 + ug) * (10 + ug) + zPen K V n b = zDm n K V M a b ug := by unfold zDm; rw [if_neg h]; omega
theorem nf_RX3_53 : (RX3, 53, "BreakSearch$Items", "count", "I", "BreakSearch") ∈ zNF := by decide +kernel
theorem hd_X3_cellOf_s : yX3_cellOf.cls ≠ "java/lang/invoke/MethodHandle" ∧ yX3_cellOf.cls ≠ "java/lang/invoke/VarHandle" ∧ (parseMethodDescriptor yX3_cellOf.desc).map (fun d => d.parameters.length) = some 3 := by decide +kernel
theorem nf_RX3_126 : (RX3, 126, "BreakSearch$Line", "ugliness", "I", "BreakSearch") ∈ zNF := by decide +kernel
theorem nm_RX3_129 : (RX3, 129, yX0_penaltyDemerits, "BreakSearch") ∈ zNM := by decide +kernel
theorem hd_X0_penaltyDemerits_s : yX0_penaltyDemerits.cls ≠ "java/lang/invoke/MethodHandle" ∧ yX0_penaltyDemerits.cls ≠ "java/lang/invoke/VarHandle" ∧ (parseMethodDescriptor yX0_penaltyDemerits.desc).map (fun d => d.parameters.length) = some 1 := by decide +kernel
theorem nm_RX3_133 : (RX3, 133, yX0_isMarked, "BreakSearch") ∈ zNM := by decide +kernel
theorem hd_X0_isMarked_s : yX0_isMarked.cls ≠ "java/lang/invoke/MethodHandle" ∧ yX0_isMarked.cls ≠ "java/lang/invoke/VarHandle" ∧ (parseMethodDescriptor yX0_isMarked.desc).map (fun d => d.parameters.length) = some 1 := by decide +kernel
theorem nf_RX3_109 : (RX3, 109, "BreakSearch$Line", "looks", "I", "BreakSearch") ∈ zNF := by decide +kernel
theorem hd_X3_demeritsOfLine_v : yX3_demeritsOfLine.cls = RX3 ∧ yX3_demeritsOfLine.cls ≠ "java/lang/invoke/MethodHandle" ∧ yX3_demeritsOfLine.cls ≠ "java/lang/invoke/VarHandle" ∧ (parseMethodDescriptor yX3_demeritsOfLine.desc).map (fun d => d.parameters.length) = some 2 := by decide +kernel
theorem nm_RX3_118 : (RX3, 118, yX1_isUnlike, "BreakSearch") ∈ zNM := by decide +kernel
theorem hd_X1_isUnlike_s : yX1_isUnlike.cls ≠ "java/lang/invoke/MethodHandle" ∧ yX1_isUnlike.cls ≠ "java/lang/invoke/VarHandle" ∧ (parseMethodDescriptor yX1_isUnlike.desc).map (fun d => d.parameters.length) = some 2 := by decide +kernel
theorem nm_RX3_83 : (RX3, 83, yX2_toleranceIn, "BreakSearch") ∈ zNM := by decide +kernel
theorem hd_X2_toleranceIn_s : yX2_toleranceIn.cls ≠ "java/lang/invoke/MethodHandle" ∧ yX2_toleranceIn.cls ≠ "java/lang/invoke/VarHandle" ∧ (parseMethodDescriptor yX2_toleranceIn.desc).map (fun d => d.parameters.length) = some 1 := by decide +kernel
theorem nm_RX3_86 : (RX3, 86, yX2_moreStretchIn, "BreakSearch") ∈ zNM := by decide +kernel
theorem hd_X2_moreStretchIn_s : yX2_moreStretchIn.cls ≠ "java/lang/invoke/MethodHandle" ∧ yX2_moreStretchIn.cls ≠ "java/lang/invoke/VarHandle" ∧ (parseMethodDescriptor yX2_moreStretchIn.desc).map (fun d => d.parameters.length) = some 1 := by decide +kernel
theorem nm_RX3_103 : (RX3, 103, yX1_isToleratedBy, "BreakSearch") ∈ zNM := by decide +kernel
theorem hd_X1_isToleratedBy_s : yX1_isToleratedBy.cls ≠ "java/lang/invoke/MethodHandle" ∧ yX1_isToleratedBy.cls ≠ "java/lang/invoke/VarHandle" ∧ (parseMethodDescriptor yX1_isToleratedBy.desc).map (fun d => d.parameters.length) = some 1 := by decide +kernel
theorem hd_X3_enterLine_v : yX3_enterLine.cls = RX3 ∧ yX3_enterLine.cls ≠ "java/lang/invoke/MethodHandle" ∧ yX3_enterLine.cls ≠ "java/lang/invoke/VarHandle" ∧ (parseMethodDescriptor yX3_enterLine.desc).map (fun d => d.parameters.length) = some 3 := by decide +kernel
theorem nf_RX3_95 : (RX3, 95, "BreakSearch$Rules", "widths", "[I", "BreakSearch") ∈ zNF := by decide +kernel
theorem nm_RX3_99 : (RX3, 99, yX1_measure, "BreakSearch") ∈ zNM := by decide +kernel
theorem hd_X1_measure_s : yX1_measure.cls ≠ "java/lang/invoke/MethodHandle" ∧ yX1_measure.cls ≠ "java/lang/invoke/VarHandle" ∧ (parseMethodDescriptor yX1_measure.desc).map (fun d => d.parameters.length) = some 5 := by decide +kernel
theorem nm_RX3_72 : (RX3, 72, yX0_startBehind, "BreakSearch") ∈ zNM := by decide +kernel
theorem hd_X0_startBehind_s : yX0_startBehind.cls ≠ "java/lang/invoke/MethodHandle" ∧ yX0_startBehind.cls ≠ "java/lang/invoke/VarHandle" ∧ (parseMethodDescriptor yX0_startBehind.desc).map (fun d => d.parameters.length) = some 1 := by decide +kernel
theorem nm_RX3_80 : (RX3, 80, yX0_hasToBreakAt, "BreakSearch") ∈ zNM := by decide +kernel
theorem hd_X0_hasToBreakAt_s : yX0_hasToBreakAt.cls ≠ "java/lang/invoke/MethodHandle" ∧ yX0_hasToBreakAt.cls ≠ "java/lang/invoke/VarHandle" ∧ (parseMethodDescriptor yX0_hasToBreakAt.desc).map (fun d => d.parameters.length) = some 1 := by decide +kernel
theorem nm_RX3_58 : (RX3, 58, yX0_mayBreakAt, "BreakSearch") ∈ zNM := by decide +kernel
theorem hd_X0_mayBreakAt_s : yX0_mayBreakAt.cls ≠ "java/lang/invoke/MethodHandle" ∧ yX0_mayBreakAt.cls ≠ "java/lang/invoke/VarHandle" ∧ (parseMethodDescriptor yX0_mayBreakAt.desc).map (fun d => d.parameters.length) = some 2 := by decide +kernel
theorem hd_X3_tryLine_v : yX3_tryLine.cls = RX3 ∧ yX3_tryLine.cls ≠ "java/lang/invoke/MethodHandle" ∧ yX3_tryLine.cls ≠ "java/lang/invoke/VarHandle" ∧ (parseMethodDescriptor yX3_tryLine.desc).map (fun d => d.parameters.length) = some 3 := by decide +kernel
theorem hd_X3_closeAll_v : yX3_closeAll.cls = RX3 ∧ yX3_closeAll.cls ≠ "java/lang/invoke/MethodHandle" ∧ yX3_closeAll.cls ≠ "java/lang/invoke/VarHandle" ∧ (parseMethodDescriptor yX3_closeAll.desc).map (fun d => d.parameters.length) = some 0 := by decide +kernel
theorem hd_X3_openEnd_v : yX3_openEnd.cls = RX3 ∧ yX3_openEnd.cls ≠ "java/lang/invoke/MethodHandle" ∧ yX3_openEnd.cls ≠ "java/lang/invoke/VarHandle" ∧ (parseMethodDescriptor yX3_openEnd.desc).map (fun d => d.parameters.length) = some 1 := by decide +kernel
theorem nm_RX3_47 : (RX3, 47, yX2_breaksAtMarksIn, "BreakSearch") ∈ zNM := by decide +kernel
theorem hd_X2_breaksAtMarksIn_s : yX2_breaksAtMarksIn.cls ≠ "java/lang/invoke/MethodHandle" ∧ yX2_breaksAtMarksIn.cls ≠ "java/lang/invoke/VarHandle" ∧ (parseMethodDescriptor yX2_breaksAtMarksIn.desc).map (fun d => d.parameters.length) = some 1 := by decide +kernel
theorem hd_X3_tryLinesBehind_v : yX3_tryLinesBehind.cls = RX3 ∧ yX3_tryLinesBehind.cls ≠ "java/lang/invoke/MethodHandle" ∧ yX3_tryLinesBehind.cls ≠ "java/lang/invoke/VarHandle" ∧ (parseMethodDescriptor yX3_tryLinesBehind.desc).map (fun d => d.parameters.length) = some 2 := by decide +kernel
abbrev rm_J9_floorDiv_f86c9 : Room := { frames := 1, cells := 0, slots := 0, locals := 12 }
set_option maxHeartbeats 4000000 in
set_option maxRecDepth 100000 in
theorem c_J9_floorDiv_f86c9 (l : Launch) (g : zG) (a : Int) (h1 : -1000000000000 ≤ a ∧ a ≤ 1000000000000) : zMRl l yJ9_floorDiv_f86c9 wsJ9_floorDiv_f86c9 rm_J9_floorDiv_f86c9 g [] [.long (lZ (a)), .long (lZ (64))] (a / 64) := by
  refine z_beRl (cc := cJ9_floorDiv_f86c9) (nL := 6) (by decide +kernel) rfl (Nat.le_of_ble_eq_true rfl) ?_
  intro X hC hR
  have hC : zC X g cJ9_floorDiv_f86c9 RJ9 wsJ9_floorDiv_f86c9 rm_J9_floorDiv_f86c9 6 := hC
  show ZG X g (zE X) 0 0 [] [(0, .long (lZ (a))), (2, .long (lZ (64)))] 0 []
  refine z_lload_n hC 0 dJ9_floorDiv_f86c9_0 rfl rfl ?_
  refine z_lload_n hC 1 dJ9_floorDiv_f86c9_1 rfl rfl ?_
  refine z_ldiv hC dJ9_floorDiv_f86c9_2 (by omega) (by omega) ?_
  refine z_lstore hC (lv' := [(4, _), (0, _), (2, _)]) dJ9_floorDiv_f86c9_3 (by decide) rfl ?_
  refine z_lload_n hC 1 dJ9_floorDiv_f86c9_5 rfl rfl ?_
  refine z_lload_n hC 2 dJ9_floorDiv_f86c9_6 rfl rfl ?_
  refine z_lxor64 hC dJ9_floorDiv_f86c9_7 (by omega) (fun v_7 r_7 g_7 => ?_)
  refine z_lconst (z := 0) hC dJ9_floorDiv_f86c9_8 (by decide) ?_
  refine z_lc_ge hC 27 dJ9_floorDiv_f86c9_9 dJ9_floorDiv_f86c9_10 (by decide) (by omega) (by omega) (fun c_9 => ?_) (fun c_9 => ?_)
  ·
    refine z_lload hC 0 dJ9_floorDiv_f86c9_27 rfl ?_
    exact hR _ _ _ _ (by rw [tdiv64] at *; split at * <;> omega) dJ9_floorDiv_f86c9_29
  ·
    refine z_lload hC 0 dJ9_floorDiv_f86c9_13 rfl ?_
    refine z_lload_n hC 2 dJ9_floorDiv_f86c9_15 rfl rfl ?_
    refine z_lmul hC dJ9_floorDiv_f86c9_16 ?_
    refine z_lload_n hC 1 dJ9_floorDiv_f86c9_17 rfl rfl ?_
    refine z_lc_eq hC 27 dJ9_floorDiv_f86c9_18 dJ9_floorDiv_f86c9_19 (by decide) (by rw [tdiv64]; split <;> omega) (by omega) (fun c_18 => ?_) (fun c_18 => ?_)
    ·
      refine z_lload hC 0 dJ9_floorDiv_f86c9_27 rfl ?_
      exact hR _ _ _ _ (by rw [tdiv64] at *; split at * <;> omega) dJ9_floorDiv_f86c9_29
    ·
      refine z_lload hC 0 dJ9_floorDiv_f86c9_22 rfl ?_
      refine z_lconst (z := 1) hC dJ9_floorDiv_f86c9_24 (by decide) ?_
      refine z_lsub hC dJ9_floorDiv_f86c9_25 ?_
      exact hR _ _ _ _ (by rw [tdiv64] at *; split at * <;> omega) dJ9_floorDiv_f86c9_26
abbrev rm_X3_cellOf : Room := { frames := 1, cells := 0, slots := 0, locals := 12 }
set_option maxHeartbeats 4000000 in
set_option maxRecDepth 100000 in
theorem c_X3_cellOf (l : Launch) (g : zG) (p i c : Int)  : zMRi l yX3_cellOf wsX3_cellOf rm_X3_cellOf g [] [.int (iZ (p)), .int (iZ (i)), .int (iZ (c))] (((p + 1) * 51 + i) * 4 + c) := by
  refine z_beRi (cc := cX3_cellOf) (nL := 3) (ret := some .int) (plainFor_of_name (by decide +kernel)) rfl (Or.inl rfl) (Nat.le_of_ble_eq_true rfl) ?_
  intro X hC hR
  have hC : zC X g cX3_cellOf RX3 wsX3_cellOf rm_X3_cellOf 3 := hC
  show ZG X g (zE X) 0 0 [] [(0, .int (iZ (p))), (1, .int (iZ (i))), (2, .int (iZ (c)))] 0 []
  refine z_iload_n hC 0 dX3_cellOf_0 rfl rfl ?_
  refine z_iconst hC dX3_cellOf_1 ?_
  refine z_iadd hC dX3_cellOf_2 ?_
  refine z_bip hC dX3_cellOf_3 (by decide) ?_
  refine z_imul hC dX3_cellOf_5 ?_
  refine z_iload_n hC 1 dX3_cellOf_6 rfl rfl ?_
  refine z_iadd hC dX3_cellOf_7 ?_
  refine z_iconst hC dX3_cellOf_8 ?_
  refine z_imul hC dX3_cellOf_9 ?_
  refine z_iload_n hC 2 dX3_cellOf_10 rfl rfl ?_
  refine z_iadd hC dX3_cellOf_11 ?_
  exact hR _ _ _ _ rfl dX3_cellOf_12
set_option maxRecDepth 20000 in
theorem mX3_closeAll_f28 : Cond.fieldLink RX3 28 "BreakSearch$Search" "items" "LBreakSearch$Items;" ∈ wsX3_closeAll := by decide +kernel
set_option maxRecDepth 20000 in
theorem iX3_closeAll_3 : ∀ w ∈ u_ws RX3 TX3 6, w ∈ wsX3_closeAll := by decide +kernel
set_option maxRecDepth 20000 in
theorem iX3_closeAll_0 : ∀ w ∈ u_ws RX0 TX0 8, w ∈ wsX3_closeAll := by decide +kernel
set_option maxRecDepth 20000 in
theorem mX3_closeAll_f20 : Cond.fieldLink RX3 20 "BreakSearch$Search" "costs" "[J" ∈ wsX3_closeAll := by decide +kernel
set_option maxRecDepth 20000 in
theorem mX3_closeAll_k70 : Cond.constantLong RX3 70 (9223372036854775807) ∈ wsX3_closeAll := by decide +kernel
abbrev rm_X3_closeAll : Room := { frames := 2, cells := 0, slots := 0, locals := 34 }
set_option maxHeartbeats 4000000 in
set_option maxRecDepth 100000 in
theorem c_X3_closeAll (l : Launch) (g : zG) (hS aC aN : Nat) (ps : Int) (C N : Int → Int) (hL oR : Nat) (hI aK aV aP aM aL aS aH : Nat) (n : Int) (K V P M LB SB HB : Int → Int) (h1 : 0 ≤ n ∧ n ≤ 100) : zMWv (S := (Int → Int)) l yX3_closeAll wsX3_closeAll rm_X3_closeAll g [(hS, eo 3 [.ref hI, .ref oR, .ref hL, .ref aC, .ref aN, .int (iZ (ps))]), (aC, el g 20808 C), (aN, eb g 20808 N), (hI, eo 0 [.ref aK, .ref aV, .ref aP, .ref aM, .ref aL, .ref aS, .ref aH, .int (iZ (n))]), (aK, ei g 100 K), (aV, ei g 100 V), (aP, ei g 100 P), (aM, ez g 100 M), (aL, ei g 101 LB), (aS, ei g 101 SB), (aH, ei g 101 HB)] [.ref hS] (fun u => ∀ x, ((0 ≤ x ∧ x < (n + 2) * 204) → u x = 9223372036854775807) ∧ (¬ (0 ≤ x ∧ x < (n + 2) * 204) → u x = C x)) (fun u => [(hS, eo 3 [.ref hI, .ref oR, .ref hL, .ref aC, .ref aN, .int (iZ (ps))]), (aC, el g 20808 u), (aN, eb g 20808 N), (hI, eo 0 [.ref aK, .ref aV, .ref aP, .ref aM, .ref aL, .ref aS, .ref aH, .int (iZ (n))]), (aK, ei g 100 K), (aV, ei g 100 V), (aP, ei g 100 P), (aM, ez g 100 M), (aL, ei g 101 LB), (aS, ei g 101 SB), (aH, ei g 101 HB)]) 0 0 := by
  refine z_beWv (cc := cX3_closeAll) (nL := 3) (plainFor_of_name (by decide +kernel)) rfl (Nat.le_of_ble_eq_true rfl) ?_
  intro X A hC hN hR
  have hC : zC X g cX3_closeAll RX3 wsX3_closeAll rm_X3_closeAll 3 := hC
  show ZG X g (zD X A) 0 0 [(hS, eo 3 [.ref hI, .ref oR, .ref hL, .ref aC, .ref aN, .int (iZ (ps))]), (aC, el g 20808 C), (aN, eb g 20808 N), (hI, eo 0 [.ref aK, .ref aV, .ref aP, .ref aM, .ref aL, .ref aS, .ref aH, .int (iZ (n))]), (aK, ei g 100 K), (aV, ei g 100 V), (aP, ei g 100 P), (aM, ez g 100 M), (aL, ei g 101 LB), (aS, ei g 101 SB), (aH, ei g 101 HB)] [(0, .ref hS)] 0 []
  refine z_aload_n hC 0 dX3_closeAll_0 rfl rfl ?_
  refine z_get hC iX3_closeAll_3 0 0 rfl rfl (by decide) mX3_closeAll_f28 rfl dX3_closeAll_1 ?_
  refine z_getN hC iX3_closeAll_0 3 7 rfl rfl (by decide) nf_RX3_53 rfl dX3_closeAll_4 ?_
  refine z_iconst hC dX3_closeAll_7 ?_
  refine z_iadd hC dX3_closeAll_8 ?_
  refine z_iconst hC dX3_closeAll_9 ?_
  refine z_iconst hC dX3_closeAll_10 ?_
  refine z_sRi hC 3 (c_X3_cellOf (xl X) g _ _ _) gX3_closeAll_X3_cellOf rfl hd_X3_cellOf_s (by decide) ⟨rfl, rfl⟩ [] (by decide) rfl rfl rfl (Nat.le_of_ble_eq_true rfl) dX3_closeAll_11 (by decide) ?_
  refine z_istore_n hC (lv' := [(1, _), (0, _)]) dX3_closeAll_14 rfl (by decide) rfl ?_
  refine z_iconst hC dX3_closeAll_15 ?_
  refine z_istore_n hC (lv' := [(2, _), (1, _), (0, _)]) dX3_closeAll_16 rfl (by decide) rfl ?_
  have L17 : ∀ (fu : Nat) (j : Int) (C2 : Int → Int), (0 ≤ j ∧ j ≤ (n + 2) * 204) → (∀ x, ((0 ≤ x ∧ x < j) → C2 x = 9223372036854775807) ∧ (¬ (0 ≤ x ∧ x < j) → C2 x = C x)) → (20808 - j).toNat < fu → ZG X g (zD X A) 0 0 [(hS, eo 3 [.ref hI, .ref oR, .ref hL, .ref aC, .ref aN, .int (iZ (ps))]), (aC, el g 20808 C2), (aN, eb g 20808 N), (hI, eo 0 [.ref aK, .ref aV, .ref aP, .ref aM, .ref aL, .ref aS, .ref aH, .int (iZ (n))]), (aK, ei g 100 K), (aV, ei g 100 V), (aP, ei g 100 P), (aM, ez g 100 M), (aL, ei g 101 LB), (aS, ei g 101 SB), (aH, ei g 101 HB)] [(2, .int (iZ (j))), (1, .int (iZ ((((n + 1) + 1) * 51 + 0) * 4 + 0))), (0, .ref hS)] 17 [] := by
    intro fu
    induction fu with
    | zero => intro j C2; intros; omega
    | succ fu ih_17 =>
      intro j C2 hj hc hn
      refine z_iload_n hC 0 dX3_closeAll_17 rfl rfl ?_
      refine z_iload_n hC 1 dX3_closeAll_18 rfl rfl ?_
      refine z_icmp_ge hC 44 dX3_closeAll_19 (by decide) (by omega) (by omega) (fun c_19 => ?_) (fun c_19 => ?_)
      ·
        exact hR (C2) _ _ _ [0, 1, 2, 3, 4, 5, 6, 7, 8, 9, 10] (by intro x; have := hc x; exact ⟨fun q => this.1 (by omega), fun q => this.2 (by omega)⟩) (by decide) rfl dX3_closeAll_44
      ·
        refine z_iload_n hC 0 dX3_closeAll_22 rfl rfl ?_
        refine z_sip hC dX3_closeAll_23 (by decide) ?_
        refine z_icmp_ge hC 44 dX3_closeAll_26 (by decide) (by omega) (by omega) (fun c_26 => ?_) (fun c_26 => ?_)
        ·
          exact hR (C2) _ _ _ [0, 1, 2, 3, 4, 5, 6, 7, 8, 9, 10] (by intro x; have := hc x; exact ⟨fun q => this.1 (by omega), fun q => this.2 (by omega)⟩) (by decide) rfl dX3_closeAll_44
        ·
          refine z_aload_n hC 2 dX3_closeAll_29 rfl rfl ?_
          refine z_get hC iX3_closeAll_3 0 3 rfl rfl (by decide) mX3_closeAll_f20 rfl dX3_closeAll_30 ?_
          refine z_iload_n hC 0 dX3_closeAll_33 rfl rfl ?_
          refine z_ldc2 hC (9223372036854775807) mX3_closeAll_k70 (by decide) dX3_closeAll_34 ?_
          refine z_last hC 1 rfl (by omega) (by decide) dX3_closeAll_37 (ws' := [_, _, _, _, _, _, _, _, _, _, _]) rfl ?_
          refine z_iinc hC (lv' := [(2, _), (1, _), (0, _)]) 0 dX3_closeAll_38 rfl (by decide) rfl ?_
          refine z_goto (tgt := 17) hC dX3_closeAll_41 (by decide) ?_
          exact ih_17 (j + 1) (uZ C2 j 9223372036854775807) (by omega) (fun x => ⟨fun q => by (by_cases e : x = j); (rw [e, uZ_s]); (rw [uZ_n _ _ e]; exact (hc x).1 (by omega)), fun q => by rw [uZ_n _ _ (by omega)]; exact (hc x).2 (by omega)⟩) (by omega)
  exact L17 _ 0 C (by omega) (fun x => ⟨fun q => by omega, fun _ => rfl⟩) (Nat.lt_succ_self _)
set_option maxRecDepth 20000 in
theorem mX3_openEnd_f20 : Cond.fieldLink RX3 20 "BreakSearch$Search" "costs" "[J" ∈ wsX3_openEnd := by decide +kernel
set_option maxRecDepth 20000 in
theorem iX3_openEnd_3 : ∀ w ∈ u_ws RX3 TX3 6, w ∈ wsX3_openEnd := by decide +kernel
set_option maxRecDepth 20000 in
theorem mX3_openEnd_f28 : Cond.fieldLink RX3 28 "BreakSearch$Search" "items" "LBreakSearch$Items;" ∈ wsX3_openEnd := by decide +kernel
set_option maxRecDepth 20000 in
theorem iX3_openEnd_0 : ∀ w ∈ u_ws RX0 TX0 8, w ∈ wsX3_openEnd := by decide +kernel
abbrev rm_X3_openEnd : Room := { frames := 2, cells := 0, slots := 0, locals := 34 }
set_option maxHeartbeats 4000000 in
set_option maxRecDepth 100000 in
theorem c_X3_openEnd (l : Launch) (g : zG) (hS aC aN : Nat) (ps : Int) (C N : Int → Int) (hL oR : Nat) (hI aK aV aP aM aL aS aH : Nat) (n : Int) (K V P M LB SB HB : Int → Int) (ex : Int) (h1 : 0 ≤ n ∧ n ≤ 100) (h2 : 0 ≤ ex ∧ ex ≤ 50) : zMWv (S := (Int → Int)) l yX3_openEnd wsX3_openEnd rm_X3_openEnd g [(hS, eo 3 [.ref hI, .ref oR, .ref hL, .ref aC, .ref aN, .int (iZ (ps))]), (aC, el g 20808 C), (aN, eb g 20808 N), (hI, eo 0 [.ref aK, .ref aV, .ref aP, .ref aM, .ref aL, .ref aS, .ref aH, .int (iZ (n))]), (aK, ei g 100 K), (aV, ei g 100 V), (aP, ei g 100 P), (aM, ez g 100 M), (aL, ei g 101 LB), (aS, ei g 101 SB), (aH, ei g 101 HB)] [.ref hS, .int (iZ (ex))] (fun u => (∀ x, x < (n + 1) * 204 ∨ (n + 2) * 204 ≤ x → u x = C x) ∧ (∀ i c, 0 ≤ i → i ≤ 50 → 0 ≤ c → c ≤ 3 → ((ex = 0 ∧ 1 ≤ i) ∨ (i = ex ∧ ¬ ex = 0) → u (((n + 1) * 51 + i) * 4 + c) = 0) ∧ (¬ ((ex = 0 ∧ 1 ≤ i) ∨ (i = ex ∧ ¬ ex = 0)) → u (((n + 1) * 51 + i) * 4 + c) = C (((n + 1) * 51 + i) * 4 + c)))) (fun u => [(hS, eo 3 [.ref hI, .ref oR, .ref hL, .ref aC, .ref aN, .int (iZ (ps))]), (aC, el g 20808 u), (aN, eb g 20808 N), (hI, eo 0 [.ref aK, .ref aV, .ref aP, .ref aM, .ref aL, .ref aS, .ref aH, .int (iZ (n))]), (aK, ei g 100 K), (aV, ei g 100 V), (aP, ei g 100 P), (aM, ez g 100 M), (aL, ei g 101 LB), (aS, ei g 101 SB), (aH, ei g 101 HB)]) 0 0 := by
  refine z_beWv (cc := cX3_openEnd) (nL := 6) (plainFor_of_name (by decide +kernel)) rfl (Nat.le_of_ble_eq_true rfl) ?_
  intro X A hC hN hR
  have hC : zC X g cX3_openEnd RX3 wsX3_openEnd rm_X3_openEnd 6 := hC
  show ZG X g (zD X A) 0 0 [(hS, eo 3 [.ref hI, .ref oR, .ref hL, .ref aC, .ref aN, .int (iZ (ps))]), (aC, el g 20808 C), (aN, eb g 20808 N), (hI, eo 0 [.ref aK, .ref aV, .ref aP, .ref aM, .ref aL, .ref aS, .ref aH, .int (iZ (n))]), (aK, ei g 100 K), (aV, ei g 100 V), (aP, ei g 100 P), (aM, ez g 100 M), (aL, ei g 101 LB), (aS, ei g 101 SB), (aH, ei g 101 HB)] [(0, .ref hS), (1, .int (iZ (ex)))] 0 []
  have J9 : ∀ (le : Int), (ex = 0 ∧ le = 1) ∨ (¬ ex = 0 ∧ le = ex) → ZG X g (zD X A) 0 0 [(hS, eo 3 [.ref hI, .ref oR, .ref hL, .ref aC, .ref aN, .int (iZ (ps))]), (aC, el g 20808 C), (aN, eb g 20808 N), (hI, eo 0 [.ref aK, .ref aV, .ref aP, .ref aM, .ref aL, .ref aS, .ref aH, .int (iZ (n))]), (aK, ei g 100 K), (aV, ei g 100 V), (aP, ei g 100 P), (aM, ez g 100 M), (aL, ei g 101 LB), (aS, ei g 101 SB), (aH, ei g 101 HB)] [(0, .ref hS), (1, .int (iZ (ex)))] 9 [.int (iZ (le))] := by
    intro le hle
    refine z_istore_n hC (lv' := [(2, _), (0, _), (1, _)]) dX3_openEnd_9 rfl (by decide) rfl ?_
    have J20 : ∀ (mx : Int), (ex = 0 ∧ mx = 50) ∨ (¬ ex = 0 ∧ mx = ex) → ZG X g (zD X A) 0 0 [(hS, eo 3 [.ref hI, .ref oR, .ref hL, .ref aC, .ref aN, .int (iZ (ps))]), (aC, el g 20808 C), (aN, eb g 20808 N), (hI, eo 0 [.ref aK, .ref aV, .ref aP, .ref aM, .ref aL, .ref aS, .ref aH, .int (iZ (n))]), (aK, ei g 100 K), (aV, ei g 100 V), (aP, ei g 100 P), (aM, ez g 100 M), (aL, ei g 101 LB), (aS, ei g 101 SB), (aH, ei g 101 HB)] [(2, .int (iZ (le))), (0, .ref hS), (1, .int (iZ (ex)))] 20 [.int (iZ (mx))] := by
      intro mx hmx
      refine z_istore_n hC (lv' := [(3, _), (2, _), (0, _), (1, _)]) dX3_openEnd_20 rfl (by decide) rfl ?_
      refine z_iload_n hC 1 dX3_openEnd_21 rfl rfl ?_
      refine z_istore hC (lv' := [(4, _), (3, _), (2, _), (0, _), (1, _)]) dX3_openEnd_22 (by decide) rfl ?_
      have L24 : ∀ (fu : Nat) (i : Int) (C2 : Int → Int), (le ≤ i ∧ i ≤ mx + 1) → (∀ x, ((((n + 1) * 51 + le) * 4 ≤ x ∧ x < ((n + 1) * 51 + i) * 4) → C2 x = 0) ∧ (¬ (((n + 1) * 51 + le) * 4 ≤ x ∧ x < ((n + 1) * 51 + i) * 4) → C2 x = C x)) → (51 - i).toNat < fu → ZG X g (zD X A) 0 0 [(hS, eo 3 [.ref hI, .ref oR, .ref hL, .ref aC, .ref aN, .int (iZ (ps))]), (aC, el g 20808 C2), (aN, eb g 20808 N), (hI, eo 0 [.ref aK, .ref aV, .ref aP, .ref aM, .ref aL, .ref aS, .ref aH, .int (iZ (n))]), (aK, ei g 100 K), (aV, ei g 100 V), (aP, ei g 100 P), (aM, ez g 100 M), (aL, ei g 101 LB), (aS, ei g 101 SB), (aH, ei g 101 HB)] [(4, .int (iZ (i))), (3, .int (iZ (mx))), (2, .int (iZ (le))), (0, .ref hS), (1, .int (iZ (ex)))] 24 [] := by
        intro fu
        induction fu with
        | zero => intro i C2; intros; omega
        | succ fu ih_24 =>
          intro i C2 hi hc hn
          refine z_iload hC 0 dX3_openEnd_24 rfl ?_
          refine z_iload_n hC 1 dX3_openEnd_26 rfl rfl ?_
          refine z_icmp_gt hC 71 dX3_openEnd_27 (by decide) (by omega) (by omega) (fun c_27 => ?_) (fun c_27 => ?_)
          ·
            exact hR (C2) _ _ _ [0, 1, 2, 3, 4, 5, 6, 7, 8, 9, 10] (by refine ⟨fun x hx => (hc x).2 (by omega), fun i2 c2 g1 g2 g3 g4 => ⟨fun q => (hc _).1 (by omega), fun q => (hc _).2 (by omega)⟩⟩) (by decide) rfl dX3_openEnd_71
          ·
            refine z_iconst hC dX3_openEnd_30 ?_
            refine z_istore hC (lv' := [(5, _), (4, _), (3, _), (2, _), (0, _), (1, _)]) dX3_openEnd_31 (by decide) rfl ?_
            have L33 : ∀ (fu : Nat) (c : Int) (C2 : Int → Int), (0 ≤ c ∧ c ≤ 4) → (∀ x, ((((n + 1) * 51 + le) * 4 ≤ x ∧ x < ((n + 1) * 51 + i) * 4 + c) → C2 x = 0) ∧ (¬ (((n + 1) * 51 + le) * 4 ≤ x ∧ x < ((n + 1) * 51 + i) * 4 + c) → C2 x = C x)) → (4 - c).toNat < fu → ZG X g (zD X A) 0 0 [(hS, eo 3 [.ref hI, .ref oR, .ref hL, .ref aC, .ref aN, .int (iZ (ps))]), (aC, el g 20808 C2), (aN, eb g 20808 N), (hI, eo 0 [.ref aK, .ref aV, .ref aP, .ref aM, .ref aL, .ref aS, .ref aH, .int (iZ (n))]), (aK, ei g 100 K), (aV, ei g 100 V), (aP, ei g 100 P), (aM, ez g 100 M), (aL, ei g 101 LB), (aS, ei g 101 SB), (aH, ei g 101 HB)] [(5, .int (iZ (c))), (4, .int (iZ (i))), (3, .int (iZ (mx))), (2, .int (iZ (le))), (0, .ref hS), (1, .int (iZ (ex)))] 33 [] := by
              intro fu
              induction fu with
              | zero => intro c C2; intros; omega
              | succ fu ih_33 =>
                intro c C2 hc1 hc2 hn
                refine z_iload hC 0 dX3_openEnd_33 rfl ?_
                refine z_iconst hC dX3_openEnd_35 ?_
                refine z_icmp_ge hC 65 dX3_openEnd_36 (by decide) (by omega) (by omega) (fun c_36 => ?_) (fun c_36 => ?_)
                ·
                  refine z_iinc hC (lv' := [(4, _), (5, _), (3, _), (2, _), (0, _), (1, _)]) 1 dX3_openEnd_65 rfl (by decide) rfl ?_
                  refine z_goto (tgt := 24) hC dX3_openEnd_68 (by decide) ?_
                  refine z_lv (lv' := [(4, _), (3, _), (2, _), (0, _), (1, _)]) [0, 2, 3, 4, 5] rfl ?_
                  exact ih_24 (i + 1) _ (by omega) (fun x => ⟨fun q => (hc2 x).1 (by omega), fun q => (hc2 x).2 (by omega)⟩) (by omega)
                ·
                  refine z_aload_n hC 4 dX3_openEnd_39 rfl rfl ?_
                  refine z_get hC iX3_openEnd_3 0 3 rfl rfl (by decide) mX3_openEnd_f20 rfl dX3_openEnd_40 ?_
                  refine z_aload_n hC 4 dX3_openEnd_43 rfl rfl ?_
                  refine z_get hC iX3_openEnd_3 0 0 rfl rfl (by decide) mX3_openEnd_f28 rfl dX3_openEnd_44 ?_
                  refine z_getN hC iX3_openEnd_0 3 7 rfl rfl (by decide) nf_RX3_53 rfl dX3_openEnd_47 ?_
                  refine z_iload hC 1 dX3_openEnd_50 rfl ?_
                  refine z_iload hC 0 dX3_openEnd_52 rfl ?_
                  refine z_sRi hC 3 (c_X3_cellOf (xl X) g _ _ _) gX3_openEnd_X3_cellOf rfl hd_X3_cellOf_s (by decide) ⟨rfl, rfl⟩ [] (by decide) rfl rfl rfl (Nat.le_of_ble_eq_true rfl) dX3_openEnd_54 (by decide) ?_
                  refine z_lconst (z := 0) hC dX3_openEnd_57 (by decide) ?_
                  refine z_last hC 1 rfl (by omega) (by decide) dX3_openEnd_58 (ws' := [_, _, _, _, _, _, _, _, _, _, _]) rfl ?_
                  refine z_iinc hC (lv' := [(5, _), (4, _), (3, _), (2, _), (0, _), (1, _)]) 0 dX3_openEnd_59 rfl (by decide) rfl ?_
                  refine z_goto (tgt := 33) hC dX3_openEnd_62 (by decide) ?_
                  exact ih_33 (c + 1) _ (by omega) (fun x => ⟨fun q => by (by_cases e : x = ((n + 1) * 51 + i) * 4 + c); (rw [e, uZ_s]); (rw [uZ_n _ _ e]; exact (hc2 x).1 (by omega)), fun q => by rw [uZ_n _ _ (by omega)]; exact (hc2 x).2 (by omega)⟩) (by omega)
            exact L33 _ 0 _ (by omega) (fun x => ⟨fun q => (hc x).1 (by omega), fun q => (hc x).2 (by omega)⟩) (Nat.lt_succ_self _)
      exact L24 _ le C (by omega) (fun x => ⟨fun q => by omega, fun _ => rfl⟩) (Nat.lt_succ_self _)
    refine z_iload_n hC 2 dX3_openEnd_10 rfl rfl ?_
    refine z_if_ne hC 19 dX3_openEnd_11 (by decide) (by omega) (fun c_11 => ?_) (fun c_11 => ?_)
    ·
      refine z_iload_n hC 2 dX3_openEnd_19 rfl rfl ?_
      exact J20 _ (by omega)
    ·
      refine z_bip hC dX3_openEnd_14 (by decide) ?_
      refine z_goto (tgt := 20) hC dX3_openEnd_16 (by decide) ?_
      exact J20 _ (by omega)
  refine z_iload_n hC 1 dX3_openEnd_0 rfl rfl ?_
  refine z_if_ne hC 8 dX3_openEnd_1 (by decide) (by omega) (fun c_1 => ?_) (fun c_1 => ?_)
  ·
    refine z_iload_n hC 1 dX3_openEnd_8 rfl rfl ?_
    exact J9 _ (by omega)
  ·
    refine z_iconst hC dX3_openEnd_4 ?_
    refine z_goto (tgt := 9) hC dX3_openEnd_5 (by decide) ?_
    exact J9 _ (by omega)
set_option maxRecDepth 20000 in
theorem mX3_demeritsOfLine_k124 : Cond.constantLong RX3 124 (10) ∈ wsX3_demeritsOfLine := by decide +kernel
set_option maxRecDepth 20000 in
theorem mX3_demeritsOfLine_f16 : Cond.fieldLink RX3 16 "BreakSearch$Search" "line" "LBreakSearch$Line;" ∈ wsX3_demeritsOfLine := by decide +kernel
set_option maxRecDepth 20000 in
theorem iX3_demeritsOfLine_3 : ∀ w ∈ u_ws RX3 TX3 6, w ∈ wsX3_demeritsOfLine := by decide +kernel
set_option maxRecDepth 20000 in
theorem iX3_demeritsOfLine_1 : ∀ w ∈ u_ws RX1 TX1 4, w ∈ wsX3_demeritsOfLine := by decide +kernel
set_option maxRecDepth 20000 in
theorem mX3_demeritsOfLine_f28 : Cond.fieldLink RX3 28 "BreakSearch$Search" "items" "LBreakSearch$Items;" ∈ wsX3_demeritsOfLine := by decide +kernel
set_option maxRecDepth 20000 in
theorem mX3_demeritsOfLine_iniRX0 : Cond.initialized RX0 ∈ wsX3_demeritsOfLine := by decide +kernel
set_option maxRecDepth 20000 in
theorem mX3_demeritsOfLine_im_X0_penaltyDemerits : Cond.instanceMethod yX0_penaltyDemerits ∈ wsX3_demeritsOfLine := by decide +kernel
set_option maxRecDepth 20000 in
theorem mX3_demeritsOfLine_se_X0_penaltyDemerits : Cond.selects RX0 yX0_penaltyDemerits yX0_penaltyDemerits ∈ wsX3_demeritsOfLine := by decide +kernel
set_option maxRecDepth 20000 in
theorem mX3_demeritsOfLine_im_X0_isMarked : Cond.instanceMethod yX0_isMarked ∈ wsX3_demeritsOfLine := by decide +kernel
set_option maxRecDepth 20000 in
theorem mX3_demeritsOfLine_se_X0_isMarked : Cond.selects RX0 yX0_isMarked yX0_isMarked ∈ wsX3_demeritsOfLine := by decide +kernel
set_option maxRecDepth 20000 in
theorem mX3_demeritsOfLine_k136 : Cond.constantLong RX3 136 (3000) ∈ wsX3_demeritsOfLine := by decide +kernel
abbrev rm_X3_demeritsOfLine : Room := { frames := 3, cells := 0, slots := 0, locals := 57 }
set_option maxHeartbeats 4000000 in
set_option maxRecDepth 100000 in
theorem c_X3_demeritsOfLine (l : Launch) (g : zG) (hS aC aN : Nat) (ps : Int) (C N : Int → Int) (hI aK aV aP aM aL aS aH : Nat) (n : Int) (K V P M LB SB HB : Int → Int) (hL : Nat) (k ug lo sd : Int) (oR : Nat) (a b : Int) (h1 : zIok n K V P M) (h2 : -1 ≤ a ∧ a < b ∧ b ≤ n) (h3 : 0 ≤ ug ∧ ug ≤ 10000) : zMRl l yX3_demeritsOfLine wsX3_demeritsOfLine rm_X3_demeritsOfLine g [(hS, eo 3 [.ref hI, .ref oR, .ref hL, .ref aC, .ref aN, .int (iZ (ps))]), (aC, el g 20808 C), (aN, eb g 20808 N), (hI, eo 0 [.ref aK, .ref aV, .ref aP, .ref aM, .ref aL, .ref aS, .ref aH, .int (iZ (n))]), (aK, ei g 100 K), (aV, ei g 100 V), (aP, ei g 100 P), (aM, ez g 100 M), (aL, ei g 101 LB), (aS, ei g 101 SB), (aH, ei g 101 HB), (hL, eo 1 [.int (iZ (k)), .int (iZ (ug)), .int (iZ (lo)), .int (iZ (sd))])] [.ref hS, .int (iZ (a)), .int (iZ (b))] (zDm n K V M a b ug) := by
  refine z_beRl (cc := cX3_demeritsOfLine) (nL := 7) (plainFor_of_name (by decide +kernel)) rfl (Nat.le_of_ble_eq_true rfl) ?_
  intro X hC hR
  have hC : zC X g cX3_demeritsOfLine RX3 wsX3_demeritsOfLine rm_X3_demeritsOfLine 7 := hC
  show ZG X g (zE X) 0 0 [(hS, eo 3 [.ref hI, .ref oR, .ref hL, .ref aC, .ref aN, .int (iZ (ps))]), (aC, el g 20808 C), (aN, eb g 20808 N), (hI, eo 0 [.ref aK, .ref aV, .ref aP, .ref aM, .ref aL, .ref aS, .ref aH, .int (iZ (n))]), (aK, ei g 100 K), (aV, ei g 100 V), (aP, ei g 100 P), (aM, ez g 100 M), (aL, ei g 101 LB), (aS, ei g 101 SB), (aH, ei g 101 HB), (hL, eo 1 [.int (iZ (k)), .int (iZ (ug)), .int (iZ (lo)), .int (iZ (sd))])] [(0, .ref hS), (1, .int (iZ (a))), (2, .int (iZ (b)))] 0 []
  have hn := h1.1
  refine z_ldc2 hC (10) mX3_demeritsOfLine_k124 (by decide) dX3_demeritsOfLine_0 ?_
  refine z_aload_n hC 0 dX3_demeritsOfLine_3 rfl rfl ?_
  refine z_get hC iX3_demeritsOfLine_3 0 2 rfl rfl (by decide) mX3_demeritsOfLine_f16 rfl dX3_demeritsOfLine_4 ?_
  refine z_getN hC iX3_demeritsOfLine_1 11 1 rfl rfl (by decide) nf_RX3_126 rfl dX3_demeritsOfLine_7 ?_
  refine z_i2l hC dX3_demeritsOfLine_10 (by omega) ?_
  refine z_ladd hC dX3_demeritsOfLine_11 ?_
  refine z_lstore_n hC (lv' := [(3, _), (0, _), (1, _), (2, _)]) dX3_demeritsOfLine_12 rfl (by decide) rfl ?_
  refine z_lload_n hC 0 dX3_demeritsOfLine_13 rfl rfl ?_
  refine z_lload_n hC 0 dX3_demeritsOfLine_14 rfl rfl ?_
  refine z_lmul hC dX3_demeritsOfLine_15 ?_
  refine z_aload_n hC 1 dX3_demeritsOfLine_16 rfl rfl ?_
  refine z_get hC iX3_demeritsOfLine_3 0 0 rfl rfl (by decide) mX3_demeritsOfLine_f28 rfl dX3_demeritsOfLine_17 ?_
  refine z_iload_n hC 3 dX3_demeritsOfLine_20 rfl rfl ?_
  refine z_vnRl hC 1 (c_X0_penaltyDemerits (xl X) g _ _ _ _ _ _ _ _ _ _ _ _ _ _ _ _ _ h1 (by omega)) gX3_demeritsOfLine_X0_penaltyDemerits_n129 nm_RX3_129 mX3_demeritsOfLine_iniRX0 mX3_demeritsOfLine_im_X0_penaltyDemerits mX3_demeritsOfLine_se_X0_penaltyDemerits rfl hd_X0_penaltyDemerits_s (by decide) ⟨rfl, rfl⟩ [3, 4, 5, 6, 7, 8, 9, 10] (by decide) rfl 3 0 rfl rfl rfl rfl rfl (Nat.le_of_ble_eq_true rfl) dX3_demeritsOfLine_21 (by decide) ?_
  refine z_ladd hC dX3_demeritsOfLine_24 ?_
  refine z_lstore hC (lv' := [(5, _), (3, _), (0, _), (1, _), (2, _)]) dX3_demeritsOfLine_25 (by decide) rfl ?_
  refine z_aload_n hC 2 dX3_demeritsOfLine_27 rfl rfl ?_
  refine z_get hC iX3_demeritsOfLine_3 0 0 rfl rfl (by decide) mX3_demeritsOfLine_f28 rfl dX3_demeritsOfLine_28 ?_
  refine z_iload_n hC 3 dX3_demeritsOfLine_31 rfl rfl ?_
  refine z_vnRi hC 1 (c_X0_isMarked (xl X) g _ _ _ _ _ _ _ _ _ _ _ _ _ _ _ _ _ (by omega) (by omega)) gX3_demeritsOfLine_X0_isMarked_n133 nm_RX3_133 mX3_demeritsOfLine_iniRX0 mX3_demeritsOfLine_im_X0_isMarked mX3_demeritsOfLine_se_X0_isMarked rfl hd_X0_isMarked_s (by decide) ⟨rfl, rfl⟩ [3, 4, 5, 6, 7, 8, 9, 10] (by decide) rfl 3 0 rfl rfl rfl rfl rfl (Nat.le_of_ble_eq_true rfl) dX3_demeritsOfLine_32 (by decide) ?_
  refine z_if_eq hC 58 dX3_demeritsOfLine_35 (by decide) (b2_r _) (fun c_35 => ?_) (fun c_35 => ?_)
  ·
    have c_35 := b2_f c_35
    refine z_lload hC 0 dX3_demeritsOfLine_58 rfl ?_
    exact hR _ _ _ _ (by first | exact zDm_t (by omega) | exact zDm_f (by omega)) dX3_demeritsOfLine_60
  ·
    have c_35 := b2_t c_35
    refine z_aload_n hC 2 dX3_demeritsOfLine_38 rfl rfl ?_
    refine z_get hC iX3_demeritsOfLine_3 0 0 rfl rfl (by decide) mX3_demeritsOfLine_f28 rfl dX3_demeritsOfLine_39 ?_
    refine z_iload_n hC 4 dX3_demeritsOfLine_42 rfl rfl ?_
    refine z_vnRi hC 1 (c_X0_isMarked (xl X) g _ _ _ _ _ _ _ _ _ _ _ _ _ _ _ _ _ (by omega) (by omega)) gX3_demeritsOfLine_X0_isMarked_n133 nm_RX3_133 mX3_demeritsOfLine_iniRX0 mX3_demeritsOfLine_im_X0_isMarked mX3_demeritsOfLine_se_X0_isMarked rfl hd_X0_isMarked_s (by decide) ⟨rfl, rfl⟩ [3, 4, 5, 6, 7, 8, 9, 10] (by decide) rfl 3 0 rfl rfl rfl rfl rfl (Nat.le_of_ble_eq_true rfl) dX3_demeritsOfLine_43 (by decide) ?_
    refine z_if_eq hC 58 dX3_demeritsOfLine_46 (by decide) (b2_r _) (fun c_46 => ?_) (fun c_46 => ?_)
    ·
      have c_46 := b2_f c_46
      refine z_lload hC 0 dX3_demeritsOfLine_58 rfl ?_
      exact hR _ _ _ _ (by first | exact zDm_t (by omega) | exact zDm_f (by omega)) dX3_demeritsOfLine_60
    ·
      have c_46 := b2_t c_46
      refine z_lload hC 0 dX3_demeritsOfLine_49 rfl ?_
      refine z_ldc2 hC (3000) mX3_demeritsOfLine_k136 (by decide) dX3_demeritsOfLine_51 ?_
      refine z_ladd hC dX3_demeritsOfLine_54 ?_
      refine z_goto (tgt := 60) hC dX3_demeritsOfLine_55 (by decide) ?_
      exact hR _ _ _ _ (by first | exact zDm_t (by omega) | exact zDm_f (by omega)) dX3_demeritsOfLine_60
set_option maxRecDepth 20000 in
theorem mX3_enterLine_f20 : Cond.fieldLink RX3 20 "BreakSearch$Search" "costs" "[J" ∈ wsX3_enterLine := by decide +kernel
set_option maxRecDepth 20000 in
theorem iX3_enterLine_3 : ∀ w ∈ u_ws RX3 TX3 6, w ∈ wsX3_enterLine := by decide +kernel
set_option maxRecDepth 20000 in
theorem mX3_enterLine_f16 : Cond.fieldLink RX3 16 "BreakSearch$Search" "line" "LBreakSearch$Line;" ∈ wsX3_enterLine := by decide +kernel
set_option maxRecDepth 20000 in
theorem iX3_enterLine_1 : ∀ w ∈ u_ws RX1 TX1 4, w ∈ wsX3_enterLine := by decide +kernel
set_option maxRecDepth 20000 in
theorem mX3_enterLine_k70 : Cond.constantLong RX3 70 (9223372036854775807) ∈ wsX3_enterLine := by decide +kernel
set_option maxRecDepth 20000 in
theorem mX3_enterLine_k112 : Cond.constantLong RX3 112 (64) ∈ wsX3_enterLine := by decide +kernel
set_option maxRecDepth 20000 in
theorem mX3_enterLine_f24 : Cond.fieldLink RX3 24 "BreakSearch$Search" "nextBreaks" "[B" ∈ wsX3_enterLine := by decide +kernel
set_option maxRecDepth 20000 in
theorem mX3_enterLine_iniRX1 : Cond.initialized RX1 ∈ wsX3_enterLine := by decide +kernel
set_option maxRecDepth 20000 in
theorem mX3_enterLine_sa_X1_isUnlike : Cond.static yX1_isUnlike ∈ wsX3_enterLine := by decide +kernel
set_option maxRecDepth 20000 in
theorem mX3_enterLine_k122 : Cond.constantLong RX3 122 (128000) ∈ wsX3_enterLine := by decide +kernel
abbrev rm_X3_enterLine : Room := { frames := 4, cells := 0, slots := 0, locals := 83 }
set_option maxHeartbeats 4000000 in
set_option maxRecDepth 100000 in
theorem c_X3_enterLine (l : Launch) (g : zG) (hS aC aN : Nat) (ps : Int) (C N : Int → Int) (hI aK aV aP aM aL aS aH : Nat) (n : Int) (K V P M LB SB HB : Int → Int) (hL : Nat) (k ug lo sd : Int) (oR : Nat) (a b i : Int) (h1 : zIok n K V P M) (h2 : -1 ≤ a ∧ a < b ∧ b ≤ n) (h3 : 0 ≤ i ∧ i ≤ 49) (h4 : (0 ≤ ug ∧ ug ≤ 10000) ∧ (0 ≤ lo ∧ lo ≤ 3)) (h5 : C (((b + 1) * 51 + (i + 1)) * 4 + lo) = 9223372036854775807 ∨ (-1000000000000 ≤ C (((b + 1) * 51 + (i + 1)) * 4 + lo) ∧ C (((b + 1) * 51 + (i + 1)) * 4 + lo) ≤ 1000000000000)) (h6 : ∀ c, 0 ≤ c → c ≤ 3 → C (((a + 1) * 51 + i) * 4 + c) = 9223372036854775807 ∨ (-1000000000000 ≤ C (((a + 1) * 51 + i) * 4 + c) ∧ C (((a + 1) * 51 + i) * 4 + c) ≤ 1000000000000)) : zMWv (S := (Int → Int) × (Int → Int)) l yX3_enterLine wsX3_enterLine rm_X3_enterLine g [(hS, eo 3 [.ref hI, .ref oR, .ref hL, .ref aC, .ref aN, .int (iZ (ps))]), (aC, el g 20808 C), (aN, eb g 20808 N), (hI, eo 0 [.ref aK, .ref aV, .ref aP, .ref aM, .ref aL, .ref aS, .ref aH, .int (iZ (n))]), (aK, ei g 100 K), (aV, ei g 100 V), (aP, ei g 100 P), (aM, ez g 100 M), (aL, ei g 101 LB), (aS, ei g 101 SB), (aH, ei g 101 HB), (hL, eo 1 [.int (iZ (k)), .int (iZ (ug)), .int (iZ (lo)), .int (iZ (sd))])] [.ref hS, .int (iZ (a)), .int (iZ (b)), .int (iZ (i))] (fun u => (C (((b + 1) * 51 + (i + 1)) * 4 + lo) = 9223372036854775807 → u.1 = C ∧ u.2 = N) ∧ (¬ C (((b + 1) * 51 + (i + 1)) * 4 + lo) = 9223372036854775807 → zEnt 4 a b (((a + 1) * 51 + i) * 4) (C (((b + 1) * 51 + (i + 1)) * 4 + lo)) (zDm n K V M a b ug) lo C N u.1 u.2)) (fun u => [(hS, eo 3 [.ref hI, .ref oR, .ref hL, .ref aC, .ref aN, .int (iZ (ps))]), (aC, el g 20808 u.1), (aN, eb g 20808 u.2), (hI, eo 0 [.ref aK, .ref aV, .ref aP, .ref aM, .ref aL, .ref aS, .ref aH, .int (iZ (n))]), (aK, ei g 100 K), (aV, ei g 100 V), (aP, ei g 100 P), (aM, ez g 100 M), (aL, ei g 101 LB), (aS, ei g 101 SB), (aH, ei g 101 HB), (hL, eo 1 [.int (iZ (k)), .int (iZ (ug)), .int (iZ (lo)), .int (iZ (sd))])]) 0 0 := by
  refine z_beWv (cc := cX3_enterLine) (nL := 13) (plainFor_of_name (by decide +kernel)) rfl (Nat.le_of_ble_eq_true rfl) ?_
  intro X A hC hN hR
  have hC : zC X g cX3_enterLine RX3 wsX3_enterLine rm_X3_enterLine 13 := hC
  show ZG X g (zD X A) 0 0 [(hS, eo 3 [.ref hI, .ref oR, .ref hL, .ref aC, .ref aN, .int (iZ (ps))]), (aC, el g 20808 C), (aN, eb g 20808 N), (hI, eo 0 [.ref aK, .ref aV, .ref aP, .ref aM, .ref aL, .ref aS, .ref aH, .int (iZ (n))]), (aK, ei g 100 K), (aV, ei g 100 V), (aP, ei g 100 P), (aM, ez g 100 M), (aL, ei g 101 LB), (aS, ei g 101 SB), (aH, ei g 101 HB), (hL, eo 1 [.int (iZ (k)), .int (iZ (ug)), .int (iZ (lo)), .int (iZ (sd))])] [(0, .ref hS), (1, .int (iZ (a))), (2, .int (iZ (b))), (3, .int (iZ (i)))] 0 []
  have hn := h1.1
  have hE := zDm_in (a := a) (b := b) (ug := ug) h1 (by omega) h4.1
  refine z_aload_n hC 0 dX3_enterLine_0 rfl rfl ?_
  refine z_get hC iX3_enterLine_3 0 3 rfl rfl (by decide) mX3_enterLine_f20 rfl dX3_enterLine_1 ?_
  refine z_iload_n hC 2 dX3_enterLine_4 rfl rfl ?_
  refine z_iload_n hC 3 dX3_enterLine_5 rfl rfl ?_
  refine z_iconst hC dX3_enterLine_6 ?_
  refine z_iadd hC dX3_enterLine_7 ?_
  refine z_aload_n hC 0 dX3_enterLine_8 rfl rfl ?_
  refine z_get hC iX3_enterLine_3 0 2 rfl rfl (by decide) mX3_enterLine_f16 rfl dX3_enterLine_9 ?_
  refine z_getN hC iX3_enterLine_1 11 2 rfl rfl (by decide) nf_RX3_109 rfl dX3_enterLine_12 ?_
  refine z_sRi hC 3 (c_X3_cellOf (xl X) g _ _ _) gX3_enterLine_X3_cellOf rfl hd_X3_cellOf_s (by decide) ⟨rfl, rfl⟩ [] (by decide) rfl rfl rfl (Nat.le_of_ble_eq_true rfl) dX3_enterLine_15 (by decide) ?_
  refine z_lald hC 1 rfl (by omega) (by decide) dX3_enterLine_18 ?_
  refine z_lstore hC (lv' := [(4, _), (0, _), (1, _), (2, _), (3, _)]) dX3_enterLine_19 (by decide) rfl ?_
  refine z_lload hC 0 dX3_enterLine_21 rfl ?_
  refine z_ldc2 hC (9223372036854775807) mX3_enterLine_k70 (by decide) dX3_enterLine_23 ?_
  refine z_lc_ne hC 31 dX3_enterLine_26 dX3_enterLine_27 (by decide) (by omega) (by omega) (fun c_26 => ?_) (fun c_26 => ?_)
  ·
    refine z_lload hC 0 dX3_enterLine_31 rfl ?_
    refine z_lconst (z := 1) hC dX3_enterLine_33 (by decide) ?_
    refine z_ladd hC dX3_enterLine_34 ?_
    refine z_ldc2 hC (64) mX3_enterLine_k112 (by decide) dX3_enterLine_35 ?_
    refine z_aload_n hC 1 dX3_enterLine_38 rfl rfl ?_
    refine z_iload_n hC 2 dX3_enterLine_39 rfl rfl ?_
    refine z_iload_n hC 3 dX3_enterLine_40 rfl rfl ?_
    refine z_vRl hC 2 (c_X3_demeritsOfLine (xl X) g _ _ _ _ _ _ _ _ _ _ _ _ _ _ _ _ _ _ _ _ _ _ _ _ _ _ _ _ _ _ h1 (by omega) (by omega)) gX3_enterLine_X3_demeritsOfLine rfl hd_X3_demeritsOfLine_v (by decide) ⟨rfl, rfl⟩ [0, 1, 2, 3, 4, 5, 6, 7, 8, 9, 10, 11] (by decide) rfl 0 3 rfl rfl rfl rfl rfl (Nat.le_of_ble_eq_true rfl) dX3_enterLine_41 (by decide) ?_
    refine z_lmul hC dX3_enterLine_44 ?_
    refine z_ladd hC dX3_enterLine_45 ?_
    refine z_nml (fun v_46 e_46 => ?_)
    refine z_lstore hC (lv' := [(6, _), (4, _), (0, _), (1, _), (2, _), (3, _)]) dX3_enterLine_46 (by decide) rfl ?_
    refine z_iconst hC dX3_enterLine_48 ?_
    refine z_istore hC (lv' := [(8, _), (6, _), (4, _), (0, _), (1, _), (2, _), (3, _)]) dX3_enterLine_49 (by decide) rfl ?_
    have L51 : ∀ (fu : Nat) (u : Int) (C2 N2 : Int → Int), (0 ≤ u ∧ u ≤ 4) → (zEnt u a b (((a + 1) * 51 + i) * 4) (C (((b + 1) * 51 + (i + 1)) * 4 + lo)) (zDm n K V M a b ug) lo C N C2 N2) → (4 - u).toNat < fu → ZG X g (zD X A) 0 0 [(hS, eo 3 [.ref hI, .ref oR, .ref hL, .ref aC, .ref aN, .int (iZ (ps))]), (aC, el g 20808 C2), (aN, eb g 20808 N2), (hI, eo 0 [.ref aK, .ref aV, .ref aP, .ref aM, .ref aL, .ref aS, .ref aH, .int (iZ (n))]), (aK, ei g 100 K), (aV, ei g 100 V), (aP, ei g 100 P), (aM, ez g 100 M), (aL, ei g 101 LB), (aS, ei g 101 SB), (aH, ei g 101 HB), (hL, eo 1 [.int (iZ (k)), .int (iZ (ug)), .int (iZ (lo)), .int (iZ (sd))])] [(8, .int (iZ (u))), (6, .long (lZ (v_46))), (4, .long (lZ (C (((b + 1) * 51 + (i + 1)) * 4 + lo)))), (0, .ref hS), (1, .int (iZ (a))), (2, .int (iZ (b))), (3, .int (iZ (i)))] 51 [] := by
      intro fu
      induction fu with
      | zero => intro u C2 N2; intros; omega
      | succ fu ih_51 =>
        intro u C2 N2 hu hz hn
        refine z_iload hC 0 dX3_enterLine_51 rfl ?_
        refine z_iconst hC dX3_enterLine_53 ?_
        refine z_icmp_ge hC 148 dX3_enterLine_54 (by decide) (by omega) (by omega) (fun c_54 => ?_) (fun c_54 => ?_)
        ·
          exact hR (C2, N2) _ _ _ [0, 1, 2, 3, 4, 5, 6, 7, 8, 9, 10, 11] (by first | (refine ⟨fun _ => ⟨rfl, rfl⟩, fun q => absurd c_26 q⟩) | (refine ⟨fun q => absurd q c_26, fun _ => ?_⟩; rw [show u = 4 by omega] at hz; exact hz)) (by decide) rfl dX3_enterLine_148
        ·
          refine z_iload_n hC 4 dX3_enterLine_57 rfl rfl ?_
          refine z_iconst hC dX3_enterLine_58 ?_
          refine z_icmp_eq hC 81 dX3_enterLine_59 (by decide) (by omega) (by omega) (fun c_59 => ?_) (fun c_59 => ?_)
          ·
            refine z_iconst hC dX3_enterLine_81 ?_
            refine z_istore hC (lv' := [(9, _), (8, _), (6, _), (4, _), (0, _), (1, _), (2, _), (3, _)]) dX3_enterLine_82 (by decide) rfl ?_
            refine z_iload hC 0 dX3_enterLine_84 rfl ?_
            refine z_if_eq hC 98 dX3_enterLine_86 (by decide) (by omega) (fun c_86 => ?_) (fun c_86 => ?_)
            ·
              refine z_lload hC 2 dX3_enterLine_98 rfl ?_
              refine z_nml (fun v_100 e_100 => ?_)
              have hw : v_100 = zWh a u lo (C (((b + 1) * 51 + (i + 1)) * 4 + lo)) (zDm n K V M a b ug) := by rw [e_100]; (try rw [e_46]); first | exact zWh_t (by omega) (by omega) | exact zWh_f (by omega)
              have hcu := (hz.1 (((a + 1) * 51 + i) * 4 + u) (by omega)).1
              have h6u := h6 u (by omega) (by omega)
              rw [← hcu] at h6u
              refine z_lstore hC (lv' := [(10, _), (9, _), (8, _), (6, _), (4, _), (0, _), (1, _), (2, _), (3, _)]) dX3_enterLine_100 (by decide) rfl ?_
              refine z_iload_n hC 6 dX3_enterLine_102 rfl rfl ?_
              refine z_iload_n hC 8 dX3_enterLine_103 rfl rfl ?_
              refine z_iload hC 2 dX3_enterLine_104 rfl ?_
              refine z_sRi hC 3 (c_X3_cellOf (xl X) g _ _ _) gX3_enterLine_X3_cellOf rfl hd_X3_cellOf_s (by decide) ⟨rfl, rfl⟩ [] (by decide) rfl rfl rfl (Nat.le_of_ble_eq_true rfl) dX3_enterLine_106 (by decide) ?_
              refine z_istore hC (lv' := [(12, _), (10, _), (9, _), (8, _), (6, _), (4, _), (0, _), (1, _), (2, _), (3, _)]) dX3_enterLine_109 (by decide) rfl ?_
              refine z_lload hC 1 dX3_enterLine_111 rfl ?_
              refine z_aload_n hC 6 dX3_enterLine_113 rfl rfl ?_
              refine z_get hC iX3_enterLine_3 0 3 rfl rfl (by decide) mX3_enterLine_f20 rfl dX3_enterLine_114 ?_
              refine z_iload hC 0 dX3_enterLine_117 rfl ?_
              refine z_lald hC 1 rfl (by omega) (by decide) dX3_enterLine_119 ?_
              refine z_lc_ge hC 142 dX3_enterLine_120 dX3_enterLine_121 (by decide) (by omega) (by omega) (fun c_120 => ?_) (fun c_120 => ?_)
              ·
                refine z_iinc hC (lv' := [(8, _), (12, _), (10, _), (9, _), (6, _), (4, _), (0, _), (1, _), (2, _), (3, _)]) 3 dX3_enterLine_142 rfl (by decide) rfl ?_
                refine z_goto (tgt := 51) hC dX3_enterLine_145 (by decide) ?_
                refine z_lv (lv' := [(8, _), (6, _), (4, _), (0, _), (1, _), (2, _), (3, _)]) [0, 4, 5, 6, 7, 8, 9] rfl ?_
                exact ih_51 (u + 1) C2 N2 (by omega) (zEnt_x (by omega) hz hw (by rw [← hcu]; omega)) (by omega)
              ·
                refine z_aload_n hC 6 dX3_enterLine_124 rfl rfl ?_
                refine z_get hC iX3_enterLine_3 0 3 rfl rfl (by decide) mX3_enterLine_f20 rfl dX3_enterLine_125 ?_
                refine z_iload hC 0 dX3_enterLine_128 rfl ?_
                refine z_lload hC 1 dX3_enterLine_130 rfl ?_
                refine z_last hC 1 rfl (by omega) (by decide) dX3_enterLine_132 (ws' := [_, _, _, _, _, _, _, _, _, _, _, _]) rfl ?_
                refine z_aload_n hC 6 dX3_enterLine_133 rfl rfl ?_
                refine z_get hC iX3_enterLine_3 0 4 rfl rfl (by decide) mX3_enterLine_f24 rfl dX3_enterLine_134 ?_
                refine z_iload hC 0 dX3_enterLine_137 rfl ?_
                refine z_iload_n hC 8 dX3_enterLine_139 rfl rfl ?_
                refine z_i2b hC dX3_enterLine_140 (by omega) ?_
                refine z_bast hC 2 rfl (by omega) (by decide) (by omega) dX3_enterLine_141 (ws' := [_, _, _, _, _, _, _, _, _, _, _, _]) rfl ?_
                refine z_iinc hC (lv' := [(8, _), (12, _), (10, _), (9, _), (6, _), (4, _), (0, _), (1, _), (2, _), (3, _)]) 3 dX3_enterLine_142 rfl (by decide) rfl ?_
                refine z_goto (tgt := 51) hC dX3_enterLine_145 (by decide) ?_
                refine z_lv (lv' := [(8, _), (6, _), (4, _), (0, _), (1, _), (2, _), (3, _)]) [0, 4, 5, 6, 7, 8, 9] rfl ?_
                exact ih_51 (u + 1) _ _ (by omega) (zEnt_y (by omega) hz hw (by rw [← hcu]; omega)) (by omega)
            ·
              exfalso; omega
          ·
            refine z_iload hC 0 dX3_enterLine_62 rfl ?_
            refine z_aload_n hC 3 dX3_enterLine_64 rfl rfl ?_
            refine z_get hC iX3_enterLine_3 0 2 rfl rfl (by decide) mX3_enterLine_f16 rfl dX3_enterLine_65 ?_
            refine z_getN hC iX3_enterLine_1 11 2 rfl rfl (by decide) nf_RX3_109 rfl dX3_enterLine_68 ?_
            refine z_snRi hC 2 (c_X1_isUnlike (xl X) g _ _ (by omega) (by omega)) gX3_enterLine_X1_isUnlike_n118 nm_RX3_118 mX3_enterLine_iniRX1 mX3_enterLine_sa_X1_isUnlike rfl hd_X1_isUnlike_s (by decide) ⟨rfl, rfl⟩ [] (by decide) rfl rfl rfl (Nat.le_of_ble_eq_true rfl) dX3_enterLine_71 (by decide) ?_
            refine z_if_eq hC 81 dX3_enterLine_74 (by decide) (b2_r _) (fun c_74 => ?_) (fun c_74 => ?_)
            ·
              have c_74 := b2_f c_74
              refine z_iconst hC dX3_enterLine_81 ?_
              refine z_istore hC (lv' := [(9, _), (8, _), (6, _), (4, _), (0, _), (1, _), (2, _), (3, _)]) dX3_enterLine_82 (by decide) rfl ?_
              refine z_iload hC 0 dX3_enterLine_84 rfl ?_
              refine z_if_eq hC 98 dX3_enterLine_86 (by decide) (by omega) (fun c_86 => ?_) (fun c_86 => ?_)
              ·
                refine z_lload hC 2 dX3_enterLine_98 rfl ?_
                refine z_nml (fun v_100 e_100 => ?_)
                have hw : v_100 = zWh a u lo (C (((b + 1) * 51 + (i + 1)) * 4 + lo)) (zDm n K V M a b ug) := by rw [e_100]; (try rw [e_46]); first | exact zWh_t (by omega) (by omega) | exact zWh_f (by omega)
                have hcu := (hz.1 (((a + 1) * 51 + i) * 4 + u) (by omega)).1
                have h6u := h6 u (by omega) (by omega)
                rw [← hcu] at h6u
                refine z_lstore hC (lv' := [(10, _), (9, _), (8, _), (6, _), (4, _), (0, _), (1, _), (2, _), (3, _)]) dX3_enterLine_100 (by decide) rfl ?_
                refine z_iload_n hC 6 dX3_enterLine_102 rfl rfl ?_
                refine z_iload_n hC 8 dX3_enterLine_103 rfl rfl ?_
                refine z_iload hC 2 dX3_enterLine_104 rfl ?_
                refine z_sRi hC 3 (c_X3_cellOf (xl X) g _ _ _) gX3_enterLine_X3_cellOf rfl hd_X3_cellOf_s (by decide) ⟨rfl, rfl⟩ [] (by decide) rfl rfl rfl (Nat.le_of_ble_eq_true rfl) dX3_enterLine_106 (by decide) ?_
                refine z_istore hC (lv' := [(12, _), (10, _), (9, _), (8, _), (6, _), (4, _), (0, _), (1, _), (2, _), (3, _)]) dX3_enterLine_109 (by decide) rfl ?_
                refine z_lload hC 1 dX3_enterLine_111 rfl ?_
                refine z_aload_n hC 6 dX3_enterLine_113 rfl rfl ?_
                refine z_get hC iX3_enterLine_3 0 3 rfl rfl (by decide) mX3_enterLine_f20 rfl dX3_enterLine_114 ?_
                refine z_iload hC 0 dX3_enterLine_117 rfl ?_
                refine z_lald hC 1 rfl (by omega) (by decide) dX3_enterLine_119 ?_
                refine z_lc_ge hC 142 dX3_enterLine_120 dX3_enterLine_121 (by decide) (by omega) (by omega) (fun c_120 => ?_) (fun c_120 => ?_)
                ·
                  refine z_iinc hC (lv' := [(8, _), (12, _), (10, _), (9, _), (6, _), (4, _), (0, _), (1, _), (2, _), (3, _)]) 3 dX3_enterLine_142 rfl (by decide) rfl ?_
                  refine z_goto (tgt := 51) hC dX3_enterLine_145 (by decide) ?_
                  refine z_lv (lv' := [(8, _), (6, _), (4, _), (0, _), (1, _), (2, _), (3, _)]) [0, 4, 5, 6, 7, 8, 9] rfl ?_
                  exact ih_51 (u + 1) C2 N2 (by omega) (zEnt_x (by omega) hz hw (by rw [← hcu]; omega)) (by omega)
                ·
                  refine z_aload_n hC 6 dX3_enterLine_124 rfl rfl ?_
                  refine z_get hC iX3_enterLine_3 0 3 rfl rfl (by decide) mX3_enterLine_f20 rfl dX3_enterLine_125 ?_
                  refine z_iload hC 0 dX3_enterLine_128 rfl ?_
                  refine z_lload hC 1 dX3_enterLine_130 rfl ?_
                  refine z_last hC 1 rfl (by omega) (by decide) dX3_enterLine_132 (ws' := [_, _, _, _, _, _, _, _, _, _, _, _]) rfl ?_
                  refine z_aload_n hC 6 dX3_enterLine_133 rfl rfl ?_
                  refine z_get hC iX3_enterLine_3 0 4 rfl rfl (by decide) mX3_enterLine_f24 rfl dX3_enterLine_134 ?_
                  refine z_iload hC 0 dX3_enterLine_137 rfl ?_
                  refine z_iload_n hC 8 dX3_enterLine_139 rfl rfl ?_
                  refine z_i2b hC dX3_enterLine_140 (by omega) ?_
                  refine z_bast hC 2 rfl (by omega) (by decide) (by omega) dX3_enterLine_141 (ws' := [_, _, _, _, _, _, _, _, _, _, _, _]) rfl ?_
                  refine z_iinc hC (lv' := [(8, _), (12, _), (10, _), (9, _), (6, _), (4, _), (0, _), (1, _), (2, _), (3, _)]) 3 dX3_enterLine_142 rfl (by decide) rfl ?_
                  refine z_goto (tgt := 51) hC dX3_enterLine_145 (by decide) ?_
                  refine z_lv (lv' := [(8, _), (6, _), (4, _), (0, _), (1, _), (2, _), (3, _)]) [0, 4, 5, 6, 7, 8, 9] rfl ?_
                  exact ih_51 (u + 1) _ _ (by omega) (zEnt_y (by omega) hz hw (by rw [← hcu]; omega)) (by omega)
              ·
                exfalso; omega
            ·
              have c_74 := b2_t c_74
              refine z_iconst hC dX3_enterLine_77 ?_
              refine z_goto (tgt := 82) hC dX3_enterLine_78 (by decide) ?_
              refine z_istore hC (lv' := [(9, _), (8, _), (6, _), (4, _), (0, _), (1, _), (2, _), (3, _)]) dX3_enterLine_82 (by decide) rfl ?_
              refine z_iload hC 0 dX3_enterLine_84 rfl ?_
              refine z_if_eq hC 98 dX3_enterLine_86 (by decide) (by omega) (fun c_86 => ?_) (fun c_86 => ?_)
              ·
                exfalso; omega
              ·
                refine z_lload hC 2 dX3_enterLine_89 rfl ?_
                refine z_ldc2 hC (128000) mX3_enterLine_k122 (by decide) dX3_enterLine_91 ?_
                refine z_ladd hC dX3_enterLine_94 ?_
                refine z_goto (tgt := 100) hC dX3_enterLine_95 (by decide) ?_
                refine z_nml (fun v_100 e_100 => ?_)
                have hw : v_100 = zWh a u lo (C (((b + 1) * 51 + (i + 1)) * 4 + lo)) (zDm n K V M a b ug) := by rw [e_100]; (try rw [e_46]); first | exact zWh_t (by omega) (by omega) | exact zWh_f (by omega)
                have hcu := (hz.1 (((a + 1) * 51 + i) * 4 + u) (by omega)).1
                have h6u := h6 u (by omega) (by omega)
                rw [← hcu] at h6u
                refine z_lstore hC (lv' := [(10, _), (9, _), (8, _), (6, _), (4, _), (0, _), (1, _), (2, _), (3, _)]) dX3_enterLine_100 (by decide) rfl ?_
                refine z_iload_n hC 6 dX3_enterLine_102 rfl rfl ?_
                refine z_iload_n hC 8 dX3_enterLine_103 rfl rfl ?_
                refine z_iload hC 2 dX3_enterLine_104 rfl ?_
                refine z_sRi hC 3 (c_X3_cellOf (xl X) g _ _ _) gX3_enterLine_X3_cellOf rfl hd_X3_cellOf_s (by decide) ⟨rfl, rfl⟩ [] (by decide) rfl rfl rfl (Nat.le_of_ble_eq_true rfl) dX3_enterLine_106 (by decide) ?_
                refine z_istore hC (lv' := [(12, _), (10, _), (9, _), (8, _), (6, _), (4, _), (0, _), (1, _), (2, _), (3, _)]) dX3_enterLine_109 (by decide) rfl ?_
                refine z_lload hC 1 dX3_enterLine_111 rfl ?_
                refine z_aload_n hC 6 dX3_enterLine_113 rfl rfl ?_
                refine z_get hC iX3_enterLine_3 0 3 rfl rfl (by decide) mX3_enterLine_f20 rfl dX3_enterLine_114 ?_
                refine z_iload hC 0 dX3_enterLine_117 rfl ?_
                refine z_lald hC 1 rfl (by omega) (by decide) dX3_enterLine_119 ?_
                refine z_lc_ge hC 142 dX3_enterLine_120 dX3_enterLine_121 (by decide) (by omega) (by omega) (fun c_120 => ?_) (fun c_120 => ?_)
                ·
                  refine z_iinc hC (lv' := [(8, _), (12, _), (10, _), (9, _), (6, _), (4, _), (0, _), (1, _), (2, _), (3, _)]) 3 dX3_enterLine_142 rfl (by decide) rfl ?_
                  refine z_goto (tgt := 51) hC dX3_enterLine_145 (by decide) ?_
                  refine z_lv (lv' := [(8, _), (6, _), (4, _), (0, _), (1, _), (2, _), (3, _)]) [0, 4, 5, 6, 7, 8, 9] rfl ?_
                  exact ih_51 (u + 1) C2 N2 (by omega) (zEnt_x (by omega) hz hw (by rw [← hcu]; omega)) (by omega)
                ·
                  refine z_aload_n hC 6 dX3_enterLine_124 rfl rfl ?_
                  refine z_get hC iX3_enterLine_3 0 3 rfl rfl (by decide) mX3_enterLine_f20 rfl dX3_enterLine_125 ?_
                  refine z_iload hC 0 dX3_enterLine_128 rfl ?_
                  refine z_lload hC 1 dX3_enterLine_130 rfl ?_
                  refine z_last hC 1 rfl (by omega) (by decide) dX3_enterLine_132 (ws' := [_, _, _, _, _, _, _, _, _, _, _, _]) rfl ?_
                  refine z_aload_n hC 6 dX3_enterLine_133 rfl rfl ?_
                  refine z_get hC iX3_enterLine_3 0 4 rfl rfl (by decide) mX3_enterLine_f24 rfl dX3_enterLine_134 ?_
                  refine z_iload hC 0 dX3_enterLine_137 rfl ?_
                  refine z_iload_n hC 8 dX3_enterLine_139 rfl rfl ?_
                  refine z_i2b hC dX3_enterLine_140 (by omega) ?_
                  refine z_bast hC 2 rfl (by omega) (by decide) (by omega) dX3_enterLine_141 (ws' := [_, _, _, _, _, _, _, _, _, _, _, _]) rfl ?_
                  refine z_iinc hC (lv' := [(8, _), (12, _), (10, _), (9, _), (6, _), (4, _), (0, _), (1, _), (2, _), (3, _)]) 3 dX3_enterLine_142 rfl (by decide) rfl ?_
                  refine z_goto (tgt := 51) hC dX3_enterLine_145 (by decide) ?_
                  refine z_lv (lv' := [(8, _), (6, _), (4, _), (0, _), (1, _), (2, _), (3, _)]) [0, 4, 5, 6, 7, 8, 9] rfl ?_
                  exact ih_51 (u + 1) _ _ (by omega) (zEnt_y (by omega) hz hw (by rw [← hcu]; omega)) (by omega)
    exact L51 _ 0 C N (by omega) zEnt_0 (Nat.lt_succ_self _)
  ·
    exact hR (C, N) _ _ _ [0, 1, 2, 3, 4, 5, 6, 7, 8, 9, 10, 11] (by first | (refine ⟨fun _ => ⟨rfl, rfl⟩, fun q => absurd c_26 q⟩) | (refine ⟨fun q => absurd q c_26, fun _ => ?_⟩; rw [show u = 4 by omega] at hz; exact hz)) (by decide) rfl dX3_enterLine_30
set_option maxRecDepth 20000 in
theorem mX3_tryLine_f32 : Cond.fieldLink RX3 32 "BreakSearch$Search" "rules" "LBreakSearch$Rules;" ∈ wsX3_tryLine := by decide +kernel
set_option maxRecDepth 20000 in
theorem iX3_tryLine_3 : ∀ w ∈ u_ws RX3 TX3 6, w ∈ wsX3_tryLine := by decide +kernel
set_option maxRecDepth 20000 in
theorem mX3_tryLine_f36 : Cond.fieldLink RX3 36 "BreakSearch$Search" "pass" "I" ∈ wsX3_tryLine := by decide +kernel
set_option maxRecDepth 20000 in
theorem mX3_tryLine_iniRX2 : Cond.initialized RX2 ∈ wsX3_tryLine := by decide +kernel
set_option maxRecDepth 20000 in
theorem mX3_tryLine_im_X2_toleranceIn : Cond.instanceMethod yX2_toleranceIn ∈ wsX3_tryLine := by decide +kernel
set_option maxRecDepth 20000 in
theorem mX3_tryLine_se_X2_toleranceIn : Cond.selects RX2 yX2_toleranceIn yX2_toleranceIn ∈ wsX3_tryLine := by decide +kernel
set_option maxRecDepth 20000 in
theorem mX3_tryLine_im_X2_moreStretchIn : Cond.instanceMethod yX2_moreStretchIn ∈ wsX3_tryLine := by decide +kernel
set_option maxRecDepth 20000 in
theorem mX3_tryLine_se_X2_moreStretchIn : Cond.selects RX2 yX2_moreStretchIn yX2_moreStretchIn ∈ wsX3_tryLine := by decide +kernel
set_option maxRecDepth 20000 in
theorem mX3_tryLine_l89 : Cond.methodLink RX3 89 Lib.Math.min.name ∈ wsX3_tryLine := by decide +kernel
set_option maxRecDepth 20000 in
theorem mX3_tryLine_ls89 : Cond.static Lib.Math.min.name ∈ wsX3_tryLine := by decide +kernel
set_option maxRecDepth 20000 in
theorem mX3_tryLine_li : Cond.initialized "java/lang/Math" ∈ wsX3_tryLine := by decide +kernel
set_option maxRecDepth 20000 in
theorem mX3_tryLine_lc89 : Cond.code Lib.Math.min.name Lib.Math.min.code 2 (some .int) ∈ wsX3_tryLine := by decide +kernel
set_option maxRecDepth 20000 in
theorem mX3_tryLine_f16 : Cond.fieldLink RX3 16 "BreakSearch$Search" "line" "LBreakSearch$Line;" ∈ wsX3_tryLine := by decide +kernel
set_option maxRecDepth 20000 in
theorem mX3_tryLine_iniRX1 : Cond.initialized RX1 ∈ wsX3_tryLine := by decide +kernel
set_option maxRecDepth 20000 in
theorem mX3_tryLine_im_X1_isToleratedBy : Cond.instanceMethod yX1_isToleratedBy ∈ wsX3_tryLine := by decide +kernel
set_option maxRecDepth 20000 in
theorem mX3_tryLine_se_X1_isToleratedBy : Cond.selects RX1 yX1_isToleratedBy yX1_isToleratedBy ∈ wsX3_tryLine := by decide +kernel
set_option maxRecDepth 20000 in
theorem mX3_tryLine_f28 : Cond.fieldLink RX3 28 "BreakSearch$Search" "items" "LBreakSearch$Items;" ∈ wsX3_tryLine := by decide +kernel
set_option maxRecDepth 20000 in
theorem iX3_tryLine_2 : ∀ w ∈ u_ws RX2 TX2 2, w ∈ wsX3_tryLine := by decide +kernel
set_option maxRecDepth 20000 in
theorem mX3_tryLine_im_X1_measure : Cond.instanceMethod yX1_measure ∈ wsX3_tryLine := by decide +kernel
set_option maxRecDepth 20000 in
theorem mX3_tryLine_se_X1_measure : Cond.selects RX1 yX1_measure yX1_measure ∈ wsX3_tryLine := by decide +kernel
abbrev rm_X3_tryLine : Room := { frames := 5, cells := 0, slots := 0, locals := 115 }
set_option maxHeartbeats 4000000 in
set_option maxRecDepth 100000 in
theorem c_X3_tryLine (l : Launch) (g : zG) (hS aC aN : Nat) (ps : Int) (C N : Int → Int) (hI aK aV aP aM aL aS aH : Nat) (n : Int) (K V P M LB SB HB : Int → Int) (oR aW aT : Nat) (W T : Int → Int) (hL : Nat) (k ug lo sd : Int) (mt ex : Int) (d : zDP) (a s b : Int) (h1 : zEnv n K V P M LB SB HB W T ps mt ex d) (h2 : -1 ≤ a ∧ a < b ∧ b ≤ n) (h3 : s = zSt K n a) (h4 : zMay K V M n b mt ∧ ∀ m, a < m → m < b → ¬ zMust K V n m) (h5 : zRow d a (zLe a) (min (a + 1) 49 + 1) (b - a - 1).toNat C N) (h6 : ∀ i s, zLe a ≤ i → i < (min (a + 1) 49 + 1) → 0 ≤ s → s ≤ 3 → zRst d C b (i + 1) s) : zMWv (S := (Int → Int) × (Int → Int) × (Int) × (Int) × (Int) × (Int)) l yX3_tryLine wsX3_tryLine rm_X3_tryLine g [(hS, eo 3 [.ref hI, .ref oR, .ref hL, .ref aC, .ref aN, .int (iZ (ps))]), (aC, el g 20808 C), (aN, eb g 20808 N), (hI, eo 0 [.ref aK, .ref aV, .ref aP, .ref aM, .ref aL, .ref aS, .ref aH, .int (iZ (n))]), (aK, ei g 100 K), (aV, ei g 100 V), (aP, ei g 100 P), (aM, ez g 100 M), (aL, ei g 101 LB), (aS, ei g 101 SB), (aH, ei g 101 HB), (oR, eo 2 [.ref aW, .ref aT]), (aW, ei g 50 W), (aT, ei g 3 T), (hL, eo 1 [.int (iZ (k)), .int (iZ (ug)), .int (iZ (lo)), .int (iZ (sd))])] [.ref hS, .int (iZ (a)), .int (iZ (s)), .int (iZ (b))] (fun u => zFr a (zLe a) (min (a + 1) 49 + 1) C N u.1 u.2.1 ∧ zRow d a (zLe a) (min (a + 1) 49 + 1) (b - a).toNat u.1 u.2.1) (fun u => [(hS, eo 3 [.ref hI, .ref oR, .ref hL, .ref aC, .ref aN, .int (iZ (ps))]), (aC, el g 20808 u.1), (aN, eb g 20808 u.2.1), (hI, eo 0 [.ref aK, .ref aV, .ref aP, .ref aM, .ref aL, .ref aS, .ref aH, .int (iZ (n))]), (aK, ei g 100 K), (aV, ei g 100 V), (aP, ei g 100 P), (aM, ez g 100 M), (aL, ei g 101 LB), (aS, ei g 101 SB), (aH, ei g 101 HB), (oR, eo 2 [.ref aW, .ref aT]), (aW, ei g 50 W), (aT, ei g 3 T), (hL, eo 1 [.int (iZ (u.2.2.1)), .int (iZ (u.2.2.2.1)), .int (iZ (u.2.2.2.2.1)), .int (iZ (u.2.2.2.2.2))])]) 0 0 := by
  refine z_beWv (cc := cX3_tryLine) (nL := 9) (plainFor_of_name (by decide +kernel)) rfl (Nat.le_of_ble_eq_true rfl) ?_
  intro X A hC hN hR
  have hC : zC X g cX3_tryLine RX3 wsX3_tryLine rm_X3_tryLine 9 := hC
  show ZG X g (zD X A) 0 0 [(hS, eo 3 [.ref hI, .ref oR, .ref hL, .ref aC, .ref aN, .int (iZ (ps))]), (aC, el g 20808 C), (aN, eb g 20808 N), (hI, eo 0 [.ref aK, .ref aV, .ref aP, .ref aM, .ref aL, .ref aS, .ref aH, .int (iZ (n))]), (aK, ei g 100 K), (aV, ei g 100 V), (aP, ei g 100 P), (aM, ez g 100 M), (aL, ei g 101 LB), (aS, ei g 101 SB), (aH, ei g 101 HB), (oR, eo 2 [.ref aW, .ref aT]), (aW, ei g 50 W), (aT, ei g 3 T), (hL, eo 1 [.int (iZ (k)), .int (iZ (ug)), .int (iZ (lo)), .int (iZ (sd))])] [(0, .ref hS), (1, .int (iZ (a))), (2, .int (iZ (s))), (3, .int (iZ (b)))] 0 []
  have hB := zEnv_b h1
  obtain ⟨hI1, hI2, hI3, hI4, hI5, hI6, hI7, hI8, hd⟩ := id h1
  have hn := hI1.1
  have hst : 0 ≤ s ∧ s ≤ n := by rw [h3]; unfold zSt; split; omega; have := nb_le (K := K) (e := n) (j := a + 1) (by omega); omega
  have hle := zLe_e a
  refine z_aload_n hC 0 dX3_tryLine_0 rfl rfl ?_
  refine z_get hC iX3_tryLine_3 0 1 rfl rfl (by decide) mX3_tryLine_f32 rfl dX3_tryLine_1 ?_
  refine z_aload_n hC 0 dX3_tryLine_4 rfl rfl ?_
  refine z_get hC iX3_tryLine_3 0 5 rfl rfl (by decide) mX3_tryLine_f36 rfl dX3_tryLine_5 ?_
  refine z_vnRi hC 1 (c_X2_toleranceIn (xl X) g _ _ _ _ _ _ (by omega)) gX3_tryLine_X2_toleranceIn_n83 nm_RX3_83 mX3_tryLine_iniRX2 mX3_tryLine_im_X2_toleranceIn mX3_tryLine_se_X2_toleranceIn rfl hd_X2_toleranceIn_s (by decide) ⟨rfl, rfl⟩ [11, 12, 13] (by decide) rfl 11 2 rfl rfl rfl rfl rfl (Nat.le_of_ble_eq_true rfl) dX3_tryLine_8 (by decide) ?_
  refine z_nm (fun v_11 e_11 => ?_)
  rw [← e_11] at hd
  have hv11 : -1 ≤ v_11 ∧ v_11 ≤ 10000 := by rw [e_11]; split <;> omega
  refine z_istore hC (lv' := [(4, _), (0, _), (1, _), (2, _), (3, _)]) dX3_tryLine_11 (by decide) rfl ?_
  refine z_aload_n hC 1 dX3_tryLine_13 rfl rfl ?_
  refine z_get hC iX3_tryLine_3 0 1 rfl rfl (by decide) mX3_tryLine_f32 rfl dX3_tryLine_14 ?_
  refine z_aload_n hC 1 dX3_tryLine_17 rfl rfl ?_
  refine z_get hC iX3_tryLine_3 0 5 rfl rfl (by decide) mX3_tryLine_f36 rfl dX3_tryLine_18 ?_
  refine z_vnRi hC 1 (c_X2_moreStretchIn (xl X) g _ _ _ _ _ _ (by omega)) gX3_tryLine_X2_moreStretchIn_n86 nm_RX3_86 mX3_tryLine_iniRX2 mX3_tryLine_im_X2_moreStretchIn mX3_tryLine_se_X2_moreStretchIn rfl hd_X2_moreStretchIn_s (by decide) ⟨rfl, rfl⟩ [11, 12, 13] (by decide) rfl 11 2 rfl rfl rfl rfl rfl (Nat.le_of_ble_eq_true rfl) dX3_tryLine_21 (by decide) ?_
  refine z_nm (fun v_24 e_24 => ?_)
  rw [← e_24] at hd
  have hv24 : 0 ≤ v_24 ∧ v_24 ≤ 10000 := by rw [e_24]; split <;> omega
  refine z_istore hC (lv' := [(5, _), (4, _), (0, _), (1, _), (2, _), (3, _)]) dX3_tryLine_24 (by decide) rfl ?_
  have J36 : ∀ (le : Int), le = zLe a → ZG X g (zD X A) 0 0 [(hS, eo 3 [.ref hI, .ref oR, .ref hL, .ref aC, .ref aN, .int (iZ (ps))]), (aC, el g 20808 C), (aN, eb g 20808 N), (hI, eo 0 [.ref aK, .ref aV, .ref aP, .ref aM, .ref aL, .ref aS, .ref aH, .int (iZ (n))]), (aK, ei g 100 K), (aV, ei g 100 V), (aP, ei g 100 P), (aM, ez g 100 M), (aL, ei g 101 LB), (aS, ei g 101 SB), (aH, ei g 101 HB), (oR, eo 2 [.ref aW, .ref aT]), (aW, ei g 50 W), (aT, ei g 3 T), (hL, eo 1 [.int (iZ (k)), .int (iZ (ug)), .int (iZ (lo)), .int (iZ (sd))])] [(5, .int (iZ (v_24))), (4, .int (iZ (v_11))), (0, .ref hS), (1, .int (iZ (a))), (2, .int (iZ (s))), (3, .int (iZ (b)))] 36 [.int (iZ (le))] := by
    intro le hle2
    refine z_istore hC (lv' := [(6, _), (5, _), (4, _), (0, _), (1, _), (2, _), (3, _)]) dX3_tryLine_36 (by decide) rfl ?_
    refine z_iload_n hC 4 dX3_tryLine_38 rfl rfl ?_
    refine z_iconst hC dX3_tryLine_39 ?_
    refine z_iadd hC dX3_tryLine_40 ?_
    refine z_bip hC dX3_tryLine_41 (by decide) ?_
    refine z_min hC mX3_tryLine_l89 mX3_tryLine_ls89 mX3_tryLine_li mX3_tryLine_lc89 (by omega) (by omega) (by decide) (Nat.le_of_ble_eq_true rfl) (by decide) (by decide) dX3_tryLine_43 ?_
    refine z_istore hC (lv' := [(7, _), (6, _), (5, _), (4, _), (0, _), (1, _), (2, _), (3, _)]) dX3_tryLine_46 (by decide) rfl ?_
    refine z_iload hC 1 dX3_tryLine_48 rfl ?_
    refine z_istore hC (lv' := [(8, _), (7, _), (6, _), (5, _), (4, _), (0, _), (1, _), (2, _), (3, _)]) dX3_tryLine_50 (by decide) rfl ?_
    have L52 : ∀ (fu : Nat) (i : Int) (C2 N2 : Int → Int) (l2 u2 k2 d2 : Int), (zLe a ≤ i ∧ i ≤ min (a + 1) 49 + 1) → (zFr a (zLe a) i C N C2 N2) → (zRow d a (zLe a) i (b - a).toNat C2 N2) → (zLe a < i → zMeas n K P LB SB HB W v_24 a b (i - 1) l2 u2 k2 d2) → (51 - i).toNat < fu → ZG X g (zD X A) 0 0 [(hS, eo 3 [.ref hI, .ref oR, .ref hL, .ref aC, .ref aN, .int (iZ (ps))]), (aC, el g 20808 C2), (aN, eb g 20808 N2), (hI, eo 0 [.ref aK, .ref aV, .ref aP, .ref aM, .ref aL, .ref aS, .ref aH, .int (iZ (n))]), (aK, ei g 100 K), (aV, ei g 100 V), (aP, ei g 100 P), (aM, ez g 100 M), (aL, ei g 101 LB), (aS, ei g 101 SB), (aH, ei g 101 HB), (oR, eo 2 [.ref aW, .ref aT]), (aW, ei g 50 W), (aT, ei g 3 T), (hL, eo 1 [.int (iZ (l2)), .int (iZ (u2)), .int (iZ (k2)), .int (iZ (d2))])] [(8, .int (iZ (i))), (7, .int (iZ (min (a + 1) 49))), (6, .int (iZ (le))), (5, .int (iZ (v_24))), (4, .int (iZ (v_11))), (0, .ref hS), (1, .int (iZ (a))), (2, .int (iZ (s))), (3, .int (iZ (b)))] 52 [] := by
      intro fu
      induction fu with
      | zero => intro i C2 N2 l2 u2 k2 d2; intros; omega
      | succ fu ih_52 =>
        intro i C2 N2 l2 u2 k2 d2 hi hF hRw hm hn
        refine z_iload hC 0 dX3_tryLine_52 rfl ?_
        refine z_iload hC 1 dX3_tryLine_54 rfl ?_
        refine z_icmp_gt hC 142 dX3_tryLine_56 (by decide) (by omega) (by omega) (fun c_56 => ?_) (fun c_56 => ?_)
        ·
          exact hR (C2, N2, l2, u2, k2, d2) _ _ _ [0, 1, 2, 3, 4, 5, 6, 7, 8, 9, 10, 11, 12, 13, 14] (by rw [show i = min (a + 1) 49 + 1 by omega] at hF hRw; exact ⟨hF, hRw⟩) (by decide) rfl dX3_tryLine_142
        ·
          have J116 : ∀ (l3 u3 k3 d3 : Int), zMeas n K P LB SB HB W v_24 a b i l3 u3 k3 d3 → ZG X g (zD X A) 0 0 [(hS, eo 3 [.ref hI, .ref oR, .ref hL, .ref aC, .ref aN, .int (iZ (ps))]), (aC, el g 20808 C2), (aN, eb g 20808 N2), (hI, eo 0 [.ref aK, .ref aV, .ref aP, .ref aM, .ref aL, .ref aS, .ref aH, .int (iZ (n))]), (aK, ei g 100 K), (aV, ei g 100 V), (aP, ei g 100 P), (aM, ez g 100 M), (aL, ei g 101 LB), (aS, ei g 101 SB), (aH, ei g 101 HB), (oR, eo 2 [.ref aW, .ref aT]), (aW, ei g 50 W), (aT, ei g 3 T), (hL, eo 1 [.int (iZ (l3)), .int (iZ (u3)), .int (iZ (k3)), .int (iZ (d3))])] [(8, .int (iZ (i))), (7, .int (iZ (min (a + 1) 49))), (6, .int (iZ (le))), (5, .int (iZ (v_24))), (4, .int (iZ (v_11))), (0, .ref hS), (1, .int (iZ (a))), (2, .int (iZ (s))), (3, .int (iZ (b)))] 116 [] := by
            intro l3 u3 k3 d3 hm3
            have hm3z := zMeas_01 hm3
            refine z_aload_n hC 5 dX3_tryLine_116 rfl rfl ?_
            refine z_get hC iX3_tryLine_3 0 2 rfl rfl (by decide) mX3_tryLine_f16 rfl dX3_tryLine_117 ?_
            refine z_iload hC 4 dX3_tryLine_120 rfl ?_
            refine z_vnRi hC 1 (c_X1_isToleratedBy (xl X) g _ _ _ _ _ _ hm3z.1 (fun q => (hm3z.2 q).2.2.2.1) (by omega)) gX3_tryLine_X1_isToleratedBy_n103 nm_RX3_103 mX3_tryLine_iniRX1 mX3_tryLine_im_X1_isToleratedBy mX3_tryLine_se_X1_isToleratedBy rfl hd_X1_isToleratedBy_s (by decide) ⟨rfl, rfl⟩ [14] (by decide) rfl 14 1 rfl rfl rfl rfl rfl (Nat.le_of_ble_eq_true rfl) dX3_tryLine_122 (by decide) ?_
            refine z_if_eq hC 136 dX3_tryLine_125 (by decide) (b2_r _) (fun c_125 => ?_) (fun c_125 => ?_)
            ·
              have c_125 := b2_f c_125
              refine z_iinc hC (lv' := [(8, _), (7, _), (6, _), (5, _), (4, _), (0, _), (1, _), (2, _), (3, _)]) 0 dX3_tryLine_136 rfl (by decide) rfl ?_
              refine z_goto (tgt := 52) hC dX3_tryLine_139 (by decide) ?_
              have hno := tl_no (d := d) (a := a) (b := b) (j := (b - a - 1).toNat) (by omega) (by omega) (by omega) hF hRw (fun c g1 g2 => h5 i c (by omega) (by omega) g1 g2) (by rw [hd]; intro q; have q4 : zOk (lLk n K P LB W a b i) (lSh n K HB a b) := q.2.2.2.1; have q5 : lUg n K P LB SB HB W v_24 a b i ≤ v_11 := q.2.2.2.2; have q6 := hm3.2.1 q4; exact c_125 ⟨q6.1, by rw [q6.2.1]; exact q5⟩)
              exact ih_52 (i + 1) _ _ _ _ _ _ (by omega) hno.1 hno.2 (fun _ => by rw [show i + 1 - 1 = i by omega]; exact hm3) (by omega)
            ·
              have c_125 := b2_t c_125
              have hs1 := (hm3z.2 c_125.1)
              have hft : d.2.2.1 a b i := by rw [hd]; exact ⟨by omega, h4.1, h4.2, hs1.1, by rw [← hs1.2.1]; exact c_125.2⟩
              have hcl : d.2.2.2.2 a b i = k3 := by rw [hs1.2.2.1, hd]; rfl
              have hdl : d.2.2.2.1 a b i = zDm n K V M a b u3 := by rw [hs1.2.1, hd]; rfl
              have hrs := h6 i k3 (by omega) (by omega) (by omega) (by omega)
              have hrk : zRst d C2 b (i + 1) k3 := zRst_kept hrs (hF _ (by omega)).1
              have hrin := zRst_in hB (by omega) hrk
              have hcin : ∀ c, 0 ≤ c → c ≤ 3 → C2 (((a + 1) * 51 + i) * 4 + c) = 9223372036854775807 ∨ (-1000000000000 ≤ C2 (((a + 1) * 51 + i) * 4 + c) ∧ C2 (((a + 1) * 51 + i) * 4 + c) ≤ 1000000000000) := fun c g1 g2 => by rw [(hF _ (by omega)).1]; exact zCc_in hB (by omega) (zF_in2 hB (by omega) a c _) (h5 i c (by omega) (by omega) g1 g2)
              refine z_aload_n hC 5 dX3_tryLine_128 rfl rfl ?_
              refine z_iload_n hC 6 dX3_tryLine_129 rfl rfl ?_
              refine z_iload_n hC 8 dX3_tryLine_130 rfl rfl ?_
              refine z_iload hC 0 dX3_tryLine_131 rfl ?_
              refine z_vWv (wr := [_, _, _]) hC 3 (c_X3_enterLine (xl X) g _ _ _ _ _ _ _ _ _ _ _ _ _ _ _ _ _ _ _ _ _ _ _ _ _ _ _ _ _ _ _ hI1 (by omega) (by omega) (by omega) hrin hcin) gX3_tryLine_X3_enterLine rfl hd_X3_enterLine_v (by decide) ⟨rfl, rfl⟩ [0, 1, 2, 3, 4, 5, 6, 7, 8, 9, 10, 14] [11, 12, 13] (by decide) rfl rfl (by decide) (by decide) 0 3 rfl rfl rfl rfl rfl (Nat.le_of_ble_eq_true rfl) dX3_tryLine_133 (by decide) (fun u_133 p_133 => ?_)
              obtain ⟨C1_133, N1_133⟩ := u_133
              try dsimp only at p_133
              refine z_ws (ws' := [(hS, eo 3 [.ref hI, .ref oR, .ref hL, .ref aC, .ref aN, .int (iZ (ps))]), (aC, el g 20808 C1_133), (aN, eb g 20808 N1_133), (hI, eo 0 [.ref aK, .ref aV, .ref aP, .ref aM, .ref aL, .ref aS, .ref aH, .int (iZ (n))]), (aK, ei g 100 K), (aV, ei g 100 V), (aP, ei g 100 P), (aM, ez g 100 M), (aL, ei g 101 LB), (aS, ei g 101 SB), (aH, ei g 101 HB), (oR, eo 2 [.ref aW, .ref aT]), (aW, ei g 50 W), (aT, ei g 3 T), (hL, eo 1 [.int (iZ (l3)), .int (iZ (u3)), .int (iZ (k3)), .int (iZ (d3))])]) [3, 4, 5, 6, 7, 8, 9, 10, 11, 12, 13, 0, 1, 2, 14] (by decide) rfl ?_
              refine z_iinc hC (lv' := [(8, _), (7, _), (6, _), (5, _), (4, _), (0, _), (1, _), (2, _), (3, _)]) 0 dX3_tryLine_136 rfl (by decide) rfl ?_
              refine z_goto (tgt := 52) hC dX3_tryLine_139 (by decide) ?_
              have hen := tl_en (d := d) hB (a := a) (b := b) (j := (b - a - 1).toNat) (by omega) (by omega) (by omega) (by omega) (by omega) hF hRw (fun c g1 g2 => h5 i c (by omega) (by omega) g1 g2) hft (by rw [hcl]; omega) (by rw [hcl]; exact hrs) (by rw [hcl]; exact p_133.1) (by rw [hcl, hdl]; exact p_133.2)
              exact ih_52 (i + 1) _ _ _ _ _ _ (by omega) hen.1 hen.2 (fun _ => by rw [show i + 1 - 1 = i by omega]; exact hm3) (by omega)
          refine z_iload hC 0 dX3_tryLine_59 rfl ?_
          refine z_iload hC 2 dX3_tryLine_61 rfl ?_
          refine z_icmp_eq hC 91 dX3_tryLine_63 (by decide) (by omega) (by omega) (fun c_63 => ?_) (fun c_63 => ?_)
          ·
            refine z_aload_n hC 5 dX3_tryLine_91 rfl rfl ?_
            refine z_get hC iX3_tryLine_3 0 2 rfl rfl (by decide) mX3_tryLine_f16 rfl dX3_tryLine_92 ?_
            refine z_aload_n hC 5 dX3_tryLine_95 rfl rfl ?_
            refine z_get hC iX3_tryLine_3 0 0 rfl rfl (by decide) mX3_tryLine_f28 rfl dX3_tryLine_96 ?_
            refine z_iload_n hC 7 dX3_tryLine_99 rfl rfl ?_
            refine z_iload_n hC 8 dX3_tryLine_100 rfl rfl ?_
            refine z_aload_n hC 5 dX3_tryLine_101 rfl rfl ?_
            refine z_get hC iX3_tryLine_3 0 1 rfl rfl (by decide) mX3_tryLine_f32 rfl dX3_tryLine_102 ?_
            refine z_getN hC iX3_tryLine_2 11 0 rfl rfl (by decide) nf_RX3_95 rfl dX3_tryLine_105 ?_
            refine z_iload hC 0 dX3_tryLine_108 rfl ?_
            refine z_iald hC 12 rfl (by omega) (by decide) dX3_tryLine_110 ?_
            refine z_iload hC 3 dX3_tryLine_111 rfl ?_
            refine z_vnWv (wr := [_, _, _, _, _, _]) hC 5 (c_X1_measure (xl X) g _ _ _ _ _ _ _ _ _ _ _ _ _ _ _ _ _ _ _ _ _ _ _ _ _ hI1 hI2 (by omega) (by have := hI3 i (by omega) (by omega); omega)) gX3_tryLine_X1_measure_n99 nm_RX3_99 mX3_tryLine_iniRX1 mX3_tryLine_im_X1_measure mX3_tryLine_se_X1_measure rfl hd_X1_measure_s (by decide) ⟨rfl, rfl⟩ [14, 3, 4, 5, 6, 7, 8, 9, 10] [0, 1, 2, 11, 12, 13] (by decide) rfl rfl (by decide) (by decide) 14 1 rfl rfl rfl rfl rfl (Nat.le_of_ble_eq_true rfl) dX3_tryLine_113 (by decide) (fun u_113 p_113 => ?_)
            obtain ⟨l1_113, u1_113, k1_113, d1_113⟩ := u_113
            try dsimp only at p_113
            refine z_ws (ws' := [(hS, eo 3 [.ref hI, .ref oR, .ref hL, .ref aC, .ref aN, .int (iZ (ps))]), (aC, el g 20808 C2), (aN, eb g 20808 N2), (hI, eo 0 [.ref aK, .ref aV, .ref aP, .ref aM, .ref aL, .ref aS, .ref aH, .int (iZ (n))]), (aK, ei g 100 K), (aV, ei g 100 V), (aP, ei g 100 P), (aM, ez g 100 M), (aL, ei g 101 LB), (aS, ei g 101 SB), (aH, ei g 101 HB), (oR, eo 2 [.ref aW, .ref aT]), (aW, ei g 50 W), (aT, ei g 3 T), (hL, eo 1 [.int (iZ (l1_113)), .int (iZ (u1_113)), .int (iZ (k1_113)), .int (iZ (d1_113))])]) [0, 1, 2, 7, 8, 9, 10, 11, 12, 13, 14, 3, 4, 5, 6] (by decide) rfl ?_
            exact J116 _ _ _ _ (by unfold zMeas lUg lCl lLk lSt lSh; rw [← h3]; exact p_113)
          ·
            refine z_aload_n hC 5 dX3_tryLine_66 rfl rfl ?_
            refine z_get hC iX3_tryLine_3 0 1 rfl rfl (by decide) mX3_tryLine_f32 rfl dX3_tryLine_67 ?_
            refine z_getN hC iX3_tryLine_2 11 0 rfl rfl (by decide) nf_RX3_95 rfl dX3_tryLine_70 ?_
            refine z_iload hC 0 dX3_tryLine_73 rfl ?_
            refine z_iald hC 12 rfl (by omega) (by decide) dX3_tryLine_75 ?_
            refine z_aload_n hC 5 dX3_tryLine_76 rfl rfl ?_
            refine z_get hC iX3_tryLine_3 0 1 rfl rfl (by decide) mX3_tryLine_f32 rfl dX3_tryLine_77 ?_
            refine z_getN hC iX3_tryLine_2 11 0 rfl rfl (by decide) nf_RX3_95 rfl dX3_tryLine_80 ?_
            refine z_iload hC 0 dX3_tryLine_83 rfl ?_
            refine z_iconst hC dX3_tryLine_85 ?_
            refine z_isub hC dX3_tryLine_86 ?_
            refine z_iald hC 12 rfl (by omega) (by decide) dX3_tryLine_87 ?_
            refine z_icmp_eq hC 116 dX3_tryLine_88 (by decide) (by have := hI3 i (by omega) (by omega); omega) (by have := hI3 (i - 1) (by omega) (by omega); omega) (fun c_88 => ?_) (fun c_88 => ?_)
            ·
              exact J116 _ _ _ _ (zMeas_same (hm (by omega)) c_88)
            ·
              refine z_aload_n hC 5 dX3_tryLine_91 rfl rfl ?_
              refine z_get hC iX3_tryLine_3 0 2 rfl rfl (by decide) mX3_tryLine_f16 rfl dX3_tryLine_92 ?_
              refine z_aload_n hC 5 dX3_tryLine_95 rfl rfl ?_
              refine z_get hC iX3_tryLine_3 0 0 rfl rfl (by decide) mX3_tryLine_f28 rfl dX3_tryLine_96 ?_
              refine z_iload_n hC 7 dX3_tryLine_99 rfl rfl ?_
              refine z_iload_n hC 8 dX3_tryLine_100 rfl rfl ?_
              refine z_aload_n hC 5 dX3_tryLine_101 rfl rfl ?_
              refine z_get hC iX3_tryLine_3 0 1 rfl rfl (by decide) mX3_tryLine_f32 rfl dX3_tryLine_102 ?_
              refine z_getN hC iX3_tryLine_2 11 0 rfl rfl (by decide) nf_RX3_95 rfl dX3_tryLine_105 ?_
              refine z_iload hC 0 dX3_tryLine_108 rfl ?_
              refine z_iald hC 12 rfl (by omega) (by decide) dX3_tryLine_110 ?_
              refine z_iload hC 3 dX3_tryLine_111 rfl ?_
              refine z_vnWv (wr := [_, _, _, _, _, _]) hC 5 (c_X1_measure (xl X) g _ _ _ _ _ _ _ _ _ _ _ _ _ _ _ _ _ _ _ _ _ _ _ _ _ hI1 hI2 (by omega) (by have := hI3 i (by omega) (by omega); omega)) gX3_tryLine_X1_measure_n99 nm_RX3_99 mX3_tryLine_iniRX1 mX3_tryLine_im_X1_measure mX3_tryLine_se_X1_measure rfl hd_X1_measure_s (by decide) ⟨rfl, rfl⟩ [14, 3, 4, 5, 6, 7, 8, 9, 10] [0, 1, 2, 11, 12, 13] (by decide) rfl rfl (by decide) (by decide) 14 1 rfl rfl rfl rfl rfl (Nat.le_of_ble_eq_true rfl) dX3_tryLine_113 (by decide) (fun u_113 p_113 => ?_)
              obtain ⟨l1_113, u1_113, k1_113, d1_113⟩ := u_113
              try dsimp only at p_113
              refine z_ws (ws' := [(hS, eo 3 [.ref hI, .ref oR, .ref hL, .ref aC, .ref aN, .int (iZ (ps))]), (aC, el g 20808 C2), (aN, eb g 20808 N2), (hI, eo 0 [.ref aK, .ref aV, .ref aP, .ref aM, .ref aL, .ref aS, .ref aH, .int (iZ (n))]), (aK, ei g 100 K), (aV, ei g 100 V), (aP, ei g 100 P), (aM, ez g 100 M), (aL, ei g 101 LB), (aS, ei g 101 SB), (aH, ei g 101 HB), (oR, eo 2 [.ref aW, .ref aT]), (aW, ei g 50 W), (aT, ei g 3 T), (hL, eo 1 [.int (iZ (l1_113)), .int (iZ (u1_113)), .int (iZ (k1_113)), .int (iZ (d1_113))])]) [0, 1, 2, 7, 8, 9, 10, 11, 12, 13, 14, 3, 4, 5, 6] (by decide) rfl ?_
              exact J116 _ _ _ _ (by unfold zMeas lUg lCl lLk lSt lSh; rw [← h3]; exact p_113)
    exact L52 _ le C N _ _ _ _ (by omega) (by rw [hle2]; exact zFr_0) (by rw [hle2]; exact zRow_0) (fun q => by omega) (Nat.lt_succ_self _)
  refine z_iload_n hC 3 dX3_tryLine_26 rfl rfl ?_
  refine z_iconst hC dX3_tryLine_27 ?_
  refine z_icmp_ne hC 35 dX3_tryLine_28 (by decide) (by omega) (by omega) (fun c_28 => ?_) (fun c_28 => ?_)
  ·
    refine z_iconst hC dX3_tryLine_35 ?_
    exact J36 _ (by omega)
  ·
    refine z_iconst hC dX3_tryLine_31 ?_
    refine z_goto (tgt := 36) hC dX3_tryLine_32 (by decide) ?_
    exact J36 _ (by omega)
set_option maxRecDepth 20000 in
theorem mX3_tryLinesBehind_f28 : Cond.fieldLink RX3 28 "BreakSearch$Search" "items" "LBreakSearch$Items;" ∈ wsX3_tryLinesBehind := by decide +kernel
set_option maxRecDepth 20000 in
theorem iX3_tryLinesBehind_3 : ∀ w ∈ u_ws RX3 TX3 6, w ∈ wsX3_tryLinesBehind := by decide +kernel
set_option maxRecDepth 20000 in
theorem mX3_tryLinesBehind_iniRX0 : Cond.initialized RX0 ∈ wsX3_tryLinesBehind := by decide +kernel
set_option maxRecDepth 20000 in
theorem mX3_tryLinesBehind_im_X0_startBehind : Cond.instanceMethod yX0_startBehind ∈ wsX3_tryLinesBehind := by decide +kernel
set_option maxRecDepth 20000 in
theorem mX3_tryLinesBehind_se_X0_startBehind : Cond.selects RX0 yX0_startBehind yX0_startBehind ∈ wsX3_tryLinesBehind := by decide +kernel
set_option maxRecDepth 20000 in
theorem iX3_tryLinesBehind_0 : ∀ w ∈ u_ws RX0 TX0 8, w ∈ wsX3_tryLinesBehind := by decide +kernel
set_option maxRecDepth 20000 in
theorem mX3_tryLinesBehind_im_X0_hasToBreakAt : Cond.instanceMethod yX0_hasToBreakAt ∈ wsX3_tryLinesBehind := by decide +kernel
set_option maxRecDepth 20000 in
theorem mX3_tryLinesBehind_se_X0_hasToBreakAt : Cond.selects RX0 yX0_hasToBreakAt yX0_hasToBreakAt ∈ wsX3_tryLinesBehind := by decide +kernel
set_option maxRecDepth 20000 in
theorem mX3_tryLinesBehind_im_X0_mayBreakAt : Cond.instanceMethod yX0_mayBreakAt ∈ wsX3_tryLinesBehind := by decide +kernel
set_option maxRecDepth 20000 in
theorem mX3_tryLinesBehind_se_X0_mayBreakAt : Cond.selects RX0 yX0_mayBreakAt yX0_mayBreakAt ∈ wsX3_tryLinesBehind := by decide +kernel
abbrev rm_X3_tryLinesBehind : Room := { frames := 6, cells := 0, slots := 0, locals := 143 }
set_option maxHeartbeats 4000000 in
set_option maxRecDepth 100000 in
theorem c_X3_tryLinesBehind (l : Launch) (g : zG) (hS aC aN : Nat) (ps : Int) (C N : Int → Int) (hI aK aV aP aM aL aS aH : Nat) (n : Int) (K V P M LB SB HB : Int → Int) (oR aW aT : Nat) (W T : Int → Int) (hL : Nat) (k ug lo sd : Int) (mt ex : Int) (d : zDP) (a : Int) (h1 : zEnv n K V P M LB SB HB W T ps mt ex d) (h2 : -1 ≤ a ∧ a < n ∨ (a = -1 ∧ n = 0)) (h3 : ∀ i c, zLe a ≤ i → i < (min (a + 1) 49 + 1) → 0 ≤ c → c ≤ 3 → C (((a + 1) * 51 + i) * 4 + c) = 9223372036854775807) (h4 : ∀ b i s, a < b → b ≤ n → zMay K V M n b mt → zLe a ≤ i → i < (min (a + 1) 49 + 1) → 0 ≤ s → s ≤ 3 → zRst d C b (i + 1) s) : zMWv (S := (Int → Int) × (Int → Int) × (Int) × (Int) × (Int) × (Int)) l yX3_tryLinesBehind wsX3_tryLinesBehind rm_X3_tryLinesBehind g [(hS, eo 3 [.ref hI, .ref oR, .ref hL, .ref aC, .ref aN, .int (iZ (ps))]), (aC, el g 20808 C), (aN, eb g 20808 N), (hI, eo 0 [.ref aK, .ref aV, .ref aP, .ref aM, .ref aL, .ref aS, .ref aH, .int (iZ (n))]), (aK, ei g 100 K), (aV, ei g 100 V), (aP, ei g 100 P), (aM, ez g 100 M), (aL, ei g 101 LB), (aS, ei g 101 SB), (aH, ei g 101 HB), (oR, eo 2 [.ref aW, .ref aT]), (aW, ei g 50 W), (aT, ei g 3 T), (hL, eo 1 [.int (iZ (k)), .int (iZ (ug)), .int (iZ (lo)), .int (iZ (sd))])] [.ref hS, .int (iZ (a)), .int (iZ (mt))] (fun u => zFr a (zLe a) (min (a + 1) 49 + 1) C N u.1 u.2.1 ∧ ∀ i c, zLe a ≤ i → i < (min (a + 1) 49 + 1) → 0 ≤ c → c ≤ 3 → zCc u.1 u.2.1 a i c (zVL d i a c)) (fun u => [(hS, eo 3 [.ref hI, .ref oR, .ref hL, .ref aC, .ref aN, .int (iZ (ps))]), (aC, el g 20808 u.1), (aN, eb g 20808 u.2.1), (hI, eo 0 [.ref aK, .ref aV, .ref aP, .ref aM, .ref aL, .ref aS, .ref aH, .int (iZ (n))]), (aK, ei g 100 K), (aV, ei g 100 V), (aP, ei g 100 P), (aM, ez g 100 M), (aL, ei g 101 LB), (aS, ei g 101 SB), (aH, ei g 101 HB), (oR, eo 2 [.ref aW, .ref aT]), (aW, ei g 50 W), (aT, ei g 3 T), (hL, eo 1 [.int (iZ (u.2.2.1)), .int (iZ (u.2.2.2.1)), .int (iZ (u.2.2.2.2.1)), .int (iZ (u.2.2.2.2.2))])]) 0 0 := by
  refine z_beWv (cc := cX3_tryLinesBehind) (nL := 5) (plainFor_of_name (by decide +kernel)) rfl (Nat.le_of_ble_eq_true rfl) ?_
  intro X A hC hN hR
  have hC : zC X g cX3_tryLinesBehind RX3 wsX3_tryLinesBehind rm_X3_tryLinesBehind 5 := hC
  show ZG X g (zD X A) 0 0 [(hS, eo 3 [.ref hI, .ref oR, .ref hL, .ref aC, .ref aN, .int (iZ (ps))]), (aC, el g 20808 C), (aN, eb g 20808 N), (hI, eo 0 [.ref aK, .ref aV, .ref aP, .ref aM, .ref aL, .ref aS, .ref aH, .int (iZ (n))]), (aK, ei g 100 K), (aV, ei g 100 V), (aP, ei g 100 P), (aM, ez g 100 M), (aL, ei g 101 LB), (aS, ei g 101 SB), (aH, ei g 101 HB), (oR, eo 2 [.ref aW, .ref aT]), (aW, ei g 50 W), (aT, ei g 3 T), (hL, eo 1 [.int (iZ (k)), .int (iZ (ug)), .int (iZ (lo)), .int (iZ (sd))])] [(0, .ref hS), (1, .int (iZ (a))), (2, .int (iZ (mt)))] 0 []
  obtain ⟨hI1, hI2, hI3, hI4, hI5, hI6, hI7, hI8, hd⟩ := id h1
  have hn := hI1.1
  have hle := zLe_e a
  refine z_aload_n hC 0 dX3_tryLinesBehind_0 rfl rfl ?_
  refine z_get hC iX3_tryLinesBehind_3 0 0 rfl rfl (by decide) mX3_tryLinesBehind_f28 rfl dX3_tryLinesBehind_1 ?_
  refine z_iload_n hC 1 dX3_tryLinesBehind_4 rfl rfl ?_
  refine z_vnRi hC 1 (c_X0_startBehind (xl X) g _ _ _ _ _ _ _ _ _ _ _ _ _ _ _ _ _ hI1 (by omega)) gX3_tryLinesBehind_X0_startBehind_n72 nm_RX3_72 mX3_tryLinesBehind_iniRX0 mX3_tryLinesBehind_im_X0_startBehind mX3_tryLinesBehind_se_X0_startBehind rfl hd_X0_startBehind_s (by decide) ⟨rfl, rfl⟩ [3, 4, 5, 6, 7, 8, 9, 10] (by decide) rfl 3 0 rfl rfl rfl rfl rfl (Nat.le_of_ble_eq_true rfl) dX3_tryLinesBehind_5 (by decide) ?_
  refine z_istore_n hC (lv' := [(3, _), (0, _), (1, _), (2, _)]) dX3_tryLinesBehind_8 rfl (by decide) rfl ?_
  refine z_iload_n hC 2 dX3_tryLinesBehind_9 rfl rfl ?_
  refine z_iconst hC dX3_tryLinesBehind_10 ?_
  refine z_iadd hC dX3_tryLinesBehind_11 ?_
  refine z_istore hC (lv' := [(4, _), (3, _), (0, _), (1, _), (2, _)]) dX3_tryLinesBehind_12 (by decide) rfl ?_
  have L14 : ∀ (fu : Nat) (b : Int) (C2 N2 : Int → Int) (l2 u2 k2 d2 : Int), (a + 1 ≤ b ∧ b ≤ n) → (∀ m, a < m → m < b → ¬ zMust K V n m) → (zFr a (zLe a) (min (a + 1) 49 + 1) C N C2 N2) → (zRow d a (zLe a) (min (a + 1) 49 + 1) (b - a - 1).toNat C2 N2) → (101 - b).toNat < fu → ZG X g (zD X A) 0 0 [(hS, eo 3 [.ref hI, .ref oR, .ref hL, .ref aC, .ref aN, .int (iZ (ps))]), (aC, el g 20808 C2), (aN, eb g 20808 N2), (hI, eo 0 [.ref aK, .ref aV, .ref aP, .ref aM, .ref aL, .ref aS, .ref aH, .int (iZ (n))]), (aK, ei g 100 K), (aV, ei g 100 V), (aP, ei g 100 P), (aM, ez g 100 M), (aL, ei g 101 LB), (aS, ei g 101 SB), (aH, ei g 101 HB), (oR, eo 2 [.ref aW, .ref aT]), (aW, ei g 50 W), (aT, ei g 3 T), (hL, eo 1 [.int (iZ (l2)), .int (iZ (u2)), .int (iZ (k2)), .int (iZ (d2))])] [(4, .int (iZ (b))), (3, .int (iZ (zSt K n a))), (0, .ref hS), (1, .int (iZ (a))), (2, .int (iZ (mt)))] 14 [] := by
    intro fu
    induction fu with
    | zero => intro b C2 N2 l2 u2 k2 d2; intros; omega
    | succ fu ih_14 =>
      intro b C2 N2 l2 u2 k2 d2 hb hmm hF hRw hn
      refine z_iload hC 0 dX3_tryLinesBehind_14 rfl ?_
      refine z_aload_n hC 2 dX3_tryLinesBehind_16 rfl rfl ?_
      refine z_get hC iX3_tryLinesBehind_3 0 0 rfl rfl (by decide) mX3_tryLinesBehind_f28 rfl dX3_tryLinesBehind_17 ?_
      refine z_getN hC iX3_tryLinesBehind_0 3 7 rfl rfl (by decide) nf_RX3_53 rfl dX3_tryLinesBehind_20 ?_
      refine z_icmp_gt hC 66 dX3_tryLinesBehind_23 (by decide) (by omega) (by omega) (fun c_23 => ?_) (fun c_23 => ?_)
      ·
        exfalso; omega
      ·
        have J47 : ∀ (C3 N3 : Int → Int) (l3 u3 k3 d3 : Int), zFr a (zLe a) (min (a + 1) 49 + 1) C N C3 N3 → zRow d a (zLe a) (min (a + 1) 49 + 1) (b - a).toNat C3 N3 → ZG X g (zD X A) 0 0 [(hS, eo 3 [.ref hI, .ref oR, .ref hL, .ref aC, .ref aN, .int (iZ (ps))]), (aC, el g 20808 C3), (aN, eb g 20808 N3), (hI, eo 0 [.ref aK, .ref aV, .ref aP, .ref aM, .ref aL, .ref aS, .ref aH, .int (iZ (n))]), (aK, ei g 100 K), (aV, ei g 100 V), (aP, ei g 100 P), (aM, ez g 100 M), (aL, ei g 101 LB), (aS, ei g 101 SB), (aH, ei g 101 HB), (oR, eo 2 [.ref aW, .ref aT]), (aW, ei g 50 W), (aT, ei g 3 T), (hL, eo 1 [.int (iZ (l3)), .int (iZ (u3)), .int (iZ (k3)), .int (iZ (d3))])] [(4, .int (iZ (b))), (3, .int (iZ (zSt K n a))), (0, .ref hS), (1, .int (iZ (a))), (2, .int (iZ (mt)))] 47 [] := by
          intro C3 N3 l3 u3 k3 d3 hF3 hR3
          refine z_aload_n hC 2 dX3_tryLinesBehind_47 rfl rfl ?_
          refine z_get hC iX3_tryLinesBehind_3 0 0 rfl rfl (by decide) mX3_tryLinesBehind_f28 rfl dX3_tryLinesBehind_48 ?_
          refine z_iload hC 0 dX3_tryLinesBehind_51 rfl ?_
          refine z_vnRi hC 1 (c_X0_hasToBreakAt (xl X) g _ _ _ _ _ _ _ _ _ _ _ _ _ _ _ _ _ hI1 (by omega)) gX3_tryLinesBehind_X0_hasToBreakAt_n80 nm_RX3_80 mX3_tryLinesBehind_iniRX0 mX3_tryLinesBehind_im_X0_hasToBreakAt mX3_tryLinesBehind_se_X0_hasToBreakAt rfl hd_X0_hasToBreakAt_s (by decide) ⟨rfl, rfl⟩ [3, 4, 5, 6, 7, 8, 9, 10] (by decide) rfl 3 0 rfl rfl rfl rfl rfl (Nat.le_of_ble_eq_true rfl) dX3_tryLinesBehind_53 (by decide) ?_
          refine z_if_eq hC 60 dX3_tryLinesBehind_56 (by decide) (b2_r _) (fun c_56 => ?_) (fun c_56 => ?_)
          ·
            have c_56 := b2_f c_56
            refine z_iinc hC (lv' := [(4, _), (3, _), (0, _), (1, _), (2, _)]) 0 dX3_tryLinesBehind_60 rfl (by decide) rfl ?_
            refine z_goto (tgt := 14) hC dX3_tryLinesBehind_63 (by decide) ?_
            exact ih_14 (b + 1) _ _ _ _ _ _ (by omega) (fun m g1 g2 => by (by_cases e : m = b); (rw [e]; exact fun q => c_56 (Or.inr q)); (exact hmm m g1 (by omega))) hF3 (by rw [show (b + 1 - a - 1).toNat = (b - a).toNat by omega]; exact hR3) (by omega)
          ·
            have c_56 := b2_t c_56
            exact hR (C3, N3, l3, u3, k3, d3) _ _ _ [0, 1, 2, 3, 4, 5, 6, 7, 8, 9, 10, 11, 12, 13, 14] ⟨hF3, by rw [hd] at hR3 ⊢; exact tb_end (by omega) c_56 (by omega) (by omega) hR3⟩ (by decide) rfl dX3_tryLinesBehind_59
        refine z_aload_n hC 2 dX3_tryLinesBehind_26 rfl rfl ?_
        refine z_get hC iX3_tryLinesBehind_3 0 0 rfl rfl (by decide) mX3_tryLinesBehind_f28 rfl dX3_tryLinesBehind_27 ?_
        refine z_iload hC 0 dX3_tryLinesBehind_30 rfl ?_
        refine z_iload_n hC 4 dX3_tryLinesBehind_32 rfl rfl ?_
        refine z_vnRi hC 2 (c_X0_mayBreakAt (xl X) g _ _ _ _ _ _ _ _ _ _ _ _ _ _ _ _ _ _ hI1 (by omega) hI6) gX3_tryLinesBehind_X0_mayBreakAt_n58 nm_RX3_58 mX3_tryLinesBehind_iniRX0 mX3_tryLinesBehind_im_X0_mayBreakAt mX3_tryLinesBehind_se_X0_mayBreakAt rfl hd_X0_mayBreakAt_s (by decide) ⟨rfl, rfl⟩ [3, 4, 5, 6, 7, 8, 9, 10] (by decide) rfl 3 0 rfl rfl rfl rfl rfl (Nat.le_of_ble_eq_true rfl) dX3_tryLinesBehind_33 (by decide) ?_
        refine z_if_eq hC 47 dX3_tryLinesBehind_36 (by decide) (b2_r _) (fun c_36 => ?_) (fun c_36 => ?_)
        ·
          have c_36 := b2_f c_36
          exact J47 _ _ _ _ _ _ hF (fun i c g1 g2 g3 g4 => zCc_no (j := (b - a - 1).toNat) (b := b) (by omega) (by omega) (hRw i c g1 g2 g3 g4) (by rw [hd]; exact fun q => c_36 q.2.1))
        ·
          have c_36 := b2_t c_36
          refine z_aload_n hC 2 dX3_tryLinesBehind_39 rfl rfl ?_
          refine z_iload_n hC 3 dX3_tryLinesBehind_40 rfl rfl ?_
          refine z_iload_n hC 1 dX3_tryLinesBehind_41 rfl rfl ?_
          refine z_iload hC 0 dX3_tryLinesBehind_42 rfl ?_
          refine z_vWv (wr := []) hC 3 (c_X3_tryLine (xl X) g _ _ _ _ _ _ _ _ _ _ _ _ _ _ _ _ _ _ _ _ _ _ _ _ _ _ _ _ _ _ _ _ mt ex d _ _ _ h1 (by omega) rfl ⟨c_36, hmm⟩ hRw (fun i s g1 g2 g3 g4 => zRst_kept (h4 b i s (by omega) (by omega) c_36 g1 g2 g3 g4) (hF _ (by omega)).1)) gX3_tryLinesBehind_X3_tryLine rfl hd_X3_tryLine_v (by decide) ⟨rfl, rfl⟩ [0, 1, 2, 3, 4, 5, 6, 7, 8, 9, 10, 11, 12, 13, 14] [] (by decide) rfl rfl (by decide) (by decide) 0 3 rfl rfl rfl rfl rfl (Nat.le_of_ble_eq_true rfl) dX3_tryLinesBehind_44 (by decide) (fun u_44 p_44 => ?_)
          obtain ⟨C1_44, N1_44, l1_44, u1_44, k1_44, d1_44⟩ := u_44
          try dsimp only at p_44
          refine z_ws (ws' := [(hS, eo 3 [.ref hI, .ref oR, .ref hL, .ref aC, .ref aN, .int (iZ (ps))]), (aC, el g 20808 C1_44), (aN, eb g 20808 N1_44), (hI, eo 0 [.ref aK, .ref aV, .ref aP, .ref aM, .ref aL, .ref aS, .ref aH, .int (iZ (n))]), (aK, ei g 100 K), (aV, ei g 100 V), (aP, ei g 100 P), (aM, ez g 100 M), (aL, ei g 101 LB), (aS, ei g 101 SB), (aH, ei g 101 HB), (oR, eo 2 [.ref aW, .ref aT]), (aW, ei g 50 W), (aT, ei g 3 T), (hL, eo 1 [.int (iZ (l1_44)), .int (iZ (u1_44)), .int (iZ (k1_44)), .int (iZ (d1_44))])]) [0, 1, 2, 3, 4, 5, 6, 7, 8, 9, 10, 11, 12, 13, 14] (by decide) rfl ?_
          exact J47 _ _ _ _ _ _ (fun x hx => ⟨(p_44.1 x hx).1.trans (hF x hx).1, (p_44.1 x hx).2.trans (hF x hx).2⟩) p_44.2
  exact L14 _ (a + 1) C N _ _ _ _ (by omega) (fun m g1 g2 => by omega) (fun _ _ => ⟨rfl, rfl⟩) (fun i c g1 g2 g3 g4 => by rw [show (a + 1 - a - 1).toNat = 0 by omega]; exact ⟨fun _ => h3 i c g1 g2 g3 g4, fun q => absurd rfl q⟩) (Nat.lt_succ_self _)
set_option maxRecDepth 20000 in
theorem mX3_findsWay_f36 : Cond.fieldLink RX3 36 "BreakSearch$Search" "pass" "I" ∈ wsX3_findsWay := by decide +kernel
set_option maxRecDepth 20000 in
theorem iX3_findsWay_3 : ∀ w ∈ u_ws RX3 TX3 6, w ∈ wsX3_findsWay := by decide +kernel
set_option maxRecDepth 20000 in
theorem mX3_findsWay_f32 : Cond.fieldLink RX3 32 "BreakSearch$Search" "rules" "LBreakSearch$Rules;" ∈ wsX3_findsWay := by decide +kernel
set_option maxRecDepth 20000 in
theorem mX3_findsWay_iniRX2 : Cond.initialized RX2 ∈ wsX3_findsWay := by decide +kernel
set_option maxRecDepth 20000 in
theorem mX3_findsWay_im_X2_breaksAtMarksIn : Cond.instanceMethod yX2_breaksAtMarksIn ∈ wsX3_findsWay := by decide +kernel
set_option maxRecDepth 20000 in
theorem mX3_findsWay_se_X2_breaksAtMarksIn : Cond.selects RX2 yX2_breaksAtMarksIn yX2_breaksAtMarksIn ∈ wsX3_findsWay := by decide +kernel
set_option maxRecDepth 20000 in
theorem mX3_findsWay_f28 : Cond.fieldLink RX3 28 "BreakSearch$Search" "items" "LBreakSearch$Items;" ∈ wsX3_findsWay := by decide +kernel
set_option maxRecDepth 20000 in
theorem iX3_findsWay_0 : ∀ w ∈ u_ws RX0 TX0 8, w ∈ wsX3_findsWay := by decide +kernel
set_option maxRecDepth 20000 in
theorem mX3_findsWay_f20 : Cond.fieldLink RX3 20 "BreakSearch$Search" "costs" "[J" ∈ wsX3_findsWay := by decide +kernel
set_option maxRecDepth 20000 in
theorem mX3_findsWay_k70 : Cond.constantLong RX3 70 (9223372036854775807) ∈ wsX3_findsWay := by decide +kernel
set_option maxRecDepth 20000 in
theorem mX3_findsWay_iniRX0 : Cond.initialized RX0 ∈ wsX3_findsWay := by decide +kernel
set_option maxRecDepth 20000 in
theorem mX3_findsWay_im_X0_mayBreakAt : Cond.instanceMethod yX0_mayBreakAt ∈ wsX3_findsWay := by decide +kernel
set_option maxRecDepth 20000 in
theorem mX3_findsWay_se_X0_mayBreakAt : Cond.selects RX0 yX0_mayBreakAt yX0_mayBreakAt ∈ wsX3_findsWay := by decide +kernel
abbrev rm_X3_findsWay : Room := { frames := 7, cells := 0, slots := 0, locals := 167 }
set_option maxHeartbeats 4000000 in
set_option maxRecDepth 100000 in
theorem c_X3_findsWay (l : Launch) (g : zG) (po : Int) (hS aC aN : Nat) (ps : Int) (C N : Int → Int) (hI aK aV aP aM aL aS aH : Nat) (n : Int) (K V P M LB SB HB : Int → Int) (oR aW aT : Nat) (W T : Int → Int) (hL : Nat) (k ug lo sd : Int) (mt ex : Int) (d : zDP) (h1 : zEnv n K V P M LB SB HB W T ps mt ex d) : zMWi (S := (Int → Int) × (Int → Int) × (Int) × (Int) × (Int) × (Int) × (Int)) l yX3_findsWay wsX3_findsWay rm_X3_findsWay g [(hS, eo 3 [.ref hI, .ref oR, .ref hL, .ref aC, .ref aN, .int (iZ (po))]), (aC, el g 20808 C), (aN, eb g 20808 N), (hI, eo 0 [.ref aK, .ref aV, .ref aP, .ref aM, .ref aL, .ref aS, .ref aH, .int (iZ (n))]), (aK, ei g 100 K), (aV, ei g 100 V), (aP, ei g 100 P), (aM, ez g 100 M), (aL, ei g 101 LB), (aS, ei g 101 SB), (aH, ei g 101 HB), (oR, eo 2 [.ref aW, .ref aT]), (aW, ei g 50 W), (aT, ei g 3 T), (hL, eo 1 [.int (iZ (k)), .int (iZ (ug)), .int (iZ (lo)), .int (iZ (sd))])] [.ref hS, .int (iZ (ps)), .int (iZ (ex))] (fun u => zTab d K V M n mt u.1 u.2.1 ∧ u.2.2.2.2.2.2 = b2 (¬ (zVL d 0 (-1) 0).2.1 = 0)) (fun u => u.2.2.2.2.2.2) (fun u => [(hS, eo 3 [.ref hI, .ref oR, .ref hL, .ref aC, .ref aN, .int (iZ (ps))]), (aC, el g 20808 u.1), (aN, eb g 20808 u.2.1), (hI, eo 0 [.ref aK, .ref aV, .ref aP, .ref aM, .ref aL, .ref aS, .ref aH, .int (iZ (n))]), (aK, ei g 100 K), (aV, ei g 100 V), (aP, ei g 100 P), (aM, ez g 100 M), (aL, ei g 101 LB), (aS, ei g 101 SB), (aH, ei g 101 HB), (oR, eo 2 [.ref aW, .ref aT]), (aW, ei g 50 W), (aT, ei g 3 T), (hL, eo 1 [.int (iZ (u.2.2.1)), .int (iZ (u.2.2.2.1)), .int (iZ (u.2.2.2.2.1)), .int (iZ (u.2.2.2.2.2.1))])]) 0 0 := by
  refine z_beWi (cc := cX3_findsWay) (nL := 5) (ret := some .boolean) (plainFor_of_name (by decide +kernel)) rfl (Or.inr ⟨rfl, fun u h => by rw [h.2]; exact b2_01 _⟩) (Nat.le_of_ble_eq_true rfl) ?_
  intro X A hC hN hR
  have hC : zC X g cX3_findsWay RX3 wsX3_findsWay rm_X3_findsWay 5 := hC
  show ZG X g (zD X A) 0 0 [(hS, eo 3 [.ref hI, .ref oR, .ref hL, .ref aC, .ref aN, .int (iZ (po))]), (aC, el g 20808 C), (aN, eb g 20808 N), (hI, eo 0 [.ref aK, .ref aV, .ref aP, .ref aM, .ref aL, .ref aS, .ref aH, .int (iZ (n))]), (aK, ei g 100 K), (aV, ei g 100 V), (aP, ei g 100 P), (aM, ez g 100 M), (aL, ei g 101 LB), (aS, ei g 101 SB), (aH, ei g 101 HB), (oR, eo 2 [.ref aW, .ref aT]), (aW, ei g 50 W), (aT, ei g 3 T), (hL, eo 1 [.int (iZ (k)), .int (iZ (ug)), .int (iZ (lo)), .int (iZ (sd))])] [(0, .ref hS), (1, .int (iZ (ps))), (2, .int (iZ (ex)))] 0 []
  have hB := zEnv_b h1
  obtain ⟨hI1, hI2, hI3, hI4, hI5, hI6, hI7, hI8, hd⟩ := id h1
  have hn := hI1.1
  refine z_aload_n hC 0 dX3_findsWay_0 rfl rfl ?_
  refine z_iload_n hC 1 dX3_findsWay_1 rfl rfl ?_
  refine z_put hC iX3_findsWay_3 tyX3 tyX3_ok nmX3 0 5 rfl rfl (by decide) mX3_findsWay_f36 rfl rfl rfl (Nat.le_of_ble_eq_true rfl) dX3_findsWay_2 (ws' := [_, _, _, _, _, _, _, _, _, _, _, _, _, _, _]) rfl ?_
  refine z_aload_n hC 0 dX3_findsWay_5 rfl rfl ?_
  refine z_vWv (wr := [_, _, _, _]) hC 0 (c_X3_closeAll (xl X) g _ _ _ _ _ _ _ _ _ _ _ _ _ _ _ _ _ _ _ _ _ _ _ _ hn) gX3_findsWay_X3_closeAll rfl hd_X3_closeAll_v (by decide) ⟨rfl, rfl⟩ [0, 1, 2, 3, 4, 5, 6, 7, 8, 9, 10] [11, 12, 13, 14] (by decide) rfl rfl (by decide) (by decide) 0 3 rfl rfl rfl rfl rfl (Nat.le_of_ble_eq_true rfl) dX3_findsWay_6 (by decide) (fun u_6 p_6 => ?_)
  obtain ⟨C1_6, rfl⟩ : ∃ z, z = u_6 := ⟨_, rfl⟩
  try dsimp only at p_6
  refine z_ws (ws' := [(hS, eo 3 [.ref hI, .ref oR, .ref hL, .ref aC, .ref aN, .int (iZ (ps))]), (aC, el g 20808 C1_6), (aN, eb g 20808 N), (hI, eo 0 [.ref aK, .ref aV, .ref aP, .ref aM, .ref aL, .ref aS, .ref aH, .int (iZ (n))]), (aK, ei g 100 K), (aV, ei g 100 V), (aP, ei g 100 P), (aM, ez g 100 M), (aL, ei g 101 LB), (aS, ei g 101 SB), (aH, ei g 101 HB), (oR, eo 2 [.ref aW, .ref aT]), (aW, ei g 50 W), (aT, ei g 3 T), (hL, eo 1 [.int (iZ (k)), .int (iZ (ug)), .int (iZ (lo)), .int (iZ (sd))])]) [4, 5, 6, 7, 8, 9, 10, 11, 12, 13, 14, 0, 1, 2, 3] (by decide) rfl ?_
  refine z_aload_n hC 0 dX3_findsWay_9 rfl rfl ?_
  refine z_iload_n hC 2 dX3_findsWay_10 rfl rfl ?_
  refine z_vWv (wr := [_, _, _, _]) hC 1 (c_X3_openEnd (xl X) g _ _ _ _ _ _ _ _ _ _ _ _ _ _ _ _ _ _ _ _ _ _ _ _ _ hn hI8) gX3_findsWay_X3_openEnd rfl hd_X3_openEnd_v (by decide) ⟨rfl, rfl⟩ [0, 1, 2, 3, 4, 5, 6, 7, 8, 9, 10] [11, 12, 13, 14] (by decide) rfl rfl (by decide) (by decide) 0 3 rfl rfl rfl rfl rfl (Nat.le_of_ble_eq_true rfl) dX3_findsWay_11 (by decide) (fun u_11 p_11 => ?_)
  obtain ⟨C1_11, rfl⟩ : ∃ z, z = u_11 := ⟨_, rfl⟩
  try dsimp only at p_11
  refine z_ws (ws' := [(hS, eo 3 [.ref hI, .ref oR, .ref hL, .ref aC, .ref aN, .int (iZ (ps))]), (aC, el g 20808 C1_11), (aN, eb g 20808 N), (hI, eo 0 [.ref aK, .ref aV, .ref aP, .ref aM, .ref aL, .ref aS, .ref aH, .int (iZ (n))]), (aK, ei g 100 K), (aV, ei g 100 V), (aP, ei g 100 P), (aM, ez g 100 M), (aL, ei g 101 LB), (aS, ei g 101 SB), (aH, ei g 101 HB), (oR, eo 2 [.ref aW, .ref aT]), (aW, ei g 50 W), (aT, ei g 3 T), (hL, eo 1 [.int (iZ (k)), .int (iZ (ug)), .int (iZ (lo)), .int (iZ (sd))])]) [4, 5, 6, 7, 8, 9, 10, 11, 12, 13, 14, 0, 1, 2, 3] (by decide) rfl ?_
  refine z_aload_n hC 0 dX3_findsWay_14 rfl rfl ?_
  refine z_get hC iX3_findsWay_3 0 1 rfl rfl (by decide) mX3_findsWay_f32 rfl dX3_findsWay_15 ?_
  refine z_aload_n hC 0 dX3_findsWay_18 rfl rfl ?_
  refine z_get hC iX3_findsWay_3 0 5 rfl rfl (by decide) mX3_findsWay_f36 rfl dX3_findsWay_19 ?_
  refine z_vnRi hC 1 (c_X2_breaksAtMarksIn (xl X) g _ _ _ _ _ _ (by omega)) gX3_findsWay_X2_breaksAtMarksIn_n47 nm_RX3_47 mX3_findsWay_iniRX2 mX3_findsWay_im_X2_breaksAtMarksIn mX3_findsWay_se_X2_breaksAtMarksIn rfl hd_X2_breaksAtMarksIn_s (by decide) ⟨rfl, rfl⟩ [11, 12, 13] (by decide) rfl 11 2 rfl rfl rfl rfl rfl (Nat.le_of_ble_eq_true rfl) dX3_findsWay_22 (by decide) ?_
  have hmt : b2 (¬ ps = 1) = mt := by (by_cases q : ps = 1); (rw [b2_0 (fun z => z q)]; omega); (rw [b2_1 q]; omega)
  refine z_top hmt ?_
  refine z_istore_n hC (lv' := [(3, _), (0, _), (1, _), (2, _)]) dX3_findsWay_25 rfl (by decide) rfl ?_
  refine z_aload_n hC 1 dX3_findsWay_26 rfl rfl ?_
  refine z_get hC iX3_findsWay_3 0 0 rfl rfl (by decide) mX3_findsWay_f28 rfl dX3_findsWay_27 ?_
  refine z_getN hC iX3_findsWay_0 3 7 rfl rfl (by decide) nf_RX3_53 rfl dX3_findsWay_30 ?_
  refine z_iconst hC dX3_findsWay_33 ?_
  refine z_isub hC dX3_findsWay_34 ?_
  refine z_istore hC (lv' := [(4, _), (3, _), (0, _), (1, _), (2, _)]) dX3_findsWay_35 (by decide) rfl ?_
  have L37 : ∀ (fu : Nat) (f : Int) (C2 N2 : Int → Int) (l2 u2 k2 d2 : Int), (-2 ≤ f ∧ f < n) → (zTT d K V M n mt f C2 N2) → (f + 2).toNat < fu → ZG X g (zD X A) 0 0 [(hS, eo 3 [.ref hI, .ref oR, .ref hL, .ref aC, .ref aN, .int (iZ (ps))]), (aC, el g 20808 C2), (aN, eb g 20808 N2), (hI, eo 0 [.ref aK, .ref aV, .ref aP, .ref aM, .ref aL, .ref aS, .ref aH, .int (iZ (n))]), (aK, ei g 100 K), (aV, ei g 100 V), (aP, ei g 100 P), (aM, ez g 100 M), (aL, ei g 101 LB), (aS, ei g 101 SB), (aH, ei g 101 HB), (oR, eo 2 [.ref aW, .ref aT]), (aW, ei g 50 W), (aT, ei g 3 T), (hL, eo 1 [.int (iZ (l2)), .int (iZ (u2)), .int (iZ (k2)), .int (iZ (d2))])] [(4, .int (iZ (f))), (3, .int (iZ (mt))), (0, .ref hS), (1, .int (iZ (ps))), (2, .int (iZ (ex)))] 37 [] := by
    intro fu
    induction fu with
    | zero => intro f C2 N2 l2 u2 k2 d2; intros; omega
    | succ fu ih_37 =>
      intro f C2 N2 l2 u2 k2 d2 hf hT hn
      have hle := zLe_e f
      refine z_iload hC 0 dX3_findsWay_37 rfl ?_
      refine z_iconst hC dX3_findsWay_39 ?_
      refine z_icmp_lt hC 75 dX3_findsWay_40 (by decide) (by omega) (by omega) (fun c_40 => ?_) (fun c_40 => ?_)
      ·
        refine z_aload_n hC 2 dX3_findsWay_75 rfl rfl ?_
        refine z_get hC iX3_findsWay_3 0 3 rfl rfl (by decide) mX3_findsWay_f20 rfl dX3_findsWay_76 ?_
        refine z_iconst hC dX3_findsWay_79 ?_
        refine z_iconst hC dX3_findsWay_80 ?_
        refine z_iconst hC dX3_findsWay_81 ?_
        refine z_sRi hC 3 (c_X3_cellOf (xl X) g _ _ _) gX3_findsWay_X3_cellOf rfl hd_X3_cellOf_s (by decide) ⟨rfl, rfl⟩ [] (by decide) rfl rfl rfl (Nat.le_of_ble_eq_true rfl) dX3_findsWay_82 (by decide) ?_
        have hle := zLe_e (-1)
        have hC0 := hT.1 (-1) 0 0 (by omega) (by omega) (Or.inl rfl) (by omega) (by omega) (by omega) (by omega)
        have hb0 := zVL_in hB (i := 0) (by omega) (-1) 0
        have hc0 := zCc_in hB (by omega) hb0 hC0
        refine z_lald hC 1 rfl (by omega) (by decide) dX3_findsWay_85 ?_
        refine z_ldc2 hC (9223372036854775807) mX3_findsWay_k70 (by decide) dX3_findsWay_86 ?_
        refine z_lc_eq hC 97 dX3_findsWay_89 dX3_findsWay_90 (by decide) (by omega) (by omega) (fun c_89 => ?_) (fun c_89 => ?_)
        ·
          refine z_iconst hC dX3_findsWay_97 ?_
          exact hR (C2, N2, l2, u2, k2, d2, 0) _ _ _ [0, 1, 2, 3, 4, 5, 6, 7, 8, 9, 10, 11, 12, 13, 14] _ ⟨by rw [show f = -2 by omega] at hT; exact hT.1, by first | exact b2_1' (fun q => c_89 (hC0.1 q)) | exact b2_0' (fun q => by have := (hC0.2 q).1; unfold zNb at hb0; omega)⟩ rfl (by decide) rfl dX3_findsWay_98
        ·
          refine z_iconst hC dX3_findsWay_93 ?_
          refine z_goto (tgt := 98) hC dX3_findsWay_94 (by decide) ?_
          exact hR (C2, N2, l2, u2, k2, d2, 1) _ _ _ [0, 1, 2, 3, 4, 5, 6, 7, 8, 9, 10, 11, 12, 13, 14] _ ⟨by rw [show f = -2 by omega] at hT; exact hT.1, by first | exact b2_1' (fun q => c_89 (hC0.1 q)) | exact b2_0' (fun q => by have := (hC0.2 q).1; unfold zNb at hb0; omega)⟩ rfl (by decide) rfl dX3_findsWay_98
      ·
        refine z_iload hC 0 dX3_findsWay_43 rfl ?_
        refine z_iconst hC dX3_findsWay_45 ?_
        refine z_icmp_eq hC 62 dX3_findsWay_46 (by decide) (by omega) (by omega) (fun c_46 => ?_) (fun c_46 => ?_)
        ·
          refine z_aload_n hC 2 dX3_findsWay_62 rfl rfl ?_
          refine z_iload hC 0 dX3_findsWay_63 rfl ?_
          refine z_iload_n hC 1 dX3_findsWay_65 rfl rfl ?_
          refine z_vWv (wr := []) hC 2 (c_X3_tryLinesBehind (xl X) g _ _ _ _ _ _ _ _ _ _ _ _ _ _ _ _ _ _ _ _ _ _ _ _ _ _ _ _ _ _ _ _ mt ex d _ h1 (by omega) (fun i c g1 g2 g3 g4 => hT.2.1 f i c (by omega) (by omega) (by omega) (by omega) g3 g4) (fw_rst (by rw [hd]; rfl) (by omega) hT)) gX3_findsWay_X3_tryLinesBehind rfl hd_X3_tryLinesBehind_v (by decide) ⟨rfl, rfl⟩ [0, 1, 2, 3, 4, 5, 6, 7, 8, 9, 10, 11, 12, 13, 14] [] (by decide) rfl rfl (by decide) (by decide) 0 3 rfl rfl rfl rfl rfl (Nat.le_of_ble_eq_true rfl) dX3_findsWay_66 (by decide) (fun u_66 p_66 => ?_)
          obtain ⟨C1_66, N1_66, l1_66, u1_66, k1_66, d1_66⟩ := u_66
          try dsimp only at p_66
          refine z_ws (ws' := [(hS, eo 3 [.ref hI, .ref oR, .ref hL, .ref aC, .ref aN, .int (iZ (ps))]), (aC, el g 20808 C1_66), (aN, eb g 20808 N1_66), (hI, eo 0 [.ref aK, .ref aV, .ref aP, .ref aM, .ref aL, .ref aS, .ref aH, .int (iZ (n))]), (aK, ei g 100 K), (aV, ei g 100 V), (aP, ei g 100 P), (aM, ez g 100 M), (aL, ei g 101 LB), (aS, ei g 101 SB), (aH, ei g 101 HB), (oR, eo 2 [.ref aW, .ref aT]), (aW, ei g 50 W), (aT, ei g 3 T), (hL, eo 1 [.int (iZ (l1_66)), .int (iZ (u1_66)), .int (iZ (k1_66)), .int (iZ (d1_66))])]) [0, 1, 2, 3, 4, 5, 6, 7, 8, 9, 10, 11, 12, 13, 14] (by decide) rfl ?_
          refine z_iinc hC (lv' := [(4, _), (3, _), (0, _), (1, _), (2, _)]) 0 dX3_findsWay_69 rfl (by decide) rfl ?_
          refine z_goto (tgt := 37) hC dX3_findsWay_72 (by decide) ?_
          exact ih_37 (f - 1) _ _ _ _ _ _ (by omega) (fw_go (by omega) hT p_66.1 p_66.2) (by omega)
        ·
          refine z_aload_n hC 2 dX3_findsWay_49 rfl rfl ?_
          refine z_get hC iX3_findsWay_3 0 0 rfl rfl (by decide) mX3_findsWay_f28 rfl dX3_findsWay_50 ?_
          refine z_iload hC 0 dX3_findsWay_53 rfl ?_
          refine z_iload_n hC 1 dX3_findsWay_55 rfl rfl ?_
          refine z_vnRi hC 2 (c_X0_mayBreakAt (xl X) g _ _ _ _ _ _ _ _ _ _ _ _ _ _ _ _ _ _ hI1 (by omega) hI6) gX3_findsWay_X0_mayBreakAt_n58 nm_RX3_58 mX3_findsWay_iniRX0 mX3_findsWay_im_X0_mayBreakAt mX3_findsWay_se_X0_mayBreakAt rfl hd_X0_mayBreakAt_s (by decide) ⟨rfl, rfl⟩ [3, 4, 5, 6, 7, 8, 9, 10] (by decide) rfl 3 0 rfl rfl rfl rfl rfl (Nat.le_of_ble_eq_true rfl) dX3_findsWay_56 (by decide) ?_
          refine z_if_eq hC 69 dX3_findsWay_59 (by decide) (b2_r _) (fun c_59 => ?_) (fun c_59 => ?_)
          ·
            have c_59 := b2_f c_59
            refine z_iinc hC (lv' := [(4, _), (3, _), (0, _), (1, _), (2, _)]) 0 dX3_findsWay_69 rfl (by decide) rfl ?_
            refine z_goto (tgt := 37) hC dX3_findsWay_72 (by decide) ?_
            exact ih_37 (f - 1) _ _ _ _ _ _ (by omega) (fw_no hT (by rintro (q | q); exact c_46 q; exact c_59 q)) (by omega)
          ·
            have c_59 := b2_t c_59
            refine z_aload_n hC 2 dX3_findsWay_62 rfl rfl ?_
            refine z_iload hC 0 dX3_findsWay_63 rfl ?_
            refine z_iload_n hC 1 dX3_findsWay_65 rfl rfl ?_
            refine z_vWv (wr := []) hC 2 (c_X3_tryLinesBehind (xl X) g _ _ _ _ _ _ _ _ _ _ _ _ _ _ _ _ _ _ _ _ _ _ _ _ _ _ _ _ _ _ _ _ mt ex d _ h1 (by omega) (fun i c g1 g2 g3 g4 => hT.2.1 f i c (by omega) (by omega) (by omega) (by omega) g3 g4) (fw_rst (by rw [hd]; rfl) (by omega) hT)) gX3_findsWay_X3_tryLinesBehind rfl hd_X3_tryLinesBehind_v (by decide) ⟨rfl, rfl⟩ [0, 1, 2, 3, 4, 5, 6, 7, 8, 9, 10, 11, 12, 13, 14] [] (by decide) rfl rfl (by decide) (by decide) 0 3 rfl rfl rfl rfl rfl (Nat.le_of_ble_eq_true rfl) dX3_findsWay_66 (by decide) (fun u_66 p_66 => ?_)
            obtain ⟨C1_66, N1_66, l1_66, u1_66, k1_66, d1_66⟩ := u_66
            try dsimp only at p_66
            refine z_ws (ws' := [(hS, eo 3 [.ref hI, .ref oR, .ref hL, .ref aC, .ref aN, .int (iZ (ps))]), (aC, el g 20808 C1_66), (aN, eb g 20808 N1_66), (hI, eo 0 [.ref aK, .ref aV, .ref aP, .ref aM, .ref aL, .ref aS, .ref aH, .int (iZ (n))]), (aK, ei g 100 K), (aV, ei g 100 V), (aP, ei g 100 P), (aM, ez g 100 M), (aL, ei g 101 LB), (aS, ei g 101 SB), (aH, ei g 101 HB), (oR, eo 2 [.ref aW, .ref aT]), (aW, ei g 50 W), (aT, ei g 3 T), (hL, eo 1 [.int (iZ (l1_66)), .int (iZ (u1_66)), .int (iZ (k1_66)), .int (iZ (d1_66))])]) [0, 1, 2, 3, 4, 5, 6, 7, 8, 9, 10, 11, 12, 13, 14] (by decide) rfl ?_
            refine z_iinc hC (lv' := [(4, _), (3, _), (0, _), (1, _), (2, _)]) 0 dX3_findsWay_69 rfl (by decide) rfl ?_
            refine z_goto (tgt := 37) hC dX3_findsWay_72 (by decide) ?_
            exact ih_37 (f - 1) _ _ _ _ _ _ (by omega) (fw_go (by omega) hT p_66.1 p_66.2) (by omega)
  exact L37 _ (n - 1) _ _ _ _ _ _ (by omega) (fw_0 (by rw [hd]; rfl) (by rw [hd]; rfl) (by omega) hI8 (fun x g1 g2 => (p_6 x).1 ⟨g1, g2⟩) p_11.1 p_11.2) (Nat.lt_succ_self _)
end
section
theorem zSt_in {K : Int → Int} {n a : Int} (h0 : 0 ≤ n) (h : -1 ≤ a ∧ (a < n ∨ a < 0)) : 0 ≤ zSt K n a ∧ zSt K n a ≤ n := by
  unfold zSt
  split
  · omega
  · have := nb_le (K := K) (e := n) (j := a + 1) (by omega); omega
theorem zPth_cl {n : Int} {K V P M LB SB HB W : Int → Int} {tol mo mt ex : Int} (j : Nat) : 0 ≤ (zPth (zMk n K V P M LB SB HB W tol mo mt ex) j).2 ∧ (zPth (zMk n K V P M LB SB HB W tol mo mt ex) j).2 ≤ 3 := by
  cases j with
  | zero => show (0 : Int) ≤ 0 ∧ (0 : Int) ≤ 3; omega
  | succ j => exact zCl_in
theorem zPth_may {n : Int} {K V P M LB SB HB W : Int → Int} {tol mo mt ex : Int} {d : zDP} (hd : d = zMk n K V P M LB SB HB W tol mo mt ex) (hB : zDb d) (hn : 0 ≤ n) (h0 : (zVL d 0 (-1) 0).2.1 ≠ 0) (j : Nat) (hj : (j : Int) < (zVL d 0 (-1) 0).2.1) (h1 : 0 < j) : zMay K V M n (zPth d j).1 mt := by
  obtain ⟨i, rfl⟩ : ∃ i, j = i + 1 := ⟨j - 1, by omega⟩
  have hf := zPth_fit hB (by rw [hd]; exact hn) h0 i (by omega)
  subst hd
  exact hf.2.1
theorem zPth_rg {d : zDP} (hB : zDb d) (hn : 0 ≤ d.1) (h0 : (zVL d 0 (-1) 0).2.1 ≠ 0) (j : Nat) (hj : (j : Int) ≤ (zVL d 0 (-1) 0).2.1) : -1 ≤ (zPth d j).1 ∧ (zPth d j).1 ≤ d.1 := by
  by_cases q : (j : Int) < (zVL d 0 (-1) 0).2.1
  · have := zPth_ok hB hn h0 j q
    omega
  · by_cases z : j = 0
    · subst z; show (-1 : Int) ≤ -1 ∧ (-1 : Int) ≤ d.1; omega
    · obtain ⟨i, rfl⟩ : ∃ i, j = i + 1 := ⟨j - 1, by omega⟩
      have := zPth_end hB hn h0 i (by omega)
      omega
theorem nm_RX3_138 : (RX3, 138, yX4_forget, "BreakSearch") ∈ zNM := by decide +kernel
theorem hd_X4_forget_s : yX4_forget.cls ≠ "java/lang/invoke/MethodHandle" ∧ yX4_forget.cls ≠ "java/lang/invoke/VarHandle" ∧ (parseMethodDescriptor yX4_forget.desc).map (fun d => d.parameters.length) = some 0 := by decide +kernel
theorem nf_RX3_143 : (RX3, 143, "BreakSearch$Way", "pass", "I", "BreakSearch") ∈ zNF := by decide +kernel
theorem hd_J9_floorDiv_f86c9_s : yJ9_floorDiv_f86c9.cls ≠ "java/lang/invoke/MethodHandle" ∧ yJ9_floorDiv_f86c9.cls ≠ "java/lang/invoke/VarHandle" ∧ (parseMethodDescriptor yJ9_floorDiv_f86c9.desc).map (fun d => d.parameters.length) = some 2 := by decide +kernel
theorem nf_RX3_148 : (RX3, 148, "BreakSearch$Way", "demerits", "J", "BreakSearch") ∈ zNF := by decide +kernel
theorem nm_RX3_152 : (RX3, 152, yX4_append, "BreakSearch") ∈ zNM := by decide +kernel
theorem hd_X4_append_s : yX4_append.cls ≠ "java/lang/invoke/MethodHandle" ∧ yX4_append.cls ≠ "java/lang/invoke/VarHandle" ∧ (parseMethodDescriptor yX4_append.desc).map (fun d => d.parameters.length) = some 2 := by decide +kernel
set_option maxRecDepth 20000 in
theorem mX3_tell_iniRX4 : Cond.initialized RX4 ∈ wsX3_tell := by decide +kernel
set_option maxRecDepth 20000 in
theorem mX3_tell_im_X4_forget : Cond.instanceMethod yX4_forget ∈ wsX3_tell := by decide +kernel
set_option maxRecDepth 20000 in
theorem mX3_tell_se_X4_forget : Cond.selects RX4 yX4_forget yX4_forget ∈ wsX3_tell := by decide +kernel
set_option maxRecDepth 20000 in
theorem mX3_tell_f36 : Cond.fieldLink RX3 36 "BreakSearch$Search" "pass" "I" ∈ wsX3_tell := by decide +kernel
set_option maxRecDepth 20000 in
theorem iX3_tell_3 : ∀ w ∈ u_ws RX3 TX3 6, w ∈ wsX3_tell := by decide +kernel
set_option maxRecDepth 20000 in
theorem iX3_tell_4 : ∀ w ∈ u_ws RX4 TX4 7, w ∈ wsX3_tell := by decide +kernel
set_option maxRecDepth 20000 in
theorem mX3_tell_f20 : Cond.fieldLink RX3 20 "BreakSearch$Search" "costs" "[J" ∈ wsX3_tell := by decide +kernel
set_option maxRecDepth 20000 in
theorem mX3_tell_k112 : Cond.constantLong RX3 112 (64) ∈ wsX3_tell := by decide +kernel
set_option maxRecDepth 20000 in
theorem mX3_tell_f28 : Cond.fieldLink RX3 28 "BreakSearch$Search" "items" "LBreakSearch$Items;" ∈ wsX3_tell := by decide +kernel
set_option maxRecDepth 20000 in
theorem iX3_tell_0 : ∀ w ∈ u_ws RX0 TX0 8, w ∈ wsX3_tell := by decide +kernel
set_option maxRecDepth 20000 in
theorem mX3_tell_f24 : Cond.fieldLink RX3 24 "BreakSearch$Search" "nextBreaks" "[B" ∈ wsX3_tell := by decide +kernel
set_option maxRecDepth 20000 in
theorem mX3_tell_f16 : Cond.fieldLink RX3 16 "BreakSearch$Search" "line" "LBreakSearch$Line;" ∈ wsX3_tell := by decide +kernel
set_option maxRecDepth 20000 in
theorem mX3_tell_iniRX0 : Cond.initialized RX0 ∈ wsX3_tell := by decide +kernel
set_option maxRecDepth 20000 in
theorem mX3_tell_im_X0_startBehind : Cond.instanceMethod yX0_startBehind ∈ wsX3_tell := by decide +kernel
set_option maxRecDepth 20000 in
theorem mX3_tell_se_X0_startBehind : Cond.selects RX0 yX0_startBehind yX0_startBehind ∈ wsX3_tell := by decide +kernel
set_option maxRecDepth 20000 in
theorem mX3_tell_f32 : Cond.fieldLink RX3 32 "BreakSearch$Search" "rules" "LBreakSearch$Rules;" ∈ wsX3_tell := by decide +kernel
set_option maxRecDepth 20000 in
theorem iX3_tell_2 : ∀ w ∈ u_ws RX2 TX2 2, w ∈ wsX3_tell := by decide +kernel
set_option maxRecDepth 20000 in
theorem mX3_tell_iniRX2 : Cond.initialized RX2 ∈ wsX3_tell := by decide +kernel
set_option maxRecDepth 20000 in
theorem mX3_tell_im_X2_moreStretchIn : Cond.instanceMethod yX2_moreStretchIn ∈ wsX3_tell := by decide +kernel
set_option maxRecDepth 20000 in
theorem mX3_tell_se_X2_moreStretchIn : Cond.selects RX2 yX2_moreStretchIn yX2_moreStretchIn ∈ wsX3_tell := by decide +kernel
set_option maxRecDepth 20000 in
theorem mX3_tell_iniRX1 : Cond.initialized RX1 ∈ wsX3_tell := by decide +kernel
set_option maxRecDepth 20000 in
theorem mX3_tell_im_X1_measure : Cond.instanceMethod yX1_measure ∈ wsX3_tell := by decide +kernel
set_option maxRecDepth 20000 in
theorem mX3_tell_se_X1_measure : Cond.selects RX1 yX1_measure yX1_measure ∈ wsX3_tell := by decide +kernel
set_option maxRecDepth 20000 in
theorem mX3_tell_im_X4_append : Cond.instanceMethod yX4_append ∈ wsX3_tell := by decide +kernel
set_option maxRecDepth 20000 in
theorem mX3_tell_se_X4_append : Cond.selects RX4 yX4_append yX4_append ∈ wsX3_tell := by decide +kernel
set_option maxRecDepth 20000 in
theorem iX3_tell_1 : ∀ w ∈ u_ws RX1 TX1 4, w ∈ wsX3_tell := by decide +kernel
abbrev rm_X3_tell : Room := { frames := 4, cells := 0, slots := 0, locals := 97 }
set_option maxHeartbeats 4000000 in
set_option maxRecDepth 100000 in
theorem c_X3_tell (l : Launch) (g : zG) (hS aC aN : Nat) (ps : Int) (C N : Int → Int) (hI aK aV aP aM aL aS aH : Nat) (n : Int) (K V P M LB SB HB : Int → Int) (oR aW aT : Nat) (W T : Int → Int) (hL : Nat) (k ug lo sd : Int) (hY aE aQ aB aU : Nat) (tc tp td : Int) (E Q B U : Int → Int) (mt ex : Int) (d : zDP) (h1 : zEnv n K V P M LB SB HB W T ps mt ex d) (h2 : zTab d K V M n mt C N) (h3 : ¬ (zVL d 0 (-1) 0).2.1 = 0) : zMWv (S := (Int) × (Int) × (Int) × (Int) × (Int → Int) × (Int → Int) × (Int → Int) × (Int → Int) × (Int)) l yX3_tell wsX3_tell rm_X3_tell g [(hS, eo 3 [.ref hI, .ref oR, .ref hL, .ref aC, .ref aN, .int (iZ (ps))]), (aC, el g 20808 C), (aN, eb g 20808 N), (hI, eo 0 [.ref aK, .ref aV, .ref aP, .ref aM, .ref aL, .ref aS, .ref aH, .int (iZ (n))]), (aK, ei g 100 K), (aV, ei g 100 V), (aP, ei g 100 P), (aM, ez g 100 M), (aL, ei g 101 LB), (aS, ei g 101 SB), (aH, ei g 101 HB), (oR, eo 2 [.ref aW, .ref aT]), (aW, ei g 50 W), (aT, ei g 3 T), (hL, eo 1 [.int (iZ (k)), .int (iZ (ug)), .int (iZ (lo)), .int (iZ (sd))]), (hY, eo 4 [.ref aE, .ref aQ, .ref aB, .ref aU, .int (iZ (tc)), .int (iZ (tp)), .long (lZ (td))]), (aE, ei g 50 E), (aQ, ei g 50 Q), (aB, ei g 50 B), (aU, ei g 50 U)] [.ref hS, .ref hY] (fun u => u.2.2.2.2.2.2.2.2 = (zVL d 0 (-1) 0).2.1 ∧ zWay n K P LB SB HB W (if ps = 3 then T 2 else 0) d u.2.2.2.2.2.2.2.2 u.2.2.2.2.1 u.2.2.2.2.2.1 u.2.2.2.2.2.2.1 u.2.2.2.2.2.2.2.1) (fun u => [(hS, eo 3 [.ref hI, .ref oR, .ref hL, .ref aC, .ref aN, .int (iZ (ps))]), (aC, el g 20808 C), (aN, eb g 20808 N), (hI, eo 0 [.ref aK, .ref aV, .ref aP, .ref aM, .ref aL, .ref aS, .ref aH, .int (iZ (n))]), (aK, ei g 100 K), (aV, ei g 100 V), (aP, ei g 100 P), (aM, ez g 100 M), (aL, ei g 101 LB), (aS, ei g 101 SB), (aH, ei g 101 HB), (oR, eo 2 [.ref aW, .ref aT]), (aW, ei g 50 W), (aT, ei g 3 T), (hL, eo 1 [.int (iZ (u.1)), .int (iZ (u.2.1)), .int (iZ (u.2.2.1)), .int (iZ (u.2.2.2.1))]), (hY, eo 4 [.ref aE, .ref aQ, .ref aB, .ref aU, .int (iZ (u.2.2.2.2.2.2.2.2)), .int (iZ (ps)), .long (lZ ((zVL d 0 (-1) 0).1))]), (aE, ei g 50 u.2.2.2.2.1), (aQ, ei g 50 u.2.2.2.2.2.1), (aB, ei g 50 u.2.2.2.2.2.2.1), (aU, ei g 50 u.2.2.2.2.2.2.2.1)]) 0 0 := by
  refine z_beWv (cc := cX3_tell) (nL := 6) (plainFor_of_name (by decide +kernel)) rfl (Nat.le_of_ble_eq_true rfl) ?_
  intro X A hC hN hR
  have hC : zC X g cX3_tell RX3 wsX3_tell rm_X3_tell 6 := hC
  show ZG X g (zD X A) 0 0 [(hS, eo 3 [.ref hI, .ref oR, .ref hL, .ref aC, .ref aN, .int (iZ (ps))]), (aC, el g 20808 C), (aN, eb g 20808 N), (hI, eo 0 [.ref aK, .ref aV, .ref aP, .ref aM, .ref aL, .ref aS, .ref aH, .int (iZ (n))]), (aK, ei g 100 K), (aV, ei g 100 V), (aP, ei g 100 P), (aM, ez g 100 M), (aL, ei g 101 LB), (aS, ei g 101 SB), (aH, ei g 101 HB), (oR, eo 2 [.ref aW, .ref aT]), (aW, ei g 50 W), (aT, ei g 3 T), (hL, eo 1 [.int (iZ (k)), .int (iZ (ug)), .int (iZ (lo)), .int (iZ (sd))]), (hY, eo 4 [.ref aE, .ref aQ, .ref aB, .ref aU, .int (iZ (tc)), .int (iZ (tp)), .long (lZ (td))]), (aE, ei g 50 E), (aQ, ei g 50 Q), (aB, ei g 50 B), (aU, ei g 50 U)] [(0, .ref hS), (1, .ref hY)] 0 []
  have hB := zEnv_b h1
  obtain ⟨hI1, hI2, hI3, hI4, hI5, hI6, hI7, hI8, hd⟩ := id h1
  have hn := hI1.1
  have hT : zT1 d K V M n mt (-2) C N := h2
  have h0 : (zVL d 0 (-1) 0).2.1 ≠ 0 := h3
  have hd1 : d.1 = n := by rw [hd]; rfl
  have hb0 := zVL_in hB (i := 0) (by omega) (-1) 0
  unfold zNb at hb0
  have hlm := zLe_e (-1)
  have hC0 := ((hT (-1) 0 0 (by omega) (by omega) (Or.inl rfl) (by omega) (by omega) (by omega) (by omega)).2 h0).1
  refine z_aload_n hC 1 dX3_tell_0 rfl rfl ?_
  refine z_vnWv (wr := [_, _, _, _, _, _, _, _, _, _, _, _, _, _, _]) hC 0 (c_X4_forget (xl X) g _ _ _ _ _ _ _ _ _ _ _ _) gX3_tell_X4_forget_n138 nm_RX3_138 mX3_tell_iniRX4 mX3_tell_im_X4_forget mX3_tell_se_X4_forget rfl hd_X4_forget_s (by decide) ⟨rfl, rfl⟩ [15, 16, 17, 18, 19] [0, 1, 2, 3, 4, 5, 6, 7, 8, 9, 10, 11, 12, 13, 14] (by decide) rfl rfl (by decide) (by decide) 15 4 rfl rfl rfl rfl rfl (Nat.le_of_ble_eq_true rfl) dX3_tell_1 (by decide) (fun u_1 p_1 => ?_)
  refine z_ws (ws' := [(hS, eo 3 [.ref hI, .ref oR, .ref hL, .ref aC, .ref aN, .int (iZ (ps))]), (aC, el g 20808 C), (aN, eb g 20808 N), (hI, eo 0 [.ref aK, .ref aV, .ref aP, .ref aM, .ref aL, .ref aS, .ref aH, .int (iZ (n))]), (aK, ei g 100 K), (aV, ei g 100 V), (aP, ei g 100 P), (aM, ez g 100 M), (aL, ei g 101 LB), (aS, ei g 101 SB), (aH, ei g 101 HB), (oR, eo 2 [.ref aW, .ref aT]), (aW, ei g 50 W), (aT, ei g 3 T), (hL, eo 1 [.int (iZ (k)), .int (iZ (ug)), .int (iZ (lo)), .int (iZ (sd))]), (hY, eo 4 [.ref aE, .ref aQ, .ref aB, .ref aU, .int (iZ (0)), .int (iZ (0)), .long (lZ (0))]), (aE, ei g 50 E), (aQ, ei g 50 Q), (aB, ei g 50 B), (aU, ei g 50 U)]) [0, 1, 2, 3, 4, 5, 6, 7, 8, 9, 10, 11, 12, 13, 14, 15, 16, 17, 18, 19] (by decide) rfl ?_
  refine z_aload_n hC 1 dX3_tell_4 rfl rfl ?_
  refine z_aload_n hC 0 dX3_tell_5 rfl rfl ?_
  refine z_get hC iX3_tell_3 0 5 rfl rfl (by decide) mX3_tell_f36 rfl dX3_tell_6 ?_
  refine z_putN hC iX3_tell_4 tyX4 tyX4_ok nmX4 15 5 rfl rfl (by decide) nf_RX3_143 rfl rfl rfl (Nat.le_of_ble_eq_true rfl) dX3_tell_9 (ws' := [_, _, _, _, _, _, _, _, _, _, _, _, _, _, _, _, _, _, _, _]) rfl ?_
  refine z_aload_n hC 1 dX3_tell_12 rfl rfl ?_
  refine z_aload_n hC 0 dX3_tell_13 rfl rfl ?_
  refine z_get hC iX3_tell_3 0 3 rfl rfl (by decide) mX3_tell_f20 rfl dX3_tell_14 ?_
  refine z_iconst hC dX3_tell_17 ?_
  refine z_iconst hC dX3_tell_18 ?_
  refine z_iconst hC dX3_tell_19 ?_
  refine z_sRi hC 3 (c_X3_cellOf (xl X) g _ _ _) gX3_tell_X3_cellOf rfl hd_X3_cellOf_s (by decide) ⟨rfl, rfl⟩ [] (by decide) rfl rfl rfl (Nat.le_of_ble_eq_true rfl) dX3_tell_20 (by decide) ?_
  refine z_lald hC 1 rfl (by omega) (by decide) dX3_tell_23 ?_
  refine z_topl (b := 64 * (zVL d 0 (-1) 0).1 + (zVL d 0 (-1) 0).2.1) hC0 ?_
  refine z_ldc2 hC (64) mX3_tell_k112 (by decide) dX3_tell_24 ?_
  refine z_sRl hC 2 (c_J9_floorDiv_f86c9 (xl X) g _ (by omega)) gX3_tell_J9_floorDiv_f86c9 rfl hd_J9_floorDiv_f86c9_s (by decide) ⟨rfl, rfl⟩ [] (by decide) rfl rfl rfl (Nat.le_of_ble_eq_true rfl) dX3_tell_27 (by decide) ?_
  refine z_topl (b := (zVL d 0 (-1) 0).1) (by omega) ?_
  refine z_putN hC iX3_tell_4 tyX4 tyX4_ok nmX4 15 6 rfl rfl (by decide) nf_RX3_148 rfl rfl rfl (Nat.le_of_ble_eq_true rfl) dX3_tell_30 (ws' := [_, _, _, _, _, _, _, _, _, _, _, _, _, _, _, _, _, _, _, _]) rfl ?_
  refine z_iconst hC dX3_tell_33 ?_
  refine z_istore_n hC (lv' := [(2, _), (0, _), (1, _)]) dX3_tell_34 rfl (by decide) rfl ?_
  refine z_iconst hC dX3_tell_35 ?_
  refine z_istore_n hC (lv' := [(3, _), (2, _), (0, _), (1, _)]) dX3_tell_36 rfl (by decide) rfl ?_
  refine z_iconst hC dX3_tell_37 ?_
  refine z_istore hC (lv' := [(4, _), (3, _), (2, _), (0, _), (1, _)]) dX3_tell_38 (by decide) rfl ?_
  have L40 : ∀ (fu : Nat) (j : Nat) (E2 Q2 B2 U2 : Int → Int) (l2 u2 k2 d2 : Int), ((j : Int) ≤ (zVL d 0 (-1) 0).2.1) → (zWay n K P LB SB HB W (if ps = 3 then T 2 else 0) d j E2 Q2 B2 U2) → (51 - (j : Int)).toNat < fu → ZG X g (zD X A) 0 0 [(hS, eo 3 [.ref hI, .ref oR, .ref hL, .ref aC, .ref aN, .int (iZ (ps))]), (aC, el g 20808 C), (aN, eb g 20808 N), (hI, eo 0 [.ref aK, .ref aV, .ref aP, .ref aM, .ref aL, .ref aS, .ref aH, .int (iZ (n))]), (aK, ei g 100 K), (aV, ei g 100 V), (aP, ei g 100 P), (aM, ez g 100 M), (aL, ei g 101 LB), (aS, ei g 101 SB), (aH, ei g 101 HB), (oR, eo 2 [.ref aW, .ref aT]), (aW, ei g 50 W), (aT, ei g 3 T), (hL, eo 1 [.int (iZ (l2)), .int (iZ (u2)), .int (iZ (k2)), .int (iZ (d2))]), (hY, eo 4 [.ref aE, .ref aQ, .ref aB, .ref aU, .int (iZ ((j : Int))), .int (iZ (ps)), .long (lZ ((zVL d 0 (-1) 0).1))]), (aE, ei g 50 E2), (aQ, ei g 50 Q2), (aB, ei g 50 B2), (aU, ei g 50 U2)] [(2, .int (iZ ((zPth d j).1))), (3, .int (iZ ((zPth d j).2))), (4, .int (iZ ((j : Int)))), (0, .ref hS), (1, .ref hY)] 40 [] := by
    intro fu
    induction fu with
    | zero => intro j E2 Q2 B2 U2 l2 u2 k2 d2; intros; omega
    | succ fu ih_40 =>
      intro j E2 Q2 B2 U2 l2 u2 k2 d2 hj hW hn
      refine z_iload hC 2 dX3_tell_40 rfl ?_
      refine z_bip hC dX3_tell_42 (by decide) ?_
      refine z_icmp_ge hC 160 dX3_tell_44 (by decide) (by omega) (by omega) (fun c_44 => ?_) (fun c_44 => ?_)
      ·
        exact hR (l2, u2, k2, d2, E2, Q2, B2, U2, (j : Int)) _ _ _ [0, 1, 2, 3, 4, 5, 6, 7, 8, 9, 10, 11, 12, 13, 14, 15, 16, 17, 18, 19] ⟨by show (j : Int) = (zVL d 0 (-1) 0).2.1; omega, hW⟩ (by decide) rfl dX3_tell_160
      ·
        have hrg := zPth_rg hB (by omega) h0 j (by omega)
        refine z_iload_n hC 0 dX3_tell_47 rfl rfl ?_
        refine z_aload_n hC 3 dX3_tell_48 rfl rfl ?_
        refine z_get hC iX3_tell_3 0 0 rfl rfl (by decide) mX3_tell_f28 rfl dX3_tell_49 ?_
        refine z_getN hC iX3_tell_0 3 7 rfl rfl (by decide) nf_RX3_53 rfl dX3_tell_52 ?_
        refine z_icmp_ge hC 160 dX3_tell_55 (by decide) (by omega) (by omega) (fun c_55 => ?_) (fun c_55 => ?_)
        ·
          have hjL : (j : Int) = (zVL d 0 (-1) 0).2.1 := by
            by_cases q : (j : Int) < (zVL d 0 (-1) 0).2.1
            · exfalso; have := (zPth_ok hB (by omega) h0 j q).2.1; omega
            · omega
          exact hR (l2, u2, k2, d2, E2, Q2, B2, U2, (j : Int)) _ _ _ [0, 1, 2, 3, 4, 5, 6, 7, 8, 9, 10, 11, 12, 13, 14, 15, 16, 17, 18, 19] ⟨by show (j : Int) = (zVL d 0 (-1) 0).2.1; omega, hW⟩ (by decide) rfl dX3_tell_160
        ·
          have hjL : (j : Int) < (zVL d 0 (-1) 0).2.1 := by
            by_cases q : (j : Int) < (zVL d 0 (-1) 0).2.1
            · exact q
            · exfalso
              obtain ⟨i, e⟩ : ∃ i, j = i + 1 := ⟨j - 1, by omega⟩
              have := zPth_end hB (by omega) h0 i (by omega)
              rw [← e] at this
              omega
          obtain ⟨g1, g2, g3, g4, g5⟩ := zPth_ok hB (by omega) h0 j hjL
          have hft0 := zPth_fit hB (by omega) h0 j hjL
          have hft : zFit n K V P M LB SB HB W (if ps = 1 then T 0 else T 1) (if ps = 3 then T 2 else 0) mt (zPth d j).1 (zPth d (j + 1)).1 j := by rw [hd] at hft0 ⊢; exact hft0
          have hcl : 0 ≤ (zPth d j).2 ∧ (zPth d j).2 ≤ 3 := by rw [hd]; exact zPth_cl j
          have hle := zLe_e (zPth d j).1
          have hab := hft.1
          have hmy : (zPth d j).1 = -1 ∨ zMay K V M n (zPth d j).1 mt := by
            by_cases q : j = 0
            · exact Or.inl (g5 q)
            · exact Or.inr (zPth_may hd hB (by omega) h0 j hjL (by omega))
          have hg4 : (zPth d j).1 = -1 ∧ j = 0 ∨ 0 ≤ (zPth d j).1 ∧ (j : Int) ≤ (zPth d j).1 + 1 := by
            by_cases q : j = 0
            · exact Or.inl ⟨g5 q, q⟩
            · exact Or.inr (g4 (by omega))
          have hcell := (hT (zPth d j).1 j (zPth d j).2 (by omega) (by omega) hmy (by omega) (by omega) hcl.1 hcl.2).2 (by omega)
          have hWj := hI3 j (by omega) (by omega)
          have hzs := zSt_in (K := K) (n := n) (a := (zPth d j).1) (by omega) (by omega)
          refine z_aload_n hC 3 dX3_tell_58 rfl rfl ?_
          refine z_get hC iX3_tell_3 0 4 rfl rfl (by decide) mX3_tell_f24 rfl dX3_tell_59 ?_
          refine z_iload_n hC 0 dX3_tell_62 rfl rfl ?_
          refine z_iload hC 2 dX3_tell_63 rfl ?_
          refine z_iload_n hC 1 dX3_tell_65 rfl rfl ?_
          refine z_sRi hC 3 (c_X3_cellOf (xl X) g _ _ _) gX3_tell_X3_cellOf rfl hd_X3_cellOf_s (by decide) ⟨rfl, rfl⟩ [] (by decide) rfl rfl rfl (Nat.le_of_ble_eq_true rfl) dX3_tell_66 (by decide) ?_
          refine z_bald hC 2 rfl (by omega) (by decide) dX3_tell_69 ?_
          refine z_top (b := (zPth d (j + 1)).1) hcell.2 ?_
          refine z_istore hC (lv' := [(5, _), (2, _), (3, _), (4, _), (0, _), (1, _)]) dX3_tell_70 (by decide) rfl ?_
          refine z_iload hC 0 dX3_tell_72 rfl ?_
          refine z_iload_n hC 1 dX3_tell_74 rfl rfl ?_
          refine z_icmp_le hC 90 dX3_tell_75 (by decide) (by omega) (by omega) (fun c_75 => ?_) (fun c_75 => ?_)
          ·
            exfalso; omega
          ·
            refine z_iload hC 0 dX3_tell_78 rfl ?_
            refine z_aload_n hC 4 dX3_tell_80 rfl rfl ?_
            refine z_get hC iX3_tell_3 0 0 rfl rfl (by decide) mX3_tell_f28 rfl dX3_tell_81 ?_
            refine z_getN hC iX3_tell_0 3 7 rfl rfl (by decide) nf_RX3_53 rfl dX3_tell_84 ?_
            refine z_icmp_le hC 91 dX3_tell_87 (by decide) (by omega) (by omega) (fun c_87 => ?_) (fun c_87 => ?_)
            ·
              refine z_aload_n hC 4 dX3_tell_91 rfl rfl ?_
              refine z_get hC iX3_tell_3 0 2 rfl rfl (by decide) mX3_tell_f16 rfl dX3_tell_92 ?_
              refine z_aload_n hC 4 dX3_tell_95 rfl rfl ?_
              refine z_get hC iX3_tell_3 0 0 rfl rfl (by decide) mX3_tell_f28 rfl dX3_tell_96 ?_
              refine z_aload_n hC 4 dX3_tell_99 rfl rfl ?_
              refine z_get hC iX3_tell_3 0 0 rfl rfl (by decide) mX3_tell_f28 rfl dX3_tell_100 ?_
              refine z_iload_n hC 1 dX3_tell_103 rfl rfl ?_
              refine z_vnRi hC 1 (c_X0_startBehind (xl X) g _ _ _ _ _ _ _ _ _ _ _ _ _ _ _ _ _ hI1 (by omega)) gX3_tell_X0_startBehind_n72 nm_RX3_72 mX3_tell_iniRX0 mX3_tell_im_X0_startBehind mX3_tell_se_X0_startBehind rfl hd_X0_startBehind_s (by decide) ⟨rfl, rfl⟩ [3, 4, 5, 6, 7, 8, 9, 10] (by decide) rfl 3 0 rfl rfl rfl rfl rfl (Nat.le_of_ble_eq_true rfl) dX3_tell_104 (by decide) ?_
              refine z_iload hC 0 dX3_tell_107 rfl ?_
              refine z_aload_n hC 4 dX3_tell_109 rfl rfl ?_
              refine z_get hC iX3_tell_3 0 1 rfl rfl (by decide) mX3_tell_f32 rfl dX3_tell_110 ?_
              refine z_getN hC iX3_tell_2 11 0 rfl rfl (by decide) nf_RX3_95 rfl dX3_tell_113 ?_
              refine z_iload hC 3 dX3_tell_116 rfl ?_
              refine z_iald hC 12 rfl (by omega) (by decide) dX3_tell_118 ?_
              refine z_aload_n hC 4 dX3_tell_119 rfl rfl ?_
              refine z_get hC iX3_tell_3 0 1 rfl rfl (by decide) mX3_tell_f32 rfl dX3_tell_120 ?_
              refine z_aload_n hC 4 dX3_tell_123 rfl rfl ?_
              refine z_get hC iX3_tell_3 0 5 rfl rfl (by decide) mX3_tell_f36 rfl dX3_tell_124 ?_
              refine z_vnRi hC 1 (c_X2_moreStretchIn (xl X) g _ _ _ _ _ _ (by omega)) gX3_tell_X2_moreStretchIn_n86 nm_RX3_86 mX3_tell_iniRX2 mX3_tell_im_X2_moreStretchIn mX3_tell_se_X2_moreStretchIn rfl hd_X2_moreStretchIn_s (by decide) ⟨rfl, rfl⟩ [11, 12, 13] (by decide) rfl 11 2 rfl rfl rfl rfl rfl (Nat.le_of_ble_eq_true rfl) dX3_tell_127 (by decide) ?_
              refine z_vnWv (wr := [_, _, _, _, _, _, _, _, _, _, _]) hC 5 (c_X1_measure (xl X) g _ _ _ _ _ _ _ _ _ _ _ _ _ _ _ _ _ _ _ _ _ _ _ _ _ hI1 hI2 (by omega) ⟨by omega, by split <;> omega⟩) gX3_tell_X1_measure_n99 nm_RX3_99 mX3_tell_iniRX1 mX3_tell_im_X1_measure mX3_tell_se_X1_measure rfl hd_X1_measure_s (by decide) ⟨rfl, rfl⟩ [14, 3, 4, 5, 6, 7, 8, 9, 10] [0, 1, 2, 11, 12, 13, 15, 16, 17, 18, 19] (by decide) rfl rfl (by decide) (by decide) 14 1 rfl rfl rfl rfl rfl (Nat.le_of_ble_eq_true rfl) dX3_tell_130 (by decide) (fun u_130 p_130 => ?_)
              obtain ⟨l1_130, u1_130, k1_130, d1_130⟩ := u_130
              try dsimp only at p_130
              refine z_ws (ws' := [(hS, eo 3 [.ref hI, .ref oR, .ref hL, .ref aC, .ref aN, .int (iZ (ps))]), (aC, el g 20808 C), (aN, eb g 20808 N), (hI, eo 0 [.ref aK, .ref aV, .ref aP, .ref aM, .ref aL, .ref aS, .ref aH, .int (iZ (n))]), (aK, ei g 100 K), (aV, ei g 100 V), (aP, ei g 100 P), (aM, ez g 100 M), (aL, ei g 101 LB), (aS, ei g 101 SB), (aH, ei g 101 HB), (oR, eo 2 [.ref aW, .ref aT]), (aW, ei g 50 W), (aT, ei g 3 T), (hL, eo 1 [.int (iZ (l1_130)), .int (iZ (u1_130)), .int (iZ (k1_130)), .int (iZ (d1_130))]), (hY, eo 4 [.ref aE, .ref aQ, .ref aB, .ref aU, .int (iZ ((j : Int))), .int (iZ (ps)), .long (lZ ((zVL d 0 (-1) 0).1))]), (aE, ei g 50 E2), (aQ, ei g 50 Q2), (aB, ei g 50 B2), (aU, ei g 50 U2)]) [0, 1, 2, 12, 13, 14, 15, 16, 17, 18, 19, 3, 4, 5, 11, 6, 7, 8, 9, 10] (by decide) rfl ?_
              have hm : zMeas n K P LB SB HB W (if ps = 3 then T 2 else 0) (zPth d j).1 (zPth d (j + 1)).1 j l1_130 u1_130 k1_130 d1_130 := p_130
              have hms := hm.2.1 hft.2.2.2.1
              have hk2 : k1_130 = (zPth d (j + 1)).2 := by rw [hms.2.2, hd]; rfl
              refine z_aload_n hC 5 dX3_tell_133 rfl rfl ?_
              refine z_iload hC 0 dX3_tell_134 rfl ?_
              refine z_aload_n hC 4 dX3_tell_136 rfl rfl ?_
              refine z_get hC iX3_tell_3 0 2 rfl rfl (by decide) mX3_tell_f16 rfl dX3_tell_137 ?_
              refine z_vnWv (wr := [_, _, _, _, _, _, _, _, _, _, _, _, _, _]) hC 2 (c_X4_append (xl X) g _ _ _ _ _ _ _ _ _ _ _ _ _ _ _ _ _ _ (by omega)) gX3_tell_X4_append_n152 nm_RX3_152 mX3_tell_iniRX4 mX3_tell_im_X4_append mX3_tell_se_X4_append rfl hd_X4_append_s (by decide) ⟨rfl, rfl⟩ [15, 16, 17, 18, 19, 14] [0, 1, 2, 3, 4, 5, 6, 7, 8, 9, 10, 11, 12, 13] (by decide) rfl rfl (by decide) (by decide) 15 4 rfl rfl rfl rfl rfl (Nat.le_of_ble_eq_true rfl) dX3_tell_140 (by decide) (fun u_140 p_140 => ?_)
              rcases p_140 with ⟨a_140, rfl⟩ | ⟨a_140, rfl⟩
              ·
                refine z_ws (ws' := [(hS, eo 3 [.ref hI, .ref oR, .ref hL, .ref aC, .ref aN, .int (iZ (ps))]), (aC, el g 20808 C), (aN, eb g 20808 N), (hI, eo 0 [.ref aK, .ref aV, .ref aP, .ref aM, .ref aL, .ref aS, .ref aH, .int (iZ (n))]), (aK, ei g 100 K), (aV, ei g 100 V), (aP, ei g 100 P), (aM, ez g 100 M), (aL, ei g 101 LB), (aS, ei g 101 SB), (aH, ei g 101 HB), (oR, eo 2 [.ref aW, .ref aT]), (aW, ei g 50 W), (aT, ei g 3 T), (hL, eo 1 [.int (iZ (l1_130)), .int (iZ (u1_130)), .int (iZ (k1_130)), .int (iZ (d1_130))]), (hY, eo 4 [.ref aE, .ref aQ, .ref aB, .ref aU, .int (iZ ((((j : Int))))), .int (iZ (ps)), .long (lZ (((zVL d 0 (-1) 0).1)))]), (aE, ei g 50 E2), (aQ, ei g 50 Q2), (aB, ei g 50 B2), (aU, ei g 50 U2)]) [0, 1, 2, 3, 4, 5, 6, 7, 8, 9, 10, 11, 12, 13, 19, 14, 15, 16, 17, 18] (by decide) rfl ?_
                exfalso; omega
              ·
                refine z_ws (ws' := [(hS, eo 3 [.ref hI, .ref oR, .ref hL, .ref aC, .ref aN, .int (iZ (ps))]), (aC, el g 20808 C), (aN, eb g 20808 N), (hI, eo 0 [.ref aK, .ref aV, .ref aP, .ref aM, .ref aL, .ref aS, .ref aH, .int (iZ (n))]), (aK, ei g 100 K), (aV, ei g 100 V), (aP, ei g 100 P), (aM, ez g 100 M), (aL, ei g 101 LB), (aS, ei g 101 SB), (aH, ei g 101 HB), (oR, eo 2 [.ref aW, .ref aT]), (aW, ei g 50 W), (aT, ei g 3 T), (hL, eo 1 [.int (iZ (l1_130)), .int (iZ (u1_130)), .int (iZ (k1_130)), .int (iZ (d1_130))]), (hY, eo 4 [.ref aE, .ref aQ, .ref aB, .ref aU, .int (iZ ((((j : Int)) + 1))), .int (iZ (ps)), .long (lZ (((zVL d 0 (-1) 0).1)))]), (aE, ei g 50 ((uZ E2 ((j : Int)) ((zPth d (j + 1)).1)))), (aQ, ei g 50 ((uZ Q2 ((j : Int)) l1_130))), (aB, ei g 50 ((uZ B2 ((j : Int)) u1_130))), (aU, ei g 50 ((uZ U2 ((j : Int)) k1_130)))]) [0, 1, 2, 3, 4, 5, 6, 7, 8, 9, 10, 11, 12, 13, 19, 14, 15, 16, 17, 18] (by decide) rfl ?_
                refine z_iload hC 0 dX3_tell_143 rfl ?_
                refine z_istore_n hC (lv' := [(2, _), (5, _), (3, _), (4, _), (0, _), (1, _)]) dX3_tell_145 rfl (by decide) rfl ?_
                refine z_aload_n hC 4 dX3_tell_146 rfl rfl ?_
                refine z_get hC iX3_tell_3 0 2 rfl rfl (by decide) mX3_tell_f16 rfl dX3_tell_147 ?_
                refine z_getN hC iX3_tell_1 14 2 rfl rfl (by decide) nf_RX3_109 rfl dX3_tell_150 ?_
                refine z_top hk2 ?_
                refine z_istore_n hC (lv' := [(3, _), (2, _), (5, _), (4, _), (0, _), (1, _)]) dX3_tell_153 rfl (by decide) rfl ?_
                refine z_iinc hC (lv' := [(4, _), (3, _), (2, _), (5, _), (0, _), (1, _)]) 3 dX3_tell_154 rfl (by decide) rfl ?_
                refine z_goto (tgt := 40) hC dX3_tell_157 (by decide) ?_
                refine z_lv (lv' := [(2, _), (3, _), (4, _), (0, _), (1, _)]) [2, 1, 0, 4, 5] rfl ?_
                exact ih_40 (j + 1) _ _ _ _ _ _ _ _ (by omega) (zWay_s hW rfl hm.1 hms.2.1 hk2) (by omega)
            ·
              exfalso; omega
  refine z_lv (lv' := [(2, _), (3, _), (4, _), (0, _), (1, _)]) [2, 1, 0, 3, 4] rfl ?_
  exact L40 _ 0 _ _ _ _ _ _ _ _ (by omega) zWay_0 (Nat.lt_succ_self _)
end
section
def zMt (p : Int) : Int := if p = 1 then 0 else 1
def zDq (n : Int) (K V P M LB SB HB W T : Int → Int) (p ex : Int) : zDP := zMk n K V P M LB SB HB W (if p = 1 then T 0 else T 1) (if p = 3 then T 2 else 0) (zMt p) ex
def zHas (n : Int) (K V P M LB SB HB W T : Int → Int) (p ex : Int) : Prop := ¬ (zVL (zDq n K V P M LB SB HB W T p ex) 0 (-1) 0).2.1 = 0
def zTold (n : Int) (K V P M LB SB HB W T : Int → Int) (p ex tc td : Int) (E Q B U : Int → Int) : Prop := zHas n K V P M LB SB HB W T p ex ∧ tc = (zVL (zDq n K V P M LB SB HB W T p ex) 0 (-1) 0).2.1 ∧ td = (zVL (zDq n K V P M LB SB HB W T p ex) 0 (-1) 0).1 ∧ zWay n K P LB SB HB W (if p = 3 then T 2 else 0) (zDq n K V P M LB SB HB W T p ex) tc E Q B U
def zRun (n : Int) (K V P M LB SB HB W T : Int → Int) (tc tp td : Int) (E Q B U : Int → Int) : Prop := (∃ p, (1 ≤ p ∧ p ≤ 3) ∧ (∀ q, 1 ≤ q → q < p → ¬ zHas n K V P M LB SB HB W T q 0) ∧ tp = p ∧ zTold n K V P M LB SB HB W T p 0 tc td E Q B U) ∨ ((∀ q, 1 ≤ q → q ≤ 3 → ¬ zHas n K V P M LB SB HB W T q 0) ∧ tp = 0 ∧ tc = 0 ∧ td = 0)
def zCi (n : Int) (K V P M LB SB HB W T : Int → Int) : Prop := zIok n K V P M ∧ zPok n LB SB HB ∧ (∀ i, 0 ≤ i → i ≤ 49 → 0 ≤ W i ∧ W i ≤ 20000) ∧ ((-1 ≤ T 0 ∧ T 0 ≤ 10000) ∧ (-1 ≤ T 1 ∧ T 1 ≤ 10000) ∧ (0 ≤ T 2 ∧ T 2 ≤ 10000))
theorem zCi_env {n : Int} {K V P M LB SB HB W T : Int → Int} (h : zCi n K V P M LB SB HB W T) {p ex : Int} (hp : 1 ≤ p ∧ p ≤ 3) (hx : 0 ≤ ex ∧ ex ≤ 50) : zEnv n K V P M LB SB HB W T p (zMt p) ex (zDq n K V P M LB SB HB W T p ex) := by
  refine ⟨h.1, h.2.1, h.2.2.1, h.2.2.2, hp, ?_, ?_, hx, rfl⟩
  · unfold zMt; split <;> omega
  · unfold zMt; split <;> omega
theorem hd_X5_isWithin_s : yX5_isWithin.cls ≠ "java/lang/invoke/MethodHandle" ∧ yX5_isWithin.cls ≠ "java/lang/invoke/VarHandle" ∧ (parseMethodDescriptor yX5_isWithin.desc).map (fun d => d.parameters.length) = some 3 := by decide +kernel
theorem nm_RX5_45 : (RX5, 45, yX0_append, "BreakSearch") ∈ zNM := by decide +kernel
theorem hd_X0_append_s : yX0_append.cls ≠ "java/lang/invoke/MethodHandle" ∧ yX0_append.cls ≠ "java/lang/invoke/VarHandle" ∧ (parseMethodDescriptor yX0_append.desc).map (fun d => d.parameters.length) = some 4 := by decide +kernel
theorem nm_RX5_49 : (RX5, 49, yX0_appendPenalty, "BreakSearch") ∈ zNM := by decide +kernel
theorem hd_X0_appendPenalty_s : yX0_appendPenalty.cls ≠ "java/lang/invoke/MethodHandle" ∧ yX0_appendPenalty.cls ≠ "java/lang/invoke/VarHandle" ∧ (parseMethodDescriptor yX0_appendPenalty.desc).map (fun d => d.parameters.length) = some 3 := by decide +kernel
theorem nf_RX5_53 : (RX5, 53, "BreakSearch$Rules", "widths", "[I", "BreakSearch") ∈ zNF := by decide +kernel
theorem nf_RX5_57 : (RX5, 57, "BreakSearch$Rules", "settings", "[I", "BreakSearch") ∈ zNF := by decide +kernel
theorem nm_RX5_78 : (RX5, 78, yX4_hasLine, "BreakSearch") ∈ zNM := by decide +kernel
theorem hd_X4_hasLine_s : yX4_hasLine.cls ≠ "java/lang/invoke/MethodHandle" ∧ yX4_hasLine.cls ≠ "java/lang/invoke/VarHandle" ∧ (parseMethodDescriptor yX4_hasLine.desc).map (fun d => d.parameters.length) = some 1 := by decide +kernel
theorem nf_RX5_82 : (RX5, 82, "BreakSearch$Way", "ends", "[I", "BreakSearch") ∈ zNF := by decide +kernel
theorem nf_RX5_85 : (RX5, 85, "BreakSearch$Way", "lacks", "[I", "BreakSearch") ∈ zNF := by decide +kernel
theorem nf_RX5_88 : (RX5, 88, "BreakSearch$Way", "badnesses", "[I", "BreakSearch") ∈ zNF := by decide +kernel
theorem nf_RX5_91 : (RX5, 91, "BreakSearch$Way", "classes", "[I", "BreakSearch") ∈ zNF := by decide +kernel
theorem nf_RX5_71 : (RX5, 71, "BreakSearch$Way", "count", "I", "BreakSearch") ∈ zNF := by decide +kernel
theorem nf_RX5_75 : (RX5, 75, "BreakSearch$Way", "pass", "I", "BreakSearch") ∈ zNF := by decide +kernel
theorem nf_RX5_94 : (RX5, 94, "BreakSearch$Way", "demerits", "J", "BreakSearch") ∈ zNF := by decide +kernel
theorem nf_RX5_98 : (RX5, 98, "BreakSearch$Items", "count", "I", "BreakSearch") ∈ zNF := by decide +kernel
theorem nm_RX5_60 : (RX5, 60, yX4_forget, "BreakSearch") ∈ zNM := by decide +kernel
theorem nm_RX5_63 : (RX5, 63, yX3_findsWay, "BreakSearch") ∈ zNM := by decide +kernel
theorem hd_X3_findsWay_s : yX3_findsWay.cls ≠ "java/lang/invoke/MethodHandle" ∧ yX3_findsWay.cls ≠ "java/lang/invoke/VarHandle" ∧ (parseMethodDescriptor yX3_findsWay.desc).map (fun d => d.parameters.length) = some 2 := by decide +kernel
theorem nm_RX5_67 : (RX5, 67, yX3_tell, "BreakSearch") ∈ zNM := by decide +kernel
theorem hd_X3_tell_s : yX3_tell.cls ≠ "java/lang/invoke/MethodHandle" ∧ yX3_tell.cls ≠ "java/lang/invoke/VarHandle" ∧ (parseMethodDescriptor yX3_tell.desc).map (fun d => d.parameters.length) = some 1 := by decide +kernel
abbrev rm_X5_isWithin : Room := { frames := 1, cells := 0, slots := 0, locals := 12 }
set_option maxHeartbeats 4000000 in
set_option maxRecDepth 100000 in
theorem c_X5_isWithin (l : Launch) (g : zG) (v a b : Int) (h1 : -2147483648 ≤ v ∧ v ≤ 2147483647) (h2 : -2147483648 ≤ a ∧ a ≤ 2147483647) (h3 : -2147483648 ≤ b ∧ b ≤ 2147483647) : zMRi l yX5_isWithin wsX5_isWithin rm_X5_isWithin g [] [.int (iZ (v)), .int (iZ (a)), .int (iZ (b))] (b2 (a ≤ v ∧ v ≤ b)) := by
  refine z_beRi (cc := cX5_isWithin) (nL := 3) (ret := some .boolean) (plainFor_of_name (by decide +kernel)) rfl (Or.inr ⟨rfl, b2_01 _⟩) (Nat.le_of_ble_eq_true rfl) ?_
  intro X hC hR
  have hC : zC X g cX5_isWithin RX5 wsX5_isWithin rm_X5_isWithin 3 := hC
  show ZG X g (zE X) 0 0 [] [(0, .int (iZ (v))), (1, .int (iZ (a))), (2, .int (iZ (b)))] 0 []
  refine z_iload_n hC 0 dX5_isWithin_0 rfl rfl ?_
  refine z_iload_n hC 1 dX5_isWithin_1 rfl rfl ?_
  refine z_icmp_lt hC 14 dX5_isWithin_2 (by decide) (by omega) (by omega) (fun c_2 => ?_) (fun c_2 => ?_)
  ·
    refine z_iconst hC dX5_isWithin_14 ?_
    exact hR _ _ _ _ (by first | exact b2_1' (by omega) | exact b2_0' (by omega) | exact b2_eq (by omega)) dX5_isWithin_15
  ·
    refine z_iload_n hC 0 dX5_isWithin_5 rfl rfl ?_
    refine z_iload_n hC 2 dX5_isWithin_6 rfl rfl ?_
    refine z_icmp_gt hC 14 dX5_isWithin_7 (by decide) (by omega) (by omega) (fun c_7 => ?_) (fun c_7 => ?_)
    ·
      refine z_iconst hC dX5_isWithin_14 ?_
      exact hR _ _ _ _ (by first | exact b2_1' (by omega) | exact b2_0' (by omega) | exact b2_eq (by omega)) dX5_isWithin_15
    ·
      refine z_iconst hC dX5_isWithin_10 ?_
      refine z_goto (tgt := 15) hC dX5_isWithin_11 (by decide) ?_
      exact hR _ _ _ _ (by first | exact b2_1' (by omega) | exact b2_0' (by omega) | exact b2_eq (by omega)) dX5_isWithin_15
set_option maxRecDepth 20000 in
theorem mX5_box_f10 : Cond.fieldLink RX5 10 "BreakSearch" "items" "LBreakSearch$Items;" ∈ wsX5_box := by decide +kernel
set_option maxRecDepth 20000 in
theorem iX5_box_5 : ∀ w ∈ u_ws RX5 TX5 4, w ∈ wsX5_box := by decide +kernel
set_option maxRecDepth 20000 in
theorem mX5_box_iniRX0 : Cond.initialized RX0 ∈ wsX5_box := by decide +kernel
set_option maxRecDepth 20000 in
theorem mX5_box_im_X0_append : Cond.instanceMethod yX0_append ∈ wsX5_box := by decide +kernel
set_option maxRecDepth 20000 in
theorem mX5_box_se_X0_append : Cond.selects RX0 yX0_append yX0_append ∈ wsX5_box := by decide +kernel
abbrev rm_X5_box : Room := { frames := 2, cells := 0, slots := 0, locals := 37 }
set_option maxHeartbeats 4000000 in
set_option maxRecDepth 100000 in
theorem c_X5_box (l : Launch) (g : zG) (hB oR hS hY : Nat) (hI aK aV aP aM aL aS aH : Nat) (n : Int) (K V P M LB SB HB : Int → Int) (w : Int) (h1 : 0 ≤ n ∧ n ≤ 100) (h2 : -2147483648 ≤ w ∧ w ≤ 2147483647) : zMWi (S := (Int → Int) × (Int → Int) × (Int → Int) × (Int → Int) × (Int) × (Int)) l yX5_box wsX5_box rm_X5_box g [(hB, eo 5 [.ref hI, .ref oR, .ref hS, .ref hY]), (hI, eo 0 [.ref aK, .ref aV, .ref aP, .ref aM, .ref aL, .ref aS, .ref aH, .int (iZ (n))]), (aK, ei g 100 K), (aV, ei g 100 V), (aP, ei g 100 P), (aM, ez g 100 M), (aL, ei g 101 LB), (aS, ei g 101 SB), (aH, ei g 101 HB)] [.ref hB, .int (iZ (w))] (fun u => ((¬ (0 ≤ w ∧ w ≤ 10000)) ∧ u = (K, LB, SB, HB, n, -1)) ∨ (((0 ≤ w ∧ w ≤ 10000) ∧ 100 ≤ n) ∧ u = (K, LB, SB, HB, n, -2)) ∨ (((0 ≤ w ∧ w ≤ 10000) ∧ n < 100) ∧ u = (uZ K n 0, uZ LB (n + 1) (LB n + w), uZ SB (n + 1) (SB n + 0), uZ HB (n + 1) (HB n + 0), n + 1, n))) (fun u => u.2.2.2.2.2) (fun u => [(hB, eo 5 [.ref hI, .ref oR, .ref hS, .ref hY]), (hI, eo 0 [.ref aK, .ref aV, .ref aP, .ref aM, .ref aL, .ref aS, .ref aH, .int (iZ (u.2.2.2.2.1))]), (aK, ei g 100 u.1), (aV, ei g 100 V), (aP, ei g 100 P), (aM, ez g 100 M), (aL, ei g 101 u.2.1), (aS, ei g 101 u.2.2.1), (aH, ei g 101 u.2.2.2.1)]) 0 0 := by
  refine z_beWi (cc := cX5_box) (nL := 2) (ret := some .int) (plainFor_of_name (by decide +kernel)) rfl (Or.inl rfl) (Nat.le_of_ble_eq_true rfl) ?_
  intro X A hC hN hR
  have hC : zC X g cX5_box RX5 wsX5_box rm_X5_box 2 := hC
  show ZG X g (zD X A) 0 0 [(hB, eo 5 [.ref hI, .ref oR, .ref hS, .ref hY]), (hI, eo 0 [.ref aK, .ref aV, .ref aP, .ref aM, .ref aL, .ref aS, .ref aH, .int (iZ (n))]), (aK, ei g 100 K), (aV, ei g 100 V), (aP, ei g 100 P), (aM, ez g 100 M), (aL, ei g 101 LB), (aS, ei g 101 SB), (aH, ei g 101 HB)] [(0, .ref hB), (1, .int (iZ (w)))] 0 []
  refine z_iload_n hC 1 dX5_box_0 rfl rfl ?_
  refine z_iconst hC dX5_box_1 ?_
  refine z_sip hC dX5_box_2 (by decide) ?_
  refine z_sRi hC 3 (c_X5_isWithin (xl X) g _ _ _ (by omega) (by omega) (by omega)) gX5_box_X5_isWithin rfl hd_X5_isWithin_s (by decide) ⟨rfl, rfl⟩ [] (by decide) rfl rfl rfl (Nat.le_of_ble_eq_true rfl) dX5_box_5 (by decide) ?_
  refine z_if_ne hC 13 dX5_box_8 (by decide) (b2_r _) (fun c_8 => ?_) (fun c_8 => ?_)
  ·
    have c_8 := b2_t c_8
    refine z_aload_n hC 0 dX5_box_13 rfl rfl ?_
    refine z_get hC iX5_box_5 0 0 rfl rfl (by decide) mX5_box_f10 rfl dX5_box_14 ?_
    refine z_iconst hC dX5_box_17 ?_
    refine z_iload_n hC 1 dX5_box_18 rfl rfl ?_
    refine z_iconst hC dX5_box_19 ?_
    refine z_iconst hC dX5_box_20 ?_
    refine z_vnWi (wr := [_]) hC 4 (c_X0_append (xl X) g _ _ _ _ _ _ _ _ _ _ _ _ _ _ _ _ _ _ _ _ (by omega)) gX5_box_X0_append_n45 nm_RX5_45 mX5_box_iniRX0 mX5_box_im_X0_append mX5_box_se_X0_append rfl hd_X0_append_s (by decide) ⟨rfl, rfl⟩ [1, 2, 3, 4, 5, 6, 7, 8] [0] (by decide) rfl rfl (by decide) (by decide) 1 0 rfl rfl rfl rfl rfl (Nat.le_of_ble_eq_true rfl) dX5_box_21 (by decide) (fun u_21 p_21 => ?_)
    rcases p_21 with ⟨a_21, rfl⟩ | ⟨a_21, rfl⟩
    ·
      refine z_ws (ws' := [(hB, eo 5 [.ref hI, .ref oR, .ref hS, .ref hY]), (hI, eo 0 [.ref aK, .ref aV, .ref aP, .ref aM, .ref aL, .ref aS, .ref aH, .int (iZ (n))]), (aK, ei g 100 K), (aV, ei g 100 V), (aP, ei g 100 P), (aM, ez g 100 M), (aL, ei g 101 LB), (aS, ei g 101 SB), (aH, ei g 101 HB)]) [0, 1, 2, 3, 4, 5, 6, 7, 8] (by decide) rfl ?_
      refine z_top (b := (-2)) rfl ?_
      exact hR (K, LB, SB, HB, n, (-2)) _ _ _ [0, 1, 2, 3, 4, 5, 6, 7, 8] _ (by first | exact Or.inl ⟨by omega, rfl⟩ | exact Or.inr (Or.inl ⟨by omega, rfl⟩) | exact Or.inr (Or.inr ⟨by omega, rfl⟩)) rfl (by decide) rfl dX5_box_24
    ·
      refine z_ws (ws' := [(hB, eo 5 [.ref hI, .ref oR, .ref hS, .ref hY]), (hI, eo 0 [.ref aK, .ref aV, .ref aP, .ref aM, .ref aL, .ref aS, .ref aH, .int (iZ ((n + 1)))]), (aK, ei g 100 ((uZ K n 0))), (aV, ei g 100 V), (aP, ei g 100 P), (aM, ez g 100 M), (aL, ei g 101 ((uZ LB (n + 1) (LB n + w)))), (aS, ei g 101 ((uZ SB (n + 1) (SB n + 0)))), (aH, ei g 101 ((uZ HB (n + 1) (HB n + 0))))]) [0, 1, 2, 3, 4, 5, 6, 7, 8] (by decide) rfl ?_
      refine z_top (b := n) rfl ?_
      exact hR ((uZ K n 0), (uZ LB (n + 1) (LB n + w)), (uZ SB (n + 1) (SB n + 0)), (uZ HB (n + 1) (HB n + 0)), (n + 1), n) _ _ _ [0, 1, 2, 3, 4, 5, 6, 7, 8] _ (by first | exact Or.inl ⟨by omega, rfl⟩ | exact Or.inr (Or.inl ⟨by omega, rfl⟩) | exact Or.inr (Or.inr ⟨by omega, rfl⟩)) rfl (by decide) rfl dX5_box_24
  ·
    have c_8 := b2_f c_8
    refine z_iconst hC dX5_box_11 ?_
    exact hR (K, LB, SB, HB, n, -1) _ _ _ [0, 1, 2, 3, 4, 5, 6, 7, 8] _ (by first | exact Or.inl ⟨by omega, rfl⟩ | exact Or.inr (Or.inl ⟨by omega, rfl⟩) | exact Or.inr (Or.inr ⟨by omega, rfl⟩)) rfl (by decide) rfl dX5_box_12
set_option maxRecDepth 20000 in
theorem mX5_glue_f10 : Cond.fieldLink RX5 10 "BreakSearch" "items" "LBreakSearch$Items;" ∈ wsX5_glue := by decide +kernel
set_option maxRecDepth 20000 in
theorem iX5_glue_5 : ∀ w ∈ u_ws RX5 TX5 4, w ∈ wsX5_glue := by decide +kernel
set_option maxRecDepth 20000 in
theorem mX5_glue_iniRX0 : Cond.initialized RX0 ∈ wsX5_glue := by decide +kernel
set_option maxRecDepth 20000 in
theorem mX5_glue_im_X0_append : Cond.instanceMethod yX0_append ∈ wsX5_glue := by decide +kernel
set_option maxRecDepth 20000 in
theorem mX5_glue_se_X0_append : Cond.selects RX0 yX0_append yX0_append ∈ wsX5_glue := by decide +kernel
abbrev rm_X5_glue : Room := { frames := 2, cells := 0, slots := 0, locals := 37 }
set_option maxHeartbeats 4000000 in
set_option maxRecDepth 100000 in
theorem c_X5_glue (l : Launch) (g : zG) (hB oR hS hY : Nat) (hI aK aV aP aM aL aS aH : Nat) (n : Int) (K V P M LB SB HB : Int → Int) (w t s : Int) (h1 : 0 ≤ n ∧ n ≤ 100) (h2 : -2147483648 ≤ w ∧ w ≤ 2147483647) (h3 : -2147483648 ≤ t ∧ t ≤ 2147483647) (h4 : -2147483648 ≤ s ∧ s ≤ 2147483647) : zMWi (S := (Int → Int) × (Int → Int) × (Int → Int) × (Int → Int) × (Int) × (Int)) l yX5_glue wsX5_glue rm_X5_glue g [(hB, eo 5 [.ref hI, .ref oR, .ref hS, .ref hY]), (hI, eo 0 [.ref aK, .ref aV, .ref aP, .ref aM, .ref aL, .ref aS, .ref aH, .int (iZ (n))]), (aK, ei g 100 K), (aV, ei g 100 V), (aP, ei g 100 P), (aM, ez g 100 M), (aL, ei g 101 LB), (aS, ei g 101 SB), (aH, ei g 101 HB)] [.ref hB, .int (iZ (w)), .int (iZ (t)), .int (iZ (s))] (fun u => ((¬ ((0 ≤ w ∧ w ≤ 10000) ∧ (0 ≤ t ∧ t ≤ 10000) ∧ (0 ≤ s ∧ s ≤ 1000))) ∧ u = (K, LB, SB, HB, n, -1)) ∨ ((((0 ≤ w ∧ w ≤ 10000) ∧ (0 ≤ t ∧ t ≤ 10000) ∧ (0 ≤ s ∧ s ≤ 1000)) ∧ 100 ≤ n) ∧ u = (K, LB, SB, HB, n, -2)) ∨ ((((0 ≤ w ∧ w ≤ 10000) ∧ (0 ≤ t ∧ t ≤ 10000) ∧ (0 ≤ s ∧ s ≤ 1000)) ∧ n < 100) ∧ u = (uZ K n 1, uZ LB (n + 1) (LB n + w), uZ SB (n + 1) (SB n + t), uZ HB (n + 1) (HB n + s), n + 1, n))) (fun u => u.2.2.2.2.2) (fun u => [(hB, eo 5 [.ref hI, .ref oR, .ref hS, .ref hY]), (hI, eo 0 [.ref aK, .ref aV, .ref aP, .ref aM, .ref aL, .ref aS, .ref aH, .int (iZ (u.2.2.2.2.1))]), (aK, ei g 100 u.1), (aV, ei g 100 V), (aP, ei g 100 P), (aM, ez g 100 M), (aL, ei g 101 u.2.1), (aS, ei g 101 u.2.2.1), (aH, ei g 101 u.2.2.2.1)]) 0 0 := by
  refine z_beWi (cc := cX5_glue) (nL := 4) (ret := some .int) (plainFor_of_name (by decide +kernel)) rfl (Or.inl rfl) (Nat.le_of_ble_eq_true rfl) ?_
  intro X A hC hN hR
  have hC : zC X g cX5_glue RX5 wsX5_glue rm_X5_glue 4 := hC
  show ZG X g (zD X A) 0 0 [(hB, eo 5 [.ref hI, .ref oR, .ref hS, .ref hY]), (hI, eo 0 [.ref aK, .ref aV, .ref aP, .ref aM, .ref aL, .ref aS, .ref aH, .int (iZ (n))]), (aK, ei g 100 K), (aV, ei g 100 V), (aP, ei g 100 P), (aM, ez g 100 M), (aL, ei g 101 LB), (aS, ei g 101 SB), (aH, ei g 101 HB)] [(0, .ref hB), (1, .int (iZ (w))), (2, .int (iZ (t))), (3, .int (iZ (s)))] 0 []
  refine z_iload_n hC 1 dX5_glue_0 rfl rfl ?_
  refine z_iconst hC dX5_glue_1 ?_
  refine z_sip hC dX5_glue_2 (by decide) ?_
  refine z_sRi hC 3 (c_X5_isWithin (xl X) g _ _ _ (by omega) (by omega) (by omega)) gX5_glue_X5_isWithin rfl hd_X5_isWithin_s (by decide) ⟨rfl, rfl⟩ [] (by decide) rfl rfl rfl (Nat.le_of_ble_eq_true rfl) dX5_glue_5 (by decide) ?_
  refine z_if_eq hC 33 dX5_glue_8 (by decide) (b2_r _) (fun c_8 => ?_) (fun c_8 => ?_)
  ·
    have c_8 := b2_f c_8
    refine z_iconst hC dX5_glue_33 ?_
    exact hR (K, LB, SB, HB, n, -1) _ _ _ [0, 1, 2, 3, 4, 5, 6, 7, 8] _ (by first | exact Or.inl ⟨by omega, rfl⟩ | exact Or.inr (Or.inl ⟨by omega, rfl⟩) | exact Or.inr (Or.inr ⟨by omega, rfl⟩)) rfl (by decide) rfl dX5_glue_34
  ·
    have c_8 := b2_t c_8
    refine z_iload_n hC 2 dX5_glue_11 rfl rfl ?_
    refine z_iconst hC dX5_glue_12 ?_
    refine z_sip hC dX5_glue_13 (by decide) ?_
    refine z_sRi hC 3 (c_X5_isWithin (xl X) g _ _ _ (by omega) (by omega) (by omega)) gX5_glue_X5_isWithin rfl hd_X5_isWithin_s (by decide) ⟨rfl, rfl⟩ [] (by decide) rfl rfl rfl (Nat.le_of_ble_eq_true rfl) dX5_glue_16 (by decide) ?_
    refine z_if_eq hC 33 dX5_glue_19 (by decide) (b2_r _) (fun c_19 => ?_) (fun c_19 => ?_)
    ·
      have c_19 := b2_f c_19
      refine z_iconst hC dX5_glue_33 ?_
      exact hR (K, LB, SB, HB, n, -1) _ _ _ [0, 1, 2, 3, 4, 5, 6, 7, 8] _ (by first | exact Or.inl ⟨by omega, rfl⟩ | exact Or.inr (Or.inl ⟨by omega, rfl⟩) | exact Or.inr (Or.inr ⟨by omega, rfl⟩)) rfl (by decide) rfl dX5_glue_34
    ·
      have c_19 := b2_t c_19
      refine z_iload_n hC 3 dX5_glue_22 rfl rfl ?_
      refine z_iconst hC dX5_glue_23 ?_
      refine z_sip hC dX5_glue_24 (by decide) ?_
      refine z_sRi hC 3 (c_X5_isWithin (xl X) g _ _ _ (by omega) (by omega) (by omega)) gX5_glue_X5_isWithin rfl hd_X5_isWithin_s (by decide) ⟨rfl, rfl⟩ [] (by decide) rfl rfl rfl (Nat.le_of_ble_eq_true rfl) dX5_glue_27 (by decide) ?_
      refine z_if_ne hC 35 dX5_glue_30 (by decide) (b2_r _) (fun c_30 => ?_) (fun c_30 => ?_)
      ·
        have c_30 := b2_t c_30
        refine z_aload_n hC 0 dX5_glue_35 rfl rfl ?_
        refine z_get hC iX5_glue_5 0 0 rfl rfl (by decide) mX5_glue_f10 rfl dX5_glue_36 ?_
        refine z_iconst hC dX5_glue_39 ?_
        refine z_iload_n hC 1 dX5_glue_40 rfl rfl ?_
        refine z_iload_n hC 2 dX5_glue_41 rfl rfl ?_
        refine z_iload_n hC 3 dX5_glue_42 rfl rfl ?_
        refine z_vnWi (wr := [_]) hC 4 (c_X0_append (xl X) g _ _ _ _ _ _ _ _ _ _ _ _ _ _ _ _ _ _ _ _ (by omega)) gX5_glue_X0_append_n45 nm_RX5_45 mX5_glue_iniRX0 mX5_glue_im_X0_append mX5_glue_se_X0_append rfl hd_X0_append_s (by decide) ⟨rfl, rfl⟩ [1, 2, 3, 4, 5, 6, 7, 8] [0] (by decide) rfl rfl (by decide) (by decide) 1 0 rfl rfl rfl rfl rfl (Nat.le_of_ble_eq_true rfl) dX5_glue_43 (by decide) (fun u_43 p_43 => ?_)
        rcases p_43 with ⟨a_43, rfl⟩ | ⟨a_43, rfl⟩
        ·
          refine z_ws (ws' := [(hB, eo 5 [.ref hI, .ref oR, .ref hS, .ref hY]), (hI, eo 0 [.ref aK, .ref aV, .ref aP, .ref aM, .ref aL, .ref aS, .ref aH, .int (iZ (n))]), (aK, ei g 100 K), (aV, ei g 100 V), (aP, ei g 100 P), (aM, ez g 100 M), (aL, ei g 101 LB), (aS, ei g 101 SB), (aH, ei g 101 HB)]) [0, 1, 2, 3, 4, 5, 6, 7, 8] (by decide) rfl ?_
          refine z_top (b := (-2)) rfl ?_
          exact hR (K, LB, SB, HB, n, (-2)) _ _ _ [0, 1, 2, 3, 4, 5, 6, 7, 8] _ (by first | exact Or.inl ⟨by omega, rfl⟩ | exact Or.inr (Or.inl ⟨by omega, rfl⟩) | exact Or.inr (Or.inr ⟨by omega, rfl⟩)) rfl (by decide) rfl dX5_glue_46
        ·
          refine z_ws (ws' := [(hB, eo 5 [.ref hI, .ref oR, .ref hS, .ref hY]), (hI, eo 0 [.ref aK, .ref aV, .ref aP, .ref aM, .ref aL, .ref aS, .ref aH, .int (iZ ((n + 1)))]), (aK, ei g 100 ((uZ K n 1))), (aV, ei g 100 V), (aP, ei g 100 P), (aM, ez g 100 M), (aL, ei g 101 ((uZ LB (n + 1) (LB n + w)))), (aS, ei g 101 ((uZ SB (n + 1) (SB n + t)))), (aH, ei g 101 ((uZ HB (n + 1) (HB n + s))))]) [0, 1, 2, 3, 4, 5, 6, 7, 8] (by decide) rfl ?_
          refine z_top (b := n) rfl ?_
          exact hR ((uZ K n 1), (uZ LB (n + 1) (LB n + w)), (uZ SB (n + 1) (SB n + t)), (uZ HB (n + 1) (HB n + s)), (n + 1), n) _ _ _ [0, 1, 2, 3, 4, 5, 6, 7, 8] _ (by first | exact Or.inl ⟨by omega, rfl⟩ | exact Or.inr (Or.inl ⟨by omega, rfl⟩) | exact Or.inr (Or.inr ⟨by omega, rfl⟩)) rfl (by decide) rfl dX5_glue_46
      ·
        have c_30 := b2_f c_30
        refine z_iconst hC dX5_glue_33 ?_
        exact hR (K, LB, SB, HB, n, -1) _ _ _ [0, 1, 2, 3, 4, 5, 6, 7, 8] _ (by first | exact Or.inl ⟨by omega, rfl⟩ | exact Or.inr (Or.inl ⟨by omega, rfl⟩) | exact Or.inr (Or.inr ⟨by omega, rfl⟩)) rfl (by decide) rfl dX5_glue_34
set_option maxRecDepth 20000 in
theorem mX5_penalty_f10 : Cond.fieldLink RX5 10 "BreakSearch" "items" "LBreakSearch$Items;" ∈ wsX5_penalty := by decide +kernel
set_option maxRecDepth 20000 in
theorem iX5_penalty_5 : ∀ w ∈ u_ws RX5 TX5 4, w ∈ wsX5_penalty := by decide +kernel
set_option maxRecDepth 20000 in
theorem mX5_penalty_iniRX0 : Cond.initialized RX0 ∈ wsX5_penalty := by decide +kernel
set_option maxRecDepth 20000 in
theorem mX5_penalty_im_X0_appendPenalty : Cond.instanceMethod yX0_appendPenalty ∈ wsX5_penalty := by decide +kernel
set_option maxRecDepth 20000 in
theorem mX5_penalty_se_X0_appendPenalty : Cond.selects RX0 yX0_appendPenalty yX0_appendPenalty ∈ wsX5_penalty := by decide +kernel
abbrev rm_X5_penalty : Room := { frames := 3, cells := 0, slots := 0, locals := 61 }
set_option maxHeartbeats 4000000 in
set_option maxRecDepth 100000 in
theorem c_X5_penalty (l : Launch) (g : zG) (hB oR hS hY : Nat) (hI aK aV aP aM aL aS aH : Nat) (n : Int) (K V P M LB SB HB : Int → Int) (x w mk : Int) (h1 : 0 ≤ n ∧ n ≤ 100) (h2 : -2147483648 ≤ x ∧ x ≤ 2147483647) (h3 : -2147483648 ≤ w ∧ w ≤ 2147483647) (h4 : mk = 0 ∨ mk = 1) : zMWi (S := (Int → Int) × (Int → Int) × (Int → Int) × (Int → Int) × (Int → Int) × (Int → Int) × (Int → Int) × (Int) × (Int)) l yX5_penalty wsX5_penalty rm_X5_penalty g [(hB, eo 5 [.ref hI, .ref oR, .ref hS, .ref hY]), (hI, eo 0 [.ref aK, .ref aV, .ref aP, .ref aM, .ref aL, .ref aS, .ref aH, .int (iZ (n))]), (aK, ei g 100 K), (aV, ei g 100 V), (aP, ei g 100 P), (aM, ez g 100 M), (aL, ei g 101 LB), (aS, ei g 101 SB), (aH, ei g 101 HB)] [.ref hB, .int (iZ (x)), .int (iZ (w)), .int (iZ (mk))] (fun u => ((¬ ((-10000 ≤ x ∧ x ≤ 10000) ∧ (0 ≤ w ∧ w ≤ 10000))) ∧ u = (K, V, P, M, LB, SB, HB, n, -1)) ∨ ((((-10000 ≤ x ∧ x ≤ 10000) ∧ (0 ≤ w ∧ w ≤ 10000)) ∧ 100 ≤ n) ∧ u = (K, V, P, M, LB, SB, HB, n, -2)) ∨ ((((-10000 ≤ x ∧ x ≤ 10000) ∧ (0 ≤ w ∧ w ≤ 10000)) ∧ n < 100) ∧ u = (uZ K n 2, uZ V n x, uZ P n w, uZ M n mk, uZ LB (n + 1) (LB n + 0), uZ SB (n + 1) (SB n + 0), uZ HB (n + 1) (HB n + 0), n + 1, n))) (fun u => u.2.2.2.2.2.2.2.2) (fun u => [(hB, eo 5 [.ref hI, .ref oR, .ref hS, .ref hY]), (hI, eo 0 [.ref aK, .ref aV, .ref aP, .ref aM, .ref aL, .ref aS, .ref aH, .int (iZ (u.2.2.2.2.2.2.2.1))]), (aK, ei g 100 u.1), (aV, ei g 100 u.2.1), (aP, ei g 100 u.2.2.1), (aM, ez g 100 u.2.2.2.1), (aL, ei g 101 u.2.2.2.2.1), (aS, ei g 101 u.2.2.2.2.2.1), (aH, ei g 101 u.2.2.2.2.2.2.1)]) 0 0 := by
  refine z_beWi (cc := cX5_penalty) (nL := 4) (ret := some .int) (plainFor_of_name (by decide +kernel)) rfl (Or.inl rfl) (Nat.le_of_ble_eq_true rfl) ?_
  intro X A hC hN hR
  have hC : zC X g cX5_penalty RX5 wsX5_penalty rm_X5_penalty 4 := hC
  show ZG X g (zD X A) 0 0 [(hB, eo 5 [.ref hI, .ref oR, .ref hS, .ref hY]), (hI, eo 0 [.ref aK, .ref aV, .ref aP, .ref aM, .ref aL, .ref aS, .ref aH, .int (iZ (n))]), (aK, ei g 100 K), (aV, ei g 100 V), (aP, ei g 100 P), (aM, ez g 100 M), (aL, ei g 101 LB), (aS, ei g 101 SB), (aH, ei g 101 HB)] [(0, .ref hB), (1, .int (iZ (x))), (2, .int (iZ (w))), (3, .int (iZ (mk)))] 0 []
  refine z_iload_n hC 1 dX5_penalty_0 rfl rfl ?_
  refine z_sip hC dX5_penalty_1 (by decide) ?_
  refine z_sip hC dX5_penalty_4 (by decide) ?_
  refine z_sRi hC 3 (c_X5_isWithin (xl X) g _ _ _ (by omega) (by omega) (by omega)) gX5_penalty_X5_isWithin rfl hd_X5_isWithin_s (by decide) ⟨rfl, rfl⟩ [] (by decide) rfl rfl rfl (Nat.le_of_ble_eq_true rfl) dX5_penalty_7 (by decide) ?_
  refine z_if_eq hC 24 dX5_penalty_10 (by decide) (b2_r _) (fun c_10 => ?_) (fun c_10 => ?_)
  ·
    have c_10 := b2_f c_10
    refine z_iconst hC dX5_penalty_24 ?_
    exact hR (K, V, P, M, LB, SB, HB, n, -1) _ _ _ [0, 1, 2, 3, 4, 5, 6, 7, 8] _ (by first | exact Or.inl ⟨by omega, rfl⟩ | exact Or.inr (Or.inl ⟨by omega, rfl⟩) | exact Or.inr (Or.inr ⟨by omega, rfl⟩)) rfl (by decide) rfl dX5_penalty_25
  ·
    have c_10 := b2_t c_10
    refine z_iload_n hC 2 dX5_penalty_13 rfl rfl ?_
    refine z_iconst hC dX5_penalty_14 ?_
    refine z_sip hC dX5_penalty_15 (by decide) ?_
    refine z_sRi hC 3 (c_X5_isWithin (xl X) g _ _ _ (by omega) (by omega) (by omega)) gX5_penalty_X5_isWithin rfl hd_X5_isWithin_s (by decide) ⟨rfl, rfl⟩ [] (by decide) rfl rfl rfl (Nat.le_of_ble_eq_true rfl) dX5_penalty_18 (by decide) ?_
    refine z_if_ne hC 26 dX5_penalty_21 (by decide) (b2_r _) (fun c_21 => ?_) (fun c_21 => ?_)
    ·
      have c_21 := b2_t c_21
      refine z_aload_n hC 0 dX5_penalty_26 rfl rfl ?_
      refine z_get hC iX5_penalty_5 0 0 rfl rfl (by decide) mX5_penalty_f10 rfl dX5_penalty_27 ?_
      refine z_iload_n hC 1 dX5_penalty_30 rfl rfl ?_
      refine z_iload_n hC 2 dX5_penalty_31 rfl rfl ?_
      refine z_iload_n hC 3 dX5_penalty_32 rfl rfl ?_
      refine z_vnWi (wr := [_]) hC 3 (c_X0_appendPenalty (xl X) g _ _ _ _ _ _ _ _ _ _ _ _ _ _ _ _ _ _ _ (by omega) (by omega)) gX5_penalty_X0_appendPenalty_n49 nm_RX5_49 mX5_penalty_iniRX0 mX5_penalty_im_X0_appendPenalty mX5_penalty_se_X0_appendPenalty rfl hd_X0_appendPenalty_s (by decide) ⟨rfl, rfl⟩ [1, 2, 3, 4, 5, 6, 7, 8] [0] (by decide) rfl rfl (by decide) (by decide) 1 0 rfl rfl rfl rfl rfl (Nat.le_of_ble_eq_true rfl) dX5_penalty_33 (by decide) (fun u_33 p_33 => ?_)
      rcases p_33 with ⟨a_33, rfl⟩ | ⟨a_33, rfl⟩
      ·
        refine z_ws (ws' := [(hB, eo 5 [.ref hI, .ref oR, .ref hS, .ref hY]), (hI, eo 0 [.ref aK, .ref aV, .ref aP, .ref aM, .ref aL, .ref aS, .ref aH, .int (iZ (n))]), (aK, ei g 100 K), (aV, ei g 100 V), (aP, ei g 100 P), (aM, ez g 100 M), (aL, ei g 101 LB), (aS, ei g 101 SB), (aH, ei g 101 HB)]) [0, 1, 2, 3, 4, 5, 6, 7, 8] (by decide) rfl ?_
        refine z_top (b := (-2)) rfl ?_
        exact hR (K, V, P, M, LB, SB, HB, n, (-2)) _ _ _ [0, 1, 2, 3, 4, 5, 6, 7, 8] _ (by first | exact Or.inl ⟨by omega, rfl⟩ | exact Or.inr (Or.inl ⟨by omega, rfl⟩) | exact Or.inr (Or.inr ⟨by omega, rfl⟩)) rfl (by decide) rfl dX5_penalty_36
      ·
        refine z_ws (ws' := [(hB, eo 5 [.ref hI, .ref oR, .ref hS, .ref hY]), (hI, eo 0 [.ref aK, .ref aV, .ref aP, .ref aM, .ref aL, .ref aS, .ref aH, .int (iZ ((n + 1)))]), (aK, ei g 100 ((uZ K n 2))), (aV, ei g 100 ((uZ V n x))), (aP, ei g 100 ((uZ P n w))), (aM, ez g 100 ((uZ M n mk))), (aL, ei g 101 ((uZ LB (n + 1) (LB n + 0)))), (aS, ei g 101 ((uZ SB (n + 1) (SB n + 0)))), (aH, ei g 101 ((uZ HB (n + 1) (HB n + 0))))]) [0, 1, 2, 3, 4, 5, 6, 7, 8] (by decide) rfl ?_
        refine z_top (b := n) rfl ?_
        exact hR ((uZ K n 2), (uZ V n x), (uZ P n w), (uZ M n mk), (uZ LB (n + 1) (LB n + 0)), (uZ SB (n + 1) (SB n + 0)), (uZ HB (n + 1) (HB n + 0)), (n + 1), n) _ _ _ [0, 1, 2, 3, 4, 5, 6, 7, 8] _ (by first | exact Or.inl ⟨by omega, rfl⟩ | exact Or.inr (Or.inl ⟨by omega, rfl⟩) | exact Or.inr (Or.inr ⟨by omega, rfl⟩)) rfl (by decide) rfl dX5_penalty_36
    ·
      have c_21 := b2_f c_21
      refine z_iconst hC dX5_penalty_24 ?_
      exact hR (K, V, P, M, LB, SB, HB, n, -1) _ _ _ [0, 1, 2, 3, 4, 5, 6, 7, 8] _ (by first | exact Or.inl ⟨by omega, rfl⟩ | exact Or.inr (Or.inl ⟨by omega, rfl⟩) | exact Or.inr (Or.inr ⟨by omega, rfl⟩)) rfl (by decide) rfl dX5_penalty_25
set_option maxRecDepth 20000 in
theorem mX5_shape_f21 : Cond.fieldLink RX5 21 "BreakSearch" "rules" "LBreakSearch$Rules;" ∈ wsX5_shape := by decide +kernel
set_option maxRecDepth 20000 in
theorem iX5_shape_5 : ∀ w ∈ u_ws RX5 TX5 4, w ∈ wsX5_shape := by decide +kernel
set_option maxRecDepth 20000 in
theorem iX5_shape_2 : ∀ w ∈ u_ws RX2 TX2 2, w ∈ wsX5_shape := by decide +kernel
abbrev rm_X5_shape : Room := { frames := 2, cells := 0, slots := 0, locals := 34 }
set_option maxHeartbeats 4000000 in
set_option maxRecDepth 100000 in
theorem c_X5_shape (l : Launch) (g : zG) (hB hI hS hY : Nat) (oR aW aT : Nat) (W T : Int → Int) (i w : Int) (h1 : -2147483648 ≤ i ∧ i ≤ 2147483647) (h2 : -2147483648 ≤ w ∧ w ≤ 2147483647) : zMWi (S := (Int → Int) × (Int)) l yX5_shape wsX5_shape rm_X5_shape g [(hB, eo 5 [.ref hI, .ref oR, .ref hS, .ref hY]), (oR, eo 2 [.ref aW, .ref aT]), (aW, ei g 50 W), (aT, ei g 3 T)] [.ref hB, .int (iZ (i)), .int (iZ (w))] (fun u => ((¬ ((0 ≤ i ∧ i ≤ 49) ∧ (0 ≤ w ∧ w ≤ 10000))) ∧ u = (W, -1)) ∨ (((0 ≤ i ∧ i ≤ 49) ∧ (0 ≤ w ∧ w ≤ 10000)) ∧ u = (uZ W i w, 1))) (fun u => u.2) (fun u => [(hB, eo 5 [.ref hI, .ref oR, .ref hS, .ref hY]), (oR, eo 2 [.ref aW, .ref aT]), (aW, ei g 50 u.1), (aT, ei g 3 T)]) 0 0 := by
  refine z_beWi (cc := cX5_shape) (nL := 3) (ret := some .int) (plainFor_of_name (by decide +kernel)) rfl (Or.inl rfl) (Nat.le_of_ble_eq_true rfl) ?_
  intro X A hC hN hR
  have hC : zC X g cX5_shape RX5 wsX5_shape rm_X5_shape 3 := hC
  show ZG X g (zD X A) 0 0 [(hB, eo 5 [.ref hI, .ref oR, .ref hS, .ref hY]), (oR, eo 2 [.ref aW, .ref aT]), (aW, ei g 50 W), (aT, ei g 3 T)] [(0, .ref hB), (1, .int (iZ (i))), (2, .int (iZ (w)))] 0 []
  refine z_iload_n hC 1 dX5_shape_0 rfl rfl ?_
  refine z_iconst hC dX5_shape_1 ?_
  refine z_bip hC dX5_shape_2 (by decide) ?_
  refine z_sRi hC 3 (c_X5_isWithin (xl X) g _ _ _ (by omega) (by omega) (by omega)) gX5_shape_X5_isWithin rfl hd_X5_isWithin_s (by decide) ⟨rfl, rfl⟩ [] (by decide) rfl rfl rfl (Nat.le_of_ble_eq_true rfl) dX5_shape_4 (by decide) ?_
  refine z_if_eq hC 21 dX5_shape_7 (by decide) (b2_r _) (fun c_7 => ?_) (fun c_7 => ?_)
  ·
    have c_7 := b2_f c_7
    refine z_iconst hC dX5_shape_21 ?_
    exact hR (W, -1) _ _ _ [0, 1, 2, 3] _ (by first | exact Or.inl ⟨by omega, rfl⟩ | exact Or.inr ⟨by omega, rfl⟩) rfl (by decide) rfl dX5_shape_22
  ·
    have c_7 := b2_t c_7
    refine z_iload_n hC 2 dX5_shape_10 rfl rfl ?_
    refine z_iconst hC dX5_shape_11 ?_
    refine z_sip hC dX5_shape_12 (by decide) ?_
    refine z_sRi hC 3 (c_X5_isWithin (xl X) g _ _ _ (by omega) (by omega) (by omega)) gX5_shape_X5_isWithin rfl hd_X5_isWithin_s (by decide) ⟨rfl, rfl⟩ [] (by decide) rfl rfl rfl (Nat.le_of_ble_eq_true rfl) dX5_shape_15 (by decide) ?_
    refine z_if_ne hC 23 dX5_shape_18 (by decide) (b2_r _) (fun c_18 => ?_) (fun c_18 => ?_)
    ·
      have c_18 := b2_t c_18
      refine z_aload_n hC 0 dX5_shape_23 rfl rfl ?_
      refine z_get hC iX5_shape_5 0 1 rfl rfl (by decide) mX5_shape_f21 rfl dX5_shape_24 ?_
      refine z_getN hC iX5_shape_2 1 0 rfl rfl (by decide) nf_RX5_53 rfl dX5_shape_27 ?_
      refine z_iload_n hC 1 dX5_shape_30 rfl rfl ?_
      refine z_iload_n hC 2 dX5_shape_31 rfl rfl ?_
      refine z_iast hC 2 rfl (by omega) (by decide) dX5_shape_32 (ws' := [_, _, _, _]) rfl ?_
      refine z_iconst hC dX5_shape_33 ?_
      exact hR (uZ W i w, 1) _ _ _ [0, 1, 2, 3] _ (by first | exact Or.inl ⟨by omega, rfl⟩ | exact Or.inr ⟨by omega, rfl⟩) rfl (by decide) rfl dX5_shape_34
    ·
      have c_18 := b2_f c_18
      refine z_iconst hC dX5_shape_21 ?_
      exact hR (W, -1) _ _ _ [0, 1, 2, 3] _ (by first | exact Or.inl ⟨by omega, rfl⟩ | exact Or.inr ⟨by omega, rfl⟩) rfl (by decide) rfl dX5_shape_22
set_option maxRecDepth 20000 in
theorem mX5_setting_f21 : Cond.fieldLink RX5 21 "BreakSearch" "rules" "LBreakSearch$Rules;" ∈ wsX5_setting := by decide +kernel
set_option maxRecDepth 20000 in
theorem iX5_setting_5 : ∀ w ∈ u_ws RX5 TX5 4, w ∈ wsX5_setting := by decide +kernel
set_option maxRecDepth 20000 in
theorem iX5_setting_2 : ∀ w ∈ u_ws RX2 TX2 2, w ∈ wsX5_setting := by decide +kernel
abbrev rm_X5_setting : Room := { frames := 2, cells := 0, slots := 0, locals := 34 }
set_option maxHeartbeats 4000000 in
set_option maxRecDepth 100000 in
theorem c_X5_setting (l : Launch) (g : zG) (hB hI hS hY : Nat) (oR aW aT : Nat) (W T : Int → Int) (x v : Int) (h1 : -2147483648 ≤ x ∧ x ≤ 2147483647) (h2 : -2147483648 ≤ v ∧ v ≤ 2147483647) : zMWi (S := (Int → Int) × (Int)) l yX5_setting wsX5_setting rm_X5_setting g [(hB, eo 5 [.ref hI, .ref oR, .ref hS, .ref hY]), (oR, eo 2 [.ref aW, .ref aT]), (aW, ei g 50 W), (aT, ei g 3 T)] [.ref hB, .int (iZ (x)), .int (iZ (v))] (fun u => ((¬ ((0 ≤ x ∧ x ≤ 2) ∧ ((x = 2 ∧ 0 ≤ v) ∨ (¬ x = 2 ∧ -1 ≤ v)) ∧ v ≤ 10000)) ∧ u = (T, -1)) ∨ (((0 ≤ x ∧ x ≤ 2) ∧ ((x = 2 ∧ 0 ≤ v) ∨ (¬ x = 2 ∧ -1 ≤ v)) ∧ v ≤ 10000) ∧ u = (uZ T x v, 1))) (fun u => u.2) (fun u => [(hB, eo 5 [.ref hI, .ref oR, .ref hS, .ref hY]), (oR, eo 2 [.ref aW, .ref aT]), (aW, ei g 50 W), (aT, ei g 3 u.1)]) 0 0 := by
  refine z_beWi (cc := cX5_setting) (nL := 4) (ret := some .int) (plainFor_of_name (by decide +kernel)) rfl (Or.inl rfl) (Nat.le_of_ble_eq_true rfl) ?_
  intro X A hC hN hR
  have hC : zC X g cX5_setting RX5 wsX5_setting rm_X5_setting 4 := hC
  show ZG X g (zD X A) 0 0 [(hB, eo 5 [.ref hI, .ref oR, .ref hS, .ref hY]), (oR, eo 2 [.ref aW, .ref aT]), (aW, ei g 50 W), (aT, ei g 3 T)] [(0, .ref hB), (1, .int (iZ (x))), (2, .int (iZ (v)))] 0 []
  refine z_iload_n hC 1 dX5_setting_0 rfl rfl ?_
  refine z_iconst hC dX5_setting_1 ?_
  refine z_iconst hC dX5_setting_2 ?_
  refine z_sRi hC 3 (c_X5_isWithin (xl X) g _ _ _ (by omega) (by omega) (by omega)) gX5_setting_X5_isWithin rfl hd_X5_isWithin_s (by decide) ⟨rfl, rfl⟩ [] (by decide) rfl rfl rfl (Nat.le_of_ble_eq_true rfl) dX5_setting_3 (by decide) ?_
  refine z_if_ne hC 11 dX5_setting_6 (by decide) (b2_r _) (fun c_6 => ?_) (fun c_6 => ?_)
  ·
    have c_6 := b2_t c_6
    refine z_iload_n hC 1 dX5_setting_11 rfl rfl ?_
    refine z_iconst hC dX5_setting_12 ?_
    refine z_icmp_ne hC 20 dX5_setting_13 (by decide) (by omega) (by omega) (fun c_13 => ?_) (fun c_13 => ?_)
    ·
      refine z_iconst hC dX5_setting_20 ?_
      refine z_istore_n hC (lv' := [(3, _), (0, _), (1, _), (2, _)]) dX5_setting_21 rfl (by decide) rfl ?_
      refine z_iload_n hC 3 dX5_setting_22 rfl rfl ?_
      refine z_iload_n hC 0 dX5_setting_23 rfl rfl ?_
      refine z_sip hC dX5_setting_24 (by decide) ?_
      refine z_sRi hC 3 (c_X5_isWithin (xl X) g _ _ _ (by omega) (by omega) (by omega)) gX5_setting_X5_isWithin rfl hd_X5_isWithin_s (by decide) ⟨rfl, rfl⟩ [] (by decide) rfl rfl rfl (Nat.le_of_ble_eq_true rfl) dX5_setting_27 (by decide) ?_
      refine z_if_ne hC 35 dX5_setting_30 (by decide) (b2_r _) (fun c_30 => ?_) (fun c_30 => ?_)
      ·
        have c_30 := b2_t c_30
        refine z_aload_n hC 1 dX5_setting_35 rfl rfl ?_
        refine z_get hC iX5_setting_5 0 1 rfl rfl (by decide) mX5_setting_f21 rfl dX5_setting_36 ?_
        refine z_getN hC iX5_setting_2 1 1 rfl rfl (by decide) nf_RX5_57 rfl dX5_setting_39 ?_
        refine z_iload_n hC 2 dX5_setting_42 rfl rfl ?_
        refine z_iload_n hC 3 dX5_setting_43 rfl rfl ?_
        refine z_iast hC 3 rfl (by omega) (by decide) dX5_setting_44 (ws' := [_, _, _, _]) rfl ?_
        refine z_iconst hC dX5_setting_45 ?_
        exact hR (uZ T x v, 1) _ _ _ [0, 1, 2, 3] _ (by first | exact Or.inl ⟨by omega, rfl⟩ | exact Or.inr ⟨by omega, rfl⟩) rfl (by decide) rfl dX5_setting_46
      ·
        have c_30 := b2_f c_30
        refine z_iconst hC dX5_setting_33 ?_
        exact hR (T, -1) _ _ _ [0, 1, 2, 3] _ (by first | exact Or.inl ⟨by omega, rfl⟩ | exact Or.inr ⟨by omega, rfl⟩) rfl (by decide) rfl dX5_setting_34
    ·
      refine z_iconst hC dX5_setting_16 ?_
      refine z_goto (tgt := 21) hC dX5_setting_17 (by decide) ?_
      refine z_istore_n hC (lv' := [(3, _), (0, _), (1, _), (2, _)]) dX5_setting_21 rfl (by decide) rfl ?_
      refine z_iload_n hC 3 dX5_setting_22 rfl rfl ?_
      refine z_iload_n hC 0 dX5_setting_23 rfl rfl ?_
      refine z_sip hC dX5_setting_24 (by decide) ?_
      refine z_sRi hC 3 (c_X5_isWithin (xl X) g _ _ _ (by omega) (by omega) (by omega)) gX5_setting_X5_isWithin rfl hd_X5_isWithin_s (by decide) ⟨rfl, rfl⟩ [] (by decide) rfl rfl rfl (Nat.le_of_ble_eq_true rfl) dX5_setting_27 (by decide) ?_
      refine z_if_ne hC 35 dX5_setting_30 (by decide) (b2_r _) (fun c_30 => ?_) (fun c_30 => ?_)
      ·
        have c_30 := b2_t c_30
        refine z_aload_n hC 1 dX5_setting_35 rfl rfl ?_
        refine z_get hC iX5_setting_5 0 1 rfl rfl (by decide) mX5_setting_f21 rfl dX5_setting_36 ?_
        refine z_getN hC iX5_setting_2 1 1 rfl rfl (by decide) nf_RX5_57 rfl dX5_setting_39 ?_
        refine z_iload_n hC 2 dX5_setting_42 rfl rfl ?_
        refine z_iload_n hC 3 dX5_setting_43 rfl rfl ?_
        refine z_iast hC 3 rfl (by omega) (by decide) dX5_setting_44 (ws' := [_, _, _, _]) rfl ?_
        refine z_iconst hC dX5_setting_45 ?_
        exact hR (uZ T x v, 1) _ _ _ [0, 1, 2, 3] _ (by first | exact Or.inl ⟨by omega, rfl⟩ | exact Or.inr ⟨by omega, rfl⟩) rfl (by decide) rfl dX5_setting_46
      ·
        have c_30 := b2_f c_30
        refine z_iconst hC dX5_setting_33 ?_
        exact hR (T, -1) _ _ _ [0, 1, 2, 3] _ (by first | exact Or.inl ⟨by omega, rfl⟩ | exact Or.inr ⟨by omega, rfl⟩) rfl (by decide) rfl dX5_setting_34
  ·
    have c_6 := b2_f c_6
    refine z_iconst hC dX5_setting_9 ?_
    exact hR (T, -1) _ _ _ [0, 1, 2, 3] _ (by first | exact Or.inl ⟨by omega, rfl⟩ | exact Or.inr ⟨by omega, rfl⟩) rfl (by decide) rfl dX5_setting_10
set_option maxRecDepth 20000 in
theorem mX5_at_f37 : Cond.fieldLink RX5 37 "BreakSearch" "told" "LBreakSearch$Way;" ∈ wsX5_at := by decide +kernel
set_option maxRecDepth 20000 in
theorem iX5_at_5 : ∀ w ∈ u_ws RX5 TX5 4, w ∈ wsX5_at := by decide +kernel
set_option maxRecDepth 20000 in
theorem mX5_at_iniRX4 : Cond.initialized RX4 ∈ wsX5_at := by decide +kernel
set_option maxRecDepth 20000 in
theorem mX5_at_im_X4_hasLine : Cond.instanceMethod yX4_hasLine ∈ wsX5_at := by decide +kernel
set_option maxRecDepth 20000 in
theorem mX5_at_se_X4_hasLine : Cond.selects RX4 yX4_hasLine yX4_hasLine ∈ wsX5_at := by decide +kernel
set_option maxRecDepth 20000 in
theorem iX5_at_4 : ∀ w ∈ u_ws RX4 TX4 7, w ∈ wsX5_at := by decide +kernel
abbrev rm_X5_at : Room := { frames := 2, cells := 0, slots := 0, locals := 33 }
set_option maxHeartbeats 4000000 in
set_option maxRecDepth 100000 in
theorem c_X5_at (l : Launch) (g : zG) (hB hI oR hS : Nat) (hY aE aQ aB aU : Nat) (tc tp td : Int) (E Q B U : Int → Int) (p : Int) (h1 : 0 ≤ tc ∧ tc ≤ 50) (h2 : -2147483648 ≤ p ∧ p ≤ 2147483647) : zMRi l yX5_at wsX5_at rm_X5_at g [(hB, eo 5 [.ref hI, .ref oR, .ref hS, .ref hY]), (hY, eo 4 [.ref aE, .ref aQ, .ref aB, .ref aU, .int (iZ (tc)), .int (iZ (tp)), .long (lZ (td))]), (aE, ei g 50 E), (aQ, ei g 50 Q), (aB, ei g 50 B), (aU, ei g 50 U)] [.ref hB, .int (iZ (p))] (if 0 ≤ p ∧ p < tc then E p else -1) := by
  refine z_beRi (cc := cX5_at) (nL := 2) (ret := some .int) (plainFor_of_name (by decide +kernel)) rfl (Or.inl rfl) (Nat.le_of_ble_eq_true rfl) ?_
  intro X hC hR
  have hC : zC X g cX5_at RX5 wsX5_at rm_X5_at 2 := hC
  show ZG X g (zE X) 0 0 [(hB, eo 5 [.ref hI, .ref oR, .ref hS, .ref hY]), (hY, eo 4 [.ref aE, .ref aQ, .ref aB, .ref aU, .int (iZ (tc)), .int (iZ (tp)), .long (lZ (td))]), (aE, ei g 50 E), (aQ, ei g 50 Q), (aB, ei g 50 B), (aU, ei g 50 U)] [(0, .ref hB), (1, .int (iZ (p)))] 0 []
  refine z_aload_n hC 0 dX5_at_0 rfl rfl ?_
  refine z_get hC iX5_at_5 0 3 rfl rfl (by decide) mX5_at_f37 rfl dX5_at_1 ?_
  refine z_iload_n hC 1 dX5_at_4 rfl rfl ?_
  refine z_vnRi hC 1 (c_X4_hasLine (xl X) g _ _ _ _ _ _ _ _ _ _ _ _ _ (by omega) (by omega)) gX5_at_X4_hasLine_n78 nm_RX5_78 mX5_at_iniRX4 mX5_at_im_X4_hasLine mX5_at_se_X4_hasLine rfl hd_X4_hasLine_s (by decide) ⟨rfl, rfl⟩ [1, 2, 3, 4, 5] (by decide) rfl 1 4 rfl rfl rfl rfl rfl (Nat.le_of_ble_eq_true rfl) dX5_at_5 (by decide) ?_
  refine z_if_eq hC 23 dX5_at_8 (by decide) (b2_r _) (fun c_8 => ?_) (fun c_8 => ?_)
  ·
    have c_8 := b2_f c_8
    refine z_iconst hC dX5_at_23 ?_
    exact hR _ _ _ _ (by first | exact (if_pos (by omega)).symm | exact (if_neg (by omega)).symm) dX5_at_24
  ·
    have c_8 := b2_t c_8
    refine z_aload_n hC 0 dX5_at_11 rfl rfl ?_
    refine z_get hC iX5_at_5 0 3 rfl rfl (by decide) mX5_at_f37 rfl dX5_at_12 ?_
    refine z_getN hC iX5_at_4 1 0 rfl rfl (by decide) nf_RX5_82 rfl dX5_at_15 ?_
    refine z_iload_n hC 1 dX5_at_18 rfl rfl ?_
    refine z_iald hC 2 rfl (by omega) (by decide) dX5_at_19 ?_
    refine z_goto (tgt := 24) hC dX5_at_20 (by decide) ?_
    exact hR _ _ _ _ (by first | exact (if_pos (by omega)).symm | exact (if_neg (by omega)).symm) dX5_at_24
set_option maxRecDepth 20000 in
theorem mX5_lacks_f37 : Cond.fieldLink RX5 37 "BreakSearch" "told" "LBreakSearch$Way;" ∈ wsX5_lacks := by decide +kernel
set_option maxRecDepth 20000 in
theorem iX5_lacks_5 : ∀ w ∈ u_ws RX5 TX5 4, w ∈ wsX5_lacks := by decide +kernel
set_option maxRecDepth 20000 in
theorem mX5_lacks_iniRX4 : Cond.initialized RX4 ∈ wsX5_lacks := by decide +kernel
set_option maxRecDepth 20000 in
theorem mX5_lacks_im_X4_hasLine : Cond.instanceMethod yX4_hasLine ∈ wsX5_lacks := by decide +kernel
set_option maxRecDepth 20000 in
theorem mX5_lacks_se_X4_hasLine : Cond.selects RX4 yX4_hasLine yX4_hasLine ∈ wsX5_lacks := by decide +kernel
set_option maxRecDepth 20000 in
theorem iX5_lacks_4 : ∀ w ∈ u_ws RX4 TX4 7, w ∈ wsX5_lacks := by decide +kernel
abbrev rm_X5_lacks : Room := { frames := 2, cells := 0, slots := 0, locals := 33 }
set_option maxHeartbeats 4000000 in
set_option maxRecDepth 100000 in
theorem c_X5_lacks (l : Launch) (g : zG) (hB hI oR hS : Nat) (hY aE aQ aB aU : Nat) (tc tp td : Int) (E Q B U : Int → Int) (p : Int) (h1 : 0 ≤ tc ∧ tc ≤ 50) (h2 : -2147483648 ≤ p ∧ p ≤ 2147483647) : zMRi l yX5_lacks wsX5_lacks rm_X5_lacks g [(hB, eo 5 [.ref hI, .ref oR, .ref hS, .ref hY]), (hY, eo 4 [.ref aE, .ref aQ, .ref aB, .ref aU, .int (iZ (tc)), .int (iZ (tp)), .long (lZ (td))]), (aE, ei g 50 E), (aQ, ei g 50 Q), (aB, ei g 50 B), (aU, ei g 50 U)] [.ref hB, .int (iZ (p))] (if 0 ≤ p ∧ p < tc then Q p else 0) := by
  refine z_beRi (cc := cX5_lacks) (nL := 2) (ret := some .int) (plainFor_of_name (by decide +kernel)) rfl (Or.inl rfl) (Nat.le_of_ble_eq_true rfl) ?_
  intro X hC hR
  have hC : zC X g cX5_lacks RX5 wsX5_lacks rm_X5_lacks 2 := hC
  show ZG X g (zE X) 0 0 [(hB, eo 5 [.ref hI, .ref oR, .ref hS, .ref hY]), (hY, eo 4 [.ref aE, .ref aQ, .ref aB, .ref aU, .int (iZ (tc)), .int (iZ (tp)), .long (lZ (td))]), (aE, ei g 50 E), (aQ, ei g 50 Q), (aB, ei g 50 B), (aU, ei g 50 U)] [(0, .ref hB), (1, .int (iZ (p)))] 0 []
  refine z_aload_n hC 0 dX5_lacks_0 rfl rfl ?_
  refine z_get hC iX5_lacks_5 0 3 rfl rfl (by decide) mX5_lacks_f37 rfl dX5_lacks_1 ?_
  refine z_iload_n hC 1 dX5_lacks_4 rfl rfl ?_
  refine z_vnRi hC 1 (c_X4_hasLine (xl X) g _ _ _ _ _ _ _ _ _ _ _ _ _ (by omega) (by omega)) gX5_lacks_X4_hasLine_n78 nm_RX5_78 mX5_lacks_iniRX4 mX5_lacks_im_X4_hasLine mX5_lacks_se_X4_hasLine rfl hd_X4_hasLine_s (by decide) ⟨rfl, rfl⟩ [1, 2, 3, 4, 5] (by decide) rfl 1 4 rfl rfl rfl rfl rfl (Nat.le_of_ble_eq_true rfl) dX5_lacks_5 (by decide) ?_
  refine z_if_eq hC 23 dX5_lacks_8 (by decide) (b2_r _) (fun c_8 => ?_) (fun c_8 => ?_)
  ·
    have c_8 := b2_f c_8
    refine z_iconst hC dX5_lacks_23 ?_
    exact hR _ _ _ _ (by first | exact (if_pos (by omega)).symm | exact (if_neg (by omega)).symm) dX5_lacks_24
  ·
    have c_8 := b2_t c_8
    refine z_aload_n hC 0 dX5_lacks_11 rfl rfl ?_
    refine z_get hC iX5_lacks_5 0 3 rfl rfl (by decide) mX5_lacks_f37 rfl dX5_lacks_12 ?_
    refine z_getN hC iX5_lacks_4 1 1 rfl rfl (by decide) nf_RX5_85 rfl dX5_lacks_15 ?_
    refine z_iload_n hC 1 dX5_lacks_18 rfl rfl ?_
    refine z_iald hC 3 rfl (by omega) (by decide) dX5_lacks_19 ?_
    refine z_goto (tgt := 24) hC dX5_lacks_20 (by decide) ?_
    exact hR _ _ _ _ (by first | exact (if_pos (by omega)).symm | exact (if_neg (by omega)).symm) dX5_lacks_24
set_option maxRecDepth 20000 in
theorem mX5_badness_f37 : Cond.fieldLink RX5 37 "BreakSearch" "told" "LBreakSearch$Way;" ∈ wsX5_badness := by decide +kernel
set_option maxRecDepth 20000 in
theorem iX5_badness_5 : ∀ w ∈ u_ws RX5 TX5 4, w ∈ wsX5_badness := by decide +kernel
set_option maxRecDepth 20000 in
theorem mX5_badness_iniRX4 : Cond.initialized RX4 ∈ wsX5_badness := by decide +kernel
set_option maxRecDepth 20000 in
theorem mX5_badness_im_X4_hasLine : Cond.instanceMethod yX4_hasLine ∈ wsX5_badness := by decide +kernel
set_option maxRecDepth 20000 in
theorem mX5_badness_se_X4_hasLine : Cond.selects RX4 yX4_hasLine yX4_hasLine ∈ wsX5_badness := by decide +kernel
set_option maxRecDepth 20000 in
theorem iX5_badness_4 : ∀ w ∈ u_ws RX4 TX4 7, w ∈ wsX5_badness := by decide +kernel
abbrev rm_X5_badness : Room := { frames := 2, cells := 0, slots := 0, locals := 33 }
set_option maxHeartbeats 4000000 in
set_option maxRecDepth 100000 in
theorem c_X5_badness (l : Launch) (g : zG) (hB hI oR hS : Nat) (hY aE aQ aB aU : Nat) (tc tp td : Int) (E Q B U : Int → Int) (p : Int) (h1 : 0 ≤ tc ∧ tc ≤ 50) (h2 : -2147483648 ≤ p ∧ p ≤ 2147483647) : zMRi l yX5_badness wsX5_badness rm_X5_badness g [(hB, eo 5 [.ref hI, .ref oR, .ref hS, .ref hY]), (hY, eo 4 [.ref aE, .ref aQ, .ref aB, .ref aU, .int (iZ (tc)), .int (iZ (tp)), .long (lZ (td))]), (aE, ei g 50 E), (aQ, ei g 50 Q), (aB, ei g 50 B), (aU, ei g 50 U)] [.ref hB, .int (iZ (p))] (if 0 ≤ p ∧ p < tc then B p else 0) := by
  refine z_beRi (cc := cX5_badness) (nL := 2) (ret := some .int) (plainFor_of_name (by decide +kernel)) rfl (Or.inl rfl) (Nat.le_of_ble_eq_true rfl) ?_
  intro X hC hR
  have hC : zC X g cX5_badness RX5 wsX5_badness rm_X5_badness 2 := hC
  show ZG X g (zE X) 0 0 [(hB, eo 5 [.ref hI, .ref oR, .ref hS, .ref hY]), (hY, eo 4 [.ref aE, .ref aQ, .ref aB, .ref aU, .int (iZ (tc)), .int (iZ (tp)), .long (lZ (td))]), (aE, ei g 50 E), (aQ, ei g 50 Q), (aB, ei g 50 B), (aU, ei g 50 U)] [(0, .ref hB), (1, .int (iZ (p)))] 0 []
  refine z_aload_n hC 0 dX5_badness_0 rfl rfl ?_
  refine z_get hC iX5_badness_5 0 3 rfl rfl (by decide) mX5_badness_f37 rfl dX5_badness_1 ?_
  refine z_iload_n hC 1 dX5_badness_4 rfl rfl ?_
  refine z_vnRi hC 1 (c_X4_hasLine (xl X) g _ _ _ _ _ _ _ _ _ _ _ _ _ (by omega) (by omega)) gX5_badness_X4_hasLine_n78 nm_RX5_78 mX5_badness_iniRX4 mX5_badness_im_X4_hasLine mX5_badness_se_X4_hasLine rfl hd_X4_hasLine_s (by decide) ⟨rfl, rfl⟩ [1, 2, 3, 4, 5] (by decide) rfl 1 4 rfl rfl rfl rfl rfl (Nat.le_of_ble_eq_true rfl) dX5_badness_5 (by decide) ?_
  refine z_if_eq hC 23 dX5_badness_8 (by decide) (b2_r _) (fun c_8 => ?_) (fun c_8 => ?_)
  ·
    have c_8 := b2_f c_8
    refine z_iconst hC dX5_badness_23 ?_
    exact hR _ _ _ _ (by first | exact (if_pos (by omega)).symm | exact (if_neg (by omega)).symm) dX5_badness_24
  ·
    have c_8 := b2_t c_8
    refine z_aload_n hC 0 dX5_badness_11 rfl rfl ?_
    refine z_get hC iX5_badness_5 0 3 rfl rfl (by decide) mX5_badness_f37 rfl dX5_badness_12 ?_
    refine z_getN hC iX5_badness_4 1 2 rfl rfl (by decide) nf_RX5_88 rfl dX5_badness_15 ?_
    refine z_iload_n hC 1 dX5_badness_18 rfl rfl ?_
    refine z_iald hC 4 rfl (by omega) (by decide) dX5_badness_19 ?_
    refine z_goto (tgt := 24) hC dX5_badness_20 (by decide) ?_
    exact hR _ _ _ _ (by first | exact (if_pos (by omega)).symm | exact (if_neg (by omega)).symm) dX5_badness_24
set_option maxRecDepth 20000 in
theorem mX5_classOf_f37 : Cond.fieldLink RX5 37 "BreakSearch" "told" "LBreakSearch$Way;" ∈ wsX5_classOf := by decide +kernel
set_option maxRecDepth 20000 in
theorem iX5_classOf_5 : ∀ w ∈ u_ws RX5 TX5 4, w ∈ wsX5_classOf := by decide +kernel
set_option maxRecDepth 20000 in
theorem mX5_classOf_iniRX4 : Cond.initialized RX4 ∈ wsX5_classOf := by decide +kernel
set_option maxRecDepth 20000 in
theorem mX5_classOf_im_X4_hasLine : Cond.instanceMethod yX4_hasLine ∈ wsX5_classOf := by decide +kernel
set_option maxRecDepth 20000 in
theorem mX5_classOf_se_X4_hasLine : Cond.selects RX4 yX4_hasLine yX4_hasLine ∈ wsX5_classOf := by decide +kernel
set_option maxRecDepth 20000 in
theorem iX5_classOf_4 : ∀ w ∈ u_ws RX4 TX4 7, w ∈ wsX5_classOf := by decide +kernel
abbrev rm_X5_classOf : Room := { frames := 2, cells := 0, slots := 0, locals := 33 }
set_option maxHeartbeats 4000000 in
set_option maxRecDepth 100000 in
theorem c_X5_classOf (l : Launch) (g : zG) (hB hI oR hS : Nat) (hY aE aQ aB aU : Nat) (tc tp td : Int) (E Q B U : Int → Int) (p : Int) (h1 : 0 ≤ tc ∧ tc ≤ 50) (h2 : -2147483648 ≤ p ∧ p ≤ 2147483647) : zMRi l yX5_classOf wsX5_classOf rm_X5_classOf g [(hB, eo 5 [.ref hI, .ref oR, .ref hS, .ref hY]), (hY, eo 4 [.ref aE, .ref aQ, .ref aB, .ref aU, .int (iZ (tc)), .int (iZ (tp)), .long (lZ (td))]), (aE, ei g 50 E), (aQ, ei g 50 Q), (aB, ei g 50 B), (aU, ei g 50 U)] [.ref hB, .int (iZ (p))] (if 0 ≤ p ∧ p < tc then U p else 0) := by
  refine z_beRi (cc := cX5_classOf) (nL := 2) (ret := some .int) (plainFor_of_name (by decide +kernel)) rfl (Or.inl rfl) (Nat.le_of_ble_eq_true rfl) ?_
  intro X hC hR
  have hC : zC X g cX5_classOf RX5 wsX5_classOf rm_X5_classOf 2 := hC
  show ZG X g (zE X) 0 0 [(hB, eo 5 [.ref hI, .ref oR, .ref hS, .ref hY]), (hY, eo 4 [.ref aE, .ref aQ, .ref aB, .ref aU, .int (iZ (tc)), .int (iZ (tp)), .long (lZ (td))]), (aE, ei g 50 E), (aQ, ei g 50 Q), (aB, ei g 50 B), (aU, ei g 50 U)] [(0, .ref hB), (1, .int (iZ (p)))] 0 []
  refine z_aload_n hC 0 dX5_classOf_0 rfl rfl ?_
  refine z_get hC iX5_classOf_5 0 3 rfl rfl (by decide) mX5_classOf_f37 rfl dX5_classOf_1 ?_
  refine z_iload_n hC 1 dX5_classOf_4 rfl rfl ?_
  refine z_vnRi hC 1 (c_X4_hasLine (xl X) g _ _ _ _ _ _ _ _ _ _ _ _ _ (by omega) (by omega)) gX5_classOf_X4_hasLine_n78 nm_RX5_78 mX5_classOf_iniRX4 mX5_classOf_im_X4_hasLine mX5_classOf_se_X4_hasLine rfl hd_X4_hasLine_s (by decide) ⟨rfl, rfl⟩ [1, 2, 3, 4, 5] (by decide) rfl 1 4 rfl rfl rfl rfl rfl (Nat.le_of_ble_eq_true rfl) dX5_classOf_5 (by decide) ?_
  refine z_if_eq hC 23 dX5_classOf_8 (by decide) (b2_r _) (fun c_8 => ?_) (fun c_8 => ?_)
  ·
    have c_8 := b2_f c_8
    refine z_iconst hC dX5_classOf_23 ?_
    exact hR _ _ _ _ (by first | exact (if_pos (by omega)).symm | exact (if_neg (by omega)).symm) dX5_classOf_24
  ·
    have c_8 := b2_t c_8
    refine z_aload_n hC 0 dX5_classOf_11 rfl rfl ?_
    refine z_get hC iX5_classOf_5 0 3 rfl rfl (by decide) mX5_classOf_f37 rfl dX5_classOf_12 ?_
    refine z_getN hC iX5_classOf_4 1 3 rfl rfl (by decide) nf_RX5_91 rfl dX5_classOf_15 ?_
    refine z_iload_n hC 1 dX5_classOf_18 rfl rfl ?_
    refine z_iald hC 5 rfl (by omega) (by decide) dX5_classOf_19 ?_
    refine z_goto (tgt := 24) hC dX5_classOf_20 (by decide) ?_
    exact hR _ _ _ _ (by first | exact (if_pos (by omega)).symm | exact (if_neg (by omega)).symm) dX5_classOf_24
set_option maxRecDepth 20000 in
theorem mX5_lines_f37 : Cond.fieldLink RX5 37 "BreakSearch" "told" "LBreakSearch$Way;" ∈ wsX5_lines := by decide +kernel
set_option maxRecDepth 20000 in
theorem iX5_lines_5 : ∀ w ∈ u_ws RX5 TX5 4, w ∈ wsX5_lines := by decide +kernel
set_option maxRecDepth 20000 in
theorem iX5_lines_4 : ∀ w ∈ u_ws RX4 TX4 7, w ∈ wsX5_lines := by decide +kernel
abbrev rm_X5_lines : Room := { frames := 1, cells := 0, slots := 0, locals := 12 }
set_option maxHeartbeats 4000000 in
set_option maxRecDepth 100000 in
theorem c_X5_lines (l : Launch) (g : zG) (hB hI oR hS : Nat) (hY aE aQ aB aU : Nat) (tc tp td : Int) (E Q B U : Int → Int)  : zMRi l yX5_lines wsX5_lines rm_X5_lines g [(hB, eo 5 [.ref hI, .ref oR, .ref hS, .ref hY]), (hY, eo 4 [.ref aE, .ref aQ, .ref aB, .ref aU, .int (iZ (tc)), .int (iZ (tp)), .long (lZ (td))]), (aE, ei g 50 E), (aQ, ei g 50 Q), (aB, ei g 50 B), (aU, ei g 50 U)] [.ref hB] (tc) := by
  refine z_beRi (cc := cX5_lines) (nL := 1) (ret := some .int) (plainFor_of_name (by decide +kernel)) rfl (Or.inl rfl) (Nat.le_of_ble_eq_true rfl) ?_
  intro X hC hR
  have hC : zC X g cX5_lines RX5 wsX5_lines rm_X5_lines 1 := hC
  show ZG X g (zE X) 0 0 [(hB, eo 5 [.ref hI, .ref oR, .ref hS, .ref hY]), (hY, eo 4 [.ref aE, .ref aQ, .ref aB, .ref aU, .int (iZ (tc)), .int (iZ (tp)), .long (lZ (td))]), (aE, ei g 50 E), (aQ, ei g 50 Q), (aB, ei g 50 B), (aU, ei g 50 U)] [(0, .ref hB)] 0 []
  refine z_aload_n hC 0 dX5_lines_0 rfl rfl ?_
  refine z_get hC iX5_lines_5 0 3 rfl rfl (by decide) mX5_lines_f37 rfl dX5_lines_1 ?_
  refine z_getN hC iX5_lines_4 1 4 rfl rfl (by decide) nf_RX5_71 rfl dX5_lines_4 ?_
  exact hR _ _ _ _ rfl dX5_lines_7
set_option maxRecDepth 20000 in
theorem mX5_pass_f37 : Cond.fieldLink RX5 37 "BreakSearch" "told" "LBreakSearch$Way;" ∈ wsX5_pass := by decide +kernel
set_option maxRecDepth 20000 in
theorem iX5_pass_5 : ∀ w ∈ u_ws RX5 TX5 4, w ∈ wsX5_pass := by decide +kernel
set_option maxRecDepth 20000 in
theorem iX5_pass_4 : ∀ w ∈ u_ws RX4 TX4 7, w ∈ wsX5_pass := by decide +kernel
abbrev rm_X5_pass : Room := { frames := 1, cells := 0, slots := 0, locals := 12 }
set_option maxHeartbeats 4000000 in
set_option maxRecDepth 100000 in
theorem c_X5_pass (l : Launch) (g : zG) (hB hI oR hS : Nat) (hY aE aQ aB aU : Nat) (tc tp td : Int) (E Q B U : Int → Int)  : zMRi l yX5_pass wsX5_pass rm_X5_pass g [(hB, eo 5 [.ref hI, .ref oR, .ref hS, .ref hY]), (hY, eo 4 [.ref aE, .ref aQ, .ref aB, .ref aU, .int (iZ (tc)), .int (iZ (tp)), .long (lZ (td))]), (aE, ei g 50 E), (aQ, ei g 50 Q), (aB, ei g 50 B), (aU, ei g 50 U)] [.ref hB] (tp) := by
  refine z_beRi (cc := cX5_pass) (nL := 1) (ret := some .int) (plainFor_of_name (by decide +kernel)) rfl (Or.inl rfl) (Nat.le_of_ble_eq_true rfl) ?_
  intro X hC hR
  have hC : zC X g cX5_pass RX5 wsX5_pass rm_X5_pass 1 := hC
  show ZG X g (zE X) 0 0 [(hB, eo 5 [.ref hI, .ref oR, .ref hS, .ref hY]), (hY, eo 4 [.ref aE, .ref aQ, .ref aB, .ref aU, .int (iZ (tc)), .int (iZ (tp)), .long (lZ (td))]), (aE, ei g 50 E), (aQ, ei g 50 Q), (aB, ei g 50 B), (aU, ei g 50 U)] [(0, .ref hB)] 0 []
  refine z_aload_n hC 0 dX5_pass_0 rfl rfl ?_
  refine z_get hC iX5_pass_5 0 3 rfl rfl (by decide) mX5_pass_f37 rfl dX5_pass_1 ?_
  refine z_getN hC iX5_pass_4 1 5 rfl rfl (by decide) nf_RX5_75 rfl dX5_pass_4 ?_
  exact hR _ _ _ _ rfl dX5_pass_7
set_option maxRecDepth 20000 in
theorem mX5_demerits_f37 : Cond.fieldLink RX5 37 "BreakSearch" "told" "LBreakSearch$Way;" ∈ wsX5_demerits := by decide +kernel
set_option maxRecDepth 20000 in
theorem iX5_demerits_5 : ∀ w ∈ u_ws RX5 TX5 4, w ∈ wsX5_demerits := by decide +kernel
set_option maxRecDepth 20000 in
theorem iX5_demerits_4 : ∀ w ∈ u_ws RX4 TX4 7, w ∈ wsX5_demerits := by decide +kernel
abbrev rm_X5_demerits : Room := { frames := 1, cells := 0, slots := 0, locals := 12 }
set_option maxHeartbeats 4000000 in
set_option maxRecDepth 100000 in
theorem c_X5_demerits (l : Launch) (g : zG) (hB hI oR hS : Nat) (hY aE aQ aB aU : Nat) (tc tp td : Int) (E Q B U : Int → Int)  : zMRl l yX5_demerits wsX5_demerits rm_X5_demerits g [(hB, eo 5 [.ref hI, .ref oR, .ref hS, .ref hY]), (hY, eo 4 [.ref aE, .ref aQ, .ref aB, .ref aU, .int (iZ (tc)), .int (iZ (tp)), .long (lZ (td))]), (aE, ei g 50 E), (aQ, ei g 50 Q), (aB, ei g 50 B), (aU, ei g 50 U)] [.ref hB] (td) := by
  refine z_beRl (cc := cX5_demerits) (nL := 1) (plainFor_of_name (by decide +kernel)) rfl (Nat.le_of_ble_eq_true rfl) ?_
  intro X hC hR
  have hC : zC X g cX5_demerits RX5 wsX5_demerits rm_X5_demerits 1 := hC
  show ZG X g (zE X) 0 0 [(hB, eo 5 [.ref hI, .ref oR, .ref hS, .ref hY]), (hY, eo 4 [.ref aE, .ref aQ, .ref aB, .ref aU, .int (iZ (tc)), .int (iZ (tp)), .long (lZ (td))]), (aE, ei g 50 E), (aQ, ei g 50 Q), (aB, ei g 50 B), (aU, ei g 50 U)] [(0, .ref hB)] 0 []
  refine z_aload_n hC 0 dX5_demerits_0 rfl rfl ?_
  refine z_get hC iX5_demerits_5 0 3 rfl rfl (by decide) mX5_demerits_f37 rfl dX5_demerits_1 ?_
  refine z_getN hC iX5_demerits_4 1 6 rfl rfl (by decide) nf_RX5_94 rfl dX5_demerits_4 ?_
  exact hR _ _ _ _ rfl dX5_demerits_7
set_option maxRecDepth 20000 in
theorem mX5_clear_f10 : Cond.fieldLink RX5 10 "BreakSearch" "items" "LBreakSearch$Items;" ∈ wsX5_clear := by decide +kernel
set_option maxRecDepth 20000 in
theorem iX5_clear_5 : ∀ w ∈ u_ws RX5 TX5 4, w ∈ wsX5_clear := by decide +kernel
set_option maxRecDepth 20000 in
theorem iX5_clear_0 : ∀ w ∈ u_ws RX0 TX0 8, w ∈ wsX5_clear := by decide +kernel
abbrev rm_X5_clear : Room := { frames := 1, cells := 0, slots := 0, locals := 12 }
set_option maxHeartbeats 4000000 in
set_option maxRecDepth 100000 in
theorem c_X5_clear (l : Launch) (g : zG) (hB oR hS hY : Nat) (hI aK aV aP aM aL aS aH : Nat) (n : Int) (K V P M LB SB HB : Int → Int)  : zMWi (S := Unit) l yX5_clear wsX5_clear rm_X5_clear g [(hB, eo 5 [.ref hI, .ref oR, .ref hS, .ref hY]), (hI, eo 0 [.ref aK, .ref aV, .ref aP, .ref aM, .ref aL, .ref aS, .ref aH, .int (iZ (n))]), (aK, ei g 100 K), (aV, ei g 100 V), (aP, ei g 100 P), (aM, ez g 100 M), (aL, ei g 101 LB), (aS, ei g 101 SB), (aH, ei g 101 HB)] [.ref hB] (fun _ => True) (fun u => n) (fun u => [(hB, eo 5 [.ref hI, .ref oR, .ref hS, .ref hY]), (hI, eo 0 [.ref aK, .ref aV, .ref aP, .ref aM, .ref aL, .ref aS, .ref aH, .int (iZ (0))]), (aK, ei g 100 K), (aV, ei g 100 V), (aP, ei g 100 P), (aM, ez g 100 M), (aL, ei g 101 LB), (aS, ei g 101 SB), (aH, ei g 101 HB)]) 0 0 := by
  refine z_beWi (cc := cX5_clear) (nL := 2) (ret := some .int) (plainFor_of_name (by decide +kernel)) rfl (Or.inl rfl) (Nat.le_of_ble_eq_true rfl) ?_
  intro X A hC hN hR
  have hC : zC X g cX5_clear RX5 wsX5_clear rm_X5_clear 2 := hC
  show ZG X g (zD X A) 0 0 [(hB, eo 5 [.ref hI, .ref oR, .ref hS, .ref hY]), (hI, eo 0 [.ref aK, .ref aV, .ref aP, .ref aM, .ref aL, .ref aS, .ref aH, .int (iZ (n))]), (aK, ei g 100 K), (aV, ei g 100 V), (aP, ei g 100 P), (aM, ez g 100 M), (aL, ei g 101 LB), (aS, ei g 101 SB), (aH, ei g 101 HB)] [(0, .ref hB)] 0 []
  refine z_aload_n hC 0 dX5_clear_0 rfl rfl ?_
  refine z_get hC iX5_clear_5 0 0 rfl rfl (by decide) mX5_clear_f10 rfl dX5_clear_1 ?_
  refine z_getN hC iX5_clear_0 1 7 rfl rfl (by decide) nf_RX5_98 rfl dX5_clear_4 ?_
  refine z_istore_n hC (lv' := [(1, _), (0, _)]) dX5_clear_7 rfl (by decide) rfl ?_
  refine z_aload_n hC 1 dX5_clear_8 rfl rfl ?_
  refine z_get hC iX5_clear_5 0 0 rfl rfl (by decide) mX5_clear_f10 rfl dX5_clear_9 ?_
  refine z_iconst hC dX5_clear_12 ?_
  refine z_putN hC iX5_clear_0 tyX0 tyX0_ok nmX0 1 7 rfl rfl (by decide) nf_RX5_98 rfl rfl rfl (Nat.le_of_ble_eq_true rfl) dX5_clear_13 (ws' := [_, _, _, _, _, _, _, _, _]) rfl ?_
  refine z_iload_n hC 0 dX5_clear_16 rfl rfl ?_
  exact hR () _ _ _ [0, 1, 2, 3, 4, 5, 6, 7, 8] _ trivial rfl (by decide) rfl dX5_clear_17
set_option maxRecDepth 20000 in
theorem mX5_run_f37 : Cond.fieldLink RX5 37 "BreakSearch" "told" "LBreakSearch$Way;" ∈ wsX5_run := by decide +kernel
set_option maxRecDepth 20000 in
theorem iX5_run_5 : ∀ w ∈ u_ws RX5 TX5 4, w ∈ wsX5_run := by decide +kernel
set_option maxRecDepth 20000 in
theorem mX5_run_iniRX4 : Cond.initialized RX4 ∈ wsX5_run := by decide +kernel
set_option maxRecDepth 20000 in
theorem mX5_run_im_X4_forget : Cond.instanceMethod yX4_forget ∈ wsX5_run := by decide +kernel
set_option maxRecDepth 20000 in
theorem mX5_run_se_X4_forget : Cond.selects RX4 yX4_forget yX4_forget ∈ wsX5_run := by decide +kernel
set_option maxRecDepth 20000 in
theorem mX5_run_f30 : Cond.fieldLink RX5 30 "BreakSearch" "search" "LBreakSearch$Search;" ∈ wsX5_run := by decide +kernel
set_option maxRecDepth 20000 in
theorem mX5_run_iniRX3 : Cond.initialized RX3 ∈ wsX5_run := by decide +kernel
set_option maxRecDepth 20000 in
theorem mX5_run_im_X3_findsWay : Cond.instanceMethod yX3_findsWay ∈ wsX5_run := by decide +kernel
set_option maxRecDepth 20000 in
theorem mX5_run_se_X3_findsWay : Cond.selects RX3 yX3_findsWay yX3_findsWay ∈ wsX5_run := by decide +kernel
set_option maxRecDepth 20000 in
theorem mX5_run_im_X3_tell : Cond.instanceMethod yX3_tell ∈ wsX5_run := by decide +kernel
set_option maxRecDepth 20000 in
theorem mX5_run_se_X3_tell : Cond.selects RX3 yX3_tell yX3_tell ∈ wsX5_run := by decide +kernel
set_option maxRecDepth 20000 in
theorem iX5_run_4 : ∀ w ∈ u_ws RX4 TX4 7, w ∈ wsX5_run := by decide +kernel
abbrev rm_X5_run : Room := { frames := 8, cells := 0, slots := 0, locals := 191 }
set_option maxHeartbeats 4000000 in
set_option maxRecDepth 100000 in
theorem c_X5_run (l : Launch) (g : zG) (hB : Nat) (hS aC aN : Nat) (ps : Int) (C N : Int → Int) (hI aK aV aP aM aL aS aH : Nat) (n : Int) (K V P M LB SB HB : Int → Int) (oR aW aT : Nat) (W T : Int → Int) (hL : Nat) (k ug lo sd : Int) (hY aE aQ aB aU : Nat) (tc tp td : Int) (E Q B U : Int → Int) (h1 : zCi n K V P M LB SB HB W T) : zMWi (S := (Int → Int) × (Int → Int) × (Int) × (Int) × (Int) × (Int) × (Int) × (Int → Int) × (Int → Int) × (Int → Int) × (Int → Int) × (Int) × (Int) × (Int) × (Int)) l yX5_run wsX5_run rm_X5_run g [(hB, eo 5 [.ref hI, .ref oR, .ref hS, .ref hY]), (hS, eo 3 [.ref hI, .ref oR, .ref hL, .ref aC, .ref aN, .int (iZ (ps))]), (aC, el g 20808 C), (aN, eb g 20808 N), (hI, eo 0 [.ref aK, .ref aV, .ref aP, .ref aM, .ref aL, .ref aS, .ref aH, .int (iZ (n))]), (aK, ei g 100 K), (aV, ei g 100 V), (aP, ei g 100 P), (aM, ez g 100 M), (aL, ei g 101 LB), (aS, ei g 101 SB), (aH, ei g 101 HB), (oR, eo 2 [.ref aW, .ref aT]), (aW, ei g 50 W), (aT, ei g 3 T), (hL, eo 1 [.int (iZ (k)), .int (iZ (ug)), .int (iZ (lo)), .int (iZ (sd))]), (hY, eo 4 [.ref aE, .ref aQ, .ref aB, .ref aU, .int (iZ (tc)), .int (iZ (tp)), .long (lZ (td))]), (aE, ei g 50 E), (aQ, ei g 50 Q), (aB, ei g 50 B), (aU, ei g 50 U)] [.ref hB] (fun u => zRun n K V P M LB SB HB W T u.2.2.2.2.2.2.2.2.2.2.2.1 u.2.2.2.2.2.2.2.2.2.2.2.2.1 u.2.2.2.2.2.2.2.2.2.2.2.2.2.1 u.2.2.2.2.2.2.2.1 u.2.2.2.2.2.2.2.2.1 u.2.2.2.2.2.2.2.2.2.1 u.2.2.2.2.2.2.2.2.2.2.1 ∧ u.2.2.2.2.2.2.2.2.2.2.2.2.2.2 = u.2.2.2.2.2.2.2.2.2.2.2.1) (fun u => u.2.2.2.2.2.2.2.2.2.2.2.2.2.2) (fun u => [(hB, eo 5 [.ref hI, .ref oR, .ref hS, .ref hY]), (hS, eo 3 [.ref hI, .ref oR, .ref hL, .ref aC, .ref aN, .int (iZ (u.2.2.1))]), (aC, el g 20808 u.1), (aN, eb g 20808 u.2.1), (hI, eo 0 [.ref aK, .ref aV, .ref aP, .ref aM, .ref aL, .ref aS, .ref aH, .int (iZ (n))]), (aK, ei g 100 K), (aV, ei g 100 V), (aP, ei g 100 P), (aM, ez g 100 M), (aL, ei g 101 LB), (aS, ei g 101 SB), (aH, ei g 101 HB), (oR, eo 2 [.ref aW, .ref aT]), (aW, ei g 50 W), (aT, ei g 3 T), (hL, eo 1 [.int (iZ (u.2.2.2.1)), .int (iZ (u.2.2.2.2.1)), .int (iZ (u.2.2.2.2.2.1)), .int (iZ (u.2.2.2.2.2.2.1))]), (hY, eo 4 [.ref aE, .ref aQ, .ref aB, .ref aU, .int (iZ (u.2.2.2.2.2.2.2.2.2.2.2.1)), .int (iZ (u.2.2.2.2.2.2.2.2.2.2.2.2.1)), .long (lZ (u.2.2.2.2.2.2.2.2.2.2.2.2.2.1))]), (aE, ei g 50 u.2.2.2.2.2.2.2.1), (aQ, ei g 50 u.2.2.2.2.2.2.2.2.1), (aB, ei g 50 u.2.2.2.2.2.2.2.2.2.1), (aU, ei g 50 u.2.2.2.2.2.2.2.2.2.2.1)]) 0 0 := by
  refine z_beWi (cc := cX5_run) (nL := 2) (ret := some .int) (plainFor_of_name (by decide +kernel)) rfl (Or.inl rfl) (Nat.le_of_ble_eq_true rfl) ?_
  intro X A hC hN hR
  have hC : zC X g cX5_run RX5 wsX5_run rm_X5_run 2 := hC
  show ZG X g (zD X A) 0 0 [(hB, eo 5 [.ref hI, .ref oR, .ref hS, .ref hY]), (hS, eo 3 [.ref hI, .ref oR, .ref hL, .ref aC, .ref aN, .int (iZ (ps))]), (aC, el g 20808 C), (aN, eb g 20808 N), (hI, eo 0 [.ref aK, .ref aV, .ref aP, .ref aM, .ref aL, .ref aS, .ref aH, .int (iZ (n))]), (aK, ei g 100 K), (aV, ei g 100 V), (aP, ei g 100 P), (aM, ez g 100 M), (aL, ei g 101 LB), (aS, ei g 101 SB), (aH, ei g 101 HB), (oR, eo 2 [.ref aW, .ref aT]), (aW, ei g 50 W), (aT, ei g 3 T), (hL, eo 1 [.int (iZ (k)), .int (iZ (ug)), .int (iZ (lo)), .int (iZ (sd))]), (hY, eo 4 [.ref aE, .ref aQ, .ref aB, .ref aU, .int (iZ (tc)), .int (iZ (tp)), .long (lZ (td))]), (aE, ei g 50 E), (aQ, ei g 50 Q), (aB, ei g 50 B), (aU, ei g 50 U)] [(0, .ref hB)] 0 []
  refine z_aload_n hC 0 dX5_run_0 rfl rfl ?_
  refine z_get hC iX5_run_5 0 3 rfl rfl (by decide) mX5_run_f37 rfl dX5_run_1 ?_
  refine z_vnWv (wr := [_, _, _, _, _, _, _, _, _, _, _, _, _, _, _, _]) hC 0 (c_X4_forget (xl X) g _ _ _ _ _ _ _ _ _ _ _ _) gX5_run_X4_forget_n60 nm_RX5_60 mX5_run_iniRX4 mX5_run_im_X4_forget mX5_run_se_X4_forget rfl hd_X4_forget_s (by decide) ⟨rfl, rfl⟩ [16, 17, 18, 19, 20] [0, 1, 2, 3, 4, 5, 6, 7, 8, 9, 10, 11, 12, 13, 14, 15] (by decide) rfl rfl (by decide) (by decide) 16 4 rfl rfl rfl rfl rfl (Nat.le_of_ble_eq_true rfl) dX5_run_4 (by decide) (fun u_4 p_4 => ?_)
  refine z_ws (ws' := [(hB, eo 5 [.ref hI, .ref oR, .ref hS, .ref hY]), (hS, eo 3 [.ref hI, .ref oR, .ref hL, .ref aC, .ref aN, .int (iZ (ps))]), (aC, el g 20808 C), (aN, eb g 20808 N), (hI, eo 0 [.ref aK, .ref aV, .ref aP, .ref aM, .ref aL, .ref aS, .ref aH, .int (iZ (n))]), (aK, ei g 100 K), (aV, ei g 100 V), (aP, ei g 100 P), (aM, ez g 100 M), (aL, ei g 101 LB), (aS, ei g 101 SB), (aH, ei g 101 HB), (oR, eo 2 [.ref aW, .ref aT]), (aW, ei g 50 W), (aT, ei g 3 T), (hL, eo 1 [.int (iZ (k)), .int (iZ (ug)), .int (iZ (lo)), .int (iZ (sd))]), (hY, eo 4 [.ref aE, .ref aQ, .ref aB, .ref aU, .int (iZ (0)), .int (iZ (0)), .long (lZ (0))]), (aE, ei g 50 E), (aQ, ei g 50 Q), (aB, ei g 50 B), (aU, ei g 50 U)]) [0, 1, 2, 3, 4, 5, 6, 7, 8, 9, 10, 11, 12, 13, 14, 15, 16, 17, 18, 19, 20] (by decide) rfl ?_
  refine z_iconst hC dX5_run_7 ?_
  refine z_istore_n hC (lv' := [(1, _), (0, _)]) dX5_run_8 rfl (by decide) rfl ?_
  have L9 : ∀ (fu : Nat) (p : Int) (C2 N2 : Int → Int) (s2 l2 u2 k2 d2 : Int), (1 ≤ p ∧ p ≤ 4) → (∀ q, 1 ≤ q → q < p → ¬ zHas n K V P M LB SB HB W T q 0) → (5 - p).toNat < fu → ZG X g (zD X A) 0 0 [(hB, eo 5 [.ref hI, .ref oR, .ref hS, .ref hY]), (hS, eo 3 [.ref hI, .ref oR, .ref hL, .ref aC, .ref aN, .int (iZ (s2))]), (aC, el g 20808 C2), (aN, eb g 20808 N2), (hI, eo 0 [.ref aK, .ref aV, .ref aP, .ref aM, .ref aL, .ref aS, .ref aH, .int (iZ (n))]), (aK, ei g 100 K), (aV, ei g 100 V), (aP, ei g 100 P), (aM, ez g 100 M), (aL, ei g 101 LB), (aS, ei g 101 SB), (aH, ei g 101 HB), (oR, eo 2 [.ref aW, .ref aT]), (aW, ei g 50 W), (aT, ei g 3 T), (hL, eo 1 [.int (iZ (l2)), .int (iZ (u2)), .int (iZ (k2)), .int (iZ (d2))]), (hY, eo 4 [.ref aE, .ref aQ, .ref aB, .ref aU, .int (iZ (0)), .int (iZ (0)), .long (lZ (0))]), (aE, ei g 50 E), (aQ, ei g 50 Q), (aB, ei g 50 B), (aU, ei g 50 U)] [(1, .int (iZ (p))), (0, .ref hB)] 9 [] := by
    intro fu
    induction fu with
    | zero => intro p C2 N2 s2 l2 u2 k2 d2; intros; omega
    | succ fu ih_9 =>
      intro p C2 N2 s2 l2 u2 k2 d2 hp hq hn
      refine z_iload_n hC 0 dX5_run_9 rfl rfl ?_
      refine z_iconst hC dX5_run_10 ?_
      refine z_icmp_gt hC 51 dX5_run_11 (by decide) (by omega) (by omega) (fun c_11 => ?_) (fun c_11 => ?_)
      ·
        refine z_iconst hC dX5_run_51 ?_
        exact hR (C2, N2, s2, l2, u2, k2, d2, E, Q, B, U, 0, 0, 0, 0) _ _ _ [0, 1, 2, 3, 4, 5, 6, 7, 8, 9, 10, 11, 12, 13, 14, 15, 16, 17, 18, 19, 20] _ ⟨Or.inr ⟨fun q g1 g2 => hq q g1 (by omega), rfl, rfl, rfl⟩, rfl⟩ rfl (by decide) rfl dX5_run_52
      ·
        have he := zCi_env h1 (p := p) (ex := 0) (by omega) (by omega)
        refine z_aload_n hC 1 dX5_run_14 rfl rfl ?_
        refine z_get hC iX5_run_5 0 2 rfl rfl (by decide) mX5_run_f30 rfl dX5_run_15 ?_
        refine z_iload_n hC 0 dX5_run_18 rfl rfl ?_
        refine z_iconst hC dX5_run_19 ?_
        refine z_vnWi (wr := [_, _, _, _, _, _]) hC 2 (c_X3_findsWay (xl X) g _ _ _ _ _ _ _ _ _ _ _ _ _ _ _ _ _ _ _ _ _ _ _ _ _ _ _ _ _ _ _ _ _ ((zMt p)) _ ((zDq n K V P M LB SB HB W T p 0)) he) gX5_run_X3_findsWay_n63 nm_RX5_63 mX5_run_iniRX3 mX5_run_im_X3_findsWay mX5_run_se_X3_findsWay rfl hd_X3_findsWay_s (by decide) ⟨rfl, rfl⟩ [1, 2, 3, 4, 5, 6, 7, 8, 9, 10, 11, 12, 13, 14, 15] [0, 16, 17, 18, 19, 20] (by decide) rfl rfl (by decide) (by decide) 1 3 rfl rfl rfl rfl rfl (Nat.le_of_ble_eq_true rfl) dX5_run_20 (by decide) (fun u_20 p_20 => ?_)
        obtain ⟨C1_20, N1_20, l1_20, u1_20, k1_20, d1_20, r1_20⟩ := u_20
        try dsimp only at p_20
        refine z_ws (ws' := [(hB, eo 5 [.ref hI, .ref oR, .ref hS, .ref hY]), (hS, eo 3 [.ref hI, .ref oR, .ref hL, .ref aC, .ref aN, .int (iZ (p))]), (aC, el g 20808 C1_20), (aN, eb g 20808 N1_20), (hI, eo 0 [.ref aK, .ref aV, .ref aP, .ref aM, .ref aL, .ref aS, .ref aH, .int (iZ (n))]), (aK, ei g 100 K), (aV, ei g 100 V), (aP, ei g 100 P), (aM, ez g 100 M), (aL, ei g 101 LB), (aS, ei g 101 SB), (aH, ei g 101 HB), (oR, eo 2 [.ref aW, .ref aT]), (aW, ei g 50 W), (aT, ei g 3 T), (hL, eo 1 [.int (iZ (l1_20)), .int (iZ (u1_20)), .int (iZ (k1_20)), .int (iZ (d1_20))]), (hY, eo 4 [.ref aE, .ref aQ, .ref aB, .ref aU, .int (iZ (0)), .int (iZ (0)), .long (lZ (0))]), (aE, ei g 50 E), (aQ, ei g 50 Q), (aB, ei g 50 B), (aU, ei g 50 U)]) [0, 6, 7, 8, 9, 10, 11, 12, 13, 14, 15, 16, 17, 18, 19, 20, 1, 2, 3, 4, 5] (by decide) rfl ?_
        refine z_top (b := r1_20) rfl ?_
        obtain ⟨hTab, hr⟩ := p_20
        refine z_top hr ?_
        refine z_if_eq hC 45 dX5_run_23 (by decide) (b2_r _) (fun c_23 => ?_) (fun c_23 => ?_)
        ·
          have c_23 := b2_f c_23
          refine z_iinc hC (lv' := [(1, _), (0, _)]) 0 dX5_run_45 rfl (by decide) rfl ?_
          refine z_goto (tgt := 9) hC dX5_run_48 (by decide) ?_
          exact ih_9 (p + 1) _ _ _ _ _ _ _ (by omega) (fun q g1 g2 => by (by_cases e : q = p); (rw [e]; exact c_23); (exact hq q g1 (by omega))) (by omega)
        ·
          have c_23 := b2_t c_23
          refine z_aload_n hC 1 dX5_run_26 rfl rfl ?_
          refine z_get hC iX5_run_5 0 2 rfl rfl (by decide) mX5_run_f30 rfl dX5_run_27 ?_
          refine z_aload_n hC 1 dX5_run_30 rfl rfl ?_
          refine z_get hC iX5_run_5 0 3 rfl rfl (by decide) mX5_run_f37 rfl dX5_run_31 ?_
          refine z_vnWv (wr := [_]) hC 1 (c_X3_tell (xl X) g _ _ _ _ _ _ _ _ _ _ _ _ _ _ _ _ _ _ _ _ _ _ _ _ _ _ _ _ _ _ _ _ _ _ _ _ _ _ _ _ _ _ _ _ ((zMt p)) 0 ((zDq n K V P M LB SB HB W T p 0)) he hTab c_23) gX5_run_X3_tell_n67 nm_RX5_67 mX5_run_iniRX3 mX5_run_im_X3_tell mX5_run_se_X3_tell rfl hd_X3_tell_s (by decide) ⟨rfl, rfl⟩ [1, 2, 3, 4, 5, 6, 7, 8, 9, 10, 11, 12, 13, 14, 15, 16, 17, 18, 19, 20] [0] (by decide) rfl rfl (by decide) (by decide) 1 3 rfl rfl rfl rfl rfl (Nat.le_of_ble_eq_true rfl) dX5_run_34 (by decide) (fun u_34 p_34 => ?_)
          obtain ⟨l1_34, u1_34, k1_34, d1_34, E1_34, Q1_34, B1_34, U1_34, c1_34⟩ := u_34
          try dsimp only at p_34
          refine z_ws (ws' := [(hB, eo 5 [.ref hI, .ref oR, .ref hS, .ref hY]), (hS, eo 3 [.ref hI, .ref oR, .ref hL, .ref aC, .ref aN, .int (iZ (p))]), (aC, el g 20808 C1_20), (aN, eb g 20808 N1_20), (hI, eo 0 [.ref aK, .ref aV, .ref aP, .ref aM, .ref aL, .ref aS, .ref aH, .int (iZ (n))]), (aK, ei g 100 K), (aV, ei g 100 V), (aP, ei g 100 P), (aM, ez g 100 M), (aL, ei g 101 LB), (aS, ei g 101 SB), (aH, ei g 101 HB), (oR, eo 2 [.ref aW, .ref aT]), (aW, ei g 50 W), (aT, ei g 3 T), (hL, eo 1 [.int (iZ (l1_34)), .int (iZ (u1_34)), .int (iZ (k1_34)), .int (iZ (d1_34))]), (hY, eo 4 [.ref aE, .ref aQ, .ref aB, .ref aU, .int (iZ (c1_34)), .int (iZ (p)), .long (lZ ((zVL ((zDq n K V P M LB SB HB W T p 0)) 0 (-1) 0).1))]), (aE, ei g 50 E1_34), (aQ, ei g 50 Q1_34), (aB, ei g 50 B1_34), (aU, ei g 50 U1_34)]) [0, 1, 2, 3, 4, 5, 6, 7, 8, 9, 10, 11, 12, 13, 14, 15, 16, 17, 18, 19, 20] (by decide) rfl ?_
          refine z_aload_n hC 1 dX5_run_37 rfl rfl ?_
          refine z_get hC iX5_run_5 0 3 rfl rfl (by decide) mX5_run_f37 rfl dX5_run_38 ?_
          refine z_getN hC iX5_run_4 16 4 rfl rfl (by decide) nf_RX5_71 rfl dX5_run_41 ?_
          exact hR (C1_20, N1_20, p, l1_34, u1_34, k1_34, d1_34, E1_34, Q1_34, B1_34, U1_34, c1_34, p, (zVL ((zDq n K V P M LB SB HB W T p 0)) 0 (-1) 0).1, c1_34) _ _ _ [0, 1, 2, 3, 4, 5, 6, 7, 8, 9, 10, 11, 12, 13, 14, 15, 16, 17, 18, 19, 20] _ ⟨Or.inl ⟨p, by omega, hq, rfl, c_23, p_34.1, rfl, p_34.2⟩, rfl⟩ rfl (by decide) rfl dX5_run_44
  exact L9 _ 1 _ _ _ _ _ _ _ (by omega) (fun q g1 g2 => by omega) (Nat.lt_succ_self _)
set_option maxRecDepth 20000 in
theorem mX5_loose_f37 : Cond.fieldLink RX5 37 "BreakSearch" "told" "LBreakSearch$Way;" ∈ wsX5_loose := by decide +kernel
set_option maxRecDepth 20000 in
theorem iX5_loose_5 : ∀ w ∈ u_ws RX5 TX5 4, w ∈ wsX5_loose := by decide +kernel
set_option maxRecDepth 20000 in
theorem iX5_loose_4 : ∀ w ∈ u_ws RX4 TX4 7, w ∈ wsX5_loose := by decide +kernel
set_option maxRecDepth 20000 in
theorem mX5_loose_f30 : Cond.fieldLink RX5 30 "BreakSearch" "search" "LBreakSearch$Search;" ∈ wsX5_loose := by decide +kernel
set_option maxRecDepth 20000 in
theorem mX5_loose_iniRX3 : Cond.initialized RX3 ∈ wsX5_loose := by decide +kernel
set_option maxRecDepth 20000 in
theorem mX5_loose_im_X3_findsWay : Cond.instanceMethod yX3_findsWay ∈ wsX5_loose := by decide +kernel
set_option maxRecDepth 20000 in
theorem mX5_loose_se_X3_findsWay : Cond.selects RX3 yX3_findsWay yX3_findsWay ∈ wsX5_loose := by decide +kernel
set_option maxRecDepth 20000 in
theorem mX5_loose_im_X3_tell : Cond.instanceMethod yX3_tell ∈ wsX5_loose := by decide +kernel
set_option maxRecDepth 20000 in
theorem mX5_loose_se_X3_tell : Cond.selects RX3 yX3_tell yX3_tell ∈ wsX5_loose := by decide +kernel
abbrev rm_X5_loose : Room := { frames := 8, cells := 0, slots := 0, locals := 191 }
set_option maxHeartbeats 4000000 in
set_option maxRecDepth 100000 in
theorem c_X5_loose (l : Launch) (g : zG) (hB : Nat) (hS aC aN : Nat) (ps : Int) (C N : Int → Int) (hI aK aV aP aM aL aS aH : Nat) (n : Int) (K V P M LB SB HB : Int → Int) (oR aW aT : Nat) (W T : Int → Int) (hL : Nat) (k ug lo sd : Int) (hY aE aQ aB aU : Nat) (tc tp td : Int) (E Q B U : Int → Int) (x : Int) (h1 : zCi n K V P M LB SB HB W T) (h2 : -2147483648 ≤ x ∧ x ≤ 2147483647) (h3 : (0 ≤ tc ∧ tc ≤ 50) ∧ (¬ tc = 0 → 1 ≤ tp ∧ tp ≤ 3)) : zMWi (S := (Int → Int) × (Int → Int) × (Int) × (Int) × (Int) × (Int) × (Int) × (Int → Int) × (Int → Int) × (Int → Int) × (Int → Int) × (Int) × (Int) × (Int) × (Int)) l yX5_loose wsX5_loose rm_X5_loose g [(hB, eo 5 [.ref hI, .ref oR, .ref hS, .ref hY]), (hS, eo 3 [.ref hI, .ref oR, .ref hL, .ref aC, .ref aN, .int (iZ (ps))]), (aC, el g 20808 C), (aN, eb g 20808 N), (hI, eo 0 [.ref aK, .ref aV, .ref aP, .ref aM, .ref aL, .ref aS, .ref aH, .int (iZ (n))]), (aK, ei g 100 K), (aV, ei g 100 V), (aP, ei g 100 P), (aM, ez g 100 M), (aL, ei g 101 LB), (aS, ei g 101 SB), (aH, ei g 101 HB), (oR, eo 2 [.ref aW, .ref aT]), (aW, ei g 50 W), (aT, ei g 3 T), (hL, eo 1 [.int (iZ (k)), .int (iZ (ug)), .int (iZ (lo)), .int (iZ (sd))]), (hY, eo 4 [.ref aE, .ref aQ, .ref aB, .ref aU, .int (iZ (tc)), .int (iZ (tp)), .long (lZ (td))]), (aE, ei g 50 E), (aQ, ei g 50 Q), (aB, ei g 50 B), (aU, ei g 50 U)] [.ref hB, .int (iZ (x))] (fun u => ((¬ (1 ≤ x ∧ x ≤ 50) ∨ tc = 0) ∧ u.2.2.2.2.2.2.2.1 = E ∧ u.2.2.2.2.2.2.2.2.1 = Q ∧ u.2.2.2.2.2.2.2.2.2.1 = B ∧ u.2.2.2.2.2.2.2.2.2.2.1 = U ∧ u.2.2.2.2.2.2.2.2.2.2.2.1 = tc ∧ u.2.2.2.2.2.2.2.2.2.2.2.2.1 = tp ∧ u.2.2.2.2.2.2.2.2.2.2.2.2.2.1 = td ∧ u.2.2.2.2.2.2.2.2.2.2.2.2.2.2 = -1) ∨ ((1 ≤ x ∧ x ≤ 50) ∧ ¬ tc = 0 ∧ ¬ zHas n K V P M LB SB HB W T tp x ∧ u.2.2.2.2.2.2.2.1 = E ∧ u.2.2.2.2.2.2.2.2.1 = Q ∧ u.2.2.2.2.2.2.2.2.2.1 = B ∧ u.2.2.2.2.2.2.2.2.2.2.1 = U ∧ u.2.2.2.2.2.2.2.2.2.2.2.1 = tc ∧ u.2.2.2.2.2.2.2.2.2.2.2.2.1 = tp ∧ u.2.2.2.2.2.2.2.2.2.2.2.2.2.1 = td ∧ u.2.2.2.2.2.2.2.2.2.2.2.2.2.2 = 0) ∨ ((1 ≤ x ∧ x ≤ 50) ∧ ¬ tc = 0 ∧ zTold n K V P M LB SB HB W T tp x u.2.2.2.2.2.2.2.2.2.2.2.1 u.2.2.2.2.2.2.2.2.2.2.2.2.2.1 u.2.2.2.2.2.2.2.1 u.2.2.2.2.2.2.2.2.1 u.2.2.2.2.2.2.2.2.2.1 u.2.2.2.2.2.2.2.2.2.2.1 ∧ u.2.2.2.2.2.2.2.2.2.2.2.2.1 = tp ∧ u.2.2.2.2.2.2.2.2.2.2.2.2.2.2 = 1)) (fun u => u.2.2.2.2.2.2.2.2.2.2.2.2.2.2) (fun u => [(hB, eo 5 [.ref hI, .ref oR, .ref hS, .ref hY]), (hS, eo 3 [.ref hI, .ref oR, .ref hL, .ref aC, .ref aN, .int (iZ (u.2.2.1))]), (aC, el g 20808 u.1), (aN, eb g 20808 u.2.1), (hI, eo 0 [.ref aK, .ref aV, .ref aP, .ref aM, .ref aL, .ref aS, .ref aH, .int (iZ (n))]), (aK, ei g 100 K), (aV, ei g 100 V), (aP, ei g 100 P), (aM, ez g 100 M), (aL, ei g 101 LB), (aS, ei g 101 SB), (aH, ei g 101 HB), (oR, eo 2 [.ref aW, .ref aT]), (aW, ei g 50 W), (aT, ei g 3 T), (hL, eo 1 [.int (iZ (u.2.2.2.1)), .int (iZ (u.2.2.2.2.1)), .int (iZ (u.2.2.2.2.2.1)), .int (iZ (u.2.2.2.2.2.2.1))]), (hY, eo 4 [.ref aE, .ref aQ, .ref aB, .ref aU, .int (iZ (u.2.2.2.2.2.2.2.2.2.2.2.1)), .int (iZ (u.2.2.2.2.2.2.2.2.2.2.2.2.1)), .long (lZ (u.2.2.2.2.2.2.2.2.2.2.2.2.2.1))]), (aE, ei g 50 u.2.2.2.2.2.2.2.1), (aQ, ei g 50 u.2.2.2.2.2.2.2.2.1), (aB, ei g 50 u.2.2.2.2.2.2.2.2.2.1), (aU, ei g 50 u.2.2.2.2.2.2.2.2.2.2.1)]) 0 0 := by
  refine z_beWi (cc := cX5_loose) (nL := 2) (ret := some .int) (plainFor_of_name (by decide +kernel)) rfl (Or.inl rfl) (Nat.le_of_ble_eq_true rfl) ?_
  intro X A hC hN hR
  have hC : zC X g cX5_loose RX5 wsX5_loose rm_X5_loose 2 := hC
  show ZG X g (zD X A) 0 0 [(hB, eo 5 [.ref hI, .ref oR, .ref hS, .ref hY]), (hS, eo 3 [.ref hI, .ref oR, .ref hL, .ref aC, .ref aN, .int (iZ (ps))]), (aC, el g 20808 C), (aN, eb g 20808 N), (hI, eo 0 [.ref aK, .ref aV, .ref aP, .ref aM, .ref aL, .ref aS, .ref aH, .int (iZ (n))]), (aK, ei g 100 K), (aV, ei g 100 V), (aP, ei g 100 P), (aM, ez g 100 M), (aL, ei g 101 LB), (aS, ei g 101 SB), (aH, ei g 101 HB), (oR, eo 2 [.ref aW, .ref aT]), (aW, ei g 50 W), (aT, ei g 3 T), (hL, eo 1 [.int (iZ (k)), .int (iZ (ug)), .int (iZ (lo)), .int (iZ (sd))]), (hY, eo 4 [.ref aE, .ref aQ, .ref aB, .ref aU, .int (iZ (tc)), .int (iZ (tp)), .long (lZ (td))]), (aE, ei g 50 E), (aQ, ei g 50 Q), (aB, ei g 50 B), (aU, ei g 50 U)] [(0, .ref hB), (1, .int (iZ (x)))] 0 []
  refine z_iload_n hC 1 dX5_loose_0 rfl rfl ?_
  refine z_iconst hC dX5_loose_1 ?_
  refine z_bip hC dX5_loose_2 (by decide) ?_
  refine z_sRi hC 3 (c_X5_isWithin (xl X) g _ _ _ (by omega) (by omega) (by omega)) gX5_loose_X5_isWithin rfl hd_X5_isWithin_s (by decide) ⟨rfl, rfl⟩ [] (by decide) rfl rfl rfl (Nat.le_of_ble_eq_true rfl) dX5_loose_4 (by decide) ?_
  refine z_if_eq hC 20 dX5_loose_7 (by decide) (b2_r _) (fun c_7 => ?_) (fun c_7 => ?_)
  ·
    have c_7 := b2_f c_7
    refine z_iconst hC dX5_loose_20 ?_
    exact hR (C, N, ps, k, ug, lo, sd, E, Q, B, U, tc, tp, td, -1) _ _ _ [0, 1, 2, 3, 4, 5, 6, 7, 8, 9, 10, 11, 12, 13, 14, 15, 16, 17, 18, 19, 20] _ (Or.inl ⟨by omega, rfl, rfl, rfl, rfl, rfl, rfl, rfl, rfl⟩) rfl (by decide) rfl dX5_loose_21
  ·
    have c_7 := b2_t c_7
    refine z_aload_n hC 0 dX5_loose_10 rfl rfl ?_
    refine z_get hC iX5_loose_5 0 3 rfl rfl (by decide) mX5_loose_f37 rfl dX5_loose_11 ?_
    refine z_getN hC iX5_loose_4 16 4 rfl rfl (by decide) nf_RX5_71 rfl dX5_loose_14 ?_
    refine z_if_ne hC 22 dX5_loose_17 (by decide) (by omega) (fun c_17 => ?_) (fun c_17 => ?_)
    ·
      have he := zCi_env h1 (p := tp) (ex := x) (by omega) (by omega)
      refine z_aload_n hC 0 dX5_loose_22 rfl rfl ?_
      refine z_get hC iX5_loose_5 0 2 rfl rfl (by decide) mX5_loose_f30 rfl dX5_loose_23 ?_
      refine z_aload_n hC 0 dX5_loose_26 rfl rfl ?_
      refine z_get hC iX5_loose_5 0 3 rfl rfl (by decide) mX5_loose_f37 rfl dX5_loose_27 ?_
      refine z_getN hC iX5_loose_4 16 5 rfl rfl (by decide) nf_RX5_75 rfl dX5_loose_30 ?_
      refine z_iload_n hC 1 dX5_loose_33 rfl rfl ?_
      refine z_vnWi (wr := [_, _, _, _, _, _]) hC 2 (c_X3_findsWay (xl X) g _ _ _ _ _ _ _ _ _ _ _ _ _ _ _ _ _ _ _ _ _ _ _ _ _ _ _ _ _ _ _ _ _ ((zMt tp)) _ ((zDq n K V P M LB SB HB W T tp x)) he) gX5_loose_X3_findsWay_n63 nm_RX5_63 mX5_loose_iniRX3 mX5_loose_im_X3_findsWay mX5_loose_se_X3_findsWay rfl hd_X3_findsWay_s (by decide) ⟨rfl, rfl⟩ [1, 2, 3, 4, 5, 6, 7, 8, 9, 10, 11, 12, 13, 14, 15] [0, 16, 17, 18, 19, 20] (by decide) rfl rfl (by decide) (by decide) 1 3 rfl rfl rfl rfl rfl (Nat.le_of_ble_eq_true rfl) dX5_loose_34 (by decide) (fun u_34 p_34 => ?_)
      obtain ⟨C1_34, N1_34, l1_34, u1_34, k1_34, d1_34, r1_34⟩ := u_34
      try dsimp only at p_34
      refine z_ws (ws' := [(hB, eo 5 [.ref hI, .ref oR, .ref hS, .ref hY]), (hS, eo 3 [.ref hI, .ref oR, .ref hL, .ref aC, .ref aN, .int (iZ (tp))]), (aC, el g 20808 C1_34), (aN, eb g 20808 N1_34), (hI, eo 0 [.ref aK, .ref aV, .ref aP, .ref aM, .ref aL, .ref aS, .ref aH, .int (iZ (n))]), (aK, ei g 100 K), (aV, ei g 100 V), (aP, ei g 100 P), (aM, ez g 100 M), (aL, ei g 101 LB), (aS, ei g 101 SB), (aH, ei g 101 HB), (oR, eo 2 [.ref aW, .ref aT]), (aW, ei g 50 W), (aT, ei g 3 T), (hL, eo 1 [.int (iZ (l1_34)), .int (iZ (u1_34)), .int (iZ (k1_34)), .int (iZ (d1_34))]), (hY, eo 4 [.ref aE, .ref aQ, .ref aB, .ref aU, .int (iZ (tc)), .int (iZ (tp)), .long (lZ (td))]), (aE, ei g 50 E), (aQ, ei g 50 Q), (aB, ei g 50 B), (aU, ei g 50 U)]) [0, 6, 7, 8, 9, 10, 11, 12, 13, 14, 15, 16, 17, 18, 19, 20, 1, 2, 3, 4, 5] (by decide) rfl ?_
      refine z_top (b := r1_34) rfl ?_
      obtain ⟨hTab, hr⟩ := p_34
      refine z_top hr ?_
      refine z_if_ne hC 42 dX5_loose_37 (by decide) (b2_r _) (fun c_37 => ?_) (fun c_37 => ?_)
      ·
        have c_37 := b2_t c_37
        refine z_aload_n hC 0 dX5_loose_42 rfl rfl ?_
        refine z_get hC iX5_loose_5 0 2 rfl rfl (by decide) mX5_loose_f30 rfl dX5_loose_43 ?_
        refine z_aload_n hC 0 dX5_loose_46 rfl rfl ?_
        refine z_get hC iX5_loose_5 0 3 rfl rfl (by decide) mX5_loose_f37 rfl dX5_loose_47 ?_
        refine z_vnWv (wr := [_]) hC 1 (c_X3_tell (xl X) g _ _ _ _ _ _ _ _ _ _ _ _ _ _ _ _ _ _ _ _ _ _ _ _ _ _ _ _ _ _ _ _ _ _ _ _ _ _ _ _ _ _ _ _ ((zMt tp)) x ((zDq n K V P M LB SB HB W T tp x)) he hTab c_37) gX5_loose_X3_tell_n67 nm_RX5_67 mX5_loose_iniRX3 mX5_loose_im_X3_tell mX5_loose_se_X3_tell rfl hd_X3_tell_s (by decide) ⟨rfl, rfl⟩ [1, 2, 3, 4, 5, 6, 7, 8, 9, 10, 11, 12, 13, 14, 15, 16, 17, 18, 19, 20] [0] (by decide) rfl rfl (by decide) (by decide) 1 3 rfl rfl rfl rfl rfl (Nat.le_of_ble_eq_true rfl) dX5_loose_50 (by decide) (fun u_50 p_50 => ?_)
        obtain ⟨l1_50, u1_50, k1_50, d1_50, E1_50, Q1_50, B1_50, U1_50, c1_50⟩ := u_50
        try dsimp only at p_50
        refine z_ws (ws' := [(hB, eo 5 [.ref hI, .ref oR, .ref hS, .ref hY]), (hS, eo 3 [.ref hI, .ref oR, .ref hL, .ref aC, .ref aN, .int (iZ (tp))]), (aC, el g 20808 C1_34), (aN, eb g 20808 N1_34), (hI, eo 0 [.ref aK, .ref aV, .ref aP, .ref aM, .ref aL, .ref aS, .ref aH, .int (iZ (n))]), (aK, ei g 100 K), (aV, ei g 100 V), (aP, ei g 100 P), (aM, ez g 100 M), (aL, ei g 101 LB), (aS, ei g 101 SB), (aH, ei g 101 HB), (oR, eo 2 [.ref aW, .ref aT]), (aW, ei g 50 W), (aT, ei g 3 T), (hL, eo 1 [.int (iZ (l1_50)), .int (iZ (u1_50)), .int (iZ (k1_50)), .int (iZ (d1_50))]), (hY, eo 4 [.ref aE, .ref aQ, .ref aB, .ref aU, .int (iZ (c1_50)), .int (iZ (tp)), .long (lZ ((zVL ((zDq n K V P M LB SB HB W T tp x)) 0 (-1) 0).1))]), (aE, ei g 50 E1_50), (aQ, ei g 50 Q1_50), (aB, ei g 50 B1_50), (aU, ei g 50 U1_50)]) [0, 1, 2, 3, 4, 5, 6, 7, 8, 9, 10, 11, 12, 13, 14, 15, 16, 17, 18, 19, 20] (by decide) rfl ?_
        refine z_iconst hC dX5_loose_53 ?_
        exact hR (C1_34, N1_34, tp, l1_50, u1_50, k1_50, d1_50, E1_50, Q1_50, B1_50, U1_50, c1_50, tp, (zVL ((zDq n K V P M LB SB HB W T tp x)) 0 (-1) 0).1, 1) _ _ _ [0, 1, 2, 3, 4, 5, 6, 7, 8, 9, 10, 11, 12, 13, 14, 15, 16, 17, 18, 19, 20] _ (Or.inr (Or.inr ⟨by omega, by omega, ⟨c_37, p_50.1, rfl, p_50.2⟩, rfl, rfl⟩)) rfl (by decide) rfl dX5_loose_54
      ·
        have c_37 := b2_f c_37
        refine z_iconst hC dX5_loose_40 ?_
        exact hR (C1_34, N1_34, tp, l1_34, u1_34, k1_34, d1_34, E, Q, B, U, tc, tp, td, 0) _ _ _ [0, 1, 2, 3, 4, 5, 6, 7, 8, 9, 10, 11, 12, 13, 14, 15, 16, 17, 18, 19, 20] _ (Or.inr (Or.inl ⟨by omega, by omega, c_37, rfl, rfl, rfl, rfl, rfl, rfl, rfl, rfl⟩)) rfl (by decide) rfl dX5_loose_41
    ·
      refine z_iconst hC dX5_loose_20 ?_
      exact hR (C, N, ps, k, ug, lo, sd, E, Q, B, U, tc, tp, td, -1) _ _ _ [0, 1, 2, 3, 4, 5, 6, 7, 8, 9, 10, 11, 12, 13, 14, 15, 16, 17, 18, 19, 20] _ (Or.inl ⟨by omega, rfl, rfl, rfl, rfl, rfl, rfl, rfl, rfl⟩) rfl (by decide) rfl dX5_loose_21
end
section
/-! the reference's numbers over the class's -/
def zSm (n : Int) (K V P M KR WR VR MR : Int → Int) : Prop := ∀ j, 0 ≤ j → j < n → KR j = K j ∧ (K j = 2 → VR j = V j ∧ WR j = P j ∧ MR j = M j)
def zSu (n : Int) (LB SB HB IR JR GR : Int → Int) : Prop := ∀ j, 0 ≤ j → j ≤ n → IR j = LB j ∧ JR j = SB j ∧ GR j = HB j
def zSs (n : Int) (K LB SB HB WR TR SR : Int → Int) : Prop := (LB 0 = 0 ∧ SB 0 = 0 ∧ HB 0 = 0) ∧ ∀ j, 0 ≤ j → j < n → LB (j + 1) = LB j + (if K j = 2 then 0 else WR j) ∧ SB (j + 1) = SB j + TR j ∧ HB (j + 1) = HB j + SR j
def zSx (W T XR YR : Int → Int) : Prop := (∀ i, 0 ≤ i → i ≤ 49 → XR i = W i) ∧ YR 0 = T 0 ∧ YR 1 = T 1 ∧ YR 2 = T 2
theorem nb_min {K : Int → Int} {n b : Int} (hb : b ≤ n) : ∀ (k : Nat) {j : Int}, (b - j).toNat ≤ k → j ≤ b → nb K b j = min (nb K n j) b := by
  intro k
  induction k with
  | zero =>
    intro j h1 h2
    have := nb_le (K := K) (e := n) (j := j) (by omega)
    rw [nb_end (by omega)]; omega
  | succ k ih =>
    intro j h1 h2
    by_cases hj : b ≤ j
    · have := nb_le (K := K) (e := n) (j := j) (by omega)
      rw [nb_end hj]; omega
    · by_cases hk : K j = 0
      · rw [nb_box hk, nb_box hk]; omega
      · rw [nb_go (by omega) hk, nb_go (e := n) (by omega) hk]
        exact ih (by omega) (by omega)
theorem zSt_b {K : Int → Int} {n a b : Int} (ha : 0 ≤ a) (hb : a < b ∧ b ≤ n) : nb K b (a + 1) = min (zSt K n a) b := by
  unfold zSt
  rw [if_neg (by omega)]
  exact nb_min hb.2 _ (Nat.le_refl _) (by omega)
/-- a line that is one, by its numbers -/
def zFl (n : Int) (K P LB SB HB W : Int → Int) (tol mo a b i : Int) : Prop := zOk (lLk n K P LB W a b i) (lSh n K HB a b) ∧ lUg n K P LB SB HB W mo a b i ≤ tol
theorem zq_100 {x y : Int} (h0 : 0 ≤ x) (h : x ≤ y) (hy : 0 < y) : (100 * x).tdiv y ≤ 100 := by
  rw [Int.tdiv_eq_ediv_of_nonneg (by omega)]
  exact Int.ediv_le_of_le_mul hy (by omega)
theorem cube_mono {x y : Int} (h0 : 0 ≤ x) (h : x ≤ y) : x * x * x ≤ y * y * y := (cube_in h0 h).2
/-- a cell of the reference's three rows -/
def zRc (C R N : Int → Int) (p i c : Int) (x : z3) : Prop := R (((p + 1) * 51 + i) * 4 + c) = x.2.1 ∧ (x.2.1 ≠ 0 → C (((p + 1) * 51 + i) * 4 + c) = x.1 ∧ N (((p + 1) * 51 + i) * 4 + c) = x.2.2)
theorem zRc_kept {C R N C1 R1 N1 : Int → Int} {p i c : Int} {x : z3} (h : zRc C R N p i c x) (h1 : C1 (((p + 1) * 51 + i) * 4 + c) = C (((p + 1) * 51 + i) * 4 + c)) (h2 : R1 (((p + 1) * 51 + i) * 4 + c) = R (((p + 1) * 51 + i) * 4 + c)) (h3 : N1 (((p + 1) * 51 + i) * 4 + c) = N (((p + 1) * 51 + i) * 4 + c)) : zRc C1 R1 N1 p i c x := by
  unfold zRc; rw [h1, h2, h3]; exact h
/-- only the four cells from base on differ -/
def zF4 (base : Int) (C R N C1 R1 N1 : Int → Int) : Prop := ∀ x, x < base ∨ base + 4 ≤ x → C1 x = C x ∧ R1 x = R x ∧ N1 x = N x
def zR4 (d : zDP) (a i : Int) (j : Nat) (C R N : Int → Int) : Prop := ∀ c, 0 ≤ c → c ≤ 3 → zRc C R N a i c (zF d (zVL d (i + 1)) i a c j)
theorem zR4_no {d : zDP} {a b i : Int} {j j' : Nat} {C R N : Int → Int} (hj : b = a + 1 + j) (hj' : j' = j + 1) (h : zR4 d a i j C R N) (hf : ¬ zOkc d (zVL d (i + 1)) i a b) : zR4 d a i j' C R N := by
  intro c h1 h2
  rw [zF_f hj hj' hf]; exact h c h1 h2
/-- the candidate is entered for the classes below u -/
def zR5 (d : zDP) (a i u : Int) (j j' : Nat) (C R N : Int → Int) : Prop := ∀ c, 0 ≤ c → c ≤ 3 → (c < u → zRc C R N a i c (zF d (zVL d (i + 1)) i a c j')) ∧ (u ≤ c → zRc C R N a i c (zF d (zVL d (i + 1)) i a c j))
theorem zR5_y {d : zDP} {a b i u cs ls : Int} {j j' : Nat} {C R N : Int → Int} (hj : b = a + 1 + j) (hj' : j' = j + 1) (hu : 0 ≤ u ∧ u ≤ 3) (h : zR5 d a i u j j' C R N) (hok : zOkc d (zVL d (i + 1)) i a b) (hc : cs = (zY d (zVL d (i + 1)) i a u b).1) (hl : ls = (zY d (zVL d (i + 1)) i a u b).2.1)
    (hb : R (((a + 1) * 51 + i) * 4 + u) = 0 ∨ cs < C (((a + 1) * 51 + i) * 4 + u) ∨ (cs = C (((a + 1) * 51 + i) * 4 + u) ∧ ls < R (((a + 1) * 51 + i) * 4 + u))) : zR5 d a i (u + 1) j j' (uZ C (((a + 1) * 51 + i) * 4 + u) cs) (uZ R (((a + 1) * 51 + i) * 4 + u) ls) (uZ N (((a + 1) * 51 + i) * 4 + u) b) := by
  intro c h1 h2
  by_cases e : c = u
  · subst e
    refine ⟨fun _ => ?_, fun q => by omega⟩
    have h0 := (h c h1 h2).2 (by omega)
    have hbt : zBt (zF d (zVL d (i + 1)) i a c j) (zY d (zVL d (i + 1)) i a c b) := by
      unfold zBt
      by_cases z : (zF d (zVL d (i + 1)) i a c j).2.1 = 0
      · exact Or.inl z
      · have h3 := h0.2 z
        have h4 := h0.1
        rw [h4, h3.1, hc, hl] at hb
        rcases hb with q | q | q
        · exact absurd q z
        · exact Or.inr (Or.inl q)
        · exact Or.inr (Or.inr q)
    rw [zF_t hj hj' hok hbt]
    unfold zRc
    rw [uZ_s, uZ_s, uZ_s, hc, hl]
    exact ⟨rfl, fun _ => ⟨rfl, rfl⟩⟩
  · have hk : zRc (uZ C (((a + 1) * 51 + i) * 4 + u) cs) (uZ R (((a + 1) * 51 + i) * 4 + u) ls) (uZ N (((a + 1) * 51 + i) * 4 + u) b) a i c = zRc C R N a i c := by
      funext x
      unfold zRc
      rw [uZ_n _ _ (by omega), uZ_n _ _ (by omega), uZ_n _ _ (by omega)]
    rw [hk]
    exact ⟨fun q => (h c h1 h2).1 (by omega), fun q => (h c h1 h2).2 (by omega)⟩
theorem zR5_x {d : zDP} {a b i u cs ls : Int} {j j' : Nat} {C R N : Int → Int} (hj : b = a + 1 + j) (hj' : j' = j + 1) (hu : 0 ≤ u ∧ u ≤ 3) (h : zR5 d a i u j j' C R N) (hc : cs = (zY d (zVL d (i + 1)) i a u b).1) (hl : ls = (zY d (zVL d (i + 1)) i a u b).2.1)
    (hb : ¬ (R (((a + 1) * 51 + i) * 4 + u) = 0 ∨ cs < C (((a + 1) * 51 + i) * 4 + u) ∨ (cs = C (((a + 1) * 51 + i) * 4 + u) ∧ ls < R (((a + 1) * 51 + i) * 4 + u)))) : zR5 d a i (u + 1) j j' C R N := by
  intro c h1 h2
  by_cases e : c = u
  · subst e
    refine ⟨fun _ => ?_, fun q => by omega⟩
    have h0 := (h c h1 h2).2 (by omega)
    have hbt : ¬ zBt (zF d (zVL d (i + 1)) i a c j) (zY d (zVL d (i + 1)) i a c b) := by
      intro q
      unfold zBt at q
      apply hb
      rw [h0.1]
      rcases q with q | q
      · exact Or.inl q
      · by_cases z : (zF d (zVL d (i + 1)) i a c j).2.1 = 0
        · exact Or.inl z
        · have h3 := h0.2 z
          rw [h3.1, hc, hl]
          exact Or.inr q
    rw [zF_n hj hj' hbt]
    exact h0
  · exact ⟨fun q => (h c h1 h2).1 (by omega), fun q => (h c h1 h2).2 (by omega)⟩
theorem zR5_0 {d : zDP} {a i : Int} {j j' : Nat} {C R N : Int → Int} (h : zR4 d a i j C R N) : zR5 d a i 0 j j' C R N := fun c h1 h2 => ⟨fun q => by omega, fun _ => h c h1 h2⟩
theorem zR5_4 {d : zDP} {a i u : Int} {j j' : Nat} {C R N : Int → Int} (hu : 4 ≤ u) (h : zR5 d a i u j j' C R N) : zR4 d a i j' C R N := fun c h1 h2 => (h c h1 h2).1 (by omega)
theorem zF4_tr {base : Int} {C R N C1 R1 N1 C2 R2 N2 : Int → Int} (h : zF4 base C R N C1 R1 N1) (h2 : zF4 base C1 R1 N1 C2 R2 N2) : zF4 base C R N C2 R2 N2 := fun x hx => ⟨(h2 x hx).1.trans (h x hx).1, (h2 x hx).2.1.trans (h x hx).2.1, (h2 x hx).2.2.trans (h x hx).2.2⟩
theorem zF4_0 {base : Int} {C R N : Int → Int} : zF4 base C R N C R N := fun _ _ => ⟨rfl, rfl, rfl⟩
theorem zF4_u {base e cs ls b : Int} {C R N C1 R1 N1 : Int → Int} (h : zF4 base C R N C1 R1 N1) (he : base ≤ e ∧ e < base + 4) : zF4 base C R N (uZ C1 e cs) (uZ R1 e ls) (uZ N1 e b) := fun x hx => by
  rw [uZ_n _ _ (by omega), uZ_n _ _ (by omega), uZ_n _ _ (by omega)]; exact h x hx
/-- the last break of a row has been tried: no line is behind it -/
theorem zR4_end {n : Int} {K V P M LB SB HB W : Int → Int} {tol mo mt ex : Int} {a b i : Int} {C R N : Int → Int} (hi : 0 ≤ i ∧ i ≤ 49) (hb : a < b ∧ b ≤ n) (hm : b = n ∨ zMust K V n b) (h : zR4 (zMk n K V P M LB SB HB W tol mo mt ex) a i (b - a).toNat C R N) : ∀ c, 0 ≤ c → c ≤ 3 → zRc C R N a i c (zVL (zMk n K V P M LB SB HB W tol mo mt ex) i a c) := by
  intro c h3 h4
  rw [zVL_go _ hi]
  show zRc C R N a i c (zF (zMk n K V P M LB SB HB W tol mo mt ex) (zVL (zMk n K V P M LB SB HB W tol mo mt ex) (i + 1)) i a c (n - a).toNat)
  rw [zF_stop (b - a).toNat (fun b' hb' hf => ?_) (n - a).toNat (by omega)]
  · exact h c h3 h4
  · obtain ⟨g1, g2, g3, -⟩ : zFit n K V P M LB SB HB W tol mo mt a b' i := hf
    rcases hm with e | e
    · omega
    · exact g3 b hb.1 (by omega) e
/-- the rows of line numbers above i are made -/
def zO1 (d : zDP) (K V M : Int → Int) (n mt i : Int) (C R N : Int → Int) : Prop := ∀ p k c, i < k → k ≤ 49 → ((p = -1 ∧ k = 0) ∨ (0 ≤ p ∧ p < n ∧ zMay K V M n p mt ∧ 1 ≤ k)) → 0 ≤ c → c ≤ 3 → zRc C R N p k c (zVL d k p c)
def zO2 (n i : Int) (R : Int → Int) : Prop := ∀ p k c, -1 ≤ p → p < n → 0 ≤ k → k ≤ i → 0 ≤ c → c ≤ 3 → R (((p + 1) * 51 + k) * 4 + c) = 0
/-- in line number i: the breaks below a are done -/
def zN1 (d : zDP) (K V M : Int → Int) (n mt i a : Int) (C R N : Int → Int) : Prop := ∀ p c, p < a → ((p = -1 ∧ i = 0) ∨ (0 ≤ p ∧ p < n ∧ zMay K V M n p mt ∧ 1 ≤ i)) → 0 ≤ c → c ≤ 3 → zRc C R N p i c (zVL d i p c)
def zN2 (n i a : Int) (R : Int → Int) : Prop := ∀ p c, a ≤ p → -1 ≤ p → p < n → 0 ≤ c → c ≤ 3 → R (((p + 1) * 51 + i) * 4 + c) = 0
def zOO (d : zDP) (K V M : Int → Int) (n mt i a : Int) (C R N : Int → Int) : Prop := zO1 d K V M n mt i C R N ∧ zO2 n (i - 1) R ∧ zN1 d K V M n mt i a C R N ∧ zN2 n i a R
theorem zOO_go {d : zDP} {K V M : Int → Int} {n mt i a : Int} {C R N C1 R1 N1 : Int → Int} (hi : 0 ≤ i ∧ i ≤ 49) (ha : -1 ≤ a ∧ (a < n ∨ a = -1)) (h : zOO d K V M n mt i a C R N) (hF : zF4 (((a + 1) * 51 + i) * 4) C R N C1 R1 N1) (hR : ∀ c, 0 ≤ c → c ≤ 3 → zRc C1 R1 N1 a i c (zVL d i a c)) : zOO d K V M n mt i (a + 1) C1 R1 N1 := by
  refine ⟨fun p k c g1 g2 g3 g4 g5 => ?_, fun p k c g1 g2 g3 g4 g5 g6 => ?_, fun p c g1 g2 g3 g4 => ?_, fun p c g1 g2 g3 g4 g5 => ?_⟩
  · have := hF (((p + 1) * 51 + k) * 4 + c) (by omega)
    exact zRc_kept (h.1 p k c g1 g2 g3 g4 g5) this.1 this.2.1 this.2.2
  · rw [(hF _ (by omega)).2.1]; exact h.2.1 p k c g1 g2 g3 g4 g5 g6
  · by_cases e : p = a
    · subst e; exact hR c g3 g4
    · have := hF (((p + 1) * 51 + i) * 4 + c) (by omega)
      exact zRc_kept (h.2.2.1 p c (by omega) g2 g3 g4) this.1 this.2.1 this.2.2
  · rw [(hF _ (by omega)).2.1]; exact h.2.2.2 p c (by omega) g2 g3 g4 g5
theorem zOO_no {d : zDP} {K V M : Int → Int} {n mt i a : Int} {C R N : Int → Int} (h : zOO d K V M n mt i a C R N) (ha : ¬ zMay K V M n a mt) (h0 : 0 ≤ a) : zOO d K V M n mt i (a + 1) C R N := by
  refine ⟨h.1, h.2.1, fun p c g1 g2 g3 g4 => ?_, fun p c g1 g2 g3 g4 g5 => h.2.2.2 p c (by omega) g2 g3 g4 g5⟩
  by_cases e : p = a
  · subst e
    rcases g2 with g | g
    · omega
    · exact absurd g.2.2.1 ha
  · exact h.2.2.1 p c (by omega) g2 g3 g4
theorem zOO_next {d : zDP} {K V M : Int → Int} {n mt i a : Int} {C R N : Int → Int} (h : zOO d K V M n mt i a C R N) (ha : (i = 0 ∧ 0 ≤ a) ∨ (¬ i = 0 ∧ n ≤ a)) : zO1 d K V M n mt (i - 1) C R N ∧ zO2 n (i - 1) R := by
  refine ⟨fun p k c g1 g2 g3 g4 g5 => ?_, h.2.1⟩
  by_cases e : k = i
  · subst e
    exact h.2.2.1 p c (by omega) g3 g4 g5
  · exact h.1 p k c (by omega) g2 g3 g4 g5
theorem zOO_0 {d : zDP} {K V M : Int → Int} {n mt i a : Int} {C R N : Int → Int} (h : zO1 d K V M n mt i C R N ∧ zO2 n i R) (hi : 0 ≤ i) (ha : (i = 0 ∧ a = -1) ∨ (¬ i = 0 ∧ a = 0)) : zOO d K V M n mt i a C R N := by
  refine ⟨h.1, fun p k c g1 g2 g3 g4 => h.2 p k c g1 g2 g3 (by omega), fun p c g1 g2 => ?_, fun p c g1 g2 g3 g4 g5 => h.2 p i c g2 g3 hi (by omega) g4 g5⟩
  omega
theorem zO1_0 {d : zDP} {K V M : Int → Int} {n mt ex la : Int} {C R N : Int → Int} (hx : d.2.1 = ex) (h0 : (0 < ex ∧ la = ex) ∨ (ex = 0 ∧ la = 50)) (hex : ex ≤ 50) (hn : n ≤ 100) (hR : ∀ x, 0 ≤ x → x < 20604 → R x = 0) : zO1 d K V M n mt (la - 1) C R N ∧ zO2 n (la - 1) R := by
  refine ⟨fun p k c g1 g2 g3 g4 g5 => ?_, fun p k c g1 g2 g3 g4 g5 g6 => hR _ (by omega) (by omega)⟩
  rcases h0 with h | h
  · rw [zVL_ex (by omega) (by omega) (by omega)]
    refine ⟨?_, fun q => absurd rfl q⟩
    show R _ = 0
    rcases g3 with g | g
    · exact hR _ (by omega) (by omega)
    · exact hR _ (by omega) (by omega)
  · omega
end
section
theorem zRs_e {d : zDP} {Vk : Int → Int → z3} {b s : Int} (h : b = d.1) : zRs d Vk b s = (0, 0, 0) := if_pos h
theorem zRs_n {d : zDP} {Vk : Int → Int → z3} {b s : Int} (h : ¬ b = d.1) : zRs d Vk b s = Vk b s := if_neg h
theorem gf_ft {d : zDP} {n ex la i a b : Int} (hd1 : d.1 = n) (hd2 : d.2.1 = ex) (hla : (0 < ex ∧ la = ex) ∨ (ex = 0 ∧ la = 50)) (hi : 0 ≤ i ∧ i < la) (hx : ex ≤ 50) (hb : b ≤ n) (h : ¬ ((b = n → (ex = 0 ∨ i + 1 = ex)) ∧ (b < n → i + 1 < la))) : ¬ zOkc d (zVL d (i + 1)) i a b := by
  intro q
  by_cases e : b = n
  · have := q.2.1 (by omega)
    omega
  · have q2 := q.2.2 (by omega)
    rcases hla with g | g
    · rw [zVL_ex (by omega) (by omega) (by omega)] at q2
      exact q2 rfl
    · rw [show i + 1 = 50 by omega, zVL_50] at q2
      exact q2 rfl
theorem hd_X6_cube_s : yX6_cube.cls ≠ "java/lang/invoke/MethodHandle" ∧ yX6_cube.cls ≠ "java/lang/invoke/VarHandle" ∧ (parseMethodDescriptor yX6_cube.desc).map (fun d => d.parameters.length) = some 1 := by decide +kernel
abbrev rm_X6_in : Room := { frames := 1, cells := 0, slots := 0, locals := 12 }
set_option maxHeartbeats 4000000 in
set_option maxRecDepth 100000 in
theorem c_X6_in (l : Launch) (g : zG) (v a b : Int) (h1 : -2147483648 ≤ v ∧ v ≤ 2147483647) (h2 : -2147483648 ≤ a ∧ a ≤ 2147483647) (h3 : -2147483648 ≤ b ∧ b ≤ 2147483647) : zMRi l yX6_in wsX6_in rm_X6_in g [] [.int (iZ (v)), .int (iZ (a)), .int (iZ (b))] (b2 (a ≤ v ∧ v ≤ b)) := by
  refine z_beRi (cc := cX6_in) (nL := 3) (ret := some .boolean) (plainFor_of_name (by decide +kernel)) rfl (Or.inr ⟨rfl, b2_01 _⟩) (Nat.le_of_ble_eq_true rfl) ?_
  intro X hC hR
  have hC : zC X g cX6_in RX6 wsX6_in rm_X6_in 3 := hC
  show ZG X g (zE X) 0 0 [] [(0, .int (iZ (v))), (1, .int (iZ (a))), (2, .int (iZ (b)))] 0 []
  refine z_iload_n hC 0 dX6_in_0 rfl rfl ?_
  refine z_iload_n hC 1 dX6_in_1 rfl rfl ?_
  refine z_icmp_lt hC 14 dX6_in_2 (by decide) (by omega) (by omega) (fun c_2 => ?_) (fun c_2 => ?_)
  ·
    refine z_iconst hC dX6_in_14 ?_
    exact hR _ _ _ _ (by first | exact b2_1' (by omega) | exact b2_0' (by omega) | exact b2_eq (by omega)) dX6_in_15
  ·
    refine z_iload_n hC 0 dX6_in_5 rfl rfl ?_
    refine z_iload_n hC 2 dX6_in_6 rfl rfl ?_
    refine z_icmp_gt hC 14 dX6_in_7 (by decide) (by omega) (by omega) (fun c_7 => ?_) (fun c_7 => ?_)
    ·
      refine z_iconst hC dX6_in_14 ?_
      exact hR _ _ _ _ (by first | exact b2_1' (by omega) | exact b2_0' (by omega) | exact b2_eq (by omega)) dX6_in_15
    ·
      refine z_iconst hC dX6_in_10 ?_
      refine z_goto (tgt := 15) hC dX6_in_11 (by decide) ?_
      exact hR _ _ _ _ (by first | exact b2_1' (by omega) | exact b2_0' (by omega) | exact b2_eq (by omega)) dX6_in_15
abbrev rm_X6_cube : Room := { frames := 1, cells := 0, slots := 0, locals := 12 }
set_option maxHeartbeats 4000000 in
set_option maxRecDepth 100000 in
theorem c_X6_cube (l : Launch) (g : zG) (x : Int)  : zMRl l yX6_cube wsX6_cube rm_X6_cube g [] [.long (lZ (x))] (x * x * x) := by
  refine z_beRl (cc := cX6_cube) (nL := 2) (plainFor_of_name (by decide +kernel)) rfl (Nat.le_of_ble_eq_true rfl) ?_
  intro X hC hR
  have hC : zC X g cX6_cube RX6 wsX6_cube rm_X6_cube 2 := hC
  show ZG X g (zE X) 0 0 [] [(0, .long (lZ (x)))] 0 []
  refine z_lload_n hC 0 dX6_cube_0 rfl rfl ?_
  refine z_lload_n hC 0 dX6_cube_1 rfl rfl ?_
  refine z_lmul hC dX6_cube_2 ?_
  refine z_lload_n hC 0 dX6_cube_3 rfl rfl ?_
  refine z_lmul hC dX6_cube_4 ?_
  exact hR _ _ _ _ rfl dX6_cube_5
abbrev rm_X6_index : Room := { frames := 1, cells := 0, slots := 0, locals := 12 }
set_option maxHeartbeats 4000000 in
set_option maxRecDepth 100000 in
theorem c_X6_index (l : Launch) (g : zG) (p i c : Int)  : zMRi l yX6_index wsX6_index rm_X6_index g [] [.int (iZ (p)), .int (iZ (i)), .int (iZ (c))] (((p + 1) * 51 + i) * 4 + c) := by
  refine z_beRi (cc := cX6_index) (nL := 3) (ret := some .int) (plainFor_of_name (by decide +kernel)) rfl (Or.inl rfl) (Nat.le_of_ble_eq_true rfl) ?_
  intro X hC hR
  have hC : zC X g cX6_index RX6 wsX6_index rm_X6_index 3 := hC
  show ZG X g (zE X) 0 0 [] [(0, .int (iZ (p))), (1, .int (iZ (i))), (2, .int (iZ (c)))] 0 []
  refine z_iload_n hC 0 dX6_index_0 rfl rfl ?_
  refine z_iconst hC dX6_index_1 ?_
  refine z_iadd hC dX6_index_2 ?_
  refine z_bip hC dX6_index_3 (by decide) ?_
  refine z_imul hC dX6_index_5 ?_
  refine z_iload_n hC 1 dX6_index_6 rfl rfl ?_
  refine z_iadd hC dX6_index_7 ?_
  refine z_iconst hC dX6_index_8 ?_
  refine z_imul hC dX6_index_9 ?_
  refine z_iload_n hC 2 dX6_index_10 rfl rfl ?_
  refine z_iadd hC dX6_index_11 ?_
  exact hR _ _ _ _ rfl dX6_index_12
set_option maxRecDepth 20000 in
theorem mX6_mayBreak_f66 : Cond.fieldLink RX6 66 "BreakSearchModel" "items" "I" ∈ wsX6_mayBreak := by decide +kernel
set_option maxRecDepth 20000 in
theorem iX6_mayBreak_6 : ∀ w ∈ u_ws RX6 TX6 26, w ∈ wsX6_mayBreak := by decide +kernel
set_option maxRecDepth 20000 in
theorem mX6_mayBreak_f7 : Cond.fieldLink RX6 7 "BreakSearchModel" "kinds" "[I" ∈ wsX6_mayBreak := by decide +kernel
set_option maxRecDepth 20000 in
theorem mX6_mayBreak_f22 : Cond.fieldLink RX6 22 "BreakSearchModel" "values" "[I" ∈ wsX6_mayBreak := by decide +kernel
set_option maxRecDepth 20000 in
theorem mX6_mayBreak_f25 : Cond.fieldLink RX6 25 "BreakSearchModel" "marked" "[Z" ∈ wsX6_mayBreak := by decide +kernel
abbrev rm_X6_mayBreak : Room := { frames := 1, cells := 0, slots := 0, locals := 12 }
set_option maxHeartbeats 4000000 in
set_option maxRecDepth 100000 in
theorem c_X6_mayBreak (l : Launch) (g : zG) (hM mK mW mT mS mV mM mX mY mI mJ mG mC mR mN mE mL mB mU : Nat) (n lk bd so dm tt sm po : Int) (KR WR TR SR VR MR XR YR IR JR GR CR RR NR ER LR BR UR : Int → Int) (K V P M LB SB HB W T : Int → Int) (b ps mt : Int) (h1 : zIok n K V P M) (h2 : zSm n K V P M KR WR VR MR) (h3 : 0 ≤ b ∧ b ≤ n) (h4 : 1 ≤ ps ∧ ps ≤ 3) (h5 : (mt = 0 ∨ mt = 1) ∧ (mt = 1 ↔ ¬ ps = 1)) : zMRi l yX6_mayBreak wsX6_mayBreak rm_X6_mayBreak g [(hM, eo 6 [.int (iZ (n)), .ref mK, .ref mW, .ref mT, .ref mS, .ref mV, .ref mM, .ref mX, .ref mY, .ref mI, .ref mJ, .ref mG, .ref mC, .ref mR, .ref mN, .int (iZ (lk)), .int (iZ (bd)), .int (iZ (so)), .long (lZ (dm)), .int (iZ (tt)), .ref mE, .ref mL, .ref mB, .ref mU, .long (lZ (sm)), .int (iZ (po))]), (mK, ei g 100 KR), (mW, ei g 100 WR), (mT, ei g 100 TR), (mS, ei g 100 SR), (mV, ei g 100 VR), (mM, ez g 100 MR), (mX, ei g 50 XR), (mY, ei g 3 YR), (mI, ei g 101 IR), (mJ, ei g 101 JR), (mG, ei g 101 GR), (mC, el g 20604 CR), (mR, ei g 20604 RR), (mN, ei g 20604 NR), (mE, ei g 50 ER), (mL, ei g 50 LR), (mB, ei g 50 BR), (mU, ei g 50 UR)] [.ref hM, .int (iZ (b)), .int (iZ (ps))] (b2 (zMay K V M n b mt)) := by
  refine z_beRi (cc := cX6_mayBreak) (nL := 3) (ret := some .boolean) (plainFor_of_name (by decide +kernel)) rfl (Or.inr ⟨rfl, b2_01 _⟩) (Nat.le_of_ble_eq_true rfl) ?_
  intro X hC hR
  have hC : zC X g cX6_mayBreak RX6 wsX6_mayBreak rm_X6_mayBreak 3 := hC
  show ZG X g (zE X) 0 0 [(hM, eo 6 [.int (iZ (n)), .ref mK, .ref mW, .ref mT, .ref mS, .ref mV, .ref mM, .ref mX, .ref mY, .ref mI, .ref mJ, .ref mG, .ref mC, .ref mR, .ref mN, .int (iZ (lk)), .int (iZ (bd)), .int (iZ (so)), .long (lZ (dm)), .int (iZ (tt)), .ref mE, .ref mL, .ref mB, .ref mU, .long (lZ (sm)), .int (iZ (po))]), (mK, ei g 100 KR), (mW, ei g 100 WR), (mT, ei g 100 TR), (mS, ei g 100 SR), (mV, ei g 100 VR), (mM, ez g 100 MR), (mX, ei g 50 XR), (mY, ei g 3 YR), (mI, ei g 101 IR), (mJ, ei g 101 JR), (mG, ei g 101 GR), (mC, el g 20604 CR), (mR, ei g 20604 RR), (mN, ei g 20604 NR), (mE, ei g 50 ER), (mL, ei g 50 LR), (mB, ei g 50 BR), (mU, ei g 50 UR)] [(0, .ref hM), (1, .int (iZ (b))), (2, .int (iZ (ps)))] 0 []
  have ⟨hn, hK, hV⟩ := h1
  refine z_iload_n hC 1 dX6_mayBreak_0 rfl rfl ?_
  refine z_aload_n hC 0 dX6_mayBreak_1 rfl rfl ?_
  refine z_get hC iX6_mayBreak_6 0 0 rfl rfl (by decide) mX6_mayBreak_f66 rfl dX6_mayBreak_2 ?_
  refine z_icmp_ne hC 10 dX6_mayBreak_5 (by decide) (by omega) (by omega) (fun c_5 => ?_) (fun c_5 => ?_)
  ·
    have sb := h2 b (by omega) (by omega)
    have kb := hK b (by omega) (by omega)
    have vb := hV b (by omega) (by omega)
    refine z_aload_n hC 0 dX6_mayBreak_10 rfl rfl ?_
    refine z_get hC iX6_mayBreak_6 0 1 rfl rfl (by decide) mX6_mayBreak_f7 rfl dX6_mayBreak_11 ?_
    refine z_iload_n hC 1 dX6_mayBreak_14 rfl rfl ?_
    refine z_iald hC 1 rfl (by omega) (by decide) dX6_mayBreak_15 ?_
    refine z_iconst hC dX6_mayBreak_16 ?_
    refine z_icmp_ne hC 41 dX6_mayBreak_17 (by decide) (by omega) (by omega) (fun c_17 => ?_) (fun c_17 => ?_)
    ·
      refine z_aload_n hC 0 dX6_mayBreak_41 rfl rfl ?_
      refine z_get hC iX6_mayBreak_6 0 1 rfl rfl (by decide) mX6_mayBreak_f7 rfl dX6_mayBreak_42 ?_
      refine z_iload_n hC 1 dX6_mayBreak_45 rfl rfl ?_
      refine z_iald hC 1 rfl (by omega) (by decide) dX6_mayBreak_46 ?_
      refine z_iconst hC dX6_mayBreak_47 ?_
      refine z_icmp_ne hC 81 dX6_mayBreak_48 (by decide) (by omega) (by omega) (fun c_48 => ?_) (fun c_48 => ?_)
      ·
        refine z_iconst hC dX6_mayBreak_81 ?_
        exact hR _ _ _ _ (by first | exact b2_1' (by unfold zMay; omega) | exact b2_0' (by unfold zMay; omega) | exact b2_eq (by unfold zMay; omega)) dX6_mayBreak_82
      ·
        refine z_aload_n hC 0 dX6_mayBreak_51 rfl rfl ?_
        refine z_get hC iX6_mayBreak_6 0 5 rfl rfl (by decide) mX6_mayBreak_f22 rfl dX6_mayBreak_52 ?_
        refine z_iload_n hC 1 dX6_mayBreak_55 rfl rfl ?_
        refine z_iald hC 5 rfl (by omega) (by decide) dX6_mayBreak_56 ?_
        refine z_sip hC dX6_mayBreak_57 (by decide) ?_
        refine z_icmp_ge hC 81 dX6_mayBreak_60 (by decide) (by omega) (by omega) (fun c_60 => ?_) (fun c_60 => ?_)
        ·
          refine z_iconst hC dX6_mayBreak_81 ?_
          exact hR _ _ _ _ (by first | exact b2_1' (by unfold zMay; omega) | exact b2_0' (by unfold zMay; omega) | exact b2_eq (by unfold zMay; omega)) dX6_mayBreak_82
        ·
          refine z_iload_n hC 2 dX6_mayBreak_63 rfl rfl ?_
          refine z_iconst hC dX6_mayBreak_64 ?_
          refine z_icmp_ne hC 77 dX6_mayBreak_65 (by decide) (by omega) (by omega) (fun c_65 => ?_) (fun c_65 => ?_)
          ·
            refine z_iconst hC dX6_mayBreak_77 ?_
            refine z_goto (tgt := 82) hC dX6_mayBreak_78 (by decide) ?_
            exact hR _ _ _ _ (by first | exact b2_1' (by unfold zMay; omega) | exact b2_0' (by unfold zMay; omega) | exact b2_eq (by unfold zMay; omega)) dX6_mayBreak_82
          ·
            refine z_aload_n hC 0 dX6_mayBreak_68 rfl rfl ?_
            refine z_get hC iX6_mayBreak_6 0 6 rfl rfl (by decide) mX6_mayBreak_f25 rfl dX6_mayBreak_69 ?_
            refine z_iload_n hC 1 dX6_mayBreak_72 rfl rfl ?_
            refine z_zald hC 6 rfl (by omega) (by decide) dX6_mayBreak_73 ?_
            refine z_if_ne hC 81 dX6_mayBreak_74 (by decide) (by omega) (fun c_74 => ?_) (fun c_74 => ?_)
            ·
              refine z_iconst hC dX6_mayBreak_81 ?_
              exact hR _ _ _ _ (by first | exact b2_1' (by unfold zMay; omega) | exact b2_0' (by unfold zMay; omega) | exact b2_eq (by unfold zMay; omega)) dX6_mayBreak_82
            ·
              refine z_iconst hC dX6_mayBreak_77 ?_
              refine z_goto (tgt := 82) hC dX6_mayBreak_78 (by decide) ?_
              exact hR _ _ _ _ (by first | exact b2_1' (by unfold zMay; omega) | exact b2_0' (by unfold zMay; omega) | exact b2_eq (by unfold zMay; omega)) dX6_mayBreak_82
    ·
      refine z_iload_n hC 1 dX6_mayBreak_20 rfl rfl ?_
      refine z_if_le hC 39 dX6_mayBreak_21 (by decide) (by omega) (fun c_21 => ?_) (fun c_21 => ?_)
      ·
        refine z_iconst hC dX6_mayBreak_39 ?_
        exact hR _ _ _ _ (by first | exact b2_1' (by unfold zMay; omega) | exact b2_0' (by unfold zMay; omega) | exact b2_eq (by unfold zMay; omega)) dX6_mayBreak_40
      ·
        have sb1 := h2 (b - 1) (by omega) (by omega)
        have kb1 := hK (b - 1) (by omega) (by omega)
        refine z_aload_n hC 0 dX6_mayBreak_24 rfl rfl ?_
        refine z_get hC iX6_mayBreak_6 0 1 rfl rfl (by decide) mX6_mayBreak_f7 rfl dX6_mayBreak_25 ?_
        refine z_iload_n hC 1 dX6_mayBreak_28 rfl rfl ?_
        refine z_iconst hC dX6_mayBreak_29 ?_
        refine z_isub hC dX6_mayBreak_30 ?_
        refine z_iald hC 1 rfl (by omega) (by decide) dX6_mayBreak_31 ?_
        refine z_if_ne hC 39 dX6_mayBreak_32 (by decide) (by omega) (fun c_32 => ?_) (fun c_32 => ?_)
        ·
          refine z_iconst hC dX6_mayBreak_39 ?_
          exact hR _ _ _ _ (by first | exact b2_1' (by unfold zMay; omega) | exact b2_0' (by unfold zMay; omega) | exact b2_eq (by unfold zMay; omega)) dX6_mayBreak_40
        ·
          refine z_iconst hC dX6_mayBreak_35 ?_
          refine z_goto (tgt := 40) hC dX6_mayBreak_36 (by decide) ?_
          exact hR _ _ _ _ (by first | exact b2_1' (by unfold zMay; omega) | exact b2_0' (by unfold zMay; omega) | exact b2_eq (by unfold zMay; omega)) dX6_mayBreak_40
  ·
    refine z_iconst hC dX6_mayBreak_8 ?_
    exact hR _ _ _ _ (by first | exact b2_1' (by unfold zMay; omega) | exact b2_0' (by unfold zMay; omega) | exact b2_eq (by unfold zMay; omega)) dX6_mayBreak_9
set_option maxRecDepth 20000 in
theorem mX6_mustBreak_f66 : Cond.fieldLink RX6 66 "BreakSearchModel" "items" "I" ∈ wsX6_mustBreak := by decide +kernel
set_option maxRecDepth 20000 in
theorem iX6_mustBreak_6 : ∀ w ∈ u_ws RX6 TX6 26, w ∈ wsX6_mustBreak := by decide +kernel
set_option maxRecDepth 20000 in
theorem mX6_mustBreak_f7 : Cond.fieldLink RX6 7 "BreakSearchModel" "kinds" "[I" ∈ wsX6_mustBreak := by decide +kernel
set_option maxRecDepth 20000 in
theorem mX6_mustBreak_f22 : Cond.fieldLink RX6 22 "BreakSearchModel" "values" "[I" ∈ wsX6_mustBreak := by decide +kernel
abbrev rm_X6_mustBreak : Room := { frames := 1, cells := 0, slots := 0, locals := 12 }
set_option maxHeartbeats 4000000 in
set_option maxRecDepth 100000 in
theorem c_X6_mustBreak (l : Launch) (g : zG) (hM mK mW mT mS mV mM mX mY mI mJ mG mC mR mN mE mL mB mU : Nat) (n lk bd so dm tt sm po : Int) (KR WR TR SR VR MR XR YR IR JR GR CR RR NR ER LR BR UR : Int → Int) (K V P M LB SB HB W T : Int → Int) (b : Int) (h1 : zIok n K V P M) (h2 : zSm n K V P M KR WR VR MR) (h3 : 0 ≤ b ∧ b ≤ n) : zMRi l yX6_mustBreak wsX6_mustBreak rm_X6_mustBreak g [(hM, eo 6 [.int (iZ (n)), .ref mK, .ref mW, .ref mT, .ref mS, .ref mV, .ref mM, .ref mX, .ref mY, .ref mI, .ref mJ, .ref mG, .ref mC, .ref mR, .ref mN, .int (iZ (lk)), .int (iZ (bd)), .int (iZ (so)), .long (lZ (dm)), .int (iZ (tt)), .ref mE, .ref mL, .ref mB, .ref mU, .long (lZ (sm)), .int (iZ (po))]), (mK, ei g 100 KR), (mW, ei g 100 WR), (mT, ei g 100 TR), (mS, ei g 100 SR), (mV, ei g 100 VR), (mM, ez g 100 MR), (mX, ei g 50 XR), (mY, ei g 3 YR), (mI, ei g 101 IR), (mJ, ei g 101 JR), (mG, ei g 101 GR), (mC, el g 20604 CR), (mR, ei g 20604 RR), (mN, ei g 20604 NR), (mE, ei g 50 ER), (mL, ei g 50 LR), (mB, ei g 50 BR), (mU, ei g 50 UR)] [.ref hM, .int (iZ (b))] (b2 (zMust K V n b)) := by
  refine z_beRi (cc := cX6_mustBreak) (nL := 2) (ret := some .boolean) (plainFor_of_name (by decide +kernel)) rfl (Or.inr ⟨rfl, b2_01 _⟩) (Nat.le_of_ble_eq_true rfl) ?_
  intro X hC hR
  have hC : zC X g cX6_mustBreak RX6 wsX6_mustBreak rm_X6_mustBreak 2 := hC
  show ZG X g (zE X) 0 0 [(hM, eo 6 [.int (iZ (n)), .ref mK, .ref mW, .ref mT, .ref mS, .ref mV, .ref mM, .ref mX, .ref mY, .ref mI, .ref mJ, .ref mG, .ref mC, .ref mR, .ref mN, .int (iZ (lk)), .int (iZ (bd)), .int (iZ (so)), .long (lZ (dm)), .int (iZ (tt)), .ref mE, .ref mL, .ref mB, .ref mU, .long (lZ (sm)), .int (iZ (po))]), (mK, ei g 100 KR), (mW, ei g 100 WR), (mT, ei g 100 TR), (mS, ei g 100 SR), (mV, ei g 100 VR), (mM, ez g 100 MR), (mX, ei g 50 XR), (mY, ei g 3 YR), (mI, ei g 101 IR), (mJ, ei g 101 JR), (mG, ei g 101 GR), (mC, el g 20604 CR), (mR, ei g 20604 RR), (mN, ei g 20604 NR), (mE, ei g 50 ER), (mL, ei g 50 LR), (mB, ei g 50 BR), (mU, ei g 50 UR)] [(0, .ref hM), (1, .int (iZ (b)))] 0 []
  have ⟨hn, hK, hV⟩ := h1
  refine z_iload_n hC 1 dX6_mustBreak_0 rfl rfl ?_
  refine z_aload_n hC 0 dX6_mustBreak_1 rfl rfl ?_
  refine z_get hC iX6_mustBreak_6 0 0 rfl rfl (by decide) mX6_mustBreak_f66 rfl dX6_mustBreak_2 ?_
  refine z_icmp_ge hC 34 dX6_mustBreak_5 (by decide) (by omega) (by omega) (fun c_5 => ?_) (fun c_5 => ?_)
  ·
    refine z_iconst hC dX6_mustBreak_34 ?_
    exact hR _ _ _ _ (by first | exact b2_1' (by unfold zMust; omega) | exact b2_0' (by unfold zMust; omega) | exact b2_eq (by unfold zMust; omega)) dX6_mustBreak_35
  ·
    have sb := h2 b (by omega) (by omega)
    have kb := hK b (by omega) (by omega)
    have vb := hV b (by omega) (by omega)
    refine z_aload_n hC 0 dX6_mustBreak_8 rfl rfl ?_
    refine z_get hC iX6_mustBreak_6 0 1 rfl rfl (by decide) mX6_mustBreak_f7 rfl dX6_mustBreak_9 ?_
    refine z_iload_n hC 1 dX6_mustBreak_12 rfl rfl ?_
    refine z_iald hC 1 rfl (by omega) (by decide) dX6_mustBreak_13 ?_
    refine z_iconst hC dX6_mustBreak_14 ?_
    refine z_icmp_ne hC 34 dX6_mustBreak_15 (by decide) (by omega) (by omega) (fun c_15 => ?_) (fun c_15 => ?_)
    ·
      refine z_iconst hC dX6_mustBreak_34 ?_
      exact hR _ _ _ _ (by first | exact b2_1' (by unfold zMust; omega) | exact b2_0' (by unfold zMust; omega) | exact b2_eq (by unfold zMust; omega)) dX6_mustBreak_35
    ·
      refine z_aload_n hC 0 dX6_mustBreak_18 rfl rfl ?_
      refine z_get hC iX6_mustBreak_6 0 5 rfl rfl (by decide) mX6_mustBreak_f22 rfl dX6_mustBreak_19 ?_
      refine z_iload_n hC 1 dX6_mustBreak_22 rfl rfl ?_
      refine z_iald hC 5 rfl (by omega) (by decide) dX6_mustBreak_23 ?_
      refine z_sip hC dX6_mustBreak_24 (by decide) ?_
      refine z_icmp_ne hC 34 dX6_mustBreak_27 (by decide) (by omega) (by omega) (fun c_27 => ?_) (fun c_27 => ?_)
      ·
        refine z_iconst hC dX6_mustBreak_34 ?_
        exact hR _ _ _ _ (by first | exact b2_1' (by unfold zMust; omega) | exact b2_0' (by unfold zMust; omega) | exact b2_eq (by unfold zMust; omega)) dX6_mustBreak_35
      ·
        refine z_iconst hC dX6_mustBreak_30 ?_
        refine z_goto (tgt := 35) hC dX6_mustBreak_31 (by decide) ?_
        exact hR _ _ _ _ (by first | exact b2_1' (by unfold zMust; omega) | exact b2_0' (by unfold zMust; omega) | exact b2_eq (by unfold zMust; omega)) dX6_mustBreak_35
set_option maxRecDepth 20000 in
theorem mX6_sumUp_f66 : Cond.fieldLink RX6 66 "BreakSearchModel" "items" "I" ∈ wsX6_sumUp := by decide +kernel
set_option maxRecDepth 20000 in
theorem iX6_sumUp_6 : ∀ w ∈ u_ws RX6 TX6 26, w ∈ wsX6_sumUp := by decide +kernel
set_option maxRecDepth 20000 in
theorem mX6_sumUp_f7 : Cond.fieldLink RX6 7 "BreakSearchModel" "kinds" "[I" ∈ wsX6_sumUp := by decide +kernel
set_option maxRecDepth 20000 in
theorem mX6_sumUp_f35 : Cond.fieldLink RX6 35 "BreakSearchModel" "wide" "[I" ∈ wsX6_sumUp := by decide +kernel
set_option maxRecDepth 20000 in
theorem mX6_sumUp_f38 : Cond.fieldLink RX6 38 "BreakSearchModel" "stretchy" "[I" ∈ wsX6_sumUp := by decide +kernel
set_option maxRecDepth 20000 in
theorem mX6_sumUp_f16 : Cond.fieldLink RX6 16 "BreakSearchModel" "stretches" "[I" ∈ wsX6_sumUp := by decide +kernel
set_option maxRecDepth 20000 in
theorem mX6_sumUp_f41 : Cond.fieldLink RX6 41 "BreakSearchModel" "shrinking" "[I" ∈ wsX6_sumUp := by decide +kernel
set_option maxRecDepth 20000 in
theorem mX6_sumUp_f19 : Cond.fieldLink RX6 19 "BreakSearchModel" "shrinks" "[I" ∈ wsX6_sumUp := by decide +kernel
set_option maxRecDepth 20000 in
theorem mX6_sumUp_f13 : Cond.fieldLink RX6 13 "BreakSearchModel" "widths" "[I" ∈ wsX6_sumUp := by decide +kernel
abbrev rm_X6_sumUp : Room := { frames := 1, cells := 0, slots := 0, locals := 12 }
set_option maxHeartbeats 4000000 in
set_option maxRecDepth 100000 in
theorem c_X6_sumUp (l : Launch) (g : zG) (hM mK mW mT mS mV mM mX mY mI mJ mG mC mR mN mE mL mB mU : Nat) (n lk bd so dm tt sm po : Int) (KR WR TR SR VR MR XR YR IR JR GR CR RR NR ER LR BR UR : Int → Int) (K V P M LB SB HB W T : Int → Int) (h1 : zIok n K V P M) (h2 : zSm n K V P M KR WR VR MR) (h3 : zSs n K LB SB HB WR TR SR) (h4 : IR 0 = 0 ∧ JR 0 = 0 ∧ GR 0 = 0) : zMWv (S := (Int → Int) × (Int → Int) × (Int → Int)) l yX6_sumUp wsX6_sumUp rm_X6_sumUp g [(hM, eo 6 [.int (iZ (n)), .ref mK, .ref mW, .ref mT, .ref mS, .ref mV, .ref mM, .ref mX, .ref mY, .ref mI, .ref mJ, .ref mG, .ref mC, .ref mR, .ref mN, .int (iZ (lk)), .int (iZ (bd)), .int (iZ (so)), .long (lZ (dm)), .int (iZ (tt)), .ref mE, .ref mL, .ref mB, .ref mU, .long (lZ (sm)), .int (iZ (po))]), (mK, ei g 100 KR), (mW, ei g 100 WR), (mT, ei g 100 TR), (mS, ei g 100 SR), (mV, ei g 100 VR), (mM, ez g 100 MR), (mX, ei g 50 XR), (mY, ei g 3 YR), (mI, ei g 101 IR), (mJ, ei g 101 JR), (mG, ei g 101 GR), (mC, el g 20604 CR), (mR, ei g 20604 RR), (mN, ei g 20604 NR), (mE, ei g 50 ER), (mL, ei g 50 LR), (mB, ei g 50 BR), (mU, ei g 50 UR)] [.ref hM] (fun u => zSu n LB SB HB u.1 u.2.1 u.2.2 ∧ u.1 0 = 0 ∧ u.2.1 0 = 0 ∧ u.2.2 0 = 0) (fun u => [(hM, eo 6 [.int (iZ (n)), .ref mK, .ref mW, .ref mT, .ref mS, .ref mV, .ref mM, .ref mX, .ref mY, .ref mI, .ref mJ, .ref mG, .ref mC, .ref mR, .ref mN, .int (iZ (lk)), .int (iZ (bd)), .int (iZ (so)), .long (lZ (dm)), .int (iZ (tt)), .ref mE, .ref mL, .ref mB, .ref mU, .long (lZ (sm)), .int (iZ (po))]), (mK, ei g 100 KR), (mW, ei g 100 WR), (mT, ei g 100 TR), (mS, ei g 100 SR), (mV, ei g 100 VR), (mM, ez g 100 MR), (mX, ei g 50 XR), (mY, ei g 3 YR), (mI, ei g 101 u.1), (mJ, ei g 101 u.2.1), (mG, ei g 101 u.2.2), (mC, el g 20604 CR), (mR, ei g 20604 RR), (mN, ei g 20604 NR), (mE, ei g 50 ER), (mL, ei g 50 LR), (mB, ei g 50 BR), (mU, ei g 50 UR)]) 0 0 := by
  refine z_beWv (cc := cX6_sumUp) (nL := 3) (plainFor_of_name (by decide +kernel)) rfl (Nat.le_of_ble_eq_true rfl) ?_
  intro X A hC hN hR
  have hC : zC X g cX6_sumUp RX6 wsX6_sumUp rm_X6_sumUp 3 := hC
  show ZG X g (zD X A) 0 0 [(hM, eo 6 [.int (iZ (n)), .ref mK, .ref mW, .ref mT, .ref mS, .ref mV, .ref mM, .ref mX, .ref mY, .ref mI, .ref mJ, .ref mG, .ref mC, .ref mR, .ref mN, .int (iZ (lk)), .int (iZ (bd)), .int (iZ (so)), .long (lZ (dm)), .int (iZ (tt)), .ref mE, .ref mL, .ref mB, .ref mU, .long (lZ (sm)), .int (iZ (po))]), (mK, ei g 100 KR), (mW, ei g 100 WR), (mT, ei g 100 TR), (mS, ei g 100 SR), (mV, ei g 100 VR), (mM, ez g 100 MR), (mX, ei g 50 XR), (mY, ei g 3 YR), (mI, ei g 101 IR), (mJ, ei g 101 JR), (mG, ei g 101 GR), (mC, el g 20604 CR), (mR, ei g 20604 RR), (mN, ei g 20604 NR), (mE, ei g 50 ER), (mL, ei g 50 LR), (mB, ei g 50 BR), (mU, ei g 50 UR)] [(0, .ref hM)] 0 []
  have ⟨hn, hK, hV⟩ := h1
  have hs0 := h3.1
  refine z_iconst hC dX6_sumUp_0 ?_
  refine z_istore_n hC (lv' := [(1, _), (0, _)]) dX6_sumUp_1 rfl (by decide) rfl ?_
  have L2 : ∀ (fu : Nat) (k : Int) (I2 J2 G2 : Int → Int), (0 ≤ k ∧ k ≤ n) → (∀ j, 0 ≤ j → j ≤ k → I2 j = LB j ∧ J2 j = SB j ∧ G2 j = HB j) → (n - k).toNat < fu → ZG X g (zD X A) 0 0 [(hM, eo 6 [.int (iZ (n)), .ref mK, .ref mW, .ref mT, .ref mS, .ref mV, .ref mM, .ref mX, .ref mY, .ref mI, .ref mJ, .ref mG, .ref mC, .ref mR, .ref mN, .int (iZ (lk)), .int (iZ (bd)), .int (iZ (so)), .long (lZ (dm)), .int (iZ (tt)), .ref mE, .ref mL, .ref mB, .ref mU, .long (lZ (sm)), .int (iZ (po))]), (mK, ei g 100 KR), (mW, ei g 100 WR), (mT, ei g 100 TR), (mS, ei g 100 SR), (mV, ei g 100 VR), (mM, ez g 100 MR), (mX, ei g 50 XR), (mY, ei g 3 YR), (mI, ei g 101 I2), (mJ, ei g 101 J2), (mG, ei g 101 G2), (mC, el g 20604 CR), (mR, ei g 20604 RR), (mN, ei g 20604 NR), (mE, ei g 50 ER), (mL, ei g 50 LR), (mB, ei g 50 BR), (mU, ei g 50 UR)] [(1, .int (iZ (k))), (0, .ref hM)] 2 [] := by
    intro fu
    induction fu with
    | zero => intro k I2 J2 G2; intros; omega
    | succ fu ih_2 =>
      intro k I2 J2 G2 hk hs hn
      refine z_iload_n hC 0 dX6_sumUp_2 rfl rfl ?_
      refine z_aload_n hC 1 dX6_sumUp_3 rfl rfl ?_
      refine z_get hC iX6_sumUp_6 0 0 rfl rfl (by decide) mX6_sumUp_f66 rfl dX6_sumUp_4 ?_
      refine z_icmp_ge hC 103 dX6_sumUp_7 (by decide) (by omega) (by omega) (fun c_7 => ?_) (fun c_7 => ?_)
      ·
        exact hR (I2, J2, G2) _ _ _ [0, 1, 2, 3, 4, 5, 6, 7, 8, 9, 10, 11, 12, 13, 14, 15, 16, 17, 18] ⟨fun j g1 g2 => hs j g1 (by omega), by have := hs 0 (by omega) (by omega); show I2 0 = 0 ∧ J2 0 = 0 ∧ G2 0 = 0; omega⟩ (by decide) rfl dX6_sumUp_103
      ·
        have kk := hK k (by omega) (by omega)
        have sk := h2 k (by omega) (by omega)
        refine z_aload_n hC 1 dX6_sumUp_10 rfl rfl ?_
        refine z_get hC iX6_sumUp_6 0 1 rfl rfl (by decide) mX6_sumUp_f7 rfl dX6_sumUp_11 ?_
        refine z_iload_n hC 0 dX6_sumUp_14 rfl rfl ?_
        refine z_iald hC 1 rfl (by omega) (by decide) dX6_sumUp_15 ?_
        refine z_iconst hC dX6_sumUp_16 ?_
        refine z_icmp_eq hC 24 dX6_sumUp_17 (by decide) (by omega) (by omega) (fun c_17 => ?_) (fun c_17 => ?_)
        ·
          refine z_iconst hC dX6_sumUp_24 ?_
          refine z_istore_n hC (lv' := [(2, _), (1, _), (0, _)]) dX6_sumUp_25 rfl (by decide) rfl ?_
          refine z_aload_n hC 2 dX6_sumUp_26 rfl rfl ?_
          refine z_get hC iX6_sumUp_6 0 9 rfl rfl (by decide) mX6_sumUp_f35 rfl dX6_sumUp_27 ?_
          refine z_iload_n hC 1 dX6_sumUp_30 rfl rfl ?_
          refine z_iconst hC dX6_sumUp_31 ?_
          refine z_iadd hC dX6_sumUp_32 ?_
          refine z_aload_n hC 2 dX6_sumUp_33 rfl rfl ?_
          refine z_get hC iX6_sumUp_6 0 9 rfl rfl (by decide) mX6_sumUp_f35 rfl dX6_sumUp_34 ?_
          refine z_iload_n hC 1 dX6_sumUp_37 rfl rfl ?_
          refine z_iald hC 9 rfl (by omega) (by decide) dX6_sumUp_38 ?_
          refine z_iload_n hC 0 dX6_sumUp_39 rfl rfl ?_
          refine z_if_eq hC 52 dX6_sumUp_40 (by decide) (by omega) (fun c_40 => ?_) (fun c_40 => ?_)
          ·
            refine z_iconst hC dX6_sumUp_52 ?_
            refine z_iadd hC dX6_sumUp_53 ?_
            refine z_iast hC 9 rfl (by omega) (by decide) dX6_sumUp_54 (ws' := [_, _, _, _, _, _, _, _, _, _, _, _, _, _, _, _, _, _, _]) rfl ?_
            refine z_aload_n hC 2 dX6_sumUp_55 rfl rfl ?_
            refine z_get hC iX6_sumUp_6 0 10 rfl rfl (by decide) mX6_sumUp_f38 rfl dX6_sumUp_56 ?_
            refine z_iload_n hC 1 dX6_sumUp_59 rfl rfl ?_
            refine z_iconst hC dX6_sumUp_60 ?_
            refine z_iadd hC dX6_sumUp_61 ?_
            refine z_aload_n hC 2 dX6_sumUp_62 rfl rfl ?_
            refine z_get hC iX6_sumUp_6 0 10 rfl rfl (by decide) mX6_sumUp_f38 rfl dX6_sumUp_63 ?_
            refine z_iload_n hC 1 dX6_sumUp_66 rfl rfl ?_
            refine z_iald hC 10 rfl (by omega) (by decide) dX6_sumUp_67 ?_
            refine z_aload_n hC 2 dX6_sumUp_68 rfl rfl ?_
            refine z_get hC iX6_sumUp_6 0 3 rfl rfl (by decide) mX6_sumUp_f16 rfl dX6_sumUp_69 ?_
            refine z_iload_n hC 1 dX6_sumUp_72 rfl rfl ?_
            refine z_iald hC 3 rfl (by omega) (by decide) dX6_sumUp_73 ?_
            refine z_iadd hC dX6_sumUp_74 ?_
            refine z_iast hC 10 rfl (by omega) (by decide) dX6_sumUp_75 (ws' := [_, _, _, _, _, _, _, _, _, _, _, _, _, _, _, _, _, _, _]) rfl ?_
            refine z_aload_n hC 2 dX6_sumUp_76 rfl rfl ?_
            refine z_get hC iX6_sumUp_6 0 11 rfl rfl (by decide) mX6_sumUp_f41 rfl dX6_sumUp_77 ?_
            refine z_iload_n hC 1 dX6_sumUp_80 rfl rfl ?_
            refine z_iconst hC dX6_sumUp_81 ?_
            refine z_iadd hC dX6_sumUp_82 ?_
            refine z_aload_n hC 2 dX6_sumUp_83 rfl rfl ?_
            refine z_get hC iX6_sumUp_6 0 11 rfl rfl (by decide) mX6_sumUp_f41 rfl dX6_sumUp_84 ?_
            refine z_iload_n hC 1 dX6_sumUp_87 rfl rfl ?_
            refine z_iald hC 11 rfl (by omega) (by decide) dX6_sumUp_88 ?_
            refine z_aload_n hC 2 dX6_sumUp_89 rfl rfl ?_
            refine z_get hC iX6_sumUp_6 0 4 rfl rfl (by decide) mX6_sumUp_f19 rfl dX6_sumUp_90 ?_
            refine z_iload_n hC 1 dX6_sumUp_93 rfl rfl ?_
            refine z_iald hC 4 rfl (by omega) (by decide) dX6_sumUp_94 ?_
            refine z_iadd hC dX6_sumUp_95 ?_
            refine z_iast hC 11 rfl (by omega) (by decide) dX6_sumUp_96 (ws' := [_, _, _, _, _, _, _, _, _, _, _, _, _, _, _, _, _, _, _]) rfl ?_
            refine z_iinc hC (lv' := [(1, _), (2, _), (0, _)]) 1 dX6_sumUp_97 rfl (by decide) rfl ?_
            refine z_goto (tgt := 2) hC dX6_sumUp_100 (by decide) ?_
            refine z_lv (lv' := [(1, _), (0, _)]) [0, 2] rfl ?_
            exact ih_2 (k + 1) _ _ _ (by omega) (fun j g1 g2 => by (by_cases e : j = k + 1); (rw [e, uZ_s, uZ_s, uZ_s]; have s1 := h3.2 k (by omega) (by omega); have s2 := hs k (by omega) (by omega); (first | rw [if_pos (by omega)] at s1 | rw [if_neg (by omega)] at s1); omega); (rw [uZ_n _ _ e, uZ_n _ _ e, uZ_n _ _ e]; exact hs j g1 (by omega))) (by omega)
          ·
            exfalso; omega
        ·
          refine z_iconst hC dX6_sumUp_20 ?_
          refine z_goto (tgt := 25) hC dX6_sumUp_21 (by decide) ?_
          refine z_istore_n hC (lv' := [(2, _), (1, _), (0, _)]) dX6_sumUp_25 rfl (by decide) rfl ?_
          refine z_aload_n hC 2 dX6_sumUp_26 rfl rfl ?_
          refine z_get hC iX6_sumUp_6 0 9 rfl rfl (by decide) mX6_sumUp_f35 rfl dX6_sumUp_27 ?_
          refine z_iload_n hC 1 dX6_sumUp_30 rfl rfl ?_
          refine z_iconst hC dX6_sumUp_31 ?_
          refine z_iadd hC dX6_sumUp_32 ?_
          refine z_aload_n hC 2 dX6_sumUp_33 rfl rfl ?_
          refine z_get hC iX6_sumUp_6 0 9 rfl rfl (by decide) mX6_sumUp_f35 rfl dX6_sumUp_34 ?_
          refine z_iload_n hC 1 dX6_sumUp_37 rfl rfl ?_
          refine z_iald hC 9 rfl (by omega) (by decide) dX6_sumUp_38 ?_
          refine z_iload_n hC 0 dX6_sumUp_39 rfl rfl ?_
          refine z_if_eq hC 52 dX6_sumUp_40 (by decide) (by omega) (fun c_40 => ?_) (fun c_40 => ?_)
          ·
            exfalso; omega
          ·
            refine z_aload_n hC 2 dX6_sumUp_43 rfl rfl ?_
            refine z_get hC iX6_sumUp_6 0 2 rfl rfl (by decide) mX6_sumUp_f13 rfl dX6_sumUp_44 ?_
            refine z_iload_n hC 1 dX6_sumUp_47 rfl rfl ?_
            refine z_iald hC 2 rfl (by omega) (by decide) dX6_sumUp_48 ?_
            refine z_goto (tgt := 53) hC dX6_sumUp_49 (by decide) ?_
            refine z_iadd hC dX6_sumUp_53 ?_
            refine z_iast hC 9 rfl (by omega) (by decide) dX6_sumUp_54 (ws' := [_, _, _, _, _, _, _, _, _, _, _, _, _, _, _, _, _, _, _]) rfl ?_
            refine z_aload_n hC 2 dX6_sumUp_55 rfl rfl ?_
            refine z_get hC iX6_sumUp_6 0 10 rfl rfl (by decide) mX6_sumUp_f38 rfl dX6_sumUp_56 ?_
            refine z_iload_n hC 1 dX6_sumUp_59 rfl rfl ?_
            refine z_iconst hC dX6_sumUp_60 ?_
            refine z_iadd hC dX6_sumUp_61 ?_
            refine z_aload_n hC 2 dX6_sumUp_62 rfl rfl ?_
            refine z_get hC iX6_sumUp_6 0 10 rfl rfl (by decide) mX6_sumUp_f38 rfl dX6_sumUp_63 ?_
            refine z_iload_n hC 1 dX6_sumUp_66 rfl rfl ?_
            refine z_iald hC 10 rfl (by omega) (by decide) dX6_sumUp_67 ?_
            refine z_aload_n hC 2 dX6_sumUp_68 rfl rfl ?_
            refine z_get hC iX6_sumUp_6 0 3 rfl rfl (by decide) mX6_sumUp_f16 rfl dX6_sumUp_69 ?_
            refine z_iload_n hC 1 dX6_sumUp_72 rfl rfl ?_
            refine z_iald hC 3 rfl (by omega) (by decide) dX6_sumUp_73 ?_
            refine z_iadd hC dX6_sumUp_74 ?_
            refine z_iast hC 10 rfl (by omega) (by decide) dX6_sumUp_75 (ws' := [_, _, _, _, _, _, _, _, _, _, _, _, _, _, _, _, _, _, _]) rfl ?_
            refine z_aload_n hC 2 dX6_sumUp_76 rfl rfl ?_
            refine z_get hC iX6_sumUp_6 0 11 rfl rfl (by decide) mX6_sumUp_f41 rfl dX6_sumUp_77 ?_
            refine z_iload_n hC 1 dX6_sumUp_80 rfl rfl ?_
            refine z_iconst hC dX6_sumUp_81 ?_
            refine z_iadd hC dX6_sumUp_82 ?_
            refine z_aload_n hC 2 dX6_sumUp_83 rfl rfl ?_
            refine z_get hC iX6_sumUp_6 0 11 rfl rfl (by decide) mX6_sumUp_f41 rfl dX6_sumUp_84 ?_
            refine z_iload_n hC 1 dX6_sumUp_87 rfl rfl ?_
            refine z_iald hC 11 rfl (by omega) (by decide) dX6_sumUp_88 ?_
            refine z_aload_n hC 2 dX6_sumUp_89 rfl rfl ?_
            refine z_get hC iX6_sumUp_6 0 4 rfl rfl (by decide) mX6_sumUp_f19 rfl dX6_sumUp_90 ?_
            refine z_iload_n hC 1 dX6_sumUp_93 rfl rfl ?_
            refine z_iald hC 4 rfl (by omega) (by decide) dX6_sumUp_94 ?_
            refine z_iadd hC dX6_sumUp_95 ?_
            refine z_iast hC 11 rfl (by omega) (by decide) dX6_sumUp_96 (ws' := [_, _, _, _, _, _, _, _, _, _, _, _, _, _, _, _, _, _, _]) rfl ?_
            refine z_iinc hC (lv' := [(1, _), (2, _), (0, _)]) 1 dX6_sumUp_97 rfl (by decide) rfl ?_
            refine z_goto (tgt := 2) hC dX6_sumUp_100 (by decide) ?_
            refine z_lv (lv' := [(1, _), (0, _)]) [0, 2] rfl ?_
            exact ih_2 (k + 1) _ _ _ (by omega) (fun j g1 g2 => by (by_cases e : j = k + 1); (rw [e, uZ_s, uZ_s, uZ_s]; have s1 := h3.2 k (by omega) (by omega); have s2 := hs k (by omega) (by omega); (first | rw [if_pos (by omega)] at s1 | rw [if_neg (by omega)] at s1); omega); (rw [uZ_n _ _ e, uZ_n _ _ e, uZ_n _ _ e]; exact hs j g1 (by omega))) (by omega)
  exact L2 _ 0 _ _ _ (by omega) (fun j g1 g2 => by rw [show j = 0 by omega]; omega) (Nat.lt_succ_self _)
set_option maxRecDepth 20000 in
theorem mX6_isLine_f35 : Cond.fieldLink RX6 35 "BreakSearchModel" "wide" "[I" ∈ wsX6_isLine := by decide +kernel
set_option maxRecDepth 20000 in
theorem iX6_isLine_6 : ∀ w ∈ u_ws RX6 TX6 26, w ∈ wsX6_isLine := by decide +kernel
set_option maxRecDepth 20000 in
theorem mX6_isLine_f29 : Cond.fieldLink RX6 29 "BreakSearchModel" "shapes" "[I" ∈ wsX6_isLine := by decide +kernel
set_option maxRecDepth 20000 in
theorem mX6_isLine_f78 : Cond.fieldLink RX6 78 "BreakSearchModel" "lack" "I" ∈ wsX6_isLine := by decide +kernel
set_option maxRecDepth 20000 in
theorem mX6_isLine_f81 : Cond.fieldLink RX6 81 "BreakSearchModel" "bad" "I" ∈ wsX6_isLine := by decide +kernel
set_option maxRecDepth 20000 in
theorem mX6_isLine_f84 : Cond.fieldLink RX6 84 "BreakSearchModel" "sort" "I" ∈ wsX6_isLine := by decide +kernel
set_option maxRecDepth 20000 in
theorem mX6_isLine_k99 : Cond.constantLong RX6 99 (10) ∈ wsX6_isLine := by decide +kernel
set_option maxRecDepth 20000 in
theorem mX6_isLine_f101 : Cond.fieldLink RX6 101 "BreakSearchModel" "demerit" "J" ∈ wsX6_isLine := by decide +kernel
set_option maxRecDepth 20000 in
theorem mX6_isLine_f32 : Cond.fieldLink RX6 32 "BreakSearchModel" "settings" "[I" ∈ wsX6_isLine := by decide +kernel
set_option maxRecDepth 20000 in
theorem mX6_isLine_f22 : Cond.fieldLink RX6 22 "BreakSearchModel" "values" "[I" ∈ wsX6_isLine := by decide +kernel
set_option maxRecDepth 20000 in
theorem mX6_isLine_k89 : Cond.constantLong RX6 89 (100) ∈ wsX6_isLine := by decide +kernel
set_option maxRecDepth 20000 in
theorem mX6_isLine_k97 : Cond.constantLong RX6 97 (-2) ∈ wsX6_isLine := by decide +kernel
set_option maxRecDepth 20000 in
theorem mX6_isLine_f66 : Cond.fieldLink RX6 66 "BreakSearchModel" "items" "I" ∈ wsX6_isLine := by decide +kernel
set_option maxRecDepth 20000 in
theorem mX6_isLine_k87 : Cond.constantLong RX6 87 (10000) ∈ wsX6_isLine := by decide +kernel
set_option maxRecDepth 20000 in
theorem mX6_isLine_k95 : Cond.constantLong RX6 95 (2) ∈ wsX6_isLine := by decide +kernel
set_option maxRecDepth 20000 in
theorem mX6_isLine_f38 : Cond.fieldLink RX6 38 "BreakSearchModel" "stretchy" "[I" ∈ wsX6_isLine := by decide +kernel
set_option maxRecDepth 20000 in
theorem mX6_isLine_f41 : Cond.fieldLink RX6 41 "BreakSearchModel" "shrinking" "[I" ∈ wsX6_isLine := by decide +kernel
set_option maxRecDepth 20000 in
theorem mX6_isLine_f13 : Cond.fieldLink RX6 13 "BreakSearchModel" "widths" "[I" ∈ wsX6_isLine := by decide +kernel
set_option maxRecDepth 20000 in
theorem mX6_isLine_f7 : Cond.fieldLink RX6 7 "BreakSearchModel" "kinds" "[I" ∈ wsX6_isLine := by decide +kernel
abbrev rm_X6_isLine : Room := { frames := 2, cells := 0, slots := 0, locals := 33 }
set_option maxHeartbeats 4000000 in
set_option maxRecDepth 100000 in
theorem c_X6_isLine (l : Launch) (g : zG) (hM mK mW mT mS mV mM mX mY mI mJ mG mC mR mN mE mL mB mU : Nat) (n lk bd so dm tt sm po : Int) (KR WR TR SR VR MR XR YR IR JR GR CR RR NR ER LR BR UR : Int → Int) (K V P M LB SB HB W T : Int → Int) (a b i ps : Int) (h1 : zCi n K V P M LB SB HB W T) (h2 : zSm n K V P M KR WR VR MR) (h3 : zSu n LB SB HB IR JR GR) (h4 : zSx W T XR YR) (h5 : -1 ≤ a ∧ a < b ∧ b ≤ n) (h6 : 0 ≤ i ∧ i ≤ 49) (h7 : 1 ≤ ps ∧ ps ≤ 3) : zMWi (S := (Int) × (Int) × (Int) × (Int) × (Int)) l yX6_isLine wsX6_isLine rm_X6_isLine g [(hM, eo 6 [.int (iZ (n)), .ref mK, .ref mW, .ref mT, .ref mS, .ref mV, .ref mM, .ref mX, .ref mY, .ref mI, .ref mJ, .ref mG, .ref mC, .ref mR, .ref mN, .int (iZ (lk)), .int (iZ (bd)), .int (iZ (so)), .long (lZ (dm)), .int (iZ (tt)), .ref mE, .ref mL, .ref mB, .ref mU, .long (lZ (sm)), .int (iZ (po))]), (mK, ei g 100 KR), (mW, ei g 100 WR), (mT, ei g 100 TR), (mS, ei g 100 SR), (mV, ei g 100 VR), (mM, ez g 100 MR), (mX, ei g 50 XR), (mY, ei g 3 YR), (mI, ei g 101 IR), (mJ, ei g 101 JR), (mG, ei g 101 GR), (mC, el g 20604 CR), (mR, ei g 20604 RR), (mN, ei g 20604 NR), (mE, ei g 50 ER), (mL, ei g 50 LR), (mB, ei g 50 BR), (mU, ei g 50 UR)] [.ref hM, .int (iZ (a)), .int (iZ (b)), .int (iZ (i)), .int (iZ (ps))] (fun u => u.1 = lLk n K P LB W a b i ∧ (zFl n K P LB SB HB W (if ps = 1 then T 0 else T 1) (if ps = 3 then T 2 else 0) a b i → u.2.2.2.2 = 1 ∧ u.2.1 = lUg n K P LB SB HB W (if ps = 3 then T 2 else 0) a b i ∧ u.2.2.1 = lCl n K P LB SB HB W (if ps = 3 then T 2 else 0) a b i ∧ u.2.2.2.1 = (10 + lUg n K P LB SB HB W (if ps = 3 then T 2 else 0) a b i) * (10 + lUg n K P LB SB HB W (if ps = 3 then T 2 else 0) a b i) + zPen K V n b) ∧ (¬ zFl n K P LB SB HB W (if ps = 1 then T 0 else T 1) (if ps = 3 then T 2 else 0) a b i → u.2.2.2.2 = 0)) (fun u => u.2.2.2.2) (fun u => [(hM, eo 6 [.int (iZ (n)), .ref mK, .ref mW, .ref mT, .ref mS, .ref mV, .ref mM, .ref mX, .ref mY, .ref mI, .ref mJ, .ref mG, .ref mC, .ref mR, .ref mN, .int (iZ (u.1)), .int (iZ (u.2.1)), .int (iZ (u.2.2.1)), .long (lZ (u.2.2.2.1)), .int (iZ (tt)), .ref mE, .ref mL, .ref mB, .ref mU, .long (lZ (sm)), .int (iZ (po))]), (mK, ei g 100 KR), (mW, ei g 100 WR), (mT, ei g 100 TR), (mS, ei g 100 SR), (mV, ei g 100 VR), (mM, ez g 100 MR), (mX, ei g 50 XR), (mY, ei g 3 YR), (mI, ei g 101 IR), (mJ, ei g 101 JR), (mG, ei g 101 GR), (mC, el g 20604 CR), (mR, ei g 20604 RR), (mN, ei g 20604 NR), (mE, ei g 50 ER), (mL, ei g 50 LR), (mB, ei g 50 BR), (mU, ei g 50 UR)]) 0 0 := by
  refine z_beWi (cc := cX6_isLine) (nL := 14) (ret := some .boolean) (plainFor_of_name (by decide +kernel)) rfl (Or.inr ⟨rfl, fun u h => by (by_cases q : zFl n K P LB SB HB W (if ps = 1 then T 0 else T 1) (if ps = 3 then T 2 else 0) a b i); (exact Or.inr (h.2.1 q).1); (exact Or.inl (h.2.2 q))⟩) (Nat.le_of_ble_eq_true rfl) ?_
  intro X A hC hN hR
  have hC : zC X g cX6_isLine RX6 wsX6_isLine rm_X6_isLine 14 := hC
  show ZG X g (zD X A) 0 0 [(hM, eo 6 [.int (iZ (n)), .ref mK, .ref mW, .ref mT, .ref mS, .ref mV, .ref mM, .ref mX, .ref mY, .ref mI, .ref mJ, .ref mG, .ref mC, .ref mR, .ref mN, .int (iZ (lk)), .int (iZ (bd)), .int (iZ (so)), .long (lZ (dm)), .int (iZ (tt)), .ref mE, .ref mL, .ref mB, .ref mU, .long (lZ (sm)), .int (iZ (po))]), (mK, ei g 100 KR), (mW, ei g 100 WR), (mT, ei g 100 TR), (mS, ei g 100 SR), (mV, ei g 100 VR), (mM, ez g 100 MR), (mX, ei g 50 XR), (mY, ei g 3 YR), (mI, ei g 101 IR), (mJ, ei g 101 JR), (mG, ei g 101 GR), (mC, el g 20604 CR), (mR, ei g 20604 RR), (mN, ei g 20604 NR), (mE, ei g 50 ER), (mL, ei g 50 LR), (mB, ei g 50 BR), (mU, ei g 50 UR)] [(0, .ref hM), (1, .int (iZ (a))), (2, .int (iZ (b))), (3, .int (iZ (i))), (4, .int (iZ (ps)))] 0 []
  obtain ⟨hI1, hI2, hI3, hI4⟩ := id h1
  have hn := hI1.1
  have su_b := h3 b (by omega) (by omega)
  have hX := h4.1 i (by omega) (by omega)
  have hWi := hI3 i (by omega) (by omega)
  have hY := h4.2
  have J31 : ∀ (f : Int), f = min (zSt K n a) b → ZG X g (zD X A) 0 0 [(hM, eo 6 [.int (iZ (n)), .ref mK, .ref mW, .ref mT, .ref mS, .ref mV, .ref mM, .ref mX, .ref mY, .ref mI, .ref mJ, .ref mG, .ref mC, .ref mR, .ref mN, .int (iZ (lk)), .int (iZ (bd)), .int (iZ (so)), .long (lZ (dm)), .int (iZ (tt)), .ref mE, .ref mL, .ref mB, .ref mU, .long (lZ (sm)), .int (iZ (po))]), (mK, ei g 100 KR), (mW, ei g 100 WR), (mT, ei g 100 TR), (mS, ei g 100 SR), (mV, ei g 100 VR), (mM, ez g 100 MR), (mX, ei g 50 XR), (mY, ei g 3 YR), (mI, ei g 101 IR), (mJ, ei g 101 JR), (mG, ei g 101 GR), (mC, el g 20604 CR), (mR, ei g 20604 RR), (mN, ei g 20604 NR), (mE, ei g 50 ER), (mL, ei g 50 LR), (mB, ei g 50 BR), (mU, ei g 50 UR)] [(5, .int (iZ (f))), (0, .ref hM), (1, .int (iZ (a))), (2, .int (iZ (b))), (3, .int (iZ (i))), (4, .int (iZ (ps)))] 31 [] := by
    intro f hf
    have hfr := zSt_in (K := K) (n := n) (a := a) (by omega) (by omega)
    have su_f := h3 f (by omega) (by omega)
    have b1 := hI2.1 b (by omega) (by omega)
    have b2 := hI2.1 f (by omega) (by omega)
    have b3 := hI2.2 f b (by omega) (by omega) (by omega)
    have J54 : ∀ (pn : Int), (pn = 1 ∧ b < n ∧ K b = 2) ∨ (pn = 0 ∧ ¬ (b < n ∧ K b = 2)) → ZG X g (zD X A) 0 0 [(hM, eo 6 [.int (iZ (n)), .ref mK, .ref mW, .ref mT, .ref mS, .ref mV, .ref mM, .ref mX, .ref mY, .ref mI, .ref mJ, .ref mG, .ref mC, .ref mR, .ref mN, .int (iZ (lk)), .int (iZ (bd)), .int (iZ (so)), .long (lZ (dm)), .int (iZ (tt)), .ref mE, .ref mL, .ref mB, .ref mU, .long (lZ (sm)), .int (iZ (po))]), (mK, ei g 100 KR), (mW, ei g 100 WR), (mT, ei g 100 TR), (mS, ei g 100 SR), (mV, ei g 100 VR), (mM, ez g 100 MR), (mX, ei g 50 XR), (mY, ei g 3 YR), (mI, ei g 101 IR), (mJ, ei g 101 JR), (mG, ei g 101 GR), (mC, el g 20604 CR), (mR, ei g 20604 RR), (mN, ei g 20604 NR), (mE, ei g 50 ER), (mL, ei g 50 LR), (mB, ei g 50 BR), (mU, ei g 50 UR)] [(5, .int (iZ (f))), (0, .ref hM), (1, .int (iZ (a))), (2, .int (iZ (b))), (3, .int (iZ (i))), (4, .int (iZ (ps)))] 54 [.int (iZ (pn))] := by
      intro pn hpn
      refine z_istore hC (lv' := [(6, _), (5, _), (0, _), (1, _), (2, _), (3, _), (4, _)]) dX6_isLine_54 (by decide) rfl ?_
      refine z_aload_n hC 2 dX6_isLine_56 rfl rfl ?_
      refine z_get hC iX6_isLine_6 0 9 rfl rfl (by decide) mX6_isLine_f35 rfl dX6_isLine_57 ?_
      refine z_iload_n hC 4 dX6_isLine_60 rfl rfl ?_
      refine z_iald hC 9 rfl (by omega) (by decide) dX6_isLine_61 ?_
      refine z_aload_n hC 2 dX6_isLine_62 rfl rfl ?_
      refine z_get hC iX6_isLine_6 0 9 rfl rfl (by decide) mX6_isLine_f35 rfl dX6_isLine_63 ?_
      refine z_iload hC 1 dX6_isLine_66 rfl ?_
      refine z_iald hC 9 rfl (by omega) (by decide) dX6_isLine_68 ?_
      refine z_isub hC dX6_isLine_69 ?_
      have J85 : ∀ (pw : Int), pw = (if 0 ≤ b ∧ b < n ∧ K b = 2 then P b else 0) → ZG X g (zD X A) 0 0 [(hM, eo 6 [.int (iZ (n)), .ref mK, .ref mW, .ref mT, .ref mS, .ref mV, .ref mM, .ref mX, .ref mY, .ref mI, .ref mJ, .ref mG, .ref mC, .ref mR, .ref mN, .int (iZ (lk)), .int (iZ (bd)), .int (iZ (so)), .long (lZ (dm)), .int (iZ (tt)), .ref mE, .ref mL, .ref mB, .ref mU, .long (lZ (sm)), .int (iZ (po))]), (mK, ei g 100 KR), (mW, ei g 100 WR), (mT, ei g 100 TR), (mS, ei g 100 SR), (mV, ei g 100 VR), (mM, ez g 100 MR), (mX, ei g 50 XR), (mY, ei g 3 YR), (mI, ei g 101 IR), (mJ, ei g 101 JR), (mG, ei g 101 GR), (mC, el g 20604 CR), (mR, ei g 20604 RR), (mN, ei g 20604 NR), (mE, ei g 50 ER), (mL, ei g 50 LR), (mB, ei g 50 BR), (mU, ei g 50 UR)] [(6, .int (iZ (pn))), (5, .int (iZ (f))), (0, .ref hM), (1, .int (iZ (a))), (2, .int (iZ (b))), (3, .int (iZ (i))), (4, .int (iZ (ps)))] 85 [.int (iZ (pw)), .int (iZ ((IR b) - (IR f)))] := by
        intro pw hpw
        have hpwr : 0 ≤ pw ∧ pw ≤ 10000 := by rw [hpw]; by_cases q : 0 ≤ b ∧ b < n ∧ K b = 2; rw [if_pos q]; have := hI1.2.2 b (by omega) (by omega) (by omega); omega; rw [if_neg q]; omega
        refine z_iadd hC dX6_isLine_85 ?_
        refine z_istore hC (lv' := [(7, _), (6, _), (5, _), (0, _), (1, _), (2, _), (3, _), (4, _)]) dX6_isLine_86 (by decide) rfl ?_
        refine z_aload_n hC 3 dX6_isLine_88 rfl rfl ?_
        refine z_aload_n hC 3 dX6_isLine_89 rfl rfl ?_
        refine z_get hC iX6_isLine_6 0 7 rfl rfl (by decide) mX6_isLine_f29 rfl dX6_isLine_90 ?_
        refine z_iload_n hC 6 dX6_isLine_93 rfl rfl ?_
        refine z_iald hC 7 rfl (by omega) (by decide) dX6_isLine_94 ?_
        refine z_iload hC 0 dX6_isLine_95 rfl ?_
        refine z_isub hC dX6_isLine_97 ?_
        have hlk : XR i - (IR b - IR f + pw) = lLk n K P LB W a b i := by unfold lLk zLk; rw [← hf, ← hpw]; omega
        have hlr : -1100000 ≤ lLk n K P LB W a b i ∧ lLk n K P LB W a b i ≤ 20000 := by rw [← hlk]; omega
        refine z_top hlk ?_
        clear hlk
        generalize hL : lLk n K P LB W a b i = L at hlr ⊢
        refine z_put hC iX6_isLine_6 tyX6 tyX6_ok nmX6 0 15 rfl rfl (by decide) mX6_isLine_f78 rfl rfl rfl (Nat.le_of_ble_eq_true rfl) dX6_isLine_98 (ws' := [_, _, _, _, _, _, _, _, _, _, _, _, _, _, _, _, _, _, _]) rfl ?_
        refine z_aload_n hC 3 dX6_isLine_101 rfl rfl ?_
        refine z_get hC iX6_isLine_6 0 15 rfl rfl (by decide) mX6_isLine_f78 rfl dX6_isLine_102 ?_
        refine z_i2l hC dX6_isLine_105 (by omega) ?_
        refine z_lstore hC (lv' := [(8, _), (7, _), (6, _), (5, _), (0, _), (1, _), (2, _), (3, _), (4, _)]) dX6_isLine_106 (by decide) rfl ?_
        have J165 : ∀ (s : Int), (L < 0 → s = lSh n K HB a b) ∧ (¬ L < 0 → s = lSt n K SB (if ps = 3 then T 2 else 0) a b) → ZG X g (zD X A) 0 0 [(hM, eo 6 [.int (iZ (n)), .ref mK, .ref mW, .ref mT, .ref mS, .ref mV, .ref mM, .ref mX, .ref mY, .ref mI, .ref mJ, .ref mG, .ref mC, .ref mR, .ref mN, .int (iZ (L)), .int (iZ (bd)), .int (iZ (so)), .long (lZ (dm)), .int (iZ (tt)), .ref mE, .ref mL, .ref mB, .ref mU, .long (lZ (sm)), .int (iZ (po))]), (mK, ei g 100 KR), (mW, ei g 100 WR), (mT, ei g 100 TR), (mS, ei g 100 SR), (mV, ei g 100 VR), (mM, ez g 100 MR), (mX, ei g 50 XR), (mY, ei g 3 YR), (mI, ei g 101 IR), (mJ, ei g 101 JR), (mG, ei g 101 GR), (mC, el g 20604 CR), (mR, ei g 20604 RR), (mN, ei g 20604 NR), (mE, ei g 50 ER), (mL, ei g 50 LR), (mB, ei g 50 BR), (mU, ei g 50 UR)] [(8, .long (lZ (L))), (7, .int (iZ (((IR b) - (IR f)) + pw))), (6, .int (iZ (pn))), (5, .int (iZ (f))), (0, .ref hM), (1, .int (iZ (a))), (2, .int (iZ (b))), (3, .int (iZ (i))), (4, .int (iZ (ps)))] 165 [.long (lZ (s))] := by
          intro s hs
          have hsr : 0 ≤ s ∧ s ≤ 1010000 := by
            by_cases q : L < 0
            · rw [hs.1 q]; unfold lSh; rw [← hf]; omega
            · rw [hs.2 q]; unfold lSt; rw [← hf]; split <;> omega
          refine z_lstore hC (lv' := [(10, _), (8, _), (7, _), (6, _), (5, _), (0, _), (1, _), (2, _), (3, _), (4, _)]) dX6_isLine_165 (by decide) rfl ?_
          refine z_lload hC 1 dX6_isLine_167 rfl ?_
          refine z_lneg hC dX6_isLine_169 ?_
          refine z_lload hC 0 dX6_isLine_170 rfl ?_
          refine z_lc_le hC 178 dX6_isLine_172 dX6_isLine_173 (by decide) (by omega) (by omega) (fun c_172 => ?_) (fun c_172 => ?_)
          ·
            have hok : zOk (lLk n K P LB W a b i) (lSh n K HB a b) := by unfold zOk; rw [hL]; intro q; have := hs.1 q.1; omega
            refine z_aload_n hC 5 dX6_isLine_178 rfl rfl ?_
            refine z_iconst hC dX6_isLine_179 ?_
            refine z_put hC iX6_isLine_6 tyX6 tyX6_ok nmX6 0 16 rfl rfl (by decide) mX6_isLine_f81 rfl rfl rfl (Nat.le_of_ble_eq_true rfl) dX6_isLine_180 (ws' := [_, _, _, _, _, _, _, _, _, _, _, _, _, _, _, _, _, _, _]) rfl ?_
            refine z_aload_n hC 5 dX6_isLine_183 rfl rfl ?_
            refine z_iconst hC dX6_isLine_184 ?_
            refine z_put hC iX6_isLine_6 tyX6 tyX6_ok nmX6 0 17 rfl rfl (by decide) mX6_isLine_f84 rfl rfl rfl (Nat.le_of_ble_eq_true rfl) dX6_isLine_185 (ws' := [_, _, _, _, _, _, _, _, _, _, _, _, _, _, _, _, _, _, _]) rfl ?_
            have J340 : ∀ (bq sq : Int), bq = lUg n K P LB SB HB W (if ps = 3 then T 2 else 0) a b i ∧ sq = lCl n K P LB SB HB W (if ps = 3 then T 2 else 0) a b i → ZG X g (zD X A) 0 0 [(hM, eo 6 [.int (iZ (n)), .ref mK, .ref mW, .ref mT, .ref mS, .ref mV, .ref mM, .ref mX, .ref mY, .ref mI, .ref mJ, .ref mG, .ref mC, .ref mR, .ref mN, .int (iZ (L)), .int (iZ (bq)), .int (iZ (sq)), .long (lZ (dm)), .int (iZ (tt)), .ref mE, .ref mL, .ref mB, .ref mU, .long (lZ (sm)), .int (iZ (po))]), (mK, ei g 100 KR), (mW, ei g 100 WR), (mT, ei g 100 TR), (mS, ei g 100 SR), (mV, ei g 100 VR), (mM, ez g 100 MR), (mX, ei g 50 XR), (mY, ei g 3 YR), (mI, ei g 101 IR), (mJ, ei g 101 JR), (mG, ei g 101 GR), (mC, el g 20604 CR), (mR, ei g 20604 RR), (mN, ei g 20604 NR), (mE, ei g 50 ER), (mL, ei g 50 LR), (mB, ei g 50 BR), (mU, ei g 50 UR)] [(10, .long (lZ (s))), (8, .long (lZ (L))), (7, .int (iZ (((IR b) - (IR f)) + pw))), (6, .int (iZ (pn))), (5, .int (iZ (f))), (0, .ref hM), (1, .int (iZ (a))), (2, .int (iZ (b))), (3, .int (iZ (i))), (4, .int (iZ (ps)))] 340 [] := by
              intro bq sq hb
              have hbr : 0 ≤ bq ∧ bq ≤ 10000 := by rw [hb.1]; exact zUg_in
              refine z_aload_n hC 5 dX6_isLine_340 rfl rfl ?_
              refine z_ldc2 hC (10) mX6_isLine_k99 (by decide) dX6_isLine_341 ?_
              refine z_aload_n hC 5 dX6_isLine_344 rfl rfl ?_
              refine z_get hC iX6_isLine_6 0 16 rfl rfl (by decide) mX6_isLine_f81 rfl dX6_isLine_345 ?_
              refine z_i2l hC dX6_isLine_348 (by omega) ?_
              refine z_ladd hC dX6_isLine_349 ?_
              refine z_ldc2 hC (10) mX6_isLine_k99 (by decide) dX6_isLine_350 ?_
              refine z_aload_n hC 5 dX6_isLine_353 rfl rfl ?_
              refine z_get hC iX6_isLine_6 0 16 rfl rfl (by decide) mX6_isLine_f81 rfl dX6_isLine_354 ?_
              refine z_i2l hC dX6_isLine_357 (by omega) ?_
              refine z_ladd hC dX6_isLine_358 ?_
              refine z_lmul hC dX6_isLine_359 ?_
              refine z_put hC iX6_isLine_6 tyX6 tyX6_ok nmX6 0 18 rfl rfl (by decide) mX6_isLine_f101 rfl rfl rfl (Nat.le_of_ble_eq_true rfl) dX6_isLine_360 (ws' := [_, _, _, _, _, _, _, _, _, _, _, _, _, _, _, _, _, _, _]) rfl ?_
              have J419 : ∀ (dq : Int), dq = (10 + bq) * (10 + bq) + zPen K V n b → ZG X g (zD X A) 0 0 [(hM, eo 6 [.int (iZ (n)), .ref mK, .ref mW, .ref mT, .ref mS, .ref mV, .ref mM, .ref mX, .ref mY, .ref mI, .ref mJ, .ref mG, .ref mC, .ref mR, .ref mN, .int (iZ (L)), .int (iZ (bq)), .int (iZ (sq)), .long (lZ (dq)), .int (iZ (tt)), .ref mE, .ref mL, .ref mB, .ref mU, .long (lZ (sm)), .int (iZ (po))]), (mK, ei g 100 KR), (mW, ei g 100 WR), (mT, ei g 100 TR), (mS, ei g 100 SR), (mV, ei g 100 VR), (mM, ez g 100 MR), (mX, ei g 50 XR), (mY, ei g 3 YR), (mI, ei g 101 IR), (mJ, ei g 101 JR), (mG, ei g 101 GR), (mC, el g 20604 CR), (mR, ei g 20604 RR), (mN, ei g 20604 NR), (mE, ei g 50 ER), (mL, ei g 50 LR), (mB, ei g 50 BR), (mU, ei g 50 UR)] [(10, .long (lZ (s))), (8, .long (lZ (L))), (7, .int (iZ (((IR b) - (IR f)) + pw))), (6, .int (iZ (pn))), (5, .int (iZ (f))), (0, .ref hM), (1, .int (iZ (a))), (2, .int (iZ (b))), (3, .int (iZ (i))), (4, .int (iZ (ps)))] 419 [] := by
                intro dq hdq
                refine z_aload_n hC 5 dX6_isLine_419 rfl rfl ?_
                refine z_get hC iX6_isLine_6 0 16 rfl rfl (by decide) mX6_isLine_f81 rfl dX6_isLine_420 ?_
                refine z_aload_n hC 5 dX6_isLine_423 rfl rfl ?_
                refine z_get hC iX6_isLine_6 0 8 rfl rfl (by decide) mX6_isLine_f32 rfl dX6_isLine_424 ?_
                refine z_iload hC 9 dX6_isLine_427 rfl ?_
                refine z_iconst hC dX6_isLine_429 ?_
                refine z_icmp_ne hC 437 dX6_isLine_430 (by decide) (by omega) (by omega) (fun c_430 => ?_) (fun c_430 => ?_)
                ·
                  refine z_iconst hC dX6_isLine_437 ?_
                  refine z_iald hC 8 rfl (by omega) (by decide) dX6_isLine_438 ?_
                  refine z_icmp_gt hC 446 dX6_isLine_439 (by decide) (by omega) (by omega) (fun c_439 => ?_) (fun c_439 => ?_)
                  ·
                    refine z_iconst hC dX6_isLine_446 ?_
                    exact hR (L, bq, sq, dq, 0) _ _ _ [0, 1, 2, 3, 4, 5, 6, 7, 8, 9, 10, 11, 12, 13, 14, 15, 16, 17, 18] _ ⟨hL.symm, fun q => absurd q.2 (by rw [← hb.1]; first | (rw [if_pos (by omega)]; omega) | (rw [if_neg (by omega)]; omega)), fun _ => rfl⟩ rfl (by decide) rfl dX6_isLine_447
                  ·
                    refine z_iconst hC dX6_isLine_442 ?_
                    refine z_goto (tgt := 447) hC dX6_isLine_443 (by decide) ?_
                    exact hR (L, bq, sq, dq, 1) _ _ _ [0, 1, 2, 3, 4, 5, 6, 7, 8, 9, 10, 11, 12, 13, 14, 15, 16, 17, 18] _ ⟨hL.symm, fun _ => ⟨rfl, hb.1, hb.2, by rw [← hb.1]; exact hdq⟩, fun q => absurd ⟨hok, (by rw [← hb.1]; first | (rw [if_pos (by omega)]; omega) | (rw [if_neg (by omega)]; omega))⟩ q⟩ rfl (by decide) rfl dX6_isLine_447
                ·
                  refine z_iconst hC dX6_isLine_433 ?_
                  refine z_goto (tgt := 438) hC dX6_isLine_434 (by decide) ?_
                  refine z_iald hC 8 rfl (by omega) (by decide) dX6_isLine_438 ?_
                  refine z_icmp_gt hC 446 dX6_isLine_439 (by decide) (by omega) (by omega) (fun c_439 => ?_) (fun c_439 => ?_)
                  ·
                    refine z_iconst hC dX6_isLine_446 ?_
                    exact hR (L, bq, sq, dq, 0) _ _ _ [0, 1, 2, 3, 4, 5, 6, 7, 8, 9, 10, 11, 12, 13, 14, 15, 16, 17, 18] _ ⟨hL.symm, fun q => absurd q.2 (by rw [← hb.1]; first | (rw [if_pos (by omega)]; omega) | (rw [if_neg (by omega)]; omega)), fun _ => rfl⟩ rfl (by decide) rfl dX6_isLine_447
                  ·
                    refine z_iconst hC dX6_isLine_442 ?_
                    refine z_goto (tgt := 447) hC dX6_isLine_443 (by decide) ?_
                    exact hR (L, bq, sq, dq, 1) _ _ _ [0, 1, 2, 3, 4, 5, 6, 7, 8, 9, 10, 11, 12, 13, 14, 15, 16, 17, 18] _ ⟨hL.symm, fun _ => ⟨rfl, hb.1, hb.2, by rw [← hb.1]; exact hdq⟩, fun q => absurd ⟨hok, (by rw [← hb.1]; first | (rw [if_pos (by omega)]; omega) | (rw [if_neg (by omega)]; omega))⟩ q⟩ rfl (by decide) rfl dX6_isLine_447
              refine z_iload hC 3 dX6_isLine_363 rfl ?_
              refine z_if_eq hC 419 dX6_isLine_365 (by decide) (by omega) (fun c_365 => ?_) (fun c_365 => ?_)
              ·
                exact J419 _ (by first | (rw [← zPen_0 (by omega)]; omega) | (rw [(sb.2 (by omega)).1, ← zPen_n (by omega) (by omega)]) | (rw [(sb.2 (by omega)).1, ← zPen_p (by omega) (by omega)]))
              ·
                have sb := h2 b (by omega) (by omega)
                have vb := hI1.2.2 b (by omega) (by omega) (by omega)
                refine z_aload_n hC 5 dX6_isLine_368 rfl rfl ?_
                refine z_get hC iX6_isLine_6 0 5 rfl rfl (by decide) mX6_isLine_f22 rfl dX6_isLine_369 ?_
                refine z_iload_n hC 7 dX6_isLine_372 rfl rfl ?_
                refine z_iald hC 5 rfl (by omega) (by decide) dX6_isLine_373 ?_
                refine z_sip hC dX6_isLine_374 (by decide) ?_
                refine z_icmp_le hC 419 dX6_isLine_377 (by decide) (by omega) (by omega) (fun c_377 => ?_) (fun c_377 => ?_)
                ·
                  exact J419 _ (by first | (rw [← zPen_0 (by omega)]; omega) | (rw [(sb.2 (by omega)).1, ← zPen_n (by omega) (by omega)]) | (rw [(sb.2 (by omega)).1, ← zPen_p (by omega) (by omega)]))
                ·
                  refine z_aload_n hC 5 dX6_isLine_380 rfl rfl ?_
                  refine z_get hC iX6_isLine_6 0 5 rfl rfl (by decide) mX6_isLine_f22 rfl dX6_isLine_381 ?_
                  refine z_iload_n hC 7 dX6_isLine_384 rfl rfl ?_
                  refine z_iald hC 5 rfl (by omega) (by decide) dX6_isLine_385 ?_
                  refine z_i2l hC dX6_isLine_386 (by omega) ?_
                  refine z_lstore hC (lv' := [(12, _), (10, _), (8, _), (7, _), (6, _), (5, _), (0, _), (1, _), (2, _), (3, _), (4, _)]) dX6_isLine_387 (by decide) rfl ?_
                  refine z_aload_n hC 6 dX6_isLine_389 rfl rfl ?_
                  refine z_dup hC dX6_isLine_390 rfl ?_
                  refine z_get hC iX6_isLine_6 0 18 rfl rfl (by decide) mX6_isLine_f101 rfl dX6_isLine_391 ?_
                  refine z_lload hC 0 dX6_isLine_394 rfl ?_
                  refine z_lconst (z := 0) hC dX6_isLine_396 (by decide) ?_
                  refine z_lc_ge hC 410 dX6_isLine_397 dX6_isLine_398 (by decide) (by omega) (by omega) (fun c_397 => ?_) (fun c_397 => ?_)
                  ·
                    refine z_lload hC 0 dX6_isLine_410 rfl ?_
                    refine z_lload hC 0 dX6_isLine_412 rfl ?_
                    refine z_lmul hC dX6_isLine_414 ?_
                    refine z_ladd hC dX6_isLine_415 ?_
                    refine z_put hC iX6_isLine_6 tyX6 tyX6_ok nmX6 0 18 rfl rfl (by decide) mX6_isLine_f101 rfl rfl rfl (Nat.le_of_ble_eq_true rfl) dX6_isLine_416 (ws' := [_, _, _, _, _, _, _, _, _, _, _, _, _, _, _, _, _, _, _]) rfl ?_
                    refine z_lv (lv' := [(10, _), (8, _), (7, _), (6, _), (5, _), (0, _), (1, _), (2, _), (3, _), (4, _)]) [1, 2, 3, 4, 5, 6, 7, 8, 9, 10] rfl ?_
                    exact J419 _ (by first | (rw [← zPen_0 (by omega)]; omega) | (rw [(sb.2 (by omega)).1, ← zPen_n (by omega) (by omega)]) | (rw [(sb.2 (by omega)).1, ← zPen_p (by omega) (by omega)]))
                  ·
                    refine z_lload hC 0 dX6_isLine_401 rfl ?_
                    refine z_lneg hC dX6_isLine_403 ?_
                    refine z_lload hC 0 dX6_isLine_404 rfl ?_
                    refine z_lmul hC dX6_isLine_406 ?_
                    refine z_goto (tgt := 415) hC dX6_isLine_407 (by decide) ?_
                    refine z_ladd hC dX6_isLine_415 ?_
                    refine z_put hC iX6_isLine_6 tyX6 tyX6_ok nmX6 0 18 rfl rfl (by decide) mX6_isLine_f101 rfl rfl rfl (Nat.le_of_ble_eq_true rfl) dX6_isLine_416 (ws' := [_, _, _, _, _, _, _, _, _, _, _, _, _, _, _, _, _, _, _]) rfl ?_
                    refine z_lv (lv' := [(10, _), (8, _), (7, _), (6, _), (5, _), (0, _), (1, _), (2, _), (3, _), (4, _)]) [1, 2, 3, 4, 5, 6, 7, 8, 9, 10] rfl ?_
                    exact J419 _ (by first | (rw [← zPen_0 (by omega)]; omega) | (rw [(sb.2 (by omega)).1, ← zPen_n (by omega) (by omega)]) | (rw [(sb.2 (by omega)).1, ← zPen_p (by omega) (by omega)]))
            refine z_lload hC 1 dX6_isLine_188 rfl ?_
            refine z_lconst (z := 0) hC dX6_isLine_190 (by decide) ?_
            refine z_lc_le hC 291 dX6_isLine_191 dX6_isLine_192 (by decide) (by omega) (by omega) (fun c_191 => ?_) (fun c_191 => ?_)
            ·
              refine z_lload hC 1 dX6_isLine_291 rfl ?_
              refine z_lconst (z := 0) hC dX6_isLine_293 (by decide) ?_
              refine z_lc_ge hC 340 dX6_isLine_294 dX6_isLine_295 (by decide) (by omega) (by omega) (fun c_294 => ?_) (fun c_294 => ?_)
              ·
                exact J340 _ _ (by first | (exfalso; omega) | (exact ⟨by unfold lUg; rw [hL, zUg_w (by omega) (by omega), ← hs.2 (by omega), hv.2.2]; omega, by unfold lCl; rw [hL, zCl_w (by omega) (by omega), ← hs.2 (by omega)]; unfold zWid; (repeat (first | rw [if_pos (by omega)] | rw [if_neg (by omega)]))⟩) | (exact ⟨by unfold lUg; rw [hL, zUg_z (by omega) (by omega)], by unfold lCl; rw [hL, zCl_z (by omega) (by omega)]⟩) | (exact ⟨by unfold lUg; rw [hL, zUg_n (by omega), ← hs.1 (by omega)]; unfold zBad; rw [if_neg (by omega)]; omega, by unfold lCl; rw [hL, zCl_n (by omega), ← hs.1 (by omega)]; (repeat (first | rw [if_pos (by omega)] | rw [if_neg (by omega)]))⟩))
              ·
                have hsh : L < 0 → s ≤ 100000 := fun q => by rw [hs.1 q]; unfold lSh; rw [← hf]; omega
                have hsh2 := hsh (by omega)
                have q1 := cube_in (x := -L) (b := 100000) (by omega) (by omega)
                have q2 := cube_in (x := s) (b := 1010000) (by omega) (by omega)
                have q3 := cube_pos (x := s) (by omega)
                have q4 := zq_in (a := 100 * (-L * -L * -L)) (b := s * s * s) (by omega) (by omega)
                have q5 := zq_100 (x := -L * -L * -L) (y := s * s * s) (by omega) (cube_mono (by omega) (by omega)) (by omega)
                refine z_aload_n hC 5 dX6_isLine_298 rfl rfl ?_
                refine z_ldc2 hC (100) mX6_isLine_k89 (by decide) dX6_isLine_299 ?_
                refine z_lload hC 1 dX6_isLine_302 rfl ?_
                refine z_lneg hC dX6_isLine_304 ?_
                refine z_sRl hC 1 (c_X6_cube (xl X) g _) gX6_isLine_X6_cube rfl hd_X6_cube_s (by decide) ⟨rfl, rfl⟩ [] (by decide) rfl rfl rfl (Nat.le_of_ble_eq_true rfl) dX6_isLine_305 (by decide) ?_
                refine z_lmul hC dX6_isLine_308 ?_
                refine z_lload hC 0 dX6_isLine_309 rfl ?_
                refine z_sRl hC 1 (c_X6_cube (xl X) g _) gX6_isLine_X6_cube rfl hd_X6_cube_s (by decide) ⟨rfl, rfl⟩ [] (by decide) rfl rfl rfl (Nat.le_of_ble_eq_true rfl) dX6_isLine_311 (by decide) ?_
                refine z_ldiv hC dX6_isLine_314 (by omega) (by omega) ?_
                refine z_l2i hC dX6_isLine_315 ?_
                refine z_put hC iX6_isLine_6 tyX6 tyX6_ok nmX6 0 16 rfl rfl (by decide) mX6_isLine_f81 rfl rfl rfl (Nat.le_of_ble_eq_true rfl) dX6_isLine_316 (ws' := [_, _, _, _, _, _, _, _, _, _, _, _, _, _, _, _, _, _, _]) rfl ?_
                refine z_aload_n hC 5 dX6_isLine_319 rfl rfl ?_
                refine z_ldc2 hC (-2) mX6_isLine_k97 (by decide) dX6_isLine_320 ?_
                refine z_lload hC 1 dX6_isLine_323 rfl ?_
                refine z_lmul hC dX6_isLine_325 ?_
                refine z_lload hC 0 dX6_isLine_326 rfl ?_
                refine z_lc_le hC 336 dX6_isLine_328 dX6_isLine_329 (by decide) (by omega) (by omega) (fun c_328 => ?_) (fun c_328 => ?_)
                ·
                  refine z_iconst hC dX6_isLine_336 ?_
                  refine z_put hC iX6_isLine_6 tyX6 tyX6_ok nmX6 0 17 rfl rfl (by decide) mX6_isLine_f84 rfl rfl rfl (Nat.le_of_ble_eq_true rfl) dX6_isLine_337 (ws' := [_, _, _, _, _, _, _, _, _, _, _, _, _, _, _, _, _, _, _]) rfl ?_
                  exact J340 _ _ (by first | (exfalso; omega) | (exact ⟨by unfold lUg; rw [hL, zUg_w (by omega) (by omega), ← hs.2 (by omega), hv.2.2]; omega, by unfold lCl; rw [hL, zCl_w (by omega) (by omega), ← hs.2 (by omega)]; unfold zWid; (repeat (first | rw [if_pos (by omega)] | rw [if_neg (by omega)]))⟩) | (exact ⟨by unfold lUg; rw [hL, zUg_z (by omega) (by omega)], by unfold lCl; rw [hL, zCl_z (by omega) (by omega)]⟩) | (exact ⟨by unfold lUg; rw [hL, zUg_n (by omega), ← hs.1 (by omega)]; unfold zBad; rw [if_neg (by omega)]; omega, by unfold lCl; rw [hL, zCl_n (by omega), ← hs.1 (by omega)]; (repeat (first | rw [if_pos (by omega)] | rw [if_neg (by omega)]))⟩))
                ·
                  refine z_iconst hC dX6_isLine_332 ?_
                  refine z_goto (tgt := 337) hC dX6_isLine_333 (by decide) ?_
                  refine z_put hC iX6_isLine_6 tyX6 tyX6_ok nmX6 0 17 rfl rfl (by decide) mX6_isLine_f84 rfl rfl rfl (Nat.le_of_ble_eq_true rfl) dX6_isLine_337 (ws' := [_, _, _, _, _, _, _, _, _, _, _, _, _, _, _, _, _, _, _]) rfl ?_
                  exact J340 _ _ (by first | (exfalso; omega) | (exact ⟨by unfold lUg; rw [hL, zUg_w (by omega) (by omega), ← hs.2 (by omega), hv.2.2]; omega, by unfold lCl; rw [hL, zCl_w (by omega) (by omega), ← hs.2 (by omega)]; unfold zWid; (repeat (first | rw [if_pos (by omega)] | rw [if_neg (by omega)]))⟩) | (exact ⟨by unfold lUg; rw [hL, zUg_z (by omega) (by omega)], by unfold lCl; rw [hL, zCl_z (by omega) (by omega)]⟩) | (exact ⟨by unfold lUg; rw [hL, zUg_n (by omega), ← hs.1 (by omega)]; unfold zBad; rw [if_neg (by omega)]; omega, by unfold lCl; rw [hL, zCl_n (by omega), ← hs.1 (by omega)]; (repeat (first | rw [if_pos (by omega)] | rw [if_neg (by omega)]))⟩))
            ·
              refine z_iload_n hC 7 dX6_isLine_195 rfl rfl ?_
              refine z_aload_n hC 5 dX6_isLine_196 rfl rfl ?_
              refine z_get hC iX6_isLine_6 0 0 rfl rfl (by decide) mX6_isLine_f66 rfl dX6_isLine_197 ?_
              refine z_icmp_ge hC 291 dX6_isLine_200 (by decide) (by omega) (by omega) (fun c_200 => ?_) (fun c_200 => ?_)
              ·
                refine z_lload hC 1 dX6_isLine_291 rfl ?_
                refine z_lconst (z := 0) hC dX6_isLine_293 (by decide) ?_
                refine z_lc_ge hC 340 dX6_isLine_294 dX6_isLine_295 (by decide) (by omega) (by omega) (fun c_294 => ?_) (fun c_294 => ?_)
                ·
                  exact J340 _ _ (by first | (exfalso; omega) | (exact ⟨by unfold lUg; rw [hL, zUg_w (by omega) (by omega), ← hs.2 (by omega), hv.2.2]; omega, by unfold lCl; rw [hL, zCl_w (by omega) (by omega), ← hs.2 (by omega)]; unfold zWid; (repeat (first | rw [if_pos (by omega)] | rw [if_neg (by omega)]))⟩) | (exact ⟨by unfold lUg; rw [hL, zUg_z (by omega) (by omega)], by unfold lCl; rw [hL, zCl_z (by omega) (by omega)]⟩) | (exact ⟨by unfold lUg; rw [hL, zUg_n (by omega), ← hs.1 (by omega)]; unfold zBad; rw [if_neg (by omega)]; omega, by unfold lCl; rw [hL, zCl_n (by omega), ← hs.1 (by omega)]; (repeat (first | rw [if_pos (by omega)] | rw [if_neg (by omega)]))⟩))
                ·
                  have hsh : L < 0 → s ≤ 100000 := fun q => by rw [hs.1 q]; unfold lSh; rw [← hf]; omega
                  have hsh2 := hsh (by omega)
                  have q1 := cube_in (x := -L) (b := 100000) (by omega) (by omega)
                  have q2 := cube_in (x := s) (b := 1010000) (by omega) (by omega)
                  have q3 := cube_pos (x := s) (by omega)
                  have q4 := zq_in (a := 100 * (-L * -L * -L)) (b := s * s * s) (by omega) (by omega)
                  have q5 := zq_100 (x := -L * -L * -L) (y := s * s * s) (by omega) (cube_mono (by omega) (by omega)) (by omega)
                  refine z_aload_n hC 5 dX6_isLine_298 rfl rfl ?_
                  refine z_ldc2 hC (100) mX6_isLine_k89 (by decide) dX6_isLine_299 ?_
                  refine z_lload hC 1 dX6_isLine_302 rfl ?_
                  refine z_lneg hC dX6_isLine_304 ?_
                  refine z_sRl hC 1 (c_X6_cube (xl X) g _) gX6_isLine_X6_cube rfl hd_X6_cube_s (by decide) ⟨rfl, rfl⟩ [] (by decide) rfl rfl rfl (Nat.le_of_ble_eq_true rfl) dX6_isLine_305 (by decide) ?_
                  refine z_lmul hC dX6_isLine_308 ?_
                  refine z_lload hC 0 dX6_isLine_309 rfl ?_
                  refine z_sRl hC 1 (c_X6_cube (xl X) g _) gX6_isLine_X6_cube rfl hd_X6_cube_s (by decide) ⟨rfl, rfl⟩ [] (by decide) rfl rfl rfl (Nat.le_of_ble_eq_true rfl) dX6_isLine_311 (by decide) ?_
                  refine z_ldiv hC dX6_isLine_314 (by omega) (by omega) ?_
                  refine z_l2i hC dX6_isLine_315 ?_
                  refine z_put hC iX6_isLine_6 tyX6 tyX6_ok nmX6 0 16 rfl rfl (by decide) mX6_isLine_f81 rfl rfl rfl (Nat.le_of_ble_eq_true rfl) dX6_isLine_316 (ws' := [_, _, _, _, _, _, _, _, _, _, _, _, _, _, _, _, _, _, _]) rfl ?_
                  refine z_aload_n hC 5 dX6_isLine_319 rfl rfl ?_
                  refine z_ldc2 hC (-2) mX6_isLine_k97 (by decide) dX6_isLine_320 ?_
                  refine z_lload hC 1 dX6_isLine_323 rfl ?_
                  refine z_lmul hC dX6_isLine_325 ?_
                  refine z_lload hC 0 dX6_isLine_326 rfl ?_
                  refine z_lc_le hC 336 dX6_isLine_328 dX6_isLine_329 (by decide) (by omega) (by omega) (fun c_328 => ?_) (fun c_328 => ?_)
                  ·
                    refine z_iconst hC dX6_isLine_336 ?_
                    refine z_put hC iX6_isLine_6 tyX6 tyX6_ok nmX6 0 17 rfl rfl (by decide) mX6_isLine_f84 rfl rfl rfl (Nat.le_of_ble_eq_true rfl) dX6_isLine_337 (ws' := [_, _, _, _, _, _, _, _, _, _, _, _, _, _, _, _, _, _, _]) rfl ?_
                    exact J340 _ _ (by first | (exfalso; omega) | (exact ⟨by unfold lUg; rw [hL, zUg_w (by omega) (by omega), ← hs.2 (by omega), hv.2.2]; omega, by unfold lCl; rw [hL, zCl_w (by omega) (by omega), ← hs.2 (by omega)]; unfold zWid; (repeat (first | rw [if_pos (by omega)] | rw [if_neg (by omega)]))⟩) | (exact ⟨by unfold lUg; rw [hL, zUg_z (by omega) (by omega)], by unfold lCl; rw [hL, zCl_z (by omega) (by omega)]⟩) | (exact ⟨by unfold lUg; rw [hL, zUg_n (by omega), ← hs.1 (by omega)]; unfold zBad; rw [if_neg (by omega)]; omega, by unfold lCl; rw [hL, zCl_n (by omega), ← hs.1 (by omega)]; (repeat (first | rw [if_pos (by omega)] | rw [if_neg (by omega)]))⟩))
                  ·
                    refine z_iconst hC dX6_isLine_332 ?_
                    refine z_goto (tgt := 337) hC dX6_isLine_333 (by decide) ?_
                    refine z_put hC iX6_isLine_6 tyX6 tyX6_ok nmX6 0 17 rfl rfl (by decide) mX6_isLine_f84 rfl rfl rfl (Nat.le_of_ble_eq_true rfl) dX6_isLine_337 (ws' := [_, _, _, _, _, _, _, _, _, _, _, _, _, _, _, _, _, _, _]) rfl ?_
                    exact J340 _ _ (by first | (exfalso; omega) | (exact ⟨by unfold lUg; rw [hL, zUg_w (by omega) (by omega), ← hs.2 (by omega), hv.2.2]; omega, by unfold lCl; rw [hL, zCl_w (by omega) (by omega), ← hs.2 (by omega)]; unfold zWid; (repeat (first | rw [if_pos (by omega)] | rw [if_neg (by omega)]))⟩) | (exact ⟨by unfold lUg; rw [hL, zUg_z (by omega) (by omega)], by unfold lCl; rw [hL, zCl_z (by omega) (by omega)]⟩) | (exact ⟨by unfold lUg; rw [hL, zUg_n (by omega), ← hs.1 (by omega)]; unfold zBad; rw [if_neg (by omega)]; omega, by unfold lCl; rw [hL, zCl_n (by omega), ← hs.1 (by omega)]; (repeat (first | rw [if_pos (by omega)] | rw [if_neg (by omega)]))⟩))
              ·
                have J231 : ∀ (v : Int), 0 ≤ v ∧ v ≤ 900000000000000000 ∧ zBad L s = min v 10000 → ZG X g (zD X A) 0 0 [(hM, eo 6 [.int (iZ (n)), .ref mK, .ref mW, .ref mT, .ref mS, .ref mV, .ref mM, .ref mX, .ref mY, .ref mI, .ref mJ, .ref mG, .ref mC, .ref mR, .ref mN, .int (iZ (L)), .int (iZ (0)), .int (iZ (1)), .long (lZ (dm)), .int (iZ (tt)), .ref mE, .ref mL, .ref mB, .ref mU, .long (lZ (sm)), .int (iZ (po))]), (mK, ei g 100 KR), (mW, ei g 100 WR), (mT, ei g 100 TR), (mS, ei g 100 SR), (mV, ei g 100 VR), (mM, ez g 100 MR), (mX, ei g 50 XR), (mY, ei g 3 YR), (mI, ei g 101 IR), (mJ, ei g 101 JR), (mG, ei g 101 GR), (mC, el g 20604 CR), (mR, ei g 20604 RR), (mN, ei g 20604 NR), (mE, ei g 50 ER), (mL, ei g 50 LR), (mB, ei g 50 BR), (mU, ei g 50 UR)] [(10, .long (lZ (s))), (8, .long (lZ (L))), (7, .int (iZ (((IR b) - (IR f)) + pw))), (6, .int (iZ (pn))), (5, .int (iZ (f))), (0, .ref hM), (1, .int (iZ (a))), (2, .int (iZ (b))), (3, .int (iZ (i))), (4, .int (iZ (ps)))] 231 [.long (lZ (v))] := by
                  intro v hv
                  refine z_lstore hC (lv' := [(12, _), (10, _), (8, _), (7, _), (6, _), (5, _), (0, _), (1, _), (2, _), (3, _), (4, _)]) dX6_isLine_231 (by decide) rfl ?_
                  refine z_aload_n hC 6 dX6_isLine_233 rfl rfl ?_
                  refine z_lload hC 0 dX6_isLine_234 rfl ?_
                  refine z_ldc2 hC (10000) mX6_isLine_k87 (by decide) dX6_isLine_236 ?_
                  refine z_lc_le hC 249 dX6_isLine_239 dX6_isLine_240 (by decide) (by omega) (by omega) (fun c_239 => ?_) (fun c_239 => ?_)
                  ·
                    refine z_lload hC 0 dX6_isLine_249 rfl ?_
                    refine z_l2i hC dX6_isLine_251 ?_
                    refine z_put hC iX6_isLine_6 tyX6 tyX6_ok nmX6 0 16 rfl rfl (by decide) mX6_isLine_f81 rfl rfl rfl (Nat.le_of_ble_eq_true rfl) dX6_isLine_252 (ws' := [_, _, _, _, _, _, _, _, _, _, _, _, _, _, _, _, _, _, _]) rfl ?_
                    refine z_aload_n hC 6 dX6_isLine_255 rfl rfl ?_
                    refine z_lload hC 2 dX6_isLine_256 rfl ?_
                    refine z_lload hC 1 dX6_isLine_258 rfl ?_
                    refine z_lc_le hC 268 dX6_isLine_260 dX6_isLine_261 (by decide) (by omega) (by omega) (fun c_260 => ?_) (fun c_260 => ?_)
                    ·
                      refine z_ldc2 hC (2) mX6_isLine_k95 (by decide) dX6_isLine_268 ?_
                      refine z_lload hC 2 dX6_isLine_271 rfl ?_
                      refine z_lmul hC dX6_isLine_273 ?_
                      refine z_lload hC 1 dX6_isLine_274 rfl ?_
                      refine z_lc_le hC 284 dX6_isLine_276 dX6_isLine_277 (by decide) (by omega) (by omega) (fun c_276 => ?_) (fun c_276 => ?_)
                      ·
                        refine z_iconst hC dX6_isLine_284 ?_
                        refine z_put hC iX6_isLine_6 tyX6 tyX6_ok nmX6 0 17 rfl rfl (by decide) mX6_isLine_f84 rfl rfl rfl (Nat.le_of_ble_eq_true rfl) dX6_isLine_285 (ws' := [_, _, _, _, _, _, _, _, _, _, _, _, _, _, _, _, _, _, _]) rfl ?_
                        refine z_goto (tgt := 340) hC dX6_isLine_288 (by decide) ?_
                        refine z_lv (lv' := [(10, _), (8, _), (7, _), (6, _), (5, _), (0, _), (1, _), (2, _), (3, _), (4, _)]) [1, 2, 3, 4, 5, 6, 7, 8, 9, 10] rfl ?_
                        exact J340 _ _ (by first | (exfalso; omega) | (exact ⟨by unfold lUg; rw [hL, zUg_w (by omega) (by omega), ← hs.2 (by omega), hv.2.2]; omega, by unfold lCl; rw [hL, zCl_w (by omega) (by omega), ← hs.2 (by omega)]; unfold zWid; (repeat (first | rw [if_pos (by omega)] | rw [if_neg (by omega)]))⟩) | (exact ⟨by unfold lUg; rw [hL, zUg_z (by omega) (by omega)], by unfold lCl; rw [hL, zCl_z (by omega) (by omega)]⟩) | (exact ⟨by unfold lUg; rw [hL, zUg_n (by omega), ← hs.1 (by omega)]; unfold zBad; rw [if_neg (by omega)]; omega, by unfold lCl; rw [hL, zCl_n (by omega), ← hs.1 (by omega)]; (repeat (first | rw [if_pos (by omega)] | rw [if_neg (by omega)]))⟩))
                      ·
                        refine z_iconst hC dX6_isLine_280 ?_
                        refine z_goto (tgt := 285) hC dX6_isLine_281 (by decide) ?_
                        refine z_put hC iX6_isLine_6 tyX6 tyX6_ok nmX6 0 17 rfl rfl (by decide) mX6_isLine_f84 rfl rfl rfl (Nat.le_of_ble_eq_true rfl) dX6_isLine_285 (ws' := [_, _, _, _, _, _, _, _, _, _, _, _, _, _, _, _, _, _, _]) rfl ?_
                        refine z_goto (tgt := 340) hC dX6_isLine_288 (by decide) ?_
                        refine z_lv (lv' := [(10, _), (8, _), (7, _), (6, _), (5, _), (0, _), (1, _), (2, _), (3, _), (4, _)]) [1, 2, 3, 4, 5, 6, 7, 8, 9, 10] rfl ?_
                        exact J340 _ _ (by first | (exfalso; omega) | (exact ⟨by unfold lUg; rw [hL, zUg_w (by omega) (by omega), ← hs.2 (by omega), hv.2.2]; omega, by unfold lCl; rw [hL, zCl_w (by omega) (by omega), ← hs.2 (by omega)]; unfold zWid; (repeat (first | rw [if_pos (by omega)] | rw [if_neg (by omega)]))⟩) | (exact ⟨by unfold lUg; rw [hL, zUg_z (by omega) (by omega)], by unfold lCl; rw [hL, zCl_z (by omega) (by omega)]⟩) | (exact ⟨by unfold lUg; rw [hL, zUg_n (by omega), ← hs.1 (by omega)]; unfold zBad; rw [if_neg (by omega)]; omega, by unfold lCl; rw [hL, zCl_n (by omega), ← hs.1 (by omega)]; (repeat (first | rw [if_pos (by omega)] | rw [if_neg (by omega)]))⟩))
                    ·
                      refine z_iconst hC dX6_isLine_264 ?_
                      refine z_goto (tgt := 285) hC dX6_isLine_265 (by decide) ?_
                      refine z_put hC iX6_isLine_6 tyX6 tyX6_ok nmX6 0 17 rfl rfl (by decide) mX6_isLine_f84 rfl rfl rfl (Nat.le_of_ble_eq_true rfl) dX6_isLine_285 (ws' := [_, _, _, _, _, _, _, _, _, _, _, _, _, _, _, _, _, _, _]) rfl ?_
                      refine z_goto (tgt := 340) hC dX6_isLine_288 (by decide) ?_
                      refine z_lv (lv' := [(10, _), (8, _), (7, _), (6, _), (5, _), (0, _), (1, _), (2, _), (3, _), (4, _)]) [1, 2, 3, 4, 5, 6, 7, 8, 9, 10] rfl ?_
                      exact J340 _ _ (by first | (exfalso; omega) | (exact ⟨by unfold lUg; rw [hL, zUg_w (by omega) (by omega), ← hs.2 (by omega), hv.2.2]; omega, by unfold lCl; rw [hL, zCl_w (by omega) (by omega), ← hs.2 (by omega)]; unfold zWid; (repeat (first | rw [if_pos (by omega)] | rw [if_neg (by omega)]))⟩) | (exact ⟨by unfold lUg; rw [hL, zUg_z (by omega) (by omega)], by unfold lCl; rw [hL, zCl_z (by omega) (by omega)]⟩) | (exact ⟨by unfold lUg; rw [hL, zUg_n (by omega), ← hs.1 (by omega)]; unfold zBad; rw [if_neg (by omega)]; omega, by unfold lCl; rw [hL, zCl_n (by omega), ← hs.1 (by omega)]; (repeat (first | rw [if_pos (by omega)] | rw [if_neg (by omega)]))⟩))
                  ·
                    refine z_sip hC dX6_isLine_243 (by decide) ?_
                    refine z_goto (tgt := 252) hC dX6_isLine_246 (by decide) ?_
                    refine z_put hC iX6_isLine_6 tyX6 tyX6_ok nmX6 0 16 rfl rfl (by decide) mX6_isLine_f81 rfl rfl rfl (Nat.le_of_ble_eq_true rfl) dX6_isLine_252 (ws' := [_, _, _, _, _, _, _, _, _, _, _, _, _, _, _, _, _, _, _]) rfl ?_
                    refine z_aload_n hC 6 dX6_isLine_255 rfl rfl ?_
                    refine z_lload hC 2 dX6_isLine_256 rfl ?_
                    refine z_lload hC 1 dX6_isLine_258 rfl ?_
                    refine z_lc_le hC 268 dX6_isLine_260 dX6_isLine_261 (by decide) (by omega) (by omega) (fun c_260 => ?_) (fun c_260 => ?_)
                    ·
                      refine z_ldc2 hC (2) mX6_isLine_k95 (by decide) dX6_isLine_268 ?_
                      refine z_lload hC 2 dX6_isLine_271 rfl ?_
                      refine z_lmul hC dX6_isLine_273 ?_
                      refine z_lload hC 1 dX6_isLine_274 rfl ?_
                      refine z_lc_le hC 284 dX6_isLine_276 dX6_isLine_277 (by decide) (by omega) (by omega) (fun c_276 => ?_) (fun c_276 => ?_)
                      ·
                        refine z_iconst hC dX6_isLine_284 ?_
                        refine z_put hC iX6_isLine_6 tyX6 tyX6_ok nmX6 0 17 rfl rfl (by decide) mX6_isLine_f84 rfl rfl rfl (Nat.le_of_ble_eq_true rfl) dX6_isLine_285 (ws' := [_, _, _, _, _, _, _, _, _, _, _, _, _, _, _, _, _, _, _]) rfl ?_
                        refine z_goto (tgt := 340) hC dX6_isLine_288 (by decide) ?_
                        refine z_lv (lv' := [(10, _), (8, _), (7, _), (6, _), (5, _), (0, _), (1, _), (2, _), (3, _), (4, _)]) [1, 2, 3, 4, 5, 6, 7, 8, 9, 10] rfl ?_
                        exact J340 _ _ (by first | (exfalso; omega) | (exact ⟨by unfold lUg; rw [hL, zUg_w (by omega) (by omega), ← hs.2 (by omega), hv.2.2]; omega, by unfold lCl; rw [hL, zCl_w (by omega) (by omega), ← hs.2 (by omega)]; unfold zWid; (repeat (first | rw [if_pos (by omega)] | rw [if_neg (by omega)]))⟩) | (exact ⟨by unfold lUg; rw [hL, zUg_z (by omega) (by omega)], by unfold lCl; rw [hL, zCl_z (by omega) (by omega)]⟩) | (exact ⟨by unfold lUg; rw [hL, zUg_n (by omega), ← hs.1 (by omega)]; unfold zBad; rw [if_neg (by omega)]; omega, by unfold lCl; rw [hL, zCl_n (by omega), ← hs.1 (by omega)]; (repeat (first | rw [if_pos (by omega)] | rw [if_neg (by omega)]))⟩))
                      ·
                        refine z_iconst hC dX6_isLine_280 ?_
                        refine z_goto (tgt := 285) hC dX6_isLine_281 (by decide) ?_
                        refine z_put hC iX6_isLine_6 tyX6 tyX6_ok nmX6 0 17 rfl rfl (by decide) mX6_isLine_f84 rfl rfl rfl (Nat.le_of_ble_eq_true rfl) dX6_isLine_285 (ws' := [_, _, _, _, _, _, _, _, _, _, _, _, _, _, _, _, _, _, _]) rfl ?_
                        refine z_goto (tgt := 340) hC dX6_isLine_288 (by decide) ?_
                        refine z_lv (lv' := [(10, _), (8, _), (7, _), (6, _), (5, _), (0, _), (1, _), (2, _), (3, _), (4, _)]) [1, 2, 3, 4, 5, 6, 7, 8, 9, 10] rfl ?_
                        exact J340 _ _ (by first | (exfalso; omega) | (exact ⟨by unfold lUg; rw [hL, zUg_w (by omega) (by omega), ← hs.2 (by omega), hv.2.2]; omega, by unfold lCl; rw [hL, zCl_w (by omega) (by omega), ← hs.2 (by omega)]; unfold zWid; (repeat (first | rw [if_pos (by omega)] | rw [if_neg (by omega)]))⟩) | (exact ⟨by unfold lUg; rw [hL, zUg_z (by omega) (by omega)], by unfold lCl; rw [hL, zCl_z (by omega) (by omega)]⟩) | (exact ⟨by unfold lUg; rw [hL, zUg_n (by omega), ← hs.1 (by omega)]; unfold zBad; rw [if_neg (by omega)]; omega, by unfold lCl; rw [hL, zCl_n (by omega), ← hs.1 (by omega)]; (repeat (first | rw [if_pos (by omega)] | rw [if_neg (by omega)]))⟩))
                    ·
                      refine z_iconst hC dX6_isLine_264 ?_
                      refine z_goto (tgt := 285) hC dX6_isLine_265 (by decide) ?_
                      refine z_put hC iX6_isLine_6 tyX6 tyX6_ok nmX6 0 17 rfl rfl (by decide) mX6_isLine_f84 rfl rfl rfl (Nat.le_of_ble_eq_true rfl) dX6_isLine_285 (ws' := [_, _, _, _, _, _, _, _, _, _, _, _, _, _, _, _, _, _, _]) rfl ?_
                      refine z_goto (tgt := 340) hC dX6_isLine_288 (by decide) ?_
                      refine z_lv (lv' := [(10, _), (8, _), (7, _), (6, _), (5, _), (0, _), (1, _), (2, _), (3, _), (4, _)]) [1, 2, 3, 4, 5, 6, 7, 8, 9, 10] rfl ?_
                      exact J340 _ _ (by first | (exfalso; omega) | (exact ⟨by unfold lUg; rw [hL, zUg_w (by omega) (by omega), ← hs.2 (by omega), hv.2.2]; omega, by unfold lCl; rw [hL, zCl_w (by omega) (by omega), ← hs.2 (by omega)]; unfold zWid; (repeat (first | rw [if_pos (by omega)] | rw [if_neg (by omega)]))⟩) | (exact ⟨by unfold lUg; rw [hL, zUg_z (by omega) (by omega)], by unfold lCl; rw [hL, zCl_z (by omega) (by omega)]⟩) | (exact ⟨by unfold lUg; rw [hL, zUg_n (by omega), ← hs.1 (by omega)]; unfold zBad; rw [if_neg (by omega)]; omega, by unfold lCl; rw [hL, zCl_n (by omega), ← hs.1 (by omega)]; (repeat (first | rw [if_pos (by omega)] | rw [if_neg (by omega)]))⟩))
                refine z_lload hC 0 dX6_isLine_203 rfl ?_
                refine z_lconst (z := 0) hC dX6_isLine_205 (by decide) ?_
                refine z_lc_ne hC 216 dX6_isLine_206 dX6_isLine_207 (by decide) (by omega) (by omega) (fun c_206 => ?_) (fun c_206 => ?_)
                ·
                  have q1 := cube_in (x := L) (b := 20000) (by omega) (by omega)
                  have q2 := cube_in (x := s) (b := 1010000) (by omega) (by omega)
                  have q3 := cube_pos (x := s) (by omega)
                  have q4 := zq_in (a := 100 * (L * L * L)) (b := s * s * s) (by omega) (by omega)
                  refine z_ldc2 hC (100) mX6_isLine_k89 (by decide) dX6_isLine_216 ?_
                  refine z_lload hC 1 dX6_isLine_219 rfl ?_
                  refine z_sRl hC 1 (c_X6_cube (xl X) g _) gX6_isLine_X6_cube rfl hd_X6_cube_s (by decide) ⟨rfl, rfl⟩ [] (by decide) rfl rfl rfl (Nat.le_of_ble_eq_true rfl) dX6_isLine_221 (by decide) ?_
                  refine z_lmul hC dX6_isLine_224 ?_
                  refine z_lload hC 0 dX6_isLine_225 rfl ?_
                  refine z_sRl hC 1 (c_X6_cube (xl X) g _) gX6_isLine_X6_cube rfl hd_X6_cube_s (by decide) ⟨rfl, rfl⟩ [] (by decide) rfl rfl rfl (Nat.le_of_ble_eq_true rfl) dX6_isLine_227 (by decide) ?_
                  refine z_ldiv hC dX6_isLine_230 (by omega) (by omega) ?_
                  exact J231 _ ⟨by omega, by omega, by unfold zBad; first | (rw [if_pos (by omega)]; omega) | (rw [if_neg (by omega)])⟩
                ·
                  refine z_ldc2 hC (10000) mX6_isLine_k87 (by decide) dX6_isLine_210 ?_
                  refine z_goto (tgt := 231) hC dX6_isLine_213 (by decide) ?_
                  exact J231 _ ⟨by omega, by omega, by unfold zBad; first | (rw [if_pos (by omega)]; omega) | (rw [if_neg (by omega)])⟩
          ·
            refine z_iconst hC dX6_isLine_176 ?_
            exact hR (L, bd, so, dm, 0) _ _ _ [0, 1, 2, 3, 4, 5, 6, 7, 8, 9, 10, 11, 12, 13, 14, 15, 16, 17, 18] _ ⟨hL.symm, fun q => absurd q.1 (by unfold zOk; rw [hL]; intro z; have z2 : L < 0 := (by omega); have := hs.1 z2; exact z ⟨z2, by omega⟩), fun _ => rfl⟩ rfl (by decide) rfl dX6_isLine_177
        refine z_lload hC 0 dX6_isLine_108 rfl ?_
        refine z_lconst (z := 0) hC dX6_isLine_110 (by decide) ?_
        refine z_lc_ge hC 133 dX6_isLine_111 dX6_isLine_112 (by decide) (by omega) (by omega) (fun c_111 => ?_) (fun c_111 => ?_)
        ·
          refine z_aload_n hC 4 dX6_isLine_133 rfl rfl ?_
          refine z_get hC iX6_isLine_6 0 10 rfl rfl (by decide) mX6_isLine_f38 rfl dX6_isLine_134 ?_
          refine z_iload_n hC 6 dX6_isLine_137 rfl rfl ?_
          refine z_iald hC 10 rfl (by omega) (by decide) dX6_isLine_138 ?_
          refine z_aload_n hC 4 dX6_isLine_139 rfl rfl ?_
          refine z_get hC iX6_isLine_6 0 10 rfl rfl (by decide) mX6_isLine_f38 rfl dX6_isLine_140 ?_
          refine z_iload hC 3 dX6_isLine_143 rfl ?_
          refine z_iald hC 10 rfl (by omega) (by decide) dX6_isLine_145 ?_
          refine z_isub hC dX6_isLine_146 ?_
          refine z_iload hC 8 dX6_isLine_147 rfl ?_
          refine z_iconst hC dX6_isLine_149 ?_
          refine z_icmp_ne hC 162 dX6_isLine_150 (by decide) (by omega) (by omega) (fun c_150 => ?_) (fun c_150 => ?_)
          ·
            refine z_iconst hC dX6_isLine_162 ?_
            refine z_iadd hC dX6_isLine_163 ?_
            refine z_i2l hC dX6_isLine_164 (by omega) ?_
            exact J165 _ ⟨fun q => by first | (exfalso; omega) | (unfold lSh; rw [← hf]; omega), fun q => by first | (exfalso; omega) | (unfold lSt; rw [← hf, if_pos (by omega)]; omega) | (unfold lSt; rw [← hf, if_neg (by omega)]; omega)⟩
          ·
            refine z_aload_n hC 4 dX6_isLine_153 rfl rfl ?_
            refine z_get hC iX6_isLine_6 0 8 rfl rfl (by decide) mX6_isLine_f32 rfl dX6_isLine_154 ?_
            refine z_iconst hC dX6_isLine_157 ?_
            refine z_iald hC 8 rfl (by omega) (by decide) dX6_isLine_158 ?_
            refine z_goto (tgt := 163) hC dX6_isLine_159 (by decide) ?_
            refine z_iadd hC dX6_isLine_163 ?_
            refine z_i2l hC dX6_isLine_164 (by omega) ?_
            exact J165 _ ⟨fun q => by first | (exfalso; omega) | (unfold lSh; rw [← hf]; omega), fun q => by first | (exfalso; omega) | (unfold lSt; rw [← hf, if_pos (by omega)]; omega) | (unfold lSt; rw [← hf, if_neg (by omega)]; omega)⟩
        ·
          refine z_aload_n hC 4 dX6_isLine_115 rfl rfl ?_
          refine z_get hC iX6_isLine_6 0 11 rfl rfl (by decide) mX6_isLine_f41 rfl dX6_isLine_116 ?_
          refine z_iload_n hC 6 dX6_isLine_119 rfl rfl ?_
          refine z_iald hC 11 rfl (by omega) (by decide) dX6_isLine_120 ?_
          refine z_aload_n hC 4 dX6_isLine_121 rfl rfl ?_
          refine z_get hC iX6_isLine_6 0 11 rfl rfl (by decide) mX6_isLine_f41 rfl dX6_isLine_122 ?_
          refine z_iload hC 3 dX6_isLine_125 rfl ?_
          refine z_iald hC 11 rfl (by omega) (by decide) dX6_isLine_127 ?_
          refine z_isub hC dX6_isLine_128 ?_
          refine z_i2l hC dX6_isLine_129 (by omega) ?_
          refine z_goto (tgt := 165) hC dX6_isLine_130 (by decide) ?_
          exact J165 _ ⟨fun q => by first | (exfalso; omega) | (unfold lSh; rw [← hf]; omega), fun q => by first | (exfalso; omega) | (unfold lSt; rw [← hf, if_pos (by omega)]; omega) | (unfold lSt; rw [← hf, if_neg (by omega)]; omega)⟩
      refine z_iload hC 0 dX6_isLine_70 rfl ?_
      refine z_if_eq hC 84 dX6_isLine_72 (by decide) (by omega) (fun c_72 => ?_) (fun c_72 => ?_)
      ·
        refine z_iconst hC dX6_isLine_84 ?_
        exact J85 _ (by first | (rw [if_pos (by omega)]; exact (sb.2 (by omega)).2.1) | (rw [if_neg (by omega)]))
      ·
        have sb := h2 b (by omega) (by omega)
        refine z_aload_n hC 2 dX6_isLine_75 rfl rfl ?_
        refine z_get hC iX6_isLine_6 0 2 rfl rfl (by decide) mX6_isLine_f13 rfl dX6_isLine_76 ?_
        refine z_iload_n hC 4 dX6_isLine_79 rfl rfl ?_
        refine z_iald hC 2 rfl (by omega) (by decide) dX6_isLine_80 ?_
        refine z_goto (tgt := 85) hC dX6_isLine_81 (by decide) ?_
        exact J85 _ (by first | (rw [if_pos (by omega)]; exact (sb.2 (by omega)).2.1) | (rw [if_neg (by omega)]))
    refine z_iload_n hC 3 dX6_isLine_31 rfl rfl ?_
    refine z_aload_n hC 1 dX6_isLine_32 rfl rfl ?_
    refine z_get hC iX6_isLine_6 0 0 rfl rfl (by decide) mX6_isLine_f66 rfl dX6_isLine_33 ?_
    refine z_icmp_ge hC 53 dX6_isLine_36 (by decide) (by omega) (by omega) (fun c_36 => ?_) (fun c_36 => ?_)
    ·
      refine z_iconst hC dX6_isLine_53 ?_
      exact J54 _ (by omega)
    ·
      have sb := h2 b (by omega) (by omega)
      have kb := hI1.2.1 b (by omega) (by omega)
      refine z_aload_n hC 1 dX6_isLine_39 rfl rfl ?_
      refine z_get hC iX6_isLine_6 0 1 rfl rfl (by decide) mX6_isLine_f7 rfl dX6_isLine_40 ?_
      refine z_iload_n hC 3 dX6_isLine_43 rfl rfl ?_
      refine z_iald hC 1 rfl (by omega) (by decide) dX6_isLine_44 ?_
      refine z_iconst hC dX6_isLine_45 ?_
      refine z_icmp_ne hC 53 dX6_isLine_46 (by decide) (by omega) (by omega) (fun c_46 => ?_) (fun c_46 => ?_)
      ·
        refine z_iconst hC dX6_isLine_53 ?_
        exact J54 _ (by omega)
      ·
        refine z_iconst hC dX6_isLine_49 ?_
        refine z_goto (tgt := 54) hC dX6_isLine_50 (by decide) ?_
        exact J54 _ (by omega)
  refine z_iload_n hC 1 dX6_isLine_0 rfl rfl ?_
  refine z_iconst hC dX6_isLine_1 ?_
  refine z_iadd hC dX6_isLine_2 ?_
  refine z_istore hC (lv' := [(5, _), (0, _), (1, _), (2, _), (3, _), (4, _)]) dX6_isLine_3 (by decide) rfl ?_
  have L5 : ∀ (fu : Nat) (j : Int), (a + 1 ≤ j ∧ j ≤ b) → (0 ≤ a → nb K b j = nb K b (a + 1)) → (a < 0 → j = a + 1) → (b - j).toNat < fu → ZG X g (zD X A) 0 0 [(hM, eo 6 [.int (iZ (n)), .ref mK, .ref mW, .ref mT, .ref mS, .ref mV, .ref mM, .ref mX, .ref mY, .ref mI, .ref mJ, .ref mG, .ref mC, .ref mR, .ref mN, .int (iZ (lk)), .int (iZ (bd)), .int (iZ (so)), .long (lZ (dm)), .int (iZ (tt)), .ref mE, .ref mL, .ref mB, .ref mU, .long (lZ (sm)), .int (iZ (po))]), (mK, ei g 100 KR), (mW, ei g 100 WR), (mT, ei g 100 TR), (mS, ei g 100 SR), (mV, ei g 100 VR), (mM, ez g 100 MR), (mX, ei g 50 XR), (mY, ei g 3 YR), (mI, ei g 101 IR), (mJ, ei g 101 JR), (mG, ei g 101 GR), (mC, el g 20604 CR), (mR, ei g 20604 RR), (mN, ei g 20604 NR), (mE, ei g 50 ER), (mL, ei g 50 LR), (mB, ei g 50 BR), (mU, ei g 50 UR)] [(5, .int (iZ (j))), (0, .ref hM), (1, .int (iZ (a))), (2, .int (iZ (b))), (3, .int (iZ (i))), (4, .int (iZ (ps)))] 5 [] := by
    intro fu
    induction fu with
    | zero => intro j; intros; omega
    | succ fu ih_5 =>
      intro j hj hj2 hj3 hn
      refine z_iload_n hC 2 dX6_isLine_5 rfl rfl ?_
      refine z_if_lt hC 31 dX6_isLine_6 (by decide) (by omega) (fun c_6 => ?_) (fun c_6 => ?_)
      ·
        exact J31 _ (by first | (rw [hj3 (by omega)]; unfold zSt; rw [if_pos (by omega)]; omega) | (rw [← zSt_b (by omega) (by omega), ← hj2 (by omega)]; first | exact (nb_end (by omega)).symm | exact (nb_box (by omega)).symm))
      ·
        refine z_iload hC 0 dX6_isLine_9 rfl ?_
        refine z_iload_n hC 3 dX6_isLine_11 rfl rfl ?_
        refine z_icmp_ge hC 31 dX6_isLine_12 (by decide) (by omega) (by omega) (fun c_12 => ?_) (fun c_12 => ?_)
        ·
          exact J31 _ (by first | (rw [hj3 (by omega)]; unfold zSt; rw [if_pos (by omega)]; omega) | (rw [← zSt_b (by omega) (by omega), ← hj2 (by omega)]; first | exact (nb_end (by omega)).symm | exact (nb_box (by omega)).symm))
        ·
          have sj := h2 j (by omega) (by omega)
          have kj := hI1.2.1 j (by omega) (by omega)
          refine z_aload_n hC 1 dX6_isLine_15 rfl rfl ?_
          refine z_get hC iX6_isLine_6 0 1 rfl rfl (by decide) mX6_isLine_f7 rfl dX6_isLine_16 ?_
          refine z_iload hC 0 dX6_isLine_19 rfl ?_
          refine z_iald hC 1 rfl (by omega) (by decide) dX6_isLine_21 ?_
          refine z_if_eq hC 31 dX6_isLine_22 (by decide) (by omega) (fun c_22 => ?_) (fun c_22 => ?_)
          ·
            exact J31 _ (by first | (rw [hj3 (by omega)]; unfold zSt; rw [if_pos (by omega)]; omega) | (rw [← zSt_b (by omega) (by omega), ← hj2 (by omega)]; first | exact (nb_end (by omega)).symm | exact (nb_box (by omega)).symm))
          ·
            refine z_iinc hC (lv' := [(5, _), (0, _), (1, _), (2, _), (3, _), (4, _)]) 0 dX6_isLine_25 rfl (by decide) rfl ?_
            refine z_goto (tgt := 5) hC dX6_isLine_28 (by decide) ?_
            exact ih_5 (j + 1) (by omega) (fun q => by rw [← nb_go (by omega) (by omega)]; exact hj2 q) (fun q => by omega) (by omega)
  exact L5 _ (a + 1) (by omega) (fun _ => rfl) (fun _ => rfl) (Nat.lt_succ_self _)
set_option maxRecDepth 20000 in
theorem mX6_keep_f48 : Cond.fieldLink RX6 48 "BreakSearchModel" "rest" "[I" ∈ wsX6_keep := by decide +kernel
set_option maxRecDepth 20000 in
theorem iX6_keep_6 : ∀ w ∈ u_ws RX6 TX6 26, w ∈ wsX6_keep := by decide +kernel
set_option maxRecDepth 20000 in
theorem mX6_keep_f44 : Cond.fieldLink RX6 44 "BreakSearchModel" "costs" "[J" ∈ wsX6_keep := by decide +kernel
set_option maxRecDepth 20000 in
theorem mX6_keep_f51 : Cond.fieldLink RX6 51 "BreakSearchModel" "nexts" "[I" ∈ wsX6_keep := by decide +kernel
abbrev rm_X6_keep : Room := { frames := 1, cells := 0, slots := 0, locals := 12 }
set_option maxHeartbeats 4000000 in
set_option maxRecDepth 100000 in
theorem c_X6_keep (l : Launch) (g : zG) (hM mK mW mT mS mV mM mX mY mI mJ mG mC mR mN mE mL mB mU : Nat) (n lk bd so dm tt sm po : Int) (KR WR TR SR VR MR XR YR IR JR GR CR RR NR ER LR BR UR : Int → Int) (e cs ls b : Int) (h1 : 0 ≤ e ∧ e < 20604) (h2 : -1000000000000 ≤ cs ∧ cs ≤ 1000000000000) (h3 : 0 ≤ ls ∧ ls ≤ 100) (h4 : 0 ≤ RR e ∧ RR e ≤ 100) (h5 : ¬ RR e = 0 → -1000000000000 ≤ CR e ∧ CR e ≤ 1000000000000) : zMWv (S := (Int → Int) × (Int → Int) × (Int → Int)) l yX6_keep wsX6_keep rm_X6_keep g [(hM, eo 6 [.int (iZ (n)), .ref mK, .ref mW, .ref mT, .ref mS, .ref mV, .ref mM, .ref mX, .ref mY, .ref mI, .ref mJ, .ref mG, .ref mC, .ref mR, .ref mN, .int (iZ (lk)), .int (iZ (bd)), .int (iZ (so)), .long (lZ (dm)), .int (iZ (tt)), .ref mE, .ref mL, .ref mB, .ref mU, .long (lZ (sm)), .int (iZ (po))]), (mK, ei g 100 KR), (mW, ei g 100 WR), (mT, ei g 100 TR), (mS, ei g 100 SR), (mV, ei g 100 VR), (mM, ez g 100 MR), (mX, ei g 50 XR), (mY, ei g 3 YR), (mI, ei g 101 IR), (mJ, ei g 101 JR), (mG, ei g 101 GR), (mC, el g 20604 CR), (mR, ei g 20604 RR), (mN, ei g 20604 NR), (mE, ei g 50 ER), (mL, ei g 50 LR), (mB, ei g 50 BR), (mU, ei g 50 UR)] [.ref hM, .int (iZ (e)), .long (lZ (cs)), .int (iZ (ls)), .int (iZ (b))] (fun u => ((RR e = 0 ∨ cs < CR e ∨ (cs = CR e ∧ ls < RR e)) ∧ u = (uZ CR e cs, uZ RR e ls, uZ NR e b)) ∨ ((¬ (RR e = 0 ∨ cs < CR e ∨ (cs = CR e ∧ ls < RR e))) ∧ u = (CR, RR, NR))) (fun u => [(hM, eo 6 [.int (iZ (n)), .ref mK, .ref mW, .ref mT, .ref mS, .ref mV, .ref mM, .ref mX, .ref mY, .ref mI, .ref mJ, .ref mG, .ref mC, .ref mR, .ref mN, .int (iZ (lk)), .int (iZ (bd)), .int (iZ (so)), .long (lZ (dm)), .int (iZ (tt)), .ref mE, .ref mL, .ref mB, .ref mU, .long (lZ (sm)), .int (iZ (po))]), (mK, ei g 100 KR), (mW, ei g 100 WR), (mT, ei g 100 TR), (mS, ei g 100 SR), (mV, ei g 100 VR), (mM, ez g 100 MR), (mX, ei g 50 XR), (mY, ei g 3 YR), (mI, ei g 101 IR), (mJ, ei g 101 JR), (mG, ei g 101 GR), (mC, el g 20604 u.1), (mR, ei g 20604 u.2.1), (mN, ei g 20604 u.2.2), (mE, ei g 50 ER), (mL, ei g 50 LR), (mB, ei g 50 BR), (mU, ei g 50 UR)]) 0 0 := by
  refine z_beWv (cc := cX6_keep) (nL := 7) (plainFor_of_name (by decide +kernel)) rfl (Nat.le_of_ble_eq_true rfl) ?_
  intro X A hC hN hR
  have hC : zC X g cX6_keep RX6 wsX6_keep rm_X6_keep 7 := hC
  show ZG X g (zD X A) 0 0 [(hM, eo 6 [.int (iZ (n)), .ref mK, .ref mW, .ref mT, .ref mS, .ref mV, .ref mM, .ref mX, .ref mY, .ref mI, .ref mJ, .ref mG, .ref mC, .ref mR, .ref mN, .int (iZ (lk)), .int (iZ (bd)), .int (iZ (so)), .long (lZ (dm)), .int (iZ (tt)), .ref mE, .ref mL, .ref mB, .ref mU, .long (lZ (sm)), .int (iZ (po))]), (mK, ei g 100 KR), (mW, ei g 100 WR), (mT, ei g 100 TR), (mS, ei g 100 SR), (mV, ei g 100 VR), (mM, ez g 100 MR), (mX, ei g 50 XR), (mY, ei g 3 YR), (mI, ei g 101 IR), (mJ, ei g 101 JR), (mG, ei g 101 GR), (mC, el g 20604 CR), (mR, ei g 20604 RR), (mN, ei g 20604 NR), (mE, ei g 50 ER), (mL, ei g 50 LR), (mB, ei g 50 BR), (mU, ei g 50 UR)] [(0, .ref hM), (1, .int (iZ (e))), (2, .long (lZ (cs))), (4, .int (iZ (ls))), (5, .int (iZ (b)))] 0 []
  refine z_aload_n hC 0 dX6_keep_0 rfl rfl ?_
  refine z_get hC iX6_keep_6 0 13 rfl rfl (by decide) mX6_keep_f48 rfl dX6_keep_1 ?_
  refine z_iload_n hC 1 dX6_keep_4 rfl rfl ?_
  refine z_iald hC 13 rfl (by omega) (by decide) dX6_keep_5 ?_
  refine z_if_eq hC 42 dX6_keep_6 (by decide) (by omega) (fun c_6 => ?_) (fun c_6 => ?_)
  ·
    refine z_iconst hC dX6_keep_42 ?_
    refine z_goto (tgt := 47) hC dX6_keep_43 (by decide) ?_
    refine z_istore hC (lv' := [(6, _), (0, _), (1, _), (2, _), (4, _), (5, _)]) dX6_keep_47 (by decide) rfl ?_
    refine z_iload hC 0 dX6_keep_49 rfl ?_
    refine z_if_eq hC 77 dX6_keep_51 (by decide) (by omega) (fun c_51 => ?_) (fun c_51 => ?_)
    ·
      exfalso; omega
    ·
      refine z_aload_n hC 1 dX6_keep_54 rfl rfl ?_
      refine z_get hC iX6_keep_6 0 12 rfl rfl (by decide) mX6_keep_f44 rfl dX6_keep_55 ?_
      refine z_iload_n hC 2 dX6_keep_58 rfl rfl ?_
      refine z_lload_n hC 3 dX6_keep_59 rfl rfl ?_
      refine z_last hC 12 rfl (by omega) (by decide) dX6_keep_60 (ws' := [_, _, _, _, _, _, _, _, _, _, _, _, _, _, _, _, _, _, _]) rfl ?_
      refine z_aload_n hC 1 dX6_keep_61 rfl rfl ?_
      refine z_get hC iX6_keep_6 0 13 rfl rfl (by decide) mX6_keep_f48 rfl dX6_keep_62 ?_
      refine z_iload_n hC 2 dX6_keep_65 rfl rfl ?_
      refine z_iload hC 4 dX6_keep_66 rfl ?_
      refine z_iast hC 13 rfl (by omega) (by decide) dX6_keep_68 (ws' := [_, _, _, _, _, _, _, _, _, _, _, _, _, _, _, _, _, _, _]) rfl ?_
      refine z_aload_n hC 1 dX6_keep_69 rfl rfl ?_
      refine z_get hC iX6_keep_6 0 14 rfl rfl (by decide) mX6_keep_f51 rfl dX6_keep_70 ?_
      refine z_iload_n hC 2 dX6_keep_73 rfl rfl ?_
      refine z_iload hC 5 dX6_keep_74 rfl ?_
      refine z_iast hC 14 rfl (by omega) (by decide) dX6_keep_76 (ws' := [_, _, _, _, _, _, _, _, _, _, _, _, _, _, _, _, _, _, _]) rfl ?_
      exact hR (uZ CR e cs, uZ RR e ls, uZ NR e b) _ _ _ [0, 1, 2, 3, 4, 5, 6, 7, 8, 9, 10, 11, 12, 13, 14, 15, 16, 17, 18] (by first | exact Or.inl ⟨by omega, rfl⟩ | exact Or.inr ⟨by omega, rfl⟩) (by decide) rfl dX6_keep_77
  ·
    have h5e := h5 (by omega)
    refine z_lload_n hC 2 dX6_keep_9 rfl rfl ?_
    refine z_aload_n hC 0 dX6_keep_10 rfl rfl ?_
    refine z_get hC iX6_keep_6 0 12 rfl rfl (by decide) mX6_keep_f44 rfl dX6_keep_11 ?_
    refine z_iload_n hC 1 dX6_keep_14 rfl rfl ?_
    refine z_lald hC 12 rfl (by omega) (by decide) dX6_keep_15 ?_
    refine z_lc_lt hC 42 dX6_keep_16 dX6_keep_17 (by decide) (by omega) (by omega) (fun c_16 => ?_) (fun c_16 => ?_)
    ·
      refine z_iconst hC dX6_keep_42 ?_
      refine z_goto (tgt := 47) hC dX6_keep_43 (by decide) ?_
      refine z_istore hC (lv' := [(6, _), (0, _), (1, _), (2, _), (4, _), (5, _)]) dX6_keep_47 (by decide) rfl ?_
      refine z_iload hC 0 dX6_keep_49 rfl ?_
      refine z_if_eq hC 77 dX6_keep_51 (by decide) (by omega) (fun c_51 => ?_) (fun c_51 => ?_)
      ·
        exfalso; omega
      ·
        refine z_aload_n hC 1 dX6_keep_54 rfl rfl ?_
        refine z_get hC iX6_keep_6 0 12 rfl rfl (by decide) mX6_keep_f44 rfl dX6_keep_55 ?_
        refine z_iload_n hC 2 dX6_keep_58 rfl rfl ?_
        refine z_lload_n hC 3 dX6_keep_59 rfl rfl ?_
        refine z_last hC 12 rfl (by omega) (by decide) dX6_keep_60 (ws' := [_, _, _, _, _, _, _, _, _, _, _, _, _, _, _, _, _, _, _]) rfl ?_
        refine z_aload_n hC 1 dX6_keep_61 rfl rfl ?_
        refine z_get hC iX6_keep_6 0 13 rfl rfl (by decide) mX6_keep_f48 rfl dX6_keep_62 ?_
        refine z_iload_n hC 2 dX6_keep_65 rfl rfl ?_
        refine z_iload hC 4 dX6_keep_66 rfl ?_
        refine z_iast hC 13 rfl (by omega) (by decide) dX6_keep_68 (ws' := [_, _, _, _, _, _, _, _, _, _, _, _, _, _, _, _, _, _, _]) rfl ?_
        refine z_aload_n hC 1 dX6_keep_69 rfl rfl ?_
        refine z_get hC iX6_keep_6 0 14 rfl rfl (by decide) mX6_keep_f51 rfl dX6_keep_70 ?_
        refine z_iload_n hC 2 dX6_keep_73 rfl rfl ?_
        refine z_iload hC 5 dX6_keep_74 rfl ?_
        refine z_iast hC 14 rfl (by omega) (by decide) dX6_keep_76 (ws' := [_, _, _, _, _, _, _, _, _, _, _, _, _, _, _, _, _, _, _]) rfl ?_
        exact hR (uZ CR e cs, uZ RR e ls, uZ NR e b) _ _ _ [0, 1, 2, 3, 4, 5, 6, 7, 8, 9, 10, 11, 12, 13, 14, 15, 16, 17, 18] (by first | exact Or.inl ⟨by omega, rfl⟩ | exact Or.inr ⟨by omega, rfl⟩) (by decide) rfl dX6_keep_77
    ·
      refine z_lload_n hC 2 dX6_keep_20 rfl rfl ?_
      refine z_aload_n hC 0 dX6_keep_21 rfl rfl ?_
      refine z_get hC iX6_keep_6 0 12 rfl rfl (by decide) mX6_keep_f44 rfl dX6_keep_22 ?_
      refine z_iload_n hC 1 dX6_keep_25 rfl rfl ?_
      refine z_lald hC 12 rfl (by omega) (by decide) dX6_keep_26 ?_
      refine z_lc_ne hC 46 dX6_keep_27 dX6_keep_28 (by decide) (by omega) (by omega) (fun c_27 => ?_) (fun c_27 => ?_)
      ·
        refine z_iconst hC dX6_keep_46 ?_
        refine z_istore hC (lv' := [(6, _), (0, _), (1, _), (2, _), (4, _), (5, _)]) dX6_keep_47 (by decide) rfl ?_
        refine z_iload hC 0 dX6_keep_49 rfl ?_
        refine z_if_eq hC 77 dX6_keep_51 (by decide) (by omega) (fun c_51 => ?_) (fun c_51 => ?_)
        ·
          exact hR (CR, RR, NR) _ _ _ [0, 1, 2, 3, 4, 5, 6, 7, 8, 9, 10, 11, 12, 13, 14, 15, 16, 17, 18] (by first | exact Or.inl ⟨by omega, rfl⟩ | exact Or.inr ⟨by omega, rfl⟩) (by decide) rfl dX6_keep_77
        ·
          exfalso; omega
      ·
        refine z_iload hC 3 dX6_keep_31 rfl ?_
        refine z_aload_n hC 0 dX6_keep_33 rfl rfl ?_
        refine z_get hC iX6_keep_6 0 13 rfl rfl (by decide) mX6_keep_f48 rfl dX6_keep_34 ?_
        refine z_iload_n hC 1 dX6_keep_37 rfl rfl ?_
        refine z_iald hC 13 rfl (by omega) (by decide) dX6_keep_38 ?_
        refine z_icmp_ge hC 46 dX6_keep_39 (by decide) (by omega) (by omega) (fun c_39 => ?_) (fun c_39 => ?_)
        ·
          refine z_iconst hC dX6_keep_46 ?_
          refine z_istore hC (lv' := [(6, _), (0, _), (1, _), (2, _), (4, _), (5, _)]) dX6_keep_47 (by decide) rfl ?_
          refine z_iload hC 0 dX6_keep_49 rfl ?_
          refine z_if_eq hC 77 dX6_keep_51 (by decide) (by omega) (fun c_51 => ?_) (fun c_51 => ?_)
          ·
            exact hR (CR, RR, NR) _ _ _ [0, 1, 2, 3, 4, 5, 6, 7, 8, 9, 10, 11, 12, 13, 14, 15, 16, 17, 18] (by first | exact Or.inl ⟨by omega, rfl⟩ | exact Or.inr ⟨by omega, rfl⟩) (by decide) rfl dX6_keep_77
          ·
            exfalso; omega
        ·
          refine z_iconst hC dX6_keep_42 ?_
          refine z_goto (tgt := 47) hC dX6_keep_43 (by decide) ?_
          refine z_istore hC (lv' := [(6, _), (0, _), (1, _), (2, _), (4, _), (5, _)]) dX6_keep_47 (by decide) rfl ?_
          refine z_iload hC 0 dX6_keep_49 rfl ?_
          refine z_if_eq hC 77 dX6_keep_51 (by decide) (by omega) (fun c_51 => ?_) (fun c_51 => ?_)
          ·
            exfalso; omega
          ·
            refine z_aload_n hC 1 dX6_keep_54 rfl rfl ?_
            refine z_get hC iX6_keep_6 0 12 rfl rfl (by decide) mX6_keep_f44 rfl dX6_keep_55 ?_
            refine z_iload_n hC 2 dX6_keep_58 rfl rfl ?_
            refine z_lload_n hC 3 dX6_keep_59 rfl rfl ?_
            refine z_last hC 12 rfl (by omega) (by decide) dX6_keep_60 (ws' := [_, _, _, _, _, _, _, _, _, _, _, _, _, _, _, _, _, _, _]) rfl ?_
            refine z_aload_n hC 1 dX6_keep_61 rfl rfl ?_
            refine z_get hC iX6_keep_6 0 13 rfl rfl (by decide) mX6_keep_f48 rfl dX6_keep_62 ?_
            refine z_iload_n hC 2 dX6_keep_65 rfl rfl ?_
            refine z_iload hC 4 dX6_keep_66 rfl ?_
            refine z_iast hC 13 rfl (by omega) (by decide) dX6_keep_68 (ws' := [_, _, _, _, _, _, _, _, _, _, _, _, _, _, _, _, _, _, _]) rfl ?_
            refine z_aload_n hC 1 dX6_keep_69 rfl rfl ?_
            refine z_get hC iX6_keep_6 0 14 rfl rfl (by decide) mX6_keep_f51 rfl dX6_keep_70 ?_
            refine z_iload_n hC 2 dX6_keep_73 rfl rfl ?_
            refine z_iload hC 5 dX6_keep_74 rfl ?_
            refine z_iast hC 14 rfl (by omega) (by decide) dX6_keep_76 (ws' := [_, _, _, _, _, _, _, _, _, _, _, _, _, _, _, _, _, _, _]) rfl ?_
            exact hR (uZ CR e cs, uZ RR e ls, uZ NR e b) _ _ _ [0, 1, 2, 3, 4, 5, 6, 7, 8, 9, 10, 11, 12, 13, 14, 15, 16, 17, 18] (by first | exact Or.inl ⟨by omega, rfl⟩ | exact Or.inr ⟨by omega, rfl⟩) (by decide) rfl dX6_keep_77
end
