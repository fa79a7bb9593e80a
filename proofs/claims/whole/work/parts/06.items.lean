noncomputable def b2 (P : Prop) : Int := @ite _ P (Classical.propDecidable P) 1 0
theorem b2_1 {P : Prop} (h : P) : b2 P = 1 := by unfold b2; exact if_pos h
theorem b2_0 {P : Prop} (h : ¬ P) : b2 P = 0 := by unfold b2; exact if_neg h
theorem b2_01 (P : Prop) : b2 P = 0 ∨ b2 P = 1 := by by_cases h : P; exact Or.inr (b2_1 h); exact Or.inl (b2_0 h)
theorem b2_r (P : Prop) : -2147483648 ≤ b2 P ∧ b2 P ≤ 2147483647 := by rcases b2_01 P with h | h <;> omega
theorem b2_t {P : Prop} (h : ¬ b2 P = 0) : P := by by_cases q : P; exact q; exact absurd (b2_0 q) h
theorem b2_f {P : Prop} (h : b2 P = 0) : ¬ P := fun q => by rw [b2_1 q] at h; omega
theorem b2_1' {P : Prop} (h : P) : 1 = b2 P := (b2_1 h).symm
theorem b2_0' {P : Prop} (h : ¬ P) : 0 = b2 P := (b2_0 h).symm
theorem b2_eq {P Q : Prop} (h : P ↔ Q) : b2 P = b2 Q := by by_cases q : P; rw [b2_1 q, b2_1 (h.mp q)]; rw [b2_0 q, b2_0 (fun z => q (h.mpr z))]
/-- a break may be there -/
def zMay (K V M : Int → Int) (n p mt : Int) : Prop := p = n ∨ (p < n ∧ ((K p = 1 ∧ 0 < p ∧ K (p - 1) = 0) ∨ (K p = 2 ∧ V p < 10000 ∧ (mt = 1 ∨ M p = 0))))
/-- a break has to be there -/
def zMust (K V : Int → Int) (n p : Int) : Prop := p < n ∧ K p = 2 ∧ V p = -10000
/-- a class's items, as far as they are there -/
def zIok (n : Int) (K V P M : Int → Int) : Prop := (0 ≤ n ∧ n ≤ 100) ∧ (∀ j, 0 ≤ j → j < n → 0 ≤ K j ∧ K j ≤ 2) ∧ ∀ j, 0 ≤ j → j < n → K j = 2 → (-10000 ≤ V j ∧ V j ≤ 10000) ∧ (M j = 0 ∨ M j = 1) ∧ 0 ≤ P j ∧ P j ≤ 10000
/-- the next box from j on, before e (fuel: e - j) -/
def nbF (K : Int → Int) : Nat → Int → Int
  | 0, j => j
  | k + 1, j => if K j = 0 then j else nbF K k (j + 1)
def nb (K : Int → Int) (e j : Int) : Int := nbF K (e - j).toNat j
theorem nb_end {K : Int → Int} {e j : Int} (h : e ≤ j) : nb K e j = j := by
  unfold nb; rw [show (e - j).toNat = 0 by omega]; rfl
theorem nb_box {K : Int → Int} {e j : Int} (h : K j = 0) : nb K e j = j := by
  unfold nb
  cases (e - j).toNat with
  | zero => rfl
  | succ k => simp [nbF, h]
theorem nb_go {K : Int → Int} {e j : Int} (h : j < e) (hk : ¬ K j = 0) : nb K e j = nb K e (j + 1) := by
  unfold nb
  rw [show (e - j).toNat = (e - (j + 1)).toNat + 1 by omega]
  simp [nbF, hk]
theorem nb_in {K : Int → Int} : ∀ (k : Nat) {e j : Int}, (e - j).toNat ≤ k → j ≤ e → j ≤ nb K e j ∧ nb K e j ≤ e := by
  intro k
  induction k with
  | zero => intro e j h1 h2; rw [nb_end (by omega)]; omega
  | succ k ih =>
    intro e j h1 h2
    by_cases hj : e ≤ j
    · rw [nb_end hj]; omega
    · by_cases hk : K j = 0
      · rw [nb_box hk]; omega
      · rw [nb_go (by omega) hk]
        have := @ih e (j + 1) (by omega) (by omega)
        omega
theorem nb_le {K : Int → Int} {e j : Int} (h : j ≤ e) : j ≤ nb K e j ∧ nb K e j ≤ e := nb_in _ (Nat.le_refl _) h
/-- where what counts in a line behind a begins -/
def zSt (K : Int → Int) (n a : Int) : Int := if a < 0 then 0 else nb K n (a + 1)
/-- p squared, by its sign -/
def zPen (K V : Int → Int) (n p : Int) : Int := if p < n ∧ K p = 2 ∧ ¬ V p = -10000 then (if V p < 0 then -(V p) * V p else V p * V p) else 0
theorem zPen_0 {K V : Int → Int} {n p : Int} (h : ¬ (p < n ∧ K p = 2 ∧ ¬ V p = -10000)) : 0 = zPen K V n p := by unfold zPen; rw [if_neg h]
theorem zPen_n {K V : Int → Int} {n p : Int} (h : p < n ∧ K p = 2 ∧ ¬ V p = -10000) (h2 : V p < 0) : -(V p) * V p = zPen K V n p := by unfold zPen; rw [if_pos h, if_pos h2]
theorem zPen_p {K V : Int → Int} {n p : Int} (h : p < n ∧ K p = 2 ∧ ¬ V p = -10000) (h2 : ¬ V p < 0) : V p * V p = zPen K V n p := by unfold zPen; rw [if_pos h, if_neg h2]
theorem hd_X0_isKind_v : yX0_isKind.cls = RX0 ∧ yX0_isKind.cls ≠ "java/lang/invoke/MethodHandle" ∧ yX0_isKind.cls ≠ "java/lang/invoke/VarHandle" ∧ (parseMethodDescriptor yX0_isKind.desc).map (fun d => d.parameters.length) = some 2 := by decide +kernel
theorem hd_X0_isEnd_v : yX0_isEnd.cls = RX0 ∧ yX0_isEnd.cls ≠ "java/lang/invoke/MethodHandle" ∧ yX0_isEnd.cls ≠ "java/lang/invoke/VarHandle" ∧ (parseMethodDescriptor yX0_isEnd.desc).map (fun d => d.parameters.length) = some 1 := by decide +kernel
theorem hd_X0_append_v : yX0_append.cls = RX0 ∧ yX0_append.cls ≠ "java/lang/invoke/MethodHandle" ∧ yX0_append.cls ≠ "java/lang/invoke/VarHandle" ∧ (parseMethodDescriptor yX0_append.desc).map (fun d => d.parameters.length) = some 4 := by decide +kernel
set_option maxRecDepth 20000 in
theorem mX0_isEnd_f34 : Cond.fieldLink RX0 34 "BreakSearch$Items" "count" "I" ∈ wsX0_isEnd := by decide +kernel
set_option maxRecDepth 20000 in
theorem iX0_isEnd_0 : ∀ w ∈ u_ws RX0 TX0 8, w ∈ wsX0_isEnd := by decide +kernel
abbrev rm_X0_isEnd : Room := { frames := 1, cells := 0, slots := 0, locals := 12 }
set_option maxHeartbeats 4000000 in
set_option maxRecDepth 100000 in
theorem c_X0_isEnd (l : Launch) (g : zG) (hI aK aV aP aM aL aS aH : Nat) (n : Int) (K V P M LB SB HB : Int → Int) (p : Int) (h1 : 0 ≤ n ∧ n ≤ 100) (h2 : -2147483648 ≤ p ∧ p ≤ 2147483647) : zMRi l yX0_isEnd wsX0_isEnd rm_X0_isEnd g [(hI, eo 0 [.ref aK, .ref aV, .ref aP, .ref aM, .ref aL, .ref aS, .ref aH, .int (iZ (n))]), (aK, ei g 100 K), (aV, ei g 100 V), (aP, ei g 100 P), (aM, ez g 100 M), (aL, ei g 101 LB), (aS, ei g 101 SB), (aH, ei g 101 HB)] [.ref hI, .int (iZ (p))] (b2 (n ≤ p)) := by
  refine z_beRi (cc := cX0_isEnd) (nL := 2) (ret := some .boolean) (plainFor_of_name (by decide +kernel)) rfl (Or.inr ⟨rfl, b2_01 _⟩) (Nat.le_of_ble_eq_true rfl) ?_
  intro X hC hR
  have hC : zC X g cX0_isEnd RX0 wsX0_isEnd rm_X0_isEnd 2 := hC
  show ZG X g (zE X) 0 0 [(hI, eo 0 [.ref aK, .ref aV, .ref aP, .ref aM, .ref aL, .ref aS, .ref aH, .int (iZ (n))]), (aK, ei g 100 K), (aV, ei g 100 V), (aP, ei g 100 P), (aM, ez g 100 M), (aL, ei g 101 LB), (aS, ei g 101 SB), (aH, ei g 101 HB)] [(0, .ref hI), (1, .int (iZ (p)))] 0 []
  refine z_iload_n hC 1 dX0_isEnd_0 rfl rfl ?_
  refine z_aload_n hC 0 dX0_isEnd_1 rfl rfl ?_
  refine z_get hC iX0_isEnd_0 0 7 rfl rfl (by decide) mX0_isEnd_f34 rfl dX0_isEnd_2 ?_
  refine z_icmp_lt hC 12 dX0_isEnd_5 (by decide) (by omega) (by omega) (fun c_5 => ?_) (fun c_5 => ?_)
  ·
    refine z_iconst hC dX0_isEnd_12 ?_
    exact hR _ _ _ _ (by first | exact b2_1' (by omega) | exact b2_0' (by omega) | exact b2_eq (by omega)) dX0_isEnd_13
  ·
    refine z_iconst hC dX0_isEnd_8 ?_
    refine z_goto (tgt := 13) hC dX0_isEnd_9 (by decide) ?_
    exact hR _ _ _ _ (by first | exact b2_1' (by omega) | exact b2_0' (by omega) | exact b2_eq (by omega)) dX0_isEnd_13
set_option maxRecDepth 20000 in
theorem mX0_isKind_f34 : Cond.fieldLink RX0 34 "BreakSearch$Items" "count" "I" ∈ wsX0_isKind := by decide +kernel
set_option maxRecDepth 20000 in
theorem iX0_isKind_0 : ∀ w ∈ u_ws RX0 TX0 8, w ∈ wsX0_isKind := by decide +kernel
set_option maxRecDepth 20000 in
theorem mX0_isKind_f9 : Cond.fieldLink RX0 9 "BreakSearch$Items" "kinds" "[I" ∈ wsX0_isKind := by decide +kernel
abbrev rm_X0_isKind : Room := { frames := 1, cells := 0, slots := 0, locals := 12 }
set_option maxHeartbeats 4000000 in
set_option maxRecDepth 100000 in
theorem c_X0_isKind (l : Launch) (g : zG) (hI aK aV aP aM aL aS aH : Nat) (n : Int) (K V P M LB SB HB : Int → Int) (p k : Int) (h1 : zIok n K V P M) (h2 : -2147483648 ≤ p ∧ p ≤ 2147483647) (h3 : 0 ≤ k ∧ k ≤ 2) : zMRi l yX0_isKind wsX0_isKind rm_X0_isKind g [(hI, eo 0 [.ref aK, .ref aV, .ref aP, .ref aM, .ref aL, .ref aS, .ref aH, .int (iZ (n))]), (aK, ei g 100 K), (aV, ei g 100 V), (aP, ei g 100 P), (aM, ez g 100 M), (aL, ei g 101 LB), (aS, ei g 101 SB), (aH, ei g 101 HB)] [.ref hI, .int (iZ (p)), .int (iZ (k))] (b2 (0 ≤ p ∧ p < n ∧ K p = k)) := by
  refine z_beRi (cc := cX0_isKind) (nL := 3) (ret := some .boolean) (plainFor_of_name (by decide +kernel)) rfl (Or.inr ⟨rfl, b2_01 _⟩) (Nat.le_of_ble_eq_true rfl) ?_
  intro X hC hR
  have hC : zC X g cX0_isKind RX0 wsX0_isKind rm_X0_isKind 3 := hC
  show ZG X g (zE X) 0 0 [(hI, eo 0 [.ref aK, .ref aV, .ref aP, .ref aM, .ref aL, .ref aS, .ref aH, .int (iZ (n))]), (aK, ei g 100 K), (aV, ei g 100 V), (aP, ei g 100 P), (aM, ez g 100 M), (aL, ei g 101 LB), (aS, ei g 101 SB), (aH, ei g 101 HB)] [(0, .ref hI), (1, .int (iZ (p))), (2, .int (iZ (k)))] 0 []
  have ⟨hn, hK, hV⟩ := h1
  refine z_iload_n hC 1 dX0_isKind_0 rfl rfl ?_
  refine z_if_lt hC 26 dX0_isKind_1 (by decide) (by omega) (fun c_1 => ?_) (fun c_1 => ?_)
  ·
    refine z_iconst hC dX0_isKind_26 ?_
    exact hR _ _ _ _ (by first | exact b2_1' (by omega) | exact b2_0' (by omega) | exact b2_eq (by omega)) dX0_isKind_27
  ·
    refine z_iload_n hC 1 dX0_isKind_4 rfl rfl ?_
    refine z_aload_n hC 0 dX0_isKind_5 rfl rfl ?_
    refine z_get hC iX0_isKind_0 0 7 rfl rfl (by decide) mX0_isKind_f34 rfl dX0_isKind_6 ?_
    refine z_icmp_ge hC 26 dX0_isKind_9 (by decide) (by omega) (by omega) (fun c_9 => ?_) (fun c_9 => ?_)
    ·
      refine z_iconst hC dX0_isKind_26 ?_
      exact hR _ _ _ _ (by first | exact b2_1' (by omega) | exact b2_0' (by omega) | exact b2_eq (by omega)) dX0_isKind_27
    ·
      refine z_aload_n hC 0 dX0_isKind_12 rfl rfl ?_
      refine z_get hC iX0_isKind_0 0 0 rfl rfl (by decide) mX0_isKind_f9 rfl dX0_isKind_13 ?_
      refine z_iload_n hC 1 dX0_isKind_16 rfl rfl ?_
      refine z_iald hC 1 rfl (by omega) (by decide) dX0_isKind_17 ?_
      refine z_iload_n hC 2 dX0_isKind_18 rfl rfl ?_
      refine z_icmp_ne hC 26 dX0_isKind_19 (by decide) (by have := hK p (by omega) (by omega); omega) (by omega) (fun c_19 => ?_) (fun c_19 => ?_)
      ·
        refine z_iconst hC dX0_isKind_26 ?_
        exact hR _ _ _ _ (by first | exact b2_1' (by omega) | exact b2_0' (by omega) | exact b2_eq (by omega)) dX0_isKind_27
      ·
        refine z_iconst hC dX0_isKind_22 ?_
        refine z_goto (tgt := 27) hC dX0_isKind_23 (by decide) ?_
        exact hR _ _ _ _ (by first | exact b2_1' (by omega) | exact b2_0' (by omega) | exact b2_eq (by omega)) dX0_isKind_27
set_option maxRecDepth 20000 in
theorem mX0_isMarked_f21 : Cond.fieldLink RX0 21 "BreakSearch$Items" "marks" "[Z" ∈ wsX0_isMarked := by decide +kernel
set_option maxRecDepth 20000 in
theorem iX0_isMarked_0 : ∀ w ∈ u_ws RX0 TX0 8, w ∈ wsX0_isMarked := by decide +kernel
abbrev rm_X0_isMarked : Room := { frames := 2, cells := 0, slots := 0, locals := 34 }
set_option maxHeartbeats 4000000 in
set_option maxRecDepth 100000 in
theorem c_X0_isMarked (l : Launch) (g : zG) (hI aK aV aP aM aL aS aH : Nat) (n : Int) (K V P M LB SB HB : Int → Int) (p : Int) (h1 : zIok n K V P M) (h2 : -2147483648 ≤ p ∧ p ≤ 2147483647) : zMRi l yX0_isMarked wsX0_isMarked rm_X0_isMarked g [(hI, eo 0 [.ref aK, .ref aV, .ref aP, .ref aM, .ref aL, .ref aS, .ref aH, .int (iZ (n))]), (aK, ei g 100 K), (aV, ei g 100 V), (aP, ei g 100 P), (aM, ez g 100 M), (aL, ei g 101 LB), (aS, ei g 101 SB), (aH, ei g 101 HB)] [.ref hI, .int (iZ (p))] (b2 (0 ≤ p ∧ p < n ∧ K p = 2 ∧ M p = 1)) := by
  refine z_beRi (cc := cX0_isMarked) (nL := 2) (ret := some .boolean) (plainFor_of_name (by decide +kernel)) rfl (Or.inr ⟨rfl, b2_01 _⟩) (Nat.le_of_ble_eq_true rfl) ?_
  intro X hC hR
  have hC : zC X g cX0_isMarked RX0 wsX0_isMarked rm_X0_isMarked 2 := hC
  show ZG X g (zE X) 0 0 [(hI, eo 0 [.ref aK, .ref aV, .ref aP, .ref aM, .ref aL, .ref aS, .ref aH, .int (iZ (n))]), (aK, ei g 100 K), (aV, ei g 100 V), (aP, ei g 100 P), (aM, ez g 100 M), (aL, ei g 101 LB), (aS, ei g 101 SB), (aH, ei g 101 HB)] [(0, .ref hI), (1, .int (iZ (p)))] 0 []
  have ⟨hn, hK, hV⟩ := h1
  refine z_aload_n hC 0 dX0_isMarked_0 rfl rfl ?_
  refine z_iload_n hC 1 dX0_isMarked_1 rfl rfl ?_
  refine z_iconst hC dX0_isMarked_2 ?_
  refine z_vRi hC 2 (c_X0_isKind (xl X) g _ _ _ _ _ _ _ _ _ _ _ _ _ _ _ _ _ _ h1 (by omega) (by omega)) gX0_isMarked_X0_isKind rfl hd_X0_isKind_v (by decide) ⟨rfl, rfl⟩ [0, 1, 2, 3, 4, 5, 6, 7] (by decide) rfl 0 0 rfl rfl rfl rfl rfl (Nat.le_of_ble_eq_true rfl) dX0_isMarked_3 (by decide) ?_
  refine z_if_eq hC 22 dX0_isMarked_6 (by decide) (b2_r _) (fun c_6 => ?_) (fun c_6 => ?_)
  ·
    have c_6 := b2_f c_6
    refine z_iconst hC dX0_isMarked_22 ?_
    exact hR _ _ _ _ (by first | exact b2_1' (by omega) | exact b2_0' (by omega) | exact b2_eq (by omega)) dX0_isMarked_23
  ·
    have c_6 := b2_t c_6
    have v_6 := hV p (by omega) (by omega) (by omega)
    refine z_aload_n hC 0 dX0_isMarked_9 rfl rfl ?_
    refine z_get hC iX0_isMarked_0 0 3 rfl rfl (by decide) mX0_isMarked_f21 rfl dX0_isMarked_10 ?_
    refine z_iload_n hC 1 dX0_isMarked_13 rfl rfl ?_
    refine z_zald hC 4 rfl (by omega) (by decide) dX0_isMarked_14 ?_
    refine z_if_eq hC 22 dX0_isMarked_15 (by decide) (by omega) (fun c_15 => ?_) (fun c_15 => ?_)
    ·
      refine z_iconst hC dX0_isMarked_22 ?_
      exact hR _ _ _ _ (by first | exact b2_1' (by omega) | exact b2_0' (by omega) | exact b2_eq (by omega)) dX0_isMarked_23
    ·
      refine z_iconst hC dX0_isMarked_18 ?_
      refine z_goto (tgt := 23) hC dX0_isMarked_19 (by decide) ?_
      exact hR _ _ _ _ (by first | exact b2_1' (by omega) | exact b2_0' (by omega) | exact b2_eq (by omega)) dX0_isMarked_23
set_option maxRecDepth 20000 in
theorem mX0_mayBreakAt_f15 : Cond.fieldLink RX0 15 "BreakSearch$Items" "values" "[I" ∈ wsX0_mayBreakAt := by decide +kernel
set_option maxRecDepth 20000 in
theorem iX0_mayBreakAt_0 : ∀ w ∈ u_ws RX0 TX0 8, w ∈ wsX0_mayBreakAt := by decide +kernel
set_option maxRecDepth 20000 in
theorem mX0_mayBreakAt_f21 : Cond.fieldLink RX0 21 "BreakSearch$Items" "marks" "[Z" ∈ wsX0_mayBreakAt := by decide +kernel
abbrev rm_X0_mayBreakAt : Room := { frames := 2, cells := 0, slots := 0, locals := 34 }
set_option maxHeartbeats 4000000 in
set_option maxRecDepth 100000 in
theorem c_X0_mayBreakAt (l : Launch) (g : zG) (hI aK aV aP aM aL aS aH : Nat) (n : Int) (K V P M LB SB HB : Int → Int) (p mt : Int) (h1 : zIok n K V P M) (h2 : 0 ≤ p ∧ p ≤ n) (h3 : mt = 0 ∨ mt = 1) : zMRi l yX0_mayBreakAt wsX0_mayBreakAt rm_X0_mayBreakAt g [(hI, eo 0 [.ref aK, .ref aV, .ref aP, .ref aM, .ref aL, .ref aS, .ref aH, .int (iZ (n))]), (aK, ei g 100 K), (aV, ei g 100 V), (aP, ei g 100 P), (aM, ez g 100 M), (aL, ei g 101 LB), (aS, ei g 101 SB), (aH, ei g 101 HB)] [.ref hI, .int (iZ (p)), .int (iZ (mt))] (b2 (zMay K V M n p mt)) := by
  refine z_beRi (cc := cX0_mayBreakAt) (nL := 3) (ret := some .boolean) (plainFor_of_name (by decide +kernel)) rfl (Or.inr ⟨rfl, b2_01 _⟩) (Nat.le_of_ble_eq_true rfl) ?_
  intro X hC hR
  have hC : zC X g cX0_mayBreakAt RX0 wsX0_mayBreakAt rm_X0_mayBreakAt 3 := hC
  show ZG X g (zE X) 0 0 [(hI, eo 0 [.ref aK, .ref aV, .ref aP, .ref aM, .ref aL, .ref aS, .ref aH, .int (iZ (n))]), (aK, ei g 100 K), (aV, ei g 100 V), (aP, ei g 100 P), (aM, ez g 100 M), (aL, ei g 101 LB), (aS, ei g 101 SB), (aH, ei g 101 HB)] [(0, .ref hI), (1, .int (iZ (p))), (2, .int (iZ (mt)))] 0 []
  have ⟨hn, hK, hV⟩ := h1
  refine z_aload_n hC 0 dX0_mayBreakAt_0 rfl rfl ?_
  refine z_iload_n hC 1 dX0_mayBreakAt_1 rfl rfl ?_
  refine z_iconst hC dX0_mayBreakAt_2 ?_
  refine z_vRi hC 2 (c_X0_isKind (xl X) g _ _ _ _ _ _ _ _ _ _ _ _ _ _ _ _ _ _ h1 (by omega) (by omega)) gX0_mayBreakAt_X0_isKind rfl hd_X0_isKind_v (by decide) ⟨rfl, rfl⟩ [0, 1, 2, 3, 4, 5, 6, 7] (by decide) rfl 0 0 rfl rfl rfl rfl rfl (Nat.le_of_ble_eq_true rfl) dX0_mayBreakAt_3 (by decide) ?_
  refine z_if_eq hC 18 dX0_mayBreakAt_6 (by decide) (b2_r _) (fun c_6 => ?_) (fun c_6 => ?_)
  ·
    have c_6 := b2_f c_6
    refine z_aload_n hC 0 dX0_mayBreakAt_18 rfl rfl ?_
    refine z_iload_n hC 1 dX0_mayBreakAt_19 rfl rfl ?_
    refine z_iconst hC dX0_mayBreakAt_20 ?_
    refine z_vRi hC 2 (c_X0_isKind (xl X) g _ _ _ _ _ _ _ _ _ _ _ _ _ _ _ _ _ _ h1 (by omega) (by omega)) gX0_mayBreakAt_X0_isKind rfl hd_X0_isKind_v (by decide) ⟨rfl, rfl⟩ [0, 1, 2, 3, 4, 5, 6, 7] (by decide) rfl 0 0 rfl rfl rfl rfl rfl (Nat.le_of_ble_eq_true rfl) dX0_mayBreakAt_21 (by decide) ?_
    refine z_if_eq hC 58 dX0_mayBreakAt_24 (by decide) (b2_r _) (fun c_24 => ?_) (fun c_24 => ?_)
    ·
      have c_24 := b2_f c_24
      refine z_aload_n hC 0 dX0_mayBreakAt_58 rfl rfl ?_
      refine z_iload_n hC 1 dX0_mayBreakAt_59 rfl rfl ?_
      refine z_vRi hC 1 (c_X0_isEnd (xl X) g _ _ _ _ _ _ _ _ _ _ _ _ _ _ _ _ _ hn (by omega)) gX0_mayBreakAt_X0_isEnd rfl hd_X0_isEnd_v (by decide) ⟨rfl, rfl⟩ [0, 1, 2, 3, 4, 5, 6, 7] (by decide) rfl 0 0 rfl rfl rfl rfl rfl (Nat.le_of_ble_eq_true rfl) dX0_mayBreakAt_60 (by decide) ?_
      exact hR _ _ _ _ (by first | exact b2_1' (by unfold zMay; omega) | exact b2_0' (by unfold zMay; omega) | exact b2_eq (by unfold zMay; omega)) dX0_mayBreakAt_63
    ·
      have c_24 := b2_t c_24
      have v_24 := hV p (by omega) (by omega) (by omega)
      refine z_aload_n hC 0 dX0_mayBreakAt_27 rfl rfl ?_
      refine z_get hC iX0_mayBreakAt_0 0 1 rfl rfl (by decide) mX0_mayBreakAt_f15 rfl dX0_mayBreakAt_28 ?_
      refine z_iload_n hC 1 dX0_mayBreakAt_31 rfl rfl ?_
      refine z_iald hC 2 rfl (by omega) (by decide) dX0_mayBreakAt_32 ?_
      refine z_sip hC dX0_mayBreakAt_33 (by decide) ?_
      refine z_icmp_ge hC 56 dX0_mayBreakAt_36 (by decide) (by omega) (by omega) (fun c_36 => ?_) (fun c_36 => ?_)
      ·
        refine z_iconst hC dX0_mayBreakAt_56 ?_
        exact hR _ _ _ _ (by first | exact b2_1' (by unfold zMay; omega) | exact b2_0' (by unfold zMay; omega) | exact b2_eq (by unfold zMay; omega)) dX0_mayBreakAt_57
      ·
        refine z_iload_n hC 2 dX0_mayBreakAt_39 rfl rfl ?_
        refine z_if_ne hC 52 dX0_mayBreakAt_40 (by decide) (by omega) (fun c_40 => ?_) (fun c_40 => ?_)
        ·
          refine z_iconst hC dX0_mayBreakAt_52 ?_
          refine z_goto (tgt := 57) hC dX0_mayBreakAt_53 (by decide) ?_
          exact hR _ _ _ _ (by first | exact b2_1' (by unfold zMay; omega) | exact b2_0' (by unfold zMay; omega) | exact b2_eq (by unfold zMay; omega)) dX0_mayBreakAt_57
        ·
          refine z_aload_n hC 0 dX0_mayBreakAt_43 rfl rfl ?_
          refine z_get hC iX0_mayBreakAt_0 0 3 rfl rfl (by decide) mX0_mayBreakAt_f21 rfl dX0_mayBreakAt_44 ?_
          refine z_iload_n hC 1 dX0_mayBreakAt_47 rfl rfl ?_
          refine z_zald hC 4 rfl (by omega) (by decide) dX0_mayBreakAt_48 ?_
          refine z_if_ne hC 56 dX0_mayBreakAt_49 (by decide) (by omega) (fun c_49 => ?_) (fun c_49 => ?_)
          ·
            refine z_iconst hC dX0_mayBreakAt_56 ?_
            exact hR _ _ _ _ (by first | exact b2_1' (by unfold zMay; omega) | exact b2_0' (by unfold zMay; omega) | exact b2_eq (by unfold zMay; omega)) dX0_mayBreakAt_57
          ·
            refine z_iconst hC dX0_mayBreakAt_52 ?_
            refine z_goto (tgt := 57) hC dX0_mayBreakAt_53 (by decide) ?_
            exact hR _ _ _ _ (by first | exact b2_1' (by unfold zMay; omega) | exact b2_0' (by unfold zMay; omega) | exact b2_eq (by unfold zMay; omega)) dX0_mayBreakAt_57
  ·
    have c_6 := b2_t c_6
    refine z_aload_n hC 0 dX0_mayBreakAt_9 rfl rfl ?_
    refine z_iload_n hC 1 dX0_mayBreakAt_10 rfl rfl ?_
    refine z_iconst hC dX0_mayBreakAt_11 ?_
    refine z_isub hC dX0_mayBreakAt_12 ?_
    refine z_iconst hC dX0_mayBreakAt_13 ?_
    refine z_vRi hC 2 (c_X0_isKind (xl X) g _ _ _ _ _ _ _ _ _ _ _ _ _ _ _ _ _ _ h1 (by omega) (by omega)) gX0_mayBreakAt_X0_isKind rfl hd_X0_isKind_v (by decide) ⟨rfl, rfl⟩ [0, 1, 2, 3, 4, 5, 6, 7] (by decide) rfl 0 0 rfl rfl rfl rfl rfl (Nat.le_of_ble_eq_true rfl) dX0_mayBreakAt_14 (by decide) ?_
    exact hR _ _ _ _ (by first | exact b2_1' (by unfold zMay; omega) | exact b2_0' (by unfold zMay; omega) | exact b2_eq (by unfold zMay; omega)) dX0_mayBreakAt_17
set_option maxRecDepth 20000 in
theorem mX0_hasToBreakAt_f15 : Cond.fieldLink RX0 15 "BreakSearch$Items" "values" "[I" ∈ wsX0_hasToBreakAt := by decide +kernel
set_option maxRecDepth 20000 in
theorem iX0_hasToBreakAt_0 : ∀ w ∈ u_ws RX0 TX0 8, w ∈ wsX0_hasToBreakAt := by decide +kernel
abbrev rm_X0_hasToBreakAt : Room := { frames := 2, cells := 0, slots := 0, locals := 34 }
set_option maxHeartbeats 4000000 in
set_option maxRecDepth 100000 in
theorem c_X0_hasToBreakAt (l : Launch) (g : zG) (hI aK aV aP aM aL aS aH : Nat) (n : Int) (K V P M LB SB HB : Int → Int) (p : Int) (h1 : zIok n K V P M) (h2 : 0 ≤ p ∧ p ≤ n) : zMRi l yX0_hasToBreakAt wsX0_hasToBreakAt rm_X0_hasToBreakAt g [(hI, eo 0 [.ref aK, .ref aV, .ref aP, .ref aM, .ref aL, .ref aS, .ref aH, .int (iZ (n))]), (aK, ei g 100 K), (aV, ei g 100 V), (aP, ei g 100 P), (aM, ez g 100 M), (aL, ei g 101 LB), (aS, ei g 101 SB), (aH, ei g 101 HB)] [.ref hI, .int (iZ (p))] (b2 (p = n ∨ zMust K V n p)) := by
  refine z_beRi (cc := cX0_hasToBreakAt) (nL := 2) (ret := some .boolean) (plainFor_of_name (by decide +kernel)) rfl (Or.inr ⟨rfl, b2_01 _⟩) (Nat.le_of_ble_eq_true rfl) ?_
  intro X hC hR
  have hC : zC X g cX0_hasToBreakAt RX0 wsX0_hasToBreakAt rm_X0_hasToBreakAt 2 := hC
  show ZG X g (zE X) 0 0 [(hI, eo 0 [.ref aK, .ref aV, .ref aP, .ref aM, .ref aL, .ref aS, .ref aH, .int (iZ (n))]), (aK, ei g 100 K), (aV, ei g 100 V), (aP, ei g 100 P), (aM, ez g 100 M), (aL, ei g 101 LB), (aS, ei g 101 SB), (aH, ei g 101 HB)] [(0, .ref hI), (1, .int (iZ (p)))] 0 []
  have ⟨hn, hK, hV⟩ := h1
  refine z_aload_n hC 0 dX0_hasToBreakAt_0 rfl rfl ?_
  refine z_iload_n hC 1 dX0_hasToBreakAt_1 rfl rfl ?_
  refine z_vRi hC 1 (c_X0_isEnd (xl X) g _ _ _ _ _ _ _ _ _ _ _ _ _ _ _ _ _ hn (by omega)) gX0_hasToBreakAt_X0_isEnd rfl hd_X0_isEnd_v (by decide) ⟨rfl, rfl⟩ [0, 1, 2, 3, 4, 5, 6, 7] (by decide) rfl 0 0 rfl rfl rfl rfl rfl (Nat.le_of_ble_eq_true rfl) dX0_hasToBreakAt_2 (by decide) ?_
  refine z_if_ne hC 29 dX0_hasToBreakAt_5 (by decide) (b2_r _) (fun c_5 => ?_) (fun c_5 => ?_)
  ·
    have c_5 := b2_t c_5
    refine z_iconst hC dX0_hasToBreakAt_29 ?_
    refine z_goto (tgt := 34) hC dX0_hasToBreakAt_30 (by decide) ?_
    exact hR _ _ _ _ (by first | exact b2_1' (by unfold zMust; omega) | exact b2_0' (by unfold zMust; omega) | exact b2_eq (by unfold zMust; omega)) dX0_hasToBreakAt_34
  ·
    have c_5 := b2_f c_5
    refine z_aload_n hC 0 dX0_hasToBreakAt_8 rfl rfl ?_
    refine z_iload_n hC 1 dX0_hasToBreakAt_9 rfl rfl ?_
    refine z_iconst hC dX0_hasToBreakAt_10 ?_
    refine z_vRi hC 2 (c_X0_isKind (xl X) g _ _ _ _ _ _ _ _ _ _ _ _ _ _ _ _ _ _ h1 (by omega) (by omega)) gX0_hasToBreakAt_X0_isKind rfl hd_X0_isKind_v (by decide) ⟨rfl, rfl⟩ [0, 1, 2, 3, 4, 5, 6, 7] (by decide) rfl 0 0 rfl rfl rfl rfl rfl (Nat.le_of_ble_eq_true rfl) dX0_hasToBreakAt_11 (by decide) ?_
    refine z_if_eq hC 33 dX0_hasToBreakAt_14 (by decide) (b2_r _) (fun c_14 => ?_) (fun c_14 => ?_)
    ·
      have c_14 := b2_f c_14
      refine z_iconst hC dX0_hasToBreakAt_33 ?_
      exact hR _ _ _ _ (by first | exact b2_1' (by unfold zMust; omega) | exact b2_0' (by unfold zMust; omega) | exact b2_eq (by unfold zMust; omega)) dX0_hasToBreakAt_34
    ·
      have c_14 := b2_t c_14
      have v_14 := hV p (by omega) (by omega) (by omega)
      refine z_aload_n hC 0 dX0_hasToBreakAt_17 rfl rfl ?_
      refine z_get hC iX0_hasToBreakAt_0 0 1 rfl rfl (by decide) mX0_hasToBreakAt_f15 rfl dX0_hasToBreakAt_18 ?_
      refine z_iload_n hC 1 dX0_hasToBreakAt_21 rfl rfl ?_
      refine z_iald hC 2 rfl (by omega) (by decide) dX0_hasToBreakAt_22 ?_
      refine z_sip hC dX0_hasToBreakAt_23 (by decide) ?_
      refine z_icmp_ne hC 33 dX0_hasToBreakAt_26 (by decide) (by omega) (by omega) (fun c_26 => ?_) (fun c_26 => ?_)
      ·
        refine z_iconst hC dX0_hasToBreakAt_33 ?_
        exact hR _ _ _ _ (by first | exact b2_1' (by unfold zMust; omega) | exact b2_0' (by unfold zMust; omega) | exact b2_eq (by unfold zMust; omega)) dX0_hasToBreakAt_34
      ·
        refine z_iconst hC dX0_hasToBreakAt_29 ?_
        refine z_goto (tgt := 34) hC dX0_hasToBreakAt_30 (by decide) ?_
        exact hR _ _ _ _ (by first | exact b2_1' (by unfold zMust; omega) | exact b2_0' (by unfold zMust; omega) | exact b2_eq (by unfold zMust; omega)) dX0_hasToBreakAt_34
set_option maxRecDepth 20000 in
theorem mX0_startBehind_f34 : Cond.fieldLink RX0 34 "BreakSearch$Items" "count" "I" ∈ wsX0_startBehind := by decide +kernel
set_option maxRecDepth 20000 in
theorem iX0_startBehind_0 : ∀ w ∈ u_ws RX0 TX0 8, w ∈ wsX0_startBehind := by decide +kernel
set_option maxRecDepth 20000 in
theorem mX0_startBehind_f9 : Cond.fieldLink RX0 9 "BreakSearch$Items" "kinds" "[I" ∈ wsX0_startBehind := by decide +kernel
abbrev rm_X0_startBehind : Room := { frames := 1, cells := 0, slots := 0, locals := 12 }
set_option maxHeartbeats 4000000 in
set_option maxRecDepth 100000 in
theorem c_X0_startBehind (l : Launch) (g : zG) (hI aK aV aP aM aL aS aH : Nat) (n : Int) (K V P M LB SB HB : Int → Int) (a : Int) (h1 : zIok n K V P M) (h2 : -1 ≤ a ∧ (a < n ∨ a < 0)) : zMRi l yX0_startBehind wsX0_startBehind rm_X0_startBehind g [(hI, eo 0 [.ref aK, .ref aV, .ref aP, .ref aM, .ref aL, .ref aS, .ref aH, .int (iZ (n))]), (aK, ei g 100 K), (aV, ei g 100 V), (aP, ei g 100 P), (aM, ez g 100 M), (aL, ei g 101 LB), (aS, ei g 101 SB), (aH, ei g 101 HB)] [.ref hI, .int (iZ (a))] (zSt K n a) := by
  refine z_beRi (cc := cX0_startBehind) (nL := 3) (ret := some .int) (plainFor_of_name (by decide +kernel)) rfl (Or.inl rfl) (Nat.le_of_ble_eq_true rfl) ?_
  intro X hC hR
  have hC : zC X g cX0_startBehind RX0 wsX0_startBehind rm_X0_startBehind 3 := hC
  show ZG X g (zE X) 0 0 [(hI, eo 0 [.ref aK, .ref aV, .ref aP, .ref aM, .ref aL, .ref aS, .ref aH, .int (iZ (n))]), (aK, ei g 100 K), (aV, ei g 100 V), (aP, ei g 100 P), (aM, ez g 100 M), (aL, ei g 101 LB), (aS, ei g 101 SB), (aH, ei g 101 HB)] [(0, .ref hI), (1, .int (iZ (a)))] 0 []
  have ⟨hn, hK, hV⟩ := h1
  refine z_iload_n hC 1 dX0_startBehind_0 rfl rfl ?_
  refine z_if_ge hC 6 dX0_startBehind_1 (by decide) (by omega) (fun c_1 => ?_) (fun c_1 => ?_)
  ·
    refine z_iload_n hC 1 dX0_startBehind_6 rfl rfl ?_
    refine z_iconst hC dX0_startBehind_7 ?_
    refine z_iadd hC dX0_startBehind_8 ?_
    refine z_istore_n hC (lv' := [(2, _), (0, _), (1, _)]) dX0_startBehind_9 rfl (by decide) rfl ?_
    have L10 : ∀ (fu : Nat) (j : Int), (a + 1 ≤ j ∧ j ≤ n) → (nb K n j = nb K n (a + 1)) → (n - j).toNat < fu → ZG X g (zE X) 0 0 [(hI, eo 0 [.ref aK, .ref aV, .ref aP, .ref aM, .ref aL, .ref aS, .ref aH, .int (iZ (n))]), (aK, ei g 100 K), (aV, ei g 100 V), (aP, ei g 100 P), (aM, ez g 100 M), (aL, ei g 101 LB), (aS, ei g 101 SB), (aH, ei g 101 HB)] [(2, .int (iZ (j))), (0, .ref hI), (1, .int (iZ (a)))] 10 [] := by
      intro fu
      induction fu with
      | zero => intro j; intros; omega
      | succ fu ih_10 =>
        intro j hj hq hn
        refine z_iload_n hC 0 dX0_startBehind_10 rfl rfl ?_
        refine z_aload_n hC 1 dX0_startBehind_11 rfl rfl ?_
        refine z_get hC iX0_startBehind_0 0 7 rfl rfl (by decide) mX0_startBehind_f34 rfl dX0_startBehind_12 ?_
        refine z_icmp_ge hC 33 dX0_startBehind_15 (by decide) (by omega) (by omega) (fun c_15 => ?_) (fun c_15 => ?_)
        ·
          refine z_iload_n hC 0 dX0_startBehind_33 rfl rfl ?_
          exact hR _ _ _ _ (by unfold zSt; first | exact (if_pos (by omega)).symm | (rw [if_neg (by omega), ← hq, nb_end (by omega)]) | (rw [if_neg (by omega), ← hq, nb_box (by omega)])) dX0_startBehind_34
        ·
          refine z_aload_n hC 1 dX0_startBehind_18 rfl rfl ?_
          refine z_get hC iX0_startBehind_0 0 0 rfl rfl (by decide) mX0_startBehind_f9 rfl dX0_startBehind_19 ?_
          refine z_iload_n hC 0 dX0_startBehind_22 rfl rfl ?_
          refine z_iald hC 1 rfl (by omega) (by decide) dX0_startBehind_23 ?_
          refine z_if_eq hC 33 dX0_startBehind_24 (by decide) (by have := hK j (by omega) (by omega); omega) (fun c_24 => ?_) (fun c_24 => ?_)
          ·
            refine z_iload_n hC 0 dX0_startBehind_33 rfl rfl ?_
            exact hR _ _ _ _ (by unfold zSt; first | exact (if_pos (by omega)).symm | (rw [if_neg (by omega), ← hq, nb_end (by omega)]) | (rw [if_neg (by omega), ← hq, nb_box (by omega)])) dX0_startBehind_34
          ·
            refine z_iinc hC (lv' := [(2, _), (0, _), (1, _)]) 0 dX0_startBehind_27 rfl (by decide) rfl ?_
            refine z_goto (tgt := 10) hC dX0_startBehind_30 (by decide) ?_
            exact ih_10 (j + 1) (by omega) (by rw [← nb_go (by omega) (by omega)]; exact hq) (by omega)
    exact L10 _ (a + 1) (by omega) rfl (Nat.lt_succ_self _)
  ·
    refine z_iconst hC dX0_startBehind_4 ?_
    exact hR _ _ _ _ (by unfold zSt; first | exact (if_pos (by omega)).symm | (rw [if_neg (by omega), ← hq, nb_end (by omega)]) | (rw [if_neg (by omega), ← hq, nb_box (by omega)])) dX0_startBehind_5
set_option maxRecDepth 20000 in
theorem mX0_widthEndingAt_f18 : Cond.fieldLink RX0 18 "BreakSearch$Items" "penaltyWidths" "[I" ∈ wsX0_widthEndingAt := by decide +kernel
set_option maxRecDepth 20000 in
theorem iX0_widthEndingAt_0 : ∀ w ∈ u_ws RX0 TX0 8, w ∈ wsX0_widthEndingAt := by decide +kernel
abbrev rm_X0_widthEndingAt : Room := { frames := 2, cells := 0, slots := 0, locals := 34 }
set_option maxHeartbeats 4000000 in
set_option maxRecDepth 100000 in
theorem c_X0_widthEndingAt (l : Launch) (g : zG) (hI aK aV aP aM aL aS aH : Nat) (n : Int) (K V P M LB SB HB : Int → Int) (p : Int) (h1 : zIok n K V P M) (h2 : -2147483648 ≤ p ∧ p ≤ 2147483647) : zMRi l yX0_widthEndingAt wsX0_widthEndingAt rm_X0_widthEndingAt g [(hI, eo 0 [.ref aK, .ref aV, .ref aP, .ref aM, .ref aL, .ref aS, .ref aH, .int (iZ (n))]), (aK, ei g 100 K), (aV, ei g 100 V), (aP, ei g 100 P), (aM, ez g 100 M), (aL, ei g 101 LB), (aS, ei g 101 SB), (aH, ei g 101 HB)] [.ref hI, .int (iZ (p))] (if 0 ≤ p ∧ p < n ∧ K p = 2 then P p else 0) := by
  refine z_beRi (cc := cX0_widthEndingAt) (nL := 2) (ret := some .int) (plainFor_of_name (by decide +kernel)) rfl (Or.inl rfl) (Nat.le_of_ble_eq_true rfl) ?_
  intro X hC hR
  have hC : zC X g cX0_widthEndingAt RX0 wsX0_widthEndingAt rm_X0_widthEndingAt 2 := hC
  show ZG X g (zE X) 0 0 [(hI, eo 0 [.ref aK, .ref aV, .ref aP, .ref aM, .ref aL, .ref aS, .ref aH, .int (iZ (n))]), (aK, ei g 100 K), (aV, ei g 100 V), (aP, ei g 100 P), (aM, ez g 100 M), (aL, ei g 101 LB), (aS, ei g 101 SB), (aH, ei g 101 HB)] [(0, .ref hI), (1, .int (iZ (p)))] 0 []
  have ⟨hn, hK, hV⟩ := h1
  refine z_aload_n hC 0 dX0_widthEndingAt_0 rfl rfl ?_
  refine z_iload_n hC 1 dX0_widthEndingAt_1 rfl rfl ?_
  refine z_iconst hC dX0_widthEndingAt_2 ?_
  refine z_vRi hC 2 (c_X0_isKind (xl X) g _ _ _ _ _ _ _ _ _ _ _ _ _ _ _ _ _ _ h1 (by omega) (by omega)) gX0_widthEndingAt_X0_isKind rfl hd_X0_isKind_v (by decide) ⟨rfl, rfl⟩ [0, 1, 2, 3, 4, 5, 6, 7] (by decide) rfl 0 0 rfl rfl rfl rfl rfl (Nat.le_of_ble_eq_true rfl) dX0_widthEndingAt_3 (by decide) ?_
  refine z_if_eq hC 18 dX0_widthEndingAt_6 (by decide) (b2_r _) (fun c_6 => ?_) (fun c_6 => ?_)
  ·
    have c_6 := b2_f c_6
    refine z_iconst hC dX0_widthEndingAt_18 ?_
    exact hR _ _ _ _ (by first | exact (if_pos (by omega)).symm | exact (if_neg (by omega)).symm) dX0_widthEndingAt_19
  ·
    have c_6 := b2_t c_6
    refine z_aload_n hC 0 dX0_widthEndingAt_9 rfl rfl ?_
    refine z_get hC iX0_widthEndingAt_0 0 2 rfl rfl (by decide) mX0_widthEndingAt_f18 rfl dX0_widthEndingAt_10 ?_
    refine z_iload_n hC 1 dX0_widthEndingAt_13 rfl rfl ?_
    refine z_iald hC 3 rfl (by omega) (by decide) dX0_widthEndingAt_14 ?_
    refine z_goto (tgt := 19) hC dX0_widthEndingAt_15 (by decide) ?_
    exact hR _ _ _ _ (by first | exact (if_pos (by omega)).symm | exact (if_neg (by omega)).symm) dX0_widthEndingAt_19
set_option maxRecDepth 20000 in
theorem mX0_penaltyDemerits_f15 : Cond.fieldLink RX0 15 "BreakSearch$Items" "values" "[I" ∈ wsX0_penaltyDemerits := by decide +kernel
set_option maxRecDepth 20000 in
theorem iX0_penaltyDemerits_0 : ∀ w ∈ u_ws RX0 TX0 8, w ∈ wsX0_penaltyDemerits := by decide +kernel
abbrev rm_X0_penaltyDemerits : Room := { frames := 2, cells := 0, slots := 0, locals := 34 }
set_option maxHeartbeats 4000000 in
set_option maxRecDepth 100000 in
theorem c_X0_penaltyDemerits (l : Launch) (g : zG) (hI aK aV aP aM aL aS aH : Nat) (n : Int) (K V P M LB SB HB : Int → Int) (p : Int) (h1 : zIok n K V P M) (h2 : 0 ≤ p ∧ p ≤ n) : zMRl l yX0_penaltyDemerits wsX0_penaltyDemerits rm_X0_penaltyDemerits g [(hI, eo 0 [.ref aK, .ref aV, .ref aP, .ref aM, .ref aL, .ref aS, .ref aH, .int (iZ (n))]), (aK, ei g 100 K), (aV, ei g 100 V), (aP, ei g 100 P), (aM, ez g 100 M), (aL, ei g 101 LB), (aS, ei g 101 SB), (aH, ei g 101 HB)] [.ref hI, .int (iZ (p))] (zPen K V n p) := by
  refine z_beRl (cc := cX0_penaltyDemerits) (nL := 4) (plainFor_of_name (by decide +kernel)) rfl (Nat.le_of_ble_eq_true rfl) ?_
  intro X hC hR
  have hC : zC X g cX0_penaltyDemerits RX0 wsX0_penaltyDemerits rm_X0_penaltyDemerits 4 := hC
  show ZG X g (zE X) 0 0 [(hI, eo 0 [.ref aK, .ref aV, .ref aP, .ref aM, .ref aL, .ref aS, .ref aH, .int (iZ (n))]), (aK, ei g 100 K), (aV, ei g 100 V), (aP, ei g 100 P), (aM, ez g 100 M), (aL, ei g 101 LB), (aS, ei g 101 SB), (aH, ei g 101 HB)] [(0, .ref hI), (1, .int (iZ (p)))] 0 []
  have ⟨hn, hK, hV⟩ := h1
  refine z_aload_n hC 0 dX0_penaltyDemerits_0 rfl rfl ?_
  refine z_iload_n hC 1 dX0_penaltyDemerits_1 rfl rfl ?_
  refine z_iconst hC dX0_penaltyDemerits_2 ?_
  refine z_vRi hC 2 (c_X0_isKind (xl X) g _ _ _ _ _ _ _ _ _ _ _ _ _ _ _ _ _ _ h1 (by omega) (by omega)) gX0_penaltyDemerits_X0_isKind rfl hd_X0_isKind_v (by decide) ⟨rfl, rfl⟩ [0, 1, 2, 3, 4, 5, 6, 7] (by decide) rfl 0 0 rfl rfl rfl rfl rfl (Nat.le_of_ble_eq_true rfl) dX0_penaltyDemerits_3 (by decide) ?_
  refine z_if_eq hC 21 dX0_penaltyDemerits_6 (by decide) (b2_r _) (fun c_6 => ?_) (fun c_6 => ?_)
  ·
    have c_6 := b2_f c_6
    refine z_lconst (z := 0) hC dX0_penaltyDemerits_21 (by decide) ?_
    exact hR _ _ _ _ (by first | exact zPen_0 (by omega) | exact zPen_n (by omega) (by omega) | exact zPen_p (by omega) (by omega)) dX0_penaltyDemerits_22
  ·
    have c_6 := b2_t c_6
    have v_6 := hV p (by omega) (by omega) (by omega)
    refine z_aload_n hC 0 dX0_penaltyDemerits_9 rfl rfl ?_
    refine z_get hC iX0_penaltyDemerits_0 0 1 rfl rfl (by decide) mX0_penaltyDemerits_f15 rfl dX0_penaltyDemerits_10 ?_
    refine z_iload_n hC 1 dX0_penaltyDemerits_13 rfl rfl ?_
    refine z_iald hC 2 rfl (by omega) (by decide) dX0_penaltyDemerits_14 ?_
    refine z_sip hC dX0_penaltyDemerits_15 (by decide) ?_
    refine z_icmp_ne hC 23 dX0_penaltyDemerits_18 (by decide) (by omega) (by omega) (fun c_18 => ?_) (fun c_18 => ?_)
    ·
      refine z_aload_n hC 0 dX0_penaltyDemerits_23 rfl rfl ?_
      refine z_get hC iX0_penaltyDemerits_0 0 1 rfl rfl (by decide) mX0_penaltyDemerits_f15 rfl dX0_penaltyDemerits_24 ?_
      refine z_iload_n hC 1 dX0_penaltyDemerits_27 rfl rfl ?_
      refine z_iald hC 2 rfl (by omega) (by decide) dX0_penaltyDemerits_28 ?_
      refine z_i2l hC dX0_penaltyDemerits_29 (by omega) ?_
      refine z_lstore_n hC (lv' := [(2, _), (0, _), (1, _)]) dX0_penaltyDemerits_30 rfl (by decide) rfl ?_
      refine z_lload_n hC 0 dX0_penaltyDemerits_31 rfl rfl ?_
      refine z_lconst (z := 0) hC dX0_penaltyDemerits_32 (by decide) ?_
      refine z_lc_ge hC 44 dX0_penaltyDemerits_33 dX0_penaltyDemerits_34 (by decide) (by omega) (by omega) (fun c_33 => ?_) (fun c_33 => ?_)
      ·
        refine z_lload_n hC 0 dX0_penaltyDemerits_44 rfl rfl ?_
        refine z_lload_n hC 0 dX0_penaltyDemerits_45 rfl rfl ?_
        refine z_lmul hC dX0_penaltyDemerits_46 ?_
        exact hR _ _ _ _ (by first | exact zPen_0 (by omega) | exact zPen_n (by omega) (by omega) | exact zPen_p (by omega) (by omega)) dX0_penaltyDemerits_47
      ·
        refine z_lload_n hC 0 dX0_penaltyDemerits_37 rfl rfl ?_
        refine z_lneg hC dX0_penaltyDemerits_38 ?_
        refine z_lload_n hC 0 dX0_penaltyDemerits_39 rfl rfl ?_
        refine z_lmul hC dX0_penaltyDemerits_40 ?_
        refine z_goto (tgt := 47) hC dX0_penaltyDemerits_41 (by decide) ?_
        exact hR _ _ _ _ (by first | exact zPen_0 (by omega) | exact zPen_n (by omega) (by omega) | exact zPen_p (by omega) (by omega)) dX0_penaltyDemerits_47
    ·
      refine z_lconst (z := 0) hC dX0_penaltyDemerits_21 (by decide) ?_
      exact hR _ _ _ _ (by first | exact zPen_0 (by omega) | exact zPen_n (by omega) (by omega) | exact zPen_p (by omega) (by omega)) dX0_penaltyDemerits_22
set_option maxRecDepth 20000 in
theorem mX0_append_f34 : Cond.fieldLink RX0 34 "BreakSearch$Items" "count" "I" ∈ wsX0_append := by decide +kernel
set_option maxRecDepth 20000 in
theorem iX0_append_0 : ∀ w ∈ u_ws RX0 TX0 8, w ∈ wsX0_append := by decide +kernel
set_option maxRecDepth 20000 in
theorem mX0_append_f9 : Cond.fieldLink RX0 9 "BreakSearch$Items" "kinds" "[I" ∈ wsX0_append := by decide +kernel
set_option maxRecDepth 20000 in
theorem mX0_append_f25 : Cond.fieldLink RX0 25 "BreakSearch$Items" "lengthBefore" "[I" ∈ wsX0_append := by decide +kernel
set_option maxRecDepth 20000 in
theorem mX0_append_f28 : Cond.fieldLink RX0 28 "BreakSearch$Items" "stretchBefore" "[I" ∈ wsX0_append := by decide +kernel
set_option maxRecDepth 20000 in
theorem mX0_append_f31 : Cond.fieldLink RX0 31 "BreakSearch$Items" "shrinkBefore" "[I" ∈ wsX0_append := by decide +kernel
abbrev rm_X0_append : Room := { frames := 1, cells := 0, slots := 0, locals := 12 }
set_option maxHeartbeats 4000000 in
set_option maxRecDepth 100000 in
theorem c_X0_append (l : Launch) (g : zG) (hI aK aV aP aM aL aS aH : Nat) (n : Int) (K V P M LB SB HB : Int → Int) (k w t s : Int) (h1 : 0 ≤ n ∧ n ≤ 100) : zMWi (S := (Int → Int) × (Int → Int) × (Int → Int) × (Int → Int) × (Int) × (Int)) l yX0_append wsX0_append rm_X0_append g [(hI, eo 0 [.ref aK, .ref aV, .ref aP, .ref aM, .ref aL, .ref aS, .ref aH, .int (iZ (n))]), (aK, ei g 100 K), (aV, ei g 100 V), (aP, ei g 100 P), (aM, ez g 100 M), (aL, ei g 101 LB), (aS, ei g 101 SB), (aH, ei g 101 HB)] [.ref hI, .int (iZ (k)), .int (iZ (w)), .int (iZ (t)), .int (iZ (s))] (fun u => ((100 ≤ n) ∧ u = (K, LB, SB, HB, n, -2)) ∨ ((n < 100) ∧ u = (uZ K n k, uZ LB (n + 1) (LB n + w), uZ SB (n + 1) (SB n + t), uZ HB (n + 1) (HB n + s), n + 1, n))) (fun u => u.2.2.2.2.2) (fun u => [(hI, eo 0 [.ref aK, .ref aV, .ref aP, .ref aM, .ref aL, .ref aS, .ref aH, .int (iZ (u.2.2.2.2.1))]), (aK, ei g 100 u.1), (aV, ei g 100 V), (aP, ei g 100 P), (aM, ez g 100 M), (aL, ei g 101 u.2.1), (aS, ei g 101 u.2.2.1), (aH, ei g 101 u.2.2.2.1)]) 0 0 := by
  refine z_beWi (cc := cX0_append) (nL := 6) (ret := some .int) (plainFor_of_name (by decide +kernel)) rfl (Or.inl rfl) (Nat.le_of_ble_eq_true rfl) ?_
  intro X A hC hN hR
  have hC : zC X g cX0_append RX0 wsX0_append rm_X0_append 6 := hC
  show ZG X g (zD X A) 0 0 [(hI, eo 0 [.ref aK, .ref aV, .ref aP, .ref aM, .ref aL, .ref aS, .ref aH, .int (iZ (n))]), (aK, ei g 100 K), (aV, ei g 100 V), (aP, ei g 100 P), (aM, ez g 100 M), (aL, ei g 101 LB), (aS, ei g 101 SB), (aH, ei g 101 HB)] [(0, .ref hI), (1, .int (iZ (k))), (2, .int (iZ (w))), (3, .int (iZ (t))), (4, .int (iZ (s)))] 0 []
  refine z_aload_n hC 0 dX0_append_0 rfl rfl ?_
  refine z_get hC iX0_append_0 0 7 rfl rfl (by decide) mX0_append_f34 rfl dX0_append_1 ?_
  refine z_bip hC dX0_append_4 (by decide) ?_
  refine z_icmp_lt hC 12 dX0_append_6 (by decide) (by omega) (by omega) (fun c_6 => ?_) (fun c_6 => ?_)
  ·
    refine z_aload_n hC 0 dX0_append_12 rfl rfl ?_
    refine z_get hC iX0_append_0 0 7 rfl rfl (by decide) mX0_append_f34 rfl dX0_append_13 ?_
    refine z_istore hC (lv' := [(5, _), (0, _), (1, _), (2, _), (3, _), (4, _)]) dX0_append_16 (by decide) rfl ?_
    refine z_aload_n hC 1 dX0_append_18 rfl rfl ?_
    refine z_get hC iX0_append_0 0 0 rfl rfl (by decide) mX0_append_f9 rfl dX0_append_19 ?_
    refine z_iload hC 0 dX0_append_22 rfl ?_
    refine z_iload_n hC 2 dX0_append_24 rfl rfl ?_
    refine z_iast hC 1 rfl (by omega) (by decide) dX0_append_25 (ws' := [_, _, _, _, _, _, _, _]) rfl ?_
    refine z_aload_n hC 1 dX0_append_26 rfl rfl ?_
    refine z_get hC iX0_append_0 0 4 rfl rfl (by decide) mX0_append_f25 rfl dX0_append_27 ?_
    refine z_iload hC 0 dX0_append_30 rfl ?_
    refine z_iconst hC dX0_append_32 ?_
    refine z_iadd hC dX0_append_33 ?_
    refine z_aload_n hC 1 dX0_append_34 rfl rfl ?_
    refine z_get hC iX0_append_0 0 4 rfl rfl (by decide) mX0_append_f25 rfl dX0_append_35 ?_
    refine z_iload hC 0 dX0_append_38 rfl ?_
    refine z_iald hC 5 rfl (by omega) (by decide) dX0_append_40 ?_
    refine z_iload_n hC 3 dX0_append_41 rfl rfl ?_
    refine z_iadd hC dX0_append_42 ?_
    refine z_iast hC 5 rfl (by omega) (by decide) dX0_append_43 (ws' := [_, _, _, _, _, _, _, _]) rfl ?_
    refine z_aload_n hC 1 dX0_append_44 rfl rfl ?_
    refine z_get hC iX0_append_0 0 5 rfl rfl (by decide) mX0_append_f28 rfl dX0_append_45 ?_
    refine z_iload hC 0 dX0_append_48 rfl ?_
    refine z_iconst hC dX0_append_50 ?_
    refine z_iadd hC dX0_append_51 ?_
    refine z_aload_n hC 1 dX0_append_52 rfl rfl ?_
    refine z_get hC iX0_append_0 0 5 rfl rfl (by decide) mX0_append_f28 rfl dX0_append_53 ?_
    refine z_iload hC 0 dX0_append_56 rfl ?_
    refine z_iald hC 6 rfl (by omega) (by decide) dX0_append_58 ?_
    refine z_iload_n hC 4 dX0_append_59 rfl rfl ?_
    refine z_iadd hC dX0_append_60 ?_
    refine z_iast hC 6 rfl (by omega) (by decide) dX0_append_61 (ws' := [_, _, _, _, _, _, _, _]) rfl ?_
    refine z_aload_n hC 1 dX0_append_62 rfl rfl ?_
    refine z_get hC iX0_append_0 0 6 rfl rfl (by decide) mX0_append_f31 rfl dX0_append_63 ?_
    refine z_iload hC 0 dX0_append_66 rfl ?_
    refine z_iconst hC dX0_append_68 ?_
    refine z_iadd hC dX0_append_69 ?_
    refine z_aload_n hC 1 dX0_append_70 rfl rfl ?_
    refine z_get hC iX0_append_0 0 6 rfl rfl (by decide) mX0_append_f31 rfl dX0_append_71 ?_
    refine z_iload hC 0 dX0_append_74 rfl ?_
    refine z_iald hC 7 rfl (by omega) (by decide) dX0_append_76 ?_
    refine z_iload hC 5 dX0_append_77 rfl ?_
    refine z_iadd hC dX0_append_79 ?_
    refine z_iast hC 7 rfl (by omega) (by decide) dX0_append_80 (ws' := [_, _, _, _, _, _, _, _]) rfl ?_
    refine z_aload_n hC 1 dX0_append_81 rfl rfl ?_
    refine z_iload hC 0 dX0_append_82 rfl ?_
    refine z_iconst hC dX0_append_84 ?_
    refine z_iadd hC dX0_append_85 ?_
    refine z_put hC iX0_append_0 tyX0 tyX0_ok nmX0 0 7 rfl rfl (by decide) mX0_append_f34 rfl rfl rfl (Nat.le_of_ble_eq_true rfl) dX0_append_86 (ws' := [_, _, _, _, _, _, _, _]) rfl ?_
    refine z_iload hC 0 dX0_append_89 rfl ?_
    exact hR (uZ K n k, uZ LB (n + 1) ((LB n) + w), uZ SB (n + 1) ((SB n) + t), uZ HB (n + 1) ((HB n) + s), n + 1, n) _ _ _ [0, 1, 2, 3, 4, 5, 6, 7] _ (by first | exact Or.inl ⟨by omega, rfl⟩ | exact Or.inr ⟨by omega, rfl⟩) rfl (by decide) rfl dX0_append_91
  ·
    refine z_bip hC dX0_append_9 (by decide) ?_
    exact hR (K, LB, SB, HB, n, -2) _ _ _ [0, 1, 2, 3, 4, 5, 6, 7] _ (by first | exact Or.inl ⟨by omega, rfl⟩ | exact Or.inr ⟨by omega, rfl⟩) rfl (by decide) rfl dX0_append_11
set_option maxRecDepth 20000 in
theorem mX0_appendPenalty_f15 : Cond.fieldLink RX0 15 "BreakSearch$Items" "values" "[I" ∈ wsX0_appendPenalty := by decide +kernel
set_option maxRecDepth 20000 in
theorem iX0_appendPenalty_0 : ∀ w ∈ u_ws RX0 TX0 8, w ∈ wsX0_appendPenalty := by decide +kernel
set_option maxRecDepth 20000 in
theorem mX0_appendPenalty_f18 : Cond.fieldLink RX0 18 "BreakSearch$Items" "penaltyWidths" "[I" ∈ wsX0_appendPenalty := by decide +kernel
set_option maxRecDepth 20000 in
theorem mX0_appendPenalty_f21 : Cond.fieldLink RX0 21 "BreakSearch$Items" "marks" "[Z" ∈ wsX0_appendPenalty := by decide +kernel
abbrev rm_X0_appendPenalty : Room := { frames := 2, cells := 0, slots := 0, locals := 37 }
set_option maxHeartbeats 4000000 in
set_option maxRecDepth 100000 in
theorem c_X0_appendPenalty (l : Launch) (g : zG) (hI aK aV aP aM aL aS aH : Nat) (n : Int) (K V P M LB SB HB : Int → Int) (x w mk : Int) (h1 : 0 ≤ n ∧ n ≤ 100) (h2 : mk = 0 ∨ mk = 1) : zMWi (S := (Int → Int) × (Int → Int) × (Int → Int) × (Int → Int) × (Int → Int) × (Int → Int) × (Int → Int) × (Int) × (Int)) l yX0_appendPenalty wsX0_appendPenalty rm_X0_appendPenalty g [(hI, eo 0 [.ref aK, .ref aV, .ref aP, .ref aM, .ref aL, .ref aS, .ref aH, .int (iZ (n))]), (aK, ei g 100 K), (aV, ei g 100 V), (aP, ei g 100 P), (aM, ez g 100 M), (aL, ei g 101 LB), (aS, ei g 101 SB), (aH, ei g 101 HB)] [.ref hI, .int (iZ (x)), .int (iZ (w)), .int (iZ (mk))] (fun u => ((100 ≤ n) ∧ u = (K, V, P, M, LB, SB, HB, n, -2)) ∨ ((n < 100) ∧ u = (uZ K n 2, uZ V n x, uZ P n w, uZ M n mk, uZ LB (n + 1) (LB n + 0), uZ SB (n + 1) (SB n + 0), uZ HB (n + 1) (HB n + 0), n + 1, n))) (fun u => u.2.2.2.2.2.2.2.2) (fun u => [(hI, eo 0 [.ref aK, .ref aV, .ref aP, .ref aM, .ref aL, .ref aS, .ref aH, .int (iZ (u.2.2.2.2.2.2.2.1))]), (aK, ei g 100 u.1), (aV, ei g 100 u.2.1), (aP, ei g 100 u.2.2.1), (aM, ez g 100 u.2.2.2.1), (aL, ei g 101 u.2.2.2.2.1), (aS, ei g 101 u.2.2.2.2.2.1), (aH, ei g 101 u.2.2.2.2.2.2.1)]) 0 0 := by
  refine z_beWi (cc := cX0_appendPenalty) (nL := 5) (ret := some .int) (plainFor_of_name (by decide +kernel)) rfl (Or.inl rfl) (Nat.le_of_ble_eq_true rfl) ?_
  intro X A hC hN hR
  have hC : zC X g cX0_appendPenalty RX0 wsX0_appendPenalty rm_X0_appendPenalty 5 := hC
  show ZG X g (zD X A) 0 0 [(hI, eo 0 [.ref aK, .ref aV, .ref aP, .ref aM, .ref aL, .ref aS, .ref aH, .int (iZ (n))]), (aK, ei g 100 K), (aV, ei g 100 V), (aP, ei g 100 P), (aM, ez g 100 M), (aL, ei g 101 LB), (aS, ei g 101 SB), (aH, ei g 101 HB)] [(0, .ref hI), (1, .int (iZ (x))), (2, .int (iZ (w))), (3, .int (iZ (mk)))] 0 []
  refine z_aload_n hC 0 dX0_appendPenalty_0 rfl rfl ?_
  refine z_iconst hC dX0_appendPenalty_1 ?_
  refine z_iconst hC dX0_appendPenalty_2 ?_
  refine z_iconst hC dX0_appendPenalty_3 ?_
  refine z_iconst hC dX0_appendPenalty_4 ?_
  refine z_vWi (wr := []) hC 4 (c_X0_append (xl X) g _ _ _ _ _ _ _ _ _ _ _ _ _ _ _ _ _ _ _ _ (by omega)) gX0_appendPenalty_X0_append rfl hd_X0_append_v (by decide) ⟨rfl, rfl⟩ [0, 1, 2, 3, 4, 5, 6, 7] [] (by decide) rfl rfl (by decide) (by decide) 0 0 rfl rfl rfl rfl rfl (Nat.le_of_ble_eq_true rfl) dX0_appendPenalty_5 (by decide) (fun u_5 p_5 => ?_)
  rcases p_5 with ⟨a_5, rfl⟩ | ⟨a_5, rfl⟩
  ·
    refine z_ws (ws' := [(hI, eo 0 [.ref aK, .ref aV, .ref aP, .ref aM, .ref aL, .ref aS, .ref aH, .int (iZ (n))]), (aK, ei g 100 K), (aV, ei g 100 V), (aP, ei g 100 P), (aM, ez g 100 M), (aL, ei g 101 LB), (aS, ei g 101 SB), (aH, ei g 101 HB)]) [0, 1, 2, 3, 4, 5, 6, 7] (by decide) rfl ?_
    refine z_top (b := (-2)) rfl ?_
    refine z_istore hC (lv' := [(4, _), (0, _), (1, _), (2, _), (3, _)]) dX0_appendPenalty_8 (by decide) rfl ?_
    refine z_iload hC 0 dX0_appendPenalty_10 rfl ?_
    refine z_if_lt hC 39 dX0_appendPenalty_12 (by decide) (by omega) (fun c_12 => ?_) (fun c_12 => ?_)
    ·
      refine z_iload hC 0 dX0_appendPenalty_39 rfl ?_
      exact hR (K, V, P, M, LB, SB, HB, n, (-2)) _ _ _ [0, 1, 2, 3, 4, 5, 6, 7] _ (by first | exact Or.inl ⟨by omega, rfl⟩ | exact Or.inr ⟨by omega, rfl⟩) rfl (by decide) rfl dX0_appendPenalty_41
    ·
      exfalso; omega
  ·
    refine z_ws (ws' := [(hI, eo 0 [.ref aK, .ref aV, .ref aP, .ref aM, .ref aL, .ref aS, .ref aH, .int (iZ ((n + 1)))]), (aK, ei g 100 ((uZ K n 2))), (aV, ei g 100 V), (aP, ei g 100 P), (aM, ez g 100 M), (aL, ei g 101 ((uZ LB (n + 1) (LB n + 0)))), (aS, ei g 101 ((uZ SB (n + 1) (SB n + 0)))), (aH, ei g 101 ((uZ HB (n + 1) (HB n + 0))))]) [0, 1, 2, 3, 4, 5, 6, 7] (by decide) rfl ?_
    refine z_top (b := n) rfl ?_
    refine z_istore hC (lv' := [(4, _), (0, _), (1, _), (2, _), (3, _)]) dX0_appendPenalty_8 (by decide) rfl ?_
    refine z_iload hC 0 dX0_appendPenalty_10 rfl ?_
    refine z_if_lt hC 39 dX0_appendPenalty_12 (by decide) (by omega) (fun c_12 => ?_) (fun c_12 => ?_)
    ·
      exfalso; omega
    ·
      refine z_aload_n hC 1 dX0_appendPenalty_15 rfl rfl ?_
      refine z_get hC iX0_appendPenalty_0 0 1 rfl rfl (by decide) mX0_appendPenalty_f15 rfl dX0_appendPenalty_16 ?_
      refine z_iload hC 0 dX0_appendPenalty_19 rfl ?_
      refine z_iload_n hC 2 dX0_appendPenalty_21 rfl rfl ?_
      refine z_iast hC 2 rfl (by omega) (by decide) dX0_appendPenalty_22 (ws' := [_, _, _, _, _, _, _, _]) rfl ?_
      refine z_aload_n hC 1 dX0_appendPenalty_23 rfl rfl ?_
      refine z_get hC iX0_appendPenalty_0 0 2 rfl rfl (by decide) mX0_appendPenalty_f18 rfl dX0_appendPenalty_24 ?_
      refine z_iload hC 0 dX0_appendPenalty_27 rfl ?_
      refine z_iload_n hC 3 dX0_appendPenalty_29 rfl rfl ?_
      refine z_iast hC 3 rfl (by omega) (by decide) dX0_appendPenalty_30 (ws' := [_, _, _, _, _, _, _, _]) rfl ?_
      refine z_aload_n hC 1 dX0_appendPenalty_31 rfl rfl ?_
      refine z_get hC iX0_appendPenalty_0 0 3 rfl rfl (by decide) mX0_appendPenalty_f21 rfl dX0_appendPenalty_32 ?_
      refine z_iload hC 0 dX0_appendPenalty_35 rfl ?_
      refine z_iload_n hC 4 dX0_appendPenalty_37 rfl rfl ?_
      refine z_zast hC 4 rfl (by omega) (by decide) (by omega) dX0_appendPenalty_38 (ws' := [_, _, _, _, _, _, _, _]) rfl ?_
      refine z_iload hC 0 dX0_appendPenalty_39 rfl ?_
      exact hR ((uZ K n 2), uZ V n x, uZ P n w, uZ M n mk, (uZ LB (n + 1) (LB n + 0)), (uZ SB (n + 1) (SB n + 0)), (uZ HB (n + 1) (HB n + 0)), (n + 1), n) _ _ _ [0, 1, 2, 3, 4, 5, 6, 7] _ (by first | exact Or.inl ⟨by omega, rfl⟩ | exact Or.inr ⟨by omega, rfl⟩) rfl (by decide) rfl dX0_appendPenalty_41
