noncomputable def b2 (P : Prop) : Int := @ite _ P (Classical.propDecidable P) 1 0
theorem b2_1 {P : Prop} (h : P) : b2 P = 1 := by unfold b2; exact if_pos h
theorem b2_0 {P : Prop} (h : ¬ P) : b2 P = 0 := by unfold b2; exact if_neg h
theorem b2_01 (P : Prop) : b2 P = 0 ∨ b2 P = 1 := by by_cases h : P; exact Or.inr (b2_1 h); exact Or.inl (b2_0 h)
theorem b2_r (P : Prop) : -2147483648 ≤ b2 P ∧ b2 P ≤ 2147483647 := by rcases b2_01 P with h | h <;> omega
theorem b2_t {P : Prop} (h : ¬ b2 P = 0) : P := by by_cases q : P; exact q; exact absurd (b2_0 q) h
theorem b2_f {P : Prop} (h : b2 P = 0) : ¬ P := fun q => by rw [b2_1 q] at h; omega
theorem b2_1' {P : Prop} (h : P) : 1 = b2 P := (b2_1 h).symm
theorem b2_0' {P : Prop} (h : ¬ P) : 0 = b2 P := (b2_0 h).symm
theorem b2_eq {P Q : Prop} (h : P ↔ Q) : b2 P = b2 Q := by by_cases q : P; rw [b2_1 q, b2_1 (h.mp q)]; rw [b2_0 q, b2_0 (fun z => q (h.mpr z))]
/-- a break may be there -/
def zMay (K V M : Int → Int) (n p mt : Int) : Prop := p = n ∨ (p < n ∧ ((K p = 1 ∧ 0 < p ∧ K (p - 1) = 0) ∨ (K p = 2 ∧ V p < 10000 ∧ (mt = 1 ∨ M p = 0))))
/-- a break has to be there -/
def zMust (K V : Int → Int) (n p : Int) : Prop := p < n ∧ K p = 2 ∧ V p = -10000
/-- the next box from j on, before e (fuel: e - j) -/
def nbF (K : Int → Int) : Nat → Int → Int
  | 0, j => j
  | k + 1, j => if K j = 0 then j else nbF K k (j + 1)
def nb (K : Int → Int) (e j : Int) : Int := nbF K (e - j).toNat j
theorem nb_end {K : Int → Int} {e j : Int} (h : e ≤ j) : nb K e j = j := by
  unfold nb; rw [show (e - j).toNat = 0 by omega]; rfl
theorem nb_box {K : Int → Int} {e j : Int} (h : K j = 0) : nb K e j = j := by
  unfold nb
  cases (e - j).toNat with
  | zero => rfl
  | succ k => simp [nbF, h]
theorem nb_go {K : Int → Int} {e j : Int} (h : j < e) (hk : ¬ K j = 0) : nb K e j = nb K e (j + 1) := by
  unfold nb
  rw [show (e - j).toNat = (e - (j + 1)).toNat + 1 by omega]
  simp [nbF, hk]
theorem nb_in {K : Int → Int} : ∀ (k : Nat) {e j : Int}, (e - j).toNat ≤ k → j ≤ e → j ≤ nb K e j ∧ nb K e j ≤ e := by
  intro k
  induction k with
  | zero => intro e j h1 h2; rw [nb_end (by omega)]; omega
  | succ k ih =>
    intro e j h1 h2
    by_cases hj : e ≤ j
    · rw [nb_end hj]; omega
    · by_cases hk : K j = 0
      · rw [nb_box hk]; omega
      · rw [nb_go (by omega) hk]
        have := @ih e (j + 1) (by omega) (by omega)
        omega
theorem nb_le {K : Int → Int} {e j : Int} (h : j ≤ e) : j ≤ nb K e j ∧ nb K e j ≤ e := nb_in _ (Nat.le_refl _) h
/-- where what counts in a line behind a begins -/
def zSt (K : Int → Int) (n a : Int) : Int := if a < 0 then 0 else nb K n (a + 1)
/-- p squared, by its sign -/
def zPen (K V : Int → Int) (n p : Int) : Int := if p < n ∧ K p = 2 ∧ ¬ V p = -10000 then (if V p < 0 then -(V p) * V p else V p * V p) else 0

set_option maxRecDepth 20000 in
theorem mX0_isEnd_f34 : Cond.fieldLink RX0 34 "BreakSearch$Items" "count" "I" ∈ wsX0_isEnd := by decide +kernel
set_option maxRecDepth 20000 in
theorem iX0_isEnd_0 : ∀ w ∈ u_ws RX0 TX0 8, w ∈ wsX0_isEnd := by decide +kernel
abbrev rm_X0_isEnd : Room := { frames := 1, cells := 0, slots := 0, locals := 12 }
set_option maxHeartbeats 4000000 in
set_option maxRecDepth 100000 in
theorem c_X0_isEnd (l : Launch) (g : zG) (hI aK aV aP aM aL aS aH : Nat) (n : Int) (K V P M LB SB HB : Int → Int) (p : Int) (h1 : 0 ≤ n ∧ n ≤ 100) (h2 : -2147483648 ≤ p ∧ p ≤ 2147483647) : zMRi l yX0_isEnd wsX0_isEnd rm_X0_isEnd g [(hI, eo 0 [.ref aK, .ref aV, .ref aP, .ref aM, .ref aL, .ref aS, .ref aH, .int (iZ (n))]), (aK, ei g 100 K), (aV, ei g 100 V), (aP, ei g 100 P), (aM, ez g 100 M), (aL, ei g 101 LB), (aS, ei g 101 SB), (aH, ei g 101 HB)] [.ref hI, .int (iZ (p))] (b2 (n ≤ p)) := by
  refine z_inRi (cc := cX0_isEnd) (nL := 2) (ret := some .boolean) (by decide +kernel) rfl (Or.inr ⟨rfl, b2_01 _⟩) (Nat.le_of_ble_eq_true rfl) ?_
  intro X hC hR
  have hC : zC X g cX0_isEnd RX0 wsX0_isEnd rm_X0_isEnd 2 := hC
  show ZG X g (zE X) 0 0 [(hI, eo 0 [.ref aK, .ref aV, .ref aP, .ref aM, .ref aL, .ref aS, .ref aH, .int (iZ (n))]), (aK, ei g 100 K), (aV, ei g 100 V), (aP, ei g 100 P), (aM, ez g 100 M), (aL, ei g 101 LB), (aS, ei g 101 SB), (aH, ei g 101 HB)] [(0, .ref hI), (1, .int (iZ (p)))] 0 []
  refine z_iload_n hC 1 dX0_isEnd_0 rfl rfl ?_
  refine z_aload_n hC 0 dX0_isEnd_1 rfl rfl ?_
  refine z_get hC iX0_isEnd_0 0 7 rfl rfl (by decide) mX0_isEnd_f34 rfl dX0_isEnd_2 ?_
  refine z_icmp_lt hC 12 dX0_isEnd_5 (by decide) (by omega) (by omega) (fun c_5 => ?_) (fun c_5 => ?_)
  ·
    refine z_iconst hC dX0_isEnd_12 ?_
    exact hR _ _ _ _ (by first | exact b2_1' (by omega) | exact b2_0' (by omega)) dX0_isEnd_13
  ·
    refine z_iconst hC dX0_isEnd_8 ?_
    refine z_goto (tgt := 13) hC dX0_isEnd_9 (by decide) ?_
    exact hR _ _ _ _ (by first | exact b2_1' (by omega) | exact b2_0' (by omega)) dX0_isEnd_13
set_option maxRecDepth 20000 in
theorem mX0_isKind_f34 : Cond.fieldLink RX0 34 "BreakSearch$Items" "count" "I" ∈ wsX0_isKind := by decide +kernel
set_option maxRecDepth 20000 in
theorem iX0_isKind_0 : ∀ w ∈ u_ws RX0 TX0 8, w ∈ wsX0_isKind := by decide +kernel
set_option maxRecDepth 20000 in
theorem mX0_isKind_f9 : Cond.fieldLink RX0 9 "BreakSearch$Items" "kinds" "[I" ∈ wsX0_isKind := by decide +kernel
abbrev rm_X0_isKind : Room := { frames := 1, cells := 0, slots := 0, locals := 12 }
set_option maxHeartbeats 4000000 in
set_option maxRecDepth 100000 in
theorem c_X0_isKind (l : Launch) (g : zG) (hI aK aV aP aM aL aS aH : Nat) (n : Int) (K V P M LB SB HB : Int → Int) (p k : Int) (h1 : 0 ≤ n ∧ n ≤ 100) (h2 : -2147483648 ≤ p ∧ p ≤ 2147483647) (h3 : 0 ≤ k ∧ k ≤ 2) (h4 : ∀ j, 0 ≤ j → j < n → 0 ≤ K j ∧ K j ≤ 2) : zMRi l yX0_isKind wsX0_isKind rm_X0_isKind g [(hI, eo 0 [.ref aK, .ref aV, .ref aP, .ref aM, .ref aL, .ref aS, .ref aH, .int (iZ (n))]), (aK, ei g 100 K), (aV, ei g 100 V), (aP, ei g 100 P), (aM, ez g 100 M), (aL, ei g 101 LB), (aS, ei g 101 SB), (aH, ei g 101 HB)] [.ref hI, .int (iZ (p)), .int (iZ (k))] (b2 (0 ≤ p ∧ p < n ∧ K p = k)) := by
  refine z_inRi (cc := cX0_isKind) (nL := 3) (ret := some .boolean) (by decide +kernel) rfl (Or.inr ⟨rfl, b2_01 _⟩) (Nat.le_of_ble_eq_true rfl) ?_
  intro X hC hR
  have hC : zC X g cX0_isKind RX0 wsX0_isKind rm_X0_isKind 3 := hC
  show ZG X g (zE X) 0 0 [(hI, eo 0 [.ref aK, .ref aV, .ref aP, .ref aM, .ref aL, .ref aS, .ref aH, .int (iZ (n))]), (aK, ei g 100 K), (aV, ei g 100 V), (aP, ei g 100 P), (aM, ez g 100 M), (aL, ei g 101 LB), (aS, ei g 101 SB), (aH, ei g 101 HB)] [(0, .ref hI), (1, .int (iZ (p))), (2, .int (iZ (k)))] 0 []
  refine z_iload_n hC 1 dX0_isKind_0 rfl rfl ?_
  refine z_if_lt hC 26 dX0_isKind_1 (by decide) (by omega) (fun c_1 => ?_) (fun c_1 => ?_)
  ·
    refine z_iconst hC dX0_isKind_26 ?_
    exact hR _ _ _ _ (by first | exact b2_1' (by omega) | exact b2_0' (by omega)) dX0_isKind_27
  ·
    refine z_iload_n hC 1 dX0_isKind_4 rfl rfl ?_
    refine z_aload_n hC 0 dX0_isKind_5 rfl rfl ?_
    refine z_get hC iX0_isKind_0 0 7 rfl rfl (by decide) mX0_isKind_f34 rfl dX0_isKind_6 ?_
    refine z_icmp_ge hC 26 dX0_isKind_9 (by decide) (by omega) (by omega) (fun c_9 => ?_) (fun c_9 => ?_)
    ·
      refine z_iconst hC dX0_isKind_26 ?_
      exact hR _ _ _ _ (by first | exact b2_1' (by omega) | exact b2_0' (by omega)) dX0_isKind_27
    ·
      refine z_aload_n hC 0 dX0_isKind_12 rfl rfl ?_
      refine z_get hC iX0_isKind_0 0 0 rfl rfl (by decide) mX0_isKind_f9 rfl dX0_isKind_13 ?_
      refine z_iload_n hC 1 dX0_isKind_16 rfl rfl ?_
      refine z_iald hC 1 rfl (by omega) (by decide) dX0_isKind_17 ?_
      refine z_iload_n hC 2 dX0_isKind_18 rfl rfl ?_
      refine z_icmp_ne hC 26 dX0_isKind_19 (by decide) (by omega) (by omega) (fun c_19 => ?_) (fun c_19 => ?_)
      ·
        refine z_iconst hC dX0_isKind_26 ?_
        exact hR _ _ _ _ (by first | exact b2_1' (by omega) | exact b2_0' (by omega)) dX0_isKind_27
      ·
        refine z_iconst hC dX0_isKind_22 ?_
        refine z_goto (tgt := 27) hC dX0_isKind_23 (by decide) ?_
        exact hR _ _ _ _ (by first | exact b2_1' (by omega) | exact b2_0' (by omega)) dX0_isKind_27
