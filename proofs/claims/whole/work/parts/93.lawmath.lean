/-! what the law keeps between two calls -/
def zSr (n : Int) (WR TR SR : Int → Int) : Prop := ∀ j, 0 ≤ j → j < n → (0 ≤ WR j ∧ WR j ≤ 10000) ∧ (0 ≤ TR j ∧ TR j ≤ 10000) ∧ (0 ≤ SR j ∧ SR j ≤ 1000)
def zL1 (n : Int) (K V P M LB SB HB KR WR TR SR VR MR : Int → Int) : Prop := zIok n K V P M ∧ zSm n K V P M KR WR VR MR ∧ zSs n K LB SB HB WR TR SR ∧ zSr n WR TR SR
def zL2 (W T XR YR : Int → Int) : Prop := (∀ i, 0 ≤ i → i ≤ 49 → 0 ≤ W i ∧ W i ≤ 20000) ∧ ((-1 ≤ T 0 ∧ T 0 ≤ 10000) ∧ (-1 ≤ T 1 ∧ T 1 ≤ 10000) ∧ (0 ≤ T 2 ∧ T 2 ≤ 10000)) ∧ zSx W T XR YR
def zTo (tc tp : Int) (E Q B U ER LR BR UR : Int → Int) : Prop := ((0 ≤ tc ∧ tc ≤ 50) ∧ (0 ≤ tp ∧ tp ≤ 3) ∧ (tc = 0 ↔ tp = 0)) ∧ ∀ i, 0 ≤ i → i < tc → E i = ER i ∧ Q i = LR i ∧ B i = BR i ∧ U i = UR i
def zLI (n : Int) (K V P M LB SB HB W T : Int → Int) (tc tp : Int) (E Q B U KR WR TR SR VR MR XR YR IR JR GR ER LR BR UR : Int → Int) : Prop := zL1 n K V P M LB SB HB KR WR TR SR VR MR ∧ zL2 W T XR YR ∧ (IR 0 = 0 ∧ JR 0 = 0 ∧ GR 0 = 0) ∧ zTo tc tp E Q B U ER LR BR UR
theorem zSs_pok {n : Int} {K LB SB HB WR TR SR : Int → Int} (hn : 0 ≤ n ∧ n ≤ 100) (h : zSs n K LB SB HB WR TR SR) (hr : zSr n WR TR SR) : zPok n LB SB HB := by
  have stp : ∀ j, 0 ≤ j → j < n → (LB j ≤ LB (j + 1) ∧ LB (j + 1) ≤ LB j + 10000) ∧ (SB j ≤ SB (j + 1) ∧ SB (j + 1) ≤ SB j + 10000) ∧ (HB j ≤ HB (j + 1) ∧ HB (j + 1) ≤ HB j + 1000) := by
    intro j h1 h2
    have a := h.2 j h1 h2
    have b := hr j h1 h2
    by_cases q : K j = 2
    · rw [if_pos q] at a; omega
    · rw [if_neg q] at a; omega
  have hz := h.1
  have up : ∀ (k : Nat), (k : Int) ≤ n → (0 ≤ LB k ∧ LB k ≤ 10000 * k) ∧ (0 ≤ SB k ∧ SB k ≤ 10000 * k) ∧ (0 ≤ HB k ∧ HB k ≤ 1000 * k) := by
    intro k
    induction k with
    | zero => intro _; show (0 ≤ LB 0 ∧ LB 0 ≤ 10000 * 0) ∧ (0 ≤ SB 0 ∧ SB 0 ≤ 10000 * 0) ∧ (0 ≤ HB 0 ∧ HB 0 ≤ 1000 * 0); omega
    | succ k ih =>
      intro hk
      have a := ih (by omega)
      have b := stp k (by omega) (by omega)
      rw [show ((k + 1 : Nat) : Int) = (k : Int) + 1 by omega]
      omega
  have mono : ∀ (k : Nat) (i : Int), 0 ≤ i → i + k ≤ n → LB i ≤ LB (i + k) ∧ SB i ≤ SB (i + k) ∧ HB i ≤ HB (i + k) := by
    intro k
    induction k with
    | zero => intro i _ _; rw [show i + ((0 : Nat) : Int) = i by omega]; omega
    | succ k ih =>
      intro i h0 hk
      have a := ih i h0 (by omega)
      have b := stp (i + k) (by omega) (by omega)
      rw [show i + ((k + 1 : Nat) : Int) = i + (k : Int) + 1 by omega]
      omega
  refine ⟨fun j h1 h2 => ?_, fun i j h1 h2 h3 => ?_⟩
  · obtain ⟨k, rfl⟩ := Int.eq_ofNat_of_zero_le h1
    have := up k h2
    omega
  · obtain ⟨k, e⟩ := Int.eq_ofNat_of_zero_le (show 0 ≤ j - i by omega)
    have := mono k i h1 (by omega)
    rw [show i + (k : Int) = j by omega] at this
    exact this
theorem zCi_of {n : Int} {K V P M LB SB HB W T KR WR TR SR VR MR XR YR : Int → Int} (h1 : zL1 n K V P M LB SB HB KR WR TR SR VR MR) (h2 : zL2 W T XR YR) : zCi n K V P M LB SB HB W T := ⟨h1.1, zSs_pok h1.1.1 h1.2.2.1 h1.2.2.2, h2.1, h2.2.1⟩
/-- one item more -/
theorem zL1_add {n : Int} {K V P M LB SB HB KR WR TR SR VR MR V1 P1 M1 : Int → Int} {k l t s w v m : Int} (h : zL1 n K V P M LB SB HB KR WR TR SR VR MR) (hn : n < 100) (hk : 0 ≤ k ∧ k ≤ 2) (hw : 0 ≤ w ∧ w ≤ 10000) (ht : 0 ≤ t ∧ t ≤ 10000) (hs : 0 ≤ s ∧ s ≤ 1000) (hl : (k = 2 ∧ l = 0) ∨ (¬ k = 2 ∧ l = w)) (hV : ∀ j, ¬ j = n → V1 j = V j ∧ P1 j = P j ∧ M1 j = M j) (h2 : k = 2 → (V1 n = v ∧ P1 n = w ∧ M1 n = m) ∧ (-10000 ≤ v ∧ v ≤ 10000) ∧ (m = 0 ∨ m = 1)) : zL1 (n + 1) (uZ K n k) V1 P1 M1 (uZ LB (n + 1) (LB n + l)) (uZ SB (n + 1) (SB n + t)) (uZ HB (n + 1) (HB n + s)) (uZ KR n k) (uZ WR n w) (uZ TR n t) (uZ SR n s) (uZ VR n v) (uZ MR n m) := by
  obtain ⟨⟨i1, i2, i3⟩, m1, ⟨s0, s1⟩, r1⟩ := h
  refine ⟨⟨by omega, fun j g1 g2 => ?_, fun j g1 g2 g3 => ?_⟩, fun j g1 g2 => ?_, ⟨?_, fun j g1 g2 => ?_⟩, fun j g1 g2 => ?_⟩
  · by_cases e : j = n
    · rw [e, uZ_s]; exact hk
    · rw [uZ_n _ _ e]; exact i2 j g1 (by omega)
  · by_cases e : j = n
    · rw [e, uZ_s] at g3
      have := h2 g3
      rw [e]; omega
    · rw [uZ_n _ _ e] at g3
      have a := hV j e
      have b := i3 j g1 (by omega) g3
      rw [a.1, a.2.1, a.2.2]; exact b
  · by_cases e : j = n
    · rw [e, uZ_s, uZ_s, uZ_s, uZ_s, uZ_s]
      exact ⟨rfl, fun q => by have := h2 q; omega⟩
    · rw [uZ_n _ _ e, uZ_n _ _ e, uZ_n _ _ e, uZ_n _ _ e, uZ_n _ _ e]
      have a := hV j e
      rw [a.1, a.2.1, a.2.2]
      exact m1 j g1 (by omega)
  · rw [uZ_n _ _ (by omega), uZ_n _ _ (by omega), uZ_n _ _ (by omega)]; exact s0
  · by_cases e : j = n
    · rw [e, uZ_s, uZ_s, uZ_s, uZ_s, uZ_s, uZ_s, uZ_s, uZ_n _ _ (by omega), uZ_n _ _ (by omega), uZ_n _ _ (by omega)]
      rcases hl with ⟨q1, q2⟩ | ⟨q1, q2⟩
      · rw [if_pos q1]; omega
      · rw [if_neg q1]; omega
    · rw [show uZ LB (n + 1) (LB n + l) (j + 1) = LB (j + 1) from uZ_n _ _ (by omega), show uZ LB (n + 1) (LB n + l) (j) = LB (j) from uZ_n _ _ (by omega), show uZ SB (n + 1) (SB n + t) (j + 1) = SB (j + 1) from uZ_n _ _ (by omega), show uZ SB (n + 1) (SB n + t) (j) = SB (j) from uZ_n _ _ (by omega), show uZ HB (n + 1) (HB n + s) (j + 1) = HB (j + 1) from uZ_n _ _ (by omega), show uZ HB (n + 1) (HB n + s) (j) = HB (j) from uZ_n _ _ (by omega), uZ_n _ _ e, uZ_n _ _ e, uZ_n _ _ e, uZ_n _ _ e]
      exact s1 j g1 (by omega)
  · by_cases e : j = n
    · rw [e, uZ_s, uZ_s, uZ_s]; exact ⟨hw, ht, hs⟩
    · rw [uZ_n _ _ e, uZ_n _ _ e, uZ_n _ _ e]; exact r1 j g1 (by omega)
theorem zL1_clear {n : Int} {K V P M LB SB HB KR WR TR SR VR MR : Int → Int} (h : zL1 n K V P M LB SB HB KR WR TR SR VR MR) : zL1 0 K V P M LB SB HB KR WR TR SR VR MR :=
  ⟨⟨by omega, fun j g1 g2 => by omega, fun j g1 g2 => by omega⟩, fun j g1 g2 => by omega, ⟨h.2.2.1.1, fun j g1 g2 => by omega⟩, fun j g1 g2 => by omega⟩
theorem zL2_w {W T XR YR : Int → Int} {i w : Int} (h : zL2 W T XR YR) (hw : 0 ≤ w ∧ w ≤ 10000) : zL2 (uZ W i w) T (uZ XR i w) YR := by
  refine ⟨fun j g1 g2 => ?_, h.2.1, fun j g1 g2 => ?_, h.2.2.2⟩
  · by_cases e : j = i
    · rw [e, uZ_s]; omega
    · rw [uZ_n _ _ e]; exact h.1 j g1 g2
  · by_cases e : j = i
    · rw [e, uZ_s, uZ_s]
    · rw [uZ_n _ _ e, uZ_n _ _ e]; exact h.2.2.1 j g1 g2
theorem zL2_t {W T XR YR : Int → Int} {x v : Int} (h : zL2 W T XR YR) (hx : (0 ≤ x ∧ x ≤ 2) ∧ ((x = 2 ∧ 0 ≤ v) ∨ (¬ x = 2 ∧ -1 ≤ v)) ∧ v ≤ 10000) : zL2 W (uZ T x v) XR (uZ YR x v) := by
  obtain ⟨h1, h2, h3, h4⟩ := h
  have h5 : x = 0 ∨ x = 1 ∨ x = 2 := by omega
  rcases h5 with rfl | rfl | rfl
  all_goals
    refine ⟨h1, ?_, h3, ?_⟩ <;> simp only [uZ_e, Int.reduceEq, reduceIte, true_and, and_true] <;> omega
theorem zWay_u {n : Int} {K P LB SB HB W : Int → Int} {mo : Int} {d : zDP} {tc : Int} {E Q B U ER LR BR UR : Int → Int} (h1 : zWay n K P LB SB HB W mo d tc E Q B U) (h2 : zWay n K P LB SB HB W mo d tc ER LR BR UR) : ∀ i, 0 ≤ i → i < tc → E i = ER i ∧ Q i = LR i ∧ B i = BR i ∧ U i = UR i := by
  intro i g1 g2
  obtain ⟨k, rfl⟩ := Int.eq_ofNat_of_zero_le g1
  obtain ⟨a1, a2, a3, a4⟩ := h1 k g2
  obtain ⟨b1, b2, b3, b4⟩ := h2 k g2
  exact ⟨a1.trans b1.symm, a2.trans b2.symm, a3.trans b3.symm, a4.trans b4.symm⟩
theorem zTold_u {n : Int} {K V P M LB SB HB W T : Int → Int} {p ex tc td tt sm : Int} {E Q B U ER LR BR UR : Int → Int} (hc : zCi n K V P M LB SB HB W T) (hp : 1 ≤ p ∧ p ≤ 3) (hx : 0 ≤ ex ∧ ex ≤ 50) (h1 : zTold n K V P M LB SB HB W T p ex tc td E Q B U) (h2 : zTold n K V P M LB SB HB W T p ex tt sm ER LR BR UR) : tc = tt ∧ td = sm ∧ zTo tc p E Q B U ER LR BR UR := by
  obtain ⟨a1, a2, a3, a4⟩ := h1
  obtain ⟨b1, b2, b3, b4⟩ := h2
  have e : tc = tt := a2.trans b2.symm
  subst e
  have hb := zVL_in (zEnv_b (zCi_env hc hp hx)) (i := 0) (by omega) (-1) 0
  unfold zNb at hb
  unfold zHas at a1
  exact ⟨rfl, a3.trans b3.symm, ⟨by omega, by omega, by omega⟩, zWay_u a4 b4⟩
theorem zRun_u {n : Int} {K V P M LB SB HB W T : Int → Int} {tc tp td tt po sm : Int} {E Q B U ER LR BR UR : Int → Int} (hc : zCi n K V P M LB SB HB W T) (h1 : zRun n K V P M LB SB HB W T tc tp td E Q B U) (h2 : zRun n K V P M LB SB HB W T tt po sm ER LR BR UR) : tc = tt ∧ tp = po ∧ td = sm ∧ zTo tc tp E Q B U ER LR BR UR := by
  rcases h1 with ⟨p, hp, a1, a2, a3⟩ | ⟨a1, a2, a3, a4⟩
  · rcases h2 with ⟨q, hq, b1, b2, b3⟩ | ⟨b1, -⟩
    · have e : p = q := by
        rcases Int.lt_trichotomy p q with z | z | z
        · exact absurd a3.1 (b1 p hp.1 z)
        · exact z
        · exact absurd b3.1 (a1 q hq.1 z)
      subst e
      obtain ⟨c1, c2, c3⟩ := zTold_u hc hp (by omega) a3 b3
      rw [a2, b2]
      exact ⟨c1, rfl, c2, c3⟩
    · exact absurd a3.1 (b1 p hp.1 hp.2)
  · rcases h2 with ⟨q, hq, b1, b2, b3⟩ | ⟨b1, b2, b3, b4⟩
    · exact absurd b3.1 (a1 q hq.1 hq.2)
    · rw [a2, a3, a4, b2, b3, b4]
      exact ⟨rfl, rfl, rfl, ⟨by omega, by omega, by omega⟩, fun i g1 g2 => by omega⟩
theorem zLo_u {n : Int} {K V P M LB SB HB W T : Int → Int} {x tc tp td c1 p1 t1 r1 tt po sm r2 : Int} {E Q B U E1 Q1 B1 U1 ER LR BR UR E2 L2 B2 U2 : Int → Int} (hc : zCi n K V P M LB SB HB W T) (ho : zTo tc tp E Q B U ER LR BR UR)
    (h1 : ((¬ (1 ≤ x ∧ x ≤ 50) ∨ tc = 0) ∧ E1 = E ∧ Q1 = Q ∧ B1 = B ∧ U1 = U ∧ c1 = tc ∧ p1 = tp ∧ t1 = td ∧ r1 = -1) ∨ ((1 ≤ x ∧ x ≤ 50) ∧ ¬ tc = 0 ∧ ¬ zHas n K V P M LB SB HB W T tp x ∧ E1 = E ∧ Q1 = Q ∧ B1 = B ∧ U1 = U ∧ c1 = tc ∧ p1 = tp ∧ t1 = td ∧ r1 = 0) ∨ ((1 ≤ x ∧ x ≤ 50) ∧ ¬ tc = 0 ∧ zTold n K V P M LB SB HB W T tp x c1 t1 E1 Q1 B1 U1 ∧ p1 = tp ∧ r1 = 1))
    (h2 : ((¬ (1 ≤ x ∧ x ≤ 50) ∨ tp = 0) ∧ E2 = ER ∧ L2 = LR ∧ B2 = BR ∧ U2 = UR ∧ tt = tc ∧ po = tp ∧ sm = td ∧ r2 = -1) ∨ ((1 ≤ x ∧ x ≤ 50) ∧ ¬ tp = 0 ∧ ¬ zHas n K V P M LB SB HB W T tp x ∧ E2 = ER ∧ L2 = LR ∧ B2 = BR ∧ U2 = UR ∧ tt = tc ∧ po = tp ∧ sm = td ∧ r2 = 0) ∨ ((1 ≤ x ∧ x ≤ 50) ∧ ¬ tp = 0 ∧ zTold n K V P M LB SB HB W T tp x tt sm E2 L2 B2 U2 ∧ po = tp ∧ r2 = 1)) : r1 = r2 ∧ c1 = tt ∧ p1 = po ∧ t1 = sm ∧ zTo c1 p1 E1 Q1 B1 U1 E2 L2 B2 U2 := by
  have ho1 := ho.1
  rcases h1 with ⟨a0, rfl, rfl, rfl, rfl, rfl, rfl, rfl, rfl⟩ | ⟨a0, a1, a2, rfl, rfl, rfl, rfl, rfl, rfl, rfl, rfl⟩ | ⟨a0, a1, a2, rfl, rfl⟩
  · rcases h2 with ⟨b0, rfl, rfl, rfl, rfl, rfl, rfl, rfl, rfl⟩ | ⟨b0, b1, -⟩ | ⟨b0, b1, -⟩
    · exact ⟨rfl, rfl, rfl, rfl, ho⟩
    · exfalso; omega
    · exfalso; omega
  · rcases h2 with ⟨b0, -⟩ | ⟨b0, b1, b2, rfl, rfl, rfl, rfl, rfl, rfl, rfl, rfl⟩ | ⟨b0, b1, b2, -⟩
    · exfalso; omega
    · exact ⟨rfl, rfl, rfl, rfl, ho⟩
    · exact absurd b2.1 a2
  · rcases h2 with ⟨b0, -⟩ | ⟨b0, b1, b2, -⟩ | ⟨b0, b1, b2, rfl, rfl⟩
    · exfalso; omega
    · exact absurd a2.1 b2
    · obtain ⟨e1, e2, e3⟩ := zTold_u hc (by omega) (by omega) a2 b2
      exact ⟨rfl, e1, rfl, e2, e3⟩
