/-! the reference's numbers over the class's -/
def zSm (n : Int) (K V P M KR WR VR MR : Int → Int) : Prop := ∀ j, 0 ≤ j → j < n → KR j = K j ∧ (K j = 2 → VR j = V j ∧ WR j = P j ∧ MR j = M j)
def zSu (n : Int) (LB SB HB IR JR GR : Int → Int) : Prop := ∀ j, 0 ≤ j → j ≤ n → IR j = LB j ∧ JR j = SB j ∧ GR j = HB j
def zSs (n : Int) (K LB SB HB WR TR SR : Int → Int) : Prop := (LB 0 = 0 ∧ SB 0 = 0 ∧ HB 0 = 0) ∧ ∀ j, 0 ≤ j → j < n → LB (j + 1) = LB j + (if K j = 2 then 0 else WR j) ∧ SB (j + 1) = SB j + TR j ∧ HB (j + 1) = HB j + SR j
def zSx (W T XR YR : Int → Int) : Prop := (∀ i, 0 ≤ i → i ≤ 49 → XR i = W i) ∧ YR 0 = T 0 ∧ YR 1 = T 1 ∧ YR 2 = T 2
theorem nb_min {K : Int → Int} {n b : Int} (hb : b ≤ n) : ∀ (k : Nat) {j : Int}, (b - j).toNat ≤ k → j ≤ b → nb K b j = min (nb K n j) b := by
  intro k
  induction k with
  | zero =>
    intro j h1 h2
    have := nb_le (K := K) (e := n) (j := j) (by omega)
    rw [nb_end (by omega)]; omega
  | succ k ih =>
    intro j h1 h2
    by_cases hj : b ≤ j
    · have := nb_le (K := K) (e := n) (j := j) (by omega)
      rw [nb_end hj]; omega
    · by_cases hk : K j = 0
      · rw [nb_box hk, nb_box hk]; omega
      · rw [nb_go (by omega) hk, nb_go (e := n) (by omega) hk]
        exact ih (by omega) (by omega)
theorem zSt_b {K : Int → Int} {n a b : Int} (ha : 0 ≤ a) (hb : a < b ∧ b ≤ n) : nb K b (a + 1) = min (zSt K n a) b := by
  unfold zSt
  rw [if_neg (by omega)]
  exact nb_min hb.2 _ (Nat.le_refl _) (by omega)
/-- a line that is one, by its numbers -/
def zFl (n : Int) (K P LB SB HB W : Int → Int) (tol mo a b i : Int) : Prop := zOk (lLk n K P LB W a b i) (lSh n K HB a b) ∧ lUg n K P LB SB HB W mo a b i ≤ tol
theorem zq_100 {x y : Int} (h0 : 0 ≤ x) (h : x ≤ y) (hy : 0 < y) : (100 * x).tdiv y ≤ 100 := by
  rw [Int.tdiv_eq_ediv_of_nonneg (by omega)]
  exact Int.ediv_le_of_le_mul hy (by omega)
theorem cube_mono {x y : Int} (h0 : 0 ≤ x) (h : x ≤ y) : x * x * x ≤ y * y * y := (cube_in h0 h).2
/-- a cell of the reference's three rows -/
def zRc (C R N : Int → Int) (p i c : Int) (x : z3) : Prop := R (((p + 1) * 51 + i) * 4 + c) = x.2.1 ∧ (x.2.1 ≠ 0 → C (((p + 1) * 51 + i) * 4 + c) = x.1 ∧ N (((p + 1) * 51 + i) * 4 + c) = x.2.2)
theorem zRc_kept {C R N C1 R1 N1 : Int → Int} {p i c : Int} {x : z3} (h : zRc C R N p i c x) (h1 : C1 (((p + 1) * 51 + i) * 4 + c) = C (((p + 1) * 51 + i) * 4 + c)) (h2 : R1 (((p + 1) * 51 + i) * 4 + c) = R (((p + 1) * 51 + i) * 4 + c)) (h3 : N1 (((p + 1) * 51 + i) * 4 + c) = N (((p + 1) * 51 + i) * 4 + c)) : zRc C1 R1 N1 p i c x := by
  unfold zRc; rw [h1, h2, h3]; exact h
/-- only the four cells from base on differ -/
def zF4 (base : Int) (C R N C1 R1 N1 : Int → Int) : Prop := ∀ x, x < base ∨ base + 4 ≤ x → C1 x = C x ∧ R1 x = R x ∧ N1 x = N x
def zR4 (d : zDP) (a i : Int) (j : Nat) (C R N : Int → Int) : Prop := ∀ c, 0 ≤ c → c ≤ 3 → zRc C R N a i c (zF d (zVL d (i + 1)) i a c j)
theorem zR4_no {d : zDP} {a b i : Int} {j j' : Nat} {C R N : Int → Int} (hj : b = a + 1 + j) (hj' : j' = j + 1) (h : zR4 d a i j C R N) (hf : ¬ zOkc d (zVL d (i + 1)) i a b) : zR4 d a i j' C R N := by
  intro c h1 h2
  rw [zF_f hj hj' hf]; exact h c h1 h2
/-- the candidate is entered for the classes below u -/
def zR5 (d : zDP) (a i u : Int) (j j' : Nat) (C R N : Int → Int) : Prop := ∀ c, 0 ≤ c → c ≤ 3 → (c < u → zRc C R N a i c (zF d (zVL d (i + 1)) i a c j')) ∧ (u ≤ c → zRc C R N a i c (zF d (zVL d (i + 1)) i a c j))
theorem zR5_y {d : zDP} {a b i u cs ls : Int} {j j' : Nat} {C R N : Int → Int} (hj : b = a + 1 + j) (hj' : j' = j + 1) (hu : 0 ≤ u ∧ u ≤ 3) (h : zR5 d a i u j j' C R N) (hok : zOkc d (zVL d (i + 1)) i a b) (hc : cs = (zY d (zVL d (i + 1)) i a u b).1) (hl : ls = (zY d (zVL d (i + 1)) i a u b).2.1)
    (hb : R (((a + 1) * 51 + i) * 4 + u) = 0 ∨ cs < C (((a + 1) * 51 + i) * 4 + u) ∨ (cs = C (((a + 1) * 51 + i) * 4 + u) ∧ ls < R (((a + 1) * 51 + i) * 4 + u))) : zR5 d a i (u + 1) j j' (uZ C (((a + 1) * 51 + i) * 4 + u) cs) (uZ R (((a + 1) * 51 + i) * 4 + u) ls) (uZ N (((a + 1) * 51 + i) * 4 + u) b) := by
  intro c h1 h2
  by_cases e : c = u
  · subst e
    refine ⟨fun _ => ?_, fun q => by omega⟩
    have h0 := (h c h1 h2).2 (by omega)
    have hbt : zBt (zF d (zVL d (i + 1)) i a c j) (zY d (zVL d (i + 1)) i a c b) := by
      unfold zBt
      by_cases z : (zF d (zVL d (i + 1)) i a c j).2.1 = 0
      · exact Or.inl z
      · have h3 := h0.2 z
        have h4 := h0.1
        rw [h4, h3.1, hc, hl] at hb
        rcases hb with q | q | q
        · exact absurd q z
        · exact Or.inr (Or.inl q)
        · exact Or.inr (Or.inr q)
    rw [zF_t hj hj' hok hbt]
    unfold zRc
    rw [uZ_s, uZ_s, uZ_s, hc, hl]
    exact ⟨rfl, fun _ => ⟨rfl, rfl⟩⟩
  · have hk : zRc (uZ C (((a + 1) * 51 + i) * 4 + u) cs) (uZ R (((a + 1) * 51 + i) * 4 + u) ls) (uZ N (((a + 1) * 51 + i) * 4 + u) b) a i c = zRc C R N a i c := by
      funext x
      unfold zRc
      rw [uZ_n _ _ (by omega), uZ_n _ _ (by omega), uZ_n _ _ (by omega)]
    rw [hk]
    exact ⟨fun q => (h c h1 h2).1 (by omega), fun q => (h c h1 h2).2 (by omega)⟩
theorem zR5_x {d : zDP} {a b i u cs ls : Int} {j j' : Nat} {C R N : Int → Int} (hj : b = a + 1 + j) (hj' : j' = j + 1) (hu : 0 ≤ u ∧ u ≤ 3) (h : zR5 d a i u j j' C R N) (hc : cs = (zY d (zVL d (i + 1)) i a u b).1) (hl : ls = (zY d (zVL d (i + 1)) i a u b).2.1)
    (hb : ¬ (R (((a + 1) * 51 + i) * 4 + u) = 0 ∨ cs < C (((a + 1) * 51 + i) * 4 + u) ∨ (cs = C (((a + 1) * 51 + i) * 4 + u) ∧ ls < R (((a + 1) * 51 + i) * 4 + u)))) : zR5 d a i (u + 1) j j' C R N := by
  intro c h1 h2
  by_cases e : c = u
  · subst e
    refine ⟨fun _ => ?_, fun q => by omega⟩
    have h0 := (h c h1 h2).2 (by omega)
    have hbt : ¬ zBt (zF d (zVL d (i + 1)) i a c j) (zY d (zVL d (i + 1)) i a c b) := by
      intro q
      unfold zBt at q
      apply hb
      rw [h0.1]
      rcases q with q | q
      · exact Or.inl q
      · by_cases z : (zF d (zVL d (i + 1)) i a c j).2.1 = 0
        · exact Or.inl z
        · have h3 := h0.2 z
          rw [h3.1, hc, hl]
          exact Or.inr q
    rw [zF_n hj hj' hbt]
    exact h0
  · exact ⟨fun q => (h c h1 h2).1 (by omega), fun q => (h c h1 h2).2 (by omega)⟩
theorem zR5_0 {d : zDP} {a i : Int} {j j' : Nat} {C R N : Int → Int} (h : zR4 d a i j C R N) : zR5 d a i 0 j j' C R N := fun c h1 h2 => ⟨fun q => by omega, fun _ => h c h1 h2⟩
theorem zR5_4 {d : zDP} {a i u : Int} {j j' : Nat} {C R N : Int → Int} (hu : 4 ≤ u) (h : zR5 d a i u j j' C R N) : zR4 d a i j' C R N := fun c h1 h2 => (h c h1 h2).1 (by omega)
theorem zF4_tr {base : Int} {C R N C1 R1 N1 C2 R2 N2 : Int → Int} (h : zF4 base C R N C1 R1 N1) (h2 : zF4 base C1 R1 N1 C2 R2 N2) : zF4 base C R N C2 R2 N2 := fun x hx => ⟨(h2 x hx).1.trans (h x hx).1, (h2 x hx).2.1.trans (h x hx).2.1, (h2 x hx).2.2.trans (h x hx).2.2⟩
theorem zF4_0 {base : Int} {C R N : Int → Int} : zF4 base C R N C R N := fun _ _ => ⟨rfl, rfl, rfl⟩
theorem zF4_u {base e cs ls b : Int} {C R N C1 R1 N1 : Int → Int} (h : zF4 base C R N C1 R1 N1) (he : base ≤ e ∧ e < base + 4) : zF4 base C R N (uZ C1 e cs) (uZ R1 e ls) (uZ N1 e b) := fun x hx => by
  rw [uZ_n _ _ (by omega), uZ_n _ _ (by omega), uZ_n _ _ (by omega)]; exact h x hx
/-- the last break of a row has been tried: no line is behind it -/
theorem zR4_end {n : Int} {K V P M LB SB HB W : Int → Int} {tol mo mt ex : Int} {a b i : Int} {C R N : Int → Int} (hi : 0 ≤ i ∧ i ≤ 49) (hb : a < b ∧ b ≤ n) (hm : b = n ∨ zMust K V n b) (h : zR4 (zMk n K V P M LB SB HB W tol mo mt ex) a i (b - a).toNat C R N) : ∀ c, 0 ≤ c → c ≤ 3 → zRc C R N a i c (zVL (zMk n K V P M LB SB HB W tol mo mt ex) i a c) := by
  intro c h3 h4
  rw [zVL_go _ hi]
  show zRc C R N a i c (zF (zMk n K V P M LB SB HB W tol mo mt ex) (zVL (zMk n K V P M LB SB HB W tol mo mt ex) (i + 1)) i a c (n - a).toNat)
  rw [zF_stop (b - a).toNat (fun b' hb' hf => ?_) (n - a).toNat (by omega)]
  · exact h c h3 h4
  · obtain ⟨g1, g2, g3, -⟩ : zFit n K V P M LB SB HB W tol mo mt a b' i := hf
    rcases hm with e | e
    · omega
    · exact g3 b hb.1 (by omega) e
/-- the rows of line numbers above i are made -/
def zO1 (d : zDP) (K V M : Int → Int) (n mt i : Int) (C R N : Int → Int) : Prop := ∀ p k c, i < k → k ≤ 49 → ((p = -1 ∧ k = 0) ∨ (0 ≤ p ∧ p < n ∧ zMay K V M n p mt ∧ 1 ≤ k)) → 0 ≤ c → c ≤ 3 → zRc C R N p k c (zVL d k p c)
def zO2 (n i : Int) (R : Int → Int) : Prop := ∀ p k c, -1 ≤ p → p < n → 0 ≤ k → k ≤ i → 0 ≤ c → c ≤ 3 → R (((p + 1) * 51 + k) * 4 + c) = 0
/-- in line number i: the breaks below a are done -/
def zN1 (d : zDP) (K V M : Int → Int) (n mt i a : Int) (C R N : Int → Int) : Prop := ∀ p c, p < a → ((p = -1 ∧ i = 0) ∨ (0 ≤ p ∧ p < n ∧ zMay K V M n p mt ∧ 1 ≤ i)) → 0 ≤ c → c ≤ 3 → zRc C R N p i c (zVL d i p c)
def zN2 (n i a : Int) (R : Int → Int) : Prop := ∀ p c, a ≤ p → -1 ≤ p → p < n → 0 ≤ c → c ≤ 3 → R (((p + 1) * 51 + i) * 4 + c) = 0
def zOO (d : zDP) (K V M : Int → Int) (n mt i a : Int) (C R N : Int → Int) : Prop := zO1 d K V M n mt i C R N ∧ zO2 n (i - 1) R ∧ zN1 d K V M n mt i a C R N ∧ zN2 n i a R
theorem zOO_go {d : zDP} {K V M : Int → Int} {n mt i a : Int} {C R N C1 R1 N1 : Int → Int} (hi : 0 ≤ i ∧ i ≤ 49) (ha : -1 ≤ a ∧ (a < n ∨ a = -1)) (h : zOO d K V M n mt i a C R N) (hF : zF4 (((a + 1) * 51 + i) * 4) C R N C1 R1 N1) (hR : ∀ c, 0 ≤ c → c ≤ 3 → zRc C1 R1 N1 a i c (zVL d i a c)) : zOO d K V M n mt i (a + 1) C1 R1 N1 := by
  refine ⟨fun p k c g1 g2 g3 g4 g5 => ?_, fun p k c g1 g2 g3 g4 g5 g6 => ?_, fun p c g1 g2 g3 g4 => ?_, fun p c g1 g2 g3 g4 g5 => ?_⟩
  · have := hF (((p + 1) * 51 + k) * 4 + c) (by omega)
    exact zRc_kept (h.1 p k c g1 g2 g3 g4 g5) this.1 this.2.1 this.2.2
  · rw [(hF _ (by omega)).2.1]; exact h.2.1 p k c g1 g2 g3 g4 g5 g6
  · by_cases e : p = a
    · subst e; exact hR c g3 g4
    · have := hF (((p + 1) * 51 + i) * 4 + c) (by omega)
      exact zRc_kept (h.2.2.1 p c (by omega) g2 g3 g4) this.1 this.2.1 this.2.2
  · rw [(hF _ (by omega)).2.1]; exact h.2.2.2 p c (by omega) g2 g3 g4 g5
theorem zOO_no {d : zDP} {K V M : Int → Int} {n mt i a : Int} {C R N : Int → Int} (h : zOO d K V M n mt i a C R N) (ha : ¬ zMay K V M n a mt) (h0 : 0 ≤ a) : zOO d K V M n mt i (a + 1) C R N := by
  refine ⟨h.1, h.2.1, fun p c g1 g2 g3 g4 => ?_, fun p c g1 g2 g3 g4 g5 => h.2.2.2 p c (by omega) g2 g3 g4 g5⟩
  by_cases e : p = a
  · subst e
    rcases g2 with g | g
    · omega
    · exact absurd g.2.2.1 ha
  · exact h.2.2.1 p c (by omega) g2 g3 g4
theorem zOO_next {d : zDP} {K V M : Int → Int} {n mt i a : Int} {C R N : Int → Int} (h : zOO d K V M n mt i a C R N) (ha : (i = 0 ∧ 0 ≤ a) ∨ (¬ i = 0 ∧ n ≤ a)) : zO1 d K V M n mt (i - 1) C R N ∧ zO2 n (i - 1) R := by
  refine ⟨fun p k c g1 g2 g3 g4 g5 => ?_, h.2.1⟩
  by_cases e : k = i
  · subst e
    exact h.2.2.1 p c (by omega) g3 g4 g5
  · exact h.1 p k c (by omega) g2 g3 g4 g5
theorem zOO_0 {d : zDP} {K V M : Int → Int} {n mt i a : Int} {C R N : Int → Int} (h : zO1 d K V M n mt i C R N ∧ zO2 n i R) (hi : 0 ≤ i) (ha : (i = 0 ∧ a = -1) ∨ (¬ i = 0 ∧ a = 0)) : zOO d K V M n mt i a C R N := by
  refine ⟨h.1, fun p k c g1 g2 g3 g4 => h.2 p k c g1 g2 g3 (by omega), fun p c g1 g2 => ?_, fun p c g1 g2 g3 g4 g5 => h.2 p i c g2 g3 hi (by omega) g4 g5⟩
  omega
theorem zO1_0 {d : zDP} {K V M : Int → Int} {n mt ex la : Int} {C R N : Int → Int} (hx : d.2.1 = ex) (h0 : (0 < ex ∧ la = ex) ∨ (ex = 0 ∧ la = 50)) (hex : ex ≤ 50) (hn : n ≤ 100) (hR : ∀ x, 0 ≤ x → x < 20604 → R x = 0) : zO1 d K V M n mt (la - 1) C R N ∧ zO2 n (la - 1) R := by
  refine ⟨fun p k c g1 g2 g3 g4 g5 => ?_, fun p k c g1 g2 g3 g4 g5 g6 => hR _ (by omega) (by omega)⟩
  rcases h0 with h | h
  · rw [zVL_ex (by omega) (by omega) (by omega)]
    refine ⟨?_, fun q => absurd rfl q⟩
    show R _ = 0
    rcases g3 with g | g
    · exact hR _ (by omega) (by omega)
    · exact hR _ (by omega) (by omega)
  · omega
