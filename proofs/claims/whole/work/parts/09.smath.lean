/-! the search's numbers: a line from a to b with number i; what the rows of costs hold -/
def lLk (n : Int) (K P LB W : Int → Int) (a b i : Int) : Int := zLk n K P LB (zSt K n a) b (W i)
def lSh (n : Int) (K HB : Int → Int) (a b : Int) : Int := HB b - HB (min (zSt K n a) b)
def lSt (n : Int) (K SB : Int → Int) (mo a b : Int) : Int := SB b - SB (min (zSt K n a) b) + mo
def lUg (n : Int) (K P LB SB HB W : Int → Int) (mo a b i : Int) : Int := zUg n b (lLk n K P LB W a b i) (lSt n K SB mo a b) (lSh n K HB a b)
def lCl (n : Int) (K P LB SB HB W : Int → Int) (mo a b i : Int) : Int := zCl n b (lLk n K P LB W a b i) (lSt n K SB mo a b) (lSh n K HB a b)
/-- demerits of a line of that ugliness -/
def zDm (n : Int) (K V M : Int → Int) (a b ug : Int) : Int := (10 + ug) * (10 + ug) + zPen K V n b + (if (0 ≤ a ∧ a < n ∧ K a = 2 ∧ M a = 1) ∧ (0 ≤ b ∧ b < n ∧ K b = 2 ∧ M b = 1) then 3000 else 0)
def zFit (n : Int) (K V P M LB SB HB W : Int → Int) (tol mo mt a b i : Int) : Prop := (-1 ≤ a ∧ a < b ∧ b ≤ n) ∧ zMay K V M n b mt ∧ (∀ m, a < m → m < b → ¬ zMust K V n m) ∧ zOk (lLk n K P LB W a b i) (lSh n K HB a b) ∧ lUg n K P LB SB HB W mo a b i ≤ tol
def zMk (n : Int) (K V P M LB SB HB W : Int → Int) (tol mo mt ex : Int) : zDP := (n, ex, zFit n K V P M LB SB HB W tol mo mt, fun a b i => zDm n K V M a b (lUg n K P LB SB HB W mo a b i), fun a b i => lCl n K P LB SB HB W mo a b i)
/-- what is fixed while one pass searches -/
def zEnv (n : Int) (K V P M LB SB HB W T : Int → Int) (ps mt ex : Int) (d : zDP) : Prop := zIok n K V P M ∧ zPok n LB SB HB ∧ (∀ i, 0 ≤ i → i ≤ 49 → 0 ≤ W i ∧ W i ≤ 20000) ∧ ((-1 ≤ T 0 ∧ T 0 ≤ 10000) ∧ (-1 ≤ T 1 ∧ T 1 ≤ 10000) ∧ (0 ≤ T 2 ∧ T 2 ≤ 10000)) ∧ (1 ≤ ps ∧ ps ≤ 3) ∧ (mt = 0 ∨ mt = 1) ∧ (mt = 1 ↔ ¬ ps = 1) ∧ (0 ≤ ex ∧ ex ≤ 50) ∧ d = zMk n K V P M LB SB HB W (if ps = 1 then T 0 else T 1) (if ps = 3 then T 2 else 0) mt ex
theorem zUg_in {n e lk st sh : Int} : 0 ≤ zUg n e lk st sh ∧ zUg n e lk st sh ≤ 10000 := by
  unfold zUg
  split
  · exact zBad_in (by omega)
  · split
    · omega
    · exact zBad_in (by omega)
theorem zCl_in {n e lk st sh : Int} : 0 ≤ zCl n e lk st sh ∧ zCl n e lk st sh ≤ 3 := by
  unfold zCl zWid
  split
  · split <;> omega
  · split
    · omega
    · split
      · omega
      · split <;> omega
theorem sq_in {x b : Int} (h0 : 0 ≤ x) (h : x ≤ b) : 0 ≤ x * x ∧ x * x ≤ b * b := ⟨Int.mul_nonneg h0 h0, Int.mul_le_mul h h h0 (by omega)⟩
theorem zPen_in {n : Int} {K V P M : Int → Int} (h : zIok n K V P M) {b : Int} (hb : 0 ≤ b) : -100000000 ≤ zPen K V n b ∧ zPen K V n b ≤ 100000000 := by
  unfold zPen
  split
  · next q =>
    have hv := h.2.2 b hb q.1 q.2.1
    split
    · have := sq_in (x := -V b) (b := 10000) (by omega) (by omega)
      rw [Int.neg_mul] at this ⊢
      rw [Int.mul_neg] at this
      omega
    · have := sq_in (x := V b) (b := 10000) (by omega) (by omega)
      omega
  · omega
theorem zDm_in {n : Int} {K V P M : Int → Int} (h : zIok n K V P M) {a b ug : Int} (hb : 0 ≤ b) (hu : 0 ≤ ug ∧ ug ≤ 10000) : -290000000 ≤ zDm n K V M a b ug ∧ zDm n K V M a b ug ≤ 290000000 := by
  have h1 := zPen_in h hb
  have h2 := sq_in (x := 10 + ug) (b := 10010) (by omega) (by omega)
  unfold zDm
  split <;> omega
theorem zMk_b {n : Int} {K V P M LB SB HB W : Int → Int} {tol mo mt ex : Int} (h : zIok n K V P M) : zDb (zMk n K V P M LB SB HB W tol mo mt ex) := by
  intro a b i hf
  exact zDm_in h (by have := hf.1; omega) zUg_in
theorem zEnv_b {n : Int} {K V P M LB SB HB W T : Int → Int} {ps mt ex : Int} {d : zDP} (h : zEnv n K V P M LB SB HB W T ps mt ex d) : zDb d := by
  obtain ⟨h1, -, -, -, -, -, -, -, rfl⟩ := h
  exact zMk_b h1
/-- what the line object holds -/
def zMeas (n : Int) (K P LB SB HB W : Int → Int) (mo a b i l u k dd : Int) : Prop := l = lLk n K P LB W a b i ∧ (zOk (lLk n K P LB W a b i) (lSh n K HB a b) → dd = 1 ∧ u = lUg n K P LB SB HB W mo a b i ∧ k = lCl n K P LB SB HB W mo a b i) ∧ (¬ zOk (lLk n K P LB W a b i) (lSh n K HB a b) → dd = 0)
theorem zMeas_same {n : Int} {K P LB SB HB W : Int → Int} {mo a b i i' l u k dd : Int} (h : zMeas n K P LB SB HB W mo a b i l u k dd) (hw : W i' = W i) : zMeas n K P LB SB HB W mo a b i' l u k dd := by
  unfold zMeas lUg lCl lLk at *
  rw [hw]
  exact h
theorem zMeas_01 {n : Int} {K P LB SB HB W : Int → Int} {mo a b i l u k dd : Int} (h : zMeas n K P LB SB HB W mo a b i l u k dd) : (dd = 0 ∨ dd = 1) ∧ (dd = 1 → zOk (lLk n K P LB W a b i) (lSh n K HB a b) ∧ u = lUg n K P LB SB HB W mo a b i ∧ k = lCl n K P LB SB HB W mo a b i ∧ (0 ≤ u ∧ u ≤ 10000) ∧ (0 ≤ k ∧ k ≤ 3)) := by
  by_cases q : zOk (lLk n K P LB W a b i) (lSh n K HB a b)
  · obtain ⟨g1, g2, g3⟩ := h.2.1 q
    refine ⟨Or.inr g1, fun _ => ⟨q, g2, g3, ?_, ?_⟩⟩
    · rw [g2]; exact zUg_in
    · rw [g3]; exact zCl_in
  · have := h.2.2 q
    exact ⟨Or.inl this, fun e => by omega⟩
def zNW : Int := 9223372036854775807
/-- a cell of the two rows holds x -/
def zCc (C N : Int → Int) (p i c : Int) (x : z3) : Prop := (x.2.1 = 0 → C (((p + 1) * 51 + i) * 4 + c) = 9223372036854775807) ∧ (x.2.1 ≠ 0 → C (((p + 1) * 51 + i) * 4 + c) = 64 * x.1 + x.2.1 ∧ N (((p + 1) * 51 + i) * 4 + c) = x.2.2)
/-- what is left to do behind a break at b with i lines -/
def zRst (d : zDP) (C : Int → Int) (b i s : Int) : Prop := (b = d.1 → ((d.2.1 = 0 ∨ i = d.2.1) → C (((b + 1) * 51 + i) * 4 + s) = 0) ∧ (¬ (d.2.1 = 0 ∨ i = d.2.1) → C (((b + 1) * 51 + i) * 4 + s) = 9223372036854775807)) ∧ (b ≠ d.1 → ((zVL d i b s).2.1 = 0 → C (((b + 1) * 51 + i) * 4 + s) = 9223372036854775807) ∧ ((zVL d i b s).2.1 ≠ 0 → C (((b + 1) * 51 + i) * 4 + s) = 64 * (zVL d i b s).1 + (zVL d i b s).2.1))
theorem zRst_in {d : zDP} (hB : zDb d) {C : Int → Int} {b i s : Int} (hi : 0 ≤ i ∧ i ≤ 50) (h : zRst d C b i s) : C (((b + 1) * 51 + i) * 4 + s) = 9223372036854775807 ∨ (-1000000000000 ≤ C (((b + 1) * 51 + i) * 4 + s) ∧ C (((b + 1) * 51 + i) * 4 + s) ≤ 1000000000000) := by
  by_cases e : b = d.1
  · have h1 := h.1 e
    by_cases q : d.2.1 = 0 ∨ i = d.2.1
    · have := h1.1 q; omega
    · exact Or.inl (h1.2 q)
  · have h1 := h.2 e
    have hb := zVL_in hB hi b s
    unfold zNb at hb
    by_cases q : (zVL d i b s).2.1 = 0
    · exact Or.inl (h1.1 q)
    · have := h1.2 q; omega
theorem zCc_in {d : zDP} (hB : zDb d) {C N : Int → Int} {p i c : Int} {k : Int} {x : z3} (hk : k ≤ 50) (hx : zNb k x) (h : zCc C N p i c x) : C (((p + 1) * 51 + i) * 4 + c) = 9223372036854775807 ∨ (-1000000000000 ≤ C (((p + 1) * 51 + i) * 4 + c) ∧ C (((p + 1) * 51 + i) * 4 + c) ≤ 1000000000000) := by
  unfold zNb at hx
  by_cases q : x.2.1 = 0
  · exact Or.inl (h.1 q)
  · have := (h.2 q).1; omega
/-- a whole way's cost -/
def zWh (a c lo rest E : Int) : Int := rest + 1 + 64 * E + (if 0 ≤ a ∧ (1 < lo - c ∨ 1 < c - lo) then 128000 else 0)
theorem zWh_t {a c lo rest E : Int} (h : 0 ≤ a) (h2 : 1 < c - lo ∨ 1 < lo - c) : rest + 1 + 64 * E + 128000 = zWh a c lo rest E := by unfold zWh; rw [if_pos (by omega)]
theorem zWh_f {a c lo rest E : Int} (h : ¬ (0 ≤ a ∧ (1 < c - lo ∨ 1 < lo - c))) : rest + 1 + 64 * E = zWh a c lo rest E := by unfold zWh; rw [if_neg (by omega)]; omega
/-- a line is entered for the classes below u -/
def zEnt (u a b base rest E lo : Int) (C N C1 N1 : Int → Int) : Prop := (∀ x, x < base ∨ base + u ≤ x → C1 x = C x ∧ N1 x = N x) ∧ ∀ c, 0 ≤ c → c < u → (zWh a c lo rest E < C (base + c) → C1 (base + c) = zWh a c lo rest E ∧ N1 (base + c) = b) ∧ (¬ zWh a c lo rest E < C (base + c) → C1 (base + c) = C (base + c) ∧ N1 (base + c) = N (base + c))
theorem zEnt_0 {a b base rest E lo : Int} {C N : Int → Int} : zEnt 0 a b base rest E lo C N C N := ⟨fun _ _ => ⟨rfl, rfl⟩, fun c h1 h2 => by omega⟩
theorem zEnt_y {u a b base rest E lo w : Int} {C N C1 N1 : Int → Int} (hu : 0 ≤ u) (h : zEnt u a b base rest E lo C N C1 N1) (hw : w = zWh a u lo rest E) (hlt : w < C (base + u)) : zEnt (u + 1) a b base rest E lo C N (uZ C1 (base + u) w) (uZ N1 (base + u) b) := by
  subst hw
  refine ⟨fun x hx => ?_, fun c h1 h2 => ?_⟩
  · rw [uZ_n _ _ (by omega), uZ_n _ _ (by omega)]
    exact h.1 x (by omega)
  · by_cases e : c = u
    · subst e
      rw [uZ_s, uZ_s]
      exact ⟨fun _ => ⟨rfl, rfl⟩, fun q => absurd hlt q⟩
    · rw [uZ_n _ _ (by omega), uZ_n _ _ (by omega)]
      exact h.2 c h1 (by omega)
theorem zEnt_x {u a b base rest E lo w : Int} {C N C1 N1 : Int → Int} (hu : 0 ≤ u) (h : zEnt u a b base rest E lo C N C1 N1) (hw : w = zWh a u lo rest E) (hlt : ¬ w < C (base + u)) : zEnt (u + 1) a b base rest E lo C N C1 N1 := by
  subst hw
  refine ⟨fun x hx => h.1 x (by omega), fun c h1 h2 => ?_⟩
  by_cases e : c = u
  · subst e
    have := h.1 (base + c) (by omega)
    exact ⟨fun q => absurd q hlt, fun _ => this⟩
  · exact h.2 c h1 (by omega)
/-- one candidate more in a cell: the end b of a line from a, entered -/
theorem zCc_ent {d : zDP} (hB : zDb d) {C N C1 N1 : Int → Int} {a b i c : Int} {j j' : Nat} (hi : 0 ≤ i ∧ i ≤ 49) (hc : 0 ≤ c ∧ c ≤ 3) (ha : -1 ≤ a) (hj : b = a + 1 + j) (hj' : j' = j + 1) (h : zCc C N a i c (zF d (zVL d (i + 1)) i a c j)) (hf : d.2.2.1 a b i) (hr : zRst d C b (i + 1) (d.2.2.2.2 a b i))
    (h1 : C (((b + 1) * 51 + (i + 1)) * 4 + d.2.2.2.2 a b i) = 9223372036854775807 → C1 = C ∧ N1 = N)
    (h2 : ¬ C (((b + 1) * 51 + (i + 1)) * 4 + d.2.2.2.2 a b i) = 9223372036854775807 → zEnt 4 a b (((a + 1) * 51 + i) * 4) (C (((b + 1) * 51 + (i + 1)) * 4 + d.2.2.2.2 a b i)) (d.2.2.2.1 a b i) (d.2.2.2.2 a b i) C N C1 N1) : zCc C1 N1 a i c (zF d (zVL d (i + 1)) i a c j') := by
  have hin := zF_in2 hB hi a c j
  have hy := zY_in hB (Vk := zVL d (i + 1)) (k := 50 - (i + 1)) (by omega) (fun b s => zVL_in hB (by omega) b s) (i := i) (a := a) (c := c) (b := b) hf
  by_cases q : C (((b + 1) * 51 + (i + 1)) * 4 + d.2.2.2.2 a b i) = 9223372036854775807
  · obtain ⟨rfl, rfl⟩ := h1 q
    rw [zF_f hj hj' (fun k => ?_)]
    · exact h
    · by_cases e : b = d.1
      · have := (hr.1 e).1 (k.2.1 e); omega
      · have hk := (hr.2 e).2 (k.2.2 e)
        have hb := zVL_in hB (i := i + 1) (by omega) b (d.2.2.2.2 a b i)
        unfold zNb at hb
        omega
  · have hE := h2 q
    have hok : zOkc d (zVL d (i + 1)) i a b := by
      refine ⟨hf, fun e => ?_, fun e z => q ((hr.2 e).1 z)⟩
      by_cases z : d.2.1 = 0 ∨ i + 1 = d.2.1
      · exact z
      · exact absurd ((hr.1 e).2 z) q
    have hrs : C (((b + 1) * 51 + (i + 1)) * 4 + d.2.2.2.2 a b i) = 64 * (zRs d (zVL d (i + 1)) b (d.2.2.2.2 a b i)).1 + (zRs d (zVL d (i + 1)) b (d.2.2.2.2 a b i)).2.1 := by
      unfold zRs
      by_cases e : b = d.1
      · rw [if_pos e]; have := (hr.1 e).1 (hok.2.1 e); show _ = 64 * (0 : Int) + 0; omega
      · rw [if_neg e]; exact (hr.2 e).2 (hok.2.2 e)
    have hwh : zWh a c (d.2.2.2.2 a b i) (C (((b + 1) * 51 + (i + 1)) * 4 + d.2.2.2.2 a b i)) (d.2.2.2.1 a b i) = 64 * (zY d (zVL d (i + 1)) i a c b).1 + (zY d (zVL d (i + 1)) i a c b).2.1 := by
      rw [hrs]
      unfold zWh zY
      dsimp only
      split <;> omega
    have hE2 := hE.2 c hc.1 (by omega)
    rw [hwh] at hE2
    unfold zNb at hin hy
    by_cases z : zBt (zF d (zVL d (i + 1)) i a c j) (zY d (zVL d (i + 1)) i a c b)
    · rw [zF_t hj hj' hok z]
      have hlt : 64 * (zY d (zVL d (i + 1)) i a c b).1 + (zY d (zVL d (i + 1)) i a c b).2.1 < C (((a + 1) * 51 + i) * 4 + c) := by
        by_cases z0 : (zF d (zVL d (i + 1)) i a c j).2.1 = 0
        · rw [h.1 z0]; omega
        · rw [(h.2 z0).1]
          unfold zBt at z
          omega
      have := hE2.1 hlt
      exact ⟨fun k => by omega, fun _ => ⟨this.1, this.2⟩⟩
    · rw [zF_n hj hj' z]
      have hlt : ¬ 64 * (zY d (zVL d (i + 1)) i a c b).1 + (zY d (zVL d (i + 1)) i a c b).2.1 < C (((a + 1) * 51 + i) * 4 + c) := by
        unfold zBt at z
        have z0 : ¬ (zF d (zVL d (i + 1)) i a c j).2.1 = 0 := fun k => z (Or.inl k)
        rw [(h.2 z0).1]
        omega
      have := hE2.2 hlt
      unfold zCc
      rw [this.1, this.2]
      exact h
/-- no line to b: the cell stays -/
theorem zCc_no {d : zDP} {C N : Int → Int} {a b i c : Int} {j j' : Nat} (hj : b = a + 1 + j) (hj' : j' = j + 1) (h : zCc C N a i c (zF d (zVL d (i + 1)) i a c j)) (hf : ¬ d.2.2.1 a b i) : zCc C N a i c (zF d (zVL d (i + 1)) i a c j') := by
  rw [zF_f hj hj' (fun k => hf k.1)]; exact h
theorem zCc_kept {C N C1 N1 : Int → Int} {p i c : Int} {x : z3} (h : zCc C N p i c x) (h1 : C1 (((p + 1) * 51 + i) * 4 + c) = C (((p + 1) * 51 + i) * 4 + c)) (h2 : N1 (((p + 1) * 51 + i) * 4 + c) = N (((p + 1) * 51 + i) * 4 + c)) : zCc C1 N1 p i c x := by
  unfold zCc; rw [h1, h2]; exact h
theorem zRst_kept {d : zDP} {C C1 : Int → Int} {b i s : Int} (h : zRst d C b i s) (h1 : C1 (((b + 1) * 51 + i) * 4 + s) = C (((b + 1) * 51 + i) * 4 + s)) : zRst d C1 b i s := by
  unfold zRst; rw [h1]; exact h
theorem zCc_rst {d : zDP} {C N : Int → Int} {b i s : Int} (hb : b ≠ d.1) (h : zCc C N b i s (zVL d i b s)) : zRst d C b i s := ⟨fun e => absurd e hb, fun _ => ⟨h.1, fun q => (h.2 q).1⟩⟩
theorem tdiv64 (a : Int) : a.tdiv 64 = if 0 ≤ a then a / 64 else -((-a) / 64) := by
  split
  · next h => exact Int.tdiv_eq_ediv_of_nonneg h
  · next h =>
    have e : a.tdiv 64 = -((-a).tdiv 64) := by rw [Int.neg_tdiv, Int.neg_neg]
    rw [e, Int.tdiv_eq_ediv_of_nonneg (by omega)]
theorem lxor_neg (a : Int) (ha : -9223372036854775808 ≤ a ∧ a ≤ 9223372036854775807) : (lZ a ^^^ lZ 64).toInt < 0 ↔ a < 0 := by
  have h0 : ∀ x : Int64, x.toInt < 0 ↔ x.toBitVec.msb = true := by
    intro x
    rw [← BitVec.slt_zero_iff_msb_cond, BitVec.slt_iff_toInt_lt]
    simp
  rw [h0]
  have h1 := h0 (lZ a)
  rw [lZ_t ha] at h1
  rw [h1, Int64.toBitVec_xor, BitVec.msb_xor]
  have h2 : (lZ 64).toBitVec.msb = false := by decide
  rw [h2]
  simp
section ZMORE
variable {X : zX} {g : zG} {cc : ByteArray} {own : String} {Ts : List Cond} {rm : Room} {nL : Nat} {Y : va_W → Heap → List Loc → Prop} {cells slots : Nat} {ws : va_W} {lv : List (Nat × Value)} {pc : Nat} {st : List Value} {A : Nat → Prop}
theorem z_lxor64 (hC : zC X g cc own Ts rm nL) {a : Int} (d : decode cc pc = .ok (.lxor, 1)) (ha : -9223372036854775808 ≤ a ∧ a ≤ 9223372036854775807) (k : ∀ v : Int, (-9223372036854775808 ≤ v ∧ v ≤ 9223372036854775807) → (v < 0 ↔ a < 0) → ZG X g Y cells slots ws lv (pc + 1) (.long (lZ v) :: st)) : ZG X g Y cells slots ws lv pc (.long (lZ 64) :: .long (lZ a) :: st) := fun H locs ls hP hD hY hl0 => lv_lxor hC.1.1 hC.1.2.1 d (by
  have h1 := Int64.toInt_lt (lZ a ^^^ lZ 64)
  have h2 := Int64.le_toInt (lZ a ^^^ lZ 64)
  have := k (lZ a ^^^ lZ 64).toInt (by omega) (lxor_neg a ha) H locs ls hP hD hY hl0
  rw [show lZ (lZ a ^^^ lZ 64).toInt = lZ a ^^^ lZ 64 from Int64.ofInt_toInt _] at this
  exact this)
end ZMORE
