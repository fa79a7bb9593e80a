/-! the best way, as numbers: what is left to do behind a break, line by line from the end -/
noncomputable def cit {α : Type} (P : Prop) (x y : α) : α := @ite α P (Classical.propDecidable P) x y
theorem cit_t {α : Type} {P : Prop} {x y : α} (h : P) : cit P x y = x := by unfold cit; exact if_pos h
theorem cit_f {α : Type} {P : Prop} {x y : α} (h : ¬ P) : cit P x y = y := by unfold cit; exact if_neg h
/-- how many items; just so many lines, or 0; whether a line from a to b with number i is one; its demerits; its class -/
abbrev zDP : Type := Int × Int × (Int → Int → Int → Prop) × (Int → Int → Int → Int) × (Int → Int → Int → Int)
abbrev z3 : Type := Int × Int × Int
def zRs (d : zDP) (Vk : Int → Int → z3) (b s : Int) : z3 := if b = d.1 then (0, 0, 0) else Vk b s
def zOkc (d : zDP) (Vk : Int → Int → z3) (i a b : Int) : Prop := d.2.2.1 a b i ∧ (b = d.1 → (d.2.1 = 0 ∨ i + 1 = d.2.1)) ∧ (b ≠ d.1 → (Vk b (d.2.2.2.2 a b i)).2.1 ≠ 0)
def zY (d : zDP) (Vk : Int → Int → z3) (i a c b : Int) : z3 := (d.2.2.2.1 a b i + (zRs d Vk b (d.2.2.2.2 a b i)).1 + (if 0 ≤ a ∧ (1 < d.2.2.2.2 a b i - c ∨ 1 < c - d.2.2.2.2 a b i) then 2000 else 0), (zRs d Vk b (d.2.2.2.2 a b i)).2.1 + 1, b)
def zBt (x y : z3) : Prop := x.2.1 = 0 ∨ y.1 < x.1 ∨ (y.1 = x.1 ∧ y.2.1 < x.2.1)
noncomputable def zF (d : zDP) (Vk : Int → Int → z3) (i a c : Int) : Nat → z3
  | 0 => (0, 0, 0)
  | j + 1 => cit (zOkc d Vk i a (a + 1 + j) ∧ zBt (zF d Vk i a c j) (zY d Vk i a c (a + 1 + j))) (zY d Vk i a c (a + 1 + j)) (zF d Vk i a c j)
noncomputable def zV (d : zDP) : Nat → Int → Int → z3
  | 0 => fun _ _ => (0, 0, 0)
  | k + 1 => fun a c => zF d (zV d k) (49 - k) a c (d.1 - a).toNat
noncomputable def zVL (d : zDP) (i a c : Int) : z3 := zV d (50 - i).toNat a c
theorem zVL_50 (d : zDP) (a c : Int) : zVL d 50 a c = (0, 0, 0) := rfl
theorem zVL_go (d : zDP) {i : Int} (h : 0 ≤ i ∧ i ≤ 49) (a c : Int) : zVL d i a c = zF d (zVL d (i + 1)) i a c (d.1 - a).toNat := by
  have e : (50 - i).toNat = (50 - (i + 1)).toNat + 1 := by omega
  have e2 : (49 : Int) - ((50 - (i + 1)).toNat : Int) = i := by omega
  show zV d (50 - i).toNat a c = _
  rw [e]
  show zF d (zV d (50 - (i + 1)).toNat) (49 - ((50 - (i + 1)).toNat : Int)) a c (d.1 - a).toNat = _
  rw [e2]
  rfl
/-- what the numbers are between -/
def zNb (k : Int) (x : z3) : Prop := 0 ≤ x.2.1 ∧ x.2.1 ≤ k ∧ -(300000000 * x.2.1) ≤ x.1 ∧ x.1 ≤ 300000000 * x.2.1
def zDb (d : zDP) : Prop := ∀ a b i, d.2.2.1 a b i → -290000000 ≤ d.2.2.2.1 a b i ∧ d.2.2.2.1 a b i ≤ 290000000
theorem zY_in {d : zDP} (hB : zDb d) {Vk : Int → Int → z3} {k : Int} (hk : 0 ≤ k) (hV : ∀ b s, zNb k (Vk b s)) {i a c b : Int} (hf : d.2.2.1 a b i) : zNb (k + 1) (zY d Vk i a c b) ∧ 1 ≤ (zY d Vk i a c b).2.1 := by
  have h1 := hB a b i hf
  have h2 : zNb k (zRs d Vk b (d.2.2.2.2 a b i)) := by
    unfold zRs
    split
    · exact ⟨by show (0 : Int) ≤ 0; omega, hk, by show -(300000000 * (0 : Int)) ≤ 0; omega, by show (0 : Int) ≤ 300000000 * 0; omega⟩
    · exact hV _ _
  obtain ⟨g1, g2, g3, g4⟩ := h2
  have h3 : 0 ≤ (if 0 ≤ a ∧ (1 < d.2.2.2.2 a b i - c ∨ 1 < c - d.2.2.2.2 a b i) then (2000 : Int) else 0) ∧ (if 0 ≤ a ∧ (1 < d.2.2.2.2 a b i - c ∨ 1 < c - d.2.2.2.2 a b i) then (2000 : Int) else 0) ≤ 2000 := by split <;> omega
  unfold zNb zY
  dsimp only
  omega
theorem zF_in {d : zDP} (hB : zDb d) {Vk : Int → Int → z3} {k : Int} (hk : 0 ≤ k) (hV : ∀ b s, zNb k (Vk b s)) (i a c : Int) : ∀ j : Nat, zNb (k + 1) (zF d Vk i a c j) := by
  intro j
  induction j with
  | zero => exact ⟨by show (0 : Int) ≤ 0; omega, by show (0 : Int) ≤ k + 1; omega, by show -(300000000 * (0 : Int)) ≤ 0; omega, by show (0 : Int) ≤ 300000000 * 0; omega⟩
  | succ j ih =>
    show zNb (k + 1) (cit _ _ _)
    by_cases h : zOkc d Vk i a (a + 1 + j) ∧ zBt (zF d Vk i a c j) (zY d Vk i a c (a + 1 + j))
    · rw [cit_t h]; exact (zY_in hB hk hV h.1.1).1
    · rw [cit_f h]; exact ih
theorem zV_in {d : zDP} (hB : zDb d) : ∀ (k : Nat) (a c : Int), zNb k (zV d k a c) := by
  intro k
  induction k with
  | zero => intro a c; exact ⟨by show (0 : Int) ≤ 0; omega, by show (0 : Int) ≤ 0; omega, by show -(300000000 * (0 : Int)) ≤ 0; omega, by show (0 : Int) ≤ 300000000 * 0; omega⟩
  | succ k ih => intro a c; have := zF_in hB (k := k) (by omega) ih (49 - k) a c (d.1 - a).toNat; exact this
theorem zVL_in {d : zDP} (hB : zDb d) {i : Int} (h : 0 ≤ i ∧ i ≤ 50) (a c : Int) : zNb (50 - i) (zVL d i a c) := by
  have := zV_in hB (50 - i).toNat a c
  rw [show (((50 - i).toNat : Nat) : Int) = 50 - i by omega] at this
  exact this
theorem zF_in2 {d : zDP} (hB : zDb d) {i : Int} (h : 0 ≤ i ∧ i ≤ 49) (a c : Int) (j : Nat) : zNb (50 - i) (zF d (zVL d (i + 1)) i a c j) := by
  have := zF_in hB (Vk := zVL d (i + 1)) (k := 50 - (i + 1)) (by omega) (fun b s => zVL_in hB (by omega) b s) i a c j
  rw [show 50 - (i + 1) + 1 = 50 - i by omega] at this
  exact this
/-- one candidate more -/
theorem zF_t {d : zDP} {Vk : Int → Int → z3} {i a c b : Int} {j j' : Nat} (hb : b = a + 1 + j) (hj : j' = j + 1) (h : zOkc d Vk i a b) (h2 : zBt (zF d Vk i a c j) (zY d Vk i a c b)) : zF d Vk i a c j' = zY d Vk i a c b := by subst hb; subst hj; exact cit_t ⟨h, h2⟩
theorem zF_f {d : zDP} {Vk : Int → Int → z3} {i a c b : Int} {j j' : Nat} (hb : b = a + 1 + j) (hj : j' = j + 1) (h : ¬ zOkc d Vk i a b) : zF d Vk i a c j' = zF d Vk i a c j := by subst hb; subst hj; exact cit_f (fun q => h q.1)
theorem zF_n {d : zDP} {Vk : Int → Int → z3} {i a c b : Int} {j j' : Nat} (hb : b = a + 1 + j) (hj : j' = j + 1) (h : ¬ zBt (zF d Vk i a c j) (zY d Vk i a c b)) : zF d Vk i a c j' = zF d Vk i a c j := by subst hb; subst hj; exact cit_f (fun q => h q.2)
/-- behind a break that has to be there is no line -/
theorem zF_stop {d : zDP} {Vk : Int → Int → z3} {i a c : Int} (j0 : Nat) (h : ∀ b, a + 1 + j0 ≤ b → ¬ d.2.2.1 a b i) : ∀ j, j0 ≤ j → zF d Vk i a c j = zF d Vk i a c j0 := by
  intro j
  induction j with
  | zero => intro hj; rw [show j0 = 0 by omega]
  | succ j ih =>
    intro hj
    by_cases e : j0 = j + 1
    · rw [e]
    · rw [zF_f (b := a + 1 + j) rfl rfl (fun q => h _ (by omega) q.1)]
      exact ih (by omega)
/-- with just so many lines there is none behind them -/
theorem zF_none {d : zDP} {Vk : Int → Int → z3} {i a c : Int} (h : ∀ b, ¬ zOkc d Vk i a b) : ∀ j, zF d Vk i a c j = (0, 0, 0) := by
  intro j
  induction j with
  | zero => rfl
  | succ j ih => rw [zF_f (b := a + 1 + j) rfl rfl (h _)]; exact ih
theorem zV_ex {d : zDP} (hx : 0 < d.2.1) : ∀ (k : Nat), d.2.1 ≤ 50 - k → ∀ a c, zV d k a c = (0, 0, 0) := by
  intro k
  induction k with
  | zero => intro _ a c; rfl
  | succ k ih =>
    intro hk a c
    refine zF_none (fun b q => ?_) _
    by_cases hb : b = d.1
    · have := q.2.1 hb; omega
    · exact q.2.2 hb (by rw [ih (by omega)])
theorem zVL_ex {d : zDP} (hx : 0 < d.2.1) {i : Int} (h : d.2.1 ≤ i) (hi : i ≤ 50) (a c : Int) : zVL d i a c = (0, 0, 0) := zV_ex hx _ (by omega) a c
/-- what was found: its next break, and what stands behind it -/
theorem zF_ok {d : zDP} {Vk : Int → Int → z3} {i a c : Int} : ∀ j : Nat, (zF d Vk i a c j).2.1 ≠ 0 → zOkc d Vk i a (zF d Vk i a c j).2.2 ∧ zF d Vk i a c j = zY d Vk i a c (zF d Vk i a c j).2.2 ∧ a < (zF d Vk i a c j).2.2 ∧ (zF d Vk i a c j).2.2 ≤ a + j := by
  intro j
  induction j with
  | zero => intro h; exact absurd rfl h
  | succ j ih =>
    by_cases h : zOkc d Vk i a (a + 1 + j) ∧ zBt (zF d Vk i a c j) (zY d Vk i a c (a + 1 + j))
    · rw [zF_t rfl rfl h.1 h.2]
      intro _
      exact ⟨h.1, rfl, by show a < a + 1 + j; omega, by show a + 1 + j ≤ a + (j + 1 : Nat); omega⟩
    · rw [show zF d Vk i a c (j + 1) = zF d Vk i a c j from cit_f h]
      intro h2
      obtain ⟨g1, g2, g3, g4⟩ := ih h2
      exact ⟨g1, g2, g3, by omega⟩
theorem zVL_ok {d : zDP} {i a c : Int} (h : 0 ≤ i ∧ i ≤ 49) (ha : a ≤ d.1) (h0 : (zVL d i a c).2.1 ≠ 0) : d.2.2.1 a (zVL d i a c).2.2 i ∧ a < (zVL d i a c).2.2 ∧ (zVL d i a c).2.2 ≤ d.1 ∧ ((zVL d i a c).2.2 = d.1 → (zVL d i a c).2.1 = 1) ∧ ((zVL d i a c).2.2 ≠ d.1 → (zVL d (i + 1) (zVL d i a c).2.2 (d.2.2.2.2 a (zVL d i a c).2.2 i)).2.1 ≠ 0 ∧ (zVL d i a c).2.1 = (zVL d (i + 1) (zVL d i a c).2.2 (d.2.2.2.2 a (zVL d i a c).2.2 i)).2.1 + 1) := by
  rw [zVL_go d h] at h0 ⊢
  obtain ⟨g1, g2, g3, g4⟩ := zF_ok _ h0
  generalize hb : (zF d (zVL d (i + 1)) i a c (d.1 - a).toNat).2.2 = b at *
  refine ⟨g1.1, g3, by omega, fun e => ?_, fun e => ⟨g1.2.2 e, ?_⟩⟩
  · rw [g2]
    show (zRs d _ b _).2.1 + 1 = 1
    rw [zRs, if_pos e]; rfl
  · rw [g2]
    show (zRs d _ b _).2.1 + 1 = _
    rw [zRs, if_neg e]
/-- the way: break and class behind i lines -/
noncomputable def zPth (d : zDP) : Nat → Int × Int
  | 0 => (-1, 0)
  | i + 1 => ((zVL d i (zPth d i).1 (zPth d i).2).2.2, d.2.2.2.2 (zPth d i).1 (zVL d i (zPth d i).1 (zPth d i).2).2.2 i)
theorem zPth_ok {d : zDP} (hB : zDb d) (hn : 0 ≤ d.1) (h0 : (zVL d 0 (-1) 0).2.1 ≠ 0) : ∀ i : Nat, (i : Int) < (zVL d 0 (-1) 0).2.1 → (zVL d i (zPth d i).1 (zPth d i).2).2.1 = (zVL d 0 (-1) 0).2.1 - i ∧ (zPth d i).1 < d.1 ∧ -1 ≤ (zPth d i).1 ∧ (0 < i → 0 ≤ (zPth d i).1 ∧ i ≤ (zPth d i).1 + 1) ∧ (i = 0 → (zPth d i).1 = -1) := by
  have hb := zVL_in hB (i := 0) (by omega) (-1) 0
  intro i
  induction i with
  | zero => intro _; refine ⟨by show (zVL d 0 (-1) 0).2.1 = _; omega, by show (-1 : Int) < _; omega, by show (-1 : Int) ≤ -1; omega, fun h => absurd h (by omega), fun _ => rfl⟩
  | succ i ih =>
    intro hi
    obtain ⟨g1, g2, g3, g4, g5⟩ := ih (by omega)
    have h49 : (0 : Int) ≤ i ∧ (i : Int) ≤ 49 := by unfold zNb at hb; omega
    obtain ⟨k1, k2, k3, k4, k5⟩ := zVL_ok (d := d) (i := i) (a := (zPth d i).1) (c := (zPth d i).2) h49 (by omega) (by omega)
    have hne : (zVL d i (zPth d i).1 (zPth d i).2).2.2 ≠ d.1 := fun e => by have := k4 e; omega
    obtain ⟨m1, m2⟩ := k5 hne
    have e : zPth d (i + 1) = ((zVL d i (zPth d i).1 (zPth d i).2).2.2, d.2.2.2.2 (zPth d i).1 (zVL d i (zPth d i).1 (zPth d i).2).2.2 i) := rfl
    rw [e]
    dsimp only
    rw [show (((i + 1 : Nat)) : Int) = (i : Int) + 1 by omega]
    refine ⟨by omega, by omega, by omega, fun _ => ⟨by omega, ?_⟩, fun h => absurd h (by omega)⟩
    by_cases hz : i = 0
    · subst hz; have := g5 rfl; omega
    · have := g4 (by omega); omega
theorem zPth_end {d : zDP} (hB : zDb d) (hn : 0 ≤ d.1) (h0 : (zVL d 0 (-1) 0).2.1 ≠ 0) (i : Nat) (hi : (i : Int) + 1 = (zVL d 0 (-1) 0).2.1) : (zPth d (i + 1)).1 = d.1 := by
  have hb := zVL_in hB (i := 0) (by omega) (-1) 0
  obtain ⟨g1, g2, g3, g4, g5⟩ := zPth_ok hB hn h0 i (by omega)
  have h49 : (0 : Int) ≤ i ∧ (i : Int) ≤ 49 := by unfold zNb at hb; omega
  obtain ⟨k1, k2, k3, k4, k5⟩ := zVL_ok (d := d) (i := i) (a := (zPth d i).1) (c := (zPth d i).2) h49 (by omega) (by omega)
  show (zVL d i (zPth d i).1 (zPth d i).2).2.2 = d.1
  by_cases e : (zVL d i (zPth d i).1 (zPth d i).2).2.2 = d.1
  · exact e
  · have hb2 := zVL_in hB (i := (i : Int) + 1) (by omega) (zVL d i (zPth d i).1 (zPth d i).2).2.2 (d.2.2.2.2 (zPth d i).1 (zVL d i (zPth d i).1 (zPth d i).2).2.2 i)
    have := k5 e
    unfold zNb at hb2
    omega
