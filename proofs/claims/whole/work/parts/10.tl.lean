/-! steps of the search, as numbers -/
def zLe (a : Int) : Int := if a = -1 then 0 else 1
theorem zLe_e (a : Int) : (a = -1 ∧ zLe a = 0) ∨ (a ≠ -1 ∧ zLe a = 1) := by
  unfold zLe; split <;> omega
/-- only cells of row a, lines le to mx - 1, differ -/
def zFr (a le mx : Int) (C N C1 N1 : Int → Int) : Prop := ∀ x, x < ((a + 1) * 51 + le) * 4 ∨ ((a + 1) * 51 + mx) * 4 ≤ x → C1 x = C x ∧ N1 x = N x
def zRow (d : zDP) (a le mx : Int) (j : Nat) (C N : Int → Int) : Prop := ∀ i c, le ≤ i → i < mx → 0 ≤ c → c ≤ 3 → zCc C N a i c (zF d (zVL d (i + 1)) i a c j)
theorem zFr_0 {a le : Int} {C N : Int → Int} : zFr a le le C N C N := fun _ _ => ⟨rfl, rfl⟩
theorem zRow_0 {d : zDP} {a le : Int} {j : Nat} {C N : Int → Int} : zRow d a le le j C N := fun i c h1 h2 => by omega
theorem tl_no {d : zDP} {a b le i : Int} {j j' : Nat} {C N C2 N2 : Int → Int} (hj : b = a + 1 + j) (hj' : j' = j + 1) (hi : le ≤ i) (hF : zFr a le i C N C2 N2) (hR : zRow d a le i j' C2 N2) (h5 : ∀ c, 0 ≤ c → c ≤ 3 → zCc C N a i c (zF d (zVL d (i + 1)) i a c j)) (hf : ¬ d.2.2.1 a b i) : zFr a le (i + 1) C N C2 N2 ∧ zRow d a le (i + 1) j' C2 N2 := by
  refine ⟨fun x hx => hF x (by omega), fun i2 c h1 h2 h3 h4 => ?_⟩
  by_cases e : i2 = i
  · subst e
    have := hF (((a + 1) * 51 + i2) * 4 + c) (by omega)
    exact zCc_no hj hj' (zCc_kept (h5 c h3 h4) this.1 this.2) hf
  · exact hR i2 c h1 (by omega) h3 h4
theorem tl_en {d : zDP} (hB : zDb d) {a b le i : Int} {j j' : Nat} {C N C2 N2 C3 N3 : Int → Int} (hj : b = a + 1 + j) (hj' : j' = j + 1) (hi : le ≤ i) (hi2 : 0 ≤ i ∧ i ≤ 49) (ha : -1 ≤ a ∧ a < b) (hF : zFr a le i C N C2 N2) (hR : zRow d a le i j' C2 N2) (h5 : ∀ c, 0 ≤ c → c ≤ 3 → zCc C N a i c (zF d (zVL d (i + 1)) i a c j)) (hf : d.2.2.1 a b i) (hk : 0 ≤ d.2.2.2.2 a b i ∧ d.2.2.2.2 a b i ≤ 3) (hr : zRst d C b (i + 1) (d.2.2.2.2 a b i))
    (h1 : C2 (((b + 1) * 51 + (i + 1)) * 4 + d.2.2.2.2 a b i) = 9223372036854775807 → C3 = C2 ∧ N3 = N2)
    (h2 : ¬ C2 (((b + 1) * 51 + (i + 1)) * 4 + d.2.2.2.2 a b i) = 9223372036854775807 → zEnt 4 a b (((a + 1) * 51 + i) * 4) (C2 (((b + 1) * 51 + (i + 1)) * 4 + d.2.2.2.2 a b i)) (d.2.2.2.1 a b i) (d.2.2.2.2 a b i) C2 N2 C3 N3) : zFr a le (i + 1) C N C3 N3 ∧ zRow d a le (i + 1) j' C3 N3 := by
  have hoff : ∀ x, x < ((a + 1) * 51 + i) * 4 ∨ ((a + 1) * 51 + i) * 4 + 4 ≤ x → C3 x = C2 x ∧ N3 x = N2 x := by
    intro x hx
    by_cases q : C2 (((b + 1) * 51 + (i + 1)) * 4 + d.2.2.2.2 a b i) = 9223372036854775807
    · obtain ⟨rfl, rfl⟩ := h1 q; exact ⟨rfl, rfl⟩
    · exact (h2 q).1 x hx
  refine ⟨fun x hx => ?_, fun i2 c g1 g2 g3 g4 => ?_⟩
  · have e1 := hF x (by omega)
    have e2 := hoff x (by omega)
    exact ⟨e2.1.trans e1.1, e2.2.trans e1.2⟩
  · by_cases e : i2 = i
    · subst e
      have e1 := hF (((a + 1) * 51 + i2) * 4 + c) (by omega)
      refine zCc_ent hB hi2 ⟨g3, g4⟩ ha.1 hj hj' (zCc_kept (h5 c g3 g4) e1.1 e1.2) hf (zRst_kept hr ?_) h1 h2
      exact (hF _ (by omega)).1
    · have e2 := hoff (((a + 1) * 51 + i2) * 4 + c) (by omega)
      exact zCc_kept (hR i2 c g1 (by omega) g3 g4) e2.1 e2.2
/-- the last break of a row has been tried -/
theorem tb_end {n : Int} {K V P M LB SB HB W : Int → Int} {tol mo mt ex : Int} {a b mx : Int} {C N : Int → Int} (hb : a < b ∧ b ≤ n) (hm : b = n ∨ zMust K V n b) (hmx : mx ≤ 50) (h0 : 0 ≤ zLe a) (h : zRow (zMk n K V P M LB SB HB W tol mo mt ex) a (zLe a) mx (b - a).toNat C N) : ∀ i c, zLe a ≤ i → i < mx → 0 ≤ c → c ≤ 3 → zCc C N a i c (zVL (zMk n K V P M LB SB HB W tol mo mt ex) i a c) := by
  intro i c h1 h2 h3 h4
  rw [zVL_go _ (by omega)]
  show zCc C N a i c (zF (zMk n K V P M LB SB HB W tol mo mt ex) (zVL (zMk n K V P M LB SB HB W tol mo mt ex) (i + 1)) i a c (n - a).toNat)
  rw [zF_stop (b - a).toNat (fun b' hb' hf => ?_) (n - a).toNat (by omega)]
  · exact h i c h1 h2 h3 h4
  · obtain ⟨g1, g2, g3, -⟩ : zFit n K V P M LB SB HB W tol mo mt a b' i := hf
    rcases hm with e | e
    · omega
    · exact g3 b hb.1 (by omega) e
/-- the rows behind break f are made -/
def zT1 (d : zDP) (K V M : Int → Int) (n mt f : Int) (C N : Int → Int) : Prop := ∀ p i c, f < p → p < n → (p = -1 ∨ zMay K V M n p mt) → zLe p ≤ i → i < min (p + 1) 49 + 1 → 0 ≤ c → c ≤ 3 → zCc C N p i c (zVL d i p c)
def zT2 (n f : Int) (C : Int → Int) : Prop := ∀ p i c, -1 ≤ p → p ≤ f → 0 ≤ i → i ≤ 50 → 0 ≤ c → c ≤ 3 → C (((p + 1) * 51 + i) * 4 + c) = 9223372036854775807
def zT3 (d : zDP) (n : Int) (C : Int → Int) : Prop := ∀ i s, 1 ≤ i → i ≤ 50 → 0 ≤ s → s ≤ 3 → zRst d C n i s
def zT4 (n : Int) (C : Int → Int) : Prop := ∀ p c, -1 ≤ p → p < n → 0 ≤ c → c ≤ 3 → C (((p + 1) * 51 + 50) * 4 + c) = 9223372036854775807
def zTT (d : zDP) (K V M : Int → Int) (n mt f : Int) (C N : Int → Int) : Prop := zT1 d K V M n mt f C N ∧ zT2 n f C ∧ zT3 d n C ∧ zT4 n C
theorem fw_rst {d : zDP} {K V M : Int → Int} {n mt f : Int} {C N : Int → Int} (hn : d.1 = n) (hf : -1 ≤ f) (h : zTT d K V M n mt f C N) : ∀ b i s, f < b → b ≤ n → zMay K V M n b mt → zLe f ≤ i → i < min (f + 1) 49 + 1 → 0 ≤ s → s ≤ 3 → zRst d C b (i + 1) s := by
  intro b i s h1 h2 hm h3 h4 h5 h6
  have hl := zLe_e f
  have hlb := zLe_e b
  by_cases e : b = n
  · subst e; exact h.2.2.1 (i + 1) s (by omega) (by omega) h5 h6
  · by_cases e2 : i + 1 = 50
    · rw [e2]
      refine ⟨fun q => absurd q (by omega), fun _ => ⟨fun _ => h.2.2.2 b s (by omega) (by omega) h5 h6, fun q => absurd rfl q⟩⟩
    · exact zCc_rst (N := N) (by omega) (h.1 b (i + 1) s h1 (by omega) (Or.inr hm) (by omega) (by omega) h5 h6)
theorem fw_no {d : zDP} {K V M : Int → Int} {n mt f : Int} {C N : Int → Int} (h : zTT d K V M n mt f C N) (hf : ¬ (f = -1 ∨ zMay K V M n f mt)) : zTT d K V M n mt (f - 1) C N := by
  refine ⟨fun p i c h1 h2 h3 h4 h5 h6 h7 => ?_, fun p i c h1 h2 => h.2.1 p i c h1 (by omega), h.2.2⟩
  by_cases e : p = f
  · subst e; exact absurd h3 hf
  · exact h.1 p i c (by omega) h2 h3 h4 h5 h6 h7
theorem fw_go {d : zDP} {K V M : Int → Int} {n mt f : Int} {C N C1 N1 : Int → Int} (hf : -1 ≤ f ∧ f < n) (h : zTT d K V M n mt f C N) (hF : zFr f (zLe f) (min (f + 1) 49 + 1) C N C1 N1) (hR : ∀ i c, zLe f ≤ i → i < min (f + 1) 49 + 1 → 0 ≤ c → c ≤ 3 → zCc C1 N1 f i c (zVL d i f c)) : zTT d K V M n mt (f - 1) C1 N1 := by
  have hl := zLe_e f
  refine ⟨fun p i c h1 h2 h3 h4 h5 h6 h7 => ?_, fun p i c h1 h2 h3 h4 h5 h6 => ?_, fun i s h1 h2 h3 h4 => ?_, fun p c h1 h2 h3 h4 => ?_⟩
  · by_cases e : p = f
    · subst e; exact hR i c h4 h5 h6 h7
    · have hlp := zLe_e p
      have := hF (((p + 1) * 51 + i) * 4 + c) (by omega)
      exact zCc_kept (h.1 p i c (by omega) h2 h3 h4 h5 h6 h7) this.1 this.2
  · rw [(hF _ (by omega)).1]; exact h.2.1 p i c h1 (by omega) h3 h4 h5 h6
  · exact zRst_kept (h.2.2.1 i s h1 h2 h3 h4) (hF _ (by omega)).1
  · rw [(hF _ (by omega)).1]; exact h.2.2.2 p c h1 h2 h3 h4
/-- closed, and opened at the end -/
theorem fw_0 {d : zDP} {K V M : Int → Int} {n mt ex : Int} {C0 C1 N : Int → Int} (hn : d.1 = n) (hx : d.2.1 = ex) (h0 : 0 ≤ n) (hex : 0 ≤ ex ∧ ex ≤ 50) (h1 : ∀ x, 0 ≤ x → x < (n + 2) * 204 → C0 x = 9223372036854775807) (h2 : ∀ x, x < (n + 1) * 204 ∨ (n + 2) * 204 ≤ x → C1 x = C0 x) (h3 : ∀ i c, 0 ≤ i → i ≤ 50 → 0 ≤ c → c ≤ 3 → ((ex = 0 ∧ 1 ≤ i) ∨ (i = ex ∧ ¬ ex = 0) → C1 (((n + 1) * 51 + i) * 4 + c) = 0) ∧ (¬ ((ex = 0 ∧ 1 ≤ i) ∨ (i = ex ∧ ¬ ex = 0)) → C1 (((n + 1) * 51 + i) * 4 + c) = C0 (((n + 1) * 51 + i) * 4 + c))) : zTT d K V M n mt (n - 1) C1 N := by
  refine ⟨fun p i c g1 g2 => by omega, fun p i c g1 g2 g3 g4 g5 g6 => ?_, fun i s g1 g2 g3 g4 => ⟨fun _ => ⟨fun q => ?_, fun q => ?_⟩, fun q => absurd hn.symm q⟩, fun p c g1 g2 g3 g4 => ?_⟩
  · rw [h2 _ (by omega)]; exact h1 _ (by omega) (by omega)
  · exact (h3 i s (by omega) g2 g3 g4).1 (by omega)
  · rw [(h3 i s (by omega) g2 g3 g4).2 (by omega)]; exact h1 _ (by omega) (by omega)
  · rw [h2 _ (by omega)]; exact h1 _ (by omega) (by omega)
/-- every line of the way is one -/
theorem zPth_fit {d : zDP} (hB : zDb d) (hn : 0 ≤ d.1) (h0 : (zVL d 0 (-1) 0).2.1 ≠ 0) (i : Nat) (hi : (i : Int) < (zVL d 0 (-1) 0).2.1) : d.2.2.1 (zPth d i).1 (zPth d (i + 1)).1 i := by
  have hb := zVL_in hB (i := 0) (by omega) (-1) 0
  obtain ⟨g1, g2, g3, g4, g5⟩ := zPth_ok hB hn h0 i hi
  have h49 : (0 : Int) ≤ i ∧ (i : Int) ≤ 49 := by unfold zNb at hb; omega
  exact (zVL_ok (d := d) (i := i) (a := (zPth d i).1) (c := (zPth d i).2) h49 (by omega) (by omega)).1
/-- what is told of the way -/
def zWay (n : Int) (K P LB SB HB W : Int → Int) (mo : Int) (d : zDP) (tc : Int) (E Q B U : Int → Int) : Prop := ∀ i : Nat, (i : Int) < tc → E i = (zPth d (i + 1)).1 ∧ Q i = lLk n K P LB W (zPth d i).1 (zPth d (i + 1)).1 i ∧ B i = lUg n K P LB SB HB W mo (zPth d i).1 (zPth d (i + 1)).1 i ∧ U i = (zPth d (i + 1)).2
theorem zWay_0 {n : Int} {K P LB SB HB W : Int → Int} {mo : Int} {d : zDP} {E Q B U : Int → Int} : zWay n K P LB SB HB W mo d 0 E Q B U := fun i h => by omega
theorem zWay_s {n : Int} {K P LB SB HB W : Int → Int} {mo : Int} {d : zDP} {E Q B U : Int → Int} {j : Nat} {e q b u : Int} (h : zWay n K P LB SB HB W mo d j E Q B U) (h1 : e = (zPth d (j + 1)).1) (h2 : q = lLk n K P LB W (zPth d j).1 (zPth d (j + 1)).1 j) (h3 : b = lUg n K P LB SB HB W mo (zPth d j).1 (zPth d (j + 1)).1 j) (h4 : u = (zPth d (j + 1)).2) : zWay n K P LB SB HB W mo d ((j : Int) + 1) (uZ E j e) (uZ Q j q) (uZ B j b) (uZ U j u) := by
  intro i hi
  by_cases e : i = j
  · subst e
    rw [uZ_s, uZ_s, uZ_s, uZ_s]
    exact ⟨h1, h2, h3, h4⟩
  · rw [uZ_n _ _ (by omega), uZ_n _ _ (by omega), uZ_n _ _ (by omega), uZ_n _ _ (by omega)]
    exact h i (by omega)
/-- a row of the table, from its last row on -/
def zTab (d : zDP) (K V M : Int → Int) (n mt : Int) (C N : Int → Int) : Prop := zT1 d K V M n mt (-2) C N
