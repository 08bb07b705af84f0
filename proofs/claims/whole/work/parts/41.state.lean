/-! the class as one state: house now, house kept, shelves, elements, and the rest (0-7 refusals, 8 imaged, 9 fault, 10 ran, 11.. bodies) -/
abbrev ZS : Type := HS × HS × (Nat → Nat → Int32) × (Nat → Nat → Int64) × (Nat → Int32)
def CV (M : jk_M) (Z : ZS) : Prop := WC M ∧ hv M.2.1 1 = Z.1 ∧ hv M.2.1 28 = Z.2.1 ∧ (∀ s, s < 8 → ∀ k, k < 3 → M.2.1 (109 + 2 * s) k = Z.2.2.1 s k) ∧ (∀ s, s < 8 → ∀ i, i < 160 → M.2.2.1 (109 + 2 * s + 1) i = Z.2.2.2.1 s i) ∧ (∀ i, i < 8 → M.2.1 108 i = Z.2.2.2.2 i) ∧ M.2.1 0 11 = Z.2.2.2.2 8 ∧ M.2.1 0 12 = Z.2.2.2.2 9 ∧ M.2.1 105 3 = Z.2.2.2.2 10 ∧ ∀ i, i < 20 → M.2.1 106 i = Z.2.2.2.2 (11 + i)
/-- a shelf: a row, a thing, nothing -/
def Shok (n : Nat) (a z p : Int32) : Prop := (inB a 0 3 ∧ inB z 0 160 ∧ p = -1) ∨ (a = -1 ∧ z = 0 ∧ (p = -1 ∨ ∃ i, i < n ∧ p = nI i))
def Zok (Z : ZS) : Prop := Sok Z.1 ∧ Sok Z.2.1 ∧ (∀ s, s < 8 → Shok (nT Z.1) (Z.2.2.1 s 0) (Z.2.2.1 s 1) (Z.2.2.1 s 2)) ∧ inB (Z.2.2.2.2 10) 0 100 ∧ (Z.2.2.2.2 8 = 0 ∨ Z.2.2.2.2 8 = 1)
/-- scratch: what no call leaves to the next -/
def PSc (q : Nat) : Prop := 55 ≤ q ∧ q ≤ 104
def PF (_ : Nat) : Prop := False
theorem CV.sc {M M1 : jk_M} {Z : ZS} (h : CV M Z) (ok : Zok Z) (s : Sg PSc PF M M1) : CV M1 Z := by
  obtain ⟨h1, h2, h3, h4, h5, h6, h7, h8, h9, h10⟩ := h
  have e : ∀ q, q < 55 ∨ 104 < q → M1.2.1 q = M.2.1 q := fun q hq => s.2.1 q (fun z => by have := z.1; have := z.2; omega)
  have el : ∀ q, M1.2.2.1 q = M.2.2.1 q := fun q => s.2.2.1 q (fun z => z)
  refine ⟨s.C h1, s.hv h2 ok.1 (fun q hq z => by have := hq.2; have := z.1; omega), s.hv h3 ok.2.1 (fun q hq z => by have := hq.2; have := z.1; omega), fun t ht k hk => ?_, fun t ht i hi => ?_, fun i hi => ?_, ?_, ?_, ?_, fun i hi => ?_⟩
  · rw [e _ (by omega)]; exact h4 t ht k hk
  · rw [el]; exact h5 t ht i hi
  · rw [e _ (by omega)]; exact h6 i hi
  · rw [e _ (by omega)]; exact h7
  · rw [e _ (by omega)]; exact h8
  · rw [e _ (by omega)]; exact h9
  · rw [e _ (by omega)]; exact h10 i hi
def refV (m : Nat → Int32) (c : Int32) : Nat → Int32 := if 0 < 0 - c ∧ 0 - c < 8 then va_up m (0 - c).toNatClampNeg (m (0 - c).toNatClampNeg + 1) else m
def refZ (Z : ZS) (c : Int32) : ZS := (Z.1, Z.2.1, Z.2.2.1, Z.2.2.2.1, refV Z.2.2.2.2 c)
def nowZ (Z : ZS) (S : HS) : ZS := (S, Z.2)
theorem neg_in {c : Int32} (h : 0 < 0 - c ∧ 0 - c < 8) : ∃ k, k < 8 ∧ (0 - c).toNatClampNeg = k := by
  obtain ⟨k, hk, e⟩ := s_in ⟨Int32.le_of_lt h.1, h.2⟩
  exact ⟨k, hk, by rw [e, nI_clamp (by omega)]⟩
theorem CV.rf {M : jk_M} {Z : ZS} (h : CV M Z) (ok : Zok Z) (c : Int32) : CV (refM M c) (refZ Z c) := by
  obtain ⟨h1, h2, h3, h4, h5, h6, h7, h8, h9, h10⟩ := h
  have g := refM_g (M := M) (c := c)
  have e : ∀ q, q ≠ 108 → (refM M c).2.1 q = M.2.1 q := fun q hq => g.2.2 q (fun z => hq z)
  by_cases hc : 0 < 0 - c ∧ 0 - c < 8
  · obtain ⟨k, hk, ek⟩ := neg_in hc
    have em : refM M c = jk_wI M 108 k (M.2.1 108 k + 1) := by rw [refM, if_pos hc, ek]
    have ev : refV Z.2.2.2.2 c = va_up Z.2.2.2.2 k (Z.2.2.2.2 k + 1) := by rw [refV, if_pos hc, ek]
    refine ⟨g.C h1, g.hv h2 ok.1 (fun q hq z => by have := hq.2; have z : q = 108 := z; omega), g.hv h3 ok.2.1 (fun q hq z => by have := hq.2; have z : q = 108 := z; omega), fun t ht k hk => ?_, fun t ht i hi => ?_, fun i hi => ?_, ?_, ?_, ?_, fun i hi => ?_⟩
    · rw [e _ (by omega)]; exact h4 t ht k hk
    · rw [show (refM M c).2.2.1 = M.2.2.1 by rw [g.2.1]]; exact h5 t ht i hi
    · show _ = refV Z.2.2.2.2 c i
      rw [em, ev]
      by_cases ei : i = k
      · subst ei; rw [rd_s, va_up_self, h6 i hi]
      · rw [rd_k ei, va_up_ne _ _ ei]; exact h6 i hi
    · show _ = refV Z.2.2.2.2 c 8
      rw [e _ (by omega), ev, va_up_ne _ _ (by omega)]; exact h7
    · show _ = refV Z.2.2.2.2 c 9
      rw [e _ (by omega), ev, va_up_ne _ _ (by omega)]; exact h8
    · show _ = refV Z.2.2.2.2 c 10
      rw [e _ (by omega), ev, va_up_ne _ _ (by omega)]; exact h9
    · show _ = refV Z.2.2.2.2 c (11 + i)
      rw [e _ (by omega), ev, va_up_ne _ _ (by omega)]; exact h10 i hi
  · have em : refM M c = M := by rw [refM, if_neg hc]
    have ev : refZ Z c = Z := by rw [refZ, refV, if_neg hc]
    rw [em, ev]
    exact ⟨h1, h2, h3, h4, h5, h6, h7, h8, h9, h10⟩
/-- the house now has changed, all else stands -/
theorem CV.now {M M1 : jk_M} {Z : ZS} {S : HS} (h : CV M Z) (ok : Zok Z) (s : Sg (fun q => HO 1 q ∨ PSc q) PF M M1) (hS : hv M1.2.1 1 = S) : CV M1 (nowZ Z S) := by
  obtain ⟨h1, h2, h3, h4, h5, h6, h7, h8, h9, h10⟩ := h
  have e : ∀ q, q = 0 ∨ (27 < q ∧ q < 55) ∨ 104 < q → M1.2.1 q = M.2.1 q := fun q hq => s.2.1 q (fun z => by
    rcases z with z | z
    · have := z.1; have := z.2; omega
    · have := z.1; have := z.2; omega)
  have el : ∀ q, M1.2.2.1 q = M.2.2.1 q := fun q => s.2.2.1 q (fun z => z)
  refine ⟨s.C h1, hS, s.hv h3 ok.2.1 (fun q hq z => ?_), fun t ht k hk => ?_, fun t ht i hi => ?_, fun i hi => ?_, ?_, ?_, ?_, fun i hi => ?_⟩
  · have a1 := hq.1
    have a2 := hq.2
    rcases z with z | z
    · have := z.2; omega
    · have := z.1; omega
  · rw [e _ (by omega)]; exact h4 t ht k hk
  · rw [el]; exact h5 t ht i hi
  · rw [e _ (by omega)]; exact h6 i hi
  · rw [e _ (by omega)]; exact h7
  · rw [e _ (by omega)]; exact h8
  · rw [e _ (by omega)]; exact h9
  · rw [e _ (by omega)]; exact h10 i hi
