/-! the model's memory, read as a house, and what stays, by object and place -/
def mo (a : Nat) : Nat := if a = 5 ∨ a = 6 then 12 else 0
def mk (a : Nat) : Nat := if a < 5 then a + 3 else if a < 7 then a - 5 else a - 7
def mv (I : Nat → Nat → Int32) : HS := fun a i =>
  if a < 10 then (if i = 0 then I (mo a) (mk a) else 0)
  else if a < 14 then (if i < (I 0 0).toNatClampNeg then I (a - 8) i else 0)
  else if a < 16 then (if i < (I 0 1).toNatClampNeg then I (a - 8) i else 0)
  else if a < 20 then (if i < (I 0 2).toNatClampNeg then I (a - 8) i else 0)
  else 0
section MV1
variable {I : Nat → Nat → Int32} {S : HS}
theorem mvs (hS : mv I = S) {a : Nat} (ha : a < 10) : I (mo a) (mk a) = S a 0 := by subst hS; simp [mv, ha]
theorem mv_nT (hS : mv I = S) : (I 0 0).toNatClampNeg = nT S := by subst hS; simp [nT, mv, mo, mk]
theorem mv_nN (hS : mv I = S) : (I 0 1).toNatClampNeg = nN S := by subst hS; simp [nN, mv, mo, mk]
theorem mv_nD (hS : mv I = S) : (I 0 2).toNatClampNeg = nD S := by subst hS; simp [nD, mv, mo, mk]
theorem mvT (hS : mv I = S) {i k : Nat} (hi : i < nT S) (hk : k < 4) : I (2 + k) i = S (10 + k) i := by
  have h7 := mv_nT hS
  subst hS
  rw [← h7] at hi
  have h1 : ¬ 10 + k < 10 := by omega
  have h2 : 10 + k < 14 := by omega
  have e : 10 + k - 8 = 2 + k := by omega
  simp [mv, h1, h2, hi, e]
theorem mvN (hS : mv I = S) {i k : Nat} (hi : i < nN S) (hk : k < 2) : I (6 + k) i = S (14 + k) i := by
  have h7 := mv_nN hS
  subst hS
  rw [← h7] at hi
  have h1 : ¬ 14 + k < 10 := by omega
  have h2 : ¬ 14 + k < 14 := by omega
  have h3 : 14 + k < 16 := by omega
  have e : 14 + k - 8 = 6 + k := by omega
  simp [mv, h1, h2, h3, hi, e]
theorem mvD (hS : mv I = S) {i k : Nat} (hi : i < nD S) (hk : k < 4) : I (8 + k) i = S (16 + k) i := by
  have h7 := mv_nD hS
  subst hS
  rw [← h7] at hi
  have h1 : ¬ 16 + k < 10 := by omega
  have h2 : ¬ 16 + k < 14 := by omega
  have h3 : ¬ 16 + k < 16 := by omega
  have h4 : 16 + k < 20 := by omega
  have e : 16 + k - 8 = 8 + k := by omega
  simp [mv, h1, h2, h3, h4, hi, e]
end MV1
def Fm (P : Nat → Nat → Prop) (M M' : jk_M) : Prop := M'.1 = M.1 ∧ M'.2.2 = M.2.2 ∧ ∀ q k, ¬ P q k → M'.2.1 q k = M.2.1 q k
theorem Fm.rf {P : Nat → Nat → Prop} {M : jk_M} : Fm P M M := ⟨rfl, rfl, fun _ _ _ => rfl⟩
theorem Fm.w {P : Nat → Nat → Prop} {M M1 : jk_M} {a k : Nat} {x : Int32} (h : Fm P M M1) (ha : P a k) : Fm P M (jk_wI M1 a k x) :=
  ⟨h.1, h.2.1, fun q j hq => by
    have e : (jk_wI M1 a k x).2.1 q j = M1.2.1 q j := by
      by_cases e1 : q = a
      · subst e1
        have e2 : j ≠ k := fun z => hq (by rw [z]; exact ha)
        exact rd_k e2
      · exact rd_o e1
    exact e.trans (h.2.2 q j hq)⟩
theorem Fm.tr {P : Nat → Nat → Prop} {M M1 M2 : jk_M} (h : Fm P M M1) (h2 : Fm P M1 M2) : Fm P M M2 := ⟨h2.1.trans h.1, h2.2.1.trans h.2.1, fun q k hq => (h2.2.2 q k hq).trans (h.2.2 q k hq)⟩
theorem Fm.mo {P P2 : Nat → Nat → Prop} {M M1 : jk_M} (h : Fm P M M1) (hp : ∀ q k, P q k → P2 q k) : Fm P2 M M1 := ⟨h.1, h.2.1, fun q k hq => h.2.2 q k (fun z => hq (hp q k z))⟩
theorem Fm.M {P : Nat → Nat → Prop} {M M' : jk_M} (h : Fm P M M') (hC : WM M) : WM M' := ⟨h.1.trans hC.1, by rw [h.2.1]; exact hC.2⟩
/-- the places of the house -/
def PH (q k : Nat) : Prop := (q = 0 ∧ k < 8) ∨ (2 ≤ q ∧ q ≤ 12)
theorem mv_same {I I2 : Nat → Nat → Int32} {S : HS} (hS : mv I = S) (e : ∀ q k, PH q k → I2 q k = I q k) : mv I2 = S := by
  have e0 : I2 0 0 = I 0 0 := e 0 0 (Or.inl ⟨rfl, by decide⟩)
  have e1 : I2 0 1 = I 0 1 := e 0 1 (Or.inl ⟨rfl, by decide⟩)
  have e2 : I2 0 2 = I 0 2 := e 0 2 (Or.inl ⟨rfl, by decide⟩)
  rw [← hS]
  funext a i
  simp only [mv, e0, e1, e2]
  by_cases b1 : a < 10
  · simp only [b1, if_true]
    have : I2 (mo a) (mk a) = I (mo a) (mk a) := by
      refine e _ _ ?_
      unfold mo mk
      by_cases h5 : a = 5 ∨ a = 6
      · rw [if_pos h5]; exact Or.inr ⟨by decide, by decide⟩
      · rw [if_neg h5]; refine Or.inl ⟨rfl, ?_⟩
        split
        · omega
        · split <;> omega
    rw [this]
  · simp only [b1, if_false]
    by_cases b2 : a < 20
    · rw [e (a - 8) i (Or.inr ⟨by omega, by omega⟩)]
    · have h1 : ¬ a < 14 := by omega
      have h2 : ¬ a < 16 := by omega
      simp only [h1, h2, b2, if_false]
theorem Fm.mv {P : Nat → Nat → Prop} {M M' : jk_M} {S : HS} (x : Fm P M M') (hS : mv M.2.1 = S) (hp : ∀ q k, PH q k → ¬ P q k) : mv M'.2.1 = S := mv_same hS (fun q k hq => x.2.2 q k (hp q k hq))
/-- a picture that is built -/
theorem mv_of {I : Nat → Nat → Int32} {S : HS} (h0 : ∀ a, a < 10 → I (mo a) (mk a) = S a 0) (z : Hz S) (hT : ∀ b i, b < 4 → i < nT S → I (2 + b) i = S (10 + b) i) (hN : ∀ b i, b < 2 → i < nN S → I (6 + b) i = S (14 + b) i) (hD : ∀ b i, b < 4 → i < nD S → I (8 + b) i = S (16 + b) i) : mv I = S := by
  obtain ⟨z1, z2, z3, z4, z5⟩ := z
  have c7 : (I 0 0).toNatClampNeg = nT S := by have := h0 7 (by decide); simp only [mo, mk] at this; rw [show I 0 0 = S 7 0 from this]; rfl
  have c8 : (I 0 1).toNatClampNeg = nN S := by have := h0 8 (by decide); simp only [mo, mk] at this; rw [show I 0 1 = S 8 0 from this]; rfl
  have c9 : (I 0 2).toNatClampNeg = nD S := by have := h0 9 (by decide); simp only [mo, mk] at this; rw [show I 0 2 = S 9 0 from this]; rfl
  funext a i
  simp only [mv, c7, c8, c9]
  by_cases b1 : a < 10
  · simp only [b1, if_true]
    by_cases hi : i = 0
    · rw [if_pos hi, hi, h0 a b1]
    · rw [if_neg hi, z1 a i b1 hi]
  · simp only [b1, if_false]
    by_cases b2 : a < 14
    · simp only [b2, if_true]
      obtain ⟨b, rfl⟩ : ∃ b, a = 10 + b := ⟨a - 10, by omega⟩
      by_cases hi : i < nT S
      · rw [if_pos hi, show 10 + b - 8 = 2 + b by omega, hT b i (by omega) hi]
      · rw [if_neg hi, z2 b i (by omega) (by omega)]
    · simp only [b2, if_false]
      by_cases b3 : a < 16
      · simp only [b3, if_true]
        obtain ⟨b, rfl⟩ : ∃ b, a = 14 + b := ⟨a - 14, by omega⟩
        by_cases hi : i < nN S
        · rw [if_pos hi, show 14 + b - 8 = 6 + b by omega, hN b i (by omega) hi]
        · rw [if_neg hi, z3 b i (by omega) (by omega)]
      · simp only [b3, if_false]
        by_cases b4 : a < 20
        · simp only [b4, if_true]
          obtain ⟨b, rfl⟩ : ∃ b, a = 16 + b := ⟨a - 16, by omega⟩
          by_cases hi : i < nD S
          · rw [if_pos hi, show 16 + b - 8 = 8 + b by omega, hD b i (by omega) hi]
          · rw [if_neg hi, z4 b i (by omega) (by omega)]
        · simp only [b4, if_false]
          exact (z5 a i (by omega)).symm
theorem mv_Hz {I : Nat → Nat → Int32} {S : HS} (hS : mv I = S) : Hz S := by
  have hT := mv_nT hS
  have hN := mv_nN hS
  have hD := mv_nD hS
  refine ⟨fun b i hb hi => ?_, fun b i hb hi => ?_, fun b i hb hi => ?_, fun b i hb hi => ?_, fun b i hb => ?_⟩
  · rw [← hS]; simp [mv, hb, hi]
  · rw [← hS]; simp only [mv, hT]
    rw [if_neg (by omega), if_pos (by omega), if_neg (by omega)]
  · rw [← hS]; simp only [mv, hN]
    rw [if_neg (by omega), if_neg (by omega), if_pos (by omega), if_neg (by omega)]
  · rw [← hS]; simp only [mv, hD]
    rw [if_neg (by omega), if_neg (by omega), if_neg (by omega), if_pos (by omega), if_neg (by omega)]
  · rw [← hS]; simp only [mv]
    rw [if_neg (by omega), if_neg (by omega), if_neg (by omega), if_neg (by omega)]
theorem mo_inj {a b : Nat} (ha : a < 10) (hb : b < 10) (h : a ≠ b) : ¬ (mo a = mo b ∧ mk a = mk b) := by
  have h2 : ∀ a, a < 10 → ∀ b, b < 10 → a ≠ b → ¬ (mo a = mo b ∧ mk a = mk b) := by decide
  exact h2 a ha b hb h
theorem rd_p {M : jk_M} {a k q j : Nat} {x : Int32} (h : ¬ (q = a ∧ j = k)) : (jk_wI M a k x).2.1 q j = M.2.1 q j := by
  by_cases e : q = a
  · subst e; exact rd_k (fun z => h ⟨rfl, z⟩)
  · exact rd_o e
/-- a number of the house is written -/
theorem mv_sc {M : jk_M} {a : Nat} {S : HS} {x : Int32} (hS : mv M.2.1 = S) (ha : a < 10) (h7 : a ≠ 7) (h8 : a ≠ 8) (h9 : a ≠ 9) : mv (jk_wI M (mo a) (mk a) x).2.1 = upS S a 0 x := by
  have z := mv_Hz hS
  have nT' : nT (upS S a 0 x) = nT S := by simp only [nT]; rw [upS_n (by omega)]
  have nN' : nN (upS S a 0 x) = nN S := by simp only [nN]; rw [upS_n (by omega)]
  have nD' : nD (upS S a 0 x) = nD S := by simp only [nD]; rw [upS_n (by omega)]
  have m12 : mo a ≤ 12 := by unfold mo; split <;> omega
  have m0 : mo a = 0 ∨ mo a = 12 := by unfold mo; split <;> omega
  refine mv_of (fun b hb => ?_) ?_ (fun b i hb hi => ?_) (fun b i hb hi => ?_) (fun b i hb hi => ?_)
  · by_cases e : b = a
    · subst e; rw [rd_s, upS_s]
    · rw [rd_p (mo_inj hb ha e), upS_n (by omega)]; exact mvs hS hb
  · obtain ⟨z1, z2, z3, z4, z5⟩ := z
    refine ⟨fun b i hb hi => ?_, fun b i hb hi => ?_, fun b i hb hi => ?_, fun b i hb hi => ?_, fun b i hb => ?_⟩
    · rw [upS_n (by omega)]; exact z1 b i hb hi
    · rw [nT'] at hi; rw [upS_n (by omega)]; exact z2 b i hb hi
    · rw [nN'] at hi; rw [upS_n (by omega)]; exact z3 b i hb hi
    · rw [nD'] at hi; rw [upS_n (by omega)]; exact z4 b i hb hi
    · rw [upS_n (by omega)]; exact z5 b i hb
  · rw [nT'] at hi; rw [rd_o (by omega), upS_n (by omega)]; exact mvT hS hi hb
  · rw [nN'] at hi; rw [rd_o (by omega), upS_n (by omega)]; exact mvN hS hi hb
  · rw [nD'] at hi; rw [rd_o (by omega), upS_n (by omega)]; exact mvD hS hi hb
/-- a thing's, a neighbour's, a device's -/
theorem mv_ar {M : jk_M} {a j : Nat} {S : HS} {x : Int32} (hS : mv M.2.1 = S) (h : (10 ≤ a ∧ a < 14 ∧ j < nT S) ∨ (14 ≤ a ∧ a < 16 ∧ j < nN S) ∨ (16 ≤ a ∧ a < 20 ∧ j < nD S)) : mv (jk_wI M (a - 8) j x).2.1 = upS S a j x := by
  have z := mv_Hz hS
  have nT' : nT (upS S a j x) = nT S := by simp only [nT]; rw [upS_n (by omega)]
  have nN' : nN (upS S a j x) = nN S := by simp only [nN]; rw [upS_n (by omega)]
  have nD' : nD (upS S a j x) = nD S := by simp only [nD]; rw [upS_n (by omega)]
  refine mv_of (fun b hb => ?_) ?_ (fun b i hb hi => ?_) (fun b i hb hi => ?_) (fun b i hb hi => ?_)
  · have m0 : mo b = 0 ∨ mo b = 12 := by unfold mo; split <;> omega
    rw [rd_o (by omega), upS_n (by omega)]; exact mvs hS hb
  · obtain ⟨z1, z2, z3, z4, z5⟩ := z
    refine ⟨fun b i hb hi => ?_, fun b i hb hi => ?_, fun b i hb hi => ?_, fun b i hb hi => ?_, fun b i hb => ?_⟩
    · rw [upS_n (by omega)]; exact z1 b i hb hi
    · rw [nT'] at hi; rw [upS_n (by omega)]; exact z2 b i hb hi
    · rw [nN'] at hi; rw [upS_n (by omega)]; exact z3 b i hb hi
    · rw [nD'] at hi; rw [upS_n (by omega)]; exact z4 b i hb hi
    · rw [upS_n (by omega)]; exact z5 b i hb
  · rw [nT'] at hi
    by_cases e : 10 + b = a ∧ i = j
    · obtain ⟨rfl, rfl⟩ := e; rw [show 10 + b - 8 = 2 + b by omega, rd_s, upS_s]
    · rw [rd_p (by omega), upS_n e]; exact mvT hS hi hb
  · rw [nN'] at hi
    by_cases e : 14 + b = a ∧ i = j
    · obtain ⟨rfl, rfl⟩ := e; rw [show 14 + b - 8 = 6 + b by omega, rd_s, upS_s]
    · rw [rd_p (by omega), upS_n e]; exact mvN hS hi hb
  · rw [nD'] at hi
    by_cases e : 16 + b = a ∧ i = j
    · obtain ⟨rfl, rfl⟩ := e; rw [show 16 + b - 8 = 8 + b by omega, rd_s, upS_s]
    · rw [rd_p (by omega), upS_n e]; exact mvD hS hi hb
/-- the kept house in its row -/
def kvo (a i : Nat) : Nat := if a < 5 then a + 109 else if a < 7 then a + 99 else if a < 10 then a + 99 else if a < 14 then 16 * (a - 10) + i else if a < 16 then 64 + 8 * (a - 14) + i else 80 + 6 * (a - 16) + i
def kv (f : Nat → Int32) : HS := fun a i =>
  if a < 10 then (if i = 0 then f (kvo a 0) else 0)
  else if a < 14 then (if i < (f 106).toNatClampNeg then f (kvo a i) else 0)
  else if a < 16 then (if i < (f 107).toNatClampNeg then f (kvo a i) else 0)
  else if a < 20 then (if i < (f 108).toNatClampNeg then f (kvo a i) else 0)
  else 0
/-- a shelf as the model keeps it: held, sort, size, shown -/
def shm (h s z p : Int32) (g : Nat → Int32) : Prop := (¬ g 0 = -1 ∧ h = 1 ∧ s = g 0 ∧ z = g 1) ∨ (g 0 = -1 ∧ g 2 = -1 ∧ h = 0) ∨ (g 0 = -1 ∧ ¬ g 2 = -1 ∧ h = 2 ∧ p = g 2)
def wdT : List Int32 := [115, 105, 100, 101, 32, 0, 116, 104, 105, 110, 103, 32, 0, 98, 111, 120, 32, 0, 112, 111, 119, 101, 114, 32, 0, 99, 104, 97, 110, 110, 101, 108, 32, 0, 110, 101, 105, 103, 104, 98, 111, 117, 114, 32, 0, 100, 101, 118, 105, 99, 101, 32, 0, 111, 112, 101, 110, 32, 0, 115, 104, 117, 116, 32, 0, 109, 105, 110, 117, 116, 101, 32, 0]
def nbT : List Int32 := [1, 3, 2, 1, 1, 2, 3, 1, 1, 1]
def MV (M : jk_M) (Z : ZS) : Prop := WM M ∧ mv M.2.1 = Z.1 ∧ (Z.2.2.2.2 8 = 1 → kv (M.2.1 23) = Z.2.1) ∧ (∀ s, s < 8 → shm (M.2.1 13 s) (M.2.1 14 s) (M.2.1 15 s) (M.2.1 16 s) (Z.2.2.1 s)) ∧ (∀ s, s < 8 → ∀ i, i < 160 → M.2.2.1 17 (160 * s + i) = Z.2.2.2.1 s i) ∧ (∀ i, i < 8 → M.2.1 1 i = Z.2.2.2.2 i) ∧ M.2.1 0 50 = Z.2.2.2.2 8 ∧ M.2.1 0 8 = Z.2.2.2.2 9 ∧ M.2.1 0 49 = Z.2.2.2.2 10 ∧ (∀ i, i < 20 → M.2.1 31 i = Z.2.2.2.2 (11 + i)) ∧ M.2.1 0 40 = -1 ∧ (∀ i, i < 73 → M.2.1 19 i = wdT.getD i 0) ∧ (∀ i, i < 10 → M.2.1 20 i = nbT.getD i 0)
/-- scratch of the model -/
def PS (q k : Nat) : Prop := (q = 0 ∧ ((30 ≤ k ∧ k ≤ 34) ∨ k = 39 ∨ k = 41 ∨ k = 47)) ∨ (21 ≤ q ∧ q ≤ 30 ∧ q ≠ 23)
/-- all but the house now, and scratch -/
def PO (q k : Nat) : Prop := PH q k ∨ PS q k
theorem MV.now {M M1 : jk_M} {Z : ZS} {S : HS} (h : MV M Z) (s : Fm PO M M1) (hS : mv M1.2.1 = S) : MV M1 (nowZ Z S) := by
  obtain ⟨h1, h2, h3, h4, h5, h6, h7, h8, h9, h10, h11, h12, h13⟩ := h
  have e : ∀ q k, ¬ PO q k → M1.2.1 q k = M.2.1 q k := s.2.2
  have en : ∀ q, (q = 1 ∨ (13 ≤ q ∧ q ≤ 20) ∨ q = 23 ∨ q = 31) → M1.2.1 q = M.2.1 q := fun q hq => by
    funext k; exact e q k (by unfold PO PH PS; omega)
  have e0 : ∀ k, (k = 8 ∨ k = 40 ∨ k = 49 ∨ k = 50) → M1.2.1 0 k = M.2.1 0 k := fun k hk => e 0 k (by unfold PO PH PS; omega)
  refine ⟨s.M h1, hS, fun h => by rw [en 23 (by omega)]; exact h3 h, fun t ht => by rw [en 13 (by omega), en 14 (by omega), en 15 (by omega), en 16 (by omega)]; exact h4 t ht, fun t ht i hi => by rw [s.2.1]; exact h5 t ht i hi, fun i hi => by rw [en 1 (by omega)]; exact h6 i hi, (e0 50 (by omega)).trans h7, (e0 8 (by omega)).trans h8, (e0 49 (by omega)).trans h9, fun i hi => by rw [en 31 (by omega)]; exact h10 i hi, (e0 40 (by omega)).trans h11, fun i hi => by rw [en 19 (by omega)]; exact h12 i hi, fun i hi => by rw [en 20 (by omega)]; exact h13 i hi⟩
theorem PS_H : ∀ q k, PH q k → ¬ PS q k := fun q k h => by unfold PH at h; unfold PS; omega
theorem PS_O : ∀ q k, PS q k → PO q k := fun q k h => Or.inr h
theorem PH_O : ∀ q k, PH q k → PO q k := fun q k h => Or.inl h
theorem MV.sc {M M1 : jk_M} {Z : ZS} (h : MV M Z) (s : Fm PS M M1) : MV M1 Z := MV.now h (s.mo PS_O) (s.mv h.2.1 PS_H)
def nrM (M : jk_M) (c : Int32) : jk_M := jk_wI M 1 (0 - c).toNatClampNeg (M.2.1 1 (0 - c).toNatClampNeg + 1)
theorem MV.rf {M : jk_M} {Z : ZS} (h : MV M Z) {c : Int32} (hc : 0 < 0 - c ∧ 0 - c < 8) : MV (nrM M c) (refZ Z c) := by
  obtain ⟨h1, h2, h3, h4, h5, h6, h7, h8, h9, h10, h11, h12, h13⟩ := h
  obtain ⟨k, hk, ek⟩ := neg_in hc
  have ev : refV Z.2.2.2.2 c = va_up Z.2.2.2.2 k (Z.2.2.2.2 k + 1) := by rw [refV, if_pos hc, ek]
  rw [nrM, ek]
  have s : Fm (fun q _ => q = 1) M (jk_wI M 1 k (M.2.1 1 k + 1)) := Fm.rf.w rfl
  have en : ∀ q, q ≠ 1 → (jk_wI M 1 k (M.2.1 1 k + 1)).2.1 q = M.2.1 q := fun q hq => by funext j; exact rd_o hq
  refine ⟨s.M h1, s.mv h2 (fun q j hq z => by have z : q = 1 := z; unfold PH at hq; omega), fun h => ?_, fun t ht => by rw [en 13 (by omega), en 14 (by omega), en 15 (by omega), en 16 (by omega)]; exact h4 t ht, h5, fun i hi => ?_, ?_, ?_, ?_, fun i hi => ?_, ?_, fun i hi => by rw [en 19 (by omega)]; exact h12 i hi, fun i hi => by rw [en 20 (by omega)]; exact h13 i hi⟩
  · have h : refV Z.2.2.2.2 c 8 = 1 := h
    rw [ev, va_up_ne _ _ (by omega)] at h
    rw [en 23 (by omega)]; exact h3 h
  · show _ = refV Z.2.2.2.2 c i
    rw [ev]
    by_cases ei : i = k
    · subst ei; rw [rd_s, va_up_self, h6 i hi]
    · rw [rd_k ei, va_up_ne _ _ ei]; exact h6 i hi
  · show _ = refV Z.2.2.2.2 c 8
    rw [en 0 (by omega), ev, va_up_ne _ _ (by omega)]; exact h7
  · show _ = refV Z.2.2.2.2 c 9
    rw [en 0 (by omega), ev, va_up_ne _ _ (by omega)]; exact h8
  · show _ = refV Z.2.2.2.2 c 10
    rw [en 0 (by omega), ev, va_up_ne _ _ (by omega)]; exact h9
  · show _ = refV Z.2.2.2.2 c (11 + i)
    rw [en 31 (by omega), ev, va_up_ne _ _ (by omega)]; exact h10 i hi
  · rw [en 0 (by omega)]; exact h11
