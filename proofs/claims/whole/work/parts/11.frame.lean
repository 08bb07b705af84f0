/-! what stays -/
def Sm (P : Nat → Prop) (M M' : jk_M) : Prop := M'.1 = M.1 ∧ M'.2.2 = M.2.2 ∧ ∀ q, ¬ P q → M'.2.1 q = M.2.1 q
theorem Sm.rf {P : Nat → Prop} {M : jk_M} : Sm P M M := ⟨rfl, rfl, fun _ _ => rfl⟩
theorem Sm.w {P : Nat → Prop} {M M1 : jk_M} {a k : Nat} {x : Int32} (h : Sm P M M1) (ha : P a) : Sm P M (jk_wI M1 a k x) :=
  ⟨h.1, h.2.1, fun q hq => (jk_up_n M1.2.1 a q _ (fun e => hq (by rw [e]; exact ha))).trans (h.2.2 q hq)⟩
theorem Sm.tr {P : Nat → Prop} {M M1 M2 : jk_M} (h : Sm P M M1) (h2 : Sm P M1 M2) : Sm P M M2 := ⟨h2.1.trans h.1, h2.2.1.trans h.2.1, fun q hq => (h2.2.2 q hq).trans (h.2.2 q hq)⟩
theorem Sm.mo {P P2 : Nat → Prop} {M M1 : jk_M} (h : Sm P M M1) (hp : ∀ q, P q → P2 q) : Sm P2 M M1 := ⟨h.1, h.2.1, fun q hq => h.2.2 q (fun z => hq (hp q z))⟩
theorem Sm.C {P : Nat → Prop} {M M' : jk_M} (h : Sm P M M') (hC : WC M) : WC M' := ⟨h.1.trans hC.1, fun a k hn => by rw [h.2.1]; exact hC.2 a k hn⟩
theorem Sm.M {P : Nat → Prop} {M M' : jk_M} (h : Sm P M M') (hC : WM M) : WM M' := ⟨h.1.trans hC.1, by rw [h.2.1]; exact hC.2⟩
/-- the objects of a house -/
def HO (h q : Nat) : Prop := h ≤ q ∧ q ≤ h + 26
theorem hv_same {I I2 : Nat → Nat → Int32} {h : Nat} {S : HS} (hS : hv I h = S) (h16 : nT S ≤ 16) (h8 : nN S ≤ 8) (h6 : nD S ≤ 6) (e : ∀ q, HO h q → I2 q = I q) : hv I2 h = S := by
  have e0 : I2 h = I h := e h ⟨by omega, by omega⟩
  have hT : (I h 7).toNatClampNeg = nT S := by subst hS; simp [nT, hv]
  have hN : (I h 8).toNatClampNeg = nN S := by subst hS; simp [nN, hv]
  have hD : (I h 9).toNatClampNeg = nD S := by subst hS; simp [nD, hv]
  rw [← hS]
  funext b i
  simp only [hv, e0, hT, hN, hD]
  by_cases b1 : b < 10
  · simp only [b1, if_true]
  · simp only [b1, if_false]
    by_cases b2 : b < 14
    · simp only [b2, if_true]
      by_cases hi : i < nT S
      · rw [e (h + 5 + i) ⟨by omega, by omega⟩]
      · simp only [hi, if_false]
    · simp only [b2, if_false]
      by_cases b3 : b < 16
      · simp only [b3, if_true]
        rw [e (h + 3 + (b - 14)) ⟨by omega, by omega⟩]
      · simp only [b3, if_false]
        by_cases hi : i < nD S
        · rw [e (h + 21 + i) ⟨by omega, by omega⟩]
        · simp only [hi, if_false]
theorem Sok.cn {S : HS} (ok : Sok S) : nT S ≤ 16 ∧ nN S ≤ 8 ∧ nD S ≤ 6 := ⟨ok.T.2, ok.N.2, ok.D.2⟩
theorem Sm.hv {P : Nat → Prop} {M M' : jk_M} {h : Nat} {S : HS} (x : Sm P M M') (hS : hv M.2.1 h = S) (ok : Sok S) (hp : ∀ q, HO h q → ¬ P q) : hv M'.2.1 h = S := hv_same hS ok.cn.1 ok.cn.2.1 ok.cn.2.2 (fun q hq => x.2.2 q (hp q hq))
/-- a house's state built from its parts -/
theorem hv_of {I : Nat → Nat → Int32} {h : Nat} {S : HS} (h0 : ∀ b, b < 10 → I h b = S b 0) (hz : ∀ b i, b < 10 → i ≠ 0 → S b i = 0) (hT : ∀ b i, b < 4 → i < nT S → I (h + 5 + i) b = S (10 + b) i) (hTz : ∀ b i, b < 4 → nT S ≤ i → S (10 + b) i = 0) (hN : ∀ b i, b < 2 → i < nN S → I (h + 3 + b) i = S (14 + b) i) (hNz : ∀ b i, b < 2 → nN S ≤ i → S (14 + b) i = 0) (hD : ∀ b i, b < 4 → i < nD S → I (h + 21 + i) b = S (16 + b) i) (hDz : ∀ b i, b < 4 → nD S ≤ i → S (16 + b) i = 0) (hU : ∀ b i, 20 ≤ b → S b i = 0) : hv I h = S := by
  have c7 : (I h 7).toNatClampNeg = nT S := by rw [h0 7 (by decide)]; rfl
  have c8 : (I h 8).toNatClampNeg = nN S := by rw [h0 8 (by decide)]; rfl
  have c9 : (I h 9).toNatClampNeg = nD S := by rw [h0 9 (by decide)]; rfl
  funext b i
  simp only [hv, c7, c8, c9]
  by_cases b1 : b < 10
  · simp only [b1, if_true]
    by_cases hi : i = 0
    · rw [if_pos hi, hi, h0 b b1]
    · rw [if_neg hi, hz b i b1 hi]
  · simp only [b1, if_false]
    by_cases b2 : b < 14
    · simp only [b2, if_true]
      have e : b = 10 + (b - 10) := by omega
      by_cases hi : i < nT S
      · rw [if_pos hi, hT (b - 10) i (by omega) hi, ← e]
      · have := hTz (b - 10) i (by omega) (by omega)
        rw [← e] at this
        rw [if_neg hi, this]
    · simp only [b2, if_false]
      by_cases b3 : b < 16
      · simp only [b3, if_true]
        have e : b = 14 + (b - 14) := by omega
        by_cases hi : i < nN S
        · rw [if_pos hi, hN (b - 14) i (by omega) hi, ← e]
        · have := hNz (b - 14) i (by omega) (by omega)
          rw [← e] at this
          rw [if_neg hi, this]
      · simp only [b3, if_false]
        by_cases b4 : b < 20
        · simp only [b4, if_true]
          have e : b = 16 + (b - 16) := by omega
          by_cases hi : i < nD S
          · rw [if_pos hi, hD (b - 16) i (by omega) hi, ← e]
          · have := hDz (b - 16) i (by omega) (by omega)
            rw [← e] at this
            rw [if_neg hi, this]
        · simp only [b4, if_false]
          exact (hU b i (by omega)).symm
/-- a picture is nought beyond its counts -/
def Hz (S : HS) : Prop := (∀ b i, b < 10 → i ≠ 0 → S b i = 0) ∧ (∀ b i, b < 4 → nT S ≤ i → S (10 + b) i = 0) ∧ (∀ b i, b < 2 → nN S ≤ i → S (14 + b) i = 0) ∧ (∀ b i, b < 4 → nD S ≤ i → S (16 + b) i = 0) ∧ (∀ b i, 20 ≤ b → S b i = 0)
theorem hv_Hz {I : Nat → Nat → Int32} {h : Nat} {S : HS} (hS : hv I h = S) : Hz S := by
  have hT : (I h 7).toNatClampNeg = nT S := by subst hS; simp [nT, hv]
  have hN : (I h 8).toNatClampNeg = nN S := by subst hS; simp [nN, hv]
  have hD : (I h 9).toNatClampNeg = nD S := by subst hS; simp [nD, hv]
  refine ⟨fun b i hb hi => ?_, fun b i hb hi => ?_, fun b i hb hi => ?_, fun b i hb hi => ?_, fun b i hb => ?_⟩
  · rw [← hS]; simp [hv, hb, hi]
  · rw [← hS]; simp only [hv, hT]
    rw [if_neg (by omega), if_pos (by omega), if_neg (by omega)]
  · rw [← hS]; simp only [hv, hN]
    rw [if_neg (by omega), if_neg (by omega), if_pos (by omega), if_neg (by omega)]
  · rw [← hS]; simp only [hv, hD]
    rw [if_neg (by omega), if_neg (by omega), if_neg (by omega), if_pos (by omega), if_neg (by omega)]
  · rw [← hS]; simp only [hv]
    rw [if_neg (by omega), if_neg (by omega), if_neg (by omega), if_neg (by omega)]
def upS (S : HS) (b i : Nat) (x : Int32) : HS := fun b2 i2 => if b2 = b ∧ i2 = i then x else S b2 i2
def addTS (S : HS) (k a c : Int32) : HS := fun b i => if b = 7 ∧ i = 0 then nI (nT S + 1) else if 10 ≤ b ∧ b < 14 ∧ i = nT S then (if b = 10 then k else if b = 11 then a else if b = 12 then c else 1) else S b i
def addNS (S : HS) (c n : Int32) : HS := fun b i => if b = 8 ∧ i = 0 then nI (nN S + 1) else if 14 ≤ b ∧ b < 16 ∧ i = nN S then (if b = 14 then c else n) else S b i
def addDS (S : HS) (c w v : Int32) : HS := fun b i => if b = 9 ∧ i = 0 then nI (nD S + 1) else if 16 ≤ b ∧ b < 20 ∧ i = nD S then (if b = 16 then c else if b = 17 then w else if b = 18 then v else 0) else S b i
def itk (k : Int32) : Nat → Int32
  | 0 => k
  | n + 1 => kAb (itk k n)
def oneK (k z : Int32) : Prop := ∃ j, j < 7 ∧ itk k j = z
def jk_w4 (M : jk_M) (a : Nat) (x0 x1 x2 x3 : Int32) : jk_M := jk_wI (jk_wI (jk_wI (jk_wI M a 0 x0) a 1 x1) a 2 x2) a 3 x3
theorem rd_s {M : jk_M} {a k : Nat} {x : Int32} : (jk_wI M a k x).2.1 a k = x := by simp [jk_wI, va_up]
theorem rd_k {M : jk_M} {a k j : Nat} {x : Int32} (h : j ≠ k) : (jk_wI M a k x).2.1 a j = M.2.1 a j := by simp [jk_wI, va_up, h]
theorem rd_o {M : jk_M} {a b k j : Nat} {x : Int32} (h : b ≠ a) : (jk_wI M a k x).2.1 b j = M.2.1 b j := by simp [jk_wI, va_up, h]
