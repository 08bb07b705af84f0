theorem j_if_eqN {F : jk_F} {d kc ks pc : Nat} {L : List (Nat × Value)} {st : List Value} {M : jk_M} {Q : Option Value → jk_M → Prop} {off : Int} {tgt : Nat} (a : Nat) (hdg : decode F.2.1 pc = .ok (.ifCond .eq off, 3)) (ha : a < 2 ^ 31) (ht : (pc : Int) + off = (tgt : Int)) (kt : a = 0 → J F d kc ks tgt L st M Q) (kf : ¬ a = 0 → J F d kc ks (pc + 3) L st M Q) : J F d kc ks pc L (.int (nI a) :: st) M Q :=
  j_if_eq hdg ht (fun h => kt ((nI_eq ha (by decide)).mp (h.trans nI_0.symm))) (fun h => kf (fun z => h (by rw [z]; exact nI_0)))
theorem j_if_neN {F : jk_F} {d kc ks pc : Nat} {L : List (Nat × Value)} {st : List Value} {M : jk_M} {Q : Option Value → jk_M → Prop} {off : Int} {tgt : Nat} (a : Nat) (hdg : decode F.2.1 pc = .ok (.ifCond .ne off, 3)) (ha : a < 2 ^ 31) (ht : (pc : Int) + off = (tgt : Int)) (kt : ¬ a = 0 → J F d kc ks tgt L st M Q) (kf : a = 0 → J F d kc ks (pc + 3) L st M Q) : J F d kc ks pc L (.int (nI a) :: st) M Q :=
  j_if_ne hdg ht (fun h => kt (fun z => h (by rw [z]; exact nI_0))) (fun h => kf ((nI_eq ha (by decide)).mp (h.trans nI_0.symm)))
theorem j_isubN {F : jk_F} {d kc ks pc : Nat} {L : List (Nat × Value)} {st : List Value} {M : jk_M} {Q : Option Value → jk_M → Prop} (a b : Nat) (hdg : decode F.2.1 pc = .ok (.isub, 1)) (h : b ≤ a) (kk : J F d kc ks (pc + 1) L (.int (nI (a - b)) :: st) M Q) : J F d kc ks pc L (.int (nI b) :: .int (nI a) :: st) M Q :=
  j_isub hdg (by rw [pk_sub h]; exact kk)
/-- the objects of an air -/
def AO (a q : Nat) : Prop := a ≤ q ∧ q ≤ a + 5
theorem AOH {a h : Nat} (x : isA a h) : ∀ q, HO h q → ¬ AO a q := by
  intro q hq hp
  obtain ⟨h1, h2⟩ := hq
  obtain ⟨h3, h4⟩ := hp
  rcases x with ⟨rfl, rfl⟩ | ⟨rfl, rfl⟩ <;> omega
theorem AO0 {a k : Nat} (h : k ≤ 5) : AO a (a + k) := ⟨by omega, by omega⟩
def AOL (a q : Nat) : Prop := a < q ∧ q ≤ a + 3
theorem AOLk {a k : Nat} (h : 0 < k ∧ k ≤ 3) : AOL a (a + k) := ⟨by omega, by omega⟩
theorem AOLm {a : Nat} {M M' : jk_M} (h : Sm (AOL a) M M') : Sm (AO a) M M' := h.mo (fun q hq => ⟨by have := hq.1; omega, by have := hq.2; omega⟩)
theorem AOLn {a q : Nat} (h : q = a ∨ q = a + 4 ∨ q = a + 5) : ¬ AOL a q := fun z => by have := z.1; have := z.2; omega
theorem AOLH {a h : Nat} (x : isA a h) : ∀ q, HO h q → ¬ AOL a q := fun q hq z => AOH x q hq ⟨by have := z.1; omega, by have := z.2; omega⟩
def lossC (S : HS) (c : Nat) : Int32 := sm (fun i => if S 12 i = nI c then lossT S i else 0) (nT S)
def humC (S : HS) (c : Int32) : Int32 := sm (fun i => humT S i c) (nT S)
def acr (L : Nat → Int32) (c : Nat) : Int32 := sm (fun k => L (c / 10 * 10 + k)) (c % 10 + 1)
def dwn (L : Nat → Int32) (c : Nat) : Int32 := sm (fun k => L (10 * k + c % 10)) (c / 10 + 1)
def LossOK (a : Nat) (S : HS) (M : jk_M) : Prop := ∀ c, c < 80 → M.2.1 (a + 1) c = lossC S c ∧ M.2.1 (a + 2) c = acr (lossC S) c ∧ M.2.1 (a + 3) c = dwn (lossC S) c
def HumOK (a : Nat) (S : HS) (M : jk_M) : Prop := ∀ c, c < 80 → M.2.1 (a + 4) c = -1 ∨ M.2.1 (a + 4) c = humC S (nI c)
def AirOK (a : Nat) (S : HS) (M : jk_M) : Prop := LossOK a S M ∧ HumOK a S M ∧ M.2.1 a 6 = dinS S (S 2 0)
def cT (S : HS) (i : Nat) : Nat := (S 12 i).toNatClampNeg
def cD (S : HS) (i : Nat) : Nat := (S 16 i).toNatClampNeg
theorem nIc {x : Int32} (h0 : 0 ≤ x) : x = nI x.toNatClampNeg := by
  obtain ⟨j, hj, rfl⟩ := nI_of (Int32.not_lt.mpr h0)
  rw [nI_clamp hj]
/-- a cell by its number: row and column below the side -/
theorem isC_nat {S : HS} (ok : Sok S) {c : Int32} (h : isC S c) : c = nI c.toNatClampNeg ∧ c.toNatClampNeg / 10 < nS S ∧ c.toNatClampNeg % 10 < nS S ∧ c.toNatClampNeg < 80 := by
  obtain ⟨h0, h1, h2⟩ := h
  have e := nIc h0
  obtain ⟨s1, s2, s3⟩ := ok.S
  have hb : c.toNatClampNeg < 2 ^ 31 := by
    obtain ⟨j, hj, e2⟩ := nI_of (Int32.not_lt.mpr h0)
    rw [e2, nI_clamp hj]; exact hj
  rw [e] at h1 h2
  rw [s1] at h1 h2
  have e10 : (10 : Int32) = nI 10 := rfl
  rw [e10, pk_div hb (by decide) (by decide), nI_ltI (by omega) (by omega)] at h1
  rw [e10, pk_rem hb (by decide) (by decide), nI_ltI (by omega) (by omega)] at h2
  exact ⟨e, h1, h2, by omega⟩
theorem isC_of {S : HS} (ok : Sok S) {n : Nat} (hn : n < 80) (h1 : n / 10 < nS S) (h2 : n % 10 < nS S) : isC S (nI n) := by
  obtain ⟨s1, s2, s3⟩ := ok.S
  have e10 : (10 : Int32) = nI 10 := rfl
  refine ⟨nI_pos' (by omega), ?_, ?_⟩
  · rw [s1, e10, pk_div (by omega) (by decide) (by decide), nI_ltI (by omega) (by omega)]; exact h1
  · rw [s1, e10, pk_rem (by omega) (by decide) (by decide), nI_ltI (by omega) (by omega)]; exact h2
theorem isC_P {S : HS} (ok : Sok S) {c : Int32} (h : isC S c) : isP c := by
  obtain ⟨e, -, -, h4⟩ := isC_nat ok h
  rw [e]
  exact ⟨nI_pos' (by omega), by rw [show (80 : Int32) = nI 80 from rfl, nI_ltI (by omega) (by decide)]; exact h4⟩
theorem isP_nat {c : Int32} (h : isP c) : c = nI c.toNatClampNeg ∧ c.toNatClampNeg < 80 := by
  have e := nIc h.1
  obtain ⟨j, hj, e2⟩ := nI_of (Int32.not_lt.mpr h.1)
  have h2 := h.2
  rw [e2, show (80 : Int32) = nI 80 from rfl, nI_ltI hj (by decide)] at h2
  rw [e2, nI_clamp hj]
  exact ⟨rfl, h2⟩
theorem isP_of {n : Nat} (h : n < 80) : isP (nI n) := ⟨nI_pos' (by omega), by rw [show (80 : Int32) = nI 80 from rfl, nI_ltI (by omega) (by decide)]; exact h⟩
theorem cT_ok {S : HS} (ok : Sok S) {i : Nat} (hi : i < nT S) : S 12 i = nI (cT S i) ∧ cT S i < 80 := by
  obtain ⟨e, -, -, h4⟩ := isC_nat ok (ok.th hi).2.2.1
  exact ⟨e, h4⟩
theorem cD_ok {S : HS} (ok : Sok S) {i : Nat} (hi : i < nD S) : S 16 i = nI (cD S i) ∧ cD S i < 80 := by
  obtain ⟨e, -, -, h4⟩ := isC_nat ok (ok.de hi).1
  exact ⟨e, h4⟩
theorem loss_step {M : jk_M} {b i : Nat} {S : HS} (ok : Sok S) (hi : i < nT S) (h : ∀ c, c < 80 → M.2.1 b c = sm (fun j => if S 12 j = nI c then lossT S j else 0) i) : ∀ c, c < 80 → (jk_wI M b (cT S i) (M.2.1 b (cT S i) + lossT S i)).2.1 b c = sm (fun j => if S 12 j = nI c then lossT S j else 0) (i + 1) := by
  intro c hc
  obtain ⟨e, hl⟩ := cT_ok ok hi
  rw [sm]
  by_cases hcc : c = cT S i
  · subst hcc
    rw [rd_s, h _ hl, if_pos e]
  · rw [rd_k hcc, h c hc, if_neg (fun z => hcc ?_)]
    · simp
    · rw [e, nI_eq (by omega) (by omega)] at z
      exact z.symm
theorem acr_0 {L : Nat → Int32} {c : Nat} (h : c % 10 = 0) : acr L c = L c + 0 := by
  rw [acr, h, sm, sm, show c / 10 * 10 + 0 = c by omega, Int32.add_comm]
theorem acr_s {L : Nat → Int32} {c : Nat} (h : ¬ c % 10 = 0) : acr L c = L c + acr L (c - 1) := by
  rw [acr, acr, sm, show c / 10 * 10 + c % 10 = c by omega, Int32.add_comm, show (c - 1) % 10 + 1 = c % 10 by omega, show (c - 1) / 10 = c / 10 by omega]
theorem dwn_0 {L : Nat → Int32} {c : Nat} (h : c < 10) : dwn L c = L c + 0 := by
  rw [dwn, show c / 10 = 0 by omega, sm, sm, show 10 * 0 + c % 10 = c by omega, Int32.add_comm]
theorem dwn_s {L : Nat → Int32} {c : Nat} (h : 10 ≤ c) : dwn L c = L c + dwn L (c - 10) := by
  rw [dwn, dwn, sm, show 10 * (c / 10) + c % 10 = c by omega, Int32.add_comm, show (c - 10) / 10 + 1 = c / 10 by omega, show (c - 10) % 10 = c % 10 by omega]
theorem lay_step {M2 : jk_M} {a i : Nat} {S : HS} (hg : ∀ c, c < i → M2.2.1 (a + 2) c = acr (lossC S) c ∧ M2.2.1 (a + 3) c = dwn (lossC S) c) : ∀ c, c < i + 1 → (jk_wI (jk_wI M2 (a + 2) i (acr (lossC S) i)) (a + 3) i (dwn (lossC S) i)).2.1 (a + 2) c = acr (lossC S) c ∧ (jk_wI (jk_wI M2 (a + 2) i (acr (lossC S) i)) (a + 3) i (dwn (lossC S) i)).2.1 (a + 3) c = dwn (lossC S) c := by
  intro c hc
  by_cases e : c = i
  · subst e
    rw [rd_o (by omega), rd_s, rd_s]
    exact ⟨rfl, rfl⟩
  · rw [rd_o (by omega), rd_k e, rd_k e, rd_o (by omega)]
    exact hg c (by omega)
/-- the ways' losses, off the sums along the lines -/
noncomputable def alng (V L : Nat → Int32) (f t : Int32) : Int32 := @ite _ (¬ isP f ∨ ¬ isP t) (Classical.propDecidable _) 0 (if f < t then V t.toNatClampNeg - V f.toNatClampNeg else V f.toNatClampNeg - L f.toNatClampNeg - V t.toNatClampNeg + L t.toNatClampNeg)
noncomputable def wayS (S : HS) (f t : Int32) : Int32 := jmin (alng (acr (lossC S)) (lossC S) f (f / 10 * 10 + (t - t / 10 * 10)) + alng (dwn (lossC S)) (lossC S) (f / 10 * 10 + (t - t / 10 * 10)) t) (alng (dwn (lossC S)) (lossC S) f (t / 10 * 10 + (f - f / 10 * 10)) + alng (acr (lossC S)) (lossC S) (t / 10 * 10 + (f - f / 10 * 10)) t)
/-- strength of a box in f at t (0 where one of both is none) -/
noncomputable def strS (S : HS) (f t : Int32) : Int32 := @ite _ (¬ isP f ∨ ¬ isP t) (Classical.propDecidable _) 0 (jmax 0 (S 1 0 - 2 * sfar f t - wayS S f t - humC S t - dinS S (S 2 0)))
def plO (S : HS) (b : Int32) : Int32 := if b = 0 then S 5 0 else S 6 0
noncomputable def barS (S : HS) (b c : Int32) : Int32 := barsBy (strS S (plO S b) c)
noncomputable def betS (S : HS) (c : Int32) : Int32 := jmax (barS S 0 c) (barS S 1 c)
noncomputable def paceS (S : HS) (b c : Int32) : Int32 := if b = 0 then barS S 0 c else jmin (barS S 1 c / 2) (barS S 0 (S 6 0))
noncomputable def clgS (S : HS) (b c r : Int32) : Int32 := if barS S b c ≤ r ∧ barS S b c < barsBy (strS S (plO S (1 - b)) c) then 1 - b else b
noncomputable def fillS (S : HS) : Int32 := sm (fun i => if S 17 i ≤ paceS S (S 19 i) (S 16 i) then S 18 i else 0) (nD S)
noncomputable def rchS (S : HS) (i : Nat) (c : Int32) : Int32 := @ite _ (isP c) (Classical.propDecidable _) (barsBy (strS S c (S 16 i))) 0
noncomputable def servBy (S : HS) (c e : Int32) : Int32 := sm (fun i => if S 17 i ≤ jmax (rchS S i c) (jmin (rchS S i e / 2) (barsBy (strS S c e))) then S 18 i else 0) (nD S)
noncomputable def servS (S : HS) : Int32 := servBy S (S 5 0) (S 6 0)
