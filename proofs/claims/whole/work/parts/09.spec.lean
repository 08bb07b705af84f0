/-! a house as numbers: attributes by places.
0 side 1 power 2 channel 3 minute 4 seed 5 first 6 second 7 things 8 neighbours 9 devices (at 0);
of a thing 10 kind 11 a 12 cell 13 shut; of a neighbour 14 channel 15 noise; of a device 16 cell 17 want 18 worth 19 clings -/
abbrev HS : Type := Nat → Nat → Int32
def hv (I : Nat → Nat → Int32) (h : Nat) : HS := fun a i =>
  if a < 10 then (if i = 0 then I h a else 0)
  else if a < 14 then (if i < (I h 7).toNatClampNeg then I (h + 5 + i) (a - 10) else 0)
  else if a < 16 then (if i < (I h 8).toNatClampNeg then I (h + 3 + (a - 14)) i else 0)
  else if a < 20 then (if i < (I h 9).toNatClampNeg then I (h + 21 + i) (a - 16) else 0)
  else 0
def nT (S : HS) : Nat := (S 7 0).toNatClampNeg
def nN (S : HS) : Nat := (S 8 0).toNatClampNeg
def nD (S : HS) : Nat := (S 9 0).toNatClampNeg
def nS (S : HS) : Nat := (S 0 0).toNatClampNeg
theorem hvs {I : Nat → Nat → Int32} {h : Nat} {S : HS} (hS : hv I h = S) {k : Nat} (hk : k < 10) : I h k = S k 0 := by
  subst hS; simp [hv, hk]
theorem hvT {I : Nat → Nat → Int32} {h : Nat} {S : HS} (hS : hv I h = S) {i k : Nat} (hi : i < nT S) (hk : k < 4) : I (h + 5 + i) k = S (10 + k) i := by
  subst hS
  have h7 : nT (hv I h) = (I h 7).toNatClampNeg := by simp [nT, hv]
  rw [h7] at hi
  have h1 : ¬ 10 + k < 10 := by omega
  have h2 : 10 + k < 14 := by omega
  simp [hv, h1, h2, hi]
theorem hvN {I : Nat → Nat → Int32} {h : Nat} {S : HS} (hS : hv I h = S) {i k : Nat} (hi : i < nN S) (hk : k < 2) : I (h + 3 + k) i = S (14 + k) i := by
  subst hS
  have h7 : nN (hv I h) = (I h 8).toNatClampNeg := by simp [nN, hv]
  rw [h7] at hi
  have h1 : ¬ 14 + k < 10 := by omega
  have h2 : ¬ 14 + k < 14 := by omega
  have h3 : 14 + k < 16 := by omega
  simp [hv, h1, h2, h3, hi]
theorem hvD {I : Nat → Nat → Int32} {h : Nat} {S : HS} (hS : hv I h = S) {i k : Nat} (hi : i < nD S) (hk : k < 4) : I (h + 21 + i) k = S (16 + k) i := by
  subst hS
  have h7 : nD (hv I h) = (I h 9).toNatClampNeg := by simp [nD, hv]
  rw [h7] at hi
  have h1 : ¬ 16 + k < 10 := by omega
  have h2 : ¬ 16 + k < 14 := by omega
  have h3 : ¬ 16 + k < 16 := by omega
  have h4 : 16 + k < 20 := by omega
  simp [hv, h1, h2, h3, h4, hi]
/-- a number within bounds -/
def inB (x : Int32) (a b : Nat) : Prop := ∃ n : Nat, a ≤ n ∧ n ≤ b ∧ x = nI n
def jrem (x y : Int32) : Int32 := x - x / y * y
def isC (S : HS) (c : Int32) : Prop := 0 ≤ c ∧ c / 10 < S 0 0 ∧ c - c / 10 * 10 < S 0 0
/-- what a house always is -/
def Sok (S : HS) : Prop :=
  inB (S 0 0) 2 8 ∧ inB (S 1 0) 10 60 ∧ inB (S 2 0) 1 13 ∧ inB (S 3 0) 0 59 ∧ isC S (S 5 0) ∧ (S 6 0 = -1 ∨ isC S (S 6 0)) ∧ inB (S 7 0) 0 16 ∧ inB (S 8 0) 0 8 ∧ inB (S 9 0) 0 6 ∧
  (∀ i, i < nT S → inB (S 10 i) 0 6 ∧ inB (S 11 i) 0 9 ∧ isC S (S 12 i) ∧ (S 13 i = 0 ∨ S 13 i = 1)) ∧
  (∀ i, i < nN S → inB (S 14 i) 1 13 ∧ inB (S 15 i) 0 20) ∧
  (∀ i, i < nD S → isC S (S 16 i) ∧ inB (S 17 i) 1 5 ∧ inB (S 18 i) 1 99 ∧ (S 19 i = 0 ∨ S 19 i = 1))
theorem inB.nat {x : Int32} {a b : Nat} (h : inB x a b) (hb : b < 2 ^ 31) : x = nI x.toNatClampNeg ∧ a ≤ x.toNatClampNeg ∧ x.toNatClampNeg ≤ b := by
  obtain ⟨n, h1, h2, rfl⟩ := h
  rw [nI_clamp (by omega)]
  exact ⟨rfl, h1, h2⟩
theorem Sok.T {S : HS} (ok : Sok S) : S 7 0 = nI (nT S) ∧ nT S ≤ 16 := by
  have := (ok.2.2.2.2.2.2.1).nat (by decide)
  exact ⟨this.1, this.2.2⟩
theorem Sok.N {S : HS} (ok : Sok S) : S 8 0 = nI (nN S) ∧ nN S ≤ 8 := by
  have := (ok.2.2.2.2.2.2.2.1).nat (by decide)
  exact ⟨this.1, this.2.2⟩
theorem Sok.D {S : HS} (ok : Sok S) : S 9 0 = nI (nD S) ∧ nD S ≤ 6 := by
  have := (ok.2.2.2.2.2.2.2.2.1).nat (by decide)
  exact ⟨this.1, this.2.2⟩
theorem Sok.S {S : HS} (ok : Sok S) : S 0 0 = nI (nS S) ∧ 2 ≤ nS S ∧ nS S ≤ 8 := by
  have := (ok.1).nat (by decide)
  exact ⟨this.1, this.2.1, this.2.2⟩
theorem Sok.th {S : HS} (ok : Sok S) {i : Nat} (hi : i < nT S) : inB (S 10 i) 0 6 ∧ inB (S 11 i) 0 9 ∧ isC S (S 12 i) ∧ (S 13 i = 0 ∨ S 13 i = 1) := ok.2.2.2.2.2.2.2.2.2.1 i hi
theorem Sok.ne {S : HS} (ok : Sok S) {i : Nat} (hi : i < nN S) : inB (S 14 i) 1 13 ∧ inB (S 15 i) 0 20 := ok.2.2.2.2.2.2.2.2.2.2.1 i hi
theorem Sok.de {S : HS} (ok : Sok S) {i : Nat} (hi : i < nD S) : isC S (S 16 i) ∧ inB (S 17 i) 1 5 ∧ inB (S 18 i) 1 99 ∧ (S 19 i = 0 ∨ S 19 i = 1) := ok.2.2.2.2.2.2.2.2.2.2.2 i hi
/-! sums -/
def sm (f : Nat → Int32) : Nat → Int32
  | 0 => 0
  | n + 1 => sm f n + f n
theorem sm_congr {f g : Nat → Int32} : ∀ {n : Nat}, (∀ i, i < n → f i = g i) → sm f n = sm g n
  | 0, _ => rfl
  | n + 1, h => by rw [sm, sm, sm_congr (fun i hi => h i (Nat.lt_succ_of_lt hi)), h n (Nat.lt_succ_self n)]
abbrev jk_ab : List Int32 := [0, 0, 0, 1, 0, 2, 4]
abbrev jk_le : List Int32 := [2, 0, 0, 0, 0, 10, 1, 0, 1, 1, 0, 0, 0, 0]
abbrev jk_mo : List Int32 := [8, 6, 9, 77, 1, 60, 13, 20, 5, 99, 15, 59, 5, 4]
abbrev jk_so : List Int32 := [0, -1, -1, 1, 2, 3, 4, 3, -1, 5, -1, -1, 6, -1, -1, 6, 7, -1, 3, 8, 9, 10, -1, -1, 10, -1, -1, 11, -1, -1]
abbrev jk_bo : List Int32 := [10, 11, 12, 20, 0, 0, 0, 30, 0, 0, 40, 0, 51, 0, 50, 0, 0, 60, 70, 71, 0]
/-! Math -/
def jmax (x y : Int32) : Int32 := if x < y then y else x
def jmin (x y : Int32) : Int32 := if y < x then y else x
def jabs (x : Int32) : Int32 := if 0 ≤ x then x else 0 - x
def sfar (c e : Int32) : Int32 := jabs (c / 10 - e / 10) + jabs (c - c / 10 * 10 - (e - e / 10 * 10))
def isP (c : Int32) : Prop := 0 ≤ c ∧ c < 80
def barsBy (x : Int32) : Int32 := jmin 5 (x / 10)
def noiseO (n f : Int32) : Int32 := n * jmax 0 (5 - jabs f) / 5
def kAb (k : Int32) : Int32 := if 0 ≤ k ∧ k < 7 then jk_ab.getD k.toNatClampNeg 0 else 0
/-- the loss of a thing, by kind, a, shut -/
def lossK (k a z : Int32) : Int32 := if k = 0 then a else if k = 1 then a + 3 else if k = 2 then (if z = 0 then 0 else a) else if k = 3 then 2 * (a + 3) else if k = 5 then (if z = 0 then 0 else a / 2) else 0
def humK (k a m st : Int32) : Int32 := jmax 0 ((if k = 6 then 10 else if k = 4 ∧ m - m / 10 * 10 < a then 20 else 0) - 5 * st)
def lossT (S : HS) (i : Nat) : Int32 := lossK (S 10 i) (S 11 i) (S 13 i)
def humT (S : HS) (i : Nat) (c : Int32) : Int32 := humK (S 10 i) (S 11 i) (S 3 0) (sfar (S 12 i) c)
def dinS (S : HS) (on : Int32) : Int32 := sm (fun i => noiseO (S 15 i) (S 14 i - on)) (nN S)
def worthS (S : HS) : Int32 := sm (fun i => S 18 i) (nD S)
def mayS (S : HS) (z v : Int32) : Prop := if z = 3 then isC S v else 0 ≤ z ∧ z < 14 ∧ ¬ (z = 0 ∧ v < S 0 0) ∧ ¬ (z = 10 ∧ nI (nT S) ≤ v) ∧ jk_le.getD z.toNatClampNeg 0 ≤ v ∧ v ≤ jk_mo.getD z.toNatClampNeg 0
