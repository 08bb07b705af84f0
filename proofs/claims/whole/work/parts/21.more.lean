section JL
variable {F : jk_F} {d kc ks pc : Nat} {L : List (Nat × Value)} {st : List Value} {M : jk_M} {Q : Option Value → jk_M → Prop}
theorem j_lcmp {x y : Int64} (hdg : decode F.2.1 pc = .ok (.lcmp, 1)) (kk : J F d kc ks (pc + 1) L (.int (lg_cmp x y) :: st) M Q) : J F d kc ks pc L (.long y :: .long x :: st) M Q := by
  intro ρ D dA A g0 p l e R s m args below meth c X H locs cells slots ls hW hA hc hs hl
  exact W.lcmp X.1 X.2.1 hdg (kk ρ D dA A g0 p l e R s m args below meth c X H locs cells slots ls hW hA hc hs hl)
theorem j_lcmpgt {x y : Int64} {off : Int} {tgt : Nat} (hdg : decode F.2.1 pc = .ok (.lcmp, 1)) (hdg2 : decode F.2.1 (pc + 1) = .ok (.ifCond .gt off, 3)) (ht : ((pc + 1 : Nat) : Int) + off = (tgt : Int)) (kt : y < x → J F d kc ks tgt L st M Q) (kf : ¬ y < x → J F d kc ks (pc + 1 + 3) L st M Q) : J F d kc ks pc L (.long y :: .long x :: st) M Q :=
  j_lcmp hdg (j_if_gt hdg2 ht (fun h => kt ((lg_cmp_gt x y).mp h)) (fun h => kf (fun z => h ((lg_cmp_gt x y).mpr z))))
theorem j_L {L' : List (Nat × Value)} (e : L = L') (kk : J F d kc ks pc L' st M Q) : J F d kc ks pc L st M Q := by
  subst e
  exact kk
end JL
/-! shelves -/
def isS (b : Nat) : Prop := jGC[b]? = some (0, 8) ∧ jGC[b + 1]? = some (2, 160) ∧ jRC b 3 = some (b + 1) ∧ 101 < b
theorem isS.s {s : Nat} (hs : s < 8) : isS (109 + 2 * s) := ⟨sgS hs, sgS1 hs, rfS3 hs, by omega⟩
theorem sgG {b : Nat} (h : isS b) : jGC[b]? = some (0, 8) := h.1
theorem sgG1 {b : Nat} (h : isS b) : jGC[b + 1]? = some (2, 160) := h.2.1
theorem rfG3 {b : Nat} (h : isS b) : jRC b 3 = some (b + 1) := h.2.2.1
theorem nzG {b : Nat} (h : isS b) {k : Nat} : ¬ (b = 101 ∧ k = 2) := fun x => by have := h.2.2.2; omega
/-- a row's size, a thing's number: what a shelf is -/
def shClr (M : jk_M) (b : Nat) : jk_M := jk_wI (jk_wI (jk_wI M b 0 (-1)) b 1 0) b 2 (-1)
def shHas (M : jk_M) (b : Nat) (i : Int32) : Prop := 0 ≤ i ∧ i < M.2.1 b 1 ∧ i < 160
def shRun (M : jk_M) (b : Nat) (i n : Int32) : Prop := 0 ≤ i ∧ 0 ≤ n ∧ ¬ Int32.toInt64 (M.2.1 b 1) < Int32.toInt64 i + Int32.toInt64 n
noncomputable def shRd (M : jk_M) (b : Nat) (i : Int32) : Int64 := @ite _ (shHas M b i) (Classical.propDecidable _) (M.2.2.1 (b + 1) i.toNatClampNeg) 0
noncomputable def shTl (M : jk_M) (b : Nat) (i : Int32) : Int32 := Int64.toInt32 (shRd M b i)
def shCut (s : Int32) (v : Int64) : Int64 := if s = 0 then Int32.toInt64 (Int8.toInt32 (Int32.toInt8 (Int64.toInt32 v))) else if s = 1 then Int32.toInt64 (Int16.toInt32 (Int32.toInt16 (Int64.toInt32 v))) else if s = 2 then Int32.toInt64 (Int64.toInt32 v) else v
theorem shRd_t {M : jk_M} {b : Nat} {i : Int32} (h : shHas M b i) : shRd M b i = M.2.2.1 (b + 1) i.toNatClampNeg := @if_pos _ (Classical.propDecidable _) h _ _ _
theorem shRd_f {M : jk_M} {b : Nat} {i : Int32} (h : ¬ shHas M b i) : shRd M b i = 0 := @if_neg _ (Classical.propDecidable _) h _ _ _
theorem shTl_t {M : jk_M} {b : Nat} {i : Int32} (h : shHas M b i) : shTl M b i = Int64.toInt32 (M.2.2.1 (b + 1) i.toNatClampNeg) := by rw [shTl, shRd_t h]
theorem shTl_f {M : jk_M} {b : Nat} {i : Int32} (h : ¬ shHas M b i) : shTl M b i = 0 := by rw [shTl, shRd_f h]; decide
theorem n160 : nI 160 = (160 : Int32) := by decide
theorem shHas.in {M : jk_M} {b : Nat} {i : Int32} (h : shHas M b i) : vp_in i 160 := vpin 160 (by decide) h.1 h.2.2
/-- a run in a row lies in it -/
theorem shRun.n {M : jk_M} {b : Nat} {i n : Int32} (h : shRun M b i n) (hs : (M.2.1 b 1).toInt ≤ 160) : ¬ i < 0 ∧ ¬ n < 0 ∧ i.toNatClampNeg + n.toNatClampNeg ≤ 160 := by
  obtain ⟨h1, h2, h3⟩ := h
  have a := Int32.le_iff_toInt_le.mp h1
  have b' := Int32.le_iff_toInt_le.mp h2
  have z : (0 : Int32).toInt = 0 := by decide
  rw [z] at a b'
  rw [Int64.lt_iff_toInt_lt, lg_i2l_add, Jvm.Kit.i64_of_i32] at h3
  refine ⟨fun x => ?_, fun x => ?_, ?_⟩
  · have := Int32.lt_iff_toInt_lt.mp x; rw [z] at this; omega
  · have := Int32.lt_iff_toInt_lt.mp x; rw [z] at this; omega
  · have e1 : i.toNatClampNeg = i.toInt.toNat := rfl
    have e2 : n.toNatClampNeg = n.toInt.toNat := rfl
    omega
/-- what stays, in general -/
def Sg (P PL : Nat → Prop) (M M' : jk_M) : Prop := M'.1 = M.1 ∧ (∀ q, ¬ P q → M'.2.1 q = M.2.1 q) ∧ (∀ q, ¬ PL q → M'.2.2.1 q = M.2.2.1 q) ∧ ∀ a k, ¬ (a = 101 ∧ k = 2) → M'.2.2.2 a k = M.2.2.2 a k
theorem Sg.rf {P PL : Nat → Prop} {M : jk_M} : Sg P PL M M := ⟨rfl, fun _ _ => rfl, fun _ _ => rfl, fun _ _ _ => rfl⟩
theorem Sm.g {P PL : Nat → Prop} {M M' : jk_M} (h : Sm P M M') : Sg P PL M M' := ⟨h.1, h.2.2, fun q _ => by rw [h.2.1], fun a k _ => by rw [h.2.1]⟩
theorem Sg.tr {P PL : Nat → Prop} {M M1 M2 : jk_M} (h : Sg P PL M M1) (h2 : Sg P PL M1 M2) : Sg P PL M M2 := ⟨h2.1.trans h.1, fun q hq => (h2.2.1 q hq).trans (h.2.1 q hq), fun q hq => (h2.2.2.1 q hq).trans (h.2.2.1 q hq), fun a k hn => (h2.2.2.2 a k hn).trans (h.2.2.2 a k hn)⟩
theorem Sg.mo {P P2 PL PL2 : Nat → Prop} {M M1 : jk_M} (h : Sg P PL M M1) (hp : ∀ q, P q → P2 q) (hl : ∀ q, PL q → PL2 q) : Sg P2 PL2 M M1 := ⟨h.1, fun q hq => h.2.1 q (fun z => hq (hp q z)), fun q hq => h.2.2.1 q (fun z => hq (hl q z)), h.2.2.2⟩
theorem Sg.w {P PL : Nat → Prop} {M M1 : jk_M} {a k : Nat} {x : Int32} (h : Sg P PL M M1) (ha : P a) : Sg P PL M (jk_wI M1 a k x) := h.tr (Sm.g (Sm.w Sm.rf ha))
theorem Sg.wc {P PL : Nat → Prop} {M M1 : jk_M} {a : Nat} {f : Nat → Int64} (h : Sg P PL M M1) (ha : PL a) : Sg P PL M (jk_wC M1 a f) := h.tr ⟨rfl, fun _ _ => rfl, fun q hq => jk_up_n _ _ _ _ (fun e => hq (by rw [e]; exact ha)), fun _ _ _ => rfl⟩
theorem Sg.wr {P PL : Nat → Prop} {M M1 : jk_M} {x : Option Nat} (h : Sg P PL M M1) : Sg P PL M (jk_wR M1 101 2 x) := h.tr ⟨rfl, fun _ _ => rfl, fun _ _ => rfl, fun a k hn => by
  simp only [jk_wR, va_up]
  by_cases e : a = 101
  · subst e
    have : k ≠ 2 := fun z => hn ⟨rfl, z⟩
    simp [va_up, this]
  · simp [e]⟩
theorem Sg.C {P PL : Nat → Prop} {M M' : jk_M} (h : Sg P PL M M') (hC : WC M) : WC M' := ⟨h.1.trans hC.1, fun a k hn => by rw [h.2.2.2 a k hn]; exact hC.2 a k hn⟩
theorem Sg.hv {P PL : Nat → Prop} {M M' : jk_M} {h : Nat} {S : HS} (x : Sg P PL M M') (hS : hv M.2.1 h = S) (ok : Sok S) (hp : ∀ q, HO h q → ¬ P q) : hv M'.2.1 h = S := hv_same hS ok.cn.1 ok.cn.2.1 ok.cn.2.2 (fun q hq => x.2.1 q (hp q hq))
