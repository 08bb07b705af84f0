/-! plans -/
def PPl (q : Nat) : Prop := HO 55 q ∨ AO 90 q ∨ q = 88 ∨ q = 89
theorem HO55 {q : Nat} (h : HO 55 q) : 55 ≤ q ∧ q ≤ 81 := h
theorem AO90 {q : Nat} (h : AO 90 q) : 90 ≤ q ∧ q ≤ 95 := h
theorem PPlH : ∀ q, HO 1 q → ¬ PPl q := fun q hq e => by
  obtain ⟨h1, h2⟩ := hq
  rcases e with e | e | e | e
  · have := HO55 e; omega
  · have := AO90 e; omega
  all_goals omega
theorem PPl1 : ∀ q, HO 55 q → PPl q := fun _ h => Or.inl h
theorem PPl2 : ∀ q, AO 90 q → PPl q := fun _ h => Or.inr (Or.inl h)
theorem PA90H : ∀ q, HO 55 q → ¬ AO 90 q := fun q h e => by have := HO55 h; have := AO90 e; omega
theorem HO55A : ∀ q, AO 90 q → ¬ HO 55 q := fun q e h => by have := HO55 h; have := AO90 e; omega
theorem H88a : ¬ AO 90 88 := fun e => by have := AO90 e; omega
theorem H88h : ¬ HO 55 88 := fun e => by have := HO55 e; omega
theorem PR90 : ∀ q, PR 90 q → AO 90 q := fun q e => by rcases e with e | e <;> rw [e] <;> exact AO0 (by decide)
theorem PH90 : ∀ q, q = 90 + 4 → AO 90 q := fun q e => by rw [e]; exact AO0 (by decide)
/-- the first greatest of f over those of P -/
noncomputable def fmx (P : Nat → Prop) (f g : Nat → Int32) (b m : Int32) : Nat → Int32 × Int32
  | 0 => (b, m)
  | n + 1 => @ite _ (P n ∧ (fmx P f g b m n).2 < f n) (Classical.propDecidable _) (g n, f n) (fmx P f g b m n)
section FM
variable {P : Nat → Prop} {f g : Nat → Int32} {b m : Int32} {n : Nat}
theorem fmx_t (h : P n) (h2 : (fmx P f g b m n).2 < f n) : fmx P f g b m (n + 1) = (g n, f n) := @if_pos _ (Classical.propDecidable _) ⟨h, h2⟩ _ _ _
theorem fmx_f (h : ¬ P n ∨ ¬ (fmx P f g b m n).2 < f n) : fmx P f g b m (n + 1) = fmx P f g b m n := @if_neg _ (Classical.propDecidable _) (fun z => h.elim (fun w => w z.1) (fun w => w z.2)) _ _ _
theorem fmx_ge : ∀ n, m ≤ (fmx P f g b m n).2
  | 0 => Int32.le_refl _
  | n + 1 => by
    by_cases h : P n ∧ (fmx P f g b m n).2 < f n
    · rw [fmx_t h.1 h.2]
      have := fmx_ge n
      exact Int32.le_of_lt (Int32.lt_of_le_of_lt this h.2)
    · rw [fmx_f (by by_cases a : P n; exact Or.inr (fun b => h ⟨a, b⟩); exact Or.inl a)]
      exact fmx_ge n
theorem fmx_stop {A : Int32} (i : Nat) (hA : A ≤ (fmx P f g b m i).2) : ∀ k, (∀ j, i ≤ j → j < i + k → P j → f j ≤ A) → fmx P f g b m (i + k) = fmx P f g b m i
  | 0, _ => rfl
  | k + 1, hf => by
    have e := fmx_stop i hA k (fun j h1 h2 => hf j h1 (by omega))
    have e2 : fmx P f g b m (i + k + 1) = fmx P f g b m (i + k) := by
      by_cases hp : P (i + k)
      · exact fmx_f (Or.inr (fun z => by
          rw [e] at z
          have := hf (i + k) (by omega) (by omega) hp
          exact absurd z (Int32.not_lt.mpr (Int32.le_trans this hA))))
      · exact fmx_f (Or.inl hp)
    exact e2.trans e
theorem fmx_skip (i : Nat) : ∀ k, (∀ j, i ≤ j → j < i + k → ¬ P j) → fmx P f g b m (i + k) = fmx P f g b m i
  | 0, _ => rfl
  | k + 1, hf => (fmx_f (n := i + k) (Or.inl (hf (i + k) (by omega) (by omega)))).trans (fmx_skip i k (fun j h1 h2 => hf j h1 (by omega)))
end FM
theorem i32_add_small {x y : Int32} (h0 : 0 ≤ x.toInt) (h1 : x.toInt ≤ 1000000) (h2 : 0 ≤ y.toInt) (h3 : y.toInt ≤ 1000000) : (x + y).toInt = x.toInt + y.toInt := Jvm.Kit.i32_add (by omega) (by omega)
theorem sm_le {f g : Nat → Int32} : ∀ n, n ≤ 1000 → (∀ i, i < n → 0 ≤ (f i).toInt ∧ (f i).toInt ≤ (g i).toInt ∧ (g i).toInt ≤ 99) → 0 ≤ (sm f n).toInt ∧ (sm f n).toInt ≤ (sm g n).toInt ∧ (sm g n).toInt ≤ 99 * n
  | 0, _, _ => by
    have z : (sm f 0).toInt = 0 := rfl
    have z2 : (sm g 0).toInt = 0 := rfl
    omega
  | n + 1, hn, h => by
    have e := sm_le n (by omega) (fun i hi => h i (by omega))
    have l := h n (by omega)
    have a1 : (sm f (n + 1)).toInt = (sm f n).toInt + (f n).toInt := i32_add_small (by omega) (by omega) (by omega) (by omega)
    have a2 : (sm g (n + 1)).toInt = (sm g n).toInt + (g n).toInt := i32_add_small (by omega) (by omega) (by omega) (by omega)
    omega
theorem worth_in {S : HS} (ok : Sok S) {i : Nat} (hi : i < nD S) : 0 ≤ (S 18 i).toInt ∧ (S 18 i).toInt ≤ 99 := by
  obtain ⟨n, h1, h2, e⟩ := (ok.de hi).2.2.1
  rw [e, nI_toInt (by omega)]; omega
theorem serv_le {S : HS} (ok : Sok S) (p : Nat → Prop) [DecidablePred p] : 0 ≤ sm (fun i => if p i then S 18 i else 0) (nD S) ∧ sm (fun i => if p i then S 18 i else 0) (nD S) ≤ worthS S := by
  have h6 := (Sok.D ok).2
  have h := sm_le (f := fun i => if p i then S 18 i else 0) (g := fun i => S 18 i) (nD S) (by omega) (fun i hi => by
    have w := worth_in ok hi
    by_cases c : p i
    · simp only [c, if_true]; omega
    · simp only [c, if_false]
      have z : (0 : Int32).toInt = 0 := by decide
      omega)
  have z : (0 : Int32).toInt = 0 := by decide
  exact ⟨Int32.le_iff_toInt_le.mpr (by rw [z]; omega), Int32.le_iff_toInt_le.mpr h.2.1⟩
theorem servBy_le {S : HS} (ok : Sok S) (c e : Int32) : 0 ≤ servBy S c e ∧ servBy S c e ≤ worthS S := serv_le ok (fun i => S 17 i ≤ jmax (rchS S i c) (jmin (rchS S i e / 2) (barsBy (strS S c e))))
theorem servS_le {S : HS} (ok : Sok S) : 0 ≤ servS S ∧ servS S ≤ worthS S := servBy_le ok _ _
noncomputable def placeF (S : HS) (b : Int32) (c : Nat) : Int32 := if b = 0 then servBy S (nI c) (S 6 0) else servBy S (S 5 0) (nI c)
noncomputable def placeS (S : HS) (b : Int32) : Int32 := (fmx (fun c => isC S (nI c)) (placeF S b) nI 0 (-1) 80).1
noncomputable def pairS (S : HS) : Int32 := (fmx (fun k => isC S (nI (k / 80)) ∧ isC S (nI (k % 80))) (fun k => servBy S (nI (k / 80)) (nI (k % 80))) (fun k => nI (100 * (k / 80) + k % 80)) 0 (-1) 6400).1
theorem placeF_le {S : HS} (ok : Sok S) (b : Int32) (c : Nat) : placeF S b c ≤ worthS S := by
  unfold placeF
  split
  · exact (servBy_le ok _ _).2
  · exact (servBy_le ok _ _).2
/-- reach as it stands for all cells of the house -/
def ROA (S : HS) (M : jk_M) : Prop := ∀ c, isC S c → RO 90 S M c
theorem ROA.r {S : HS} {M : jk_M} (h : ROA S M) {c : Int32} (hc : isC S c ∨ ¬ isP c) : RO 90 S M c := hc.elim (fun z => h c z) (fun z => RO_none z)
theorem ROA.sm {S : HS} {M M1 : jk_M} (h : ROA S M) (s : Sm (fun q => q = 90 + 4) M M1) : ROA S M1 := fun c hc => (h c hc).sm s
theorem sec_ok {S : HS} (ok : Sok S) : isC S (S 6 0) ∨ ¬ isP (S 6 0) := by
  rcases ok.2.2.2.2.2.1 with h | h
  · exact Or.inr (fun z => by rw [h] at z; exact absurd z.1 (by decide))
  · exact Or.inl h
theorem fst_ok {S : HS} (ok : Sok S) : isC S (S 5 0) := ok.2.2.2.2.1
def P88 (q : Nat) : Prop := q = 88
theorem P88H : ∀ q, HO 55 q → ¬ P88 q := fun q h e => by have := HO55 h; have e : q = 88 := e; omega
theorem P88A : ∀ q, AO 90 q → ¬ P88 q := fun q h e => by have := AO90 h; have e : q = 88 := e; omega
set_option maxRecDepth 20000 in
set_option maxHeartbeats 4000000 in
theorem T_X3_begin {d : Nat} {M : jk_M} {S : HS} (hC : WC M) (hS : hv M.2.1 1 = S) (ok : Sok S) : J Fr_X3_begin (d + 3) 0 0 0 [(0, .ref 88)] [] M (jk_ex none (fun M1 => Sm PPl M M1 ∧ hv M1.2.1 55 = S ∧ AirOK 90 S M1 ∧ M1.2.1 88 4 = worthS S)) := by
  refine j_post (fun Q hQ => ?_)
  refine j_aload_n 0 dX3_begin_0 rfl ?_
  refine j_getr (q := 55) dX3_begin_1 fX3_23 (shC hC sgC_88) rfl (rfC hC rfC_88_1 (nz (by decide))) ?_
  refine j_aload_n 0 dX3_begin_4 rfl ?_
  refine j_getr (q := 1) dX3_begin_5 fX3_19 (shC hC sgC_88) rfl (rfC hC rfC_88_0 (nz (by decide))) ?_
  refine j_callV (kc := 0) (ks := 0) (a := 0) (b := 0) (d' := (d + 1)) (As := [.ref 1]) dX3_begin_8 kX3_35 rfl (shC hC (sgH (by simp [isH]))) (by omega) rfl rfl rfl (Nat.le_of_ble_eq_true rfl) (Nat.le_of_ble_eq_true rfl) (T_X2_become (h := 55) (h2 := 1) hC (by simp [isH]) (by simp [isH]) (by decide) hS ok) (kk_ev (fun M1 hM2 => ?_))
  obtain ⟨sm3, hv4⟩ := hM2
  replace sm3 := Sm.mo (P2 := PPl) sm3 PPl1
  refine j_aload_n 0 dX3_begin_11 rfl ?_
  refine j_getr (q := 90) dX3_begin_12 fX3_31 (shC (Sm.C sm3 hC) sgC_88) rfl (rfC (Sm.C sm3 hC) rfC_88_2 (nz (by decide))) ?_
  refine j_callV (kc := 0) (ks := 0) (a := 0) (b := 0) (d' := (d + 2)) (As := []) dX3_begin_15 kX3_40 rfl (shC (Sm.C sm3 hC) (sgA isA90)) (by omega) rfl rfl rfl (Nat.le_of_ble_eq_true rfl) (Nat.le_of_ble_eq_true rfl) (T_X0_lay (Sm.C sm3 hC) isA90 hv4 ok) (kk_ev (fun M5 hM6 => ?_))
  obtain ⟨h08, ha9, -⟩ := hM6
  have sm7 := Sm.tr sm3 (Sm.mo (P2 := PPl) h08 PPl2)
  have hv10 := Sm.hv h08 hv4 ok PA90H
  refine j_aload_n 0 dX3_begin_18 rfl ?_
  refine j_aload_n 0 dX3_begin_19 rfl ?_
  refine j_getr (q := 55) dX3_begin_20 fX3_23 (shC (Sm.C sm7 hC) sgC_88) rfl (rfC (Sm.C sm7 hC) rfC_88_1 (nz (by decide))) ?_
  refine j_callV (kc := 0) (ks := 0) (a := 0) (b := 0) (d' := (d + 1)) (As := []) dX3_begin_23 kX3_43 rfl (shC (Sm.C sm7 hC) (sgH (by simp [isH]))) (by omega) rfl rfl rfl (Nat.le_of_ble_eq_true rfl) (Nat.le_of_ble_eq_true rfl) (T_X2_wholeWorth (Sm.C sm7 hC) (by simp [isH]) hv10 ok) (kk_p ?_)
  refine j_put dX3_begin_26 fX3_15 (shC (Sm.C sm7 hC) sgC_88) rfl ?_
  have sm11 : Sm PPl M (jk_wI M5 88 4 (worthS S)) := Sm.w sm7 (Or.inr (Or.inr (Or.inl rfl)))
  refine j_vret dX3_begin_29 rfl ?_
  exact hQ _ _ ⟨rfl, sm11, Sm.hv (P := P88) (Sm.rf.w rfl) hv10 ok P88H, AirOK.sm (P := P88) ha9 (Sm.rf.w rfl) P88A, rd_s⟩
set_option maxRecDepth 20000 in
set_option maxHeartbeats 4000000 in
theorem T_X3_reachFromAll {d : Nat} {M : jk_M} {S : HS} (hC : WC M) (hS : hv M.2.1 55 = S) (ok : Sok S) (ha : AirOK 90 S M) : J Fr_X3_reachFromAll (d + 5) 0 0 0 [(0, .ref 88)] [] M (jk_ex none (fun M1 => Sm (AO 90) M M1 ∧ AirOK 90 S M1 ∧ ROA S M1)) := by
  refine j_post (fun Q hQ => ?_)
  refine j_iconst 0 dX3_reachFromAll_0 ic_0 ?_
  refine j_istore_n (L' := [(1, .int 0), (0, .ref 88)]) dX3_reachFromAll_1 (by decide) rfl ?_
  have lp3 : ∀ (k1 : Nat) (i : Nat) (M1 : jk_M), 80 - i < k1 → (i ≤ 80) → (Sm (AO 90) M M1) → (AirOK 90 S M1) → (∀ c, c < i → isC S (nI c) → RO 90 S M1 (nI c)) → J Fr_X3_reachFromAll (d + 5) 0 0 2 [(0, .ref 88), (1, .int (nI i))] [] M1 Q := by
    intro k1
    induction k1 with
    | zero => intro i M1 hk; exact absurd hk (Nat.not_lt_zero _)
    | succ k1 ih2 =>
      intro i M1 hk1 hi hs1 ha1 hr1
      refine j_iload_n 1 dX3_reachFromAll_2 rfl ?_
      refine j_bipush 80 dX3_reachFromAll_3 bp_80 ?_
      refine j_icmp_geN (tgt := 33) i 80 dX3_reachFromAll_5 rfl (by omega) (by omega) (fun c4 => ?_) (fun c4 => ?_)
      · refine j_vret dX3_reachFromAll_33 rfl ?_
        exact hQ _ _ ⟨rfl, hs1, ha1, fun c hc => by obtain ⟨e1, -, -, e4⟩ := isC_nat ok hc; rw [e1] at hc ⊢; exact hr1 _ (by omega) hc⟩
      · refine j_aload_n 0 dX3_reachFromAll_8 rfl ?_
        refine j_getr (q := 55) dX3_reachFromAll_9 fX3_23 (shC (Sm.C hs1 hC) sgC_88) rfl (rfC (Sm.C hs1 hC) rfC_88_1 (nz (by decide))) ?_
        refine j_iload_n 1 dX3_reachFromAll_12 rfl ?_
        refine j_callV (kc := 0) (ks := 0) (a := 0) (b := 0) (d' := d) (As := [.int (nI i)]) dX3_reachFromAll_13 kX3_47 rfl (shC (Sm.C hs1 hC) (sgH (by simp [isH]))) (by omega) rfl rfl rfl (Nat.le_of_ble_eq_true rfl) (Nat.le_of_ble_eq_true rfl) (T_X2_isCell (Sm.C hs1 hC) (by simp [isH]) (Sm.hv hs1 hS ok PA90H) ok (nI i)) (kk_p ?_)
        refine j_if_eqB (p := (isC S (nI i))) (tgt := 27) dX3_reachFromAll_16 rfl (fun c5 => ?_) (fun c5 => ?_)
        · refine j_iinc 1 (nI (i + 1)) (L' := [(1, .int (nI (i + 1))), (0, .ref 88)]) dX3_reachFromAll_27 rfl (inc1 i) (by decide) rfl ?_
          refine j_goto (tgt := 2) dX3_reachFromAll_30 rfl ?_
          exact j_sub (jk_pick [1, 0] rfl) (ih2 (i + 1) M1 (by omega) (by omega) hs1 ha1 (fun c hc z => (Nat.lt_succ_iff_lt_or_eq.mp hc).elim (fun y => hr1 c y z) (fun e => absurd (by rw [← e]; exact z) c5)))
        · refine j_aload_n 0 dX3_reachFromAll_19 rfl ?_
          refine j_getr (q := 90) dX3_reachFromAll_20 fX3_31 (shC (Sm.C hs1 hC) sgC_88) rfl (rfC (Sm.C hs1 hC) rfC_88_2 (nz (by decide))) ?_
          refine j_iload_n 1 dX3_reachFromAll_23 rfl ?_
          refine j_callV (kc := 0) (ks := 0) (a := 0) (b := 0) (d' := (d + 4)) (As := [.int (nI i)]) dX3_reachFromAll_24 kX3_51 rfl (shC (Sm.C hs1 hC) (sgA isA90)) (by omega) rfl rfl rfl (Nat.le_of_ble_eq_true rfl) (Nat.le_of_ble_eq_true rfl) (T_X0_reachFrom (Sm.C hs1 hC) isA90 (Sm.hv hs1 hS ok PA90H) ok ha1 (nI i)) (kk_ev (fun M6 hM7 => ?_))
          obtain ⟨h09, ha10, hr11, hk12⟩ := hM7
          have sm8 := Sm.tr hs1 (Sm.mo (P2 := AO 90) h09 PR90)
          refine j_iinc 1 (nI (i + 1)) (L' := [(1, .int (nI (i + 1))), (0, .ref 88)]) dX3_reachFromAll_27 rfl (inc1 i) (by decide) rfl ?_
          refine j_goto (tgt := 2) dX3_reachFromAll_30 rfl ?_
          exact j_sub (jk_pick [1, 0] rfl) (ih2 (i + 1) M6 (by omega) (by omega) sm8 ha10 (fun c hc z => (Nat.lt_succ_iff_lt_or_eq.mp hc).elim (fun y => hk12 _ (hr1 c y z)) (fun e => by rw [e]; exact hr11)))
  exact j_sub (jk_pick [1, 0] rfl) (lp3 _ 0 M (Nat.lt_succ_self _) (by omega) Sm.rf ha (fun c hc => absurd hc (Nat.not_lt_zero c)))
set_option maxRecDepth 20000 in
set_option maxHeartbeats 4000000 in
theorem T_X3_bestPlace {d : Nat} {M : jk_M} {S : HS} (hC : WC M) (hS : hv M.2.1 55 = S) (ok : Sok S) (ha : AirOK 90 S M) (hw : M.2.1 88 4 = worthS S) (b : Int32) : J Fr_X3_bestPlace (d + 6) 0 0 0 [(0, .ref 88), (1, .int b)] [] M (jk_ex (some (.int (placeS S b))) (fun M1 => Sm PPl M M1)) := by
  refine j_post (fun Q hQ => ?_)
  refine j_aload_n 0 dX3_bestPlace_0 rfl ?_
  refine j_callV (kc := 0) (ks := 0) (a := 0) (b := 0) (d' := (d + 5)) (As := []) dX3_bestPlace_1 kX3_55 rfl (shC hC sgC_88) (by omega) rfl rfl rfl (Nat.le_of_ble_eq_true rfl) (Nat.le_of_ble_eq_true rfl) (T_X3_reachFromAll hC hS ok ha) (kk_ev (fun M1 hM2 => ?_))
  obtain ⟨sm3, ha4, hr5⟩ := hM2
  refine j_iconst 0 dX3_bestPlace_4 ic_0 ?_
  refine j_istore_n (L' := [(2, .int 0), (0, .ref 88), (1, .int b)]) dX3_bestPlace_5 (by decide) rfl ?_
  refine j_iconst (-1) dX3_bestPlace_6 ic_n1 ?_
  refine j_istore_n (L' := [(3, .int (-1)), (2, .int 0), (0, .ref 88), (1, .int b)]) dX3_bestPlace_7 (by decide) rfl ?_
  refine j_iconst 0 dX3_bestPlace_8 ic_0 ?_
  refine j_istore (L' := [(4, .int 0), (3, .int (-1)), (2, .int 0), (0, .ref 88), (1, .int b)]) dX3_bestPlace_9 (by decide) rfl ?_
  have lp8 : ∀ (k6 : Nat) (i : Nat) (M1 : jk_M), 80 - i < k6 → (i ≤ 80) → (Sm (AO 90) M M1) → (AirOK 90 S M1) → (ROA S M1) → J Fr_X3_bestPlace (d + 6) 0 0 11 [(0, .ref 88), (1, .int b), (2, .int (fmx (fun c => isC S (nI c)) (placeF S b) nI 0 (-1) i).1), (3, .int (fmx (fun c => isC S (nI c)) (placeF S b) nI 0 (-1) i).2), (4, .int (nI i))] [] M1 Q := by
    intro k6
    induction k6 with
    | zero => intro i M1 hk; exact absurd hk (Nat.not_lt_zero _)
    | succ k6 ih7 =>
      intro i M1 hk6 hi hs1 ha1 hr1
      refine j_iload 4 dX3_bestPlace_11 rfl ?_
      refine j_bipush 80 dX3_bestPlace_13 bp_80 ?_
      refine j_icmp_geN (tgt := 97) i 80 dX3_bestPlace_15 rfl (by omega) (by omega) (fun c9 => ?_) (fun c9 => ?_)
      · refine j_iload_n 2 dX3_bestPlace_97 rfl ?_
        refine j_iret dX3_bestPlace_98 rfl ?_
        
        have e : i = 80 := by omega
        subst e
        exact hQ _ _ ⟨rfl, Sm.mo hs1 PPl2⟩
      · refine j_iload_n 3 dX3_bestPlace_18 rfl ?_
        refine j_aload_n 0 dX3_bestPlace_19 rfl ?_
        refine j_getv (worthS S) dX3_bestPlace_20 fX3_15 (shC (Sm.C hs1 hC) sgC_88) rfl ((Sm.rd hs1 H88a).trans hw) ?_
        refine j_icmp_ge (tgt := 97) dX3_bestPlace_23 rfl (fun c10 => ?_) (fun c10 => ?_)
        · refine j_iload_n 2 dX3_bestPlace_97 rfl ?_
          refine j_iret dX3_bestPlace_98 rfl ?_
          
          have e := fmx_stop (P := fun c => isC S (nI c)) (f := placeF S b) (g := nI) (b := 0) (m := -1) (A := worthS S) i c10 (80 - i) (fun j _ _ _ => placeF_le ok b j)
          rw [show i + (80 - i) = 80 by omega] at e
          exact hQ _ _ ⟨by rw [placeS, e], Sm.mo hs1 PPl2⟩
        · refine j_aload_n 0 dX3_bestPlace_26 rfl ?_
          refine j_getr (q := 55) dX3_bestPlace_27 fX3_23 (shC (Sm.C hs1 hC) sgC_88) rfl (rfC (Sm.C hs1 hC) rfC_88_1 (nz (by decide))) ?_
          refine j_iload 4 dX3_bestPlace_30 rfl ?_
          refine j_callV (kc := 0) (ks := 0) (a := 0) (b := 0) (d' := d) (As := [.int (nI i)]) dX3_bestPlace_32 kX3_47 rfl (shC (Sm.C hs1 hC) (sgH (by simp [isH]))) (by omega) rfl rfl rfl (Nat.le_of_ble_eq_true rfl) (Nat.le_of_ble_eq_true rfl) (T_X2_isCell (Sm.C hs1 hC) (by simp [isH]) (Sm.hv hs1 hS ok PA90H) ok (nI i)) (kk_p ?_)
          refine j_if_eqB (p := (isC S (nI i))) (tgt := 91) dX3_bestPlace_35 rfl (fun c11 => ?_) (fun c11 => ?_)
          · refine j_iinc 4 (nI (i + 1)) (L' := [(4, .int (nI (i + 1))), (0, .ref 88), (1, .int b), (2, .int (fmx (fun c => isC S (nI c)) (placeF S b) nI 0 (-1) i).1), (3, .int (fmx (fun c => isC S (nI c)) (placeF S b) nI 0 (-1) i).2)]) dX3_bestPlace_91 rfl (inc1 i) (by decide) rfl ?_
            refine j_goto (tgt := 11) dX3_bestPlace_94 rfl ?_
            have hb0 : (fmx (fun c => isC S (nI c)) (placeF S b) nI 0 (-1) (i + 1)) = ((fmx (fun c => isC S (nI c)) (placeF S b) nI 0 (-1) i).1, (fmx (fun c => isC S (nI c)) (placeF S b) nI 0 (-1) i).2) := fmx_f (Or.inl c11)
            have h1 : (fmx (fun c => isC S (nI c)) (placeF S b) nI 0 (-1) i).1 = (fmx (fun c => isC S (nI c)) (placeF S b) nI 0 (-1) (i + 1)).1 := by rw [hb0]
            refine j_L (congrArg (fun z : Int32 => ([(4, .int (nI (i + 1))), (0, .ref 88), (1, .int b), (2, .int z), (3, .int (fmx (fun c => isC S (nI c)) (placeF S b) nI 0 (-1) i).2)] : List (Nat × Value))) h1) ?_
            have h2 : (fmx (fun c => isC S (nI c)) (placeF S b) nI 0 (-1) i).2 = (fmx (fun c => isC S (nI c)) (placeF S b) nI 0 (-1) (i + 1)).2 := by rw [hb0]
            refine j_L (congrArg (fun z : Int32 => ([(4, .int (nI (i + 1))), (0, .ref 88), (1, .int b), (2, .int (fmx (fun c => isC S (nI c)) (placeF S b) nI 0 (-1) (i + 1)).1), (3, .int z)] : List (Nat × Value))) h2) ?_
            exact j_sub (jk_pick [1, 2, 3, 4, 0] rfl) (ih7 (i + 1) M1 (by omega) (by omega) hs1 ha1 hr1)
          · refine j_iload_n 1 dX3_bestPlace_38 rfl ?_
            refine j_if_ne (tgt := 61) dX3_bestPlace_39 rfl (fun c12 => ?_) (fun c12 => ?_)
            · refine j_aload_n 0 dX3_bestPlace_61 rfl ?_
              refine j_getr (q := 90) dX3_bestPlace_62 fX3_31 (shC (Sm.C hs1 hC) sgC_88) rfl (rfC (Sm.C hs1 hC) rfC_88_2 (nz (by decide))) ?_
              refine j_aload_n 0 dX3_bestPlace_65 rfl ?_
              refine j_getr (q := 55) dX3_bestPlace_66 fX3_23 (shC (Sm.C hs1 hC) sgC_88) rfl (rfC (Sm.C hs1 hC) rfC_88_1 (nz (by decide))) ?_
              refine j_getv (S 5 0) dX3_bestPlace_69 fX3_65 (shC (Sm.C hs1 hC) (sgH (by simp [isH]))) rfl (hvs (Sm.hv hs1 hS ok PA90H) (by decide)) ?_
              refine j_iload 4 dX3_bestPlace_72 rfl ?_
              refine j_callV (kc := 0) (ks := 0) (a := 0) (b := 0) (d' := (d + 4)) (As := [.int (S 5 0), .int (nI i)]) dX3_bestPlace_74 kX3_61 rfl (shC (Sm.C hs1 hC) (sgA isA90)) (by omega) rfl rfl rfl (Nat.le_of_ble_eq_true rfl) (Nat.le_of_ble_eq_true rfl) (T_X0_servedBy (Sm.C hs1 hC) isA90 (Sm.hv hs1 hS ok PA90H) ok ha1 (S 5 0) (nI i) (ROA.r hr1 (Or.inl (fst_ok ok))) (ROA.r hr1 (Or.inl c11))) (kk_e (fun M13 hM14 => ?_))
              obtain ⟨h016, ha17⟩ := hM14
              have sm15 := Sm.tr hs1 (Sm.mo (P2 := AO 90) h016 PH90)
              have hr18 := ROA.sm hr1 h016
              refine j_istore (L' := [(5, .int (servBy S (S 5 0) (nI i))), (0, .ref 88), (1, .int b), (2, .int (fmx (fun c => isC S (nI c)) (placeF S b) nI 0 (-1) i).1), (3, .int (fmx (fun c => isC S (nI c)) (placeF S b) nI 0 (-1) i).2), (4, .int (nI i))]) dX3_bestPlace_77 (by decide) rfl ?_
              refine j_iload 0 dX3_bestPlace_79 rfl ?_
              refine j_iload_n 4 dX3_bestPlace_81 rfl ?_
              refine j_icmp_le (tgt := 91) dX3_bestPlace_82 rfl (fun c19 => ?_) (fun c19 => ?_)
              · refine j_iinc 5 (nI (i + 1)) (L' := [(4, .int (nI (i + 1))), (5, .int (servBy S (S 5 0) (nI i))), (0, .ref 88), (1, .int b), (2, .int (fmx (fun c => isC S (nI c)) (placeF S b) nI 0 (-1) i).1), (3, .int (fmx (fun c => isC S (nI c)) (placeF S b) nI 0 (-1) i).2)]) dX3_bestPlace_91 rfl (inc1 i) (by decide) rfl ?_
                refine j_goto (tgt := 11) dX3_bestPlace_94 rfl ?_
                have hb0 : (fmx (fun c => isC S (nI c)) (placeF S b) nI 0 (-1) (i + 1)) = ((fmx (fun c => isC S (nI c)) (placeF S b) nI 0 (-1) i).1, (fmx (fun c => isC S (nI c)) (placeF S b) nI 0 (-1) i).2) := fmx_f (Or.inr (by rw [(show placeF S b i = _ from (if_neg c12))]; exact Int32.not_lt.mpr c19))
                have h1 : (fmx (fun c => isC S (nI c)) (placeF S b) nI 0 (-1) i).1 = (fmx (fun c => isC S (nI c)) (placeF S b) nI 0 (-1) (i + 1)).1 := by rw [hb0]
                refine j_L (congrArg (fun z : Int32 => ([(4, .int (nI (i + 1))), (5, .int (servBy S (S 5 0) (nI i))), (0, .ref 88), (1, .int b), (2, .int z), (3, .int (fmx (fun c => isC S (nI c)) (placeF S b) nI 0 (-1) i).2)] : List (Nat × Value))) h1) ?_
                have h2 : (fmx (fun c => isC S (nI c)) (placeF S b) nI 0 (-1) i).2 = (fmx (fun c => isC S (nI c)) (placeF S b) nI 0 (-1) (i + 1)).2 := by rw [hb0]
                refine j_L (congrArg (fun z : Int32 => ([(4, .int (nI (i + 1))), (5, .int (servBy S (S 5 0) (nI i))), (0, .ref 88), (1, .int b), (2, .int (fmx (fun c => isC S (nI c)) (placeF S b) nI 0 (-1) (i + 1)).1), (3, .int z)] : List (Nat × Value))) h2) ?_
                exact j_sub (jk_pick [2, 3, 4, 5, 0] rfl) (ih7 (i + 1) M13 (by omega) (by omega) sm15 ha17 hr18)
              · refine j_iload 0 dX3_bestPlace_85 rfl ?_
                refine j_istore_n (L' := [(3, .int (servBy S (S 5 0) (nI i))), (5, .int (servBy S (S 5 0) (nI i))), (0, .ref 88), (1, .int b), (2, .int (fmx (fun c => isC S (nI c)) (placeF S b) nI 0 (-1) i).1), (4, .int (nI i))]) dX3_bestPlace_87 (by decide) rfl ?_
                refine j_iload 5 dX3_bestPlace_88 rfl ?_
                refine j_istore_n (L' := [(2, .int (nI i)), (3, .int (servBy S (S 5 0) (nI i))), (5, .int (servBy S (S 5 0) (nI i))), (0, .ref 88), (1, .int b), (4, .int (nI i))]) dX3_bestPlace_90 (by decide) rfl ?_
                refine j_iinc 5 (nI (i + 1)) (L' := [(4, .int (nI (i + 1))), (2, .int (nI i)), (3, .int (servBy S (S 5 0) (nI i))), (5, .int (servBy S (S 5 0) (nI i))), (0, .ref 88), (1, .int b)]) dX3_bestPlace_91 rfl (inc1 i) (by decide) rfl ?_
                refine j_goto (tgt := 11) dX3_bestPlace_94 rfl ?_
                have hb0 : (fmx (fun c => isC S (nI c)) (placeF S b) nI 0 (-1) (i + 1)) = ((nI i), (servBy S (S 5 0) (nI i))) := (fmx_t c11 (by rw [(show placeF S b i = _ from (if_neg c12))]; exact Int32.not_le.mp c19)).trans (by rw [(show placeF S b i = _ from (if_neg c12))])
                have h1 : (nI i) = (fmx (fun c => isC S (nI c)) (placeF S b) nI 0 (-1) (i + 1)).1 := by rw [hb0]
                refine j_L (congrArg (fun z : Int32 => ([(4, .int (nI (i + 1))), (2, .int z), (3, .int (servBy S (S 5 0) (nI i))), (5, .int (servBy S (S 5 0) (nI i))), (0, .ref 88), (1, .int b)] : List (Nat × Value))) h1) ?_
                have h2 : (servBy S (S 5 0) (nI i)) = (fmx (fun c => isC S (nI c)) (placeF S b) nI 0 (-1) (i + 1)).2 := by rw [hb0]
                refine j_L (congrArg (fun z : Int32 => ([(4, .int (nI (i + 1))), (2, .int (fmx (fun c => isC S (nI c)) (placeF S b) nI 0 (-1) (i + 1)).1), (3, .int z), (5, .int (servBy S (S 5 0) (nI i))), (0, .ref 88), (1, .int b)] : List (Nat × Value))) h2) ?_
                exact j_sub (jk_pick [4, 5, 1, 2, 0] rfl) (ih7 (i + 1) M13 (by omega) (by omega) sm15 ha17 hr18)
            · refine j_aload_n 0 dX3_bestPlace_42 rfl ?_
              refine j_getr (q := 90) dX3_bestPlace_43 fX3_31 (shC (Sm.C hs1 hC) sgC_88) rfl (rfC (Sm.C hs1 hC) rfC_88_2 (nz (by decide))) ?_
              refine j_iload 4 dX3_bestPlace_46 rfl ?_
              refine j_aload_n 0 dX3_bestPlace_48 rfl ?_
              refine j_getr (q := 55) dX3_bestPlace_49 fX3_23 (shC (Sm.C hs1 hC) sgC_88) rfl (rfC (Sm.C hs1 hC) rfC_88_1 (nz (by decide))) ?_
              refine j_getv (S 6 0) dX3_bestPlace_52 fX3_58 (shC (Sm.C hs1 hC) (sgH (by simp [isH]))) rfl (hvs (Sm.hv hs1 hS ok PA90H) (by decide)) ?_
              refine j_callV (kc := 0) (ks := 0) (a := 0) (b := 0) (d' := (d + 4)) (As := [.int (nI i), .int (S 6 0)]) dX3_bestPlace_55 kX3_61 rfl (shC (Sm.C hs1 hC) (sgA isA90)) (by omega) rfl rfl rfl (Nat.le_of_ble_eq_true rfl) (Nat.le_of_ble_eq_true rfl) (T_X0_servedBy (Sm.C hs1 hC) isA90 (Sm.hv hs1 hS ok PA90H) ok ha1 (nI i) (S 6 0) (ROA.r hr1 (Or.inl c11)) (ROA.r hr1 (sec_ok ok))) (kk_e (fun M20 hM21 => ?_))
              obtain ⟨h023, ha24⟩ := hM21
              have sm22 := Sm.tr hs1 (Sm.mo (P2 := AO 90) h023 PH90)
              have hr25 := ROA.sm hr1 h023
              refine j_goto (tgt := 77) dX3_bestPlace_58 rfl ?_
              refine j_istore (L' := [(5, .int (servBy S (nI i) (S 6 0))), (0, .ref 88), (1, .int b), (2, .int (fmx (fun c => isC S (nI c)) (placeF S b) nI 0 (-1) i).1), (3, .int (fmx (fun c => isC S (nI c)) (placeF S b) nI 0 (-1) i).2), (4, .int (nI i))]) dX3_bestPlace_77 (by decide) rfl ?_
              refine j_iload 0 dX3_bestPlace_79 rfl ?_
              refine j_iload_n 4 dX3_bestPlace_81 rfl ?_
              refine j_icmp_le (tgt := 91) dX3_bestPlace_82 rfl (fun c26 => ?_) (fun c26 => ?_)
              · refine j_iinc 5 (nI (i + 1)) (L' := [(4, .int (nI (i + 1))), (5, .int (servBy S (nI i) (S 6 0))), (0, .ref 88), (1, .int b), (2, .int (fmx (fun c => isC S (nI c)) (placeF S b) nI 0 (-1) i).1), (3, .int (fmx (fun c => isC S (nI c)) (placeF S b) nI 0 (-1) i).2)]) dX3_bestPlace_91 rfl (inc1 i) (by decide) rfl ?_
                refine j_goto (tgt := 11) dX3_bestPlace_94 rfl ?_
                have hb0 : (fmx (fun c => isC S (nI c)) (placeF S b) nI 0 (-1) (i + 1)) = ((fmx (fun c => isC S (nI c)) (placeF S b) nI 0 (-1) i).1, (fmx (fun c => isC S (nI c)) (placeF S b) nI 0 (-1) i).2) := fmx_f (Or.inr (by rw [(show placeF S b i = _ from (if_pos c12))]; exact Int32.not_lt.mpr c26))
                have h1 : (fmx (fun c => isC S (nI c)) (placeF S b) nI 0 (-1) i).1 = (fmx (fun c => isC S (nI c)) (placeF S b) nI 0 (-1) (i + 1)).1 := by rw [hb0]
                refine j_L (congrArg (fun z : Int32 => ([(4, .int (nI (i + 1))), (5, .int (servBy S (nI i) (S 6 0))), (0, .ref 88), (1, .int b), (2, .int z), (3, .int (fmx (fun c => isC S (nI c)) (placeF S b) nI 0 (-1) i).2)] : List (Nat × Value))) h1) ?_
                have h2 : (fmx (fun c => isC S (nI c)) (placeF S b) nI 0 (-1) i).2 = (fmx (fun c => isC S (nI c)) (placeF S b) nI 0 (-1) (i + 1)).2 := by rw [hb0]
                refine j_L (congrArg (fun z : Int32 => ([(4, .int (nI (i + 1))), (5, .int (servBy S (nI i) (S 6 0))), (0, .ref 88), (1, .int b), (2, .int (fmx (fun c => isC S (nI c)) (placeF S b) nI 0 (-1) (i + 1)).1), (3, .int z)] : List (Nat × Value))) h2) ?_
                exact j_sub (jk_pick [2, 3, 4, 5, 0] rfl) (ih7 (i + 1) M20 (by omega) (by omega) sm22 ha24 hr25)
              · refine j_iload 0 dX3_bestPlace_85 rfl ?_
                refine j_istore_n (L' := [(3, .int (servBy S (nI i) (S 6 0))), (5, .int (servBy S (nI i) (S 6 0))), (0, .ref 88), (1, .int b), (2, .int (fmx (fun c => isC S (nI c)) (placeF S b) nI 0 (-1) i).1), (4, .int (nI i))]) dX3_bestPlace_87 (by decide) rfl ?_
                refine j_iload 5 dX3_bestPlace_88 rfl ?_
                refine j_istore_n (L' := [(2, .int (nI i)), (3, .int (servBy S (nI i) (S 6 0))), (5, .int (servBy S (nI i) (S 6 0))), (0, .ref 88), (1, .int b), (4, .int (nI i))]) dX3_bestPlace_90 (by decide) rfl ?_
                refine j_iinc 5 (nI (i + 1)) (L' := [(4, .int (nI (i + 1))), (2, .int (nI i)), (3, .int (servBy S (nI i) (S 6 0))), (5, .int (servBy S (nI i) (S 6 0))), (0, .ref 88), (1, .int b)]) dX3_bestPlace_91 rfl (inc1 i) (by decide) rfl ?_
                refine j_goto (tgt := 11) dX3_bestPlace_94 rfl ?_
                have hb0 : (fmx (fun c => isC S (nI c)) (placeF S b) nI 0 (-1) (i + 1)) = ((nI i), (servBy S (nI i) (S 6 0))) := (fmx_t c11 (by rw [(show placeF S b i = _ from (if_pos c12))]; exact Int32.not_le.mp c26)).trans (by rw [(show placeF S b i = _ from (if_pos c12))])
                have h1 : (nI i) = (fmx (fun c => isC S (nI c)) (placeF S b) nI 0 (-1) (i + 1)).1 := by rw [hb0]
                refine j_L (congrArg (fun z : Int32 => ([(4, .int (nI (i + 1))), (2, .int z), (3, .int (servBy S (nI i) (S 6 0))), (5, .int (servBy S (nI i) (S 6 0))), (0, .ref 88), (1, .int b)] : List (Nat × Value))) h1) ?_
                have h2 : (servBy S (nI i) (S 6 0)) = (fmx (fun c => isC S (nI c)) (placeF S b) nI 0 (-1) (i + 1)).2 := by rw [hb0]
                refine j_L (congrArg (fun z : Int32 => ([(4, .int (nI (i + 1))), (2, .int (fmx (fun c => isC S (nI c)) (placeF S b) nI 0 (-1) (i + 1)).1), (3, .int z), (5, .int (servBy S (nI i) (S 6 0))), (0, .ref 88), (1, .int b)] : List (Nat × Value))) h2) ?_
                exact j_sub (jk_pick [4, 5, 1, 2, 0] rfl) (ih7 (i + 1) M20 (by omega) (by omega) sm22 ha24 hr25)
  exact j_sub (jk_pick [3, 4, 2, 1, 0] rfl) (lp8 _ 0 M1 (Nat.lt_succ_self _) (by omega) sm3 ha4 hr5)
set_option maxRecDepth 20000 in
set_option maxHeartbeats 4000000 in
theorem T_X3_bestPair {d : Nat} {M : jk_M} {S : HS} (hC : WC M) (hS : hv M.2.1 55 = S) (ok : Sok S) (ha : AirOK 90 S M) (hw : M.2.1 88 4 = worthS S) : J Fr_X3_bestPair (d + 6) 0 0 0 [(0, .ref 88)] [] M (jk_ex (some (.int (pairS S))) (fun M1 => Sm PPl M M1)) := by
  refine j_post (fun Q hQ => ?_)
  refine j_aload_n 0 dX3_bestPair_0 rfl ?_
  refine j_callV (kc := 0) (ks := 0) (a := 0) (b := 0) (d' := (d + 5)) (As := []) dX3_bestPair_1 kX3_55 rfl (shC hC sgC_88) (by omega) rfl rfl rfl (Nat.le_of_ble_eq_true rfl) (Nat.le_of_ble_eq_true rfl) (T_X3_reachFromAll hC hS ok ha) (kk_ev (fun M1 hM2 => ?_))
  obtain ⟨sm3, ha4, hr5⟩ := hM2
  refine j_iconst 0 dX3_bestPair_4 ic_0 ?_
  refine j_istore_n (L' := [(1, .int 0), (0, .ref 88)]) dX3_bestPair_5 (by decide) rfl ?_
  refine j_iconst (-1) dX3_bestPair_6 ic_n1 ?_
  refine j_istore_n (L' := [(2, .int (-1)), (1, .int 0), (0, .ref 88)]) dX3_bestPair_7 (by decide) rfl ?_
  refine j_iconst 0 dX3_bestPair_8 ic_0 ?_
  refine j_istore_n (L' := [(3, .int 0), (2, .int (-1)), (1, .int 0), (0, .ref 88)]) dX3_bestPair_9 (by decide) rfl ?_
  have lp8 : ∀ (k6 : Nat) (i : Nat) (M1 : jk_M), 80 - i < k6 → (i ≤ 80) → (Sm (AO 90) M M1) → (AirOK 90 S M1) → (ROA S M1) → J Fr_X3_bestPair (d + 6) 0 0 10 [(0, .ref 88), (1, .int (fmx (fun k => isC S (nI (k / 80)) ∧ isC S (nI (k % 80))) (fun k => servBy S (nI (k / 80)) (nI (k % 80))) (fun k => nI (100 * (k / 80) + k % 80)) 0 (-1) (80 * i)).1), (2, .int (fmx (fun k => isC S (nI (k / 80)) ∧ isC S (nI (k % 80))) (fun k => servBy S (nI (k / 80)) (nI (k % 80))) (fun k => nI (100 * (k / 80) + k % 80)) 0 (-1) (80 * i)).2), (3, .int (nI i))] [] M1 Q := by
    intro k6
    induction k6 with
    | zero => intro i M1 hk; exact absurd hk (Nat.not_lt_zero _)
    | succ k6 ih7 =>
      intro i M1 hk6 hi hs1 ha1 hr1
      refine j_iload_n 3 dX3_bestPair_10 rfl ?_
      refine j_bipush 80 dX3_bestPair_11 bp_80 ?_
      refine j_icmp_geN (tgt := 102) i 80 dX3_bestPair_13 rfl (by omega) (by omega) (fun c9 => ?_) (fun c9 => ?_)
      · refine j_iload_n 1 dX3_bestPair_102 rfl ?_
        refine j_iret dX3_bestPair_103 rfl ?_
        have e : i = 80 := by omega
        subst e
        exact hQ _ _ ⟨rfl, Sm.mo hs1 PPl2⟩
      · refine j_iconst 0 dX3_bestPair_16 ic_0 ?_
        refine j_istore (L' := [(4, .int 0), (0, .ref 88), (1, .int (fmx (fun k => isC S (nI (k / 80)) ∧ isC S (nI (k % 80))) (fun k => servBy S (nI (k / 80)) (nI (k % 80))) (fun k => nI (100 * (k / 80) + k % 80)) 0 (-1) (80 * i)).1), (2, .int (fmx (fun k => isC S (nI (k / 80)) ∧ isC S (nI (k % 80))) (fun k => servBy S (nI (k / 80)) (nI (k % 80))) (fun k => nI (100 * (k / 80) + k % 80)) 0 (-1) (80 * i)).2), (3, .int (nI i))]) dX3_bestPair_17 (by decide) rfl ?_
        have lp12 : ∀ (k10 : Nat) (j : Nat) (M2 : jk_M), 80 - j < k10 → (j ≤ 80) → (Sm (AO 90) M M2) → (AirOK 90 S M2) → (ROA S M2) → J Fr_X3_bestPair (d + 6) 0 0 19 [(0, .ref 88), (1, .int (fmx (fun k => isC S (nI (k / 80)) ∧ isC S (nI (k % 80))) (fun k => servBy S (nI (k / 80)) (nI (k % 80))) (fun k => nI (100 * (k / 80) + k % 80)) 0 (-1) (80 * i + j)).1), (2, .int (fmx (fun k => isC S (nI (k / 80)) ∧ isC S (nI (k % 80))) (fun k => servBy S (nI (k / 80)) (nI (k % 80))) (fun k => nI (100 * (k / 80) + k % 80)) 0 (-1) (80 * i + j)).2), (3, .int (nI i)), (4, .int (nI j))] [] M2 Q := by
          intro k10
          induction k10 with
          | zero => intro j M2 hk; exact absurd hk (Nat.not_lt_zero _)
          | succ k10 ih11 =>
            intro j M2 hk10 hj hs2 ha2 hr2
            refine j_iload 4 dX3_bestPair_19 rfl ?_
            refine j_bipush 80 dX3_bestPair_21 bp_80 ?_
            refine j_icmp_geN (tgt := 96) j 80 dX3_bestPair_23 rfl (by omega) (by omega) (fun c13 => ?_) (fun c13 => ?_)
            · refine j_iinc 3 (nI (i + 1)) (L' := [(3, .int (nI (i + 1))), (0, .ref 88), (1, .int (fmx (fun k => isC S (nI (k / 80)) ∧ isC S (nI (k % 80))) (fun k => servBy S (nI (k / 80)) (nI (k % 80))) (fun k => nI (100 * (k / 80) + k % 80)) 0 (-1) (80 * i + j)).1), (2, .int (fmx (fun k => isC S (nI (k / 80)) ∧ isC S (nI (k % 80))) (fun k => servBy S (nI (k / 80)) (nI (k % 80))) (fun k => nI (100 * (k / 80) + k % 80)) 0 (-1) (80 * i + j)).2), (4, .int (nI j))]) dX3_bestPair_96 rfl (inc1 i) (by decide) rfl ?_
              refine j_goto (tgt := 10) dX3_bestPair_99 rfl ?_
              have hb0 : (fmx (fun k => isC S (nI (k / 80)) ∧ isC S (nI (k % 80))) (fun k => servBy S (nI (k / 80)) (nI (k % 80))) (fun k => nI (100 * (k / 80) + k % 80)) 0 (-1) (80 * (i + 1))) = (fmx (fun k => isC S (nI (k / 80)) ∧ isC S (nI (k % 80))) (fun k => servBy S (nI (k / 80)) (nI (k % 80))) (fun k => nI (100 * (k / 80) + k % 80)) 0 (-1) (80 * i + j)) := by rw [show 80 * (i + 1) = 80 * i + j by omega]
              have h1 : (fmx (fun k => isC S (nI (k / 80)) ∧ isC S (nI (k % 80))) (fun k => servBy S (nI (k / 80)) (nI (k % 80))) (fun k => nI (100 * (k / 80) + k % 80)) 0 (-1) (80 * i + j)).1 = (fmx (fun k => isC S (nI (k / 80)) ∧ isC S (nI (k % 80))) (fun k => servBy S (nI (k / 80)) (nI (k % 80))) (fun k => nI (100 * (k / 80) + k % 80)) 0 (-1) (80 * (i + 1))).1 := by rw [hb0]
              refine j_L (congrArg (fun z : Int32 => ([(3, .int (nI (i + 1))), (0, .ref 88), (1, .int z), (2, .int (fmx (fun k => isC S (nI (k / 80)) ∧ isC S (nI (k % 80))) (fun k => servBy S (nI (k / 80)) (nI (k % 80))) (fun k => nI (100 * (k / 80) + k % 80)) 0 (-1) (80 * i + j)).2), (4, .int (nI j))] : List (Nat × Value))) h1) ?_
              have h2 : (fmx (fun k => isC S (nI (k / 80)) ∧ isC S (nI (k % 80))) (fun k => servBy S (nI (k / 80)) (nI (k % 80))) (fun k => nI (100 * (k / 80) + k % 80)) 0 (-1) (80 * i + j)).2 = (fmx (fun k => isC S (nI (k / 80)) ∧ isC S (nI (k % 80))) (fun k => servBy S (nI (k / 80)) (nI (k % 80))) (fun k => nI (100 * (k / 80) + k % 80)) 0 (-1) (80 * (i + 1))).2 := by rw [hb0]
              refine j_L (congrArg (fun z : Int32 => ([(3, .int (nI (i + 1))), (0, .ref 88), (1, .int (fmx (fun k => isC S (nI (k / 80)) ∧ isC S (nI (k % 80))) (fun k => servBy S (nI (k / 80)) (nI (k % 80))) (fun k => nI (100 * (k / 80) + k % 80)) 0 (-1) (80 * (i + 1))).1), (2, .int z), (4, .int (nI j))] : List (Nat × Value))) h2) ?_
              exact j_sub (jk_pick [1, 2, 3, 0] rfl) (ih7 (i + 1) M2 (by omega) (by omega) hs2 ha2 hr2)
            · refine j_iload_n 2 dX3_bestPair_26 rfl ?_
              refine j_aload_n 0 dX3_bestPair_27 rfl ?_
              refine j_getv (worthS S) dX3_bestPair_28 fX3_15 (shC (Sm.C hs2 hC) sgC_88) rfl ((Sm.rd hs2 H88a).trans hw) ?_
              refine j_icmp_ge (tgt := 96) dX3_bestPair_31 rfl (fun c14 => ?_) (fun c14 => ?_)
              · refine j_iinc 3 (nI (i + 1)) (L' := [(3, .int (nI (i + 1))), (0, .ref 88), (1, .int (fmx (fun k => isC S (nI (k / 80)) ∧ isC S (nI (k % 80))) (fun k => servBy S (nI (k / 80)) (nI (k % 80))) (fun k => nI (100 * (k / 80) + k % 80)) 0 (-1) (80 * i + j)).1), (2, .int (fmx (fun k => isC S (nI (k / 80)) ∧ isC S (nI (k % 80))) (fun k => servBy S (nI (k / 80)) (nI (k % 80))) (fun k => nI (100 * (k / 80) + k % 80)) 0 (-1) (80 * i + j)).2), (4, .int (nI j))]) dX3_bestPair_96 rfl (inc1 i) (by decide) rfl ?_
                refine j_goto (tgt := 10) dX3_bestPair_99 rfl ?_
                have hb0 : (fmx (fun k => isC S (nI (k / 80)) ∧ isC S (nI (k % 80))) (fun k => servBy S (nI (k / 80)) (nI (k % 80))) (fun k => nI (100 * (k / 80) + k % 80)) 0 (-1) (80 * (i + 1))) = (fmx (fun k => isC S (nI (k / 80)) ∧ isC S (nI (k % 80))) (fun k => servBy S (nI (k / 80)) (nI (k % 80))) (fun k => nI (100 * (k / 80) + k % 80)) 0 (-1) (80 * i + j)) := by
                  have e := fmx_stop (P := (fun k => isC S (nI (k / 80)) ∧ isC S (nI (k % 80)))) (f := (fun k => servBy S (nI (k / 80)) (nI (k % 80)))) (g := (fun k => nI (100 * (k / 80) + k % 80))) (b := 0) (m := -1) (80 * i + j) c14 (80 - j) (fun k _ _ _ => (servBy_le ok _ _).2)
                  rw [show 80 * i + j + (80 - j) = 80 * (i + 1) by omega] at e
                  exact e
                have h1 : (fmx (fun k => isC S (nI (k / 80)) ∧ isC S (nI (k % 80))) (fun k => servBy S (nI (k / 80)) (nI (k % 80))) (fun k => nI (100 * (k / 80) + k % 80)) 0 (-1) (80 * i + j)).1 = (fmx (fun k => isC S (nI (k / 80)) ∧ isC S (nI (k % 80))) (fun k => servBy S (nI (k / 80)) (nI (k % 80))) (fun k => nI (100 * (k / 80) + k % 80)) 0 (-1) (80 * (i + 1))).1 := by rw [hb0]
                refine j_L (congrArg (fun z : Int32 => ([(3, .int (nI (i + 1))), (0, .ref 88), (1, .int z), (2, .int (fmx (fun k => isC S (nI (k / 80)) ∧ isC S (nI (k % 80))) (fun k => servBy S (nI (k / 80)) (nI (k % 80))) (fun k => nI (100 * (k / 80) + k % 80)) 0 (-1) (80 * i + j)).2), (4, .int (nI j))] : List (Nat × Value))) h1) ?_
                have h2 : (fmx (fun k => isC S (nI (k / 80)) ∧ isC S (nI (k % 80))) (fun k => servBy S (nI (k / 80)) (nI (k % 80))) (fun k => nI (100 * (k / 80) + k % 80)) 0 (-1) (80 * i + j)).2 = (fmx (fun k => isC S (nI (k / 80)) ∧ isC S (nI (k % 80))) (fun k => servBy S (nI (k / 80)) (nI (k % 80))) (fun k => nI (100 * (k / 80) + k % 80)) 0 (-1) (80 * (i + 1))).2 := by rw [hb0]
                refine j_L (congrArg (fun z : Int32 => ([(3, .int (nI (i + 1))), (0, .ref 88), (1, .int (fmx (fun k => isC S (nI (k / 80)) ∧ isC S (nI (k % 80))) (fun k => servBy S (nI (k / 80)) (nI (k % 80))) (fun k => nI (100 * (k / 80) + k % 80)) 0 (-1) (80 * (i + 1))).1), (2, .int z), (4, .int (nI j))] : List (Nat × Value))) h2) ?_
                exact j_sub (jk_pick [1, 2, 3, 0] rfl) (ih7 (i + 1) M2 (by omega) (by omega) hs2 ha2 hr2)
              · refine j_aload_n 0 dX3_bestPair_34 rfl ?_
                refine j_getr (q := 55) dX3_bestPair_35 fX3_23 (shC (Sm.C hs2 hC) sgC_88) rfl (rfC (Sm.C hs2 hC) rfC_88_1 (nz (by decide))) ?_
                refine j_iload_n 3 dX3_bestPair_38 rfl ?_
                refine j_callV (kc := 0) (ks := 0) (a := 0) (b := 0) (d' := d) (As := [.int (nI i)]) dX3_bestPair_39 kX3_47 rfl (shC (Sm.C hs2 hC) (sgH (by simp [isH]))) (by omega) rfl rfl rfl (Nat.le_of_ble_eq_true rfl) (Nat.le_of_ble_eq_true rfl) (T_X2_isCell (Sm.C hs2 hC) (by simp [isH]) (Sm.hv hs2 hS ok PA90H) ok (nI i)) (kk_p ?_)
                refine j_if_eqB (p := (isC S (nI i))) (tgt := 96) dX3_bestPair_42 rfl (fun c15 => ?_) (fun c15 => ?_)
                · refine j_iinc 3 (nI (i + 1)) (L' := [(3, .int (nI (i + 1))), (0, .ref 88), (1, .int (fmx (fun k => isC S (nI (k / 80)) ∧ isC S (nI (k % 80))) (fun k => servBy S (nI (k / 80)) (nI (k % 80))) (fun k => nI (100 * (k / 80) + k % 80)) 0 (-1) (80 * i + j)).1), (2, .int (fmx (fun k => isC S (nI (k / 80)) ∧ isC S (nI (k % 80))) (fun k => servBy S (nI (k / 80)) (nI (k % 80))) (fun k => nI (100 * (k / 80) + k % 80)) 0 (-1) (80 * i + j)).2), (4, .int (nI j))]) dX3_bestPair_96 rfl (inc1 i) (by decide) rfl ?_
                  refine j_goto (tgt := 10) dX3_bestPair_99 rfl ?_
                  have hb0 : (fmx (fun k => isC S (nI (k / 80)) ∧ isC S (nI (k % 80))) (fun k => servBy S (nI (k / 80)) (nI (k % 80))) (fun k => nI (100 * (k / 80) + k % 80)) 0 (-1) (80 * (i + 1))) = (fmx (fun k => isC S (nI (k / 80)) ∧ isC S (nI (k % 80))) (fun k => servBy S (nI (k / 80)) (nI (k % 80))) (fun k => nI (100 * (k / 80) + k % 80)) 0 (-1) (80 * i + j)) := by
                    have e := fmx_skip (P := (fun k => isC S (nI (k / 80)) ∧ isC S (nI (k % 80)))) (f := (fun k => servBy S (nI (k / 80)) (nI (k % 80)))) (g := (fun k => nI (100 * (k / 80) + k % 80))) (b := 0) (m := -1) (80 * i + j) (80 - j) (fun k h1 h2 z => c15 (by have := z.1; rw [show k / 80 = i by omega] at this; exact this))
                    rw [show 80 * i + j + (80 - j) = 80 * (i + 1) by omega] at e
                    exact e
                  have h1 : (fmx (fun k => isC S (nI (k / 80)) ∧ isC S (nI (k % 80))) (fun k => servBy S (nI (k / 80)) (nI (k % 80))) (fun k => nI (100 * (k / 80) + k % 80)) 0 (-1) (80 * i + j)).1 = (fmx (fun k => isC S (nI (k / 80)) ∧ isC S (nI (k % 80))) (fun k => servBy S (nI (k / 80)) (nI (k % 80))) (fun k => nI (100 * (k / 80) + k % 80)) 0 (-1) (80 * (i + 1))).1 := by rw [hb0]
                  refine j_L (congrArg (fun z : Int32 => ([(3, .int (nI (i + 1))), (0, .ref 88), (1, .int z), (2, .int (fmx (fun k => isC S (nI (k / 80)) ∧ isC S (nI (k % 80))) (fun k => servBy S (nI (k / 80)) (nI (k % 80))) (fun k => nI (100 * (k / 80) + k % 80)) 0 (-1) (80 * i + j)).2), (4, .int (nI j))] : List (Nat × Value))) h1) ?_
                  have h2 : (fmx (fun k => isC S (nI (k / 80)) ∧ isC S (nI (k % 80))) (fun k => servBy S (nI (k / 80)) (nI (k % 80))) (fun k => nI (100 * (k / 80) + k % 80)) 0 (-1) (80 * i + j)).2 = (fmx (fun k => isC S (nI (k / 80)) ∧ isC S (nI (k % 80))) (fun k => servBy S (nI (k / 80)) (nI (k % 80))) (fun k => nI (100 * (k / 80) + k % 80)) 0 (-1) (80 * (i + 1))).2 := by rw [hb0]
                  refine j_L (congrArg (fun z : Int32 => ([(3, .int (nI (i + 1))), (0, .ref 88), (1, .int (fmx (fun k => isC S (nI (k / 80)) ∧ isC S (nI (k % 80))) (fun k => servBy S (nI (k / 80)) (nI (k % 80))) (fun k => nI (100 * (k / 80) + k % 80)) 0 (-1) (80 * (i + 1))).1), (2, .int z), (4, .int (nI j))] : List (Nat × Value))) h2) ?_
                  exact j_sub (jk_pick [1, 2, 3, 0] rfl) (ih7 (i + 1) M2 (by omega) (by omega) hs2 ha2 hr2)
                · refine j_aload_n 0 dX3_bestPair_45 rfl ?_
                  refine j_getr (q := 55) dX3_bestPair_46 fX3_23 (shC (Sm.C hs2 hC) sgC_88) rfl (rfC (Sm.C hs2 hC) rfC_88_1 (nz (by decide))) ?_
                  refine j_iload 4 dX3_bestPair_49 rfl ?_
                  refine j_callV (kc := 0) (ks := 0) (a := 0) (b := 0) (d' := d) (As := [.int (nI j)]) dX3_bestPair_51 kX3_47 rfl (shC (Sm.C hs2 hC) (sgH (by simp [isH]))) (by omega) rfl rfl rfl (Nat.le_of_ble_eq_true rfl) (Nat.le_of_ble_eq_true rfl) (T_X2_isCell (Sm.C hs2 hC) (by simp [isH]) (Sm.hv hs2 hS ok PA90H) ok (nI j)) (kk_p ?_)
                  refine j_if_eqB (p := (isC S (nI j))) (tgt := 70) dX3_bestPair_54 rfl (fun c16 => ?_) (fun c16 => ?_)
                  · refine j_iconst (-1) dX3_bestPair_70 ic_n1 ?_
                    refine j_istore (L' := [(5, .int (-1)), (0, .ref 88), (1, .int (fmx (fun k => isC S (nI (k / 80)) ∧ isC S (nI (k % 80))) (fun k => servBy S (nI (k / 80)) (nI (k % 80))) (fun k => nI (100 * (k / 80) + k % 80)) 0 (-1) (80 * i + j)).1), (2, .int (fmx (fun k => isC S (nI (k / 80)) ∧ isC S (nI (k % 80))) (fun k => servBy S (nI (k / 80)) (nI (k % 80))) (fun k => nI (100 * (k / 80) + k % 80)) 0 (-1) (80 * i + j)).2), (3, .int (nI i)), (4, .int (nI j))]) dX3_bestPair_71 (by decide) rfl ?_
                    refine j_iload 0 dX3_bestPair_73 rfl ?_
                    refine j_iload_n 3 dX3_bestPair_75 rfl ?_
                    refine j_icmp_le (tgt := 90) dX3_bestPair_76 rfl (fun c17 => ?_) (fun c17 => ?_)
                    · refine j_iinc 5 (nI (j + 1)) (L' := [(4, .int (nI (j + 1))), (5, .int (-1)), (0, .ref 88), (1, .int (fmx (fun k => isC S (nI (k / 80)) ∧ isC S (nI (k % 80))) (fun k => servBy S (nI (k / 80)) (nI (k % 80))) (fun k => nI (100 * (k / 80) + k % 80)) 0 (-1) (80 * i + j)).1), (2, .int (fmx (fun k => isC S (nI (k / 80)) ∧ isC S (nI (k % 80))) (fun k => servBy S (nI (k / 80)) (nI (k % 80))) (fun k => nI (100 * (k / 80) + k % 80)) 0 (-1) (80 * i + j)).2), (3, .int (nI i))]) dX3_bestPair_90 rfl (inc1 j) (by decide) rfl ?_
                      refine j_goto (tgt := 19) dX3_bestPair_93 rfl ?_
                      have ei : (80 * i + j) / 80 = i := by omega
                      have ej : (80 * i + j) % 80 = j := by omega
                      have hb0 : (fmx (fun k => isC S (nI (k / 80)) ∧ isC S (nI (k % 80))) (fun k => servBy S (nI (k / 80)) (nI (k % 80))) (fun k => nI (100 * (k / 80) + k % 80)) 0 (-1) (80 * i + (j + 1))) = ((fmx (fun k => isC S (nI (k / 80)) ∧ isC S (nI (k % 80))) (fun k => servBy S (nI (k / 80)) (nI (k % 80))) (fun k => nI (100 * (k / 80) + k % 80)) 0 (-1) (80 * i + j)).1, (fmx (fun k => isC S (nI (k / 80)) ∧ isC S (nI (k % 80))) (fun k => servBy S (nI (k / 80)) (nI (k % 80))) (fun k => nI (100 * (k / 80) + k % 80)) 0 (-1) (80 * i + j)).2) := fmx_f (P := (fun k => isC S (nI (k / 80)) ∧ isC S (nI (k % 80)))) (f := (fun k => servBy S (nI (k / 80)) (nI (k % 80)))) (g := (fun k => nI (100 * (k / 80) + k % 80))) (b := 0) (m := -1) (n := 80 * i + j) (Or.inl (fun z => c16 (by have := z.2; rw [ej] at this; exact this)))
                      have h1 : (fmx (fun k => isC S (nI (k / 80)) ∧ isC S (nI (k % 80))) (fun k => servBy S (nI (k / 80)) (nI (k % 80))) (fun k => nI (100 * (k / 80) + k % 80)) 0 (-1) (80 * i + j)).1 = (fmx (fun k => isC S (nI (k / 80)) ∧ isC S (nI (k % 80))) (fun k => servBy S (nI (k / 80)) (nI (k % 80))) (fun k => nI (100 * (k / 80) + k % 80)) 0 (-1) (80 * i + (j + 1))).1 := by rw [hb0]
                      refine j_L (congrArg (fun z : Int32 => ([(4, .int (nI (j + 1))), (5, .int (-1)), (0, .ref 88), (1, .int z), (2, .int (fmx (fun k => isC S (nI (k / 80)) ∧ isC S (nI (k % 80))) (fun k => servBy S (nI (k / 80)) (nI (k % 80))) (fun k => nI (100 * (k / 80) + k % 80)) 0 (-1) (80 * i + j)).2), (3, .int (nI i))] : List (Nat × Value))) h1) ?_
                      have h2 : (fmx (fun k => isC S (nI (k / 80)) ∧ isC S (nI (k % 80))) (fun k => servBy S (nI (k / 80)) (nI (k % 80))) (fun k => nI (100 * (k / 80) + k % 80)) 0 (-1) (80 * i + j)).2 = (fmx (fun k => isC S (nI (k / 80)) ∧ isC S (nI (k % 80))) (fun k => servBy S (nI (k / 80)) (nI (k % 80))) (fun k => nI (100 * (k / 80) + k % 80)) 0 (-1) (80 * i + (j + 1))).2 := by rw [hb0]
                      refine j_L (congrArg (fun z : Int32 => ([(4, .int (nI (j + 1))), (5, .int (-1)), (0, .ref 88), (1, .int (fmx (fun k => isC S (nI (k / 80)) ∧ isC S (nI (k % 80))) (fun k => servBy S (nI (k / 80)) (nI (k % 80))) (fun k => nI (100 * (k / 80) + k % 80)) 0 (-1) (80 * i + (j + 1))).1), (2, .int z), (3, .int (nI i))] : List (Nat × Value))) h2) ?_
                      exact j_sub (jk_pick [2, 3, 4, 5, 0] rfl) (ih11 (j + 1) M2 (by omega) (by omega) hs2 ha2 hr2)
                    · exact absurd (fmx_ge _) c17
                  · refine j_aload_n 0 dX3_bestPair_57 rfl ?_
                    refine j_getr (q := 90) dX3_bestPair_58 fX3_31 (shC (Sm.C hs2 hC) sgC_88) rfl (rfC (Sm.C hs2 hC) rfC_88_2 (nz (by decide))) ?_
                    refine j_iload_n 3 dX3_bestPair_61 rfl ?_
                    refine j_iload 4 dX3_bestPair_62 rfl ?_
                    refine j_callV (kc := 0) (ks := 0) (a := 0) (b := 0) (d' := (d + 4)) (As := [.int (nI i), .int (nI j)]) dX3_bestPair_64 kX3_61 rfl (shC (Sm.C hs2 hC) (sgA isA90)) (by omega) rfl rfl rfl (Nat.le_of_ble_eq_true rfl) (Nat.le_of_ble_eq_true rfl) (T_X0_servedBy (Sm.C hs2 hC) isA90 (Sm.hv hs2 hS ok PA90H) ok ha2 (nI i) (nI j) (ROA.r hr2 (Or.inl c15)) (ROA.r hr2 (Or.inl c16))) (kk_e (fun M18 hM19 => ?_))
                    obtain ⟨h021, ha22⟩ := hM19
                    have sm20 := Sm.tr hs2 (Sm.mo (P2 := AO 90) h021 PH90)
                    have hr23 := ROA.sm hr2 h021
                    refine j_goto (tgt := 71) dX3_bestPair_67 rfl ?_
                    refine j_istore (L' := [(5, .int (servBy S (nI i) (nI j))), (0, .ref 88), (1, .int (fmx (fun k => isC S (nI (k / 80)) ∧ isC S (nI (k % 80))) (fun k => servBy S (nI (k / 80)) (nI (k % 80))) (fun k => nI (100 * (k / 80) + k % 80)) 0 (-1) (80 * i + j)).1), (2, .int (fmx (fun k => isC S (nI (k / 80)) ∧ isC S (nI (k % 80))) (fun k => servBy S (nI (k / 80)) (nI (k % 80))) (fun k => nI (100 * (k / 80) + k % 80)) 0 (-1) (80 * i + j)).2), (3, .int (nI i)), (4, .int (nI j))]) dX3_bestPair_71 (by decide) rfl ?_
                    refine j_iload 0 dX3_bestPair_73 rfl ?_
                    refine j_iload_n 3 dX3_bestPair_75 rfl ?_
                    refine j_icmp_le (tgt := 90) dX3_bestPair_76 rfl (fun c24 => ?_) (fun c24 => ?_)
                    · refine j_iinc 5 (nI (j + 1)) (L' := [(4, .int (nI (j + 1))), (5, .int (servBy S (nI i) (nI j))), (0, .ref 88), (1, .int (fmx (fun k => isC S (nI (k / 80)) ∧ isC S (nI (k % 80))) (fun k => servBy S (nI (k / 80)) (nI (k % 80))) (fun k => nI (100 * (k / 80) + k % 80)) 0 (-1) (80 * i + j)).1), (2, .int (fmx (fun k => isC S (nI (k / 80)) ∧ isC S (nI (k % 80))) (fun k => servBy S (nI (k / 80)) (nI (k % 80))) (fun k => nI (100 * (k / 80) + k % 80)) 0 (-1) (80 * i + j)).2), (3, .int (nI i))]) dX3_bestPair_90 rfl (inc1 j) (by decide) rfl ?_
                      refine j_goto (tgt := 19) dX3_bestPair_93 rfl ?_
                      have ei : (80 * i + j) / 80 = i := by omega
                      have ej : (80 * i + j) % 80 = j := by omega
                      have hb0 : (fmx (fun k => isC S (nI (k / 80)) ∧ isC S (nI (k % 80))) (fun k => servBy S (nI (k / 80)) (nI (k % 80))) (fun k => nI (100 * (k / 80) + k % 80)) 0 (-1) (80 * i + (j + 1))) = ((fmx (fun k => isC S (nI (k / 80)) ∧ isC S (nI (k % 80))) (fun k => servBy S (nI (k / 80)) (nI (k % 80))) (fun k => nI (100 * (k / 80) + k % 80)) 0 (-1) (80 * i + j)).1, (fmx (fun k => isC S (nI (k / 80)) ∧ isC S (nI (k % 80))) (fun k => servBy S (nI (k / 80)) (nI (k % 80))) (fun k => nI (100 * (k / 80) + k % 80)) 0 (-1) (80 * i + j)).2) := fmx_f (P := (fun k => isC S (nI (k / 80)) ∧ isC S (nI (k % 80)))) (f := (fun k => servBy S (nI (k / 80)) (nI (k % 80)))) (g := (fun k => nI (100 * (k / 80) + k % 80))) (b := 0) (m := -1) (n := 80 * i + j) (Or.inr (by rw [ei, ej]; exact Int32.not_lt.mpr c24))
                      have h1 : (fmx (fun k => isC S (nI (k / 80)) ∧ isC S (nI (k % 80))) (fun k => servBy S (nI (k / 80)) (nI (k % 80))) (fun k => nI (100 * (k / 80) + k % 80)) 0 (-1) (80 * i + j)).1 = (fmx (fun k => isC S (nI (k / 80)) ∧ isC S (nI (k % 80))) (fun k => servBy S (nI (k / 80)) (nI (k % 80))) (fun k => nI (100 * (k / 80) + k % 80)) 0 (-1) (80 * i + (j + 1))).1 := by rw [hb0]
                      refine j_L (congrArg (fun z : Int32 => ([(4, .int (nI (j + 1))), (5, .int (servBy S (nI i) (nI j))), (0, .ref 88), (1, .int z), (2, .int (fmx (fun k => isC S (nI (k / 80)) ∧ isC S (nI (k % 80))) (fun k => servBy S (nI (k / 80)) (nI (k % 80))) (fun k => nI (100 * (k / 80) + k % 80)) 0 (-1) (80 * i + j)).2), (3, .int (nI i))] : List (Nat × Value))) h1) ?_
                      have h2 : (fmx (fun k => isC S (nI (k / 80)) ∧ isC S (nI (k % 80))) (fun k => servBy S (nI (k / 80)) (nI (k % 80))) (fun k => nI (100 * (k / 80) + k % 80)) 0 (-1) (80 * i + j)).2 = (fmx (fun k => isC S (nI (k / 80)) ∧ isC S (nI (k % 80))) (fun k => servBy S (nI (k / 80)) (nI (k % 80))) (fun k => nI (100 * (k / 80) + k % 80)) 0 (-1) (80 * i + (j + 1))).2 := by rw [hb0]
                      refine j_L (congrArg (fun z : Int32 => ([(4, .int (nI (j + 1))), (5, .int (servBy S (nI i) (nI j))), (0, .ref 88), (1, .int (fmx (fun k => isC S (nI (k / 80)) ∧ isC S (nI (k % 80))) (fun k => servBy S (nI (k / 80)) (nI (k % 80))) (fun k => nI (100 * (k / 80) + k % 80)) 0 (-1) (80 * i + (j + 1))).1), (2, .int z), (3, .int (nI i))] : List (Nat × Value))) h2) ?_
                      exact j_sub (jk_pick [2, 3, 4, 5, 0] rfl) (ih11 (j + 1) M18 (by omega) (by omega) sm20 ha22 hr23)
                    · refine j_iload 0 dX3_bestPair_79 rfl ?_
                      refine j_istore_n (L' := [(2, .int (servBy S (nI i) (nI j))), (5, .int (servBy S (nI i) (nI j))), (0, .ref 88), (1, .int (fmx (fun k => isC S (nI (k / 80)) ∧ isC S (nI (k % 80))) (fun k => servBy S (nI (k / 80)) (nI (k % 80))) (fun k => nI (100 * (k / 80) + k % 80)) 0 (-1) (80 * i + j)).1), (3, .int (nI i)), (4, .int (nI j))]) dX3_bestPair_81 (by decide) rfl ?_
                      refine j_bipush 100 dX3_bestPair_82 bp_100 ?_
                      refine j_iload_n 4 dX3_bestPair_84 rfl ?_
                      refine j_imulN 100 i dX3_bestPair_85 ?_
                      refine j_iload 5 dX3_bestPair_86 rfl ?_
                      refine j_iaddN (100 * i) j dX3_bestPair_88 ?_
                      refine j_istore_n (L' := [(1, .int (nI ((100 * i) + j))), (2, .int (servBy S (nI i) (nI j))), (5, .int (servBy S (nI i) (nI j))), (0, .ref 88), (3, .int (nI i)), (4, .int (nI j))]) dX3_bestPair_89 (by decide) rfl ?_
                      refine j_iinc 5 (nI (j + 1)) (L' := [(4, .int (nI (j + 1))), (1, .int (nI ((100 * i) + j))), (2, .int (servBy S (nI i) (nI j))), (5, .int (servBy S (nI i) (nI j))), (0, .ref 88), (3, .int (nI i))]) dX3_bestPair_90 rfl (inc1 j) (by decide) rfl ?_
                      refine j_goto (tgt := 19) dX3_bestPair_93 rfl ?_
                      have ei : (80 * i + j) / 80 = i := by omega
                      have ej : (80 * i + j) % 80 = j := by omega
                      have hb0 : (fmx (fun k => isC S (nI (k / 80)) ∧ isC S (nI (k % 80))) (fun k => servBy S (nI (k / 80)) (nI (k % 80))) (fun k => nI (100 * (k / 80) + k % 80)) 0 (-1) (80 * i + (j + 1))) = ((nI ((100 * i) + j)), (servBy S (nI i) (nI j))) := (fmx_t (P := (fun k => isC S (nI (k / 80)) ∧ isC S (nI (k % 80)))) (f := (fun k => servBy S (nI (k / 80)) (nI (k % 80)))) (g := (fun k => nI (100 * (k / 80) + k % 80))) (b := 0) (m := -1) (n := 80 * i + j) ⟨by rw [ei]; exact c15, by rw [ej]; exact c16⟩ (by rw [ei, ej]; exact Int32.not_le.mp c24)).trans (by rw [ei, ej])
                      have h1 : (nI ((100 * i) + j)) = (fmx (fun k => isC S (nI (k / 80)) ∧ isC S (nI (k % 80))) (fun k => servBy S (nI (k / 80)) (nI (k % 80))) (fun k => nI (100 * (k / 80) + k % 80)) 0 (-1) (80 * i + (j + 1))).1 := by rw [hb0]
                      refine j_L (congrArg (fun z : Int32 => ([(4, .int (nI (j + 1))), (1, .int z), (2, .int (servBy S (nI i) (nI j))), (5, .int (servBy S (nI i) (nI j))), (0, .ref 88), (3, .int (nI i))] : List (Nat × Value))) h1) ?_
                      have h2 : (servBy S (nI i) (nI j)) = (fmx (fun k => isC S (nI (k / 80)) ∧ isC S (nI (k % 80))) (fun k => servBy S (nI (k / 80)) (nI (k % 80))) (fun k => nI (100 * (k / 80) + k % 80)) 0 (-1) (80 * i + (j + 1))).2 := by rw [hb0]
                      refine j_L (congrArg (fun z : Int32 => ([(4, .int (nI (j + 1))), (1, .int (fmx (fun k => isC S (nI (k / 80)) ∧ isC S (nI (k % 80))) (fun k => servBy S (nI (k / 80)) (nI (k % 80))) (fun k => nI (100 * (k / 80) + k % 80)) 0 (-1) (80 * i + (j + 1))).1), (2, .int z), (5, .int (servBy S (nI i) (nI j))), (0, .ref 88), (3, .int (nI i))] : List (Nat × Value))) h2) ?_
                      exact j_sub (jk_pick [4, 1, 2, 5, 0] rfl) (ih11 (j + 1) M18 (by omega) (by omega) sm20 ha22 hr23)
        exact j_sub (jk_pick [1, 2, 3, 4, 0] rfl) (lp12 _ 0 M1 (Nat.lt_succ_self _) (by omega) hs1 ha1 hr1)
  exact j_sub (jk_pick [3, 2, 1, 0] rfl) (lp8 _ 0 M1 (Nat.lt_succ_self _) (by omega) sm3 ha4 hr5)
