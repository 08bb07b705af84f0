/-! searches -/
theorem isA82 : isA 82 1 := Or.inl ⟨rfl, rfl⟩
theorem isA90 : isA 90 55 := Or.inr ⟨rfl, rfl⟩
def PSe (q : Nat) : Prop := AO 82 q ∨ q = 96 ∨ q = 97 ∨ q = 98
theorem AO82 {q : Nat} (h : AO 82 q) : 82 ≤ q ∧ q ≤ 87 := h
theorem PSeH : ∀ q, HO 1 q → ¬ PSe q := fun q hq e => by
  obtain ⟨h1, h2⟩ := hq
  rcases e with e | e | e | e
  · have := AO82 e; omega
  all_goals omega
theorem PSeS {b : Nat} (hb : isS b) : ¬ PSe b := fun e => by
  have h := hb.2.2.2
  rcases e with e | e | e | e
  · have := AO82 e; omega
  all_goals omega
def PHu (q : Nat) : Prop := q = 82 + 4
theorem PHuH : ∀ q, HO 1 q → ¬ PHu q := fun q hq e => by obtain ⟨h1, h2⟩ := hq; have e : q = 82 + 4 := e; omega
theorem PHuS {b : Nat} (hb : isS b) : ¬ PHu b := fun e => by have h := hb.2.2.2; have e : b = 82 + 4 := e; omega
theorem PHu.PSe : ∀ q, PHu q → PSe q := fun q e => Or.inl (by have e : q = 82 + 4 := e; rw [e]; exact AO0 (by decide))
theorem PSeL : ∀ q, AO 82 q → PSe q := fun q h => Or.inl h
theorem AirOK.sm {P : Nat → Prop} {a : Nat} {S : HS} {M M1 : jk_M} (h : AirOK a S M) (s : Sm P M M1) (hp : ∀ q, AO a q → ¬ P q) : AirOK a S M1 := by
  have e : ∀ k, k ≤ 5 → M1.2.1 (a + k) = M.2.1 (a + k) := fun k hk => s.2.2 _ (hp _ (AO0 hk))
  have e0 : M1.2.1 a = M.2.1 a := e 0 (by decide)
  obtain ⟨h1, h2, h3⟩ := h
  refine ⟨fun c hc => ?_, fun c hc => ?_, by rw [e0]; exact h3⟩
  · rw [e 1 (by decide), e 2 (by decide), e 3 (by decide)]; exact h1 c hc
  · rw [e 4 (by decide)]; exact h2 c hc
def P97 (q : Nat) : Prop := q = 96 ∨ q = 97
theorem H6 : ¬ PHu 96 := fun e => by have e : 96 = 82 + 4 := e; omega
theorem H7 : ¬ PHu 97 := fun e => by have e : 97 = 82 + 4 := e; omega
theorem P97A : ∀ q, AO 82 q → ¬ P97 q := fun q h e => by have := AO82 h; rcases e with e | e <;> omega
theorem Sm.tl {P : Nat → Prop} {M M' : jk_M} {b : Nat} (h : Sm P M M') (hb : ¬ P b) (i : Int32) : shTl M' b i = shTl M b i := by
  have e1 : M'.2.1 b = M.2.1 b := h.2.2 b hb
  have e2 : M'.2.2.1 = M.2.2.1 := by rw [h.2.1]
  have hh : shHas M' b i ↔ shHas M b i := by simp only [shHas, e1]
  by_cases z : shHas M b i
  · rw [shTl_t z, shTl_t (hh.mpr z), e2]
  · rw [shTl_f z, shTl_f (fun y => z (hh.mp y))]
theorem jmax0 (x : Int32) : 0 ≤ jmax 0 x := by unfold jmax; split <;> grind
theorem strS_0 (S : HS) (f t : Int32) : 0 ≤ strS S f t := by
  by_cases h : isP f ∧ isP t
  · rw [strS_n h.1 h.2]; exact jmax0 _
  · rw [strS_z (by by_cases a : isP f; exact Or.inr (fun b => h ⟨a, b⟩); exact Or.inl a)]
    decide
theorem bars_in {x : Int32} (h : 0 ≤ x) : inB (barsBy x) 0 5 := by
  have hx := Int32.le_iff_toInt_le.mp h
  have z : (0 : Int32).toInt = 0 := by decide
  rw [z] at hx
  have hd : (x / 10).toInt = x.toInt / 10 := lg_idiv_nonneg hx (by decide)
  have h5 : ((5 : Int32)).toInt = 5 := by decide
  unfold barsBy jmin
  split
  · rename_i hn
    have hn2 := Int32.lt_iff_toInt_lt.mp hn
    rw [hd, h5] at hn2
    refine ⟨(x.toInt / 10).toNat, by omega, by omega, ?_⟩
    apply Int32.toInt_inj.mp
    rw [hd, nI_toInt (by omega)]
    omega
  · exact ⟨5, by omega, by omega, by decide⟩
/-- whether all told pairs agree with a box at f -/
def agS (S : HS) (tl : Int32 → Int32) (f : Int32) (n : Nat) : Prop := ∀ i, i < n → barsBy (strS S f (tl (nI (2 * i)))) = tl (nI (2 * i + 1))
theorem agS_sm {S : HS} {P : Nat → Prop} {M M' : jk_M} {b : Nat} {f : Int32} {n : Nat} (h : Sm P M M') (hb : ¬ P b) : agS S (shTl M' b) f n ↔ agS S (shTl M b) f n := by rw [show shTl M' b = shTl M b from funext (fun i => h.tl hb i)]
noncomputable def fitN (S : HS) (A : Nat → Prop) : Nat → List Nat
  | 0 => []
  | n + 1 => @ite _ (isC S (nI n) ∧ A n) (Classical.propDecidable _) (fitN S A n ++ [n]) (fitN S A n)
theorem fitN_t {S : HS} {A : Nat → Prop} {n : Nat} (h : isC S (nI n)) (h2 : A n) : fitN S A (n + 1) = fitN S A n ++ [n] := @if_pos _ (Classical.propDecidable _) ⟨h, h2⟩ _ _ _
theorem fitN_f {S : HS} {A : Nat → Prop} {n : Nat} (h : ¬ isC S (nI n) ∨ ¬ A n) : fitN S A (n + 1) = fitN S A n := @if_neg _ (Classical.propDecidable _) (fun z => h.elim (fun w => w z.1) (fun w => w z.2)) _ _ _
theorem fitN_len {S : HS} {A : Nat → Prop} : ∀ n, (fitN S A n).length ≤ n
  | 0 => Nat.le_refl _
  | n + 1 => by
    by_cases h : isC S (nI n)
    · by_cases h2 : A n
      · rw [fitN_t h h2, List.length_append]
        have := fitN_len (S := S) (A := A) n
        simp; omega
      · rw [fitN_f (Or.inr h2)]
        have := fitN_len (S := S) (A := A) n; omega
    · rw [fitN_f (Or.inl h)]
      have := fitN_len (S := S) (A := A) n; omega
theorem fitN_mem {S : HS} {A : Nat → Prop} : ∀ n, ∀ q ∈ fitN S A n, q < n ∧ isC S (nI q) ∧ A q
  | 0 => fun q h => by cases h
  | n + 1 => fun q h => by
    by_cases h1 : isC S (nI n) ∧ A n
    · rw [fitN_t h1.1 h1.2] at h
      rcases List.mem_append.mp h with h | h
      · have := fitN_mem n q h; exact ⟨by omega, this.2⟩
      · have e : q = n := by simpa using h
        subst e; exact ⟨by omega, h1⟩
    · rw [fitN_f (by by_cases a : isC S (nI n); exact Or.inr (fun b => h1 ⟨a, b⟩); exact Or.inl a)] at h
      have := fitN_mem n q h; exact ⟨by omega, this.2⟩
def SeW (M : jk_M) (l : List Nat) : Prop := M.2.1 96 4 = nI l.length ∧ ∀ i, i < l.length → M.2.1 97 i = nI (l.getD i 0)
theorem SeW.app {M : jk_M} {l : List Nat} {x : Nat} (h : SeW M l) : SeW (jk_wI (jk_wI M 97 l.length (nI x)) 96 4 (nI (l.length + 1))) (l ++ [x]) := by
  refine ⟨by rw [rd_s]; simp, fun i hi => ?_⟩
  rw [rd_o (by decide)]
  have hi2 : i < l.length + 1 := by simpa using hi
  by_cases e : i = l.length
  · subst e; rw [rd_s]; simp [List.getD]
  · rw [rd_k e, h.2 i (by omega)]
    simp only [List.getD]
    rw [List.getElem?_append_left (by omega)]
theorem SeW.sm {P : Nat → Prop} {M M1 : jk_M} {l : List Nat} (h : SeW M l) (s : Sm P M M1) (h6 : ¬ P 96) (h7 : ¬ P 97) : SeW M1 l := ⟨by rw [s.2.2 96 h6]; exact h.1, fun i hi => by rw [s.2.2 97 h7]; exact h.2 i hi⟩
def P98 (q : Nat) : Prop := PHu q ∨ q = 98
theorem P98H : ∀ q, HO 1 q → ¬ P98 q := fun q hq e => e.elim (PHuH q hq) (fun e => by obtain ⟨h1, h2⟩ := hq; omega)
theorem P98S : ∀ q, P98 q → PSe q := fun q e => e.elim (PHu.PSe q) (fun e => Or.inr (Or.inr (Or.inr e)))
theorem P98a : ¬ P98 96 := fun e => e.elim H6 (fun e => by omega)
theorem P98b : ¬ P98 97 := fun e => e.elim H7 (fun e => by omega)
def P98o (q : Nat) : Prop := q = 98
theorem P98oA : ∀ q, AO 82 q → ¬ P98o q := fun q h e => by have := AO82 h; have e : q = 98 := e; omega
theorem H98 : ¬ PHu 98 := fun e => by have e : 98 = 82 + 4 := e; omega
/-- how many fits would be left at worst -/
noncomputable def wlS (S : HS) (c : Int32) (l : List Nat) : Nat → (Nat → Int32) × Int32
  | 0 => (fun _ => 0, 0)
  | i + 1 => let k := (barsBy (strS S (nI (l.getD i 0)) c)).toNatClampNeg
    (va_up (wlS S c l i).1 k ((wlS S c l i).1 k + 1), jmax (wlS S c l i).2 ((wlS S c l i).1 k + 1))
theorem wl_s {S : HS} {c : Int32} {l : List Nat} {i k : Nat} (hk : k ≤ 5) (e : barsBy (strS S (nI (l.getD i 0)) c) = nI k) : wlS S c l (i + 1) = (va_up (wlS S c l i).1 k ((wlS S c l i).1 k + 1), jmax (wlS S c l i).2 ((wlS S c l i).1 k + 1)) := by
  have e2 : (barsBy (strS S (nI (l.getD i 0)) c)).toNatClampNeg = k := by rw [e, nI_clamp (by omega)]
  simp only [wlS, e2]
noncomputable def bmS (S : HS) (l : List Nat) : Nat → Int32 × Int32
  | 0 => (0, nI (l.length + 1))
  | n + 1 => @ite _ (isC S (nI n) ∧ (wlS S (nI n) l l.length).2 < (bmS S l n).2) (Classical.propDecidable _) (nI n, (wlS S (nI n) l l.length).2) (bmS S l n)
theorem bmS_t {S : HS} {l : List Nat} {n : Nat} (h : isC S (nI n)) (h2 : (wlS S (nI n) l l.length).2 < (bmS S l n).2) : bmS S l (n + 1) = (nI n, (wlS S (nI n) l l.length).2) := @if_pos _ (Classical.propDecidable _) ⟨h, h2⟩ _ _ _
theorem bmS_f {S : HS} {l : List Nat} {n : Nat} (h : ¬ isC S (nI n) ∨ ¬ (wlS S (nI n) l l.length).2 < (bmS S l n).2) : bmS S l (n + 1) = bmS S l n := @if_neg _ (Classical.propDecidable _) (fun z => h.elim (fun w => w z.1) (fun w => w z.2)) _ _ _
theorem isC80 {S : HS} (ok : Sok S) {c : Int32} (h : isC S c) : isP c := isC_P ok h
set_option maxRecDepth 20000 in
set_option maxHeartbeats 4000000 in
theorem T_X7_agrees {d : Nat} {M : jk_M} {S : HS} (hC : WC M) (hS : hv M.2.1 1 = S) (ok : Sok S) (ha : AirOK 82 S M) {b : Nat} (hb : isS b) (f : Int32) (n : Nat) (hn : n ≤ 40) : J Fr_X7_agrees (d + 4) 0 0 0 [(0, .ref 96), (1, .int f), (2, .ref b), (3, .int (nI n))] [] M (jk_ex (some (.int (bI (agS S (shTl M b) f n)))) (fun M1 => Sm PHu M M1 ∧ AirOK 82 S M1)) := by
  refine j_post (fun Q hQ => ?_)
  refine j_aload_n 2 dX7_agrees_0 rfl ?_
  refine j_ifnonnull (tgt := 6) dX7_agrees_1 rfl ?_
  refine j_iconst 0 dX7_agrees_6 ic_0 ?_
  refine j_istore (L' := [(4, .int 0), (0, .ref 96), (1, .int f), (2, .ref b), (3, .int (nI n))]) dX7_agrees_7 (by decide) rfl ?_
  have lp3 : ∀ (k1 : Nat) (i : Nat) (M1 : jk_M), n - i < k1 → (i ≤ n) → (Sm PHu M M1) → (AirOK 82 S M1) → (∀ j, j < i → barsBy (strS S f (shTl M b (nI (2 * j)))) = shTl M b (nI (2 * j + 1))) → J Fr_X7_agrees (d + 4) 0 0 9 [(0, .ref 96), (1, .int f), (2, .ref b), (3, .int (nI n)), (4, .int (nI i))] [] M1 Q := by
    intro k1
    induction k1 with
    | zero => intro i M1 hk; exact absurd hk (Nat.not_lt_zero _)
    | succ k1 ih2 =>
      intro i M1 hk1 hi hs1 ha1 hg
      refine j_iload 4 dX7_agrees_9 rfl ?_
      refine j_iload_n 3 dX7_agrees_11 rfl ?_
      refine j_icmp_geN (tgt := 59) i n dX7_agrees_12 rfl (by omega) (by omega) (fun c4 => ?_) (fun c4 => ?_)
      · refine j_iconst 1 dX7_agrees_59 ic_1 ?_
        refine j_zret dX7_agrees_60 rfl rfl ?_
        exact hQ _ _ ⟨by rw [bI_t (p := agS S (shTl M b) f n) (fun j hj => hg j (by omega))], hs1, ha1⟩
      · refine j_aload_n 0 dX7_agrees_15 rfl ?_
        refine j_getr (q := 82) dX7_agrees_16 fX7_26 (shC (Sm.C hs1 hC) sgC_96) rfl (rfC (Sm.C hs1 hC) rfC_96_1 (nz (by decide))) ?_
        refine j_iload_n 1 dX7_agrees_19 rfl ?_
        refine j_aload_n 2 dX7_agrees_20 rfl ?_
        refine j_iconst 2 dX7_agrees_21 ic_2 ?_
        refine j_iload 4 dX7_agrees_22 rfl ?_
        refine j_imulN 2 i dX7_agrees_24 ?_
        refine j_callV (kc := 0) (ks := 0) (a := 0) (b := 0) (d' := (d + 1)) (As := [.int (nI (2 * i))]) dX7_agrees_25 kX7_45 rfl (shC (Sm.C hs1 hC) (sgG hb)) (by omega) rfl rfl rfl (Nat.le_of_ble_eq_true rfl) (Nat.le_of_ble_eq_true rfl) (T_X8_tells (Sm.C hs1 hC) hb (nI (2 * i))) (kk_p ?_)
        refine j_topi (shTl M b (nI (2 * i))) (Sm.tl hs1 (PHuS hb) (nI (2 * i))) ?_
        refine j_callV (kc := 0) (ks := 0) (a := 0) (b := 0) (d' := (d + 3)) (As := [.int f, .int (shTl M b (nI (2 * i)))]) dX7_agrees_28 kX7_51 rfl (shC (Sm.C hs1 hC) (sgA isA82)) (by omega) rfl rfl rfl (Nat.le_of_ble_eq_true rfl) (Nat.le_of_ble_eq_true rfl) (T_X0_strengthFrom (Sm.C hs1 hC) isA82 (Sm.hv hs1 hS ok PHuH) ok ha1 f (shTl M b (nI (2 * i)))) (kk_e (fun M5 hM6 => ?_))
        obtain ⟨sm7, ha8⟩ := hM6
        replace sm7 := Sm.tr hs1 sm7
        refine j_callSN (kc := 0) (ks := 0) (a := 0) (b := 0) (d' := d) (As := [.int (strS S f (shTl M b (nI (2 * i))))]) dX7_agrees_31 kX7_55 rfl (by omega) rfl rfl rfl (Nat.le_of_ble_eq_true rfl) (Nat.le_of_ble_eq_true rfl) (T_X10_barsBy (strS S f (shTl M b (nI (2 * i))))) (kk_p ?_)
        refine j_istore (L' := [(5, .int (barsBy (strS S f (shTl M b (nI (2 * i)))))), (0, .ref 96), (1, .int f), (2, .ref b), (3, .int (nI n)), (4, .int (nI i))]) dX7_agrees_34 (by decide) rfl ?_
        refine j_iload 0 dX7_agrees_36 rfl ?_
        refine j_aload_n 3 dX7_agrees_38 rfl ?_
        refine j_iconst 2 dX7_agrees_39 ic_2 ?_
        refine j_iload 5 dX7_agrees_40 rfl ?_
        refine j_imulN 2 i dX7_agrees_42 ?_
        refine j_iconst 1 dX7_agrees_43 ic_1 ?_
        refine j_iaddN (2 * i) 1 dX7_agrees_44 ?_
        refine j_callV (kc := 0) (ks := 0) (a := 0) (b := 0) (d' := (d + 1)) (As := [.int (nI ((2 * i) + 1))]) dX7_agrees_45 kX7_45 rfl (shC (Sm.C sm7 hC) (sgG hb)) (by omega) rfl rfl rfl (Nat.le_of_ble_eq_true rfl) (Nat.le_of_ble_eq_true rfl) (T_X8_tells (Sm.C sm7 hC) hb (nI ((2 * i) + 1))) (kk_p ?_)
        refine j_topi (shTl M b (nI ((2 * i) + 1))) (Sm.tl sm7 (PHuS hb) (nI ((2 * i) + 1))) ?_
        refine j_icmp_eq (tgt := 53) dX7_agrees_48 rfl (fun c9 => ?_) (fun c9 => ?_)
        · refine j_iinc 5 (nI (i + 1)) (L' := [(4, .int (nI (i + 1))), (5, .int (barsBy (strS S f (shTl M b (nI (2 * i)))))), (0, .ref 96), (1, .int f), (2, .ref b), (3, .int (nI n))]) dX7_agrees_53 rfl (inc1 i) (by decide) rfl ?_
          refine j_goto (tgt := 9) dX7_agrees_56 rfl ?_
          exact j_sub (jk_pick [2, 3, 4, 5, 0] rfl) (ih2 (i + 1) M5 (by omega) (by omega) sm7 ha8 (fun j hj => (Nat.lt_succ_iff_lt_or_eq.mp hj).elim (hg j) (fun e => by rw [e]; exact c9)))
        · refine j_iconst 0 dX7_agrees_51 ic_0 ?_
          refine j_zret dX7_agrees_52 rfl rfl ?_
          exact hQ _ _ ⟨by rw [bI_f (p := agS S (shTl M b) f n) (fun z => c9 (z i (by omega)))], sm7, ha8⟩
  exact j_sub (jk_pick [1, 2, 3, 4, 0] rfl) (lp3 _ 0 M (Nat.lt_succ_self _) (Nat.zero_le _) Sm.rf ha (fun j hj => absurd hj (Nat.not_lt_zero j)))
set_option maxRecDepth 20000 in
set_option maxHeartbeats 4000000 in
theorem T_X7_look {d : Nat} {M : jk_M} {S : HS} (hC : WC M) (hS : hv M.2.1 1 = S) (ok : Sok S) {b : Nat} (hb : isS b) (n : Nat) (hn : n ≤ 40) : J Fr_X7_look (d + 5) 0 0 0 [(0, .ref 96), (1, .ref b), (2, .int (nI n))] [] M (jk_ex none (fun M1 => Sm PSe M M1 ∧ AirOK 82 S M1 ∧ SeW M1 (fitN S (fun c => agS S (shTl M b) (nI c) n) 80))) := by
  refine j_post (fun Q hQ => ?_)
  refine j_aload_n 0 dX7_look_0 rfl ?_
  refine j_getr (q := 82) dX7_look_1 fX7_26 (shC hC sgC_96) rfl (rfC hC rfC_96_1 (nz (by decide))) ?_
  refine j_callV (kc := 0) (ks := 0) (a := 0) (b := 0) (d' := (d + 2)) (As := []) dX7_look_4 kX7_30 rfl (shC hC (sgA isA82)) (by omega) rfl rfl rfl (Nat.le_of_ble_eq_true rfl) (Nat.le_of_ble_eq_true rfl) (T_X0_lay hC isA82 hS ok) (kk_ev (fun M1 hM2 => ?_))
  obtain ⟨sm3, ha4, -⟩ := hM2
  replace sm3 := (sm3.mo PSeL)
  refine j_aload_n 0 dX7_look_7 rfl ?_
  refine j_iconst 0 dX7_look_8 ic_0 ?_
  refine j_put dX7_look_9 fX7_18 (shC (Sm.C sm3 hC) sgC_96) rfl ?_
  have sm5 : Sm PSe M (jk_wI M1 96 4 0) := Sm.w sm3 (Or.inr (Or.inl rfl))
  refine j_iconst 0 dX7_look_12 ic_0 ?_
  refine j_istore_n (L' := [(3, .int 0), (0, .ref 96), (1, .ref b), (2, .int (nI n))]) dX7_look_13 (by decide) rfl ?_
  have lp8 : ∀ (k6 : Nat) (i : Nat) (M1 : jk_M), 80 - i < k6 → (i ≤ 80) → (Sm PSe M M1) → (AirOK 82 S M1) → (SeW M1 (fitN S (fun c => agS S (shTl M b) (nI c) n) i)) → J Fr_X7_look (d + 5) 0 0 14 [(0, .ref 96), (1, .ref b), (2, .int (nI n)), (3, .int (nI i))] [] M1 Q := by
    intro k6
    induction k6 with
    | zero => intro i M1 hk; exact absurd hk (Nat.not_lt_zero _)
    | succ k6 ih7 =>
      intro i M1 hk6 hi hs1 ha1 hw1
      refine j_iload_n 3 dX7_look_14 rfl ?_
      refine j_bipush 80 dX7_look_15 bp_80 ?_
      refine j_icmp_geN (tgt := 79) i 80 dX7_look_17 rfl (by omega) (by omega) (fun c9 => ?_) (fun c9 => ?_)
      · refine j_vret dX7_look_79 rfl ?_
        have e : i = 80 := by omega
        subst e
        exact hQ _ _ ⟨rfl, hs1, ha1, hw1⟩
      · have hlen := fitN_len (S := S) (A := fun c => agS S (shTl M b) (nI c) n) i
        refine j_aload_n 0 dX7_look_20 rfl ?_
        refine j_getv (nI (fitN S (fun c => agS S (shTl M b) (nI c) n) i).length) dX7_look_21 fX7_18 (shC (Sm.C hs1 hC) sgC_96) rfl hw1.1 ?_
        refine j_aload_n 0 dX7_look_24 rfl ?_
        refine j_getr (q := 97) dX7_look_25 fX7_9 (shC (Sm.C hs1 hC) sgC_96) rfl (rfC (Sm.C hs1 hC) rfC_96_2 (nz (by decide))) ?_
        refine j_alen dX7_look_28 (shC (Sm.C hs1 hC) sgC_97) (by decide) ?_
        refine j_icmp_geN (tgt := 79) ((fitN S (fun c => agS S (shTl M b) (nI c) n) i).length) 80 dX7_look_29 rfl (by omega) (by omega) (fun c10 => ?_) (fun c10 => ?_)
        · exact absurd c10 (by omega)
        · refine j_aload_n 0 dX7_look_32 rfl ?_
          refine j_getr (q := 1) dX7_look_33 fX7_22 (shC (Sm.C hs1 hC) sgC_96) rfl (rfC (Sm.C hs1 hC) rfC_96_0 (nz (by decide))) ?_
          refine j_iload_n 3 dX7_look_36 rfl ?_
          refine j_callV (kc := 0) (ks := 0) (a := 0) (b := 0) (d' := d) (As := [.int (nI i)]) dX7_look_37 kX7_35 rfl (shC (Sm.C hs1 hC) (sgH (by simp [isH]))) (by omega) rfl rfl rfl (Nat.le_of_ble_eq_true rfl) (Nat.le_of_ble_eq_true rfl) (T_X2_isCell (Sm.C hs1 hC) (by simp [isH]) (Sm.hv hs1 hS ok PSeH) ok (nI i)) (kk_p ?_)
          refine j_if_eqB (p := (isC S (nI i))) (tgt := 73) dX7_look_40 rfl (fun c11 => ?_) (fun c11 => ?_)
          · refine j_iinc 3 (nI (i + 1)) (L' := [(3, .int (nI (i + 1))), (0, .ref 96), (1, .ref b), (2, .int (nI n))]) dX7_look_73 rfl (inc1 i) (by decide) rfl ?_
            refine j_goto (tgt := 14) dX7_look_76 rfl ?_
            exact j_sub (jk_pick [1, 2, 3, 0] rfl) (ih7 (i + 1) M1 (by omega) (by omega) hs1 ha1 (by rw [fitN_f (S := S) (A := fun c => agS S (shTl M b) (nI c) n) (Or.inl c11)]; exact hw1))
          · refine j_aload_n 0 dX7_look_43 rfl ?_
            refine j_iload_n 3 dX7_look_44 rfl ?_
            refine j_aload_n 1 dX7_look_45 rfl ?_
            refine j_iload_n 2 dX7_look_46 rfl ?_
            refine j_callV (kc := 0) (ks := 0) (a := 0) (b := 0) (d' := (d + 4)) (As := [.int (nI i), .ref b, .int (nI n)]) dX7_look_47 kX7_41 rfl (shC (Sm.C hs1 hC) sgC_96) (by omega) rfl rfl rfl (Nat.le_of_ble_eq_true rfl) (Nat.le_of_ble_eq_true rfl) (T_X7_agrees (Sm.C hs1 hC) (Sm.hv hs1 hS ok PSeH) ok ha1 hb (nI i) n (by omega)) (kk_e (fun M12 hM13 => ?_))
            obtain ⟨h015, ha17⟩ := hM13
            have sm16 := Sm.tr hs1 (h015.mo PHu.PSe)
            have hw14 := hw1.sm h015 H6 H7
            refine j_topi (bI (agS S (shTl M b) (nI i) n)) (bI_c (agS_sm hs1 (PSeS hb))) ?_
            refine j_if_eqB (p := (agS S (shTl M b) (nI i) n)) (tgt := 73) dX7_look_50 rfl (fun c18 => ?_) (fun c18 => ?_)
            · refine j_iinc 3 (nI (i + 1)) (L' := [(3, .int (nI (i + 1))), (0, .ref 96), (1, .ref b), (2, .int (nI n))]) dX7_look_73 rfl (inc1 i) (by decide) rfl ?_
              refine j_goto (tgt := 14) dX7_look_76 rfl ?_
              exact j_sub (jk_pick [1, 2, 3, 0] rfl) (ih7 (i + 1) M12 (by omega) (by omega) sm16 ha17 (by rw [fitN_f (S := S) (A := fun c => agS S (shTl M b) (nI c) n) (Or.inr c18)]; exact hw14))
            · refine j_aload_n 0 dX7_look_53 rfl ?_
              refine j_getr (q := 97) dX7_look_54 fX7_9 (shC (Sm.C sm16 hC) sgC_96) rfl (rfC (Sm.C sm16 hC) rfC_96_2 (nz (by decide))) ?_
              refine j_aload_n 0 dX7_look_57 rfl ?_
              refine j_getv (nI (fitN S (fun c => agS S (shTl M b) (nI c) n) i).length) dX7_look_58 fX7_18 (shC (Sm.C sm16 hC) sgC_96) rfl hw14.1 ?_
              refine j_iload_n 3 dX7_look_61 rfl ?_
              refine j_iastN ((fitN S (fun c => agS S (shTl M b) (nI c) n) i).length) dX7_look_62 (shC (Sm.C sm16 hC) sgC_97) (by omega) (by omega) ?_
              have sm19 : Sm PSe M (jk_wI M12 97 ((fitN S (fun c => agS S (shTl M b) (nI c) n) i).length) (nI i)) := Sm.w sm16 (Or.inr (Or.inr (Or.inl rfl)))
              refine j_aload_n 0 dX7_look_63 rfl ?_
              refine j_dup dX7_look_64 rfl ?_
              refine j_getv (nI (fitN S (fun c => agS S (shTl M b) (nI c) n) i).length) dX7_look_65 fX7_18 (shC (Sm.C sm19 hC) sgC_96) rfl ((rd_o (by decide)).trans hw14.1) ?_
              refine j_iconst 1 dX7_look_68 ic_1 ?_
              refine j_iaddN ((fitN S (fun c => agS S (shTl M b) (nI c) n) i).length) 1 dX7_look_69 ?_
              refine j_put dX7_look_70 fX7_18 (shC (Sm.C sm19 hC) sgC_96) rfl ?_
              have sm20 : Sm PSe M (jk_wI (jk_wI M12 97 ((fitN S (fun c => agS S (shTl M b) (nI c) n) i).length) (nI i)) 96 4 (nI ((fitN S (fun c => agS S (shTl M b) (nI c) n) i).length + 1))) := Sm.w sm19 (Or.inr (Or.inl rfl))
              refine j_iinc 3 (nI (i + 1)) (L' := [(3, .int (nI (i + 1))), (0, .ref 96), (1, .ref b), (2, .int (nI n))]) dX7_look_73 rfl (inc1 i) (by decide) rfl ?_
              refine j_goto (tgt := 14) dX7_look_76 rfl ?_
              exact j_sub (jk_pick [1, 2, 3, 0] rfl) (ih7 (i + 1) (jk_wI (jk_wI M12 97 ((fitN S (fun c => agS S (shTl M b) (nI c) n) i).length) (nI i)) 96 4 (nI ((fitN S (fun c => agS S (shTl M b) (nI c) n) i).length + 1))) (by omega) (by omega) sm20 (ha17.sm (P := P97) ((Sm.rf.w (Or.inr rfl)).w (Or.inl rfl)) P97A) (by rw [fitN_t (S := S) (A := fun c => agS S (shTl M b) (nI c) n) c11 c18]; exact hw14.app))
  exact j_sub (jk_pick [1, 2, 3, 0] rfl) (lp8 _ 0 (jk_wI M1 96 4 0) (Nat.lt_succ_self _) (Nat.zero_le _) sm5 (ha4.sm (P := P97) (Sm.rf.w (Or.inl rfl)) P97A) ⟨rd_s, fun i hi => absurd hi (Nat.not_lt_zero i)⟩)
set_option maxRecDepth 20000 in
set_option maxHeartbeats 4000000 in
theorem T_X7_fitting {d : Nat} {M : jk_M} {l : List Nat} (hC : WC M) (hw : SeW M l) (h8 : l.length ≤ 80) (i : Nat) (hi : i < l.length) : J Fr_X7_fitting d 0 0 0 [(0, .ref 96), (1, .int (nI i))] [] M (jk_is (some (.int (nI (l.getD i 0)))) M) := by
  refine j_post (fun Q hQ => ?_)
  refine j_iload_n 1 dX7_fitting_0 rfl ?_
  refine j_if_ltN (tgt := 30) i dX7_fitting_1 (by omega) rfl ?_
  refine j_iload_n 1 dX7_fitting_4 rfl ?_
  refine j_aload_n 0 dX7_fitting_5 rfl ?_
  refine j_getv (nI l.length) dX7_fitting_6 fX7_18 (shC hC sgC_96) rfl hw.1 ?_
  refine j_icmp_geN (tgt := 30) i l.length dX7_fitting_9 rfl (by omega) (by omega) (fun c2 => ?_) (fun c2 => ?_)
  · exact absurd c2 (by omega)
  · refine j_iload_n 1 dX7_fitting_12 rfl ?_
    refine j_aload_n 0 dX7_fitting_13 rfl ?_
    refine j_getr (q := 97) dX7_fitting_14 fX7_9 (shC hC sgC_96) rfl (rfC hC rfC_96_2 (nz (by decide))) ?_
    refine j_alen dX7_fitting_17 (shC hC sgC_97) (by decide) ?_
    refine j_icmp_geN (tgt := 30) i 80 dX7_fitting_18 rfl (by omega) (by omega) (fun c3 => ?_) (fun c3 => ?_)
    · exact absurd c3 (by omega)
    · refine j_aload_n 0 dX7_fitting_21 rfl ?_
      refine j_getr (q := 97) dX7_fitting_22 fX7_9 (shC hC sgC_96) rfl (rfC hC rfC_96_2 (nz (by decide))) ?_
      refine j_iload_n 1 dX7_fitting_25 rfl ?_
      refine j_ialdN i dX7_fitting_26 (shC hC sgC_97) (by omega) (by omega) ?_
      refine j_topi (nI (l.getD i 0)) (hw.2 i hi) ?_
      refine j_goto (tgt := 31) dX7_fitting_27 rfl ?_
      refine j_iret dX7_fitting_31 rfl ?_
      exact hQ _ _ ⟨rfl, rfl⟩
set_option maxRecDepth 20000 in
set_option maxHeartbeats 4000000 in
theorem T_X7_fittingN {d : Nat} {M : jk_M} {l : List Nat} (hC : WC M) (hw : SeW M l) (h8 : l.length ≤ 80) (x : Int32) (hx : ¬ (0 ≤ x ∧ x < nI l.length)) : J Fr_X7_fitting d 0 0 0 [(0, .ref 96), (1, .int x)] [] M (jk_is (some (.int (-1))) M) := by
  refine j_post (fun Q hQ => ?_)
  refine j_iload_n 1 dX7_fitting_0 rfl ?_
  refine j_if_lt (tgt := 30) dX7_fitting_1 rfl (fun c1 => ?_) (fun c1 => ?_)
  · refine j_iconst (-1) dX7_fitting_30 ic_n1 ?_
    refine j_iret dX7_fitting_31 rfl ?_
    exact hQ _ _ ⟨rfl, rfl⟩
  · refine j_iload_n 1 dX7_fitting_4 rfl ?_
    refine j_aload_n 0 dX7_fitting_5 rfl ?_
    refine j_getv (nI l.length) dX7_fitting_6 fX7_18 (shC hC sgC_96) rfl hw.1 ?_
    refine j_icmp_ge (tgt := 30) dX7_fitting_9 rfl (fun c2 => ?_) (fun c2 => ?_)
    · refine j_iconst (-1) dX7_fitting_30 ic_n1 ?_
      refine j_iret dX7_fitting_31 rfl ?_
      exact hQ _ _ ⟨rfl, rfl⟩
    · exact absurd (show 0 ≤ x ∧ x < nI l.length by clear hQ; grind) hx
theorem Sm.rd {P : Nat → Prop} {M M1 : jk_M} {q j : Nat} (h : Sm P M M1) (hq : ¬ P q) : M1.2.1 q j = M.2.1 q j := by rw [h.2.2 q hq]
set_option maxRecDepth 20000 in
set_option maxHeartbeats 4000000 in
theorem T_X7_worstLeft {d : Nat} {M : jk_M} {S : HS} {l : List Nat} (hC : WC M) (hS : hv M.2.1 1 = S) (ok : Sok S) (ha : AirOK 82 S M) (hw : SeW M l) (h8 : l.length ≤ 80) (c : Int32) : J Fr_X7_worstLeft (d + 4) 0 0 0 [(0, .ref 96), (1, .int c)] [] M (jk_ex (some (.int (wlS S c l l.length).2)) (fun M1 => Sm P98 M M1 ∧ AirOK 82 S M1 ∧ SeW M1 l)) := by
  refine j_post (fun Q hQ => ?_)
  refine j_aload_n 0 dX7_worstLeft_0 rfl ?_
  refine j_getr (q := 98) dX7_worstLeft_1 fX7_15 (shC hC sgC_96) rfl (rfC hC rfC_96_3 (nz (by decide))) ?_
  refine j_iconst 0 dX7_worstLeft_4 ic_0 ?_
  refine j_callS (kc := 0) (ks := 0) (a := 0) (b := 0) (d' := d) (As := [.ref 98, .int 0]) dX7_worstLeft_5 kX7_61 rfl (by omega) rfl rfl rfl (Nat.le_of_ble_eq_true rfl) (Nat.le_of_ble_eq_true rfl) (T_J7_fill_53178 (n := 6) hC sgC_98 (by omega)) (kk_ev (fun M1 hM2 => ?_))
  obtain ⟨hz0, hzf⟩ := hM2
  have hz1 : Sm P98o M M1 := hz0.mo (fun q e => e)
  have hz2 : Sm P98 M M1 := hz0.mo (fun q e => Or.inr e)
  have hzw := hw.sm hz2 P98a P98b
  have hza := ha.sm hz1 P98oA
  refine j_iconst 0 dX7_worstLeft_8 ic_0 ?_
  refine j_istore_n (L' := [(2, .int 0), (0, .ref 96), (1, .int c)]) dX7_worstLeft_9 (by decide) rfl ?_
  refine j_iconst 0 dX7_worstLeft_10 ic_0 ?_
  refine j_istore_n (L' := [(3, .int 0), (2, .int 0), (0, .ref 96), (1, .int c)]) dX7_worstLeft_11 (by decide) rfl ?_
  have lp5 : ∀ (k3 : Nat) (i : Nat) (M1 : jk_M), l.length - i < k3 → (i ≤ l.length) → (Sm P98 M M1) → (AirOK 82 S M1) → (SeW M1 l) → (∀ j, j < 6 → M1.2.1 98 j = (wlS S c l i).1 j) → J Fr_X7_worstLeft (d + 4) 0 0 12 [(0, .ref 96), (1, .int c), (2, .int (wlS S c l i).2), (3, .int (nI i))] [] M1 Q := by
    intro k3
    induction k3 with
    | zero => intro i M1 hk; exact absurd hk (Nat.not_lt_zero _)
    | succ k3 ih4 =>
      intro i M1 hk3 hi hs1 ha1 hw1 hf1
      refine j_iload_n 3 dX7_worstLeft_12 rfl ?_
      refine j_aload_n 0 dX7_worstLeft_13 rfl ?_
      refine j_getv (nI l.length) dX7_worstLeft_14 fX7_18 (shC (Sm.C hs1 hC) sgC_96) rfl hw1.1 ?_
      refine j_icmp_geN (tgt := 82) i l.length dX7_worstLeft_17 rfl (by omega) (by omega) (fun c6 => ?_) (fun c6 => ?_)
      · refine j_iload_n 2 dX7_worstLeft_82 rfl ?_
        refine j_iret dX7_worstLeft_83 rfl ?_
        have e : i = l.length := by omega
        subst e
        exact hQ _ _ ⟨rfl, hs1, ha1, hw1⟩
      · refine j_aload_n 0 dX7_worstLeft_20 rfl ?_
        refine j_getr (q := 82) dX7_worstLeft_21 fX7_26 (shC (Sm.C hs1 hC) sgC_96) rfl (rfC (Sm.C hs1 hC) rfC_96_1 (nz (by decide))) ?_
        refine j_aload_n 0 dX7_worstLeft_24 rfl ?_
        refine j_iload_n 3 dX7_worstLeft_25 rfl ?_
        refine j_callV (kc := 0) (ks := 0) (a := 0) (b := 0) (d' := d) (As := [.int (nI i)]) dX7_worstLeft_26 kX7_67 rfl (shC (Sm.C hs1 hC) sgC_96) (by omega) rfl rfl rfl (Nat.le_of_ble_eq_true rfl) (Nat.le_of_ble_eq_true rfl) (T_X7_fitting (Sm.C hs1 hC) hw1 h8 i (by omega)) (kk_p ?_)
        refine j_iload_n 1 dX7_worstLeft_29 rfl ?_
        refine j_callV (kc := 0) (ks := 0) (a := 0) (b := 0) (d' := (d + 3)) (As := [.int (nI (l.getD i 0)), .int c]) dX7_worstLeft_30 kX7_51 rfl (shC (Sm.C hs1 hC) (sgA isA82)) (by omega) rfl rfl rfl (Nat.le_of_ble_eq_true rfl) (Nat.le_of_ble_eq_true rfl) (T_X0_strengthFrom (Sm.C hs1 hC) isA82 (Sm.hv hs1 hS ok P98H) ok ha1 (nI (l.getD i 0)) c) (kk_e (fun M7 hM8 => ?_))
        obtain ⟨h010, ha12⟩ := hM8
        have sm11 := Sm.tr hs1 (Sm.mo (P2 := P98) h010 (fun q e => Or.inl e))
        have hw9 := hw1.sm (P := PHu) h010 H6 H7
        have hf13 : ∀ j, j < 6 → M7.2.1 98 j = (wlS S c l i).1 j := fun j hj => by rw [Sm.rd (P := PHu) h010 H98]; exact hf1 j hj
        refine j_callSN (kc := 0) (ks := 0) (a := 0) (b := 0) (d' := d) (As := [.int (strS S (nI (l.getD i 0)) c)]) dX7_worstLeft_33 kX7_55 rfl (by omega) rfl rfl rfl (Nat.le_of_ble_eq_true rfl) (Nat.le_of_ble_eq_true rfl) (T_X10_barsBy (strS S (nI (l.getD i 0)) c)) (kk_p ?_)
        obtain ⟨k, -, hk5, ek⟩ := bars_in (strS_0 S (nI (l.getD i 0)) c)
        refine j_topi (nI k) ek ?_
        have hws := wl_s hk5 ek
        refine j_istore (L' := [(4, .int (nI k)), (0, .ref 96), (1, .int c), (2, .int (wlS S c l i).2), (3, .int (nI i))]) dX7_worstLeft_36 (by decide) rfl ?_
        refine j_iload 0 dX7_worstLeft_38 rfl ?_
        refine j_if_ltN (tgt := 76) k dX7_worstLeft_40 (by omega) rfl ?_
        refine j_iload 0 dX7_worstLeft_43 rfl ?_
        refine j_aload_n 1 dX7_worstLeft_45 rfl ?_
        refine j_getr (q := 98) dX7_worstLeft_46 fX7_15 (shC (Sm.C sm11 hC) sgC_96) rfl (rfC (Sm.C sm11 hC) rfC_96_3 (nz (by decide))) ?_
        refine j_alen dX7_worstLeft_49 (shC (Sm.C sm11 hC) sgC_98) (by decide) ?_
        refine j_icmp_geN (tgt := 76) k 6 dX7_worstLeft_50 rfl (by omega) (by omega) (fun c15 => ?_) (fun c15 => ?_)
        · exact absurd c15 (by omega)
        · refine j_aload_n 1 dX7_worstLeft_53 rfl ?_
          refine j_getr (q := 98) dX7_worstLeft_54 fX7_15 (shC (Sm.C sm11 hC) sgC_96) rfl (rfC (Sm.C sm11 hC) rfC_96_3 (nz (by decide))) ?_
          refine j_iload 0 dX7_worstLeft_57 rfl ?_
          refine j_dup2 dX7_worstLeft_59 rfl rfl ?_
          refine j_ialdN k dX7_worstLeft_60 (shC (Sm.C sm11 hC) sgC_98) (by omega) (by omega) ?_
          refine j_topi ((wlS S c l i).1 k) (hf13 k (by omega)) ?_
          refine j_iconst 1 dX7_worstLeft_61 ic_1 ?_
          refine j_iadd dX7_worstLeft_62 ?_
          refine j_iastN k dX7_worstLeft_63 (shC (Sm.C sm11 hC) sgC_98) (by omega) (by omega) ?_
          have sm16 : Sm P98 M (jk_wI M7 98 k (((wlS S c l i).1 k) + 1)) := Sm.w sm11 (Or.inr rfl)
          refine j_iload_n 3 dX7_worstLeft_64 rfl ?_
          refine j_aload_n 1 dX7_worstLeft_65 rfl ?_
          refine j_getr (q := 98) dX7_worstLeft_66 fX7_15 (shC (Sm.C sm16 hC) sgC_96) rfl (rfC (Sm.C sm16 hC) rfC_96_3 (nz (by decide))) ?_
          refine j_iload 0 dX7_worstLeft_69 rfl ?_
          refine j_ialdN k dX7_worstLeft_71 (shC (Sm.C sm16 hC) sgC_98) (by omega) (by omega) ?_
          refine j_topi ((wlS S c l i).1 k + 1) rd_s ?_
          refine j_max dX7_worstLeft_72 mX7_70 mt_max.1 mt_max.2.1 mt_max.2.2 (Nat.le_of_ble_eq_true rfl) ?_
          refine j_istore_n (L' := [(2, .int (if (wlS S c l i).2 < ((wlS S c l i).1 k + 1) then ((wlS S c l i).1 k + 1) else (wlS S c l i).2)), (4, .int (nI k)), (0, .ref 96), (1, .int c), (3, .int (nI i))]) dX7_worstLeft_75 (by decide) rfl ?_
          refine j_iinc 4 (nI (i + 1)) (L' := [(3, .int (nI (i + 1))), (2, .int (if (wlS S c l i).2 < ((wlS S c l i).1 k + 1) then ((wlS S c l i).1 k + 1) else (wlS S c l i).2)), (4, .int (nI k)), (0, .ref 96), (1, .int c)]) dX7_worstLeft_76 rfl (inc1 i) (by decide) rfl ?_
          refine j_goto (tgt := 12) dX7_worstLeft_79 rfl ?_
          have h1 : (if (wlS S c l i).2 < ((wlS S c l i).1 k + 1) then ((wlS S c l i).1 k + 1) else (wlS S c l i).2) = (wlS S c l (i + 1)).2 := by rw [hws]; rfl
          refine j_L (congrArg (fun z : Int32 => ([(3, .int (nI (i + 1))), (2, .int z), (4, .int (nI k)), (0, .ref 96), (1, .int c)] : List (Nat × Value))) h1) ?_
          exact j_sub (jk_pick [3, 4, 1, 0] rfl) (ih4 (i + 1) (jk_wI M7 98 k (((wlS S c l i).1 k) + 1)) (by omega) (by omega) sm16 (ha12.sm (P := P98o) (Sm.rf.w rfl) P98oA) (hw9.sm (P := P98o) (Sm.rf.w rfl) (fun e => by have e : 96 = 98 := e; omega) (fun e => by have e : 97 = 98 := e; omega)) (fun j hj => by
          rw [hws]
          show _ = va_up (wlS S c l i).1 k ((wlS S c l i).1 k + 1) j
          by_cases e : j = k
          · rw [e, rd_s, va_up_self]
          · rw [rd_k e, va_up_ne _ _ e]; exact hf13 j hj))
  exact j_sub (jk_pick [2, 3, 1, 0] rfl) (lp5 _ 0 M1 (Nat.lt_succ_self _) (Nat.zero_le _) hz2 hza hzw hzf)
set_option maxRecDepth 20000 in
set_option maxHeartbeats 4000000 in
theorem T_X7_bestMeasure {d : Nat} {M : jk_M} {S : HS} {l : List Nat} (hC : WC M) (hS : hv M.2.1 1 = S) (ok : Sok S) (ha : AirOK 82 S M) (hw : SeW M l) (h8 : l.length ≤ 80) : J Fr_X7_bestMeasure (d + 5) 0 0 0 [(0, .ref 96)] [] M (jk_ex (some (.int (bmS S l 80).1)) (fun M1 => Sm PSe M M1)) := by
  refine j_post (fun Q hQ => ?_)
  refine j_iconst 0 dX7_bestMeasure_0 ic_0 ?_
  refine j_istore_n (L' := [(1, .int 0), (0, .ref 96)]) dX7_bestMeasure_1 (by decide) rfl ?_
  refine j_aload_n 1 dX7_bestMeasure_2 rfl ?_
  refine j_getv (nI l.length) dX7_bestMeasure_3 fX7_18 (shC hC sgC_96) rfl hw.1 ?_
  refine j_iconst 1 dX7_bestMeasure_6 ic_1 ?_
  refine j_iaddN l.length 1 dX7_bestMeasure_7 ?_
  refine j_istore_n (L' := [(2, .int (nI (l.length + 1))), (1, .int 0), (0, .ref 96)]) dX7_bestMeasure_8 (by decide) rfl ?_
  refine j_iconst 0 dX7_bestMeasure_9 ic_0 ?_
  refine j_istore_n (L' := [(3, .int 0), (2, .int (nI (l.length + 1))), (1, .int 0), (0, .ref 96)]) dX7_bestMeasure_10 (by decide) rfl ?_
  have lp3 : ∀ (k1 : Nat) (i : Nat) (M1 : jk_M), 80 - i < k1 → (i ≤ 80) → (Sm PSe M M1) → (AirOK 82 S M1) → (SeW M1 l) → J Fr_X7_bestMeasure (d + 5) 0 0 11 [(0, .ref 96), (1, .int (bmS S l i).1), (2, .int (bmS S l i).2), (3, .int (nI i))] [] M1 Q := by
    intro k1
    induction k1 with
    | zero => intro i M1 hk; exact absurd hk (Nat.not_lt_zero _)
    | succ k1 ih2 =>
      intro i M1 hk1 hi hs1 ha1 hw1
      refine j_iload_n 3 dX7_bestMeasure_11 rfl ?_
      refine j_bipush 80 dX7_bestMeasure_12 bp_80 ?_
      refine j_icmp_geN (tgt := 52) i 80 dX7_bestMeasure_14 rfl (by omega) (by omega) (fun c4 => ?_) (fun c4 => ?_)
      · refine j_iload_n 1 dX7_bestMeasure_52 rfl ?_
        refine j_iret dX7_bestMeasure_53 rfl ?_
        have e : i = 80 := by omega
        subst e
        exact hQ _ _ ⟨rfl, hs1⟩
      · refine j_aload_n 0 dX7_bestMeasure_17 rfl ?_
        refine j_getr (q := 1) dX7_bestMeasure_18 fX7_22 (shC (Sm.C hs1 hC) sgC_96) rfl (rfC (Sm.C hs1 hC) rfC_96_0 (nz (by decide))) ?_
        refine j_iload_n 3 dX7_bestMeasure_21 rfl ?_
        refine j_callV (kc := 0) (ks := 0) (a := 0) (b := 0) (d' := d) (As := [.int (nI i)]) dX7_bestMeasure_22 kX7_35 rfl (shC (Sm.C hs1 hC) (sgH (by simp [isH]))) (by omega) rfl rfl rfl (Nat.le_of_ble_eq_true rfl) (Nat.le_of_ble_eq_true rfl) (T_X2_isCell (Sm.C hs1 hC) (by simp [isH]) (Sm.hv hs1 hS ok PSeH) ok (nI i)) (kk_p ?_)
        refine j_if_eqB (p := (isC S (nI i))) (tgt := 46) dX7_bestMeasure_25 rfl (fun c5 => ?_) (fun c5 => ?_)
        · refine j_iinc 3 (nI (i + 1)) (L' := [(3, .int (nI (i + 1))), (0, .ref 96), (1, .int (bmS S l i).1), (2, .int (bmS S l i).2)]) dX7_bestMeasure_46 rfl (inc1 i) (by decide) rfl ?_
          refine j_goto (tgt := 11) dX7_bestMeasure_49 rfl ?_
          have hb0 : bmS S l (i + 1) = _ := bmS_f (Or.inl c5)
          have h1 : (bmS S l i).1 = (bmS S l (i + 1)).1 := by rw [hb0]
          refine j_L (congrArg (fun z : Int32 => ([(3, .int (nI (i + 1))), (0, .ref 96), (1, .int z), (2, .int (bmS S l i).2)] : List (Nat × Value))) h1) ?_
          have h2 : (bmS S l i).2 = (bmS S l (i + 1)).2 := by rw [hb0]
          refine j_L (congrArg (fun z : Int32 => ([(3, .int (nI (i + 1))), (0, .ref 96), (1, .int (bmS S l (i + 1)).1), (2, .int z)] : List (Nat × Value))) h2) ?_
          exact j_sub (jk_pick [1, 2, 3, 0] rfl) (ih2 (i + 1) M1 (by omega) (by omega) hs1 ha1 hw1)
        · refine j_aload_n 0 dX7_bestMeasure_28 rfl ?_
          refine j_iload_n 3 dX7_bestMeasure_29 rfl ?_
          refine j_callV (kc := 0) (ks := 0) (a := 0) (b := 0) (d' := (d + 4)) (As := [.int (nI i)]) dX7_bestMeasure_30 kX7_58 rfl (shC (Sm.C hs1 hC) sgC_96) (by omega) rfl rfl rfl (Nat.le_of_ble_eq_true rfl) (Nat.le_of_ble_eq_true rfl) (T_X7_worstLeft (Sm.C hs1 hC) (Sm.hv hs1 hS ok PSeH) ok ha1 hw1 h8 (nI i)) (kk_e (fun M6 hM7 => ?_))
          obtain ⟨h09, ha11, hw8⟩ := hM7
          have sm10 := Sm.tr hs1 (Sm.mo (P2 := PSe) h09 P98S)
          refine j_istore (L' := [(4, .int (wlS S (nI i) l l.length).2), (0, .ref 96), (1, .int (bmS S l i).1), (2, .int (bmS S l i).2), (3, .int (nI i))]) dX7_bestMeasure_33 (by decide) rfl ?_
          refine j_iload 0 dX7_bestMeasure_35 rfl ?_
          refine j_iload_n 3 dX7_bestMeasure_37 rfl ?_
          refine j_icmp_ge (tgt := 46) dX7_bestMeasure_38 rfl (fun c12 => ?_) (fun c12 => ?_)
          · refine j_iinc 4 (nI (i + 1)) (L' := [(3, .int (nI (i + 1))), (4, .int (wlS S (nI i) l l.length).2), (0, .ref 96), (1, .int (bmS S l i).1), (2, .int (bmS S l i).2)]) dX7_bestMeasure_46 rfl (inc1 i) (by decide) rfl ?_
            refine j_goto (tgt := 11) dX7_bestMeasure_49 rfl ?_
            have hb0 : bmS S l (i + 1) = _ := bmS_f (Or.inr (Int32.not_lt.mpr c12))
            have h1 : (bmS S l i).1 = (bmS S l (i + 1)).1 := by rw [hb0]
            refine j_L (congrArg (fun z : Int32 => ([(3, .int (nI (i + 1))), (4, .int (wlS S (nI i) l l.length).2), (0, .ref 96), (1, .int z), (2, .int (bmS S l i).2)] : List (Nat × Value))) h1) ?_
            have h2 : (bmS S l i).2 = (bmS S l (i + 1)).2 := by rw [hb0]
            refine j_L (congrArg (fun z : Int32 => ([(3, .int (nI (i + 1))), (4, .int (wlS S (nI i) l l.length).2), (0, .ref 96), (1, .int (bmS S l (i + 1)).1), (2, .int z)] : List (Nat × Value))) h2) ?_
            exact j_sub (jk_pick [2, 3, 4, 0] rfl) (ih2 (i + 1) M6 (by omega) (by omega) sm10 ha11 hw8)
          · refine j_iload 0 dX7_bestMeasure_41 rfl ?_
            refine j_istore_n (L' := [(2, .int (wlS S (nI i) l l.length).2), (4, .int (wlS S (nI i) l l.length).2), (0, .ref 96), (1, .int (bmS S l i).1), (3, .int (nI i))]) dX7_bestMeasure_43 (by decide) rfl ?_
            refine j_iload_n 4 dX7_bestMeasure_44 rfl ?_
            refine j_istore_n (L' := [(1, .int (nI i)), (2, .int (wlS S (nI i) l l.length).2), (4, .int (wlS S (nI i) l l.length).2), (0, .ref 96), (3, .int (nI i))]) dX7_bestMeasure_45 (by decide) rfl ?_
            refine j_iinc 4 (nI (i + 1)) (L' := [(3, .int (nI (i + 1))), (1, .int (nI i)), (2, .int (wlS S (nI i) l l.length).2), (4, .int (wlS S (nI i) l l.length).2), (0, .ref 96)]) dX7_bestMeasure_46 rfl (inc1 i) (by decide) rfl ?_
            refine j_goto (tgt := 11) dX7_bestMeasure_49 rfl ?_
            have hb0 : bmS S l (i + 1) = _ := bmS_t c5 (Int32.not_le.mp c12)
            have h1 : (nI i) = (bmS S l (i + 1)).1 := by rw [hb0]
            refine j_L (congrArg (fun z : Int32 => ([(3, .int (nI (i + 1))), (1, .int z), (2, .int (wlS S (nI i) l l.length).2), (4, .int (wlS S (nI i) l l.length).2), (0, .ref 96)] : List (Nat × Value))) h1) ?_
            have h2 : (wlS S (nI i) l l.length).2 = (bmS S l (i + 1)).2 := by rw [hb0]
            refine j_L (congrArg (fun z : Int32 => ([(3, .int (nI (i + 1))), (1, .int (bmS S l (i + 1)).1), (2, .int z), (4, .int (wlS S (nI i) l l.length).2), (0, .ref 96)] : List (Nat × Value))) h2) ?_
            exact j_sub (jk_pick [4, 1, 2, 0] rfl) (ih2 (i + 1) M6 (by omega) (by omega) sm10 ha11 hw8)
  exact j_sub (jk_pick [3, 2, 1, 0] rfl) (lp3 _ 0 M (Nat.lt_succ_self _) (Nat.zero_le _) Sm.rf ha hw)
