/-! told rows -/
theorem j_if_leN {F : jk_F} {d kc ks pc : Nat} {L : List (Nat × Value)} {st : List Value} {M : jk_M} {Q : Option Value → jk_M → Prop} {off : Int} {tgt : Nat} (a : Nat) (hdg : decode F.2.1 pc = .ok (.ifCond .le off, 3)) (ha : a < 2 ^ 31) (ht : (pc : Int) + off = (tgt : Int)) (kt : a = 0 → J F d kc ks tgt L st M Q) (kf : 0 < a → J F d kc ks (pc + 3) L st M Q) : J F d kc ks pc L (.int (nI a) :: st) M Q := by
  have e0 : (0 : Int32) = nI 0 := by decide
  exact j_if_le hdg ht (fun h => kt (by rw [e0, nI_leI ha (by decide)] at h; omega)) (fun h => kf (by rw [e0, nI_leI ha (by decide)] at h; omega))
theorem j_if_gtN {F : jk_F} {d kc ks pc : Nat} {L : List (Nat × Value)} {st : List Value} {M : jk_M} {Q : Option Value → jk_M → Prop} {off : Int} {tgt : Nat} (a : Nat) (hdg : decode F.2.1 pc = .ok (.ifCond .gt off, 3)) (ha : a < 2 ^ 31) (ht : (pc : Int) + off = (tgt : Int)) (kt : 0 < a → J F d kc ks tgt L st M Q) (kf : a = 0 → J F d kc ks (pc + 3) L st M Q) : J F d kc ks pc L (.int (nI a) :: st) M Q := by
  have e0 : (0 : Int32) = nI 0 := by decide
  exact j_if_gt hdg ht (fun h => kt (by rw [e0, nI_ltI (by decide) ha] at h; exact h)) (fun h => kf (by rw [e0, nI_ltI (by decide) ha] at h; omega))
noncomputable def prS (S : HS) (tl : Int32 → Int32) (n : Nat) : Int32 := @ite _ (∀ i, i < n → isC S (tl (nI (2 * i))) ∧ mayS S 12 (tl (nI (2 * i + 1)))) (Classical.propDecidable _) 0 (-6)
theorem prS_y {S : HS} {tl : Int32 → Int32} {n : Nat} (h : ∀ i, i < n → isC S (tl (nI (2 * i))) ∧ mayS S 12 (tl (nI (2 * i + 1)))) : prS S tl n = 0 := @if_pos _ (Classical.propDecidable _) h _ _ _
theorem prS_n {S : HS} {tl : Int32 → Int32} {n : Nat} (h : ¬ ∀ i, i < n → isC S (tl (nI (2 * i))) ∧ mayS S 12 (tl (nI (2 * i + 1)))) : prS S tl n = -6 := @if_neg _ (Classical.propDecidable _) h _ _ _
def badS (S : HS) (tl : Int32 → Int32) (i : Nat) : Prop := ¬ isC S (tl (nI i)) ∨ (0 < i ∧ 1 < sfar (tl (nI (i - 1))) (tl (nI i)))
noncomputable def fwN (S : HS) (tl : Int32 → Int32) : Nat → Option Nat
  | 0 => none
  | k + 1 => match fwN S tl k with
    | some i => some i
    | none => @ite _ (badS S tl k) (Classical.propDecidable _) (some k) none
noncomputable def fwS (S : HS) (tl : Int32 → Int32) (n : Nat) : Int32 := match fwN S tl n with
  | some i => nI i
  | none => -1
theorem fw_y {S : HS} {tl : Int32 → Int32} {k : Nat} (h : fwN S tl k = none) (b : badS S tl k) : fwN S tl (k + 1) = some k := by simp only [fwN, h]; exact @if_pos _ (Classical.propDecidable _) b _ _ _
theorem fw_n {S : HS} {tl : Int32 → Int32} {k : Nat} (h : fwN S tl k = none) (b : ¬ badS S tl k) : fwN S tl (k + 1) = none := by simp only [fwN, h]; exact @if_neg _ (Classical.propDecidable _) b _ _ _
theorem fw_st {S : HS} {tl : Int32 → Int32} {i k : Nat} (h : fwN S tl i = some k) : ∀ j, fwN S tl (i + j) = some k
  | 0 => h
  | j + 1 => by
    show (match fwN S tl (i + j) with | some i => some i | none => _) = _
    rw [fw_st h j]
noncomputable def hpS (S : HS) (tl : Int32 → Int32) (rule : Int32) : Nat → Int32 × Int32
  | 0 => (0, 0)
  | i + 1 => (clgS S (hpS S tl rule i).1 (tl (nI i)) rule, if clgS S (hpS S tl rule i).1 (tl (nI i)) rule = (hpS S tl rule i).1 then (hpS S tl rule i).2 else (hpS S tl rule i).2 + 1)
noncomputable def cmS (S : HS) (tl : Int32 → Int32) (n : Nat) : Nat → Int32 × Int32
  | 0 => (0, (hpS S tl 0 n).2)
  | k + 1 => if (hpS S tl (nI (k + 1)) n).2 ≤ (cmS S tl n k).2 then (nI (k + 1), (hpS S tl (nI (k + 1)) n).2) else cmS S tl n k
theorem cm_s {S : HS} {tl : Int32 → Int32} {n k : Nat} : cmS S tl n (k + 1) = if (hpS S tl (nI (k + 1)) n).2 ≤ (cmS S tl n k).2 then (nI (k + 1), (hpS S tl (nI (k + 1)) n).2) else cmS S tl n k := rfl
theorem hp_s {S : HS} {tl : Int32 → Int32} {rule : Int32} {i : Nat} : hpS S tl rule (i + 1) = (clgS S (hpS S tl rule i).1 (tl (nI i)) rule, if clgS S (hpS S tl rule i).1 (tl (nI i)) rule = (hpS S tl rule i).1 then (hpS S tl rule i).2 else (hpS S tl rule i).2 + 1) := rfl
set_option maxRecDepth 20000 in
set_option maxHeartbeats 4000000 in
theorem T_pairsRefusal0 {d : Nat} {M : jk_M} {b : Nat} {S : HS} (hC : WC M) (hb : isS b) (hS : hv M.2.1 1 = S) (ok : Sok S) (n : Int32) (h : ¬ tdM M b n 2 = 0) : J Fr_X10_pairsRefusal (d + 3) 0 0 0 [(0, .ref 0), (1, .ref b), (2, .int n)] [] M (jk_is (some (.int (tdM M b n 2))) M) := by
  refine j_post (fun Q hQ => ?_)
  refine j_aload_n 1 dX10_pairsRefusal_0 rfl ?_
  refine j_iload_n 2 dX10_pairsRefusal_1 rfl ?_
  refine j_iconst 2 dX10_pairsRefusal_2 ic_2 ?_
  refine j_callS (kc := 0) (ks := 0) (a := 0) (b := 0) (d' := (d + 2)) (As := [.ref b, .int n, .int 2]) dX10_pairsRefusal_3 kX10_330 rfl (by omega) rfl rfl rfl (Nat.le_of_ble_eq_true rfl) (Nat.le_of_ble_eq_true rfl) (T_X10_toldRefusal hC hb n 2) (kk_p ?_)
  refine j_istore_n (L' := [(3, .int (tdM M b n 2)), (0, .ref 0), (1, .ref b), (2, .int n)]) dX10_pairsRefusal_6 (by decide) rfl ?_
  refine j_iload_n 0 dX10_pairsRefusal_7 rfl ?_
  refine j_if_ne (tgt := 15) dX10_pairsRefusal_8 rfl (fun c1 => ?_) (fun c1 => ?_)
  · refine j_iload_n 0 dX10_pairsRefusal_15 rfl ?_
    refine j_iret dX10_pairsRefusal_16 rfl ?_
    exact hQ _ _ ⟨rfl, rfl⟩
  · exact absurd c1 h
set_option maxRecDepth 20000 in
set_option maxHeartbeats 4000000 in
theorem T_pairsRefusal1 {d : Nat} {M : jk_M} {b : Nat} {S : HS} (hC : WC M) (hb : isS b) (hS : hv M.2.1 1 = S) (ok : Sok S) (n : Nat) (hn : n ≤ 40) (h : tdM M b (nI n) 2 = 0) : J Fr_X10_pairsRefusal (d + 3) 0 0 0 [(0, .ref 0), (1, .ref b), (2, .int (nI n))] [] M (jk_is (some (.int (prS S (shTl M b) n))) M) := by
  refine j_post (fun Q hQ => ?_)
  refine j_aload_n 1 dX10_pairsRefusal_0 rfl ?_
  refine j_iload_n 2 dX10_pairsRefusal_1 rfl ?_
  refine j_iconst 2 dX10_pairsRefusal_2 ic_2 ?_
  refine j_callS (kc := 0) (ks := 0) (a := 0) (b := 0) (d' := (d + 2)) (As := [.ref b, .int (nI n), .int 2]) dX10_pairsRefusal_3 kX10_330 rfl (by omega) rfl rfl rfl (Nat.le_of_ble_eq_true rfl) (Nat.le_of_ble_eq_true rfl) (T_X10_toldRefusal hC hb (nI n) 2) (kk_p ?_)
  refine j_istore_n (L' := [(3, .int (tdM M b (nI n) 2)), (0, .ref 0), (1, .ref b), (2, .int (nI n))]) dX10_pairsRefusal_6 (by decide) rfl ?_
  refine j_iload_n 0 dX10_pairsRefusal_7 rfl ?_
  refine j_if_ne (tgt := 15) dX10_pairsRefusal_8 rfl (fun c1 => ?_) (fun c1 => ?_)
  · exact absurd h c1
  · refine j_aload_n 2 dX10_pairsRefusal_11 rfl ?_
    refine j_ifnonnull (tgt := 17) dX10_pairsRefusal_12 rfl ?_
    refine j_iconst 0 dX10_pairsRefusal_17 ic_0 ?_
    refine j_istore (L' := [(4, .int 0), (3, .int (tdM M b (nI n) 2)), (0, .ref 0), (1, .ref b), (2, .int (nI n))]) dX10_pairsRefusal_18 (by decide) rfl ?_
    have lp4 : ∀ (k2 : Nat) (i : Nat), n - i < k2 → (i ≤ n) → (∀ j, j < i → isC S (shTl M b (nI (2 * j))) ∧ mayS S 12 (shTl M b (nI (2 * j + 1)))) → J Fr_X10_pairsRefusal (d + 3) 0 0 20 [(0, .ref 0), (1, .ref b), (2, .int (nI n)), (3, .int (tdM M b (nI n) 2)), (4, .int (nI i))] [] M Q := by
      intro k2
      induction k2 with
      | zero => intro i hk; exact absurd hk (Nat.not_lt_zero _)
      | succ k2 ih3 =>
        intro i hk2 hi hg
        refine j_iload 4 dX10_pairsRefusal_20 rfl ?_
        refine j_iload_n 2 dX10_pairsRefusal_22 rfl ?_
        refine j_icmp_geN (tgt := 75) i n dX10_pairsRefusal_23 rfl (by omega) (by omega) (fun c5 => ?_) (fun c5 => ?_)
        · refine j_iconst 0 dX10_pairsRefusal_75 ic_0 ?_
          refine j_iret dX10_pairsRefusal_76 rfl ?_
          exact hQ _ _ ⟨by rw [prS_y (fun j hj => hg j (by omega))], rfl⟩
        · refine j_aload_n 0 dX10_pairsRefusal_26 rfl ?_
          refine j_getr (q := 1) dX10_pairsRefusal_27 fX10_10 (shC hC sgC_0) rfl (rfC hC rfC_0_0 (nz (by decide))) ?_
          refine j_aload_n 1 dX10_pairsRefusal_30 rfl ?_
          refine j_iconst 2 dX10_pairsRefusal_31 ic_2 ?_
          refine j_iload 4 dX10_pairsRefusal_32 rfl ?_
          refine j_imulN 2 i dX10_pairsRefusal_34 ?_
          refine j_callV (kc := 0) (ks := 0) (a := 0) (b := 0) (d' := (d + 1)) (As := [.int (nI (2 * i))]) dX10_pairsRefusal_35 kX10_373 rfl (shC hC (sgG hb)) (by omega) rfl rfl rfl (Nat.le_of_ble_eq_true rfl) (Nat.le_of_ble_eq_true rfl) (T_X8_tells hC hb (nI (2 * i))) (kk_p ?_)
          refine j_callV (kc := 0) (ks := 0) (a := 0) (b := 0) (d' := d) (As := [.int (shTl M b (nI (2 * i)))]) dX10_pairsRefusal_38 kX10_178 rfl (shC hC (sgH (by simp [isH]))) (by omega) rfl rfl rfl (Nat.le_of_ble_eq_true rfl) (Nat.le_of_ble_eq_true rfl) (T_X2_isCell hC (by simp [isH]) hS ok (shTl M b (nI (2 * i)))) (kk_p ?_)
          refine j_if_eqB (p := (isC S (shTl M b (nI (2 * i))))) (tgt := 66) dX10_pairsRefusal_41 rfl (fun c6 => ?_) (fun c6 => ?_)
          · refine j_bipush (-6) dX10_pairsRefusal_66 bp_n6 ?_
            refine j_iret dX10_pairsRefusal_68 rfl ?_
            exact hQ _ _ ⟨by rw [prS_n (fun z => c6 (z i (by omega)).1)], rfl⟩
          · refine j_aload_n 0 dX10_pairsRefusal_44 rfl ?_
            refine j_getr (q := 1) dX10_pairsRefusal_45 fX10_10 (shC hC sgC_0) rfl (rfC hC rfC_0_0 (nz (by decide))) ?_
            refine j_bipush 12 dX10_pairsRefusal_48 bp_12 ?_
            refine j_aload_n 1 dX10_pairsRefusal_50 rfl ?_
            refine j_iconst 2 dX10_pairsRefusal_51 ic_2 ?_
            refine j_iload 4 dX10_pairsRefusal_52 rfl ?_
            refine j_imulN 2 i dX10_pairsRefusal_54 ?_
            refine j_iconst 1 dX10_pairsRefusal_55 ic_1 ?_
            refine j_iaddN (2 * i) 1 dX10_pairsRefusal_56 ?_
            refine j_callV (kc := 0) (ks := 0) (a := 0) (b := 0) (d' := (d + 1)) (As := [.int (nI ((2 * i) + 1))]) dX10_pairsRefusal_57 kX10_373 rfl (shC hC (sgG hb)) (by omega) rfl rfl rfl (Nat.le_of_ble_eq_true rfl) (Nat.le_of_ble_eq_true rfl) (T_X8_tells hC hb (nI ((2 * i) + 1))) (kk_p ?_)
            refine j_callV (kc := 0) (ks := 0) (a := 0) (b := 0) (d' := (d + 1)) (As := [.int 12, .int (shTl M b (nI ((2 * i) + 1)))]) dX10_pairsRefusal_60 kX10_150 rfl (shC hC (sgH (by simp [isH]))) (by omega) rfl rfl rfl (Nat.le_of_ble_eq_true rfl) (Nat.le_of_ble_eq_true rfl) (T_X2_may hC (by simp [isH]) hS ok 12 (shTl M b (nI ((2 * i) + 1)))) (kk_p ?_)
            refine j_if_neB (p := (mayS S 12 (shTl M b (nI ((2 * i) + 1))))) (tgt := 69) dX10_pairsRefusal_63 rfl (fun c7 => ?_) (fun c7 => ?_)
            · refine j_iinc 4 (nI (i + 1)) (L' := [(4, .int (nI (i + 1))), (0, .ref 0), (1, .ref b), (2, .int (nI n)), (3, .int (tdM M b (nI n) 2))]) dX10_pairsRefusal_69 rfl (inc1 i) (by decide) rfl ?_
              refine j_goto (tgt := 20) dX10_pairsRefusal_72 rfl ?_
              exact j_sub (jk_pick [1, 2, 3, 4, 0] rfl) (ih3 (i + 1) (by omega) (by omega) (fun j hj => (Nat.lt_succ_iff_lt_or_eq.mp hj).elim (hg j) (fun e => by rw [e]; exact ⟨c6, c7⟩)))
            · refine j_bipush (-6) dX10_pairsRefusal_66 bp_n6 ?_
              refine j_iret dX10_pairsRefusal_68 rfl ?_
              exact hQ _ _ ⟨by rw [prS_n (fun z => c7 (z i (by omega)).2)], rfl⟩
    exact j_sub (jk_pick [2, 3, 4, 1, 0] rfl) (lp4 _ 0 (Nat.lt_succ_self _) (by omega) (fun j hj => absurd hj (Nat.not_lt_zero j)))
set_option maxRecDepth 20000 in
set_option maxHeartbeats 4000000 in
theorem T_pairsRefusalN {d : Nat} {M : jk_M} {S : HS} (n : Int32) : J Fr_X10_pairsRefusal (d + 3) 0 0 0 [(0, .ref 0), (1, .null), (2, .int n)] [] M (jk_is (some (.int (-1))) M) := by
  refine j_post (fun Q hQ => ?_)
  refine j_aload_nN 1 dX10_pairsRefusal_0 rfl ?_
  refine j_iload_n 2 dX10_pairsRefusal_1 rfl ?_
  refine j_iconst 2 dX10_pairsRefusal_2 ic_2 ?_
  refine j_callS (kc := 0) (ks := 0) (a := 0) (b := 0) (d' := (d + 2)) (As := [.null, .int n, .int 2]) dX10_pairsRefusal_3 kX10_330 rfl (by omega) rfl rfl rfl (Nat.le_of_ble_eq_true rfl) (Nat.le_of_ble_eq_true rfl) (T_toldRefusalN n 2) (kk_p ?_)
  refine j_istore_n (L' := [(3, .int (-1)), (0, .ref 0), (1, .null), (2, .int n)]) dX10_pairsRefusal_6 (by decide) rfl ?_
  refine j_iload_n 0 dX10_pairsRefusal_7 rfl ?_
  refine j_if_ne (tgt := 15) dX10_pairsRefusal_8 rfl (fun c1 => ?_) (fun c1 => ?_)
  · refine j_iload_n 0 dX10_pairsRefusal_15 rfl ?_
    refine j_iret dX10_pairsRefusal_16 rfl ?_
    exact hQ _ _ ⟨rfl, rfl⟩
  · exact absurd c1 (by decide)
set_option maxRecDepth 20000 in
set_option maxHeartbeats 4000000 in
theorem T_X10_firstWrong {d : Nat} {M : jk_M} {b : Nat} {S : HS} (hC : WC M) (hb : isS b) (hS : hv M.2.1 1 = S) (ok : Sok S) (n : Nat) (hn : n ≤ 40) : J Fr_X10_firstWrong (d + 2) 0 0 0 [(0, .ref 0), (1, .ref b), (2, .int (nI n))] [] M (jk_is (some (.int (fwS S (shTl M b) n))) M) := by
  refine j_post (fun Q hQ => ?_)
  refine j_aload_n 1 dX10_firstWrong_0 rfl ?_
  refine j_ifnonnull (tgt := 6) dX10_firstWrong_1 rfl ?_
  refine j_iconst 0 dX10_firstWrong_6 ic_0 ?_
  refine j_istore_n (L' := [(3, .int 0), (0, .ref 0), (1, .ref b), (2, .int (nI n))]) dX10_firstWrong_7 (by decide) rfl ?_
  have lp3 : ∀ (k1 : Nat) (i : Nat), n - i < k1 → (i ≤ n) → (fwN S (shTl M b) i = none) → J Fr_X10_firstWrong (d + 2) 0 0 8 [(0, .ref 0), (1, .ref b), (2, .int (nI n)), (3, .int (nI i))] [] M Q := by
    intro k1
    induction k1 with
    | zero => intro i hk; exact absurd hk (Nat.not_lt_zero _)
    | succ k1 ih2 =>
      intro i hk1 hi hf
      refine j_iload_n 3 dX10_firstWrong_8 rfl ?_
      refine j_iload_n 2 dX10_firstWrong_9 rfl ?_
      refine j_icmp_geN (tgt := 60) i n dX10_firstWrong_10 rfl (by omega) (by omega) (fun c4 => ?_) (fun c4 => ?_)
      · refine j_iconst (-1) dX10_firstWrong_60 ic_n1 ?_
        refine j_iret dX10_firstWrong_61 rfl ?_
        have e : i = n := by omega
        subst e
        exact hQ _ _ ⟨by simp only [fwS, hf], rfl⟩
      · refine j_aload_n 1 dX10_firstWrong_13 rfl ?_
        refine j_iload_n 3 dX10_firstWrong_14 rfl ?_
        refine j_callV (kc := 0) (ks := 0) (a := 0) (b := 0) (d' := (d + 1)) (As := [.int (nI i)]) dX10_firstWrong_15 kX10_373 rfl (shC hC (sgG hb)) (by omega) rfl rfl rfl (Nat.le_of_ble_eq_true rfl) (Nat.le_of_ble_eq_true rfl) (T_X8_tells hC hb (nI i)) (kk_p ?_)
        refine j_istore (L' := [(4, .int (shTl M b (nI i))), (0, .ref 0), (1, .ref b), (2, .int (nI n)), (3, .int (nI i))]) dX10_firstWrong_18 (by decide) rfl ?_
        refine j_aload_n 1 dX10_firstWrong_20 rfl ?_
        refine j_getr (q := 1) dX10_firstWrong_21 fX10_10 (shC hC sgC_0) rfl (rfC hC rfC_0_0 (nz (by decide))) ?_
        refine j_iload 0 dX10_firstWrong_24 rfl ?_
        refine j_callV (kc := 0) (ks := 0) (a := 0) (b := 0) (d' := d) (As := [.int (shTl M b (nI i))]) dX10_firstWrong_26 kX10_178 rfl (shC hC (sgH (by simp [isH]))) (by omega) rfl rfl rfl (Nat.le_of_ble_eq_true rfl) (Nat.le_of_ble_eq_true rfl) (T_X2_isCell hC (by simp [isH]) hS ok (shTl M b (nI i))) (kk_p ?_)
        refine j_if_eqB (p := (isC S (shTl M b (nI i)))) (tgt := 52) dX10_firstWrong_29 rfl (fun c5 => ?_) (fun c5 => ?_)
        · refine j_iload_n 4 dX10_firstWrong_52 rfl ?_
          refine j_iret dX10_firstWrong_53 rfl ?_
          have hx := fw_st (fw_y hf (Or.inl c5)) (n - (i + 1))
          rw [show i + 1 + (n - (i + 1)) = n by omega] at hx
          exact hQ _ _ ⟨by simp only [fwS, hx], rfl⟩
        · refine j_iload_n 4 dX10_firstWrong_32 rfl ?_
          refine j_if_leN (tgt := 54) i dX10_firstWrong_33 (by omega) rfl (fun c6 => ?_) (fun c6 => ?_)
          · refine j_iinc 4 (nI (i + 1)) (L' := [(3, .int (nI (i + 1))), (4, .int (shTl M b (nI i))), (0, .ref 0), (1, .ref b), (2, .int (nI n))]) dX10_firstWrong_54 rfl (inc1 i) (by decide) rfl ?_
            refine j_goto (tgt := 8) dX10_firstWrong_57 rfl ?_
            exact j_sub (jk_pick [2, 3, 4, 0] rfl) (ih2 (i + 1) (by omega) (by omega) (fw_n hf (fun z => z.elim (fun y => y c5) (fun z => by have := z.1; omega))))
          · refine j_aload_n 2 dX10_firstWrong_36 rfl ?_
            refine j_iload_n 4 dX10_firstWrong_37 rfl ?_
            refine j_iconst 1 dX10_firstWrong_38 ic_1 ?_
            refine j_isubN i 1 dX10_firstWrong_39 (by omega) ?_
            refine j_callV (kc := 0) (ks := 0) (a := 0) (b := 0) (d' := (d + 1)) (As := [.int (nI (i - 1))]) dX10_firstWrong_40 kX10_373 rfl (shC hC (sgG hb)) (by omega) rfl rfl rfl (Nat.le_of_ble_eq_true rfl) (Nat.le_of_ble_eq_true rfl) (T_X8_tells hC hb (nI (i - 1))) (kk_p ?_)
            refine j_iload 0 dX10_firstWrong_43 rfl ?_
            refine j_callS (kc := 0) (ks := 0) (a := 0) (b := 0) (d' := d) (As := [.int (shTl M b (nI (i - 1))), .int (shTl M b (nI i))]) dX10_firstWrong_45 kX10_258 rfl (by omega) rfl rfl rfl (Nat.le_of_ble_eq_true rfl) (Nat.le_of_ble_eq_true rfl) (T_X10_stepsFar (shTl M b (nI (i - 1))) (shTl M b (nI i))) (kk_p ?_)
            refine j_iconst 1 dX10_firstWrong_48 ic_1 ?_
            refine j_icmp_le (tgt := 54) dX10_firstWrong_49 rfl (fun c7 => ?_) (fun c7 => ?_)
            · refine j_iinc 4 (nI (i + 1)) (L' := [(3, .int (nI (i + 1))), (4, .int (shTl M b (nI i))), (0, .ref 0), (1, .ref b), (2, .int (nI n))]) dX10_firstWrong_54 rfl (inc1 i) (by decide) rfl ?_
              refine j_goto (tgt := 8) dX10_firstWrong_57 rfl ?_
              exact j_sub (jk_pick [2, 3, 4, 0] rfl) (ih2 (i + 1) (by omega) (by omega) (fw_n hf (fun z => z.elim (fun y => y c5) (fun z => Int32.not_lt.mpr c7 z.2))))
            · refine j_iload_n 4 dX10_firstWrong_52 rfl ?_
              refine j_iret dX10_firstWrong_53 rfl ?_
              have hx := fw_st (fw_y hf (Or.inr ⟨by omega, Int32.not_le.mp c7⟩)) (n - (i + 1))
              rw [show i + 1 + (n - (i + 1)) = n by omega] at hx
              exact hQ _ _ ⟨by simp only [fwS, hx], rfl⟩
  exact j_sub (jk_pick [1, 2, 3, 0] rfl) (lp3 _ 0 (Nat.lt_succ_self _) (by omega) rfl)
set_option maxRecDepth 20000 in
set_option maxHeartbeats 4000000 in
theorem T_firstWrongN {d : Nat} {M : jk_M} (n : Int32) : J Fr_X10_firstWrong (d + 2) 0 0 0 [(0, .ref 0), (1, .null), (2, .int n)] [] M (jk_is (some (.int (-1))) M) := by
  refine j_post (fun Q hQ => ?_)
  refine j_aload_nN 1 dX10_firstWrong_0 rfl ?_
  refine j_ifnonnullN dX10_firstWrong_1 ?_
  refine j_iconst (-1) dX10_firstWrong_4 ic_n1 ?_
  refine j_iret dX10_firstWrong_5 rfl ?_
  exact hQ _ _ ⟨rfl, rfl⟩
set_option maxRecDepth 20000 in
set_option maxHeartbeats 4000000 in
theorem T_X10_hopsOf {d : Nat} {M : jk_M} {b : Nat} {S : HS} (hC : WC M) (hb : isS b) (hS : hv M.2.1 1 = S) (ok : Sok S) (ha : AirOK 82 S M) (n : Nat) (hn : n ≤ 40) (r : Int32) : J Fr_X10_hopsOf (d + 5) 0 0 0 [(0, .ref 0), (1, .ref b), (2, .int (nI n)), (3, .int r)] [] M (jk_ex (some (.int (hpS S (shTl M b) r n).2)) (fun M1 => Sm PHu M M1 ∧ AirOK 82 S M1)) := by
  refine j_post (fun Q hQ => ?_)
  refine j_aload_n 1 dX10_hopsOf_0 rfl ?_
  refine j_ifnonnull (tgt := 6) dX10_hopsOf_1 rfl ?_
  refine j_iconst 0 dX10_hopsOf_6 ic_0 ?_
  refine j_istore (L' := [(4, .int 0), (0, .ref 0), (1, .ref b), (2, .int (nI n)), (3, .int r)]) dX10_hopsOf_7 (by decide) rfl ?_
  refine j_iconst 0 dX10_hopsOf_9 ic_0 ?_
  refine j_istore (L' := [(5, .int 0), (4, .int 0), (0, .ref 0), (1, .ref b), (2, .int (nI n)), (3, .int r)]) dX10_hopsOf_10 (by decide) rfl ?_
  refine j_iconst 0 dX10_hopsOf_12 ic_0 ?_
  refine j_istore (L' := [(6, .int 0), (5, .int 0), (4, .int 0), (0, .ref 0), (1, .ref b), (2, .int (nI n)), (3, .int r)]) dX10_hopsOf_13 (by decide) rfl ?_
  have lp3 : ∀ (k1 : Nat) (i : Nat) (M1 : jk_M), n - i < k1 → (i ≤ n) → (Sm PHu M M1) → (AirOK 82 S M1) → J Fr_X10_hopsOf (d + 5) 0 0 15 [(0, .ref 0), (1, .ref b), (2, .int (nI n)), (3, .int r), (4, .int (hpS S (shTl M b) r i).1), (5, .int (hpS S (shTl M b) r i).2), (6, .int (nI i))] [] M1 Q := by
    intro k1
    induction k1 with
    | zero => intro i M1 hk; exact absurd hk (Nat.not_lt_zero _)
    | succ k1 ih2 =>
      intro i M1 hk1 hi hs1 ha1
      refine j_iload 6 dX10_hopsOf_15 rfl ?_
      refine j_iload_n 2 dX10_hopsOf_17 rfl ?_
      refine j_icmp_geN (tgt := 59) i n dX10_hopsOf_18 rfl (by omega) (by omega) (fun c4 => ?_) (fun c4 => ?_)
      · refine j_iload 5 dX10_hopsOf_59 rfl ?_
        refine j_iret dX10_hopsOf_61 rfl ?_
        have e : i = n := by omega
        subst e
        exact hQ _ _ ⟨rfl, hs1, ha1⟩
      · refine j_aload_n 0 dX10_hopsOf_21 rfl ?_
        refine j_getr (q := 82) dX10_hopsOf_22 fX10_27 (shC (Sm.C hs1 hC) sgC_0) rfl (rfC (Sm.C hs1 hC) rfC_0_3 (nz (by decide))) ?_
        refine j_iload 4 dX10_hopsOf_25 rfl ?_
        refine j_aload_n 1 dX10_hopsOf_27 rfl ?_
        refine j_iload 6 dX10_hopsOf_28 rfl ?_
        refine j_callV (kc := 0) (ks := 0) (a := 0) (b := 0) (d' := (d + 1)) (As := [.int (nI i)]) dX10_hopsOf_30 kX10_373 rfl (shC (Sm.C hs1 hC) (sgG hb)) (by omega) rfl rfl rfl (Nat.le_of_ble_eq_true rfl) (Nat.le_of_ble_eq_true rfl) (T_X8_tells (Sm.C hs1 hC) hb (nI i)) (kk_p ?_)
        refine j_topi (shTl M b (nI i)) (Sm.tl hs1 (PHuS hb) (nI i)) ?_
        refine j_iload_n 3 dX10_hopsOf_33 rfl ?_
        refine j_callV (kc := 0) (ks := 0) (a := 0) (b := 0) (d' := (d + 4)) (As := [.int (hpS S (shTl M b) r i).1, .int (shTl M b (nI i)), .int r]) dX10_hopsOf_34 kX10_376 rfl (shC (Sm.C hs1 hC) (sgA isA82)) (by omega) rfl rfl rfl (Nat.le_of_ble_eq_true rfl) (Nat.le_of_ble_eq_true rfl) (T_X0_clingsThen (Sm.C hs1 hC) isA82 (Sm.hv hs1 hS ok PHuH) ok ha1 (hpS S (shTl M b) r i).1 (shTl M b (nI i)) r) (kk_e (fun M5 hM6 => ?_))
        obtain ⟨h08, ha9⟩ := hM6
        have sm7 := Sm.tr hs1 (Sm.mo (P2 := PHu) h08 (fun q e => e))
        refine j_istore (L' := [(7, .int (clgS S (hpS S (shTl M b) r i).1 (shTl M b (nI i)) r)), (0, .ref 0), (1, .ref b), (2, .int (nI n)), (3, .int r), (4, .int (hpS S (shTl M b) r i).1), (5, .int (hpS S (shTl M b) r i).2), (6, .int (nI i))]) dX10_hopsOf_37 (by decide) rfl ?_
        refine j_iload 0 dX10_hopsOf_39 rfl ?_
        refine j_iload 5 dX10_hopsOf_41 rfl ?_
        refine j_icmp_eq (tgt := 49) dX10_hopsOf_43 rfl (fun c10 => ?_) (fun c10 => ?_)
        · refine j_iload 0 dX10_hopsOf_49 rfl ?_
          refine j_istore (L' := [(4, .int (clgS S (hpS S (shTl M b) r i).1 (shTl M b (nI i)) r)), (7, .int (clgS S (hpS S (shTl M b) r i).1 (shTl M b (nI i)) r)), (0, .ref 0), (1, .ref b), (2, .int (nI n)), (3, .int r), (5, .int (hpS S (shTl M b) r i).2), (6, .int (nI i))]) dX10_hopsOf_51 (by decide) rfl ?_
          refine j_iinc 7 (nI (i + 1)) (L' := [(6, .int (nI (i + 1))), (4, .int (clgS S (hpS S (shTl M b) r i).1 (shTl M b (nI i)) r)), (7, .int (clgS S (hpS S (shTl M b) r i).1 (shTl M b (nI i)) r)), (0, .ref 0), (1, .ref b), (2, .int (nI n)), (3, .int r), (5, .int (hpS S (shTl M b) r i).2)]) dX10_hopsOf_53 rfl (inc1 i) (by decide) rfl ?_
          refine j_goto (tgt := 15) dX10_hopsOf_56 rfl ?_
          have h1 : (hpS S (shTl M b) r i).2 = (hpS S (shTl M b) r (i + 1)).2 := by
            rw [hp_s]
            exact (if_pos c10).symm
          have h2 : (clgS S (hpS S (shTl M b) r i).1 (shTl M b (nI i)) r) = (hpS S (shTl M b) r (i + 1)).1 := rfl
          refine j_L (congrArg (fun zz9 : Int32 => ([(6, .int (nI (i + 1))), (4, .int (clgS S (hpS S (shTl M b) r i).1 (shTl M b (nI i)) r)), (7, .int (clgS S (hpS S (shTl M b) r i).1 (shTl M b (nI i)) r)), (0, .ref 0), (1, .ref b), (2, .int (nI n)), (3, .int r), (5, .int zz9)] : List (Nat × Value))) h1) ?_
          refine j_L (congrArg (fun zz9 : Int32 => ([(6, .int (nI (i + 1))), (4, .int zz9), (7, .int (clgS S (hpS S (shTl M b) r i).1 (shTl M b (nI i)) r)), (0, .ref 0), (1, .ref b), (2, .int (nI n)), (3, .int r), (5, .int (hpS S (shTl M b) r (i + 1)).2)] : List (Nat × Value))) h2) ?_
          exact j_sub (jk_pick [3, 4, 5, 6, 1, 7, 0] rfl) (ih2 (i + 1) M5 (by omega) (by omega) sm7 ha9)
        · refine j_iinc 6 ((hpS S (shTl M b) r i).2 + 1) (L' := [(5, .int ((hpS S (shTl M b) r i).2 + 1)), (7, .int (clgS S (hpS S (shTl M b) r i).1 (shTl M b (nI i)) r)), (0, .ref 0), (1, .ref b), (2, .int (nI n)), (3, .int r), (4, .int (hpS S (shTl M b) r i).1), (6, .int (nI i))]) dX10_hopsOf_46 rfl rfl (by decide) rfl ?_
          refine j_iload 1 dX10_hopsOf_49 rfl ?_
          refine j_istore (L' := [(4, .int (clgS S (hpS S (shTl M b) r i).1 (shTl M b (nI i)) r)), (5, .int ((hpS S (shTl M b) r i).2 + 1)), (7, .int (clgS S (hpS S (shTl M b) r i).1 (shTl M b (nI i)) r)), (0, .ref 0), (1, .ref b), (2, .int (nI n)), (3, .int r), (6, .int (nI i))]) dX10_hopsOf_51 (by decide) rfl ?_
          refine j_iinc 7 (nI (i + 1)) (L' := [(6, .int (nI (i + 1))), (4, .int (clgS S (hpS S (shTl M b) r i).1 (shTl M b (nI i)) r)), (5, .int ((hpS S (shTl M b) r i).2 + 1)), (7, .int (clgS S (hpS S (shTl M b) r i).1 (shTl M b (nI i)) r)), (0, .ref 0), (1, .ref b), (2, .int (nI n)), (3, .int r)]) dX10_hopsOf_53 rfl (inc1 i) (by decide) rfl ?_
          refine j_goto (tgt := 15) dX10_hopsOf_56 rfl ?_
          have h1 : ((hpS S (shTl M b) r i).2 + 1) = (hpS S (shTl M b) r (i + 1)).2 := by
            rw [hp_s]
            exact (if_neg c10).symm
          have h2 : (clgS S (hpS S (shTl M b) r i).1 (shTl M b (nI i)) r) = (hpS S (shTl M b) r (i + 1)).1 := rfl
          refine j_L (congrArg (fun zz9 : Int32 => ([(6, .int (nI (i + 1))), (4, .int (clgS S (hpS S (shTl M b) r i).1 (shTl M b (nI i)) r)), (5, .int zz9), (7, .int (clgS S (hpS S (shTl M b) r i).1 (shTl M b (nI i)) r)), (0, .ref 0), (1, .ref b), (2, .int (nI n)), (3, .int r)] : List (Nat × Value))) h1) ?_
          refine j_L (congrArg (fun zz9 : Int32 => ([(6, .int (nI (i + 1))), (4, .int zz9), (5, .int (hpS S (shTl M b) r (i + 1)).2), (7, .int (clgS S (hpS S (shTl M b) r i).1 (shTl M b (nI i)) r)), (0, .ref 0), (1, .ref b), (2, .int (nI n)), (3, .int r)] : List (Nat × Value))) h2) ?_
          exact j_sub (jk_pick [4, 5, 6, 7, 1, 2, 0] rfl) (ih2 (i + 1) M5 (by omega) (by omega) sm7 ha9)
  exact j_sub (jk_pick [3, 4, 5, 6, 2, 1, 0] rfl) (lp3 _ 0 M (Nat.lt_succ_self _) (by omega) Sm.rf ha)
set_option maxRecDepth 20000 in
set_option maxHeartbeats 4000000 in
theorem T_X10_calmest {d : Nat} {M : jk_M} {b : Nat} {S : HS} (hC : WC M) (hb : isS b) (hS : hv M.2.1 1 = S) (ok : Sok S) (ha : AirOK 82 S M) (n : Nat) (hn : n ≤ 40) : J Fr_X10_calmest (d + 6) 0 0 0 [(0, .ref 0), (1, .ref b), (2, .int (nI n))] [] M (jk_ex (some (.int (cmS S (shTl M b) n 4).1)) (fun M1 => Sm PHu M M1 ∧ AirOK 82 S M1)) := by
  refine j_post (fun Q hQ => ?_)
  refine j_iconst 0 dX10_calmest_0 ic_0 ?_
  refine j_istore_n (L' := [(3, .int 0), (0, .ref 0), (1, .ref b), (2, .int (nI n))]) dX10_calmest_1 (by decide) rfl ?_
  refine j_aload_n 1 dX10_calmest_2 rfl ?_
  refine j_aload_n 2 dX10_calmest_3 rfl ?_
  refine j_iload_n 3 dX10_calmest_4 rfl ?_
  refine j_iconst 0 dX10_calmest_5 ic_0 ?_
  refine j_callV (kc := 0) (ks := 0) (a := 0) (b := 0) (d' := (d + 5)) (As := [.ref b, .int (nI n), .int 0]) dX10_calmest_6 kX10_340 rfl (shC hC sgC_0) (by omega) rfl rfl rfl (Nat.le_of_ble_eq_true rfl) (Nat.le_of_ble_eq_true rfl) (T_X10_hopsOf hC hb hS ok ha n hn 0) (kk_e (fun M1 hM2 => ?_))
  obtain ⟨h04, ha5⟩ := hM2
  have sm3 := Sm.tr Sm.rf h04
  refine j_istore (L' := [(4, .int (hpS S (shTl M b) 0 n).2), (3, .int 0), (0, .ref 0), (1, .ref b), (2, .int (nI n))]) dX10_calmest_9 (by decide) rfl ?_
  refine j_iconst 1 dX10_calmest_11 ic_1 ?_
  refine j_istore (L' := [(5, .int 1), (4, .int (hpS S (shTl M b) 0 n).2), (3, .int 0), (0, .ref 0), (1, .ref b), (2, .int (nI n))]) dX10_calmest_12 (by decide) rfl ?_
  have lp8 : ∀ (k6 : Nat) (i : Nat) (M1 : jk_M), 4 - i < k6 → (i ≤ 4) → (Sm PHu M M1) → (AirOK 82 S M1) → J Fr_X10_calmest (d + 6) 0 0 14 [(0, .ref 0), (1, .ref b), (2, .int (nI n)), (3, .int (cmS S (shTl M b) n i).1), (4, .int (cmS S (shTl M b) n i).2), (5, .int (nI (i + 1)))] [] M1 Q := by
    intro k6
    induction k6 with
    | zero => intro i M1 hk; exact absurd hk (Nat.not_lt_zero _)
    | succ k6 ih7 =>
      intro i M1 hk6 hi hs1 ha1
      refine j_iload 5 dX10_calmest_14 rfl ?_
      refine j_iconst 4 dX10_calmest_16 ic_4 ?_
      refine j_icmp_gtN (tgt := 50) (i + 1) 4 dX10_calmest_17 rfl (by omega) (by omega) (fun c9 => ?_) (fun c9 => ?_)
      · refine j_iload_n 3 dX10_calmest_50 rfl ?_
        refine j_iret dX10_calmest_51 rfl ?_
        have e : i = 4 := by omega
        subst e
        exact hQ _ _ ⟨rfl, hs1, ha1⟩
      · refine j_aload_n 0 dX10_calmest_20 rfl ?_
        refine j_aload_n 1 dX10_calmest_21 rfl ?_
        refine j_iload_n 2 dX10_calmest_22 rfl ?_
        refine j_iload 5 dX10_calmest_23 rfl ?_
        refine j_callV (kc := 0) (ks := 0) (a := 0) (b := 0) (d' := (d + 5)) (As := [.ref b, .int (nI n), .int (nI (i + 1))]) dX10_calmest_25 kX10_340 rfl (shC (Sm.C hs1 hC) sgC_0) (by omega) rfl rfl rfl (Nat.le_of_ble_eq_true rfl) (Nat.le_of_ble_eq_true rfl) (T_X10_hopsOf (Sm.C hs1 hC) hb (Sm.hv hs1 hS ok PHuH) ok ha1 n hn (nI (i + 1))) (kk_e (fun M10 hM11 => ?_))
        obtain ⟨h013, ha14⟩ := hM11
        refine j_topi (hpS S (shTl M b) (nI (i + 1)) n).2 (by rw [show shTl M1 b = shTl M b from funext (fun i => Sm.tl hs1 (PHuS hb) i)]) ?_
        have sm12 := Sm.tr hs1 h013
        refine j_istore (L' := [(6, .int (hpS S (shTl M b) (nI (i + 1)) n).2), (0, .ref 0), (1, .ref b), (2, .int (nI n)), (3, .int (cmS S (shTl M b) n i).1), (4, .int (cmS S (shTl M b) n i).2), (5, .int (nI (i + 1)))]) dX10_calmest_28 (by decide) rfl ?_
        refine j_iload 0 dX10_calmest_30 rfl ?_
        refine j_iload 5 dX10_calmest_32 rfl ?_
        refine j_icmp_gt (tgt := 44) dX10_calmest_34 rfl (fun c15 => ?_) (fun c15 => ?_)
        · refine j_iinc 6 (nI ((i + 1) + 1)) (L' := [(5, .int (nI ((i + 1) + 1))), (6, .int (hpS S (shTl M b) (nI (i + 1)) n).2), (0, .ref 0), (1, .ref b), (2, .int (nI n)), (3, .int (cmS S (shTl M b) n i).1), (4, .int (cmS S (shTl M b) n i).2)]) dX10_calmest_44 rfl (inc1 (i + 1)) (by decide) rfl ?_
          refine j_goto (tgt := 14) dX10_calmest_47 rfl ?_
          have hb0 : (cmS S (shTl M b) n (i + 1)) = ((cmS S (shTl M b) n i).1, (cmS S (shTl M b) n i).2) := by
            rw [cm_s]
            first | exact (if_pos (Int32.not_lt.mp c15)) | exact (if_neg (Int32.not_le.mpr c15))
          have h1 : (cmS S (shTl M b) n i).1 = (cmS S (shTl M b) n (i + 1)).1 := by rw [hb0]
          refine j_L (congrArg (fun zz9 : Int32 => ([(5, .int (nI ((i + 1) + 1))), (6, .int (hpS S (shTl M b) (nI (i + 1)) n).2), (0, .ref 0), (1, .ref b), (2, .int (nI n)), (3, .int zz9), (4, .int (cmS S (shTl M b) n i).2)] : List (Nat × Value))) h1) ?_
          have h2 : (cmS S (shTl M b) n i).2 = (cmS S (shTl M b) n (i + 1)).2 := by rw [hb0]
          refine j_L (congrArg (fun zz9 : Int32 => ([(5, .int (nI ((i + 1) + 1))), (6, .int (hpS S (shTl M b) (nI (i + 1)) n).2), (0, .ref 0), (1, .ref b), (2, .int (nI n)), (3, .int (cmS S (shTl M b) n (i + 1)).1), (4, .int zz9)] : List (Nat × Value))) h2) ?_
          exact j_sub (jk_pick [2, 3, 4, 5, 6, 0] rfl) (ih7 (i + 1) M10 (by omega) (by omega) sm12 ha14)
        · refine j_iload 0 dX10_calmest_37 rfl ?_
          refine j_istore (L' := [(4, .int (hpS S (shTl M b) (nI (i + 1)) n).2), (6, .int (hpS S (shTl M b) (nI (i + 1)) n).2), (0, .ref 0), (1, .ref b), (2, .int (nI n)), (3, .int (cmS S (shTl M b) n i).1), (5, .int (nI (i + 1)))]) dX10_calmest_39 (by decide) rfl ?_
          refine j_iload 6 dX10_calmest_41 rfl ?_
          refine j_istore_n (L' := [(3, .int (nI (i + 1))), (4, .int (hpS S (shTl M b) (nI (i + 1)) n).2), (6, .int (hpS S (shTl M b) (nI (i + 1)) n).2), (0, .ref 0), (1, .ref b), (2, .int (nI n)), (5, .int (nI (i + 1)))]) dX10_calmest_43 (by decide) rfl ?_
          refine j_iinc 6 (nI ((i + 1) + 1)) (L' := [(5, .int (nI ((i + 1) + 1))), (3, .int (nI (i + 1))), (4, .int (hpS S (shTl M b) (nI (i + 1)) n).2), (6, .int (hpS S (shTl M b) (nI (i + 1)) n).2), (0, .ref 0), (1, .ref b), (2, .int (nI n))]) dX10_calmest_44 rfl (inc1 (i + 1)) (by decide) rfl ?_
          refine j_goto (tgt := 14) dX10_calmest_47 rfl ?_
          have hb0 : (cmS S (shTl M b) n (i + 1)) = ((nI (i + 1)), (hpS S (shTl M b) (nI (i + 1)) n).2) := by
            rw [cm_s]
            first | exact (if_pos (Int32.not_lt.mp c15)) | exact (if_neg (Int32.not_le.mpr c15))
          have h1 : (nI (i + 1)) = (cmS S (shTl M b) n (i + 1)).1 := by rw [hb0]
          refine j_L (congrArg (fun zz9 : Int32 => ([(5, .int (nI ((i + 1) + 1))), (3, .int zz9), (4, .int (hpS S (shTl M b) (nI (i + 1)) n).2), (6, .int (hpS S (shTl M b) (nI (i + 1)) n).2), (0, .ref 0), (1, .ref b), (2, .int (nI n))] : List (Nat × Value))) h1) ?_
          have h2 : (hpS S (shTl M b) (nI (i + 1)) n).2 = (cmS S (shTl M b) n (i + 1)).2 := by rw [hb0]
          refine j_L (congrArg (fun zz9 : Int32 => ([(5, .int (nI ((i + 1) + 1))), (3, .int (cmS S (shTl M b) n (i + 1)).1), (4, .int zz9), (6, .int (hpS S (shTl M b) (nI (i + 1)) n).2), (0, .ref 0), (1, .ref b), (2, .int (nI n))] : List (Nat × Value))) h2) ?_
          exact j_sub (jk_pick [4, 5, 6, 1, 2, 0] rfl) (ih7 (i + 1) M10 (by omega) (by omega) sm12 ha14)
  exact j_sub (jk_pick [3, 4, 5, 2, 1, 0] rfl) (lp8 _ 0 M1 (Nat.lt_succ_self _) (by omega) sm3 ha5)
