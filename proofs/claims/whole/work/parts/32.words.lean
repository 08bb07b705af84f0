/-! words -/
def mtf (n : Nat) (t : Nat → Int32) (p w : Nat) : Nat → Nat → Nat
  | 0, s => s
  | f + 1, s => if s < jk_sL.getD w 0 ∧ (p + s < n ∧ t (p + s) = chW w s) then mtf n t p w f (s + 1) else s
def mt (n : Nat) (t : Nat → Int32) (p w : Nat) : Nat := mtf n t p w 10 0
def wdN (n : Nat) (t : Nat → Int32) (p : Nat) : Nat → Option Nat
  | 0 => none
  | k + 1 => match wdN n t p k with
    | some w => some w
    | none => if mt n t p k = jk_sL.getD k 0 then some k else none
def msN (n : Nat) (t : Nat → Int32) (p : Nat) : Nat → Nat
  | 0 => 0
  | k + 1 => if msN n t p k < mt n t p k then mt n t p k else msN n t p k
theorem mtf_t {n : Nat} {t : Nat → Int32} {p w s : Nat} (hs : s < 10) (h1 : s < jk_sL.getD w 0) (h2 : p + s < n ∧ t (p + s) = chW w s) : mtf n t p w (10 - s) s = mtf n t p w (10 - (s + 1)) (s + 1) := by
  obtain ⟨f, hf⟩ : ∃ f, 10 - s = f + 1 := ⟨10 - s - 1, by omega⟩
  rw [hf, mtf, if_pos ⟨h1, h2⟩, show 10 - (s + 1) = f by omega]
theorem mtf_f {n : Nat} {t : Nat → Int32} {p w s : Nat} (h : ¬ s < jk_sL.getD w 0 ∨ ¬ (p + s < n ∧ t (p + s) = chW w s)) : mtf n t p w (10 - s) s = s := by
  cases h2 : 10 - s with
  | zero => rfl
  | succ f => rw [mtf, if_neg (fun z => h.elim (fun y => y z.1) (fun y => y z.2))]
theorem wd_y {n : Nat} {t : Nat → Int32} {p k : Nat} (h : wdN n t p k = none) (e : mt n t p k = jk_sL.getD k 0) : wdN n t p (k + 1) = some k := by simp only [wdN, h, e, if_true]
theorem wd_n {n : Nat} {t : Nat → Int32} {p k : Nat} (h : wdN n t p k = none) (e : ¬ mt n t p k = jk_sL.getD k 0) : wdN n t p (k + 1) = none := by simp only [wdN, h, e, if_false]
theorem wd_st {n : Nat} {t : Nat → Int32} {p w i : Nat} (h : wdN n t p i = some w) : ∀ k, wdN n t p (i + k) = some w
  | 0 => h
  | k + 1 => by
    have := wd_st h k
    show (match wdN n t p (i + k) with | some w => some w | none => _) = _
    rw [this]
theorem ms_s {n : Nat} {t : Nat → Int32} {p k : Nat} : msN n t p (k + 1) = if msN n t p k < mt n t p k then mt n t p k else msN n t p k := rfl
theorem mt_le {n : Nat} {t : Nat → Int32} {p w : Nat} : ∀ f s, s ≤ jk_sL.getD w 0 → mtf n t p w f s ≤ jk_sL.getD w 0
  | 0, s, h => h
  | f + 1, s, h => by
    rw [mtf]
    split
    · rename_i z; exact mt_le f (s + 1) (by omega)
    · exact h
theorem mt9 {n : Nat} {t : Nat → Int32} {p w : Nat} (hw : w < 10) : mt n t p w ≤ 9 := Nat.le_trans (mt_le 10 0 (Nat.zero_le _)) (sL9 w hw)
theorem ms9 {n : Nat} {t : Nat → Int32} {p : Nat} : ∀ k, k ≤ 10 → msN n t p k ≤ 9
  | 0, _ => Nat.zero_le _
  | k + 1, h => by
    rw [ms_s]
    split
    · exact mt9 (by omega)
    · exact ms9 k (by omega)
theorem wd_lt {n : Nat} {t : Nat → Int32} {p w : Nat} : ∀ k, wdN n t p k = some w → w < k ∧ mt n t p w = jk_sL.getD w 0
  | 0, h => by cases h
  | k + 1, h => by
    cases hk : wdN n t p k with
    | some v =>
      simp only [wdN, hk] at h
      have := wd_lt k (hk.trans h); exact ⟨by omega, this.2⟩
    | none =>
      simp only [wdN, hk] at h
      split at h
      · rename_i e
        have e2 : k = w := by simpa using h
        subst e2; exact ⟨by omega, e⟩
      · cases h
/-- what a read word tells -/
def apS (S : HS) (w : Nat) (x0 x1 x2 : Int32) : HS := if w = 0 then upS S 0 0 x0 else if w = 1 then addTS S x0 x1 x2 else if w = 2 then (if x0 = 0 then upS S 5 0 x1 else upS S 6 0 x1) else if w = 3 then upS S 1 0 x0 else if w = 4 then upS S 2 0 x0 else if w = 5 then addNS S x0 x1 else if w = 6 then addDS S x0 x1 x2 else if w = 9 then upS S 3 0 x0 else upS S 13 x0.toNatClampNeg (if w = 8 then 1 else 0)
theorem jmaxN {a b : Nat} (ha : a < 1000) (hb : b < 1000) : (if nI a < nI b then nI b else nI a) = nI (if a < b then b else a) := by
  by_cases h : a < b
  · rw [if_pos h, if_pos ((nI_ltI (by omega) (by omega)).mpr h)]
  · rw [if_neg h, if_neg (fun z => h ((nI_ltI (by omega) (by omega)).mp z))]
set_option maxRecDepth 20000 in
set_option maxHeartbeats 4000000 in
theorem T_X5_readWordS {d : Nat} {M : jk_M} {b n : Nat} {t : Nat → Int32} (hC : WC M) (tx : TX M b n t) (p : Nat) (hp : M.2.1 101 3 = nI p) (h9 : p < 900) (w : Nat) (hw : wdN n t p 10 = some w) : J Fr_X5_readWord (d + 5) 0 0 0 [(0, .ref 101)] [] M (jk_is (some (.int (nI w))) (jk_wI M 101 3 (nI (p + jk_sL.getD w 0)))) := by
  refine j_post (fun Q hQ => ?_)
  refine j_iconst 0 dX5_readWord_0 ic_0 ?_
  refine j_istore_n (L' := [(1, .int 0), (0, .ref 101)]) dX5_readWord_1 (by decide) rfl ?_
  refine j_iconst 0 dX5_readWord_2 ic_0 ?_
  refine j_istore_n (L' := [(2, .int 0), (1, .int 0), (0, .ref 101)]) dX5_readWord_3 (by decide) rfl ?_
  refine j_L (congrArg (fun z : Int32 => ([(2, .int 0), (1, .int z), (0, .ref 101)] : List (Nat × Value))) (show (0 : Int32) = nI (msN n t p 0) from rfl)) ?_
  have lp3 : ∀ (k1 : Nat) (i : Nat), 10 - i < k1 → (i ≤ 10) → (wdN n t p i = none) → J Fr_X5_readWord (d + 5) 0 0 4 [(0, .ref 101), (1, .int (nI (msN n t p i))), (2, .int (nI i))] [] M Q := by
    intro k1
    induction k1 with
    | zero => intro i hk; exact absurd hk (Nat.not_lt_zero _)
    | succ k1 ih2 =>
      intro i hk1 hi hnone
      refine j_iload_n 2 dX5_readWord_4 rfl ?_
      refine j_bipush 10 dX5_readWord_5 bp_10 ?_
      refine j_icmp_geN (tgt := 88) i 10 dX5_readWord_7 rfl (by omega) (by omega) (fun c4 => ?_) (fun c4 => ?_)
      · refine j_aload_n 0 dX5_readWord_88 rfl ?_
        refine j_aload_n 0 dX5_readWord_89 rfl ?_
        refine j_getv (nI p) dX5_readWord_90 fX5_22 (shC hC sgC_101) rfl hp ?_
        refine j_iload_n 1 dX5_readWord_93 rfl ?_
        refine j_iaddN p (msN n t p i) dX5_readWord_94 ?_
        refine j_put dX5_readWord_95 fX5_26 (shC hC sgC_101) rfl ?_
        refine j_iconst (-1) dX5_readWord_98 ic_n1 ?_
        refine j_iret dX5_readWord_99 rfl ?_
        have e : i = 10 := by omega
        subst e
        rw [hw] at hnone
        cases hnone
      · refine j_iload_n 2 dX5_readWord_10 rfl ?_
        refine j_callS (kc := 0) (ks := 0) (a := 0) (b := 0) (d' := d) (As := [.int (nI i)]) dX5_readWord_11 kX5_64 rfl (by omega) rfl rfl rfl (Nat.le_of_ble_eq_true rfl) (Nat.le_of_ble_eq_true rfl) (T_X5_lettersOf i (by omega)) (kk_p ?_)
        refine j_astore_n (L' := [(3, .ref (2000 + i)), (0, .ref 101), (1, .int (nI (msN n t p i))), (2, .int (nI i))]) dX5_readWord_14 (by decide) rfl ?_
        refine j_iconst 0 dX5_readWord_15 ic_0 ?_
        refine j_istore (L' := [(4, .int 0), (3, .ref (2000 + i)), (0, .ref 101), (1, .int (nI (msN n t p i))), (2, .int (nI i))]) dX5_readWord_16 (by decide) rfl ?_
        have h9i := sL9 i (by omega)
        have lp7 : ∀ (k5 : Nat) (s : Nat), jk_sL.getD i 0 - s < k5 → (s ≤ jk_sL.getD i 0) → (mtf n t p i (10 - s) s = mt n t p i) → J Fr_X5_readWord (d + 5) 0 0 18 [(0, .ref 101), (1, .int (nI (msN n t p i))), (2, .int (nI i)), (3, .ref (2000 + i)), (4, .int (nI s))] [] M Q := by
          intro k5
          induction k5 with
          | zero => intro s hk; exact absurd hk (Nat.not_lt_zero _)
          | succ k5 ih6 =>
            intro s hk5 hs hm
            refine j_iload 4 dX5_readWord_18 rfl ?_
            refine j_aload_n 3 dX5_readWord_20 rfl ?_
            refine j_callVs (kc := 0) (ks := 0) (a := 0) (b := 0) (d' := (d + 1)) (As := []) dX5_readWord_21 kX5_68 rfl (by omega) (by omega) rfl rfl rfl (Nat.le_of_ble_eq_true rfl) (Nat.le_of_ble_eq_true rfl) (T_J0_length_8abf5 i (by omega)) (kk_p ?_)
            refine j_icmp_geN (tgt := 53) s (jk_sL.getD i 0) dX5_readWord_24 rfl (by omega) (by omega) (fun c8 => ?_) (fun c8 => ?_)
            · have es : mt n t p i = s := hm.symm.trans (mtf_f (Or.inl (by omega)))
              refine j_iload 4 dX5_readWord_53 rfl ?_
              refine j_aload_n 3 dX5_readWord_55 rfl ?_
              refine j_callVs (kc := 0) (ks := 0) (a := 0) (b := 0) (d' := (d + 1)) (As := []) dX5_readWord_56 kX5_68 rfl (by omega) (by omega) rfl rfl rfl (Nat.le_of_ble_eq_true rfl) (Nat.le_of_ble_eq_true rfl) (T_J0_length_8abf5 i (by omega)) (kk_p ?_)
              refine j_icmp_neN (tgt := 75) s (jk_sL.getD i 0) dX5_readWord_59 rfl (by omega) (by omega) (fun c9 => ?_) (fun c9 => ?_)
              · refine j_iload_n 1 dX5_readWord_75 rfl ?_
                refine j_iload 4 dX5_readWord_76 rfl ?_
                refine j_max dX5_readWord_78 mX5_81 mt_max.1 mt_max.2.1 mt_max.2.2 (Nat.le_of_ble_eq_true rfl) ?_
                have hms := ms9 (n := n) (t := t) (p := p) i (by omega)
                refine j_topi (nI (msN n t p (i + 1))) (by rw [jmaxN (by omega) (by omega), ms_s, es]) ?_
                refine j_istore_n (L' := [(1, .int (nI (msN n t p (i + 1)))), (0, .ref 101), (2, .int (nI i)), (3, .ref (2000 + i)), (4, .int (nI s))]) dX5_readWord_81 (by decide) rfl ?_
                refine j_iinc 2 (nI (i + 1)) (L' := [(2, .int (nI (i + 1))), (1, .int (nI (msN n t p (i + 1)))), (0, .ref 101), (3, .ref (2000 + i)), (4, .int (nI s))]) dX5_readWord_82 rfl (inc1 i) (by decide) rfl ?_
                refine j_goto (tgt := 4) dX5_readWord_85 rfl ?_
                exact j_sub (jk_pick [2, 1, 0] rfl) (ih2 (i + 1) (by omega) (by omega) (wd_n hnone (fun z => absurd (es.symm.trans z) (by assumption))))
              · refine j_aload_n 0 dX5_readWord_62 rfl ?_
                refine j_dup dX5_readWord_63 rfl ?_
                refine j_getv (nI p) dX5_readWord_64 fX5_22 (shC hC sgC_101) rfl hp ?_
                refine j_iload 4 dX5_readWord_67 rfl ?_
                refine j_iaddN p s dX5_readWord_69 ?_
                refine j_put dX5_readWord_70 fX5_22 (shC hC sgC_101) rfl ?_
                refine j_iload_n 2 dX5_readWord_73 rfl ?_
                refine j_iret dX5_readWord_74 rfl ?_
                have hy := wd_st (wd_y hnone (es.trans (by assumption))) (10 - (i + 1))
                rw [show i + 1 + (10 - (i + 1)) = 10 by omega, hw] at hy
                have ew : w = i := by simpa using hy
                subst ew
                have el : s = jk_sL.getD w 0 := by assumption
                subst el
                exact hQ _ _ ⟨rfl, rfl⟩
            · refine j_aload_n 0 dX5_readWord_27 rfl ?_
              refine j_aload_n 0 dX5_readWord_28 rfl ?_
              refine j_getv (nI p) dX5_readWord_29 fX5_22 (shC hC sgC_101) rfl hp ?_
              refine j_iload 4 dX5_readWord_32 rfl ?_
              refine j_iaddN p s dX5_readWord_34 ?_
              refine j_aload_n 3 dX5_readWord_35 rfl ?_
              refine j_iload 4 dX5_readWord_36 rfl ?_
              refine j_callVs (kc := 0) (ks := 0) (a := 0) (b := 0) (d' := (d + 4)) (As := [.int (nI s)]) dX5_readWord_38 kX5_73 rfl (by omega) (by omega) rfl rfl rfl (Nat.le_of_ble_eq_true rfl) (Nat.le_of_ble_eq_true rfl) (T_J0_charAt_5068e i (by omega) s (by omega)) (kk_p ?_)
              refine j_callV (kc := 0) (ks := 0) (a := 0) (b := 0) (d' := (d + 2)) (As := [.int (nI (p + s)), .int (chW i s)]) dX5_readWord_41 kX5_77 rfl (shC hC sgC_101) (by omega) rfl rfl rfl (Nat.le_of_ble_eq_true rfl) (Nat.le_of_ble_eq_true rfl) (T_X5_isAt hC tx (p + s) (by omega) (chW i s)) (kk_p ?_)
              refine j_if_eqB (p := ((p + s) < n ∧ t (p + s) = (chW i s))) (tgt := 53) dX5_readWord_44 rfl (fun c10 => ?_) (fun c10 => ?_)
              · have es : mt n t p i = s := hm.symm.trans (mtf_f (Or.inr c10))
                refine j_iload 4 dX5_readWord_53 rfl ?_
                refine j_aload_n 3 dX5_readWord_55 rfl ?_
                refine j_callVs (kc := 0) (ks := 0) (a := 0) (b := 0) (d' := (d + 1)) (As := []) dX5_readWord_56 kX5_68 rfl (by omega) (by omega) rfl rfl rfl (Nat.le_of_ble_eq_true rfl) (Nat.le_of_ble_eq_true rfl) (T_J0_length_8abf5 i (by omega)) (kk_p ?_)
                refine j_icmp_neN (tgt := 75) s (jk_sL.getD i 0) dX5_readWord_59 rfl (by omega) (by omega) (fun c11 => ?_) (fun c11 => ?_)
                · refine j_iload_n 1 dX5_readWord_75 rfl ?_
                  refine j_iload 4 dX5_readWord_76 rfl ?_
                  refine j_max dX5_readWord_78 mX5_81 mt_max.1 mt_max.2.1 mt_max.2.2 (Nat.le_of_ble_eq_true rfl) ?_
                  have hms := ms9 (n := n) (t := t) (p := p) i (by omega)
                  refine j_topi (nI (msN n t p (i + 1))) (by rw [jmaxN (by omega) (by omega), ms_s, es]) ?_
                  refine j_istore_n (L' := [(1, .int (nI (msN n t p (i + 1)))), (0, .ref 101), (2, .int (nI i)), (3, .ref (2000 + i)), (4, .int (nI s))]) dX5_readWord_81 (by decide) rfl ?_
                  refine j_iinc 2 (nI (i + 1)) (L' := [(2, .int (nI (i + 1))), (1, .int (nI (msN n t p (i + 1)))), (0, .ref 101), (3, .ref (2000 + i)), (4, .int (nI s))]) dX5_readWord_82 rfl (inc1 i) (by decide) rfl ?_
                  refine j_goto (tgt := 4) dX5_readWord_85 rfl ?_
                  exact j_sub (jk_pick [2, 1, 0] rfl) (ih2 (i + 1) (by omega) (by omega) (wd_n hnone (fun z => absurd (es.symm.trans z) (by assumption))))
                · refine j_aload_n 0 dX5_readWord_62 rfl ?_
                  refine j_dup dX5_readWord_63 rfl ?_
                  refine j_getv (nI p) dX5_readWord_64 fX5_22 (shC hC sgC_101) rfl hp ?_
                  refine j_iload 4 dX5_readWord_67 rfl ?_
                  refine j_iaddN p s dX5_readWord_69 ?_
                  refine j_put dX5_readWord_70 fX5_22 (shC hC sgC_101) rfl ?_
                  refine j_iload_n 2 dX5_readWord_73 rfl ?_
                  refine j_iret dX5_readWord_74 rfl ?_
                  have hy := wd_st (wd_y hnone (es.trans (by assumption))) (10 - (i + 1))
                  rw [show i + 1 + (10 - (i + 1)) = 10 by omega, hw] at hy
                  have ew : w = i := by simpa using hy
                  subst ew
                  have el : s = jk_sL.getD w 0 := by assumption
                  subst el
                  exact hQ _ _ ⟨rfl, rfl⟩
              · refine j_iinc 4 (nI (s + 1)) (L' := [(4, .int (nI (s + 1))), (0, .ref 101), (1, .int (nI (msN n t p i))), (2, .int (nI i)), (3, .ref (2000 + i))]) dX5_readWord_47 rfl (inc1 s) (by decide) rfl ?_
                refine j_goto (tgt := 18) dX5_readWord_50 rfl ?_
                exact j_sub (jk_pick [1, 2, 3, 4, 0] rfl) (ih6 (s + 1) (by omega) (by omega) ((mtf_t (by omega) (by omega) c10).symm.trans hm))
        exact j_sub (jk_pick [2, 3, 4, 1, 0] rfl) (lp7 _ 0 (Nat.lt_succ_self _) (by omega) rfl)
  exact j_sub (jk_pick [2, 1, 0] rfl) (lp3 _ 0 (Nat.lt_succ_self _) (by omega) rfl)
set_option maxRecDepth 20000 in
set_option maxHeartbeats 4000000 in
theorem T_X5_readWordN {d : Nat} {M : jk_M} {b n : Nat} {t : Nat → Int32} (hC : WC M) (tx : TX M b n t) (p : Nat) (hp : M.2.1 101 3 = nI p) (h9 : p < 900) (hw : wdN n t p 10 = none) : J Fr_X5_readWord (d + 5) 0 0 0 [(0, .ref 101)] [] M (jk_is (some (.int (-1))) (jk_wI M 101 4 (nI (p + msN n t p 10)))) := by
  refine j_post (fun Q hQ => ?_)
  refine j_iconst 0 dX5_readWord_0 ic_0 ?_
  refine j_istore_n (L' := [(1, .int 0), (0, .ref 101)]) dX5_readWord_1 (by decide) rfl ?_
  refine j_iconst 0 dX5_readWord_2 ic_0 ?_
  refine j_istore_n (L' := [(2, .int 0), (1, .int 0), (0, .ref 101)]) dX5_readWord_3 (by decide) rfl ?_
  refine j_L (congrArg (fun z : Int32 => ([(2, .int 0), (1, .int z), (0, .ref 101)] : List (Nat × Value))) (show (0 : Int32) = nI (msN n t p 0) from rfl)) ?_
  have lp3 : ∀ (k1 : Nat) (i : Nat), 10 - i < k1 → (i ≤ 10) → (wdN n t p i = none) → J Fr_X5_readWord (d + 5) 0 0 4 [(0, .ref 101), (1, .int (nI (msN n t p i))), (2, .int (nI i))] [] M Q := by
    intro k1
    induction k1 with
    | zero => intro i hk; exact absurd hk (Nat.not_lt_zero _)
    | succ k1 ih2 =>
      intro i hk1 hi hnone
      refine j_iload_n 2 dX5_readWord_4 rfl ?_
      refine j_bipush 10 dX5_readWord_5 bp_10 ?_
      refine j_icmp_geN (tgt := 88) i 10 dX5_readWord_7 rfl (by omega) (by omega) (fun c4 => ?_) (fun c4 => ?_)
      · refine j_aload_n 0 dX5_readWord_88 rfl ?_
        refine j_aload_n 0 dX5_readWord_89 rfl ?_
        refine j_getv (nI p) dX5_readWord_90 fX5_22 (shC hC sgC_101) rfl hp ?_
        refine j_iload_n 1 dX5_readWord_93 rfl ?_
        refine j_iaddN p (msN n t p i) dX5_readWord_94 ?_
        refine j_put dX5_readWord_95 fX5_26 (shC hC sgC_101) rfl ?_
        refine j_iconst (-1) dX5_readWord_98 ic_n1 ?_
        refine j_iret dX5_readWord_99 rfl ?_
        have e : i = 10 := by omega
        subst e
        exact hQ _ _ ⟨rfl, rfl⟩
      · refine j_iload_n 2 dX5_readWord_10 rfl ?_
        refine j_callS (kc := 0) (ks := 0) (a := 0) (b := 0) (d' := d) (As := [.int (nI i)]) dX5_readWord_11 kX5_64 rfl (by omega) rfl rfl rfl (Nat.le_of_ble_eq_true rfl) (Nat.le_of_ble_eq_true rfl) (T_X5_lettersOf i (by omega)) (kk_p ?_)
        refine j_astore_n (L' := [(3, .ref (2000 + i)), (0, .ref 101), (1, .int (nI (msN n t p i))), (2, .int (nI i))]) dX5_readWord_14 (by decide) rfl ?_
        refine j_iconst 0 dX5_readWord_15 ic_0 ?_
        refine j_istore (L' := [(4, .int 0), (3, .ref (2000 + i)), (0, .ref 101), (1, .int (nI (msN n t p i))), (2, .int (nI i))]) dX5_readWord_16 (by decide) rfl ?_
        have h9i := sL9 i (by omega)
        have lp7 : ∀ (k5 : Nat) (s : Nat), jk_sL.getD i 0 - s < k5 → (s ≤ jk_sL.getD i 0) → (mtf n t p i (10 - s) s = mt n t p i) → J Fr_X5_readWord (d + 5) 0 0 18 [(0, .ref 101), (1, .int (nI (msN n t p i))), (2, .int (nI i)), (3, .ref (2000 + i)), (4, .int (nI s))] [] M Q := by
          intro k5
          induction k5 with
          | zero => intro s hk; exact absurd hk (Nat.not_lt_zero _)
          | succ k5 ih6 =>
            intro s hk5 hs hm
            refine j_iload 4 dX5_readWord_18 rfl ?_
            refine j_aload_n 3 dX5_readWord_20 rfl ?_
            refine j_callVs (kc := 0) (ks := 0) (a := 0) (b := 0) (d' := (d + 1)) (As := []) dX5_readWord_21 kX5_68 rfl (by omega) (by omega) rfl rfl rfl (Nat.le_of_ble_eq_true rfl) (Nat.le_of_ble_eq_true rfl) (T_J0_length_8abf5 i (by omega)) (kk_p ?_)
            refine j_icmp_geN (tgt := 53) s (jk_sL.getD i 0) dX5_readWord_24 rfl (by omega) (by omega) (fun c8 => ?_) (fun c8 => ?_)
            · have es : mt n t p i = s := hm.symm.trans (mtf_f (Or.inl (by omega)))
              refine j_iload 4 dX5_readWord_53 rfl ?_
              refine j_aload_n 3 dX5_readWord_55 rfl ?_
              refine j_callVs (kc := 0) (ks := 0) (a := 0) (b := 0) (d' := (d + 1)) (As := []) dX5_readWord_56 kX5_68 rfl (by omega) (by omega) rfl rfl rfl (Nat.le_of_ble_eq_true rfl) (Nat.le_of_ble_eq_true rfl) (T_J0_length_8abf5 i (by omega)) (kk_p ?_)
              refine j_icmp_neN (tgt := 75) s (jk_sL.getD i 0) dX5_readWord_59 rfl (by omega) (by omega) (fun c9 => ?_) (fun c9 => ?_)
              · refine j_iload_n 1 dX5_readWord_75 rfl ?_
                refine j_iload 4 dX5_readWord_76 rfl ?_
                refine j_max dX5_readWord_78 mX5_81 mt_max.1 mt_max.2.1 mt_max.2.2 (Nat.le_of_ble_eq_true rfl) ?_
                have hms := ms9 (n := n) (t := t) (p := p) i (by omega)
                refine j_topi (nI (msN n t p (i + 1))) (by rw [jmaxN (by omega) (by omega), ms_s, es]) ?_
                refine j_istore_n (L' := [(1, .int (nI (msN n t p (i + 1)))), (0, .ref 101), (2, .int (nI i)), (3, .ref (2000 + i)), (4, .int (nI s))]) dX5_readWord_81 (by decide) rfl ?_
                refine j_iinc 2 (nI (i + 1)) (L' := [(2, .int (nI (i + 1))), (1, .int (nI (msN n t p (i + 1)))), (0, .ref 101), (3, .ref (2000 + i)), (4, .int (nI s))]) dX5_readWord_82 rfl (inc1 i) (by decide) rfl ?_
                refine j_goto (tgt := 4) dX5_readWord_85 rfl ?_
                exact j_sub (jk_pick [2, 1, 0] rfl) (ih2 (i + 1) (by omega) (by omega) (wd_n hnone (fun z => absurd (es.symm.trans z) (by assumption))))
              · refine j_aload_n 0 dX5_readWord_62 rfl ?_
                refine j_dup dX5_readWord_63 rfl ?_
                refine j_getv (nI p) dX5_readWord_64 fX5_22 (shC hC sgC_101) rfl hp ?_
                refine j_iload 4 dX5_readWord_67 rfl ?_
                refine j_iaddN p s dX5_readWord_69 ?_
                refine j_put dX5_readWord_70 fX5_22 (shC hC sgC_101) rfl ?_
                refine j_iload_n 2 dX5_readWord_73 rfl ?_
                refine j_iret dX5_readWord_74 rfl ?_
                have hy := wd_st (wd_y hnone (es.trans (by assumption))) (10 - (i + 1))
                rw [show i + 1 + (10 - (i + 1)) = 10 by omega, hw] at hy
                cases hy
            · refine j_aload_n 0 dX5_readWord_27 rfl ?_
              refine j_aload_n 0 dX5_readWord_28 rfl ?_
              refine j_getv (nI p) dX5_readWord_29 fX5_22 (shC hC sgC_101) rfl hp ?_
              refine j_iload 4 dX5_readWord_32 rfl ?_
              refine j_iaddN p s dX5_readWord_34 ?_
              refine j_aload_n 3 dX5_readWord_35 rfl ?_
              refine j_iload 4 dX5_readWord_36 rfl ?_
              refine j_callVs (kc := 0) (ks := 0) (a := 0) (b := 0) (d' := (d + 4)) (As := [.int (nI s)]) dX5_readWord_38 kX5_73 rfl (by omega) (by omega) rfl rfl rfl (Nat.le_of_ble_eq_true rfl) (Nat.le_of_ble_eq_true rfl) (T_J0_charAt_5068e i (by omega) s (by omega)) (kk_p ?_)
              refine j_callV (kc := 0) (ks := 0) (a := 0) (b := 0) (d' := (d + 2)) (As := [.int (nI (p + s)), .int (chW i s)]) dX5_readWord_41 kX5_77 rfl (shC hC sgC_101) (by omega) rfl rfl rfl (Nat.le_of_ble_eq_true rfl) (Nat.le_of_ble_eq_true rfl) (T_X5_isAt hC tx (p + s) (by omega) (chW i s)) (kk_p ?_)
              refine j_if_eqB (p := ((p + s) < n ∧ t (p + s) = (chW i s))) (tgt := 53) dX5_readWord_44 rfl (fun c10 => ?_) (fun c10 => ?_)
              · have es : mt n t p i = s := hm.symm.trans (mtf_f (Or.inr c10))
                refine j_iload 4 dX5_readWord_53 rfl ?_
                refine j_aload_n 3 dX5_readWord_55 rfl ?_
                refine j_callVs (kc := 0) (ks := 0) (a := 0) (b := 0) (d' := (d + 1)) (As := []) dX5_readWord_56 kX5_68 rfl (by omega) (by omega) rfl rfl rfl (Nat.le_of_ble_eq_true rfl) (Nat.le_of_ble_eq_true rfl) (T_J0_length_8abf5 i (by omega)) (kk_p ?_)
                refine j_icmp_neN (tgt := 75) s (jk_sL.getD i 0) dX5_readWord_59 rfl (by omega) (by omega) (fun c11 => ?_) (fun c11 => ?_)
                · refine j_iload_n 1 dX5_readWord_75 rfl ?_
                  refine j_iload 4 dX5_readWord_76 rfl ?_
                  refine j_max dX5_readWord_78 mX5_81 mt_max.1 mt_max.2.1 mt_max.2.2 (Nat.le_of_ble_eq_true rfl) ?_
                  have hms := ms9 (n := n) (t := t) (p := p) i (by omega)
                  refine j_topi (nI (msN n t p (i + 1))) (by rw [jmaxN (by omega) (by omega), ms_s, es]) ?_
                  refine j_istore_n (L' := [(1, .int (nI (msN n t p (i + 1)))), (0, .ref 101), (2, .int (nI i)), (3, .ref (2000 + i)), (4, .int (nI s))]) dX5_readWord_81 (by decide) rfl ?_
                  refine j_iinc 2 (nI (i + 1)) (L' := [(2, .int (nI (i + 1))), (1, .int (nI (msN n t p (i + 1)))), (0, .ref 101), (3, .ref (2000 + i)), (4, .int (nI s))]) dX5_readWord_82 rfl (inc1 i) (by decide) rfl ?_
                  refine j_goto (tgt := 4) dX5_readWord_85 rfl ?_
                  exact j_sub (jk_pick [2, 1, 0] rfl) (ih2 (i + 1) (by omega) (by omega) (wd_n hnone (fun z => absurd (es.symm.trans z) (by assumption))))
                · refine j_aload_n 0 dX5_readWord_62 rfl ?_
                  refine j_dup dX5_readWord_63 rfl ?_
                  refine j_getv (nI p) dX5_readWord_64 fX5_22 (shC hC sgC_101) rfl hp ?_
                  refine j_iload 4 dX5_readWord_67 rfl ?_
                  refine j_iaddN p s dX5_readWord_69 ?_
                  refine j_put dX5_readWord_70 fX5_22 (shC hC sgC_101) rfl ?_
                  refine j_iload_n 2 dX5_readWord_73 rfl ?_
                  refine j_iret dX5_readWord_74 rfl ?_
                  have hy := wd_st (wd_y hnone (es.trans (by assumption))) (10 - (i + 1))
                  rw [show i + 1 + (10 - (i + 1)) = 10 by omega, hw] at hy
                  cases hy
              · refine j_iinc 4 (nI (s + 1)) (L' := [(4, .int (nI (s + 1))), (0, .ref 101), (1, .int (nI (msN n t p i))), (2, .int (nI i)), (3, .ref (2000 + i))]) dX5_readWord_47 rfl (inc1 s) (by decide) rfl ?_
                refine j_goto (tgt := 18) dX5_readWord_50 rfl ?_
                exact j_sub (jk_pick [1, 2, 3, 4, 0] rfl) (ih6 (s + 1) (by omega) (by omega) ((mtf_t (by omega) (by omega) c10).symm.trans hm))
        exact j_sub (jk_pick [2, 3, 4, 1, 0] rfl) (lp7 _ 0 (Nat.lt_succ_self _) (by omega) rfl)
  exact j_sub (jk_pick [2, 1, 0] rfl) (lp3 _ 0 (Nat.lt_succ_self _) (by omega) rfl)
