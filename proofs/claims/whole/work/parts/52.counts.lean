/-! calls that count -/
noncomputable def nearS (S : HS) (c n : Int32) : Nat → Int32
  | 0 => -1
  | k + 1 => cif (isC S (nI k) ∧ n ≤ betS S (nI k)) (if nearS S c n k = -1 then sfar c (nI k) else jmin (nearS S c n k) (sfar c (nI k))) (nearS S c n k)
noncomputable def nearZ (Z : ZS) (c n : Int32) : Int32 × ZS := cif (¬ (isC Z.1 c ∧ mayS Z.1 12 n)) (-16, refZ Z (-6)) (nearS Z.1 c n 80, Z)
def blS (m w h dn : Int32) : Int32 := if (if (if m < w then w else m) < h then h else (if m < w then w else m)) < dn then 3 else if (if m < w then w else m) < h then 2 else if m < w then 1 else 0
noncomputable def blameZ (Z : ZS) (c : Int32) : Int32 × ZS := cif (¬ isC Z.1 c) (-6, refZ Z (-6)) (blS (2 * sfar (Z.1 5 0) c) (wayS Z.1 (Z.1 5 0) c) (humC Z.1 c) (dinS Z.1 (Z.1 2 0)), Z)
def faultZ (Z : ZS) : Int32 × ZS := (Z.2.2.2.2 9, Z)
def traceZ (Z : ZS) (i : Int32) : Int32 × ZS := (if 0 ≤ i ∧ i < Z.2.2.2.2 10 ∧ i < 20 then Z.2.2.2.2 (11 + i.toNatClampNeg) else -1, Z)
set_option maxRecDepth 20000 in
set_option maxHeartbeats 4000000 in
theorem P_count {d : Nat} {M : jk_M} {Z : ZS} (cv : CV M Z) (ok : Zok Z) (n : Int32) : J Fr_X10_count (d + 6) 0 0 0 [(0, .ref 0), (1, .int n)] [] M (jk_ex (some (.int (countZ Z n).1)) (fun M1 => CV M1 (countZ Z n).2)) := by
  refine j_post (fun Q hQ => ?_)
  have hC := cv.1
  have hS := cv.2.1
  have okS := ok.1
  refine j_aload_n 0 dX10_count_0 rfl ?_
  refine j_getr (q := 1) dX10_count_1 fX10_10 (shC hC sgC_0) rfl (rfC hC rfC_0_0 (nz (by decide))) ?_
  refine j_bipush 12 dX10_count_4 bp_12 ?_
  refine j_iload_n 1 dX10_count_6 rfl ?_
  refine j_callV (kc := 0) (ks := 0) (a := 0) (b := 0) (d' := (d + 1)) (As := [.int 12, .int n]) dX10_count_7 kX10_150 rfl (shC hC (sgH (by simp [isH]))) (by omega) rfl rfl rfl (Nat.le_of_ble_eq_true rfl) (Nat.le_of_ble_eq_true rfl) (T_X2_may hC (by simp [isH]) hS okS 12 n) (kk_p ?_)
  refine j_if_neB (p := (mayS Z.1 12 n)) (tgt := 20) dX10_count_10 rfl (fun c1 => ?_) (fun c1 => ?_)
  · refine j_aload_n 0 dX10_count_20 rfl ?_
    refine j_getr (q := 82) dX10_count_21 fX10_27 (shC hC sgC_0) rfl (rfC hC rfC_0_3 (nz (by decide))) ?_
    refine j_callV (kc := 0) (ks := 0) (a := 0) (b := 0) (d' := (d + 2)) (As := []) dX10_count_24 kX10_222 rfl (shC hC (sgA isA82)) (by omega) rfl rfl rfl (Nat.le_of_ble_eq_true rfl) (Nat.le_of_ble_eq_true rfl) (T_X0_lay hC isA82 hS okS) (kk_ev (fun M2 hM3 => ?_))
    obtain ⟨sm4, ha5, -⟩ := hM3
    replace sm4 := (sm4.mo PScL)
    refine j_iconst 0 dX10_count_27 ic_0 ?_
    refine j_istore_n (L' := [(2, .int 0), (0, .ref 0), (1, .int n)]) dX10_count_28 (by decide) rfl ?_
    refine j_iconst 0 dX10_count_29 ic_0 ?_
    refine j_istore_n (L' := [(3, .int 0), (2, .int 0), (0, .ref 0), (1, .int n)]) dX10_count_30 (by decide) rfl ?_
    have lp8 : ∀ (k6 : Nat) (i : Nat) (M1 : jk_M), 80 - i < k6 → (i ≤ 80) → (Sm PSc M M1) → (AirOK 82 Z.1 M1) → J Fr_X10_count (d + 6) 0 0 31 [(0, .ref 0), (1, .int n), (2, .int (cntS Z.1 n i)), (3, .int (nI i))] [] M1 Q := by
      intro k6
      induction k6 with
      | zero => intro i M1 hk; exact absurd hk (Nat.not_lt_zero _)
      | succ k6 ih7 =>
        intro i M1 hk6 hi hs1 ha1
        refine j_iload_n 3 dX10_count_31 rfl ?_
        refine j_bipush 80 dX10_count_32 bp_80 ?_
        refine j_icmp_geN (tgt := 69) i 80 dX10_count_34 rfl (by omega) (by omega) (fun c9 => ?_) (fun c9 => ?_)
        · refine j_iload_n 2 dX10_count_69 rfl ?_
          refine j_iret dX10_count_70 rfl ?_
          have e : i = 80 := by omega
          subst e
          have hz : countZ Z n = (cntS Z.1 n 80, Z) := by rw [countZ, cif_f (fun z => z c1)]
          exact hQ _ _ ⟨by rw [hz], by rw [hz]; exact CV.sc cv ok (Sm.g hs1)⟩
        · refine j_aload_n 0 dX10_count_37 rfl ?_
          refine j_getr (q := 1) dX10_count_38 fX10_10 (shC (Sm.C hs1 hC) sgC_0) rfl (rfC (Sm.C hs1 hC) rfC_0_0 (nz (by decide))) ?_
          refine j_iload_n 3 dX10_count_41 rfl ?_
          refine j_callV (kc := 0) (ks := 0) (a := 0) (b := 0) (d' := d) (As := [.int (nI i)]) dX10_count_42 kX10_178 rfl (shC (Sm.C hs1 hC) (sgH (by simp [isH]))) (by omega) rfl rfl rfl (Nat.le_of_ble_eq_true rfl) (Nat.le_of_ble_eq_true rfl) (T_X2_isCell (Sm.C hs1 hC) (by simp [isH]) (Sm.hv hs1 hS okS PScH) okS (nI i)) (kk_p ?_)
          refine j_if_eqB (p := (isC Z.1 (nI i))) (tgt := 63) dX10_count_45 rfl (fun c10 => ?_) (fun c10 => ?_)
          · refine j_iinc 3 (nI (i + 1)) (L' := [(3, .int (nI (i + 1))), (0, .ref 0), (1, .int n), (2, .int (cntS Z.1 n i))]) dX10_count_63 rfl (inc1 i) (by decide) rfl ?_
            refine j_goto (tgt := 31) dX10_count_66 rfl ?_
            have h1 : (cntS Z.1 n (i + 1)) = (cntS Z.1 n i) := cif_f (fun z => c10 z.1)
            refine j_L (congrArg (fun zz9 : Int32 => ([(3, .int (nI (i + 1))), (0, .ref 0), (1, .int n), (2, .int zz9)] : List (Nat × Value))) h1.symm) ?_
            exact j_sub (jk_pick [1, 2, 3, 0] rfl) (ih7 (i + 1) M1 (by omega) (by omega) hs1 ha1)
          · refine j_aload_n 0 dX10_count_48 rfl ?_
            refine j_getr (q := 82) dX10_count_49 fX10_27 (shC (Sm.C hs1 hC) sgC_0) rfl (rfC (Sm.C hs1 hC) rfC_0_3 (nz (by decide))) ?_
            refine j_iload_n 3 dX10_count_52 rfl ?_
            refine j_callV (kc := 0) (ks := 0) (a := 0) (b := 0) (d' := (d + 5)) (As := [.int (nI i)]) dX10_count_53 kX10_298 rfl (shC (Sm.C hs1 hC) (sgA isA82)) (by omega) rfl rfl rfl (Nat.le_of_ble_eq_true rfl) (Nat.le_of_ble_eq_true rfl) (T_X0_betterBars (Sm.C hs1 hC) isA82 (Sm.hv hs1 hS okS PScH) okS ha1 (nI i)) (kk_e (fun M11 hM12 => ?_))
            obtain ⟨sm13, ha14⟩ := hM12
            replace sm13 := Sm.tr hs1 (sm13.mo PScA)
            refine j_iload_n 1 dX10_count_56 rfl ?_
            refine j_icmp_lt (tgt := 63) dX10_count_57 rfl (fun c15 => ?_) (fun c15 => ?_)
            · refine j_iinc 3 (nI (i + 1)) (L' := [(3, .int (nI (i + 1))), (0, .ref 0), (1, .int n), (2, .int (cntS Z.1 n i))]) dX10_count_63 rfl (inc1 i) (by decide) rfl ?_
              refine j_goto (tgt := 31) dX10_count_66 rfl ?_
              have h1 : (cntS Z.1 n (i + 1)) = (cntS Z.1 n i) := cif_f (fun z => absurd c15 (Int32.not_lt.mpr z.2))
              refine j_L (congrArg (fun zz9 : Int32 => ([(3, .int (nI (i + 1))), (0, .ref 0), (1, .int n), (2, .int zz9)] : List (Nat × Value))) h1.symm) ?_
              exact j_sub (jk_pick [1, 2, 3, 0] rfl) (ih7 (i + 1) M11 (by omega) (by omega) sm13 ha14)
            · refine j_iinc 2 ((cntS Z.1 n i) + 1) (L' := [(2, .int ((cntS Z.1 n i) + 1)), (0, .ref 0), (1, .int n), (3, .int (nI i))]) dX10_count_60 rfl rfl (by decide) rfl ?_
              refine j_iinc 3 (nI (i + 1)) (L' := [(3, .int (nI (i + 1))), (2, .int ((cntS Z.1 n i) + 1)), (0, .ref 0), (1, .int n)]) dX10_count_63 rfl (inc1 i) (by decide) rfl ?_
              refine j_goto (tgt := 31) dX10_count_66 rfl ?_
              have h1 : (cntS Z.1 n (i + 1)) = ((cntS Z.1 n i) + 1) := (cif_t ⟨c10, Int32.not_lt.mp c15⟩)
              refine j_L (congrArg (fun zz9 : Int32 => ([(3, .int (nI (i + 1))), (2, .int zz9), (0, .ref 0), (1, .int n)] : List (Nat × Value))) h1.symm) ?_
              exact j_sub (jk_pick [2, 3, 1, 0] rfl) (ih7 (i + 1) M11 (by omega) (by omega) sm13 ha14)
    exact j_sub (jk_pick [2, 3, 1, 0] rfl) (lp8 _ 0 M2 (Nat.lt_succ_self _) (by omega) sm4 ha5)
  · refine j_aload_n 0 dX10_count_13 rfl ?_
    refine j_bipush (-6) dX10_count_14 bp_n6 ?_
    refine j_callV (kc := 0) (ks := 0) (a := 0) (b := 0) (d' := d) (As := [.int (-6)]) dX10_count_16 kX10_93 rfl (shC hC sgC_0) (by omega) rfl rfl rfl (Nat.le_of_ble_eq_true rfl) (Nat.le_of_ble_eq_true rfl) (T_X10_refuse hC (-6)) (kk_p ?_)
    refine j_iret dX10_count_19 rfl ?_
    have hz : countZ Z n = ((-6), (refZ Z (-6))) := by
      clear hQ
      grind [countZ, cif]
    exact hQ _ _ ⟨by rw [hz], by rw [hz]; exact CV.rf cv ok (-6)⟩
set_option maxRecDepth 20000 in
set_option maxHeartbeats 4000000 in
theorem P_near {d : Nat} {M : jk_M} {Z : ZS} (cv : CV M Z) (ok : Zok Z) (c : Int32) (n : Int32) : J Fr_X10_near (d + 6) 0 0 0 [(0, .ref 0), (1, .int c), (2, .int n)] [] M (jk_ex (some (.int (nearZ Z c n).1)) (fun M1 => CV M1 (nearZ Z c n).2)) := by
  refine j_post (fun Q hQ => ?_)
  have hC := cv.1
  have hS := cv.2.1
  have okS := ok.1
  refine j_aload_n 0 dX10_near_0 rfl ?_
  refine j_getr (q := 1) dX10_near_1 fX10_10 (shC hC sgC_0) rfl (rfC hC rfC_0_0 (nz (by decide))) ?_
  refine j_iload_n 1 dX10_near_4 rfl ?_
  refine j_callV (kc := 0) (ks := 0) (a := 0) (b := 0) (d' := d) (As := [.int c]) dX10_near_5 kX10_178 rfl (shC hC (sgH (by simp [isH]))) (by omega) rfl rfl rfl (Nat.le_of_ble_eq_true rfl) (Nat.le_of_ble_eq_true rfl) (T_X2_isCell hC (by simp [isH]) hS okS c) (kk_p ?_)
  refine j_if_eqB (p := (isC Z.1 c)) (tgt := 24) dX10_near_8 rfl (fun c1 => ?_) (fun c1 => ?_)
  · refine j_aload_n 0 dX10_near_24 rfl ?_
    refine j_bipush (-6) dX10_near_25 bp_n6 ?_
    refine j_callV (kc := 0) (ks := 0) (a := 0) (b := 0) (d' := d) (As := [.int (-6)]) dX10_near_27 kX10_93 rfl (shC hC sgC_0) (by omega) rfl rfl rfl (Nat.le_of_ble_eq_true rfl) (Nat.le_of_ble_eq_true rfl) (T_X10_refuse hC (-6)) (kk_p ?_)
    refine j_bipush (-10) dX10_near_30 bp_n10 ?_
    refine j_iadd dX10_near_32 ?_
    refine j_topi (-16) (by decide) ?_
    refine j_iret dX10_near_33 rfl ?_
    have hz : nearZ Z c n = ((-16), (refZ Z (-6))) := by
      clear hQ
      grind [nearZ, cif]
    exact hQ _ _ ⟨by rw [hz], by rw [hz]; exact CV.rf cv ok (-6)⟩
  · refine j_aload_n 0 dX10_near_11 rfl ?_
    refine j_getr (q := 1) dX10_near_12 fX10_10 (shC hC sgC_0) rfl (rfC hC rfC_0_0 (nz (by decide))) ?_
    refine j_bipush 12 dX10_near_15 bp_12 ?_
    refine j_iload_n 2 dX10_near_17 rfl ?_
    refine j_callV (kc := 0) (ks := 0) (a := 0) (b := 0) (d' := (d + 1)) (As := [.int 12, .int n]) dX10_near_18 kX10_150 rfl (shC hC (sgH (by simp [isH]))) (by omega) rfl rfl rfl (Nat.le_of_ble_eq_true rfl) (Nat.le_of_ble_eq_true rfl) (T_X2_may hC (by simp [isH]) hS okS 12 n) (kk_p ?_)
    refine j_if_neB (p := (mayS Z.1 12 n)) (tgt := 34) dX10_near_21 rfl (fun c2 => ?_) (fun c2 => ?_)
    · refine j_aload_n 0 dX10_near_34 rfl ?_
      refine j_getr (q := 82) dX10_near_35 fX10_27 (shC hC sgC_0) rfl (rfC hC rfC_0_3 (nz (by decide))) ?_
      refine j_callV (kc := 0) (ks := 0) (a := 0) (b := 0) (d' := (d + 2)) (As := []) dX10_near_38 kX10_222 rfl (shC hC (sgA isA82)) (by omega) rfl rfl rfl (Nat.le_of_ble_eq_true rfl) (Nat.le_of_ble_eq_true rfl) (T_X0_lay hC isA82 hS okS) (kk_ev (fun M3 hM4 => ?_))
      obtain ⟨sm5, ha6, -⟩ := hM4
      replace sm5 := (sm5.mo PScL)
      refine j_iconst (-1) dX10_near_41 ic_n1 ?_
      refine j_istore_n (L' := [(3, .int (-1)), (0, .ref 0), (1, .int c), (2, .int n)]) dX10_near_42 (by decide) rfl ?_
      refine j_iconst 0 dX10_near_43 ic_0 ?_
      refine j_istore (L' := [(4, .int 0), (3, .int (-1)), (0, .ref 0), (1, .int c), (2, .int n)]) dX10_near_44 (by decide) rfl ?_
      have lp9 : ∀ (k7 : Nat) (i : Nat) (M1 : jk_M), 80 - i < k7 → (i ≤ 80) → (Sm PSc M M1) → (AirOK 82 Z.1 M1) → J Fr_X10_near (d + 6) 0 0 46 [(0, .ref 0), (1, .int c), (2, .int n), (3, .int (nearS Z.1 c n i)), (4, .int (nI i))] [] M1 Q := by
        intro k7
        induction k7 with
        | zero => intro i M1 hk; exact absurd hk (Nat.not_lt_zero _)
        | succ k7 ih8 =>
          intro i M1 hk7 hi hs1 ha1
          refine j_iload 4 dX10_near_46 rfl ?_
          refine j_bipush 80 dX10_near_48 bp_80 ?_
          refine j_icmp_geN (tgt := 109) i 80 dX10_near_50 rfl (by omega) (by omega) (fun c10 => ?_) (fun c10 => ?_)
          · refine j_iload_n 3 dX10_near_109 rfl ?_
            refine j_iret dX10_near_110 rfl ?_
            have e : i = 80 := by omega
            subst e
            have hz : nearZ Z c n = (nearS Z.1 c n 80, Z) := by rw [nearZ, cif_f (fun z => z ⟨c1, c2⟩)]
            exact hQ _ _ ⟨by rw [hz], by rw [hz]; exact CV.sc cv ok (Sm.g hs1)⟩
          · refine j_aload_n 0 dX10_near_53 rfl ?_
            refine j_getr (q := 1) dX10_near_54 fX10_10 (shC (Sm.C hs1 hC) sgC_0) rfl (rfC (Sm.C hs1 hC) rfC_0_0 (nz (by decide))) ?_
            refine j_iload 4 dX10_near_57 rfl ?_
            refine j_callV (kc := 0) (ks := 0) (a := 0) (b := 0) (d' := d) (As := [.int (nI i)]) dX10_near_59 kX10_178 rfl (shC (Sm.C hs1 hC) (sgH (by simp [isH]))) (by omega) rfl rfl rfl (Nat.le_of_ble_eq_true rfl) (Nat.le_of_ble_eq_true rfl) (T_X2_isCell (Sm.C hs1 hC) (by simp [isH]) (Sm.hv hs1 hS okS PScH) okS (nI i)) (kk_p ?_)
            refine j_if_eqB (p := (isC Z.1 (nI i))) (tgt := 103) dX10_near_62 rfl (fun c11 => ?_) (fun c11 => ?_)
            · refine j_iinc 4 (nI (i + 1)) (L' := [(4, .int (nI (i + 1))), (0, .ref 0), (1, .int c), (2, .int n), (3, .int (nearS Z.1 c n i))]) dX10_near_103 rfl (inc1 i) (by decide) rfl ?_
              refine j_goto (tgt := 46) dX10_near_106 rfl ?_
              have h1 : (nearS Z.1 c n (i + 1)) = (nearS Z.1 c n i) := cif_f (fun z => c11 z.1)
              refine j_L (congrArg (fun zz9 : Int32 => ([(4, .int (nI (i + 1))), (0, .ref 0), (1, .int c), (2, .int n), (3, .int zz9)] : List (Nat × Value))) h1.symm) ?_
              exact j_sub (jk_pick [1, 2, 3, 4, 0] rfl) (ih8 (i + 1) M1 (by omega) (by omega) hs1 ha1)
            · refine j_aload_n 0 dX10_near_65 rfl ?_
              refine j_getr (q := 82) dX10_near_66 fX10_27 (shC (Sm.C hs1 hC) sgC_0) rfl (rfC (Sm.C hs1 hC) rfC_0_3 (nz (by decide))) ?_
              refine j_iload 4 dX10_near_69 rfl ?_
              refine j_callV (kc := 0) (ks := 0) (a := 0) (b := 0) (d' := (d + 5)) (As := [.int (nI i)]) dX10_near_71 kX10_298 rfl (shC (Sm.C hs1 hC) (sgA isA82)) (by omega) rfl rfl rfl (Nat.le_of_ble_eq_true rfl) (Nat.le_of_ble_eq_true rfl) (T_X0_betterBars (Sm.C hs1 hC) isA82 (Sm.hv hs1 hS okS PScH) okS ha1 (nI i)) (kk_e (fun M12 hM13 => ?_))
              obtain ⟨sm14, ha15⟩ := hM13
              replace sm14 := Sm.tr hs1 (sm14.mo PScA)
              refine j_iload_n 2 dX10_near_74 rfl ?_
              refine j_icmp_lt (tgt := 103) dX10_near_75 rfl (fun c16 => ?_) (fun c16 => ?_)
              · refine j_iinc 4 (nI (i + 1)) (L' := [(4, .int (nI (i + 1))), (0, .ref 0), (1, .int c), (2, .int n), (3, .int (nearS Z.1 c n i))]) dX10_near_103 rfl (inc1 i) (by decide) rfl ?_
                refine j_goto (tgt := 46) dX10_near_106 rfl ?_
                have h1 : (nearS Z.1 c n (i + 1)) = (nearS Z.1 c n i) := cif_f (fun z => absurd c16 (Int32.not_lt.mpr z.2))
                refine j_L (congrArg (fun zz9 : Int32 => ([(4, .int (nI (i + 1))), (0, .ref 0), (1, .int c), (2, .int n), (3, .int zz9)] : List (Nat × Value))) h1.symm) ?_
                exact j_sub (jk_pick [1, 2, 3, 4, 0] rfl) (ih8 (i + 1) M12 (by omega) (by omega) sm14 ha15)
              · refine j_iload_n 1 dX10_near_78 rfl ?_
                refine j_iload 4 dX10_near_79 rfl ?_
                refine j_callS (kc := 0) (ks := 0) (a := 0) (b := 0) (d' := d) (As := [.int c, .int (nI i)]) dX10_near_81 kX10_258 rfl (by omega) rfl rfl rfl (Nat.le_of_ble_eq_true rfl) (Nat.le_of_ble_eq_true rfl) (T_X10_stepsFar c (nI i)) (kk_p ?_)
                refine j_istore (L' := [(5, .int (sfar c (nI i))), (0, .ref 0), (1, .int c), (2, .int n), (3, .int (nearS Z.1 c n i)), (4, .int (nI i))]) dX10_near_84 (by decide) rfl ?_
                refine j_iload_n 4 dX10_near_86 rfl ?_
                refine j_iconst (-1) dX10_near_87 ic_n1 ?_
                refine j_icmp_ne (tgt := 96) dX10_near_88 rfl (fun c17 => ?_) (fun c17 => ?_)
                · refine j_iload_n 4 dX10_near_96 rfl ?_
                  refine j_iload 0 dX10_near_97 rfl ?_
                  refine j_min dX10_near_99 mX10_318 mt_min.1 mt_min.2.1 mt_min.2.2 (Nat.le_of_ble_eq_true rfl) ?_
                  refine j_istore_n (L' := [(3, .int (if (sfar c (nI i)) < (nearS Z.1 c n i) then (sfar c (nI i)) else (nearS Z.1 c n i))), (5, .int (sfar c (nI i))), (0, .ref 0), (1, .int c), (2, .int n), (4, .int (nI i))]) dX10_near_102 (by decide) rfl ?_
                  refine j_iinc 5 (nI (i + 1)) (L' := [(4, .int (nI (i + 1))), (3, .int (if (sfar c (nI i)) < (nearS Z.1 c n i) then (sfar c (nI i)) else (nearS Z.1 c n i))), (5, .int (sfar c (nI i))), (0, .ref 0), (1, .int c), (2, .int n)]) dX10_near_103 rfl (inc1 i) (by decide) rfl ?_
                  refine j_goto (tgt := 46) dX10_near_106 rfl ?_
                  have h1 : (nearS Z.1 c n (i + 1)) = (if (sfar c (nI i)) < (nearS Z.1 c n i) then (sfar c (nI i)) else (nearS Z.1 c n i)) := (cif_t ⟨c11, Int32.not_lt.mp c16⟩).trans (if_neg c17)
                  refine j_L (congrArg (fun zz9 : Int32 => ([(4, .int (nI (i + 1))), (3, .int zz9), (5, .int (sfar c (nI i))), (0, .ref 0), (1, .int c), (2, .int n)] : List (Nat × Value))) h1.symm) ?_
                  exact j_sub (jk_pick [3, 4, 5, 1, 0] rfl) (ih8 (i + 1) M12 (by omega) (by omega) sm14 ha15)
                · refine j_iload 0 dX10_near_91 rfl ?_
                  refine j_goto (tgt := 102) dX10_near_93 rfl ?_
                  refine j_istore_n (L' := [(3, .int (sfar c (nI i))), (5, .int (sfar c (nI i))), (0, .ref 0), (1, .int c), (2, .int n), (4, .int (nI i))]) dX10_near_102 (by decide) rfl ?_
                  refine j_iinc 5 (nI (i + 1)) (L' := [(4, .int (nI (i + 1))), (3, .int (sfar c (nI i))), (5, .int (sfar c (nI i))), (0, .ref 0), (1, .int c), (2, .int n)]) dX10_near_103 rfl (inc1 i) (by decide) rfl ?_
                  refine j_goto (tgt := 46) dX10_near_106 rfl ?_
                  have h1 : (nearS Z.1 c n (i + 1)) = (sfar c (nI i)) := (cif_t ⟨c11, Int32.not_lt.mp c16⟩).trans (if_pos c17)
                  refine j_L (congrArg (fun zz9 : Int32 => ([(4, .int (nI (i + 1))), (3, .int zz9), (5, .int (sfar c (nI i))), (0, .ref 0), (1, .int c), (2, .int n)] : List (Nat × Value))) h1.symm) ?_
                  exact j_sub (jk_pick [3, 4, 5, 1, 0] rfl) (ih8 (i + 1) M12 (by omega) (by omega) sm14 ha15)
      exact j_sub (jk_pick [2, 3, 4, 1, 0] rfl) (lp9 _ 0 M3 (Nat.lt_succ_self _) (by omega) sm5 ha6)
    · refine j_aload_n 0 dX10_near_24 rfl ?_
      refine j_bipush (-6) dX10_near_25 bp_n6 ?_
      refine j_callV (kc := 0) (ks := 0) (a := 0) (b := 0) (d' := d) (As := [.int (-6)]) dX10_near_27 kX10_93 rfl (shC hC sgC_0) (by omega) rfl rfl rfl (Nat.le_of_ble_eq_true rfl) (Nat.le_of_ble_eq_true rfl) (T_X10_refuse hC (-6)) (kk_p ?_)
      refine j_bipush (-10) dX10_near_30 bp_n10 ?_
      refine j_iadd dX10_near_32 ?_
      refine j_topi (-16) (by decide) ?_
      refine j_iret dX10_near_33 rfl ?_
      have hz : nearZ Z c n = ((-16), (refZ Z (-6))) := by
        clear hQ
        grind [nearZ, cif]
      exact hQ _ _ ⟨by rw [hz], by rw [hz]; exact CV.rf cv ok (-6)⟩
set_option maxRecDepth 20000 in
set_option maxHeartbeats 4000000 in
theorem P_blame {d : Nat} {M : jk_M} {Z : ZS} (cv : CV M Z) (ok : Zok Z) (c : Int32) : J Fr_X10_blame (d + 3) 0 0 0 [(0, .ref 0), (1, .int c)] [] M (jk_ex (some (.int (blameZ Z c).1)) (fun M1 => CV M1 (blameZ Z c).2)) := by
  refine j_post (fun Q hQ => ?_)
  have hC := cv.1
  have hS := cv.2.1
  have okS := ok.1
  refine j_aload_n 0 dX10_blame_0 rfl ?_
  refine j_getr (q := 1) dX10_blame_1 fX10_10 (shC hC sgC_0) rfl (rfC hC rfC_0_0 (nz (by decide))) ?_
  refine j_iload_n 1 dX10_blame_4 rfl ?_
  refine j_callV (kc := 0) (ks := 0) (a := 0) (b := 0) (d' := d) (As := [.int c]) dX10_blame_5 kX10_178 rfl (shC hC (sgH (by simp [isH]))) (by omega) rfl rfl rfl (Nat.le_of_ble_eq_true rfl) (Nat.le_of_ble_eq_true rfl) (T_X2_isCell hC (by simp [isH]) hS okS c) (kk_p ?_)
  refine j_if_neB (p := (isC Z.1 c)) (tgt := 18) dX10_blame_8 rfl (fun c1 => ?_) (fun c1 => ?_)
  · refine j_aload_n 0 dX10_blame_18 rfl ?_
    refine j_getr (q := 82) dX10_blame_19 fX10_27 (shC hC sgC_0) rfl (rfC hC rfC_0_3 (nz (by decide))) ?_
    refine j_callV (kc := 0) (ks := 0) (a := 0) (b := 0) (d' := (d + 2)) (As := []) dX10_blame_22 kX10_222 rfl (shC hC (sgA isA82)) (by omega) rfl rfl rfl (Nat.le_of_ble_eq_true rfl) (Nat.le_of_ble_eq_true rfl) (T_X0_lay hC isA82 hS okS) (kk_ev (fun M2 hM3 => ?_))
    obtain ⟨sm4, ha5, -⟩ := hM3
    replace sm4 := (sm4.mo PScL)
    refine j_iconst 2 dX10_blame_25 ic_2 ?_
    refine j_aload_n 0 dX10_blame_26 rfl ?_
    refine j_getr (q := 1) dX10_blame_27 fX10_10 (shC (Sm.C sm4 hC) sgC_0) rfl (rfC (Sm.C sm4 hC) rfC_0_0 (nz (by decide))) ?_
    refine j_getv (Z.1 5 0) dX10_blame_30 fX10_324 (shC (Sm.C sm4 hC) (sgH (by simp [isH]))) rfl (hvs (Sm.hv sm4 hS okS PScH) (by decide)) ?_
    refine j_iload_n 1 dX10_blame_33 rfl ?_
    refine j_callS (kc := 0) (ks := 0) (a := 0) (b := 0) (d' := d) (As := [.int (Z.1 5 0), .int c]) dX10_blame_34 kX10_258 rfl (by omega) rfl rfl rfl (Nat.le_of_ble_eq_true rfl) (Nat.le_of_ble_eq_true rfl) (T_X10_stepsFar (Z.1 5 0) c) (kk_p ?_)
    refine j_imul dX10_blame_37 ?_
    refine j_istore_n (L' := [(2, .int (2 * (sfar (Z.1 5 0) c))), (0, .ref 0), (1, .int c)]) dX10_blame_38 (by decide) rfl ?_
    refine j_iconst 0 dX10_blame_39 ic_0 ?_
    refine j_istore_n (L' := [(3, .int 0), (2, .int (2 * (sfar (Z.1 5 0) c))), (0, .ref 0), (1, .int c)]) dX10_blame_40 (by decide) rfl ?_
    refine j_aload_n 2 dX10_blame_41 rfl ?_
    refine j_getr (q := 82) dX10_blame_42 fX10_27 (shC (Sm.C sm4 hC) sgC_0) rfl (rfC (Sm.C sm4 hC) rfC_0_3 (nz (by decide))) ?_
    refine j_aload_n 2 dX10_blame_45 rfl ?_
    refine j_getr (q := 1) dX10_blame_46 fX10_10 (shC (Sm.C sm4 hC) sgC_0) rfl (rfC (Sm.C sm4 hC) rfC_0_0 (nz (by decide))) ?_
    refine j_getv (Z.1 5 0) dX10_blame_49 fX10_324 (shC (Sm.C sm4 hC) (sgH (by simp [isH]))) rfl (hvs (Sm.hv sm4 hS okS PScH) (by decide)) ?_
    refine j_iload_n 3 dX10_blame_52 rfl ?_
    refine j_callV (kc := 0) (ks := 0) (a := 0) (b := 0) (d' := (d + 2)) (As := [.int (Z.1 5 0), .int c]) dX10_blame_53 kX10_261 rfl (shC (Sm.C sm4 hC) (sgA isA82)) (by omega) rfl rfl rfl (Nat.le_of_ble_eq_true rfl) (Nat.le_of_ble_eq_true rfl) (T_X0_wayLoss (Sm.C sm4 hC) isA82 (Sm.hv sm4 hS okS PScH) okS ha5 (Z.1 5 0) c) (kk_p ?_)
    refine j_istore (L' := [(4, .int (wayS Z.1 (Z.1 5 0) c)), (3, .int 0), (2, .int (2 * (sfar (Z.1 5 0) c))), (0, .ref 0), (1, .int c)]) dX10_blame_56 (by decide) rfl ?_
    refine j_iload 0 dX10_blame_58 rfl ?_
    refine j_iload_n 2 dX10_blame_60 rfl ?_
    refine j_icmp_le (tgt := 69) dX10_blame_61 rfl (fun c6 => ?_) (fun c6 => ?_)
    · refine j_aload_n 3 dX10_blame_69 rfl ?_
      refine j_getr (q := 82) dX10_blame_70 fX10_27 (shC (Sm.C sm4 hC) sgC_0) rfl (rfC (Sm.C sm4 hC) rfC_0_3 (nz (by decide))) ?_
      refine j_iload_n 4 dX10_blame_73 rfl ?_
      refine j_callV (kc := 0) (ks := 0) (a := 0) (b := 0) (d' := (d + 1)) (As := [.int c]) dX10_blame_74 kX10_267 rfl (shC (Sm.C sm4 hC) (sgA isA82)) (by omega) rfl rfl rfl (Nat.le_of_ble_eq_true rfl) (Nat.le_of_ble_eq_true rfl) (T_X0_humAtP (Sm.C sm4 hC) isA82 (Sm.hv sm4 hS okS PScH) okS ha5 c (isC80 okS (by assumption))) (kk_e (fun M7 hM8 => ?_))
      obtain ⟨sm9, ha10⟩ := hM8
      replace sm9 := Sm.tr sm4 (sm9.mo PScA)
      refine j_istore (L' := [(5, .int (humC Z.1 c)), (4, .int (wayS Z.1 (Z.1 5 0) c)), (3, .int 0), (2, .int (2 * (sfar (Z.1 5 0) c))), (0, .ref 0), (1, .int c)]) dX10_blame_77 (by decide) rfl ?_
      refine j_iload 0 dX10_blame_79 rfl ?_
      refine j_iload_n 3 dX10_blame_81 rfl ?_
      refine j_icmp_le (tgt := 90) dX10_blame_82 rfl (fun c11 => ?_) (fun c11 => ?_)
      · refine j_aload_n 4 dX10_blame_90 rfl ?_
        refine j_getr (q := 82) dX10_blame_91 fX10_27 (shC (Sm.C sm9 hC) sgC_0) rfl (rfC (Sm.C sm9 hC) rfC_0_3 (nz (by decide))) ?_
        refine j_getv (dinS Z.1 (Z.1 2 0)) dX10_blame_94 fX10_327 (shC (Sm.C sm9 hC) (sgA isA82)) rfl ha10.2.2 ?_
        refine j_iload_n 3 dX10_blame_97 rfl ?_
        refine j_icmp_le (tgt := 105) dX10_blame_98 rfl (fun c12 => ?_) (fun c12 => ?_)
        · refine j_iload_n 2 dX10_blame_105 rfl ?_
          refine j_iret dX10_blame_106 rfl ?_
          have hz : blameZ Z c = (0, Z) := by
            rw [blameZ, cif_f (fun z => z c1), blS]
            simp only [if_neg (Int32.not_lt.mpr c6), if_neg (Int32.not_lt.mpr c11), if_neg (Int32.not_lt.mpr c12)]
          exact hQ _ _ ⟨by rw [hz], by rw [hz]; exact CV.sc cv ok (Sm.g sm9)⟩
        · refine j_iconst 3 dX10_blame_101 ic_3 ?_
          refine j_goto (tgt := 106) dX10_blame_102 rfl ?_
          refine j_iret dX10_blame_106 rfl ?_
          have hz : blameZ Z c = (3, Z) := by
            rw [blameZ, cif_f (fun z => z c1), blS]
            simp only [if_neg (Int32.not_lt.mpr c6), if_neg (Int32.not_lt.mpr c11), if_pos (Int32.not_le.mp c12)]
          exact hQ _ _ ⟨by rw [hz], by rw [hz]; exact CV.sc cv ok (Sm.g sm9)⟩
      · refine j_iload 0 dX10_blame_85 rfl ?_
        refine j_istore_n (L' := [(2, .int (humC Z.1 c)), (5, .int (humC Z.1 c)), (4, .int (wayS Z.1 (Z.1 5 0) c)), (3, .int 0), (0, .ref 0), (1, .int c)]) dX10_blame_87 (by decide) rfl ?_
        refine j_iconst 2 dX10_blame_88 ic_2 ?_
        refine j_istore_n (L' := [(3, .int 2), (2, .int (humC Z.1 c)), (5, .int (humC Z.1 c)), (4, .int (wayS Z.1 (Z.1 5 0) c)), (0, .ref 0), (1, .int c)]) dX10_blame_89 (by decide) rfl ?_
        refine j_aload_n 4 dX10_blame_90 rfl ?_
        refine j_getr (q := 82) dX10_blame_91 fX10_27 (shC (Sm.C sm9 hC) sgC_0) rfl (rfC (Sm.C sm9 hC) rfC_0_3 (nz (by decide))) ?_
        refine j_getv (dinS Z.1 (Z.1 2 0)) dX10_blame_94 fX10_327 (shC (Sm.C sm9 hC) (sgA isA82)) rfl ha10.2.2 ?_
        refine j_iload_n 1 dX10_blame_97 rfl ?_
        refine j_icmp_le (tgt := 105) dX10_blame_98 rfl (fun c13 => ?_) (fun c13 => ?_)
        · refine j_iload_n 0 dX10_blame_105 rfl ?_
          refine j_iret dX10_blame_106 rfl ?_
          have hz : blameZ Z c = (2, Z) := by
            rw [blameZ, cif_f (fun z => z c1), blS]
            simp only [if_neg (Int32.not_lt.mpr c6), if_pos (Int32.not_le.mp c11), if_neg (Int32.not_lt.mpr c13)]
          exact hQ _ _ ⟨by rw [hz], by rw [hz]; exact CV.sc cv ok (Sm.g sm9)⟩
        · refine j_iconst 3 dX10_blame_101 ic_3 ?_
          refine j_goto (tgt := 106) dX10_blame_102 rfl ?_
          refine j_iret dX10_blame_106 rfl ?_
          have hz : blameZ Z c = (3, Z) := by
            rw [blameZ, cif_f (fun z => z c1), blS]
            simp only [if_neg (Int32.not_lt.mpr c6), if_pos (Int32.not_le.mp c11), if_pos (Int32.not_le.mp c13)]
          exact hQ _ _ ⟨by rw [hz], by rw [hz]; exact CV.sc cv ok (Sm.g sm9)⟩
    · refine j_iload 0 dX10_blame_64 rfl ?_
      refine j_istore_n (L' := [(2, .int (wayS Z.1 (Z.1 5 0) c)), (4, .int (wayS Z.1 (Z.1 5 0) c)), (3, .int 0), (0, .ref 0), (1, .int c)]) dX10_blame_66 (by decide) rfl ?_
      refine j_iconst 1 dX10_blame_67 ic_1 ?_
      refine j_istore_n (L' := [(3, .int 1), (2, .int (wayS Z.1 (Z.1 5 0) c)), (4, .int (wayS Z.1 (Z.1 5 0) c)), (0, .ref 0), (1, .int c)]) dX10_blame_68 (by decide) rfl ?_
      refine j_aload_n 3 dX10_blame_69 rfl ?_
      refine j_getr (q := 82) dX10_blame_70 fX10_27 (shC (Sm.C sm4 hC) sgC_0) rfl (rfC (Sm.C sm4 hC) rfC_0_3 (nz (by decide))) ?_
      refine j_iload_n 4 dX10_blame_73 rfl ?_
      refine j_callV (kc := 0) (ks := 0) (a := 0) (b := 0) (d' := (d + 1)) (As := [.int c]) dX10_blame_74 kX10_267 rfl (shC (Sm.C sm4 hC) (sgA isA82)) (by omega) rfl rfl rfl (Nat.le_of_ble_eq_true rfl) (Nat.le_of_ble_eq_true rfl) (T_X0_humAtP (Sm.C sm4 hC) isA82 (Sm.hv sm4 hS okS PScH) okS ha5 c (isC80 okS (by assumption))) (kk_e (fun M14 hM15 => ?_))
      obtain ⟨sm16, ha17⟩ := hM15
      replace sm16 := Sm.tr sm4 (sm16.mo PScA)
      refine j_istore (L' := [(5, .int (humC Z.1 c)), (3, .int 1), (2, .int (wayS Z.1 (Z.1 5 0) c)), (4, .int (wayS Z.1 (Z.1 5 0) c)), (0, .ref 0), (1, .int c)]) dX10_blame_77 (by decide) rfl ?_
      refine j_iload 0 dX10_blame_79 rfl ?_
      refine j_iload_n 2 dX10_blame_81 rfl ?_
      refine j_icmp_le (tgt := 90) dX10_blame_82 rfl (fun c18 => ?_) (fun c18 => ?_)
      · refine j_aload_n 4 dX10_blame_90 rfl ?_
        refine j_getr (q := 82) dX10_blame_91 fX10_27 (shC (Sm.C sm16 hC) sgC_0) rfl (rfC (Sm.C sm16 hC) rfC_0_3 (nz (by decide))) ?_
        refine j_getv (dinS Z.1 (Z.1 2 0)) dX10_blame_94 fX10_327 (shC (Sm.C sm16 hC) (sgA isA82)) rfl ha17.2.2 ?_
        refine j_iload_n 2 dX10_blame_97 rfl ?_
        refine j_icmp_le (tgt := 105) dX10_blame_98 rfl (fun c19 => ?_) (fun c19 => ?_)
        · refine j_iload_n 1 dX10_blame_105 rfl ?_
          refine j_iret dX10_blame_106 rfl ?_
          have hz : blameZ Z c = (1, Z) := by
            rw [blameZ, cif_f (fun z => z c1), blS]
            simp only [if_pos (Int32.not_le.mp c6), if_neg (Int32.not_lt.mpr c18), if_neg (Int32.not_lt.mpr c19)]
          exact hQ _ _ ⟨by rw [hz], by rw [hz]; exact CV.sc cv ok (Sm.g sm16)⟩
        · refine j_iconst 3 dX10_blame_101 ic_3 ?_
          refine j_goto (tgt := 106) dX10_blame_102 rfl ?_
          refine j_iret dX10_blame_106 rfl ?_
          have hz : blameZ Z c = (3, Z) := by
            rw [blameZ, cif_f (fun z => z c1), blS]
            simp only [if_pos (Int32.not_le.mp c6), if_neg (Int32.not_lt.mpr c18), if_pos (Int32.not_le.mp c19)]
          exact hQ _ _ ⟨by rw [hz], by rw [hz]; exact CV.sc cv ok (Sm.g sm16)⟩
      · refine j_iload 0 dX10_blame_85 rfl ?_
        refine j_istore_n (L' := [(2, .int (humC Z.1 c)), (5, .int (humC Z.1 c)), (3, .int 1), (4, .int (wayS Z.1 (Z.1 5 0) c)), (0, .ref 0), (1, .int c)]) dX10_blame_87 (by decide) rfl ?_
        refine j_iconst 2 dX10_blame_88 ic_2 ?_
        refine j_istore_n (L' := [(3, .int 2), (2, .int (humC Z.1 c)), (5, .int (humC Z.1 c)), (4, .int (wayS Z.1 (Z.1 5 0) c)), (0, .ref 0), (1, .int c)]) dX10_blame_89 (by decide) rfl ?_
        refine j_aload_n 4 dX10_blame_90 rfl ?_
        refine j_getr (q := 82) dX10_blame_91 fX10_27 (shC (Sm.C sm16 hC) sgC_0) rfl (rfC (Sm.C sm16 hC) rfC_0_3 (nz (by decide))) ?_
        refine j_getv (dinS Z.1 (Z.1 2 0)) dX10_blame_94 fX10_327 (shC (Sm.C sm16 hC) (sgA isA82)) rfl ha17.2.2 ?_
        refine j_iload_n 1 dX10_blame_97 rfl ?_
        refine j_icmp_le (tgt := 105) dX10_blame_98 rfl (fun c20 => ?_) (fun c20 => ?_)
        · refine j_iload_n 0 dX10_blame_105 rfl ?_
          refine j_iret dX10_blame_106 rfl ?_
          have hz : blameZ Z c = (2, Z) := by
            rw [blameZ, cif_f (fun z => z c1), blS]
            simp only [if_pos (Int32.not_le.mp c6), if_pos (Int32.not_le.mp c18), if_neg (Int32.not_lt.mpr c20)]
          exact hQ _ _ ⟨by rw [hz], by rw [hz]; exact CV.sc cv ok (Sm.g sm16)⟩
        · refine j_iconst 3 dX10_blame_101 ic_3 ?_
          refine j_goto (tgt := 106) dX10_blame_102 rfl ?_
          refine j_iret dX10_blame_106 rfl ?_
          have hz : blameZ Z c = (3, Z) := by
            rw [blameZ, cif_f (fun z => z c1), blS]
            simp only [if_pos (Int32.not_le.mp c6), if_pos (Int32.not_le.mp c18), if_pos (Int32.not_le.mp c20)]
          exact hQ _ _ ⟨by rw [hz], by rw [hz]; exact CV.sc cv ok (Sm.g sm16)⟩
  · refine j_aload_n 0 dX10_blame_11 rfl ?_
    refine j_bipush (-6) dX10_blame_12 bp_n6 ?_
    refine j_callV (kc := 0) (ks := 0) (a := 0) (b := 0) (d' := d) (As := [.int (-6)]) dX10_blame_14 kX10_93 rfl (shC hC sgC_0) (by omega) rfl rfl rfl (Nat.le_of_ble_eq_true rfl) (Nat.le_of_ble_eq_true rfl) (T_X10_refuse hC (-6)) (kk_p ?_)
    refine j_iret dX10_blame_17 rfl ?_
    have hz : blameZ Z c = ((-6), (refZ Z (-6))) := by
      clear hQ
      grind [blameZ, cif]
    exact hQ _ _ ⟨by rw [hz], by rw [hz]; exact CV.rf cv ok (-6)⟩
set_option maxRecDepth 20000 in
set_option maxHeartbeats 4000000 in
theorem P_fault {d : Nat} {M : jk_M} {Z : ZS} (cv : CV M Z) (ok : Zok Z)  : J Fr_X10_fault d 0 0 0 [(0, .ref 0)] [] M (jk_ex (some (.int (faultZ Z).1)) (fun M1 => CV M1 (faultZ Z).2)) := by
  refine j_post (fun Q hQ => ?_)
  have hC := cv.1
  have hS := cv.2.1
  have okS := ok.1
  refine j_aload_n 0 dX10_fault_0 rfl ?_
  refine j_getv (Z.2.2.2.2 9) dX10_fault_1 fX10_84 (shC hC sgC_0) rfl cv.2.2.2.2.2.2.2.1 ?_
  refine j_iret dX10_fault_4 rfl ?_
  exact hQ _ _ ⟨rfl, cv⟩
set_option maxRecDepth 20000 in
set_option maxHeartbeats 4000000 in
theorem P_trace {d : Nat} {M : jk_M} {Z : ZS} (cv : CV M Z) (ok : Zok Z) (k : Int32) : J Fr_X10_trace (d + 1) 0 0 0 [(0, .ref 0), (1, .int k)] [] M (jk_ex (some (.int (traceZ Z k).1)) (fun M1 => CV M1 (traceZ Z k).2)) := by
  refine j_post (fun Q hQ => ?_)
  have hC := cv.1
  have hS := cv.2.1
  have okS := ok.1
  refine j_aload_n 0 dX10_trace_0 rfl ?_
  refine j_getr (q := 105) dX10_trace_1 fX10_66 (shC hC sgC_0) rfl (rfC hC rfC_0_8 (nz (by decide))) ?_
  refine j_iload_n 1 dX10_trace_4 rfl ?_
  refine j_callV (kc := 0) (ks := 0) (a := 0) (b := 0) (d' := d) (As := [.int k]) dX10_trace_5 kX10_361 rfl (shC hC sgC_105) (by omega) rfl rfl rfl (Nat.le_of_ble_eq_true rfl) (Nat.le_of_ble_eq_true rfl) (T_X4_bodyAt hC k) (kk_p ?_)
  refine j_iret dX10_trace_8 rfl ?_
  have hz : (if 0 ≤ k ∧ k < M.2.1 105 3 ∧ k < 20 then M.2.1 106 k.toNatClampNeg else -1) = (traceZ Z k).1 := by
    have e10 := cv.2.2.2.2.2.2.2.2.1
    show _ = (if 0 ≤ k ∧ k < Z.2.2.2.2 10 ∧ k < 20 then Z.2.2.2.2 (11 + k.toNatClampNeg) else -1)
    rw [e10]
    by_cases h : 0 ≤ k ∧ k < Z.2.2.2.2 10 ∧ k < 20
    · rw [if_pos h, if_pos h]
      obtain ⟨j, hj, e⟩ := nI_of (Int32.not_lt.mpr h.1)
      have h2 := h.2.2
      rw [e, show (20 : Int32) = nI 20 from rfl, nI_ltI hj (by decide)] at h2
      rw [e, nI_clamp hj]
      exact cv.2.2.2.2.2.2.2.2.2 j h2
    · rw [if_neg h, if_neg h]
  exact hQ _ _ ⟨by rw [hz], cv⟩
