/-! what the calls share -/
theorem j_lcmple {F : jk_F} {d kc ks pc : Nat} {L : List (Nat × Value)} {st : List Value} {M : jk_M} {Q : Option Value → jk_M → Prop} {x y : Int64} {off : Int} {tgt : Nat} (hdg : decode F.2.1 pc = .ok (.lcmp, 1)) (hdg2 : decode F.2.1 (pc + 1) = .ok (.ifCond .le off, 3)) (ht : ((pc + 1 : Nat) : Int) + off = (tgt : Int)) (kt : ¬ y < x → J F d kc ks tgt L st M Q) (kf : y < x → J F d kc ks (pc + 1 + 3) L st M Q) : J F d kc ks pc L (.long y :: .long x :: st) M Q :=
  j_lcmp hdg (j_if_le hdg2 ht (fun h => kt (fun z => absurd ((lg_cmp_gt x y).mpr z) (Int32.not_lt.mpr h))) (fun h => kf ((lg_cmp_gt x y).mp (Int32.not_le.mp h))))
def refM (M : jk_M) (c : Int32) : jk_M := if 0 < 0 - c ∧ 0 - c < 8 then jk_wI M 108 (0 - c).toNatClampNeg (M.2.1 108 (0 - c).toNatClampNeg + 1) else M
def P108 (q : Nat) : Prop := q = 108
theorem refM_g {M : jk_M} {c : Int32} : Sm P108 M (refM M c) := by
  unfold refM
  split
  · exact Sm.rf.w rfl
  · exact Sm.rf
theorem s_in {s : Int32} (h : 0 ≤ s ∧ s < 8) : ∃ k, k < 8 ∧ s = nI k := by
  obtain ⟨j, hj, e⟩ := nI_of (Int32.not_lt.mpr h.1)
  have h2 := h.2
  rw [e, show (8 : Int32) = nI 8 from rfl, nI_ltI hj (by omega)] at h2
  exact ⟨j, h2, e⟩
/-- a row's refusal -/
def rrS (a p : Int32) : Int32 := if ¬ a = -1 then 0 else if p = -1 then -3 else -2
def rrM (M : jk_M) (b : Nat) : Int32 := rrS (M.2.1 b 0) (M.2.1 b 2)
def cpS (r1 r2 a1 a2 : Int32) : Int32 := if r1 = -1 ∨ r2 = -1 then -1 else if r1 = -2 ∨ r2 = -2 then -2 else if r1 = -3 ∨ r2 = -3 then -3 else if a1 = a2 then 0 else -2
def tdS (r n e z : Int32) : Int32 := if ¬ r = 0 then r else if n < 0 then -4 else if Int32.toInt64 z < Int32.toInt64 n * Int32.toInt64 e then -5 else if 40 < n then -6 else 0
def tdM (M : jk_M) (b : Nat) (n e : Int32) : Int32 := tdS (rrM M b) n e (M.2.1 b 1)
theorem rrS_n1 {a p : Int32} : ¬ rrS a p = -1 := by unfold rrS; grind
set_option maxRecDepth 20000 in
set_option maxHeartbeats 4000000 in
theorem T_X10_refuse {d : Nat} {M : jk_M} (hC : WC M) (c : Int32) : J Fr_X10_refuse d 0 0 0 [(0, .ref 0), (1, .int c)] [] M (jk_is (some (.int c)) (refM M c)) := by
  refine j_post (fun Q hQ => ?_)
  have e8 : nI 8 = (8 : Int32) := by decide
  refine j_iload_n 1 dX10_refuse_0 rfl ?_
  refine j_ineg dX10_refuse_1 ?_
  refine j_istore_n (L' := [(2, .int (0 - c)), (0, .ref 0), (1, .int c)]) dX10_refuse_2 (by decide) rfl ?_
  refine j_iload_n 0 dX10_refuse_3 rfl ?_
  refine j_if_le (tgt := 26) dX10_refuse_4 rfl (fun c1 => ?_) (fun c1 => ?_)
  · refine j_iload_n 2 dX10_refuse_26 rfl ?_
    refine j_iret dX10_refuse_27 rfl ?_
    exact hQ _ _ ⟨rfl, by simp only [refM]; rw [if_neg (by clear hQ; grind)]⟩
  · refine j_iload_n 0 dX10_refuse_7 rfl ?_
    refine j_aload_n 1 dX10_refuse_8 rfl ?_
    refine j_getr (q := 108) dX10_refuse_9 fX10_76 (shC hC sgC_0) rfl (rfC hC rfC_0_10 (nz (by decide))) ?_
    refine j_alen dX10_refuse_12 (shC hC sgC_108) (by decide) ?_
    refine j_icmp_ge (tgt := 26) dX10_refuse_13 rfl (fun c2 => ?_) (fun c2 => ?_)
    · refine j_iload_n 2 dX10_refuse_26 rfl ?_
      refine j_iret dX10_refuse_27 rfl ?_
      exact hQ _ _ ⟨rfl, by simp only [refM]; rw [if_neg (by clear hQ; grind)]⟩
    · refine j_aload_n 1 dX10_refuse_16 rfl ?_
      refine j_getr (q := 108) dX10_refuse_17 fX10_76 (shC hC sgC_0) rfl (rfC hC rfC_0_10 (nz (by decide))) ?_
      refine j_iload_n 0 dX10_refuse_20 rfl ?_
      refine j_dup2 dX10_refuse_21 rfl rfl ?_
      refine j_iald dX10_refuse_22 (shC hC sgC_108) (vpin 8 (by decide) (by clear hQ; grind) (by clear hQ; grind)) ?_
      refine j_iconst 1 dX10_refuse_23 ic_1 ?_
      refine j_iadd dX10_refuse_24 ?_
      refine j_iast dX10_refuse_25 (shC hC sgC_108) (vpin 8 (by decide) (by clear hQ; grind) (by clear hQ; grind)) ?_
      refine j_iload_n 2 dX10_refuse_26 rfl ?_
      refine j_iret dX10_refuse_27 rfl ?_
      exact hQ _ _ ⟨rfl, by simp only [refM]; rw [if_pos (by clear hQ; grind)]⟩
set_option maxRecDepth 20000 in
set_option maxHeartbeats 4000000 in
theorem T_shelfAtY {d : Nat} {M : jk_M} (hC : WC M) (k : Nat) (hk : k < 8) : J Fr_X10_shelfAt d 0 0 0 [(0, .ref 0), (1, .int (nI k))] [] M (jk_is (some (.ref (109 + 2 * k))) M) := by
  refine j_post (fun Q hQ => ?_)
  refine j_iload_n 1 dX10_shelfAt_0 rfl ?_
  refine j_if_ltN (tgt := 22) k dX10_shelfAt_1 (by omega) rfl ?_
  refine j_iload_n 1 dX10_shelfAt_4 rfl ?_
  refine j_aload_n 0 dX10_shelfAt_5 rfl ?_
  refine j_getr (q := 107) dX10_shelfAt_6 fX10_72 (shC hC sgC_0) rfl (rfC hC rfC_0_9 (nz (by decide))) ?_
  refine j_alen dX10_shelfAt_9 (shC hC sgC_107) (by decide) ?_
  refine j_icmp_geN (tgt := 22) k 8 dX10_shelfAt_10 rfl (by omega) (by omega) (fun c2 => ?_) (fun c2 => ?_)
  · exact absurd c2 (by omega)
  · refine j_aload_n 0 dX10_shelfAt_13 rfl ?_
    refine j_getr (q := 107) dX10_shelfAt_14 fX10_72 (shC hC sgC_0) rfl (rfC hC rfC_0_9 (nz (by decide))) ?_
    refine j_iload_n 1 dX10_shelfAt_17 rfl ?_
    refine j_aaldN k (q := (109 + 2 * k)) dX10_shelfAt_18 (shC hC sgC_107) (by decide) (by omega) (by omega) (rfC hC (rfS (by omega)) (nz (by decide))) ?_
    refine j_goto (tgt := 23) dX10_shelfAt_19 rfl ?_
    refine j_aret dX10_shelfAt_23 rfl ?_
    exact hQ _ _ ⟨rfl, rfl⟩
set_option maxRecDepth 20000 in
set_option maxHeartbeats 4000000 in
theorem T_shelfAtN {d : Nat} {M : jk_M} (hC : WC M) (s : Int32) (hs : ¬ (0 ≤ s ∧ s < 8)) : J Fr_X10_shelfAt d 0 0 0 [(0, .ref 0), (1, .int s)] [] M (jk_is (some .null) M) := by
  refine j_post (fun Q hQ => ?_)
  have e8 : nI 8 = (8 : Int32) := by decide
  refine j_iload_n 1 dX10_shelfAt_0 rfl ?_
  refine j_if_lt (tgt := 22) dX10_shelfAt_1 rfl (fun c1 => ?_) (fun c1 => ?_)
  · refine j_null dX10_shelfAt_22 ?_
    refine j_aretN dX10_shelfAt_23 rfl ?_
    exact hQ _ _ ⟨rfl, rfl⟩
  · refine j_iload_n 1 dX10_shelfAt_4 rfl ?_
    refine j_aload_n 0 dX10_shelfAt_5 rfl ?_
    refine j_getr (q := 107) dX10_shelfAt_6 fX10_72 (shC hC sgC_0) rfl (rfC hC rfC_0_9 (nz (by decide))) ?_
    refine j_alen dX10_shelfAt_9 (shC hC sgC_107) (by decide) ?_
    refine j_icmp_ge (tgt := 22) dX10_shelfAt_10 rfl (fun c2 => ?_) (fun c2 => ?_)
    · refine j_null dX10_shelfAt_22 ?_
      refine j_aretN dX10_shelfAt_23 rfl ?_
      exact hQ _ _ ⟨rfl, rfl⟩
    · exact absurd (show 0 ≤ s ∧ s < 8 by clear hQ; grind) hs
set_option maxRecDepth 20000 in
set_option maxHeartbeats 4000000 in
theorem T_X10_rowRefusal {d : Nat} {M : jk_M} {b : Nat} (hC : WC M) (hb : isS b) : J Fr_X10_rowRefusal (d + 1) 0 0 0 [(0, .ref b)] [] M (jk_is (some (.int (rrM M b))) M) := by
  refine j_post (fun Q hQ => ?_)
  refine j_aload_n 0 dX10_rowRefusal_0 rfl ?_
  refine j_ifnonnull (tgt := 6) dX10_rowRefusal_1 rfl ?_
  refine j_aload_n 0 dX10_rowRefusal_6 rfl ?_
  refine j_callV (kc := 0) (ks := 0) (a := 0) (b := 0) (d' := d) (As := []) dX10_rowRefusal_7 kX10_140 rfl (shC hC (sgG hb)) (by omega) rfl rfl rfl (Nat.le_of_ble_eq_true rfl) (Nat.le_of_ble_eq_true rfl) (T_X8_isRow hC hb) (kk_p ?_)
  refine j_if_eqB (p := (¬ M.2.1 b 0 = -1)) (tgt := 15) dX10_rowRefusal_10 rfl (fun c1 => ?_) (fun c1 => ?_)
  · refine j_aload_n 0 dX10_rowRefusal_15 rfl ?_
    refine j_get dX10_rowRefusal_16 fX10_147 (shC hC (sgG hb)) rfl ?_
    refine j_iconst (-1) dX10_rowRefusal_19 ic_n1 ?_
    refine j_icmp_ne (tgt := 28) dX10_rowRefusal_20 rfl (fun c2 => ?_) (fun c2 => ?_)
    · refine j_bipush (-2) dX10_rowRefusal_28 bp_n2 ?_
      refine j_iret dX10_rowRefusal_30 rfl ?_
      exact hQ _ _ ⟨by clear hQ; grind [rrM, rrS], rfl⟩
    · refine j_bipush (-3) dX10_rowRefusal_23 bp_n3 ?_
      refine j_goto (tgt := 30) dX10_rowRefusal_25 rfl ?_
      refine j_iret dX10_rowRefusal_30 rfl ?_
      exact hQ _ _ ⟨by clear hQ; grind [rrM, rrS], rfl⟩
  · refine j_iconst 0 dX10_rowRefusal_13 ic_0 ?_
    refine j_iret dX10_rowRefusal_14 rfl ?_
    exact hQ _ _ ⟨by clear hQ; grind [rrM, rrS], rfl⟩
set_option maxRecDepth 20000 in
set_option maxHeartbeats 4000000 in
theorem T_rowRefusalN {d : Nat} {M : jk_M} : J Fr_X10_rowRefusal (d + 1) 0 0 0 [(0, .null)] [] M (jk_is (some (.int (-1))) M) := by
  refine j_post (fun Q hQ => ?_)
  refine j_aload_nN 0 dX10_rowRefusal_0 rfl ?_
  refine j_ifnonnullN dX10_rowRefusal_1 ?_
  refine j_iconst (-1) dX10_rowRefusal_4 ic_n1 ?_
  refine j_iret dX10_rowRefusal_5 rfl ?_
  exact hQ _ _ ⟨rfl, rfl⟩
set_option maxRecDepth 20000 in
set_option maxHeartbeats 4000000 in
theorem T_X10_copyRefusal {d : Nat} {M : jk_M} {b b2 : Nat} (hC : WC M) (hb : isS b) (hb2 : isS b2) : J Fr_X10_copyRefusal (d + 2) 0 0 0 [(0, .ref b), (1, .ref b2)] [] M (jk_is (some (.int (cpS (rrM M b) (rrM M b2) (M.2.1 b 0) (M.2.1 b2 0)))) M) := by
  refine j_post (fun Q hQ => ?_)
  refine j_aload_n 0 dX10_copyRefusal_0 rfl ?_
  refine j_callS (kc := 0) (ks := 0) (a := 0) (b := 0) (d' := (d + 1)) (As := [.ref b]) dX10_copyRefusal_1 kX10_101 rfl (by omega) rfl rfl rfl (Nat.le_of_ble_eq_true rfl) (Nat.le_of_ble_eq_true rfl) (T_X10_rowRefusal hC hb) (kk_p ?_)
  refine j_istore_n (L' := [(2, .int (rrM M b)), (0, .ref b), (1, .ref b2)]) dX10_copyRefusal_4 (by decide) rfl ?_
  refine j_aload_n 2 dX10_copyRefusal_5 rfl ?_
  refine j_callS (kc := 0) (ks := 0) (a := 0) (b := 0) (d' := (d + 1)) (As := [.ref b2]) dX10_copyRefusal_6 kX10_101 rfl (by omega) rfl rfl rfl (Nat.le_of_ble_eq_true rfl) (Nat.le_of_ble_eq_true rfl) (T_X10_rowRefusal hC hb2) (kk_p ?_)
  refine j_istore_n (L' := [(3, .int (rrM M b2)), (2, .int (rrM M b)), (0, .ref b), (1, .ref b2)]) dX10_copyRefusal_9 (by decide) rfl ?_
  refine j_iload_n 1 dX10_copyRefusal_10 rfl ?_
  refine j_iconst (-1) dX10_copyRefusal_11 ic_n1 ?_
  refine j_icmp_eq (tgt := 28) dX10_copyRefusal_12 rfl (fun c1 => ?_) (fun c1 => ?_)
  · refine j_iconst (-1) dX10_copyRefusal_28 ic_n1 ?_
    refine j_iret dX10_copyRefusal_29 rfl ?_
    exact hQ _ _ ⟨by clear hQ; grind [cpS], rfl⟩
  · refine j_iload_n 0 dX10_copyRefusal_15 rfl ?_
    refine j_iconst (-1) dX10_copyRefusal_16 ic_n1 ?_
    refine j_icmp_eq (tgt := 28) dX10_copyRefusal_17 rfl (fun c2 => ?_) (fun c2 => ?_)
    · refine j_iconst (-1) dX10_copyRefusal_28 ic_n1 ?_
      refine j_iret dX10_copyRefusal_29 rfl ?_
      exact hQ _ _ ⟨by clear hQ; grind [cpS], rfl⟩
    · refine j_aload_n 2 dX10_copyRefusal_20 rfl ?_
      refine j_ifnull dX10_copyRefusal_21 ?_
      refine j_aload_n 3 dX10_copyRefusal_24 rfl ?_
      refine j_ifnonnull (tgt := 30) dX10_copyRefusal_25 rfl ?_
      refine j_iload_n 1 dX10_copyRefusal_30 rfl ?_
      refine j_bipush (-2) dX10_copyRefusal_31 bp_n2 ?_
      refine j_icmp_eq (tgt := 42) dX10_copyRefusal_33 rfl (fun c3 => ?_) (fun c3 => ?_)
      · refine j_bipush (-2) dX10_copyRefusal_42 bp_n2 ?_
        refine j_iret dX10_copyRefusal_44 rfl ?_
        exact hQ _ _ ⟨by clear hQ; grind [cpS], rfl⟩
      · refine j_iload_n 0 dX10_copyRefusal_36 rfl ?_
        refine j_bipush (-2) dX10_copyRefusal_37 bp_n2 ?_
        refine j_icmp_ne (tgt := 45) dX10_copyRefusal_39 rfl (fun c4 => ?_) (fun c4 => ?_)
        · refine j_iload_n 1 dX10_copyRefusal_45 rfl ?_
          refine j_bipush (-3) dX10_copyRefusal_46 bp_n3 ?_
          refine j_icmp_eq (tgt := 57) dX10_copyRefusal_48 rfl (fun c5 => ?_) (fun c5 => ?_)
          · refine j_bipush (-3) dX10_copyRefusal_57 bp_n3 ?_
            refine j_iret dX10_copyRefusal_59 rfl ?_
            exact hQ _ _ ⟨by clear hQ; grind [cpS], rfl⟩
          · refine j_iload_n 0 dX10_copyRefusal_51 rfl ?_
            refine j_bipush (-3) dX10_copyRefusal_52 bp_n3 ?_
            refine j_icmp_ne (tgt := 60) dX10_copyRefusal_54 rfl (fun c6 => ?_) (fun c6 => ?_)
            · refine j_aload_n 2 dX10_copyRefusal_60 rfl ?_
              refine j_get dX10_copyRefusal_61 fX10_144 (shC hC (sgG hb)) rfl ?_
              refine j_aload_n 3 dX10_copyRefusal_64 rfl ?_
              refine j_get dX10_copyRefusal_65 fX10_144 (shC hC (sgG hb2)) rfl ?_
              refine j_icmp_ne (tgt := 75) dX10_copyRefusal_68 rfl (fun c7 => ?_) (fun c7 => ?_)
              · refine j_bipush (-2) dX10_copyRefusal_75 bp_n2 ?_
                refine j_iret dX10_copyRefusal_77 rfl ?_
                exact hQ _ _ ⟨by clear hQ; grind [cpS], rfl⟩
              · refine j_iconst 0 dX10_copyRefusal_71 ic_0 ?_
                refine j_goto (tgt := 77) dX10_copyRefusal_72 rfl ?_
                refine j_iret dX10_copyRefusal_77 rfl ?_
                exact hQ _ _ ⟨by clear hQ; grind [cpS], rfl⟩
            · refine j_bipush (-3) dX10_copyRefusal_57 bp_n3 ?_
              refine j_iret dX10_copyRefusal_59 rfl ?_
              exact hQ _ _ ⟨by clear hQ; grind [cpS], rfl⟩
        · refine j_bipush (-2) dX10_copyRefusal_42 bp_n2 ?_
          refine j_iret dX10_copyRefusal_44 rfl ?_
          exact hQ _ _ ⟨by clear hQ; grind [cpS], rfl⟩
set_option maxRecDepth 20000 in
set_option maxHeartbeats 4000000 in
theorem T_copyRefusalN1 {d : Nat} {M : jk_M} {b2 : Nat} (hC : WC M) (hb2 : isS b2) : J Fr_X10_copyRefusal (d + 2) 0 0 0 [(0, .null), (1, .ref b2)] [] M (jk_is (some (.int (-1))) M) := by
  refine j_post (fun Q hQ => ?_)
  refine j_aload_nN 0 dX10_copyRefusal_0 rfl ?_
  refine j_callS (kc := 0) (ks := 0) (a := 0) (b := 0) (d' := (d + 1)) (As := [.null]) dX10_copyRefusal_1 kX10_101 rfl (by omega) rfl rfl rfl (Nat.le_of_ble_eq_true rfl) (Nat.le_of_ble_eq_true rfl) (T_rowRefusalN) (kk_p ?_)
  refine j_istore_n (L' := [(2, .int (-1)), (0, .null), (1, .ref b2)]) dX10_copyRefusal_4 (by decide) rfl ?_
  refine j_aload_n 2 dX10_copyRefusal_5 rfl ?_
  refine j_callS (kc := 0) (ks := 0) (a := 0) (b := 0) (d' := (d + 1)) (As := [.ref b2]) dX10_copyRefusal_6 kX10_101 rfl (by omega) rfl rfl rfl (Nat.le_of_ble_eq_true rfl) (Nat.le_of_ble_eq_true rfl) (T_X10_rowRefusal hC hb2) (kk_p ?_)
  refine j_istore_n (L' := [(3, .int (rrM M b2)), (2, .int (-1)), (0, .null), (1, .ref b2)]) dX10_copyRefusal_9 (by decide) rfl ?_
  refine j_iload_n 1 dX10_copyRefusal_10 rfl ?_
  refine j_iconst (-1) dX10_copyRefusal_11 ic_n1 ?_
  refine j_icmp_eq (tgt := 28) dX10_copyRefusal_12 rfl (fun c1 => ?_) (fun c1 => ?_)
  · refine j_iconst (-1) dX10_copyRefusal_28 ic_n1 ?_
    refine j_iret dX10_copyRefusal_29 rfl ?_
    exact hQ _ _ ⟨rfl, rfl⟩
  · exact absurd c1 (by decide)
set_option maxRecDepth 20000 in
set_option maxHeartbeats 4000000 in
theorem T_copyRefusalN2 {d : Nat} {M : jk_M} {b : Nat} (hC : WC M) (hb : isS b) : J Fr_X10_copyRefusal (d + 2) 0 0 0 [(0, .ref b), (1, .null)] [] M (jk_is (some (.int (-1))) M) := by
  refine j_post (fun Q hQ => ?_)
  refine j_aload_n 0 dX10_copyRefusal_0 rfl ?_
  refine j_callS (kc := 0) (ks := 0) (a := 0) (b := 0) (d' := (d + 1)) (As := [.ref b]) dX10_copyRefusal_1 kX10_101 rfl (by omega) rfl rfl rfl (Nat.le_of_ble_eq_true rfl) (Nat.le_of_ble_eq_true rfl) (T_X10_rowRefusal hC hb) (kk_p ?_)
  refine j_istore_n (L' := [(2, .int (rrM M b)), (0, .ref b), (1, .null)]) dX10_copyRefusal_4 (by decide) rfl ?_
  refine j_aload_nN 2 dX10_copyRefusal_5 rfl ?_
  refine j_callS (kc := 0) (ks := 0) (a := 0) (b := 0) (d' := (d + 1)) (As := [.null]) dX10_copyRefusal_6 kX10_101 rfl (by omega) rfl rfl rfl (Nat.le_of_ble_eq_true rfl) (Nat.le_of_ble_eq_true rfl) (T_rowRefusalN) (kk_p ?_)
  refine j_istore_n (L' := [(3, .int (-1)), (2, .int (rrM M b)), (0, .ref b), (1, .null)]) dX10_copyRefusal_9 (by decide) rfl ?_
  refine j_iload_n 1 dX10_copyRefusal_10 rfl ?_
  refine j_iconst (-1) dX10_copyRefusal_11 ic_n1 ?_
  refine j_icmp_eq (tgt := 28) dX10_copyRefusal_12 rfl (fun c1 => ?_) (fun c1 => ?_)
  · refine j_iconst (-1) dX10_copyRefusal_28 ic_n1 ?_
    refine j_iret dX10_copyRefusal_29 rfl ?_
    exact hQ _ _ ⟨rfl, rfl⟩
  · refine j_iload_n 0 dX10_copyRefusal_15 rfl ?_
    refine j_iconst (-1) dX10_copyRefusal_16 ic_n1 ?_
    refine j_icmp_eq (tgt := 28) dX10_copyRefusal_17 rfl (fun c2 => ?_) (fun c2 => ?_)
    · refine j_iconst (-1) dX10_copyRefusal_28 ic_n1 ?_
      refine j_iret dX10_copyRefusal_29 rfl ?_
      exact hQ _ _ ⟨rfl, rfl⟩
    · exact absurd c2 (by decide)
set_option maxRecDepth 20000 in
set_option maxHeartbeats 4000000 in
theorem T_copyRefusalN3 {d : Nat} {M : jk_M} : J Fr_X10_copyRefusal (d + 2) 0 0 0 [(0, .null), (1, .null)] [] M (jk_is (some (.int (-1))) M) := by
  refine j_post (fun Q hQ => ?_)
  refine j_aload_nN 0 dX10_copyRefusal_0 rfl ?_
  refine j_callS (kc := 0) (ks := 0) (a := 0) (b := 0) (d' := (d + 1)) (As := [.null]) dX10_copyRefusal_1 kX10_101 rfl (by omega) rfl rfl rfl (Nat.le_of_ble_eq_true rfl) (Nat.le_of_ble_eq_true rfl) (T_rowRefusalN) (kk_p ?_)
  refine j_istore_n (L' := [(2, .int (-1)), (0, .null), (1, .null)]) dX10_copyRefusal_4 (by decide) rfl ?_
  refine j_aload_nN 2 dX10_copyRefusal_5 rfl ?_
  refine j_callS (kc := 0) (ks := 0) (a := 0) (b := 0) (d' := (d + 1)) (As := [.null]) dX10_copyRefusal_6 kX10_101 rfl (by omega) rfl rfl rfl (Nat.le_of_ble_eq_true rfl) (Nat.le_of_ble_eq_true rfl) (T_rowRefusalN) (kk_p ?_)
  refine j_istore_n (L' := [(3, .int (-1)), (2, .int (-1)), (0, .null), (1, .null)]) dX10_copyRefusal_9 (by decide) rfl ?_
  refine j_iload_n 1 dX10_copyRefusal_10 rfl ?_
  refine j_iconst (-1) dX10_copyRefusal_11 ic_n1 ?_
  refine j_icmp_eq (tgt := 28) dX10_copyRefusal_12 rfl (fun c1 => ?_) (fun c1 => ?_)
  · refine j_iconst (-1) dX10_copyRefusal_28 ic_n1 ?_
    refine j_iret dX10_copyRefusal_29 rfl ?_
    exact hQ _ _ ⟨rfl, rfl⟩
  · exact absurd c1 (by decide)
set_option maxRecDepth 20000 in
set_option maxHeartbeats 4000000 in
theorem T_X10_toldRefusal {d : Nat} {M : jk_M} {b : Nat} (hC : WC M) (hb : isS b) (n e : Int32) : J Fr_X10_toldRefusal (d + 2) 0 0 0 [(0, .ref b), (1, .int n), (2, .int e)] [] M (jk_is (some (.int (tdM M b n e))) M) := by
  refine j_post (fun Q hQ => ?_)
  refine j_aload_n 0 dX10_toldRefusal_0 rfl ?_
  refine j_callS (kc := 0) (ks := 0) (a := 0) (b := 0) (d' := (d + 1)) (As := [.ref b]) dX10_toldRefusal_1 kX10_101 rfl (by omega) rfl rfl rfl (Nat.le_of_ble_eq_true rfl) (Nat.le_of_ble_eq_true rfl) (T_X10_rowRefusal hC hb) (kk_p ?_)
  refine j_istore_n (L' := [(3, .int (rrM M b)), (0, .ref b), (1, .int n), (2, .int e)]) dX10_toldRefusal_4 (by decide) rfl ?_
  refine j_iload_n 0 dX10_toldRefusal_5 rfl ?_
  refine j_if_ne (tgt := 13) dX10_toldRefusal_6 rfl (fun c1 => ?_) (fun c1 => ?_)
  · refine j_iload_n 0 dX10_toldRefusal_13 rfl ?_
    refine j_iret dX10_toldRefusal_14 rfl ?_
    exact hQ _ _ ⟨by clear hQ; grind [tdM, tdS], rfl⟩
  · refine j_aload_n 1 dX10_toldRefusal_9 rfl ?_
    refine j_ifnonnull (tgt := 15) dX10_toldRefusal_10 rfl ?_
    refine j_iload_n 2 dX10_toldRefusal_15 rfl ?_
    refine j_if_ge (tgt := 22) dX10_toldRefusal_16 rfl (fun c2 => ?_) (fun c2 => ?_)
    · refine j_iload_n 2 dX10_toldRefusal_22 rfl ?_
      refine j_i2l dX10_toldRefusal_23 ?_
      refine j_iload_n 3 dX10_toldRefusal_24 rfl ?_
      refine j_i2l dX10_toldRefusal_25 ?_
      refine j_lmul dX10_toldRefusal_26 ?_
      refine j_aload_n 1 dX10_toldRefusal_27 rfl ?_
      refine j_get dX10_toldRefusal_28 fX10_370 (shC hC (sgG hb)) rfl ?_
      refine j_i2l dX10_toldRefusal_31 ?_
      refine j_lcmple (tgt := 39) dX10_toldRefusal_32 dX10_toldRefusal_33 rfl (fun c3 => ?_) (fun c3 => ?_)
      · refine j_iload_n 2 dX10_toldRefusal_39 rfl ?_
        refine j_bipush 40 dX10_toldRefusal_40 bp_40 ?_
        refine j_icmp_le (tgt := 50) dX10_toldRefusal_42 rfl (fun c4 => ?_) (fun c4 => ?_)
        · refine j_iconst 0 dX10_toldRefusal_50 ic_0 ?_
          refine j_iret dX10_toldRefusal_51 rfl ?_
          exact hQ _ _ ⟨by clear hQ; grind [tdM, tdS], rfl⟩
        · refine j_bipush (-6) dX10_toldRefusal_45 bp_n6 ?_
          refine j_goto (tgt := 51) dX10_toldRefusal_47 rfl ?_
          refine j_iret dX10_toldRefusal_51 rfl ?_
          exact hQ _ _ ⟨by clear hQ; grind [tdM, tdS], rfl⟩
      · refine j_bipush (-5) dX10_toldRefusal_36 bp_n5 ?_
        refine j_iret dX10_toldRefusal_38 rfl ?_
        exact hQ _ _ ⟨by clear hQ; grind [tdM, tdS], rfl⟩
    · refine j_bipush (-4) dX10_toldRefusal_19 bp_n4 ?_
      refine j_iret dX10_toldRefusal_21 rfl ?_
      exact hQ _ _ ⟨by clear hQ; grind [tdM, tdS], rfl⟩
set_option maxRecDepth 20000 in
set_option maxHeartbeats 4000000 in
theorem T_toldRefusalN {d : Nat} {M : jk_M} (n e : Int32) : J Fr_X10_toldRefusal (d + 2) 0 0 0 [(0, .null), (1, .int n), (2, .int e)] [] M (jk_is (some (.int (-1))) M) := by
  refine j_post (fun Q hQ => ?_)
  refine j_aload_nN 0 dX10_toldRefusal_0 rfl ?_
  refine j_callS (kc := 0) (ks := 0) (a := 0) (b := 0) (d' := (d + 1)) (As := [.null]) dX10_toldRefusal_1 kX10_101 rfl (by omega) rfl rfl rfl (Nat.le_of_ble_eq_true rfl) (Nat.le_of_ble_eq_true rfl) (T_rowRefusalN) (kk_p ?_)
  refine j_istore_n (L' := [(3, .int (-1)), (0, .null), (1, .int n), (2, .int e)]) dX10_toldRefusal_4 (by decide) rfl ?_
  refine j_iload_n 0 dX10_toldRefusal_5 rfl ?_
  refine j_if_ne (tgt := 13) dX10_toldRefusal_6 rfl (fun c1 => ?_) (fun c1 => ?_)
  · refine j_iload_n 0 dX10_toldRefusal_13 rfl ?_
    refine j_iret dX10_toldRefusal_14 rfl ?_
    exact hQ _ _ ⟨rfl, rfl⟩
  · exact absurd c1 (by decide)
