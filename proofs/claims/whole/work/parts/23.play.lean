/-! plays -/
def noteM (M : jk_M) (b : Int32) : jk_M := jk_wI (if 0 ≤ M.2.1 105 3 ∧ M.2.1 105 3 < 20 then jk_wI M 106 (M.2.1 105 3).toNatClampNeg b else M) 105 3 (M.2.1 105 3 + 1)
def noteL (M : jk_M) : List Int32 → jk_M
  | [] => M
  | b :: l => noteL (noteM M b) l
def boS (m k : Int32) : Int32 := if 0 ≤ k * 3 + m ∧ k * 3 + m < 21 then jk_bo.getD (k * 3 + m).toNatClampNeg 0 else 0
theorem noteL_app (l l2 : List Int32) : ∀ M, noteL M (l ++ l2) = noteL (noteL M l) l2 := by
  induction l with
  | nil => intro M; rfl
  | cons b l ih => intro M; exact ih _
theorem noteM_g {M : jk_M} {b : Int32} : Sm (fun q => q = 105 ∨ q = 106) M (noteM M b) := by
  unfold noteM
  split
  · exact (Sm.rf.w (Or.inr rfl)).w (Or.inl rfl)
  · exact Sm.rf.w (Or.inl rfl)
theorem noteL_g (l : List Int32) : ∀ M, Sm (fun q => q = 105 ∨ q = 106) M (noteL M l) := by
  induction l with
  | nil => intro M; exact Sm.rf
  | cons b l ih => intro M; exact noteM_g.tr (ih _)
theorem noteM_k {M : jk_M} {b : Int32} {k : Nat} (hk : k < 3) : (noteM M b).2.1 105 k = M.2.1 105 k := by
  unfold noteM
  rw [rd_k (by omega)]
  split
  · exact rd_o (by decide)
  · rfl
theorem noteL_k {k : Nat} (hk : k < 3) (l : List Int32) : ∀ M, (noteL M l).2.1 105 k = M.2.1 105 k := by
  induction l with
  | nil => intro M; rfl
  | cons b l ih => intro M; exact (ih _).trans (noteM_k hk)
theorem bos_in {x : Int32} (h0 : ¬ x < 0) (h1 : ¬ nI 21 ≤ x) : vp_in x 21 := by
  have e : nI 21 = (21 : Int32) := by decide
  rw [e] at h1
  exact vpin 21 (by decide) (by grind) (by grind)
set_option maxRecDepth 20000 in
set_option maxHeartbeats 4000000 in
theorem T_X4_clear {d : Nat} {M : jk_M} (hC : WC M) : J Fr_X4_clear d 0 0 0 [(0, .ref 105)] [] M (jk_is none (jk_wI M 105 3 0)) := by
  refine j_post (fun Q hQ => ?_)
  refine j_aload_n 0 dX4_clear_0 rfl ?_
  refine j_iconst 0 dX4_clear_1 ic_0 ?_
  refine j_put dX4_clear_2 fX4_21 (shC hC sgC_105) rfl ?_
  refine j_vret dX4_clear_5 rfl ?_
  exact hQ _ _ ⟨rfl, rfl⟩
set_option maxRecDepth 20000 in
set_option maxHeartbeats 4000000 in
theorem T_X4_note {d : Nat} {M : jk_M} (hC : WC M) (b : Int32) : J Fr_X4_note d 0 0 0 [(0, .ref 105), (1, .int b)] [] M (jk_is none (noteM M b)) := by
  refine j_post (fun Q hQ => ?_)
  have e20 : nI 20 = (20 : Int32) := by decide
  refine j_aload_n 0 dX4_note_0 rfl ?_
  refine j_getv (M.2.1 105 3) dX4_note_1 fX4_21 (shC hC sgC_105) rfl rfl ?_
  refine j_if_lt (tgt := 29) dX4_note_4 rfl (fun c1 => ?_) (fun c1 => ?_)
  · refine j_aload_n 0 dX4_note_29 rfl ?_
    refine j_dup dX4_note_30 rfl ?_
    refine j_getv (M.2.1 105 3) dX4_note_31 fX4_21 (shC hC sgC_105) rfl rfl ?_
    refine j_iconst 1 dX4_note_34 ic_1 ?_
    refine j_iadd dX4_note_35 ?_
    refine j_put dX4_note_36 fX4_21 (shC hC sgC_105) rfl ?_
    have hW2 : WC (jk_wI M 105 3 ((M.2.1 105 3) + 1)) := (show Sg (fun _ => True) (fun _ => True) M (jk_wI M 105 3 ((M.2.1 105 3) + 1)) from by first | exact Sg.rf.w trivial | exact ((Sg.rf.w trivial).w trivial) | exact ((Sg.rf.w trivial).w trivial).w trivial | exact (((Sg.rf.w trivial).w trivial).w trivial).w trivial | exact ((((Sg.rf.w trivial).w trivial).w trivial).w trivial).w trivial).C hC
    refine j_vret dX4_note_39 rfl ?_
    exact hQ _ _ ⟨rfl, by simp only [noteM]; rw [if_neg (by clear hQ; grind)]⟩
  · refine j_aload_n 0 dX4_note_7 rfl ?_
    refine j_getv (M.2.1 105 3) dX4_note_8 fX4_21 (shC hC sgC_105) rfl rfl ?_
    refine j_aload_n 0 dX4_note_11 rfl ?_
    refine j_getr (q := 106) dX4_note_12 fX4_24 (shC hC sgC_105) rfl (rfC hC rfC_105_4 (nz (by decide))) ?_
    refine j_alen dX4_note_15 (shC hC sgC_106) (by decide) ?_
    refine j_icmp_ge (tgt := 29) dX4_note_16 rfl (fun c3 => ?_) (fun c3 => ?_)
    · refine j_aload_n 0 dX4_note_29 rfl ?_
      refine j_dup dX4_note_30 rfl ?_
      refine j_getv (M.2.1 105 3) dX4_note_31 fX4_21 (shC hC sgC_105) rfl rfl ?_
      refine j_iconst 1 dX4_note_34 ic_1 ?_
      refine j_iadd dX4_note_35 ?_
      refine j_put dX4_note_36 fX4_21 (shC hC sgC_105) rfl ?_
      have hW4 : WC (jk_wI M 105 3 ((M.2.1 105 3) + 1)) := (show Sg (fun _ => True) (fun _ => True) M (jk_wI M 105 3 ((M.2.1 105 3) + 1)) from by first | exact Sg.rf.w trivial | exact ((Sg.rf.w trivial).w trivial) | exact ((Sg.rf.w trivial).w trivial).w trivial | exact (((Sg.rf.w trivial).w trivial).w trivial).w trivial | exact ((((Sg.rf.w trivial).w trivial).w trivial).w trivial).w trivial).C hC
      refine j_vret dX4_note_39 rfl ?_
      exact hQ _ _ ⟨rfl, by simp only [noteM]; rw [if_neg (by clear hQ; grind)]⟩
    · refine j_aload_n 0 dX4_note_19 rfl ?_
      refine j_getr (q := 106) dX4_note_20 fX4_24 (shC hC sgC_105) rfl (rfC hC rfC_105_4 (nz (by decide))) ?_
      refine j_aload_n 0 dX4_note_23 rfl ?_
      refine j_getv (M.2.1 105 3) dX4_note_24 fX4_21 (shC hC sgC_105) rfl rfl ?_
      refine j_iload_n 1 dX4_note_27 rfl ?_
      refine j_iast dX4_note_28 (shC hC sgC_106) (vpin 20 (by decide) (by clear hQ; grind) (by clear hQ; grind)) ?_
      have hW5 : WC (jk_wI M 106 (M.2.1 105 3).toNatClampNeg b) := (show Sg (fun _ => True) (fun _ => True) M (jk_wI M 106 (M.2.1 105 3).toNatClampNeg b) from by first | exact Sg.rf.w trivial | exact ((Sg.rf.w trivial).w trivial) | exact ((Sg.rf.w trivial).w trivial).w trivial | exact (((Sg.rf.w trivial).w trivial).w trivial).w trivial | exact ((((Sg.rf.w trivial).w trivial).w trivial).w trivial).w trivial).C hC
      refine j_aload_n 0 dX4_note_29 rfl ?_
      refine j_dup dX4_note_30 rfl ?_
      refine j_getv (M.2.1 105 3) dX4_note_31 fX4_21 (shC hW5 sgC_105) rfl (rd_o (by decide)) ?_
      refine j_iconst 1 dX4_note_34 ic_1 ?_
      refine j_iadd dX4_note_35 ?_
      refine j_put dX4_note_36 fX4_21 (shC hW5 sgC_105) rfl ?_
      have hW6 : WC (jk_wI (jk_wI M 106 (M.2.1 105 3).toNatClampNeg b) 105 3 ((M.2.1 105 3) + 1)) := (show Sg (fun _ => True) (fun _ => True) M (jk_wI (jk_wI M 106 (M.2.1 105 3).toNatClampNeg b) 105 3 ((M.2.1 105 3) + 1)) from by first | exact Sg.rf.w trivial | exact ((Sg.rf.w trivial).w trivial) | exact ((Sg.rf.w trivial).w trivial).w trivial | exact (((Sg.rf.w trivial).w trivial).w trivial).w trivial | exact ((((Sg.rf.w trivial).w trivial).w trivial).w trivial).w trivial).C hC
      refine j_vret dX4_note_39 rfl ?_
      exact hQ _ _ ⟨rfl, by simp only [noteM]; rw [if_pos (by clear hQ; grind)]⟩
set_option maxRecDepth 20000 in
set_option maxHeartbeats 4000000 in
theorem T_X4_bodyAt {d : Nat} {M : jk_M} (hC : WC M) (i : Int32) : J Fr_X4_bodyAt d 0 0 0 [(0, .ref 105), (1, .int i)] [] M (jk_is (some (.int (if 0 ≤ i ∧ i < M.2.1 105 3 ∧ i < 20 then M.2.1 106 i.toNatClampNeg else -1))) M) := by
  refine j_post (fun Q hQ => ?_)
  have e20 : nI 20 = (20 : Int32) := by decide
  refine j_iload_n 1 dX4_bodyAt_0 rfl ?_
  refine j_if_lt (tgt := 30) dX4_bodyAt_1 rfl (fun c1 => ?_) (fun c1 => ?_)
  · refine j_iconst (-1) dX4_bodyAt_30 ic_n1 ?_
    refine j_iret dX4_bodyAt_31 rfl ?_
    exact hQ _ _ ⟨by clear hQ; grind, rfl⟩
  · refine j_iload_n 1 dX4_bodyAt_4 rfl ?_
    refine j_aload_n 0 dX4_bodyAt_5 rfl ?_
    refine j_get dX4_bodyAt_6 fX4_21 (shC hC sgC_105) rfl ?_
    refine j_icmp_ge (tgt := 30) dX4_bodyAt_9 rfl (fun c2 => ?_) (fun c2 => ?_)
    · refine j_iconst (-1) dX4_bodyAt_30 ic_n1 ?_
      refine j_iret dX4_bodyAt_31 rfl ?_
      exact hQ _ _ ⟨by clear hQ; grind, rfl⟩
    · refine j_iload_n 1 dX4_bodyAt_12 rfl ?_
      refine j_aload_n 0 dX4_bodyAt_13 rfl ?_
      refine j_getr (q := 106) dX4_bodyAt_14 fX4_24 (shC hC sgC_105) rfl (rfC hC rfC_105_4 (nz (by decide))) ?_
      refine j_alen dX4_bodyAt_17 (shC hC sgC_106) (by decide) ?_
      refine j_icmp_ge (tgt := 30) dX4_bodyAt_18 rfl (fun c3 => ?_) (fun c3 => ?_)
      · refine j_iconst (-1) dX4_bodyAt_30 ic_n1 ?_
        refine j_iret dX4_bodyAt_31 rfl ?_
        exact hQ _ _ ⟨by clear hQ; grind, rfl⟩
      · refine j_aload_n 0 dX4_bodyAt_21 rfl ?_
        refine j_getr (q := 106) dX4_bodyAt_22 fX4_24 (shC hC sgC_105) rfl (rfC hC rfC_105_4 (nz (by decide))) ?_
        refine j_iload_n 1 dX4_bodyAt_25 rfl ?_
        refine j_iald dX4_bodyAt_26 (shC hC sgC_106) (vpin 20 (by decide) (by clear hQ; grind) (by clear hQ; grind)) ?_
        refine j_goto (tgt := 31) dX4_bodyAt_27 rfl ?_
        refine j_iret dX4_bodyAt_31 rfl ?_
        exact hQ _ _ ⟨by clear hQ; grind, rfl⟩
set_option maxRecDepth 20000 in
set_option maxHeartbeats 4000000 in
theorem T_X4_bodyOf {d : Nat} {M : jk_M} (m k : Int32) : J Fr_X4_bodyOf d 0 0 0 [(0, .int m), (1, .int k)] [] M (jk_is (some (.int (boS m k))) M) := by
  refine j_post (fun Q hQ => ?_)
  have e21 : nI 21 = (21 : Int32) := by decide
  refine j_iload_n 1 dX4_bodyOf_0 rfl ?_
  refine j_iconst 3 dX4_bodyOf_1 ic_3 ?_
  refine j_imul dX4_bodyOf_2 ?_
  refine j_iload_n 0 dX4_bodyOf_3 rfl ?_
  refine j_iadd dX4_bodyOf_4 ?_
  refine j_istore_n (L' := [(2, .int ((k * 3) + m)), (0, .int m), (1, .int k)]) dX4_bodyOf_5 (by decide) rfl ?_
  refine j_iload_n 0 dX4_bodyOf_6 rfl ?_
  refine j_if_lt (tgt := 26) dX4_bodyOf_7 rfl (fun c1 => ?_) (fun c1 => ?_)
  · refine j_iconst 0 dX4_bodyOf_26 ic_0 ?_
    refine j_iret dX4_bodyOf_27 rfl ?_
    exact hQ _ _ ⟨by clear hQ; grind [boS], rfl⟩
  · refine j_iload_n 0 dX4_bodyOf_10 rfl ?_
    refine j_gets (j := 4) dX4_bodyOf_11 rfl sX4_32 ?_
    refine j_alenS (j := 4) dX4_bodyOf_14 rfl ?_
    refine j_topi 21 rfl ?_
    refine j_icmp_ge (tgt := 26) dX4_bodyOf_15 rfl (fun c2 => ?_) (fun c2 => ?_)
    · refine j_iconst 0 dX4_bodyOf_26 ic_0 ?_
      refine j_iret dX4_bodyOf_27 rfl ?_
      exact hQ _ _ ⟨by clear hQ; grind [boS], rfl⟩
    · refine j_gets (j := 4) dX4_bodyOf_18 rfl sX4_32 ?_
      refine j_iload_n 0 dX4_bodyOf_21 rfl ?_
      refine j_ialdS (j := 4) dX4_bodyOf_22 rfl (vpin 21 (by decide) (by clear hQ; grind) (by clear hQ; grind)) ?_
      refine j_goto (tgt := 27) dX4_bodyOf_23 rfl ?_
      refine j_iret dX4_bodyOf_27 rfl ?_
      exact hQ _ _ ⟨by clear hQ; grind [boS], rfl⟩
theorem T_bodyOf_c {d : Nat} {M : jk_M} {m k c : Int32} (h : boS m k = c) : J Fr_X4_bodyOf d 0 0 0 [(0, .int m), (1, .int k)] [] M (jk_is (some (.int c)) M) := by
  subst h
  exact T_X4_bodyOf m k
theorem T_kAb_c {d : Nat} {M : jk_M} {k c : Int32} (h : kAb k = c) : J Fr_X10_kindAbove d 0 0 0 [(0, .int k)] [] M (jk_is (some (.int c)) M) := by
  subst h
  exact T_X10_kindAbove k
set_option maxRecDepth 20000 in
set_option maxHeartbeats 4000000 in
theorem T_kwb_0_0 {d : Nat} {M : jk_M} : J Fr_X4_kindWithBody (d + 1) 0 0 0 [(0, .int 0), (1, .int 0)] [] M (jk_is (some (.int 0)) M) := by
  refine j_post (fun Q hQ => ?_)
  refine j_iload_n 1 dX4_kindWithBody_0 rfl ?_
  refine j_istore_n (L' := [(2, .int 0), (0, .int 0), (1, .int 0)]) dX4_kindWithBody_1 (by decide) rfl ?_
  refine j_iconst 0 dX4_kindWithBody_2 ic_0 ?_
  refine j_istore_n (L' := [(3, .int 0), (2, .int 0), (0, .int 0), (1, .int 0)]) dX4_kindWithBody_3 (by decide) rfl ?_
  refine j_iload_n 0 dX4_kindWithBody_4 rfl ?_
  refine j_bipush 7 dX4_kindWithBody_5 bp_7 ?_
  refine j_icmp_ge (tgt := 29) dX4_kindWithBody_7 rfl (fun c1 => ?_) (fun c1 => ?_)
  · exact absurd c1 (by decide)
  · refine j_iload_n 2 dX4_kindWithBody_10 rfl ?_
    refine j_iload_n 1 dX4_kindWithBody_11 rfl ?_
    refine j_callS (kc := 0) (ks := 0) (a := 0) (b := 0) (d' := d) (As := [.int 0, .int 0]) dX4_kindWithBody_12 kX4_35 rfl (by omega) rfl rfl rfl (Nat.le_of_ble_eq_true rfl) (Nat.le_of_ble_eq_true rfl) ((T_bodyOf_c (c := 10) (by decide))) (kk_p ?_)
    refine j_if_ne (tgt := 29) dX4_kindWithBody_15 rfl (fun c2 => ?_) (fun c2 => ?_)
    · refine j_iload_n 1 dX4_kindWithBody_29 rfl ?_
      refine j_iret dX4_kindWithBody_30 rfl ?_
      exact hQ _ _ ⟨rfl, rfl⟩
    · exact absurd c2 (by decide)
set_option maxRecDepth 20000 in
set_option maxHeartbeats 4000000 in
theorem T_kwb_0_1 {d : Nat} {M : jk_M} : J Fr_X4_kindWithBody (d + 1) 0 0 0 [(0, .int 0), (1, .int 1)] [] M (jk_is (some (.int 1)) M) := by
  refine j_post (fun Q hQ => ?_)
  refine j_iload_n 1 dX4_kindWithBody_0 rfl ?_
  refine j_istore_n (L' := [(2, .int 1), (0, .int 0), (1, .int 1)]) dX4_kindWithBody_1 (by decide) rfl ?_
  refine j_iconst 0 dX4_kindWithBody_2 ic_0 ?_
  refine j_istore_n (L' := [(3, .int 0), (2, .int 1), (0, .int 0), (1, .int 1)]) dX4_kindWithBody_3 (by decide) rfl ?_
  refine j_iload_n 0 dX4_kindWithBody_4 rfl ?_
  refine j_bipush 7 dX4_kindWithBody_5 bp_7 ?_
  refine j_icmp_ge (tgt := 29) dX4_kindWithBody_7 rfl (fun c1 => ?_) (fun c1 => ?_)
  · exact absurd c1 (by decide)
  · refine j_iload_n 2 dX4_kindWithBody_10 rfl ?_
    refine j_iload_n 1 dX4_kindWithBody_11 rfl ?_
    refine j_callS (kc := 0) (ks := 0) (a := 0) (b := 0) (d' := d) (As := [.int 0, .int 1]) dX4_kindWithBody_12 kX4_35 rfl (by omega) rfl rfl rfl (Nat.le_of_ble_eq_true rfl) (Nat.le_of_ble_eq_true rfl) ((T_bodyOf_c (c := 20) (by decide))) (kk_p ?_)
    refine j_if_ne (tgt := 29) dX4_kindWithBody_15 rfl (fun c2 => ?_) (fun c2 => ?_)
    · refine j_iload_n 1 dX4_kindWithBody_29 rfl ?_
      refine j_iret dX4_kindWithBody_30 rfl ?_
      exact hQ _ _ ⟨rfl, rfl⟩
    · exact absurd c2 (by decide)
set_option maxRecDepth 20000 in
set_option maxHeartbeats 4000000 in
theorem T_kwb_0_2 {d : Nat} {M : jk_M} : J Fr_X4_kindWithBody (d + 1) 0 0 0 [(0, .int 0), (1, .int 2)] [] M (jk_is (some (.int 0)) M) := by
  refine j_post (fun Q hQ => ?_)
  refine j_iload_n 1 dX4_kindWithBody_0 rfl ?_
  refine j_istore_n (L' := [(2, .int 2), (0, .int 0), (1, .int 2)]) dX4_kindWithBody_1 (by decide) rfl ?_
  refine j_iconst 0 dX4_kindWithBody_2 ic_0 ?_
  refine j_istore_n (L' := [(3, .int 0), (2, .int 2), (0, .int 0), (1, .int 2)]) dX4_kindWithBody_3 (by decide) rfl ?_
  refine j_iload_n 0 dX4_kindWithBody_4 rfl ?_
  refine j_bipush 7 dX4_kindWithBody_5 bp_7 ?_
  refine j_icmp_ge (tgt := 29) dX4_kindWithBody_7 rfl (fun c1 => ?_) (fun c1 => ?_)
  · exact absurd c1 (by decide)
  · refine j_iload_n 2 dX4_kindWithBody_10 rfl ?_
    refine j_iload_n 1 dX4_kindWithBody_11 rfl ?_
    refine j_callS (kc := 0) (ks := 0) (a := 0) (b := 0) (d' := d) (As := [.int 0, .int 2]) dX4_kindWithBody_12 kX4_35 rfl (by omega) rfl rfl rfl (Nat.le_of_ble_eq_true rfl) (Nat.le_of_ble_eq_true rfl) ((T_bodyOf_c (c := 0) (by decide))) (kk_p ?_)
    refine j_if_ne (tgt := 29) dX4_kindWithBody_15 rfl (fun c2 => ?_) (fun c2 => ?_)
    · exact absurd c2 (by decide)
    · refine j_iload_n 1 dX4_kindWithBody_18 rfl ?_
      refine j_callSN (kc := 0) (ks := 0) (a := 0) (b := 0) (d' := d) (As := [.int 2]) dX4_kindWithBody_19 kX4_39 rfl (by omega) rfl rfl rfl (Nat.le_of_ble_eq_true rfl) (Nat.le_of_ble_eq_true rfl) ((T_kAb_c (c := 0) (by decide))) (kk_p ?_)
      refine j_istore_n (L' := [(2, .int 0), (3, .int 0), (0, .int 0), (1, .int 2)]) dX4_kindWithBody_22 (by decide) rfl ?_
      refine j_iinc 1 1 (L' := [(3, .int 1), (2, .int 0), (0, .int 0), (1, .int 2)]) dX4_kindWithBody_23 rfl (by decide) (by decide) rfl ?_
      refine j_goto (tgt := 4) dX4_kindWithBody_26 rfl ?_
      refine j_iload_n 0 dX4_kindWithBody_4 rfl ?_
      refine j_bipush 7 dX4_kindWithBody_5 bp_7 ?_
      refine j_icmp_ge (tgt := 29) dX4_kindWithBody_7 rfl (fun c3 => ?_) (fun c3 => ?_)
      · exact absurd c3 (by decide)
      · refine j_iload_n 2 dX4_kindWithBody_10 rfl ?_
        refine j_iload_n 1 dX4_kindWithBody_11 rfl ?_
        refine j_callS (kc := 0) (ks := 0) (a := 0) (b := 0) (d' := d) (As := [.int 0, .int 0]) dX4_kindWithBody_12 kX4_35 rfl (by omega) rfl rfl rfl (Nat.le_of_ble_eq_true rfl) (Nat.le_of_ble_eq_true rfl) ((T_bodyOf_c (c := 10) (by decide))) (kk_p ?_)
        refine j_if_ne (tgt := 29) dX4_kindWithBody_15 rfl (fun c4 => ?_) (fun c4 => ?_)
        · refine j_iload_n 1 dX4_kindWithBody_29 rfl ?_
          refine j_iret dX4_kindWithBody_30 rfl ?_
          exact hQ _ _ ⟨rfl, rfl⟩
        · exact absurd c4 (by decide)
set_option maxRecDepth 20000 in
set_option maxHeartbeats 4000000 in
theorem T_kwb_0_3 {d : Nat} {M : jk_M} : J Fr_X4_kindWithBody (d + 1) 0 0 0 [(0, .int 0), (1, .int 3)] [] M (jk_is (some (.int 1)) M) := by
  refine j_post (fun Q hQ => ?_)
  refine j_iload_n 1 dX4_kindWithBody_0 rfl ?_
  refine j_istore_n (L' := [(2, .int 3), (0, .int 0), (1, .int 3)]) dX4_kindWithBody_1 (by decide) rfl ?_
  refine j_iconst 0 dX4_kindWithBody_2 ic_0 ?_
  refine j_istore_n (L' := [(3, .int 0), (2, .int 3), (0, .int 0), (1, .int 3)]) dX4_kindWithBody_3 (by decide) rfl ?_
  refine j_iload_n 0 dX4_kindWithBody_4 rfl ?_
  refine j_bipush 7 dX4_kindWithBody_5 bp_7 ?_
  refine j_icmp_ge (tgt := 29) dX4_kindWithBody_7 rfl (fun c1 => ?_) (fun c1 => ?_)
  · exact absurd c1 (by decide)
  · refine j_iload_n 2 dX4_kindWithBody_10 rfl ?_
    refine j_iload_n 1 dX4_kindWithBody_11 rfl ?_
    refine j_callS (kc := 0) (ks := 0) (a := 0) (b := 0) (d' := d) (As := [.int 0, .int 3]) dX4_kindWithBody_12 kX4_35 rfl (by omega) rfl rfl rfl (Nat.le_of_ble_eq_true rfl) (Nat.le_of_ble_eq_true rfl) ((T_bodyOf_c (c := 0) (by decide))) (kk_p ?_)
    refine j_if_ne (tgt := 29) dX4_kindWithBody_15 rfl (fun c2 => ?_) (fun c2 => ?_)
    · exact absurd c2 (by decide)
    · refine j_iload_n 1 dX4_kindWithBody_18 rfl ?_
      refine j_callSN (kc := 0) (ks := 0) (a := 0) (b := 0) (d' := d) (As := [.int 3]) dX4_kindWithBody_19 kX4_39 rfl (by omega) rfl rfl rfl (Nat.le_of_ble_eq_true rfl) (Nat.le_of_ble_eq_true rfl) ((T_kAb_c (c := 1) (by decide))) (kk_p ?_)
      refine j_istore_n (L' := [(2, .int 1), (3, .int 0), (0, .int 0), (1, .int 3)]) dX4_kindWithBody_22 (by decide) rfl ?_
      refine j_iinc 1 1 (L' := [(3, .int 1), (2, .int 1), (0, .int 0), (1, .int 3)]) dX4_kindWithBody_23 rfl (by decide) (by decide) rfl ?_
      refine j_goto (tgt := 4) dX4_kindWithBody_26 rfl ?_
      refine j_iload_n 0 dX4_kindWithBody_4 rfl ?_
      refine j_bipush 7 dX4_kindWithBody_5 bp_7 ?_
      refine j_icmp_ge (tgt := 29) dX4_kindWithBody_7 rfl (fun c3 => ?_) (fun c3 => ?_)
      · exact absurd c3 (by decide)
      · refine j_iload_n 2 dX4_kindWithBody_10 rfl ?_
        refine j_iload_n 1 dX4_kindWithBody_11 rfl ?_
        refine j_callS (kc := 0) (ks := 0) (a := 0) (b := 0) (d' := d) (As := [.int 0, .int 1]) dX4_kindWithBody_12 kX4_35 rfl (by omega) rfl rfl rfl (Nat.le_of_ble_eq_true rfl) (Nat.le_of_ble_eq_true rfl) ((T_bodyOf_c (c := 20) (by decide))) (kk_p ?_)
        refine j_if_ne (tgt := 29) dX4_kindWithBody_15 rfl (fun c4 => ?_) (fun c4 => ?_)
        · refine j_iload_n 1 dX4_kindWithBody_29 rfl ?_
          refine j_iret dX4_kindWithBody_30 rfl ?_
          exact hQ _ _ ⟨rfl, rfl⟩
        · exact absurd c4 (by decide)
set_option maxRecDepth 20000 in
set_option maxHeartbeats 4000000 in
theorem T_kwb_0_4 {d : Nat} {M : jk_M} : J Fr_X4_kindWithBody (d + 1) 0 0 0 [(0, .int 0), (1, .int 4)] [] M (jk_is (some (.int 4)) M) := by
  refine j_post (fun Q hQ => ?_)
  refine j_iload_n 1 dX4_kindWithBody_0 rfl ?_
  refine j_istore_n (L' := [(2, .int 4), (0, .int 0), (1, .int 4)]) dX4_kindWithBody_1 (by decide) rfl ?_
  refine j_iconst 0 dX4_kindWithBody_2 ic_0 ?_
  refine j_istore_n (L' := [(3, .int 0), (2, .int 4), (0, .int 0), (1, .int 4)]) dX4_kindWithBody_3 (by decide) rfl ?_
  refine j_iload_n 0 dX4_kindWithBody_4 rfl ?_
  refine j_bipush 7 dX4_kindWithBody_5 bp_7 ?_
  refine j_icmp_ge (tgt := 29) dX4_kindWithBody_7 rfl (fun c1 => ?_) (fun c1 => ?_)
  · exact absurd c1 (by decide)
  · refine j_iload_n 2 dX4_kindWithBody_10 rfl ?_
    refine j_iload_n 1 dX4_kindWithBody_11 rfl ?_
    refine j_callS (kc := 0) (ks := 0) (a := 0) (b := 0) (d' := d) (As := [.int 0, .int 4]) dX4_kindWithBody_12 kX4_35 rfl (by omega) rfl rfl rfl (Nat.le_of_ble_eq_true rfl) (Nat.le_of_ble_eq_true rfl) ((T_bodyOf_c (c := 51) (by decide))) (kk_p ?_)
    refine j_if_ne (tgt := 29) dX4_kindWithBody_15 rfl (fun c2 => ?_) (fun c2 => ?_)
    · refine j_iload_n 1 dX4_kindWithBody_29 rfl ?_
      refine j_iret dX4_kindWithBody_30 rfl ?_
      exact hQ _ _ ⟨rfl, rfl⟩
    · exact absurd c2 (by decide)
set_option maxRecDepth 20000 in
set_option maxHeartbeats 4000000 in
theorem T_kwb_0_5 {d : Nat} {M : jk_M} : J Fr_X4_kindWithBody (d + 1) 0 0 0 [(0, .int 0), (1, .int 5)] [] M (jk_is (some (.int 0)) M) := by
  refine j_post (fun Q hQ => ?_)
  refine j_iload_n 1 dX4_kindWithBody_0 rfl ?_
  refine j_istore_n (L' := [(2, .int 5), (0, .int 0), (1, .int 5)]) dX4_kindWithBody_1 (by decide) rfl ?_
  refine j_iconst 0 dX4_kindWithBody_2 ic_0 ?_
  refine j_istore_n (L' := [(3, .int 0), (2, .int 5), (0, .int 0), (1, .int 5)]) dX4_kindWithBody_3 (by decide) rfl ?_
  refine j_iload_n 0 dX4_kindWithBody_4 rfl ?_
  refine j_bipush 7 dX4_kindWithBody_5 bp_7 ?_
  refine j_icmp_ge (tgt := 29) dX4_kindWithBody_7 rfl (fun c1 => ?_) (fun c1 => ?_)
  · exact absurd c1 (by decide)
  · refine j_iload_n 2 dX4_kindWithBody_10 rfl ?_
    refine j_iload_n 1 dX4_kindWithBody_11 rfl ?_
    refine j_callS (kc := 0) (ks := 0) (a := 0) (b := 0) (d' := d) (As := [.int 0, .int 5]) dX4_kindWithBody_12 kX4_35 rfl (by omega) rfl rfl rfl (Nat.le_of_ble_eq_true rfl) (Nat.le_of_ble_eq_true rfl) ((T_bodyOf_c (c := 0) (by decide))) (kk_p ?_)
    refine j_if_ne (tgt := 29) dX4_kindWithBody_15 rfl (fun c2 => ?_) (fun c2 => ?_)
    · exact absurd c2 (by decide)
    · refine j_iload_n 1 dX4_kindWithBody_18 rfl ?_
      refine j_callSN (kc := 0) (ks := 0) (a := 0) (b := 0) (d' := d) (As := [.int 5]) dX4_kindWithBody_19 kX4_39 rfl (by omega) rfl rfl rfl (Nat.le_of_ble_eq_true rfl) (Nat.le_of_ble_eq_true rfl) ((T_kAb_c (c := 2) (by decide))) (kk_p ?_)
      refine j_istore_n (L' := [(2, .int 2), (3, .int 0), (0, .int 0), (1, .int 5)]) dX4_kindWithBody_22 (by decide) rfl ?_
      refine j_iinc 1 1 (L' := [(3, .int 1), (2, .int 2), (0, .int 0), (1, .int 5)]) dX4_kindWithBody_23 rfl (by decide) (by decide) rfl ?_
      refine j_goto (tgt := 4) dX4_kindWithBody_26 rfl ?_
      refine j_iload_n 0 dX4_kindWithBody_4 rfl ?_
      refine j_bipush 7 dX4_kindWithBody_5 bp_7 ?_
      refine j_icmp_ge (tgt := 29) dX4_kindWithBody_7 rfl (fun c3 => ?_) (fun c3 => ?_)
      · exact absurd c3 (by decide)
      · refine j_iload_n 2 dX4_kindWithBody_10 rfl ?_
        refine j_iload_n 1 dX4_kindWithBody_11 rfl ?_
        refine j_callS (kc := 0) (ks := 0) (a := 0) (b := 0) (d' := d) (As := [.int 0, .int 2]) dX4_kindWithBody_12 kX4_35 rfl (by omega) rfl rfl rfl (Nat.le_of_ble_eq_true rfl) (Nat.le_of_ble_eq_true rfl) ((T_bodyOf_c (c := 0) (by decide))) (kk_p ?_)
        refine j_if_ne (tgt := 29) dX4_kindWithBody_15 rfl (fun c4 => ?_) (fun c4 => ?_)
        · exact absurd c4 (by decide)
        · refine j_iload_n 1 dX4_kindWithBody_18 rfl ?_
          refine j_callSN (kc := 0) (ks := 0) (a := 0) (b := 0) (d' := d) (As := [.int 2]) dX4_kindWithBody_19 kX4_39 rfl (by omega) rfl rfl rfl (Nat.le_of_ble_eq_true rfl) (Nat.le_of_ble_eq_true rfl) ((T_kAb_c (c := 0) (by decide))) (kk_p ?_)
          refine j_istore_n (L' := [(2, .int 0), (3, .int 1), (0, .int 0), (1, .int 5)]) dX4_kindWithBody_22 (by decide) rfl ?_
          refine j_iinc 1 2 (L' := [(3, .int 2), (2, .int 0), (0, .int 0), (1, .int 5)]) dX4_kindWithBody_23 rfl (by decide) (by decide) rfl ?_
          refine j_goto (tgt := 4) dX4_kindWithBody_26 rfl ?_
          refine j_iload_n 0 dX4_kindWithBody_4 rfl ?_
          refine j_bipush 7 dX4_kindWithBody_5 bp_7 ?_
          refine j_icmp_ge (tgt := 29) dX4_kindWithBody_7 rfl (fun c5 => ?_) (fun c5 => ?_)
          · exact absurd c5 (by decide)
          · refine j_iload_n 2 dX4_kindWithBody_10 rfl ?_
            refine j_iload_n 1 dX4_kindWithBody_11 rfl ?_
            refine j_callS (kc := 0) (ks := 0) (a := 0) (b := 0) (d' := d) (As := [.int 0, .int 0]) dX4_kindWithBody_12 kX4_35 rfl (by omega) rfl rfl rfl (Nat.le_of_ble_eq_true rfl) (Nat.le_of_ble_eq_true rfl) ((T_bodyOf_c (c := 10) (by decide))) (kk_p ?_)
            refine j_if_ne (tgt := 29) dX4_kindWithBody_15 rfl (fun c6 => ?_) (fun c6 => ?_)
            · refine j_iload_n 1 dX4_kindWithBody_29 rfl ?_
              refine j_iret dX4_kindWithBody_30 rfl ?_
              exact hQ _ _ ⟨rfl, rfl⟩
            · exact absurd c6 (by decide)
set_option maxRecDepth 20000 in
set_option maxHeartbeats 4000000 in
theorem T_kwb_0_6 {d : Nat} {M : jk_M} : J Fr_X4_kindWithBody (d + 1) 0 0 0 [(0, .int 0), (1, .int 6)] [] M (jk_is (some (.int 6)) M) := by
  refine j_post (fun Q hQ => ?_)
  refine j_iload_n 1 dX4_kindWithBody_0 rfl ?_
  refine j_istore_n (L' := [(2, .int 6), (0, .int 0), (1, .int 6)]) dX4_kindWithBody_1 (by decide) rfl ?_
  refine j_iconst 0 dX4_kindWithBody_2 ic_0 ?_
  refine j_istore_n (L' := [(3, .int 0), (2, .int 6), (0, .int 0), (1, .int 6)]) dX4_kindWithBody_3 (by decide) rfl ?_
  refine j_iload_n 0 dX4_kindWithBody_4 rfl ?_
  refine j_bipush 7 dX4_kindWithBody_5 bp_7 ?_
  refine j_icmp_ge (tgt := 29) dX4_kindWithBody_7 rfl (fun c1 => ?_) (fun c1 => ?_)
  · exact absurd c1 (by decide)
  · refine j_iload_n 2 dX4_kindWithBody_10 rfl ?_
    refine j_iload_n 1 dX4_kindWithBody_11 rfl ?_
    refine j_callS (kc := 0) (ks := 0) (a := 0) (b := 0) (d' := d) (As := [.int 0, .int 6]) dX4_kindWithBody_12 kX4_35 rfl (by omega) rfl rfl rfl (Nat.le_of_ble_eq_true rfl) (Nat.le_of_ble_eq_true rfl) ((T_bodyOf_c (c := 70) (by decide))) (kk_p ?_)
    refine j_if_ne (tgt := 29) dX4_kindWithBody_15 rfl (fun c2 => ?_) (fun c2 => ?_)
    · refine j_iload_n 1 dX4_kindWithBody_29 rfl ?_
      refine j_iret dX4_kindWithBody_30 rfl ?_
      exact hQ _ _ ⟨rfl, rfl⟩
    · exact absurd c2 (by decide)
set_option maxRecDepth 20000 in
set_option maxHeartbeats 4000000 in
theorem T_kwb_1_0 {d : Nat} {M : jk_M} : J Fr_X4_kindWithBody (d + 1) 0 0 0 [(0, .int 1), (1, .int 0)] [] M (jk_is (some (.int 0)) M) := by
  refine j_post (fun Q hQ => ?_)
  refine j_iload_n 1 dX4_kindWithBody_0 rfl ?_
  refine j_istore_n (L' := [(2, .int 0), (0, .int 1), (1, .int 0)]) dX4_kindWithBody_1 (by decide) rfl ?_
  refine j_iconst 0 dX4_kindWithBody_2 ic_0 ?_
  refine j_istore_n (L' := [(3, .int 0), (2, .int 0), (0, .int 1), (1, .int 0)]) dX4_kindWithBody_3 (by decide) rfl ?_
  refine j_iload_n 0 dX4_kindWithBody_4 rfl ?_
  refine j_bipush 7 dX4_kindWithBody_5 bp_7 ?_
  refine j_icmp_ge (tgt := 29) dX4_kindWithBody_7 rfl (fun c1 => ?_) (fun c1 => ?_)
  · exact absurd c1 (by decide)
  · refine j_iload_n 2 dX4_kindWithBody_10 rfl ?_
    refine j_iload_n 1 dX4_kindWithBody_11 rfl ?_
    refine j_callS (kc := 0) (ks := 0) (a := 0) (b := 0) (d' := d) (As := [.int 1, .int 0]) dX4_kindWithBody_12 kX4_35 rfl (by omega) rfl rfl rfl (Nat.le_of_ble_eq_true rfl) (Nat.le_of_ble_eq_true rfl) ((T_bodyOf_c (c := 11) (by decide))) (kk_p ?_)
    refine j_if_ne (tgt := 29) dX4_kindWithBody_15 rfl (fun c2 => ?_) (fun c2 => ?_)
    · refine j_iload_n 1 dX4_kindWithBody_29 rfl ?_
      refine j_iret dX4_kindWithBody_30 rfl ?_
      exact hQ _ _ ⟨rfl, rfl⟩
    · exact absurd c2 (by decide)
set_option maxRecDepth 20000 in
set_option maxHeartbeats 4000000 in
theorem T_kwb_1_1 {d : Nat} {M : jk_M} : J Fr_X4_kindWithBody (d + 1) 0 0 0 [(0, .int 1), (1, .int 1)] [] M (jk_is (some (.int 0)) M) := by
  refine j_post (fun Q hQ => ?_)
  refine j_iload_n 1 dX4_kindWithBody_0 rfl ?_
  refine j_istore_n (L' := [(2, .int 1), (0, .int 1), (1, .int 1)]) dX4_kindWithBody_1 (by decide) rfl ?_
  refine j_iconst 0 dX4_kindWithBody_2 ic_0 ?_
  refine j_istore_n (L' := [(3, .int 0), (2, .int 1), (0, .int 1), (1, .int 1)]) dX4_kindWithBody_3 (by decide) rfl ?_
  refine j_iload_n 0 dX4_kindWithBody_4 rfl ?_
  refine j_bipush 7 dX4_kindWithBody_5 bp_7 ?_
  refine j_icmp_ge (tgt := 29) dX4_kindWithBody_7 rfl (fun c1 => ?_) (fun c1 => ?_)
  · exact absurd c1 (by decide)
  · refine j_iload_n 2 dX4_kindWithBody_10 rfl ?_
    refine j_iload_n 1 dX4_kindWithBody_11 rfl ?_
    refine j_callS (kc := 0) (ks := 0) (a := 0) (b := 0) (d' := d) (As := [.int 1, .int 1]) dX4_kindWithBody_12 kX4_35 rfl (by omega) rfl rfl rfl (Nat.le_of_ble_eq_true rfl) (Nat.le_of_ble_eq_true rfl) ((T_bodyOf_c (c := 0) (by decide))) (kk_p ?_)
    refine j_if_ne (tgt := 29) dX4_kindWithBody_15 rfl (fun c2 => ?_) (fun c2 => ?_)
    · exact absurd c2 (by decide)
    · refine j_iload_n 1 dX4_kindWithBody_18 rfl ?_
      refine j_callSN (kc := 0) (ks := 0) (a := 0) (b := 0) (d' := d) (As := [.int 1]) dX4_kindWithBody_19 kX4_39 rfl (by omega) rfl rfl rfl (Nat.le_of_ble_eq_true rfl) (Nat.le_of_ble_eq_true rfl) ((T_kAb_c (c := 0) (by decide))) (kk_p ?_)
      refine j_istore_n (L' := [(2, .int 0), (3, .int 0), (0, .int 1), (1, .int 1)]) dX4_kindWithBody_22 (by decide) rfl ?_
      refine j_iinc 1 1 (L' := [(3, .int 1), (2, .int 0), (0, .int 1), (1, .int 1)]) dX4_kindWithBody_23 rfl (by decide) (by decide) rfl ?_
      refine j_goto (tgt := 4) dX4_kindWithBody_26 rfl ?_
      refine j_iload_n 0 dX4_kindWithBody_4 rfl ?_
      refine j_bipush 7 dX4_kindWithBody_5 bp_7 ?_
      refine j_icmp_ge (tgt := 29) dX4_kindWithBody_7 rfl (fun c3 => ?_) (fun c3 => ?_)
      · exact absurd c3 (by decide)
      · refine j_iload_n 2 dX4_kindWithBody_10 rfl ?_
        refine j_iload_n 1 dX4_kindWithBody_11 rfl ?_
        refine j_callS (kc := 0) (ks := 0) (a := 0) (b := 0) (d' := d) (As := [.int 1, .int 0]) dX4_kindWithBody_12 kX4_35 rfl (by omega) rfl rfl rfl (Nat.le_of_ble_eq_true rfl) (Nat.le_of_ble_eq_true rfl) ((T_bodyOf_c (c := 11) (by decide))) (kk_p ?_)
        refine j_if_ne (tgt := 29) dX4_kindWithBody_15 rfl (fun c4 => ?_) (fun c4 => ?_)
        · refine j_iload_n 1 dX4_kindWithBody_29 rfl ?_
          refine j_iret dX4_kindWithBody_30 rfl ?_
          exact hQ _ _ ⟨rfl, rfl⟩
        · exact absurd c4 (by decide)
set_option maxRecDepth 20000 in
set_option maxHeartbeats 4000000 in
theorem T_kwb_1_2 {d : Nat} {M : jk_M} : J Fr_X4_kindWithBody (d + 1) 0 0 0 [(0, .int 1), (1, .int 2)] [] M (jk_is (some (.int 2)) M) := by
  refine j_post (fun Q hQ => ?_)
  refine j_iload_n 1 dX4_kindWithBody_0 rfl ?_
  refine j_istore_n (L' := [(2, .int 2), (0, .int 1), (1, .int 2)]) dX4_kindWithBody_1 (by decide) rfl ?_
  refine j_iconst 0 dX4_kindWithBody_2 ic_0 ?_
  refine j_istore_n (L' := [(3, .int 0), (2, .int 2), (0, .int 1), (1, .int 2)]) dX4_kindWithBody_3 (by decide) rfl ?_
  refine j_iload_n 0 dX4_kindWithBody_4 rfl ?_
  refine j_bipush 7 dX4_kindWithBody_5 bp_7 ?_
  refine j_icmp_ge (tgt := 29) dX4_kindWithBody_7 rfl (fun c1 => ?_) (fun c1 => ?_)
  · exact absurd c1 (by decide)
  · refine j_iload_n 2 dX4_kindWithBody_10 rfl ?_
    refine j_iload_n 1 dX4_kindWithBody_11 rfl ?_
    refine j_callS (kc := 0) (ks := 0) (a := 0) (b := 0) (d' := d) (As := [.int 1, .int 2]) dX4_kindWithBody_12 kX4_35 rfl (by omega) rfl rfl rfl (Nat.le_of_ble_eq_true rfl) (Nat.le_of_ble_eq_true rfl) ((T_bodyOf_c (c := 30) (by decide))) (kk_p ?_)
    refine j_if_ne (tgt := 29) dX4_kindWithBody_15 rfl (fun c2 => ?_) (fun c2 => ?_)
    · refine j_iload_n 1 dX4_kindWithBody_29 rfl ?_
      refine j_iret dX4_kindWithBody_30 rfl ?_
      exact hQ _ _ ⟨rfl, rfl⟩
    · exact absurd c2 (by decide)
set_option maxRecDepth 20000 in
set_option maxHeartbeats 4000000 in
theorem T_kwb_1_3 {d : Nat} {M : jk_M} : J Fr_X4_kindWithBody (d + 1) 0 0 0 [(0, .int 1), (1, .int 3)] [] M (jk_is (some (.int 3)) M) := by
  refine j_post (fun Q hQ => ?_)
  refine j_iload_n 1 dX4_kindWithBody_0 rfl ?_
  refine j_istore_n (L' := [(2, .int 3), (0, .int 1), (1, .int 3)]) dX4_kindWithBody_1 (by decide) rfl ?_
  refine j_iconst 0 dX4_kindWithBody_2 ic_0 ?_
  refine j_istore_n (L' := [(3, .int 0), (2, .int 3), (0, .int 1), (1, .int 3)]) dX4_kindWithBody_3 (by decide) rfl ?_
  refine j_iload_n 0 dX4_kindWithBody_4 rfl ?_
  refine j_bipush 7 dX4_kindWithBody_5 bp_7 ?_
  refine j_icmp_ge (tgt := 29) dX4_kindWithBody_7 rfl (fun c1 => ?_) (fun c1 => ?_)
  · exact absurd c1 (by decide)
  · refine j_iload_n 2 dX4_kindWithBody_10 rfl ?_
    refine j_iload_n 1 dX4_kindWithBody_11 rfl ?_
    refine j_callS (kc := 0) (ks := 0) (a := 0) (b := 0) (d' := d) (As := [.int 1, .int 3]) dX4_kindWithBody_12 kX4_35 rfl (by omega) rfl rfl rfl (Nat.le_of_ble_eq_true rfl) (Nat.le_of_ble_eq_true rfl) ((T_bodyOf_c (c := 40) (by decide))) (kk_p ?_)
    refine j_if_ne (tgt := 29) dX4_kindWithBody_15 rfl (fun c2 => ?_) (fun c2 => ?_)
    · refine j_iload_n 1 dX4_kindWithBody_29 rfl ?_
      refine j_iret dX4_kindWithBody_30 rfl ?_
      exact hQ _ _ ⟨rfl, rfl⟩
    · exact absurd c2 (by decide)
set_option maxRecDepth 20000 in
set_option maxHeartbeats 4000000 in
theorem T_kwb_1_4 {d : Nat} {M : jk_M} : J Fr_X4_kindWithBody (d + 1) 0 0 0 [(0, .int 1), (1, .int 4)] [] M (jk_is (some (.int 0)) M) := by
  refine j_post (fun Q hQ => ?_)
  refine j_iload_n 1 dX4_kindWithBody_0 rfl ?_
  refine j_istore_n (L' := [(2, .int 4), (0, .int 1), (1, .int 4)]) dX4_kindWithBody_1 (by decide) rfl ?_
  refine j_iconst 0 dX4_kindWithBody_2 ic_0 ?_
  refine j_istore_n (L' := [(3, .int 0), (2, .int 4), (0, .int 1), (1, .int 4)]) dX4_kindWithBody_3 (by decide) rfl ?_
  refine j_iload_n 0 dX4_kindWithBody_4 rfl ?_
  refine j_bipush 7 dX4_kindWithBody_5 bp_7 ?_
  refine j_icmp_ge (tgt := 29) dX4_kindWithBody_7 rfl (fun c1 => ?_) (fun c1 => ?_)
  · exact absurd c1 (by decide)
  · refine j_iload_n 2 dX4_kindWithBody_10 rfl ?_
    refine j_iload_n 1 dX4_kindWithBody_11 rfl ?_
    refine j_callS (kc := 0) (ks := 0) (a := 0) (b := 0) (d' := d) (As := [.int 1, .int 4]) dX4_kindWithBody_12 kX4_35 rfl (by omega) rfl rfl rfl (Nat.le_of_ble_eq_true rfl) (Nat.le_of_ble_eq_true rfl) ((T_bodyOf_c (c := 0) (by decide))) (kk_p ?_)
    refine j_if_ne (tgt := 29) dX4_kindWithBody_15 rfl (fun c2 => ?_) (fun c2 => ?_)
    · exact absurd c2 (by decide)
    · refine j_iload_n 1 dX4_kindWithBody_18 rfl ?_
      refine j_callSN (kc := 0) (ks := 0) (a := 0) (b := 0) (d' := d) (As := [.int 4]) dX4_kindWithBody_19 kX4_39 rfl (by omega) rfl rfl rfl (Nat.le_of_ble_eq_true rfl) (Nat.le_of_ble_eq_true rfl) ((T_kAb_c (c := 0) (by decide))) (kk_p ?_)
      refine j_istore_n (L' := [(2, .int 0), (3, .int 0), (0, .int 1), (1, .int 4)]) dX4_kindWithBody_22 (by decide) rfl ?_
      refine j_iinc 1 1 (L' := [(3, .int 1), (2, .int 0), (0, .int 1), (1, .int 4)]) dX4_kindWithBody_23 rfl (by decide) (by decide) rfl ?_
      refine j_goto (tgt := 4) dX4_kindWithBody_26 rfl ?_
      refine j_iload_n 0 dX4_kindWithBody_4 rfl ?_
      refine j_bipush 7 dX4_kindWithBody_5 bp_7 ?_
      refine j_icmp_ge (tgt := 29) dX4_kindWithBody_7 rfl (fun c3 => ?_) (fun c3 => ?_)
      · exact absurd c3 (by decide)
      · refine j_iload_n 2 dX4_kindWithBody_10 rfl ?_
        refine j_iload_n 1 dX4_kindWithBody_11 rfl ?_
        refine j_callS (kc := 0) (ks := 0) (a := 0) (b := 0) (d' := d) (As := [.int 1, .int 0]) dX4_kindWithBody_12 kX4_35 rfl (by omega) rfl rfl rfl (Nat.le_of_ble_eq_true rfl) (Nat.le_of_ble_eq_true rfl) ((T_bodyOf_c (c := 11) (by decide))) (kk_p ?_)
        refine j_if_ne (tgt := 29) dX4_kindWithBody_15 rfl (fun c4 => ?_) (fun c4 => ?_)
        · refine j_iload_n 1 dX4_kindWithBody_29 rfl ?_
          refine j_iret dX4_kindWithBody_30 rfl ?_
          exact hQ _ _ ⟨rfl, rfl⟩
        · exact absurd c4 (by decide)
set_option maxRecDepth 20000 in
set_option maxHeartbeats 4000000 in
theorem T_kwb_1_5 {d : Nat} {M : jk_M} : J Fr_X4_kindWithBody (d + 1) 0 0 0 [(0, .int 1), (1, .int 5)] [] M (jk_is (some (.int 2)) M) := by
  refine j_post (fun Q hQ => ?_)
  refine j_iload_n 1 dX4_kindWithBody_0 rfl ?_
  refine j_istore_n (L' := [(2, .int 5), (0, .int 1), (1, .int 5)]) dX4_kindWithBody_1 (by decide) rfl ?_
  refine j_iconst 0 dX4_kindWithBody_2 ic_0 ?_
  refine j_istore_n (L' := [(3, .int 0), (2, .int 5), (0, .int 1), (1, .int 5)]) dX4_kindWithBody_3 (by decide) rfl ?_
  refine j_iload_n 0 dX4_kindWithBody_4 rfl ?_
  refine j_bipush 7 dX4_kindWithBody_5 bp_7 ?_
  refine j_icmp_ge (tgt := 29) dX4_kindWithBody_7 rfl (fun c1 => ?_) (fun c1 => ?_)
  · exact absurd c1 (by decide)
  · refine j_iload_n 2 dX4_kindWithBody_10 rfl ?_
    refine j_iload_n 1 dX4_kindWithBody_11 rfl ?_
    refine j_callS (kc := 0) (ks := 0) (a := 0) (b := 0) (d' := d) (As := [.int 1, .int 5]) dX4_kindWithBody_12 kX4_35 rfl (by omega) rfl rfl rfl (Nat.le_of_ble_eq_true rfl) (Nat.le_of_ble_eq_true rfl) ((T_bodyOf_c (c := 0) (by decide))) (kk_p ?_)
    refine j_if_ne (tgt := 29) dX4_kindWithBody_15 rfl (fun c2 => ?_) (fun c2 => ?_)
    · exact absurd c2 (by decide)
    · refine j_iload_n 1 dX4_kindWithBody_18 rfl ?_
      refine j_callSN (kc := 0) (ks := 0) (a := 0) (b := 0) (d' := d) (As := [.int 5]) dX4_kindWithBody_19 kX4_39 rfl (by omega) rfl rfl rfl (Nat.le_of_ble_eq_true rfl) (Nat.le_of_ble_eq_true rfl) ((T_kAb_c (c := 2) (by decide))) (kk_p ?_)
      refine j_istore_n (L' := [(2, .int 2), (3, .int 0), (0, .int 1), (1, .int 5)]) dX4_kindWithBody_22 (by decide) rfl ?_
      refine j_iinc 1 1 (L' := [(3, .int 1), (2, .int 2), (0, .int 1), (1, .int 5)]) dX4_kindWithBody_23 rfl (by decide) (by decide) rfl ?_
      refine j_goto (tgt := 4) dX4_kindWithBody_26 rfl ?_
      refine j_iload_n 0 dX4_kindWithBody_4 rfl ?_
      refine j_bipush 7 dX4_kindWithBody_5 bp_7 ?_
      refine j_icmp_ge (tgt := 29) dX4_kindWithBody_7 rfl (fun c3 => ?_) (fun c3 => ?_)
      · exact absurd c3 (by decide)
      · refine j_iload_n 2 dX4_kindWithBody_10 rfl ?_
        refine j_iload_n 1 dX4_kindWithBody_11 rfl ?_
        refine j_callS (kc := 0) (ks := 0) (a := 0) (b := 0) (d' := d) (As := [.int 1, .int 2]) dX4_kindWithBody_12 kX4_35 rfl (by omega) rfl rfl rfl (Nat.le_of_ble_eq_true rfl) (Nat.le_of_ble_eq_true rfl) ((T_bodyOf_c (c := 30) (by decide))) (kk_p ?_)
        refine j_if_ne (tgt := 29) dX4_kindWithBody_15 rfl (fun c4 => ?_) (fun c4 => ?_)
        · refine j_iload_n 1 dX4_kindWithBody_29 rfl ?_
          refine j_iret dX4_kindWithBody_30 rfl ?_
          exact hQ _ _ ⟨rfl, rfl⟩
        · exact absurd c4 (by decide)
set_option maxRecDepth 20000 in
set_option maxHeartbeats 4000000 in
theorem T_kwb_1_6 {d : Nat} {M : jk_M} : J Fr_X4_kindWithBody (d + 1) 0 0 0 [(0, .int 1), (1, .int 6)] [] M (jk_is (some (.int 6)) M) := by
  refine j_post (fun Q hQ => ?_)
  refine j_iload_n 1 dX4_kindWithBody_0 rfl ?_
  refine j_istore_n (L' := [(2, .int 6), (0, .int 1), (1, .int 6)]) dX4_kindWithBody_1 (by decide) rfl ?_
  refine j_iconst 0 dX4_kindWithBody_2 ic_0 ?_
  refine j_istore_n (L' := [(3, .int 0), (2, .int 6), (0, .int 1), (1, .int 6)]) dX4_kindWithBody_3 (by decide) rfl ?_
  refine j_iload_n 0 dX4_kindWithBody_4 rfl ?_
  refine j_bipush 7 dX4_kindWithBody_5 bp_7 ?_
  refine j_icmp_ge (tgt := 29) dX4_kindWithBody_7 rfl (fun c1 => ?_) (fun c1 => ?_)
  · exact absurd c1 (by decide)
  · refine j_iload_n 2 dX4_kindWithBody_10 rfl ?_
    refine j_iload_n 1 dX4_kindWithBody_11 rfl ?_
    refine j_callS (kc := 0) (ks := 0) (a := 0) (b := 0) (d' := d) (As := [.int 1, .int 6]) dX4_kindWithBody_12 kX4_35 rfl (by omega) rfl rfl rfl (Nat.le_of_ble_eq_true rfl) (Nat.le_of_ble_eq_true rfl) ((T_bodyOf_c (c := 71) (by decide))) (kk_p ?_)
    refine j_if_ne (tgt := 29) dX4_kindWithBody_15 rfl (fun c2 => ?_) (fun c2 => ?_)
    · refine j_iload_n 1 dX4_kindWithBody_29 rfl ?_
      refine j_iret dX4_kindWithBody_30 rfl ?_
      exact hQ _ _ ⟨rfl, rfl⟩
    · exact absurd c2 (by decide)
set_option maxRecDepth 20000 in
set_option maxHeartbeats 4000000 in
theorem T_kwb_2_0 {d : Nat} {M : jk_M} : J Fr_X4_kindWithBody (d + 1) 0 0 0 [(0, .int 2), (1, .int 0)] [] M (jk_is (some (.int 0)) M) := by
  refine j_post (fun Q hQ => ?_)
  refine j_iload_n 1 dX4_kindWithBody_0 rfl ?_
  refine j_istore_n (L' := [(2, .int 0), (0, .int 2), (1, .int 0)]) dX4_kindWithBody_1 (by decide) rfl ?_
  refine j_iconst 0 dX4_kindWithBody_2 ic_0 ?_
  refine j_istore_n (L' := [(3, .int 0), (2, .int 0), (0, .int 2), (1, .int 0)]) dX4_kindWithBody_3 (by decide) rfl ?_
  refine j_iload_n 0 dX4_kindWithBody_4 rfl ?_
  refine j_bipush 7 dX4_kindWithBody_5 bp_7 ?_
  refine j_icmp_ge (tgt := 29) dX4_kindWithBody_7 rfl (fun c1 => ?_) (fun c1 => ?_)
  · exact absurd c1 (by decide)
  · refine j_iload_n 2 dX4_kindWithBody_10 rfl ?_
    refine j_iload_n 1 dX4_kindWithBody_11 rfl ?_
    refine j_callS (kc := 0) (ks := 0) (a := 0) (b := 0) (d' := d) (As := [.int 2, .int 0]) dX4_kindWithBody_12 kX4_35 rfl (by omega) rfl rfl rfl (Nat.le_of_ble_eq_true rfl) (Nat.le_of_ble_eq_true rfl) ((T_bodyOf_c (c := 12) (by decide))) (kk_p ?_)
    refine j_if_ne (tgt := 29) dX4_kindWithBody_15 rfl (fun c2 => ?_) (fun c2 => ?_)
    · refine j_iload_n 1 dX4_kindWithBody_29 rfl ?_
      refine j_iret dX4_kindWithBody_30 rfl ?_
      exact hQ _ _ ⟨rfl, rfl⟩
    · exact absurd c2 (by decide)
set_option maxRecDepth 20000 in
set_option maxHeartbeats 4000000 in
theorem T_kwb_2_1 {d : Nat} {M : jk_M} : J Fr_X4_kindWithBody (d + 1) 0 0 0 [(0, .int 2), (1, .int 1)] [] M (jk_is (some (.int 0)) M) := by
  refine j_post (fun Q hQ => ?_)
  refine j_iload_n 1 dX4_kindWithBody_0 rfl ?_
  refine j_istore_n (L' := [(2, .int 1), (0, .int 2), (1, .int 1)]) dX4_kindWithBody_1 (by decide) rfl ?_
  refine j_iconst 0 dX4_kindWithBody_2 ic_0 ?_
  refine j_istore_n (L' := [(3, .int 0), (2, .int 1), (0, .int 2), (1, .int 1)]) dX4_kindWithBody_3 (by decide) rfl ?_
  refine j_iload_n 0 dX4_kindWithBody_4 rfl ?_
  refine j_bipush 7 dX4_kindWithBody_5 bp_7 ?_
  refine j_icmp_ge (tgt := 29) dX4_kindWithBody_7 rfl (fun c1 => ?_) (fun c1 => ?_)
  · exact absurd c1 (by decide)
  · refine j_iload_n 2 dX4_kindWithBody_10 rfl ?_
    refine j_iload_n 1 dX4_kindWithBody_11 rfl ?_
    refine j_callS (kc := 0) (ks := 0) (a := 0) (b := 0) (d' := d) (As := [.int 2, .int 1]) dX4_kindWithBody_12 kX4_35 rfl (by omega) rfl rfl rfl (Nat.le_of_ble_eq_true rfl) (Nat.le_of_ble_eq_true rfl) ((T_bodyOf_c (c := 0) (by decide))) (kk_p ?_)
    refine j_if_ne (tgt := 29) dX4_kindWithBody_15 rfl (fun c2 => ?_) (fun c2 => ?_)
    · exact absurd c2 (by decide)
    · refine j_iload_n 1 dX4_kindWithBody_18 rfl ?_
      refine j_callSN (kc := 0) (ks := 0) (a := 0) (b := 0) (d' := d) (As := [.int 1]) dX4_kindWithBody_19 kX4_39 rfl (by omega) rfl rfl rfl (Nat.le_of_ble_eq_true rfl) (Nat.le_of_ble_eq_true rfl) ((T_kAb_c (c := 0) (by decide))) (kk_p ?_)
      refine j_istore_n (L' := [(2, .int 0), (3, .int 0), (0, .int 2), (1, .int 1)]) dX4_kindWithBody_22 (by decide) rfl ?_
      refine j_iinc 1 1 (L' := [(3, .int 1), (2, .int 0), (0, .int 2), (1, .int 1)]) dX4_kindWithBody_23 rfl (by decide) (by decide) rfl ?_
      refine j_goto (tgt := 4) dX4_kindWithBody_26 rfl ?_
      refine j_iload_n 0 dX4_kindWithBody_4 rfl ?_
      refine j_bipush 7 dX4_kindWithBody_5 bp_7 ?_
      refine j_icmp_ge (tgt := 29) dX4_kindWithBody_7 rfl (fun c3 => ?_) (fun c3 => ?_)
      · exact absurd c3 (by decide)
      · refine j_iload_n 2 dX4_kindWithBody_10 rfl ?_
        refine j_iload_n 1 dX4_kindWithBody_11 rfl ?_
        refine j_callS (kc := 0) (ks := 0) (a := 0) (b := 0) (d' := d) (As := [.int 2, .int 0]) dX4_kindWithBody_12 kX4_35 rfl (by omega) rfl rfl rfl (Nat.le_of_ble_eq_true rfl) (Nat.le_of_ble_eq_true rfl) ((T_bodyOf_c (c := 12) (by decide))) (kk_p ?_)
        refine j_if_ne (tgt := 29) dX4_kindWithBody_15 rfl (fun c4 => ?_) (fun c4 => ?_)
        · refine j_iload_n 1 dX4_kindWithBody_29 rfl ?_
          refine j_iret dX4_kindWithBody_30 rfl ?_
          exact hQ _ _ ⟨rfl, rfl⟩
        · exact absurd c4 (by decide)
set_option maxRecDepth 20000 in
set_option maxHeartbeats 4000000 in
theorem T_kwb_2_2 {d : Nat} {M : jk_M} : J Fr_X4_kindWithBody (d + 1) 0 0 0 [(0, .int 2), (1, .int 2)] [] M (jk_is (some (.int 0)) M) := by
  refine j_post (fun Q hQ => ?_)
  refine j_iload_n 1 dX4_kindWithBody_0 rfl ?_
  refine j_istore_n (L' := [(2, .int 2), (0, .int 2), (1, .int 2)]) dX4_kindWithBody_1 (by decide) rfl ?_
  refine j_iconst 0 dX4_kindWithBody_2 ic_0 ?_
  refine j_istore_n (L' := [(3, .int 0), (2, .int 2), (0, .int 2), (1, .int 2)]) dX4_kindWithBody_3 (by decide) rfl ?_
  refine j_iload_n 0 dX4_kindWithBody_4 rfl ?_
  refine j_bipush 7 dX4_kindWithBody_5 bp_7 ?_
  refine j_icmp_ge (tgt := 29) dX4_kindWithBody_7 rfl (fun c1 => ?_) (fun c1 => ?_)
  · exact absurd c1 (by decide)
  · refine j_iload_n 2 dX4_kindWithBody_10 rfl ?_
    refine j_iload_n 1 dX4_kindWithBody_11 rfl ?_
    refine j_callS (kc := 0) (ks := 0) (a := 0) (b := 0) (d' := d) (As := [.int 2, .int 2]) dX4_kindWithBody_12 kX4_35 rfl (by omega) rfl rfl rfl (Nat.le_of_ble_eq_true rfl) (Nat.le_of_ble_eq_true rfl) ((T_bodyOf_c (c := 0) (by decide))) (kk_p ?_)
    refine j_if_ne (tgt := 29) dX4_kindWithBody_15 rfl (fun c2 => ?_) (fun c2 => ?_)
    · exact absurd c2 (by decide)
    · refine j_iload_n 1 dX4_kindWithBody_18 rfl ?_
      refine j_callSN (kc := 0) (ks := 0) (a := 0) (b := 0) (d' := d) (As := [.int 2]) dX4_kindWithBody_19 kX4_39 rfl (by omega) rfl rfl rfl (Nat.le_of_ble_eq_true rfl) (Nat.le_of_ble_eq_true rfl) ((T_kAb_c (c := 0) (by decide))) (kk_p ?_)
      refine j_istore_n (L' := [(2, .int 0), (3, .int 0), (0, .int 2), (1, .int 2)]) dX4_kindWithBody_22 (by decide) rfl ?_
      refine j_iinc 1 1 (L' := [(3, .int 1), (2, .int 0), (0, .int 2), (1, .int 2)]) dX4_kindWithBody_23 rfl (by decide) (by decide) rfl ?_
      refine j_goto (tgt := 4) dX4_kindWithBody_26 rfl ?_
      refine j_iload_n 0 dX4_kindWithBody_4 rfl ?_
      refine j_bipush 7 dX4_kindWithBody_5 bp_7 ?_
      refine j_icmp_ge (tgt := 29) dX4_kindWithBody_7 rfl (fun c3 => ?_) (fun c3 => ?_)
      · exact absurd c3 (by decide)
      · refine j_iload_n 2 dX4_kindWithBody_10 rfl ?_
        refine j_iload_n 1 dX4_kindWithBody_11 rfl ?_
        refine j_callS (kc := 0) (ks := 0) (a := 0) (b := 0) (d' := d) (As := [.int 2, .int 0]) dX4_kindWithBody_12 kX4_35 rfl (by omega) rfl rfl rfl (Nat.le_of_ble_eq_true rfl) (Nat.le_of_ble_eq_true rfl) ((T_bodyOf_c (c := 12) (by decide))) (kk_p ?_)
        refine j_if_ne (tgt := 29) dX4_kindWithBody_15 rfl (fun c4 => ?_) (fun c4 => ?_)
        · refine j_iload_n 1 dX4_kindWithBody_29 rfl ?_
          refine j_iret dX4_kindWithBody_30 rfl ?_
          exact hQ _ _ ⟨rfl, rfl⟩
        · exact absurd c4 (by decide)
set_option maxRecDepth 20000 in
set_option maxHeartbeats 4000000 in
theorem T_kwb_2_3 {d : Nat} {M : jk_M} : J Fr_X4_kindWithBody (d + 1) 0 0 0 [(0, .int 2), (1, .int 3)] [] M (jk_is (some (.int 0)) M) := by
  refine j_post (fun Q hQ => ?_)
  refine j_iload_n 1 dX4_kindWithBody_0 rfl ?_
  refine j_istore_n (L' := [(2, .int 3), (0, .int 2), (1, .int 3)]) dX4_kindWithBody_1 (by decide) rfl ?_
  refine j_iconst 0 dX4_kindWithBody_2 ic_0 ?_
  refine j_istore_n (L' := [(3, .int 0), (2, .int 3), (0, .int 2), (1, .int 3)]) dX4_kindWithBody_3 (by decide) rfl ?_
  refine j_iload_n 0 dX4_kindWithBody_4 rfl ?_
  refine j_bipush 7 dX4_kindWithBody_5 bp_7 ?_
  refine j_icmp_ge (tgt := 29) dX4_kindWithBody_7 rfl (fun c1 => ?_) (fun c1 => ?_)
  · exact absurd c1 (by decide)
  · refine j_iload_n 2 dX4_kindWithBody_10 rfl ?_
    refine j_iload_n 1 dX4_kindWithBody_11 rfl ?_
    refine j_callS (kc := 0) (ks := 0) (a := 0) (b := 0) (d' := d) (As := [.int 2, .int 3]) dX4_kindWithBody_12 kX4_35 rfl (by omega) rfl rfl rfl (Nat.le_of_ble_eq_true rfl) (Nat.le_of_ble_eq_true rfl) ((T_bodyOf_c (c := 0) (by decide))) (kk_p ?_)
    refine j_if_ne (tgt := 29) dX4_kindWithBody_15 rfl (fun c2 => ?_) (fun c2 => ?_)
    · exact absurd c2 (by decide)
    · refine j_iload_n 1 dX4_kindWithBody_18 rfl ?_
      refine j_callSN (kc := 0) (ks := 0) (a := 0) (b := 0) (d' := d) (As := [.int 3]) dX4_kindWithBody_19 kX4_39 rfl (by omega) rfl rfl rfl (Nat.le_of_ble_eq_true rfl) (Nat.le_of_ble_eq_true rfl) ((T_kAb_c (c := 1) (by decide))) (kk_p ?_)
      refine j_istore_n (L' := [(2, .int 1), (3, .int 0), (0, .int 2), (1, .int 3)]) dX4_kindWithBody_22 (by decide) rfl ?_
      refine j_iinc 1 1 (L' := [(3, .int 1), (2, .int 1), (0, .int 2), (1, .int 3)]) dX4_kindWithBody_23 rfl (by decide) (by decide) rfl ?_
      refine j_goto (tgt := 4) dX4_kindWithBody_26 rfl ?_
      refine j_iload_n 0 dX4_kindWithBody_4 rfl ?_
      refine j_bipush 7 dX4_kindWithBody_5 bp_7 ?_
      refine j_icmp_ge (tgt := 29) dX4_kindWithBody_7 rfl (fun c3 => ?_) (fun c3 => ?_)
      · exact absurd c3 (by decide)
      · refine j_iload_n 2 dX4_kindWithBody_10 rfl ?_
        refine j_iload_n 1 dX4_kindWithBody_11 rfl ?_
        refine j_callS (kc := 0) (ks := 0) (a := 0) (b := 0) (d' := d) (As := [.int 2, .int 1]) dX4_kindWithBody_12 kX4_35 rfl (by omega) rfl rfl rfl (Nat.le_of_ble_eq_true rfl) (Nat.le_of_ble_eq_true rfl) ((T_bodyOf_c (c := 0) (by decide))) (kk_p ?_)
        refine j_if_ne (tgt := 29) dX4_kindWithBody_15 rfl (fun c4 => ?_) (fun c4 => ?_)
        · exact absurd c4 (by decide)
        · refine j_iload_n 1 dX4_kindWithBody_18 rfl ?_
          refine j_callSN (kc := 0) (ks := 0) (a := 0) (b := 0) (d' := d) (As := [.int 1]) dX4_kindWithBody_19 kX4_39 rfl (by omega) rfl rfl rfl (Nat.le_of_ble_eq_true rfl) (Nat.le_of_ble_eq_true rfl) ((T_kAb_c (c := 0) (by decide))) (kk_p ?_)
          refine j_istore_n (L' := [(2, .int 0), (3, .int 1), (0, .int 2), (1, .int 3)]) dX4_kindWithBody_22 (by decide) rfl ?_
          refine j_iinc 1 2 (L' := [(3, .int 2), (2, .int 0), (0, .int 2), (1, .int 3)]) dX4_kindWithBody_23 rfl (by decide) (by decide) rfl ?_
          refine j_goto (tgt := 4) dX4_kindWithBody_26 rfl ?_
          refine j_iload_n 0 dX4_kindWithBody_4 rfl ?_
          refine j_bipush 7 dX4_kindWithBody_5 bp_7 ?_
          refine j_icmp_ge (tgt := 29) dX4_kindWithBody_7 rfl (fun c5 => ?_) (fun c5 => ?_)
          · exact absurd c5 (by decide)
          · refine j_iload_n 2 dX4_kindWithBody_10 rfl ?_
            refine j_iload_n 1 dX4_kindWithBody_11 rfl ?_
            refine j_callS (kc := 0) (ks := 0) (a := 0) (b := 0) (d' := d) (As := [.int 2, .int 0]) dX4_kindWithBody_12 kX4_35 rfl (by omega) rfl rfl rfl (Nat.le_of_ble_eq_true rfl) (Nat.le_of_ble_eq_true rfl) ((T_bodyOf_c (c := 12) (by decide))) (kk_p ?_)
            refine j_if_ne (tgt := 29) dX4_kindWithBody_15 rfl (fun c6 => ?_) (fun c6 => ?_)
            · refine j_iload_n 1 dX4_kindWithBody_29 rfl ?_
              refine j_iret dX4_kindWithBody_30 rfl ?_
              exact hQ _ _ ⟨rfl, rfl⟩
            · exact absurd c6 (by decide)
set_option maxRecDepth 20000 in
set_option maxHeartbeats 4000000 in
theorem T_kwb_2_4 {d : Nat} {M : jk_M} : J Fr_X4_kindWithBody (d + 1) 0 0 0 [(0, .int 2), (1, .int 4)] [] M (jk_is (some (.int 4)) M) := by
  refine j_post (fun Q hQ => ?_)
  refine j_iload_n 1 dX4_kindWithBody_0 rfl ?_
  refine j_istore_n (L' := [(2, .int 4), (0, .int 2), (1, .int 4)]) dX4_kindWithBody_1 (by decide) rfl ?_
  refine j_iconst 0 dX4_kindWithBody_2 ic_0 ?_
  refine j_istore_n (L' := [(3, .int 0), (2, .int 4), (0, .int 2), (1, .int 4)]) dX4_kindWithBody_3 (by decide) rfl ?_
  refine j_iload_n 0 dX4_kindWithBody_4 rfl ?_
  refine j_bipush 7 dX4_kindWithBody_5 bp_7 ?_
  refine j_icmp_ge (tgt := 29) dX4_kindWithBody_7 rfl (fun c1 => ?_) (fun c1 => ?_)
  · exact absurd c1 (by decide)
  · refine j_iload_n 2 dX4_kindWithBody_10 rfl ?_
    refine j_iload_n 1 dX4_kindWithBody_11 rfl ?_
    refine j_callS (kc := 0) (ks := 0) (a := 0) (b := 0) (d' := d) (As := [.int 2, .int 4]) dX4_kindWithBody_12 kX4_35 rfl (by omega) rfl rfl rfl (Nat.le_of_ble_eq_true rfl) (Nat.le_of_ble_eq_true rfl) ((T_bodyOf_c (c := 50) (by decide))) (kk_p ?_)
    refine j_if_ne (tgt := 29) dX4_kindWithBody_15 rfl (fun c2 => ?_) (fun c2 => ?_)
    · refine j_iload_n 1 dX4_kindWithBody_29 rfl ?_
      refine j_iret dX4_kindWithBody_30 rfl ?_
      exact hQ _ _ ⟨rfl, rfl⟩
    · exact absurd c2 (by decide)
set_option maxRecDepth 20000 in
set_option maxHeartbeats 4000000 in
theorem T_kwb_2_5 {d : Nat} {M : jk_M} : J Fr_X4_kindWithBody (d + 1) 0 0 0 [(0, .int 2), (1, .int 5)] [] M (jk_is (some (.int 5)) M) := by
  refine j_post (fun Q hQ => ?_)
  refine j_iload_n 1 dX4_kindWithBody_0 rfl ?_
  refine j_istore_n (L' := [(2, .int 5), (0, .int 2), (1, .int 5)]) dX4_kindWithBody_1 (by decide) rfl ?_
  refine j_iconst 0 dX4_kindWithBody_2 ic_0 ?_
  refine j_istore_n (L' := [(3, .int 0), (2, .int 5), (0, .int 2), (1, .int 5)]) dX4_kindWithBody_3 (by decide) rfl ?_
  refine j_iload_n 0 dX4_kindWithBody_4 rfl ?_
  refine j_bipush 7 dX4_kindWithBody_5 bp_7 ?_
  refine j_icmp_ge (tgt := 29) dX4_kindWithBody_7 rfl (fun c1 => ?_) (fun c1 => ?_)
  · exact absurd c1 (by decide)
  · refine j_iload_n 2 dX4_kindWithBody_10 rfl ?_
    refine j_iload_n 1 dX4_kindWithBody_11 rfl ?_
    refine j_callS (kc := 0) (ks := 0) (a := 0) (b := 0) (d' := d) (As := [.int 2, .int 5]) dX4_kindWithBody_12 kX4_35 rfl (by omega) rfl rfl rfl (Nat.le_of_ble_eq_true rfl) (Nat.le_of_ble_eq_true rfl) ((T_bodyOf_c (c := 60) (by decide))) (kk_p ?_)
    refine j_if_ne (tgt := 29) dX4_kindWithBody_15 rfl (fun c2 => ?_) (fun c2 => ?_)
    · refine j_iload_n 1 dX4_kindWithBody_29 rfl ?_
      refine j_iret dX4_kindWithBody_30 rfl ?_
      exact hQ _ _ ⟨rfl, rfl⟩
    · exact absurd c2 (by decide)
set_option maxRecDepth 20000 in
set_option maxHeartbeats 4000000 in
theorem T_kwb_2_6 {d : Nat} {M : jk_M} : J Fr_X4_kindWithBody (d + 1) 0 0 0 [(0, .int 2), (1, .int 6)] [] M (jk_is (some (.int 4)) M) := by
  refine j_post (fun Q hQ => ?_)
  refine j_iload_n 1 dX4_kindWithBody_0 rfl ?_
  refine j_istore_n (L' := [(2, .int 6), (0, .int 2), (1, .int 6)]) dX4_kindWithBody_1 (by decide) rfl ?_
  refine j_iconst 0 dX4_kindWithBody_2 ic_0 ?_
  refine j_istore_n (L' := [(3, .int 0), (2, .int 6), (0, .int 2), (1, .int 6)]) dX4_kindWithBody_3 (by decide) rfl ?_
  refine j_iload_n 0 dX4_kindWithBody_4 rfl ?_
  refine j_bipush 7 dX4_kindWithBody_5 bp_7 ?_
  refine j_icmp_ge (tgt := 29) dX4_kindWithBody_7 rfl (fun c1 => ?_) (fun c1 => ?_)
  · exact absurd c1 (by decide)
  · refine j_iload_n 2 dX4_kindWithBody_10 rfl ?_
    refine j_iload_n 1 dX4_kindWithBody_11 rfl ?_
    refine j_callS (kc := 0) (ks := 0) (a := 0) (b := 0) (d' := d) (As := [.int 2, .int 6]) dX4_kindWithBody_12 kX4_35 rfl (by omega) rfl rfl rfl (Nat.le_of_ble_eq_true rfl) (Nat.le_of_ble_eq_true rfl) ((T_bodyOf_c (c := 0) (by decide))) (kk_p ?_)
    refine j_if_ne (tgt := 29) dX4_kindWithBody_15 rfl (fun c2 => ?_) (fun c2 => ?_)
    · exact absurd c2 (by decide)
    · refine j_iload_n 1 dX4_kindWithBody_18 rfl ?_
      refine j_callSN (kc := 0) (ks := 0) (a := 0) (b := 0) (d' := d) (As := [.int 6]) dX4_kindWithBody_19 kX4_39 rfl (by omega) rfl rfl rfl (Nat.le_of_ble_eq_true rfl) (Nat.le_of_ble_eq_true rfl) ((T_kAb_c (c := 4) (by decide))) (kk_p ?_)
      refine j_istore_n (L' := [(2, .int 4), (3, .int 0), (0, .int 2), (1, .int 6)]) dX4_kindWithBody_22 (by decide) rfl ?_
      refine j_iinc 1 1 (L' := [(3, .int 1), (2, .int 4), (0, .int 2), (1, .int 6)]) dX4_kindWithBody_23 rfl (by decide) (by decide) rfl ?_
      refine j_goto (tgt := 4) dX4_kindWithBody_26 rfl ?_
      refine j_iload_n 0 dX4_kindWithBody_4 rfl ?_
      refine j_bipush 7 dX4_kindWithBody_5 bp_7 ?_
      refine j_icmp_ge (tgt := 29) dX4_kindWithBody_7 rfl (fun c3 => ?_) (fun c3 => ?_)
      · exact absurd c3 (by decide)
      · refine j_iload_n 2 dX4_kindWithBody_10 rfl ?_
        refine j_iload_n 1 dX4_kindWithBody_11 rfl ?_
        refine j_callS (kc := 0) (ks := 0) (a := 0) (b := 0) (d' := d) (As := [.int 2, .int 4]) dX4_kindWithBody_12 kX4_35 rfl (by omega) rfl rfl rfl (Nat.le_of_ble_eq_true rfl) (Nat.le_of_ble_eq_true rfl) ((T_bodyOf_c (c := 50) (by decide))) (kk_p ?_)
        refine j_if_ne (tgt := 29) dX4_kindWithBody_15 rfl (fun c4 => ?_) (fun c4 => ?_)
        · refine j_iload_n 1 dX4_kindWithBody_29 rfl ?_
          refine j_iret dX4_kindWithBody_30 rfl ?_
          exact hQ _ _ ⟨rfl, rfl⟩
        · exact absurd c4 (by decide)
def stL (k : Nat) : List Int32 := if k = 6 then [70, 51, 10] else if k = 4 then [51, 10] else if k = 1 ∨ k = 3 then [20, 10] else [10]
def stV (k : Nat) (a m x : Int32) : Int32 := if k = 6 then (x + m - m) * 2 else if k = 4 then x + m - m else if k = 1 ∨ k = 3 then x + m + a else x + m
def tkL (k : Nat) : List Int32 := if k = 6 then 71 :: 11 :: stL k else if k = 3 then 40 :: 11 :: stL k else if k = 2 ∨ k = 5 then 30 :: 11 :: stL k else 11 :: stL k
def tkV (k : Nat) (a m x : Int32) : Int32 := if k = 6 then stV k a m (x - a) * 2 else if k = 3 then stV k a m (x + 1) * 2 else if k = 2 ∨ k = 5 then stV k a m x * 2 * 3 else stV k a m x * 2
def hmL (k : Nat) : List Int32 := if k = 4 ∨ k = 6 then 50 :: 12 :: (tkL k ++ stL k) else if k = 5 then 60 :: 12 :: (tkL k ++ stL k) else 12 :: (tkL k ++ stL k)
def hmV (k : Nat) (a m x : Int32) : Int32 := if k = 4 ∨ k = 6 then 0 - (tkV k a m x ^^^ stV k a m (x - a)) else if k = 5 then (tkV k a m x ^^^ stV k a m (x - a)) ^^^ 5 else tkV k a m x ^^^ stV k a m (x - a)
set_option maxRecDepth 20000 in
set_option maxHeartbeats 4000000 in
theorem T_run_0_0 {d : Nat} {M : jk_M} (hC : WC M) (k : Nat) (a m x : Int32) (q : Nat) (hk : k < 7) (h0 : M.2.1 105 0 = nI k) (h1 : M.2.1 105 1 = a) (h2 : M.2.1 105 2 = m) (hq : q + 0 < 40) : J Fr_X10_run (d + 2) 0 0 0 [(0, .ref 105), (1, .int 0), (2, .int 0), (3, .int x), (4, .int (nI q))] [] M (jk_is (some (.int (x + m))) (noteL M ([10]))) := by
  refine j_post (fun Q hQ => ?_)
  refine j_aload_n 0 dX10_run_0 rfl ?_
  refine j_ifnull dX10_run_1 ?_
  refine j_iload 4 dX10_run_4 rfl ?_
  refine j_bipush 40 dX10_run_6 bp_40 ?_
  refine j_icmp_leN (tgt := 13) q 40 dX10_run_8 rfl (by omega) (by omega) (fun c1 => ?_) (fun c1 => ?_)
  · refine j_iload_n 1 dX10_run_13 rfl ?_
    refine j_iload_n 2 dX10_run_14 rfl ?_
    refine j_callS (kc := 0) (ks := 0) (a := 0) (b := 0) (d' := (d + 1)) (As := [.int 0, .int 0]) dX10_run_15 kX10_394 rfl (by omega) rfl rfl rfl (Nat.le_of_ble_eq_true rfl) (Nat.le_of_ble_eq_true rfl) (T_kwb_0_0) (kk_p ?_)
    refine j_istore (L' := [(5, .int 0), (0, .ref 105), (1, .int 0), (2, .int 0), (3, .int x), (4, .int (nI q))]) dX10_run_18 (by decide) rfl ?_
    refine j_iload 0 dX10_run_20 rfl ?_
    refine j_callS (kc := 0) (ks := 0) (a := 0) (b := 0) (d' := d) (As := [.int 0]) dX10_run_22 kX10_397 rfl (by omega) rfl rfl rfl (Nat.le_of_ble_eq_true rfl) (Nat.le_of_ble_eq_true rfl) ((T_kAb_c (c := 0) (by decide))) (kk_p ?_)
    refine j_istore (L' := [(6, .int 0), (5, .int 0), (0, .ref 105), (1, .int 0), (2, .int 0), (3, .int x), (4, .int (nI q))]) dX10_run_25 (by decide) rfl ?_
    refine j_aload_n 2 dX10_run_27 rfl ?_
    refine j_getv (nI k) dX10_run_28 fX10_400 (shC hC sgC_105) rfl h0 ?_
    refine j_istore (L' := [(7, .int (nI k)), (6, .int 0), (5, .int 0), (0, .ref 105), (1, .int 0), (2, .int 0), (3, .int x), (4, .int (nI q))]) dX10_run_31 (by decide) rfl ?_
    refine j_iload 7 dX10_run_33 rfl ?_
    refine j_iconst 1 dX10_run_35 ic_1 ?_
    refine j_iaddN q 1 dX10_run_36 ?_
    refine j_istore (L' := [(8, .int (nI (q + 1))), (7, .int (nI k)), (6, .int 0), (5, .int 0), (0, .ref 105), (1, .int 0), (2, .int 0), (3, .int x), (4, .int (nI q))]) dX10_run_37 (by decide) rfl ?_
    refine j_iload_n 5 dX10_run_39 rfl ?_
    refine j_iload 3 dX10_run_40 rfl ?_
    refine j_callS (kc := 0) (ks := 0) (a := 0) (b := 0) (d' := d) (As := [.int 0, .int 0]) dX10_run_42 kX10_401 rfl (by omega) rfl rfl rfl (Nat.le_of_ble_eq_true rfl) (Nat.le_of_ble_eq_true rfl) ((T_bodyOf_c (c := 10) (by decide))) (kk_p ?_)
    refine j_istore (L' := [(9, .int 10), (8, .int (nI (q + 1))), (7, .int (nI k)), (6, .int 0), (5, .int 0), (0, .ref 105), (1, .int 0), (2, .int 0), (3, .int x), (4, .int (nI q))]) dX10_run_45 (by decide) rfl ?_
    refine j_aload_n 5 dX10_run_47 rfl ?_
    refine j_iload 0 dX10_run_48 rfl ?_
    refine j_callV (kc := 0) (ks := 0) (a := 0) (b := 0) (d' := d) (As := [.int 10]) dX10_run_50 kX10_404 rfl (shC hC sgC_105) (by omega) rfl rfl rfl (Nat.le_of_ble_eq_true rfl) (Nat.le_of_ble_eq_true rfl) (T_X4_note hC 10) (kk_pv ?_)
    refine j_iload 0 dX10_run_53 rfl ?_
    refine j_lookup (off := 97) (tgt := 152) dX10_run_55 (by decide) (by decide) rfl ?_
    refine j_iload_n 8 dX10_run_152 rfl ?_
    refine j_aload_n 5 dX10_run_153 rfl ?_
    refine j_getv m dX10_run_154 fX10_407 (shC (noteM_g.C hC) sgC_105) rfl ((noteM_k (by decide)).trans h2) ?_
    refine j_iadd dX10_run_157 ?_
    refine j_iret dX10_run_158 rfl ?_
    exact hQ _ _ ⟨rfl, rfl⟩
  · exact absurd c1 (by omega)
set_option maxRecDepth 20000 in
set_option maxHeartbeats 4000000 in
theorem T_run_0_2 {d : Nat} {M : jk_M} (hC : WC M) (k : Nat) (a m x : Int32) (q : Nat) (hk : k < 7) (h0 : M.2.1 105 0 = nI k) (h1 : M.2.1 105 1 = a) (h2 : M.2.1 105 2 = m) (hq : q + 0 < 40) : J Fr_X10_run (d + 2) 0 0 0 [(0, .ref 105), (1, .int 0), (2, .int 2), (3, .int x), (4, .int (nI q))] [] M (jk_is (some (.int (x + m))) (noteL M ([10]))) := by
  refine j_post (fun Q hQ => ?_)
  refine j_aload_n 0 dX10_run_0 rfl ?_
  refine j_ifnull dX10_run_1 ?_
  refine j_iload 4 dX10_run_4 rfl ?_
  refine j_bipush 40 dX10_run_6 bp_40 ?_
  refine j_icmp_leN (tgt := 13) q 40 dX10_run_8 rfl (by omega) (by omega) (fun c1 => ?_) (fun c1 => ?_)
  · refine j_iload_n 1 dX10_run_13 rfl ?_
    refine j_iload_n 2 dX10_run_14 rfl ?_
    refine j_callS (kc := 0) (ks := 0) (a := 0) (b := 0) (d' := (d + 1)) (As := [.int 0, .int 2]) dX10_run_15 kX10_394 rfl (by omega) rfl rfl rfl (Nat.le_of_ble_eq_true rfl) (Nat.le_of_ble_eq_true rfl) (T_kwb_0_2) (kk_p ?_)
    refine j_istore (L' := [(5, .int 0), (0, .ref 105), (1, .int 0), (2, .int 2), (3, .int x), (4, .int (nI q))]) dX10_run_18 (by decide) rfl ?_
    refine j_iload 0 dX10_run_20 rfl ?_
    refine j_callS (kc := 0) (ks := 0) (a := 0) (b := 0) (d' := d) (As := [.int 0]) dX10_run_22 kX10_397 rfl (by omega) rfl rfl rfl (Nat.le_of_ble_eq_true rfl) (Nat.le_of_ble_eq_true rfl) ((T_kAb_c (c := 0) (by decide))) (kk_p ?_)
    refine j_istore (L' := [(6, .int 0), (5, .int 0), (0, .ref 105), (1, .int 0), (2, .int 2), (3, .int x), (4, .int (nI q))]) dX10_run_25 (by decide) rfl ?_
    refine j_aload_n 2 dX10_run_27 rfl ?_
    refine j_getv (nI k) dX10_run_28 fX10_400 (shC hC sgC_105) rfl h0 ?_
    refine j_istore (L' := [(7, .int (nI k)), (6, .int 0), (5, .int 0), (0, .ref 105), (1, .int 0), (2, .int 2), (3, .int x), (4, .int (nI q))]) dX10_run_31 (by decide) rfl ?_
    refine j_iload 7 dX10_run_33 rfl ?_
    refine j_iconst 1 dX10_run_35 ic_1 ?_
    refine j_iaddN q 1 dX10_run_36 ?_
    refine j_istore (L' := [(8, .int (nI (q + 1))), (7, .int (nI k)), (6, .int 0), (5, .int 0), (0, .ref 105), (1, .int 0), (2, .int 2), (3, .int x), (4, .int (nI q))]) dX10_run_37 (by decide) rfl ?_
    refine j_iload_n 5 dX10_run_39 rfl ?_
    refine j_iload 3 dX10_run_40 rfl ?_
    refine j_callS (kc := 0) (ks := 0) (a := 0) (b := 0) (d' := d) (As := [.int 0, .int 0]) dX10_run_42 kX10_401 rfl (by omega) rfl rfl rfl (Nat.le_of_ble_eq_true rfl) (Nat.le_of_ble_eq_true rfl) ((T_bodyOf_c (c := 10) (by decide))) (kk_p ?_)
    refine j_istore (L' := [(9, .int 10), (8, .int (nI (q + 1))), (7, .int (nI k)), (6, .int 0), (5, .int 0), (0, .ref 105), (1, .int 0), (2, .int 2), (3, .int x), (4, .int (nI q))]) dX10_run_45 (by decide) rfl ?_
    refine j_aload_n 5 dX10_run_47 rfl ?_
    refine j_iload 0 dX10_run_48 rfl ?_
    refine j_callV (kc := 0) (ks := 0) (a := 0) (b := 0) (d' := d) (As := [.int 10]) dX10_run_50 kX10_404 rfl (shC hC sgC_105) (by omega) rfl rfl rfl (Nat.le_of_ble_eq_true rfl) (Nat.le_of_ble_eq_true rfl) (T_X4_note hC 10) (kk_pv ?_)
    refine j_iload 0 dX10_run_53 rfl ?_
    refine j_lookup (off := 97) (tgt := 152) dX10_run_55 (by decide) (by decide) rfl ?_
    refine j_iload_n 8 dX10_run_152 rfl ?_
    refine j_aload_n 5 dX10_run_153 rfl ?_
    refine j_getv m dX10_run_154 fX10_407 (shC (noteM_g.C hC) sgC_105) rfl ((noteM_k (by decide)).trans h2) ?_
    refine j_iadd dX10_run_157 ?_
    refine j_iret dX10_run_158 rfl ?_
    exact hQ _ _ ⟨rfl, rfl⟩
  · exact absurd c1 (by omega)
set_option maxRecDepth 20000 in
set_option maxHeartbeats 4000000 in
theorem T_run_0_5 {d : Nat} {M : jk_M} (hC : WC M) (k : Nat) (a m x : Int32) (q : Nat) (hk : k < 7) (h0 : M.2.1 105 0 = nI k) (h1 : M.2.1 105 1 = a) (h2 : M.2.1 105 2 = m) (hq : q + 0 < 40) : J Fr_X10_run (d + 2) 0 0 0 [(0, .ref 105), (1, .int 0), (2, .int 5), (3, .int x), (4, .int (nI q))] [] M (jk_is (some (.int (x + m))) (noteL M ([10]))) := by
  refine j_post (fun Q hQ => ?_)
  refine j_aload_n 0 dX10_run_0 rfl ?_
  refine j_ifnull dX10_run_1 ?_
  refine j_iload 4 dX10_run_4 rfl ?_
  refine j_bipush 40 dX10_run_6 bp_40 ?_
  refine j_icmp_leN (tgt := 13) q 40 dX10_run_8 rfl (by omega) (by omega) (fun c1 => ?_) (fun c1 => ?_)
  · refine j_iload_n 1 dX10_run_13 rfl ?_
    refine j_iload_n 2 dX10_run_14 rfl ?_
    refine j_callS (kc := 0) (ks := 0) (a := 0) (b := 0) (d' := (d + 1)) (As := [.int 0, .int 5]) dX10_run_15 kX10_394 rfl (by omega) rfl rfl rfl (Nat.le_of_ble_eq_true rfl) (Nat.le_of_ble_eq_true rfl) (T_kwb_0_5) (kk_p ?_)
    refine j_istore (L' := [(5, .int 0), (0, .ref 105), (1, .int 0), (2, .int 5), (3, .int x), (4, .int (nI q))]) dX10_run_18 (by decide) rfl ?_
    refine j_iload 0 dX10_run_20 rfl ?_
    refine j_callS (kc := 0) (ks := 0) (a := 0) (b := 0) (d' := d) (As := [.int 0]) dX10_run_22 kX10_397 rfl (by omega) rfl rfl rfl (Nat.le_of_ble_eq_true rfl) (Nat.le_of_ble_eq_true rfl) ((T_kAb_c (c := 0) (by decide))) (kk_p ?_)
    refine j_istore (L' := [(6, .int 0), (5, .int 0), (0, .ref 105), (1, .int 0), (2, .int 5), (3, .int x), (4, .int (nI q))]) dX10_run_25 (by decide) rfl ?_
    refine j_aload_n 2 dX10_run_27 rfl ?_
    refine j_getv (nI k) dX10_run_28 fX10_400 (shC hC sgC_105) rfl h0 ?_
    refine j_istore (L' := [(7, .int (nI k)), (6, .int 0), (5, .int 0), (0, .ref 105), (1, .int 0), (2, .int 5), (3, .int x), (4, .int (nI q))]) dX10_run_31 (by decide) rfl ?_
    refine j_iload 7 dX10_run_33 rfl ?_
    refine j_iconst 1 dX10_run_35 ic_1 ?_
    refine j_iaddN q 1 dX10_run_36 ?_
    refine j_istore (L' := [(8, .int (nI (q + 1))), (7, .int (nI k)), (6, .int 0), (5, .int 0), (0, .ref 105), (1, .int 0), (2, .int 5), (3, .int x), (4, .int (nI q))]) dX10_run_37 (by decide) rfl ?_
    refine j_iload_n 5 dX10_run_39 rfl ?_
    refine j_iload 3 dX10_run_40 rfl ?_
    refine j_callS (kc := 0) (ks := 0) (a := 0) (b := 0) (d' := d) (As := [.int 0, .int 0]) dX10_run_42 kX10_401 rfl (by omega) rfl rfl rfl (Nat.le_of_ble_eq_true rfl) (Nat.le_of_ble_eq_true rfl) ((T_bodyOf_c (c := 10) (by decide))) (kk_p ?_)
    refine j_istore (L' := [(9, .int 10), (8, .int (nI (q + 1))), (7, .int (nI k)), (6, .int 0), (5, .int 0), (0, .ref 105), (1, .int 0), (2, .int 5), (3, .int x), (4, .int (nI q))]) dX10_run_45 (by decide) rfl ?_
    refine j_aload_n 5 dX10_run_47 rfl ?_
    refine j_iload 0 dX10_run_48 rfl ?_
    refine j_callV (kc := 0) (ks := 0) (a := 0) (b := 0) (d' := d) (As := [.int 10]) dX10_run_50 kX10_404 rfl (shC hC sgC_105) (by omega) rfl rfl rfl (Nat.le_of_ble_eq_true rfl) (Nat.le_of_ble_eq_true rfl) (T_X4_note hC 10) (kk_pv ?_)
    refine j_iload 0 dX10_run_53 rfl ?_
    refine j_lookup (off := 97) (tgt := 152) dX10_run_55 (by decide) (by decide) rfl ?_
    refine j_iload_n 8 dX10_run_152 rfl ?_
    refine j_aload_n 5 dX10_run_153 rfl ?_
    refine j_getv m dX10_run_154 fX10_407 (shC (noteM_g.C hC) sgC_105) rfl ((noteM_k (by decide)).trans h2) ?_
    refine j_iadd dX10_run_157 ?_
    refine j_iret dX10_run_158 rfl ?_
    exact hQ _ _ ⟨rfl, rfl⟩
  · exact absurd c1 (by omega)
set_option maxRecDepth 20000 in
set_option maxHeartbeats 4000000 in
theorem T_run_0_1 {d : Nat} {M : jk_M} (hC : WC M) (k : Nat) (a m x : Int32) (q : Nat) (hk : k < 7) (h0 : M.2.1 105 0 = nI k) (h1 : M.2.1 105 1 = a) (h2 : M.2.1 105 2 = m) (hq : q + 1 < 40) : J Fr_X10_run (d + 3) 0 0 0 [(0, .ref 105), (1, .int 0), (2, .int 1), (3, .int x), (4, .int (nI q))] [] M (jk_is (some (.int (x + m + a))) (noteL M ([20, 10]))) := by
  refine j_post (fun Q hQ => ?_)
  refine j_aload_n 0 dX10_run_0 rfl ?_
  refine j_ifnull dX10_run_1 ?_
  refine j_iload 4 dX10_run_4 rfl ?_
  refine j_bipush 40 dX10_run_6 bp_40 ?_
  refine j_icmp_leN (tgt := 13) q 40 dX10_run_8 rfl (by omega) (by omega) (fun c1 => ?_) (fun c1 => ?_)
  · refine j_iload_n 1 dX10_run_13 rfl ?_
    refine j_iload_n 2 dX10_run_14 rfl ?_
    refine j_callS (kc := 0) (ks := 0) (a := 0) (b := 0) (d' := (d + 1)) (As := [.int 0, .int 1]) dX10_run_15 kX10_394 rfl (by omega) rfl rfl rfl (Nat.le_of_ble_eq_true rfl) (Nat.le_of_ble_eq_true rfl) (T_kwb_0_1) (kk_p ?_)
    refine j_istore (L' := [(5, .int 1), (0, .ref 105), (1, .int 0), (2, .int 1), (3, .int x), (4, .int (nI q))]) dX10_run_18 (by decide) rfl ?_
    refine j_iload 0 dX10_run_20 rfl ?_
    refine j_callS (kc := 0) (ks := 0) (a := 0) (b := 0) (d' := d) (As := [.int 1]) dX10_run_22 kX10_397 rfl (by omega) rfl rfl rfl (Nat.le_of_ble_eq_true rfl) (Nat.le_of_ble_eq_true rfl) ((T_kAb_c (c := 0) (by decide))) (kk_p ?_)
    refine j_istore (L' := [(6, .int 0), (5, .int 1), (0, .ref 105), (1, .int 0), (2, .int 1), (3, .int x), (4, .int (nI q))]) dX10_run_25 (by decide) rfl ?_
    refine j_aload_n 2 dX10_run_27 rfl ?_
    refine j_getv (nI k) dX10_run_28 fX10_400 (shC hC sgC_105) rfl h0 ?_
    refine j_istore (L' := [(7, .int (nI k)), (6, .int 0), (5, .int 1), (0, .ref 105), (1, .int 0), (2, .int 1), (3, .int x), (4, .int (nI q))]) dX10_run_31 (by decide) rfl ?_
    refine j_iload 7 dX10_run_33 rfl ?_
    refine j_iconst 1 dX10_run_35 ic_1 ?_
    refine j_iaddN q 1 dX10_run_36 ?_
    refine j_istore (L' := [(8, .int (nI (q + 1))), (7, .int (nI k)), (6, .int 0), (5, .int 1), (0, .ref 105), (1, .int 0), (2, .int 1), (3, .int x), (4, .int (nI q))]) dX10_run_37 (by decide) rfl ?_
    refine j_iload_n 5 dX10_run_39 rfl ?_
    refine j_iload 3 dX10_run_40 rfl ?_
    refine j_callS (kc := 0) (ks := 0) (a := 0) (b := 0) (d' := d) (As := [.int 0, .int 1]) dX10_run_42 kX10_401 rfl (by omega) rfl rfl rfl (Nat.le_of_ble_eq_true rfl) (Nat.le_of_ble_eq_true rfl) ((T_bodyOf_c (c := 20) (by decide))) (kk_p ?_)
    refine j_istore (L' := [(9, .int 20), (8, .int (nI (q + 1))), (7, .int (nI k)), (6, .int 0), (5, .int 1), (0, .ref 105), (1, .int 0), (2, .int 1), (3, .int x), (4, .int (nI q))]) dX10_run_45 (by decide) rfl ?_
    refine j_aload_n 5 dX10_run_47 rfl ?_
    refine j_iload 0 dX10_run_48 rfl ?_
    refine j_callV (kc := 0) (ks := 0) (a := 0) (b := 0) (d' := d) (As := [.int 20]) dX10_run_50 kX10_404 rfl (shC hC sgC_105) (by omega) rfl rfl rfl (Nat.le_of_ble_eq_true rfl) (Nat.le_of_ble_eq_true rfl) (T_X4_note hC 20) (kk_pv ?_)
    refine j_iload 0 dX10_run_53 rfl ?_
    refine j_lookup (off := 144) (tgt := 199) dX10_run_55 (by decide) (by decide) rfl ?_
    refine j_aload_n 5 dX10_run_199 rfl ?_
    refine j_iconst 0 dX10_run_200 ic_0 ?_
    refine j_iload 3 dX10_run_201 rfl ?_
    refine j_iload_n 8 dX10_run_203 rfl ?_
    refine j_iload 1 dX10_run_204 rfl ?_
    refine j_callS (kc := 0) (ks := 0) (a := 0) (b := 0) (d' := (d + 2)) (As := [.ref 105, .int 0, .int 0, .int x, .int (nI (q + 1))]) dX10_run_206 kX10_357 rfl (by omega) rfl rfl rfl (Nat.le_of_ble_eq_true rfl) (Nat.le_of_ble_eq_true rfl) (T_run_0_0 (noteM_g.C hC) k a m x (q + 1) hk ((noteM_k (by decide)).trans h0) ((noteM_k (by decide)).trans h1) ((noteM_k (by decide)).trans h2) (by omega)) (kk_p ?_)
    refine j_aload_n 5 dX10_run_209 rfl ?_
    refine j_getv a dX10_run_210 fX10_410 (shC ((noteL_g _ _).C (noteM_g.C hC)) sgC_105) rfl ((noteL_k (by decide) _ _).trans ((noteM_k (by decide)).trans h1)) ?_
    refine j_iadd dX10_run_213 ?_
    refine j_iret dX10_run_214 rfl ?_
    exact hQ _ _ ⟨rfl, rfl⟩
  · exact absurd c1 (by omega)
set_option maxRecDepth 20000 in
set_option maxHeartbeats 4000000 in
theorem T_run_0_3 {d : Nat} {M : jk_M} (hC : WC M) (k : Nat) (a m x : Int32) (q : Nat) (hk : k < 7) (h0 : M.2.1 105 0 = nI k) (h1 : M.2.1 105 1 = a) (h2 : M.2.1 105 2 = m) (hq : q + 1 < 40) : J Fr_X10_run (d + 3) 0 0 0 [(0, .ref 105), (1, .int 0), (2, .int 3), (3, .int x), (4, .int (nI q))] [] M (jk_is (some (.int (x + m + a))) (noteL M ([20, 10]))) := by
  refine j_post (fun Q hQ => ?_)
  refine j_aload_n 0 dX10_run_0 rfl ?_
  refine j_ifnull dX10_run_1 ?_
  refine j_iload 4 dX10_run_4 rfl ?_
  refine j_bipush 40 dX10_run_6 bp_40 ?_
  refine j_icmp_leN (tgt := 13) q 40 dX10_run_8 rfl (by omega) (by omega) (fun c1 => ?_) (fun c1 => ?_)
  · refine j_iload_n 1 dX10_run_13 rfl ?_
    refine j_iload_n 2 dX10_run_14 rfl ?_
    refine j_callS (kc := 0) (ks := 0) (a := 0) (b := 0) (d' := (d + 1)) (As := [.int 0, .int 3]) dX10_run_15 kX10_394 rfl (by omega) rfl rfl rfl (Nat.le_of_ble_eq_true rfl) (Nat.le_of_ble_eq_true rfl) (T_kwb_0_3) (kk_p ?_)
    refine j_istore (L' := [(5, .int 1), (0, .ref 105), (1, .int 0), (2, .int 3), (3, .int x), (4, .int (nI q))]) dX10_run_18 (by decide) rfl ?_
    refine j_iload 0 dX10_run_20 rfl ?_
    refine j_callS (kc := 0) (ks := 0) (a := 0) (b := 0) (d' := d) (As := [.int 1]) dX10_run_22 kX10_397 rfl (by omega) rfl rfl rfl (Nat.le_of_ble_eq_true rfl) (Nat.le_of_ble_eq_true rfl) ((T_kAb_c (c := 0) (by decide))) (kk_p ?_)
    refine j_istore (L' := [(6, .int 0), (5, .int 1), (0, .ref 105), (1, .int 0), (2, .int 3), (3, .int x), (4, .int (nI q))]) dX10_run_25 (by decide) rfl ?_
    refine j_aload_n 2 dX10_run_27 rfl ?_
    refine j_getv (nI k) dX10_run_28 fX10_400 (shC hC sgC_105) rfl h0 ?_
    refine j_istore (L' := [(7, .int (nI k)), (6, .int 0), (5, .int 1), (0, .ref 105), (1, .int 0), (2, .int 3), (3, .int x), (4, .int (nI q))]) dX10_run_31 (by decide) rfl ?_
    refine j_iload 7 dX10_run_33 rfl ?_
    refine j_iconst 1 dX10_run_35 ic_1 ?_
    refine j_iaddN q 1 dX10_run_36 ?_
    refine j_istore (L' := [(8, .int (nI (q + 1))), (7, .int (nI k)), (6, .int 0), (5, .int 1), (0, .ref 105), (1, .int 0), (2, .int 3), (3, .int x), (4, .int (nI q))]) dX10_run_37 (by decide) rfl ?_
    refine j_iload_n 5 dX10_run_39 rfl ?_
    refine j_iload 3 dX10_run_40 rfl ?_
    refine j_callS (kc := 0) (ks := 0) (a := 0) (b := 0) (d' := d) (As := [.int 0, .int 1]) dX10_run_42 kX10_401 rfl (by omega) rfl rfl rfl (Nat.le_of_ble_eq_true rfl) (Nat.le_of_ble_eq_true rfl) ((T_bodyOf_c (c := 20) (by decide))) (kk_p ?_)
    refine j_istore (L' := [(9, .int 20), (8, .int (nI (q + 1))), (7, .int (nI k)), (6, .int 0), (5, .int 1), (0, .ref 105), (1, .int 0), (2, .int 3), (3, .int x), (4, .int (nI q))]) dX10_run_45 (by decide) rfl ?_
    refine j_aload_n 5 dX10_run_47 rfl ?_
    refine j_iload 0 dX10_run_48 rfl ?_
    refine j_callV (kc := 0) (ks := 0) (a := 0) (b := 0) (d' := d) (As := [.int 20]) dX10_run_50 kX10_404 rfl (shC hC sgC_105) (by omega) rfl rfl rfl (Nat.le_of_ble_eq_true rfl) (Nat.le_of_ble_eq_true rfl) (T_X4_note hC 20) (kk_pv ?_)
    refine j_iload 0 dX10_run_53 rfl ?_
    refine j_lookup (off := 144) (tgt := 199) dX10_run_55 (by decide) (by decide) rfl ?_
    refine j_aload_n 5 dX10_run_199 rfl ?_
    refine j_iconst 0 dX10_run_200 ic_0 ?_
    refine j_iload 3 dX10_run_201 rfl ?_
    refine j_iload_n 8 dX10_run_203 rfl ?_
    refine j_iload 1 dX10_run_204 rfl ?_
    refine j_callS (kc := 0) (ks := 0) (a := 0) (b := 0) (d' := (d + 2)) (As := [.ref 105, .int 0, .int 0, .int x, .int (nI (q + 1))]) dX10_run_206 kX10_357 rfl (by omega) rfl rfl rfl (Nat.le_of_ble_eq_true rfl) (Nat.le_of_ble_eq_true rfl) (T_run_0_0 (noteM_g.C hC) k a m x (q + 1) hk ((noteM_k (by decide)).trans h0) ((noteM_k (by decide)).trans h1) ((noteM_k (by decide)).trans h2) (by omega)) (kk_p ?_)
    refine j_aload_n 5 dX10_run_209 rfl ?_
    refine j_getv a dX10_run_210 fX10_410 (shC ((noteL_g _ _).C (noteM_g.C hC)) sgC_105) rfl ((noteL_k (by decide) _ _).trans ((noteM_k (by decide)).trans h1)) ?_
    refine j_iadd dX10_run_213 ?_
    refine j_iret dX10_run_214 rfl ?_
    exact hQ _ _ ⟨rfl, rfl⟩
  · exact absurd c1 (by omega)
set_option maxRecDepth 20000 in
set_option maxHeartbeats 4000000 in
theorem T_run_0_4 {d : Nat} {M : jk_M} (hC : WC M) (k : Nat) (a m x : Int32) (q : Nat) (hk : k < 7) (h0 : M.2.1 105 0 = nI k) (h1 : M.2.1 105 1 = a) (h2 : M.2.1 105 2 = m) (hq : q + 1 < 40) : J Fr_X10_run (d + 3) 0 0 0 [(0, .ref 105), (1, .int 0), (2, .int 4), (3, .int x), (4, .int (nI q))] [] M (jk_is (some (.int (x + m - m))) (noteL M ([51, 10]))) := by
  refine j_post (fun Q hQ => ?_)
  refine j_aload_n 0 dX10_run_0 rfl ?_
  refine j_ifnull dX10_run_1 ?_
  refine j_iload 4 dX10_run_4 rfl ?_
  refine j_bipush 40 dX10_run_6 bp_40 ?_
  refine j_icmp_leN (tgt := 13) q 40 dX10_run_8 rfl (by omega) (by omega) (fun c1 => ?_) (fun c1 => ?_)
  · refine j_iload_n 1 dX10_run_13 rfl ?_
    refine j_iload_n 2 dX10_run_14 rfl ?_
    refine j_callS (kc := 0) (ks := 0) (a := 0) (b := 0) (d' := (d + 1)) (As := [.int 0, .int 4]) dX10_run_15 kX10_394 rfl (by omega) rfl rfl rfl (Nat.le_of_ble_eq_true rfl) (Nat.le_of_ble_eq_true rfl) (T_kwb_0_4) (kk_p ?_)
    refine j_istore (L' := [(5, .int 4), (0, .ref 105), (1, .int 0), (2, .int 4), (3, .int x), (4, .int (nI q))]) dX10_run_18 (by decide) rfl ?_
    refine j_iload 0 dX10_run_20 rfl ?_
    refine j_callS (kc := 0) (ks := 0) (a := 0) (b := 0) (d' := d) (As := [.int 4]) dX10_run_22 kX10_397 rfl (by omega) rfl rfl rfl (Nat.le_of_ble_eq_true rfl) (Nat.le_of_ble_eq_true rfl) ((T_kAb_c (c := 0) (by decide))) (kk_p ?_)
    refine j_istore (L' := [(6, .int 0), (5, .int 4), (0, .ref 105), (1, .int 0), (2, .int 4), (3, .int x), (4, .int (nI q))]) dX10_run_25 (by decide) rfl ?_
    refine j_aload_n 2 dX10_run_27 rfl ?_
    refine j_getv (nI k) dX10_run_28 fX10_400 (shC hC sgC_105) rfl h0 ?_
    refine j_istore (L' := [(7, .int (nI k)), (6, .int 0), (5, .int 4), (0, .ref 105), (1, .int 0), (2, .int 4), (3, .int x), (4, .int (nI q))]) dX10_run_31 (by decide) rfl ?_
    refine j_iload 7 dX10_run_33 rfl ?_
    refine j_iconst 1 dX10_run_35 ic_1 ?_
    refine j_iaddN q 1 dX10_run_36 ?_
    refine j_istore (L' := [(8, .int (nI (q + 1))), (7, .int (nI k)), (6, .int 0), (5, .int 4), (0, .ref 105), (1, .int 0), (2, .int 4), (3, .int x), (4, .int (nI q))]) dX10_run_37 (by decide) rfl ?_
    refine j_iload_n 5 dX10_run_39 rfl ?_
    refine j_iload 3 dX10_run_40 rfl ?_
    refine j_callS (kc := 0) (ks := 0) (a := 0) (b := 0) (d' := d) (As := [.int 0, .int 4]) dX10_run_42 kX10_401 rfl (by omega) rfl rfl rfl (Nat.le_of_ble_eq_true rfl) (Nat.le_of_ble_eq_true rfl) ((T_bodyOf_c (c := 51) (by decide))) (kk_p ?_)
    refine j_istore (L' := [(9, .int 51), (8, .int (nI (q + 1))), (7, .int (nI k)), (6, .int 0), (5, .int 4), (0, .ref 105), (1, .int 0), (2, .int 4), (3, .int x), (4, .int (nI q))]) dX10_run_45 (by decide) rfl ?_
    refine j_aload_n 5 dX10_run_47 rfl ?_
    refine j_iload 0 dX10_run_48 rfl ?_
    refine j_callV (kc := 0) (ks := 0) (a := 0) (b := 0) (d' := d) (As := [.int 51]) dX10_run_50 kX10_404 rfl (shC hC sgC_105) (by omega) rfl rfl rfl (Nat.le_of_ble_eq_true rfl) (Nat.le_of_ble_eq_true rfl) (T_X4_note hC 51) (kk_pv ?_)
    refine j_iload 0 dX10_run_53 rfl ?_
    refine j_lookup (off := 198) (tgt := 253) dX10_run_55 (by decide) (by decide) rfl ?_
    refine j_aload_n 5 dX10_run_253 rfl ?_
    refine j_iconst 0 dX10_run_254 ic_0 ?_
    refine j_iload 3 dX10_run_255 rfl ?_
    refine j_iload_n 8 dX10_run_257 rfl ?_
    refine j_iload 1 dX10_run_258 rfl ?_
    refine j_callS (kc := 0) (ks := 0) (a := 0) (b := 0) (d' := (d + 2)) (As := [.ref 105, .int 0, .int 0, .int x, .int (nI (q + 1))]) dX10_run_260 kX10_357 rfl (by omega) rfl rfl rfl (Nat.le_of_ble_eq_true rfl) (Nat.le_of_ble_eq_true rfl) (T_run_0_0 (noteM_g.C hC) k a m x (q + 1) hk ((noteM_k (by decide)).trans h0) ((noteM_k (by decide)).trans h1) ((noteM_k (by decide)).trans h2) (by omega)) (kk_p ?_)
    refine j_aload_n 5 dX10_run_263 rfl ?_
    refine j_getv m dX10_run_264 fX10_407 (shC ((noteL_g _ _).C (noteM_g.C hC)) sgC_105) rfl ((noteL_k (by decide) _ _).trans ((noteM_k (by decide)).trans h2)) ?_
    refine j_isub dX10_run_267 ?_
    refine j_iret dX10_run_268 rfl ?_
    exact hQ _ _ ⟨rfl, rfl⟩
  · exact absurd c1 (by omega)
set_option maxRecDepth 20000 in
set_option maxHeartbeats 4000000 in
theorem T_run_0_6 {d : Nat} {M : jk_M} (hC : WC M) (k : Nat) (a m x : Int32) (q : Nat) (hk : k < 7) (h0 : M.2.1 105 0 = nI k) (h1 : M.2.1 105 1 = a) (h2 : M.2.1 105 2 = m) (hq : q + 2 < 40) : J Fr_X10_run (d + 4) 0 0 0 [(0, .ref 105), (1, .int 0), (2, .int 6), (3, .int x), (4, .int (nI q))] [] M (jk_is (some (.int ((x + m - m) * 2))) (noteL M ([70, 51, 10]))) := by
  refine j_post (fun Q hQ => ?_)
  refine j_aload_n 0 dX10_run_0 rfl ?_
  refine j_ifnull dX10_run_1 ?_
  refine j_iload 4 dX10_run_4 rfl ?_
  refine j_bipush 40 dX10_run_6 bp_40 ?_
  refine j_icmp_leN (tgt := 13) q 40 dX10_run_8 rfl (by omega) (by omega) (fun c1 => ?_) (fun c1 => ?_)
  · refine j_iload_n 1 dX10_run_13 rfl ?_
    refine j_iload_n 2 dX10_run_14 rfl ?_
    refine j_callS (kc := 0) (ks := 0) (a := 0) (b := 0) (d' := (d + 1)) (As := [.int 0, .int 6]) dX10_run_15 kX10_394 rfl (by omega) rfl rfl rfl (Nat.le_of_ble_eq_true rfl) (Nat.le_of_ble_eq_true rfl) (T_kwb_0_6) (kk_p ?_)
    refine j_istore (L' := [(5, .int 6), (0, .ref 105), (1, .int 0), (2, .int 6), (3, .int x), (4, .int (nI q))]) dX10_run_18 (by decide) rfl ?_
    refine j_iload 0 dX10_run_20 rfl ?_
    refine j_callS (kc := 0) (ks := 0) (a := 0) (b := 0) (d' := d) (As := [.int 6]) dX10_run_22 kX10_397 rfl (by omega) rfl rfl rfl (Nat.le_of_ble_eq_true rfl) (Nat.le_of_ble_eq_true rfl) ((T_kAb_c (c := 4) (by decide))) (kk_p ?_)
    refine j_istore (L' := [(6, .int 4), (5, .int 6), (0, .ref 105), (1, .int 0), (2, .int 6), (3, .int x), (4, .int (nI q))]) dX10_run_25 (by decide) rfl ?_
    refine j_aload_n 2 dX10_run_27 rfl ?_
    refine j_getv (nI k) dX10_run_28 fX10_400 (shC hC sgC_105) rfl h0 ?_
    refine j_istore (L' := [(7, .int (nI k)), (6, .int 4), (5, .int 6), (0, .ref 105), (1, .int 0), (2, .int 6), (3, .int x), (4, .int (nI q))]) dX10_run_31 (by decide) rfl ?_
    refine j_iload 7 dX10_run_33 rfl ?_
    refine j_iconst 1 dX10_run_35 ic_1 ?_
    refine j_iaddN q 1 dX10_run_36 ?_
    refine j_istore (L' := [(8, .int (nI (q + 1))), (7, .int (nI k)), (6, .int 4), (5, .int 6), (0, .ref 105), (1, .int 0), (2, .int 6), (3, .int x), (4, .int (nI q))]) dX10_run_37 (by decide) rfl ?_
    refine j_iload_n 5 dX10_run_39 rfl ?_
    refine j_iload 3 dX10_run_40 rfl ?_
    refine j_callS (kc := 0) (ks := 0) (a := 0) (b := 0) (d' := d) (As := [.int 0, .int 6]) dX10_run_42 kX10_401 rfl (by omega) rfl rfl rfl (Nat.le_of_ble_eq_true rfl) (Nat.le_of_ble_eq_true rfl) ((T_bodyOf_c (c := 70) (by decide))) (kk_p ?_)
    refine j_istore (L' := [(9, .int 70), (8, .int (nI (q + 1))), (7, .int (nI k)), (6, .int 4), (5, .int 6), (0, .ref 105), (1, .int 0), (2, .int 6), (3, .int x), (4, .int (nI q))]) dX10_run_45 (by decide) rfl ?_
    refine j_aload_n 5 dX10_run_47 rfl ?_
    refine j_iload 0 dX10_run_48 rfl ?_
    refine j_callV (kc := 0) (ks := 0) (a := 0) (b := 0) (d' := d) (As := [.int 70]) dX10_run_50 kX10_404 rfl (shC hC sgC_105) (by omega) rfl rfl rfl (Nat.le_of_ble_eq_true rfl) (Nat.le_of_ble_eq_true rfl) (T_X4_note hC 70) (kk_pv ?_)
    refine j_iload 0 dX10_run_53 rfl ?_
    refine j_lookup (off := 227) (tgt := 282) dX10_run_55 (by decide) (by decide) rfl ?_
    refine j_aload_n 5 dX10_run_282 rfl ?_
    refine j_iconst 0 dX10_run_283 ic_0 ?_
    refine j_iload 3 dX10_run_284 rfl ?_
    refine j_iload_n 8 dX10_run_286 rfl ?_
    refine j_iload 1 dX10_run_287 rfl ?_
    refine j_callS (kc := 0) (ks := 0) (a := 0) (b := 0) (d' := (d + 3)) (As := [.ref 105, .int 0, .int 4, .int x, .int (nI (q + 1))]) dX10_run_289 kX10_357 rfl (by omega) rfl rfl rfl (Nat.le_of_ble_eq_true rfl) (Nat.le_of_ble_eq_true rfl) (T_run_0_4 (noteM_g.C hC) k a m x (q + 1) hk ((noteM_k (by decide)).trans h0) ((noteM_k (by decide)).trans h1) ((noteM_k (by decide)).trans h2) (by omega)) (kk_p ?_)
    refine j_iconst 2 dX10_run_292 ic_2 ?_
    refine j_imul dX10_run_293 ?_
    refine j_iret dX10_run_294 rfl ?_
    exact hQ _ _ ⟨rfl, rfl⟩
  · exact absurd c1 (by omega)
theorem T_runA_0 {d : Nat} {M : jk_M} (hC : WC M) (k : Nat) (a m x : Int32) (q : Nat) (hk : k < 7) (h0 : M.2.1 105 0 = nI k) (h1 : M.2.1 105 1 = a) (h2 : M.2.1 105 2 = m) (hq : q + 2 < 40) : J Fr_X10_run (d + 4) 0 0 0 [(0, .ref 105), (1, .int 0), (2, .int (nI k)), (3, .int x), (4, .int (nI q))] [] M (jk_is (some (.int (stV k a m x))) (noteL M (stL k))) := by
  have hk7 : k = 0 ∨ k = 1 ∨ k = 2 ∨ k = 3 ∨ k = 4 ∨ k = 5 ∨ k = 6 := by omega
  rcases hk7 with rfl | rfl | rfl | rfl | rfl | rfl | rfl
  · rw [show (Value.int (nI 0)) = .int 0 from congrArg _ (by decide)]
    exact T_run_0_0 (d := d + 2) hC 0 a m x q hk h0 h1 h2 (by omega)
  · rw [show (Value.int (nI 1)) = .int 1 from congrArg _ (by decide)]
    exact T_run_0_1 (d := d + 1) hC 1 a m x q hk h0 h1 h2 (by omega)
  · rw [show (Value.int (nI 2)) = .int 2 from congrArg _ (by decide)]
    exact T_run_0_2 (d := d + 2) hC 2 a m x q hk h0 h1 h2 (by omega)
  · rw [show (Value.int (nI 3)) = .int 3 from congrArg _ (by decide)]
    exact T_run_0_3 (d := d + 1) hC 3 a m x q hk h0 h1 h2 (by omega)
  · rw [show (Value.int (nI 4)) = .int 4 from congrArg _ (by decide)]
    exact T_run_0_4 (d := d + 1) hC 4 a m x q hk h0 h1 h2 (by omega)
  · rw [show (Value.int (nI 5)) = .int 5 from congrArg _ (by decide)]
    exact T_run_0_5 (d := d + 2) hC 5 a m x q hk h0 h1 h2 (by omega)
  · rw [show (Value.int (nI 6)) = .int 6 from congrArg _ (by decide)]
    exact T_run_0_6 (d := d + 0) hC 6 a m x q hk h0 h1 h2 (by omega)
set_option maxRecDepth 20000 in
set_option maxHeartbeats 4000000 in
theorem T_run_1_0 {d : Nat} {M : jk_M} (hC : WC M) (k : Nat) (a m x : Int32) (q : Nat) (hk : k < 7) (h0 : M.2.1 105 0 = nI k) (h1 : M.2.1 105 1 = a) (h2 : M.2.1 105 2 = m) (hq : q + 3 < 40) : J Fr_X10_run (d + 5) 0 0 0 [(0, .ref 105), (1, .int 1), (2, .int 0), (3, .int x), (4, .int (nI q))] [] M (jk_is (some (.int (stV k a m x * 2))) (noteL M (11 :: stL k))) := by
  refine j_post (fun Q hQ => ?_)
  refine j_aload_n 0 dX10_run_0 rfl ?_
  refine j_ifnull dX10_run_1 ?_
  refine j_iload 4 dX10_run_4 rfl ?_
  refine j_bipush 40 dX10_run_6 bp_40 ?_
  refine j_icmp_leN (tgt := 13) q 40 dX10_run_8 rfl (by omega) (by omega) (fun c1 => ?_) (fun c1 => ?_)
  · refine j_iload_n 1 dX10_run_13 rfl ?_
    refine j_iload_n 2 dX10_run_14 rfl ?_
    refine j_callS (kc := 0) (ks := 0) (a := 0) (b := 0) (d' := (d + 1)) (As := [.int 1, .int 0]) dX10_run_15 kX10_394 rfl (by omega) rfl rfl rfl (Nat.le_of_ble_eq_true rfl) (Nat.le_of_ble_eq_true rfl) (T_kwb_1_0) (kk_p ?_)
    refine j_istore (L' := [(5, .int 0), (0, .ref 105), (1, .int 1), (2, .int 0), (3, .int x), (4, .int (nI q))]) dX10_run_18 (by decide) rfl ?_
    refine j_iload 0 dX10_run_20 rfl ?_
    refine j_callS (kc := 0) (ks := 0) (a := 0) (b := 0) (d' := d) (As := [.int 0]) dX10_run_22 kX10_397 rfl (by omega) rfl rfl rfl (Nat.le_of_ble_eq_true rfl) (Nat.le_of_ble_eq_true rfl) ((T_kAb_c (c := 0) (by decide))) (kk_p ?_)
    refine j_istore (L' := [(6, .int 0), (5, .int 0), (0, .ref 105), (1, .int 1), (2, .int 0), (3, .int x), (4, .int (nI q))]) dX10_run_25 (by decide) rfl ?_
    refine j_aload_n 2 dX10_run_27 rfl ?_
    refine j_getv (nI k) dX10_run_28 fX10_400 (shC hC sgC_105) rfl h0 ?_
    refine j_istore (L' := [(7, .int (nI k)), (6, .int 0), (5, .int 0), (0, .ref 105), (1, .int 1), (2, .int 0), (3, .int x), (4, .int (nI q))]) dX10_run_31 (by decide) rfl ?_
    refine j_iload 7 dX10_run_33 rfl ?_
    refine j_iconst 1 dX10_run_35 ic_1 ?_
    refine j_iaddN q 1 dX10_run_36 ?_
    refine j_istore (L' := [(8, .int (nI (q + 1))), (7, .int (nI k)), (6, .int 0), (5, .int 0), (0, .ref 105), (1, .int 1), (2, .int 0), (3, .int x), (4, .int (nI q))]) dX10_run_37 (by decide) rfl ?_
    refine j_iload_n 5 dX10_run_39 rfl ?_
    refine j_iload 3 dX10_run_40 rfl ?_
    refine j_callS (kc := 0) (ks := 0) (a := 0) (b := 0) (d' := d) (As := [.int 1, .int 0]) dX10_run_42 kX10_401 rfl (by omega) rfl rfl rfl (Nat.le_of_ble_eq_true rfl) (Nat.le_of_ble_eq_true rfl) ((T_bodyOf_c (c := 11) (by decide))) (kk_p ?_)
    refine j_istore (L' := [(9, .int 11), (8, .int (nI (q + 1))), (7, .int (nI k)), (6, .int 0), (5, .int 0), (0, .ref 105), (1, .int 1), (2, .int 0), (3, .int x), (4, .int (nI q))]) dX10_run_45 (by decide) rfl ?_
    refine j_aload_n 5 dX10_run_47 rfl ?_
    refine j_iload 0 dX10_run_48 rfl ?_
    refine j_callV (kc := 0) (ks := 0) (a := 0) (b := 0) (d' := d) (As := [.int 11]) dX10_run_50 kX10_404 rfl (shC hC sgC_105) (by omega) rfl rfl rfl (Nat.le_of_ble_eq_true rfl) (Nat.le_of_ble_eq_true rfl) (T_X4_note hC 11) (kk_pv ?_)
    refine j_iload 0 dX10_run_53 rfl ?_
    refine j_lookup (off := 104) (tgt := 159) dX10_run_55 (by decide) (by decide) rfl ?_
    refine j_aload_n 5 dX10_run_159 rfl ?_
    refine j_iconst 0 dX10_run_160 ic_0 ?_
    refine j_iload 2 dX10_run_161 rfl ?_
    refine j_iload_n 8 dX10_run_163 rfl ?_
    refine j_iload 1 dX10_run_164 rfl ?_
    refine j_callS (kc := 0) (ks := 0) (a := 0) (b := 0) (d' := (d + 4)) (As := [.ref 105, .int 0, .int (nI k), .int x, .int (nI (q + 1))]) dX10_run_166 kX10_357 rfl (by omega) rfl rfl rfl (Nat.le_of_ble_eq_true rfl) (Nat.le_of_ble_eq_true rfl) (T_runA_0 (noteM_g.C hC) k a m x (q + 1) hk ((noteM_k (by decide)).trans h0) ((noteM_k (by decide)).trans h1) ((noteM_k (by decide)).trans h2) (by omega)) (kk_p ?_)
    refine j_iconst 2 dX10_run_169 ic_2 ?_
    refine j_imul dX10_run_170 ?_
    refine j_iret dX10_run_171 rfl ?_
    exact hQ _ _ ⟨rfl, rfl⟩
  · exact absurd c1 (by omega)
set_option maxRecDepth 20000 in
set_option maxHeartbeats 4000000 in
theorem T_run_1_1 {d : Nat} {M : jk_M} (hC : WC M) (k : Nat) (a m x : Int32) (q : Nat) (hk : k < 7) (h0 : M.2.1 105 0 = nI k) (h1 : M.2.1 105 1 = a) (h2 : M.2.1 105 2 = m) (hq : q + 3 < 40) : J Fr_X10_run (d + 5) 0 0 0 [(0, .ref 105), (1, .int 1), (2, .int 1), (3, .int x), (4, .int (nI q))] [] M (jk_is (some (.int (stV k a m x * 2))) (noteL M (11 :: stL k))) := by
  refine j_post (fun Q hQ => ?_)
  refine j_aload_n 0 dX10_run_0 rfl ?_
  refine j_ifnull dX10_run_1 ?_
  refine j_iload 4 dX10_run_4 rfl ?_
  refine j_bipush 40 dX10_run_6 bp_40 ?_
  refine j_icmp_leN (tgt := 13) q 40 dX10_run_8 rfl (by omega) (by omega) (fun c1 => ?_) (fun c1 => ?_)
  · refine j_iload_n 1 dX10_run_13 rfl ?_
    refine j_iload_n 2 dX10_run_14 rfl ?_
    refine j_callS (kc := 0) (ks := 0) (a := 0) (b := 0) (d' := (d + 1)) (As := [.int 1, .int 1]) dX10_run_15 kX10_394 rfl (by omega) rfl rfl rfl (Nat.le_of_ble_eq_true rfl) (Nat.le_of_ble_eq_true rfl) (T_kwb_1_1) (kk_p ?_)
    refine j_istore (L' := [(5, .int 0), (0, .ref 105), (1, .int 1), (2, .int 1), (3, .int x), (4, .int (nI q))]) dX10_run_18 (by decide) rfl ?_
    refine j_iload 0 dX10_run_20 rfl ?_
    refine j_callS (kc := 0) (ks := 0) (a := 0) (b := 0) (d' := d) (As := [.int 0]) dX10_run_22 kX10_397 rfl (by omega) rfl rfl rfl (Nat.le_of_ble_eq_true rfl) (Nat.le_of_ble_eq_true rfl) ((T_kAb_c (c := 0) (by decide))) (kk_p ?_)
    refine j_istore (L' := [(6, .int 0), (5, .int 0), (0, .ref 105), (1, .int 1), (2, .int 1), (3, .int x), (4, .int (nI q))]) dX10_run_25 (by decide) rfl ?_
    refine j_aload_n 2 dX10_run_27 rfl ?_
    refine j_getv (nI k) dX10_run_28 fX10_400 (shC hC sgC_105) rfl h0 ?_
    refine j_istore (L' := [(7, .int (nI k)), (6, .int 0), (5, .int 0), (0, .ref 105), (1, .int 1), (2, .int 1), (3, .int x), (4, .int (nI q))]) dX10_run_31 (by decide) rfl ?_
    refine j_iload 7 dX10_run_33 rfl ?_
    refine j_iconst 1 dX10_run_35 ic_1 ?_
    refine j_iaddN q 1 dX10_run_36 ?_
    refine j_istore (L' := [(8, .int (nI (q + 1))), (7, .int (nI k)), (6, .int 0), (5, .int 0), (0, .ref 105), (1, .int 1), (2, .int 1), (3, .int x), (4, .int (nI q))]) dX10_run_37 (by decide) rfl ?_
    refine j_iload_n 5 dX10_run_39 rfl ?_
    refine j_iload 3 dX10_run_40 rfl ?_
    refine j_callS (kc := 0) (ks := 0) (a := 0) (b := 0) (d' := d) (As := [.int 1, .int 0]) dX10_run_42 kX10_401 rfl (by omega) rfl rfl rfl (Nat.le_of_ble_eq_true rfl) (Nat.le_of_ble_eq_true rfl) ((T_bodyOf_c (c := 11) (by decide))) (kk_p ?_)
    refine j_istore (L' := [(9, .int 11), (8, .int (nI (q + 1))), (7, .int (nI k)), (6, .int 0), (5, .int 0), (0, .ref 105), (1, .int 1), (2, .int 1), (3, .int x), (4, .int (nI q))]) dX10_run_45 (by decide) rfl ?_
    refine j_aload_n 5 dX10_run_47 rfl ?_
    refine j_iload 0 dX10_run_48 rfl ?_
    refine j_callV (kc := 0) (ks := 0) (a := 0) (b := 0) (d' := d) (As := [.int 11]) dX10_run_50 kX10_404 rfl (shC hC sgC_105) (by omega) rfl rfl rfl (Nat.le_of_ble_eq_true rfl) (Nat.le_of_ble_eq_true rfl) (T_X4_note hC 11) (kk_pv ?_)
    refine j_iload 0 dX10_run_53 rfl ?_
    refine j_lookup (off := 104) (tgt := 159) dX10_run_55 (by decide) (by decide) rfl ?_
    refine j_aload_n 5 dX10_run_159 rfl ?_
    refine j_iconst 0 dX10_run_160 ic_0 ?_
    refine j_iload 2 dX10_run_161 rfl ?_
    refine j_iload_n 8 dX10_run_163 rfl ?_
    refine j_iload 1 dX10_run_164 rfl ?_
    refine j_callS (kc := 0) (ks := 0) (a := 0) (b := 0) (d' := (d + 4)) (As := [.ref 105, .int 0, .int (nI k), .int x, .int (nI (q + 1))]) dX10_run_166 kX10_357 rfl (by omega) rfl rfl rfl (Nat.le_of_ble_eq_true rfl) (Nat.le_of_ble_eq_true rfl) (T_runA_0 (noteM_g.C hC) k a m x (q + 1) hk ((noteM_k (by decide)).trans h0) ((noteM_k (by decide)).trans h1) ((noteM_k (by decide)).trans h2) (by omega)) (kk_p ?_)
    refine j_iconst 2 dX10_run_169 ic_2 ?_
    refine j_imul dX10_run_170 ?_
    refine j_iret dX10_run_171 rfl ?_
    exact hQ _ _ ⟨rfl, rfl⟩
  · exact absurd c1 (by omega)
set_option maxRecDepth 20000 in
set_option maxHeartbeats 4000000 in
theorem T_run_1_4 {d : Nat} {M : jk_M} (hC : WC M) (k : Nat) (a m x : Int32) (q : Nat) (hk : k < 7) (h0 : M.2.1 105 0 = nI k) (h1 : M.2.1 105 1 = a) (h2 : M.2.1 105 2 = m) (hq : q + 3 < 40) : J Fr_X10_run (d + 5) 0 0 0 [(0, .ref 105), (1, .int 1), (2, .int 4), (3, .int x), (4, .int (nI q))] [] M (jk_is (some (.int (stV k a m x * 2))) (noteL M (11 :: stL k))) := by
  refine j_post (fun Q hQ => ?_)
  refine j_aload_n 0 dX10_run_0 rfl ?_
  refine j_ifnull dX10_run_1 ?_
  refine j_iload 4 dX10_run_4 rfl ?_
  refine j_bipush 40 dX10_run_6 bp_40 ?_
  refine j_icmp_leN (tgt := 13) q 40 dX10_run_8 rfl (by omega) (by omega) (fun c1 => ?_) (fun c1 => ?_)
  · refine j_iload_n 1 dX10_run_13 rfl ?_
    refine j_iload_n 2 dX10_run_14 rfl ?_
    refine j_callS (kc := 0) (ks := 0) (a := 0) (b := 0) (d' := (d + 1)) (As := [.int 1, .int 4]) dX10_run_15 kX10_394 rfl (by omega) rfl rfl rfl (Nat.le_of_ble_eq_true rfl) (Nat.le_of_ble_eq_true rfl) (T_kwb_1_4) (kk_p ?_)
    refine j_istore (L' := [(5, .int 0), (0, .ref 105), (1, .int 1), (2, .int 4), (3, .int x), (4, .int (nI q))]) dX10_run_18 (by decide) rfl ?_
    refine j_iload 0 dX10_run_20 rfl ?_
    refine j_callS (kc := 0) (ks := 0) (a := 0) (b := 0) (d' := d) (As := [.int 0]) dX10_run_22 kX10_397 rfl (by omega) rfl rfl rfl (Nat.le_of_ble_eq_true rfl) (Nat.le_of_ble_eq_true rfl) ((T_kAb_c (c := 0) (by decide))) (kk_p ?_)
    refine j_istore (L' := [(6, .int 0), (5, .int 0), (0, .ref 105), (1, .int 1), (2, .int 4), (3, .int x), (4, .int (nI q))]) dX10_run_25 (by decide) rfl ?_
    refine j_aload_n 2 dX10_run_27 rfl ?_
    refine j_getv (nI k) dX10_run_28 fX10_400 (shC hC sgC_105) rfl h0 ?_
    refine j_istore (L' := [(7, .int (nI k)), (6, .int 0), (5, .int 0), (0, .ref 105), (1, .int 1), (2, .int 4), (3, .int x), (4, .int (nI q))]) dX10_run_31 (by decide) rfl ?_
    refine j_iload 7 dX10_run_33 rfl ?_
    refine j_iconst 1 dX10_run_35 ic_1 ?_
    refine j_iaddN q 1 dX10_run_36 ?_
    refine j_istore (L' := [(8, .int (nI (q + 1))), (7, .int (nI k)), (6, .int 0), (5, .int 0), (0, .ref 105), (1, .int 1), (2, .int 4), (3, .int x), (4, .int (nI q))]) dX10_run_37 (by decide) rfl ?_
    refine j_iload_n 5 dX10_run_39 rfl ?_
    refine j_iload 3 dX10_run_40 rfl ?_
    refine j_callS (kc := 0) (ks := 0) (a := 0) (b := 0) (d' := d) (As := [.int 1, .int 0]) dX10_run_42 kX10_401 rfl (by omega) rfl rfl rfl (Nat.le_of_ble_eq_true rfl) (Nat.le_of_ble_eq_true rfl) ((T_bodyOf_c (c := 11) (by decide))) (kk_p ?_)
    refine j_istore (L' := [(9, .int 11), (8, .int (nI (q + 1))), (7, .int (nI k)), (6, .int 0), (5, .int 0), (0, .ref 105), (1, .int 1), (2, .int 4), (3, .int x), (4, .int (nI q))]) dX10_run_45 (by decide) rfl ?_
    refine j_aload_n 5 dX10_run_47 rfl ?_
    refine j_iload 0 dX10_run_48 rfl ?_
    refine j_callV (kc := 0) (ks := 0) (a := 0) (b := 0) (d' := d) (As := [.int 11]) dX10_run_50 kX10_404 rfl (shC hC sgC_105) (by omega) rfl rfl rfl (Nat.le_of_ble_eq_true rfl) (Nat.le_of_ble_eq_true rfl) (T_X4_note hC 11) (kk_pv ?_)
    refine j_iload 0 dX10_run_53 rfl ?_
    refine j_lookup (off := 104) (tgt := 159) dX10_run_55 (by decide) (by decide) rfl ?_
    refine j_aload_n 5 dX10_run_159 rfl ?_
    refine j_iconst 0 dX10_run_160 ic_0 ?_
    refine j_iload 2 dX10_run_161 rfl ?_
    refine j_iload_n 8 dX10_run_163 rfl ?_
    refine j_iload 1 dX10_run_164 rfl ?_
    refine j_callS (kc := 0) (ks := 0) (a := 0) (b := 0) (d' := (d + 4)) (As := [.ref 105, .int 0, .int (nI k), .int x, .int (nI (q + 1))]) dX10_run_166 kX10_357 rfl (by omega) rfl rfl rfl (Nat.le_of_ble_eq_true rfl) (Nat.le_of_ble_eq_true rfl) (T_runA_0 (noteM_g.C hC) k a m x (q + 1) hk ((noteM_k (by decide)).trans h0) ((noteM_k (by decide)).trans h1) ((noteM_k (by decide)).trans h2) (by omega)) (kk_p ?_)
    refine j_iconst 2 dX10_run_169 ic_2 ?_
    refine j_imul dX10_run_170 ?_
    refine j_iret dX10_run_171 rfl ?_
    exact hQ _ _ ⟨rfl, rfl⟩
  · exact absurd c1 (by omega)
set_option maxRecDepth 20000 in
set_option maxHeartbeats 4000000 in
theorem T_run_1_2 {d : Nat} {M : jk_M} (hC : WC M) (k : Nat) (a m x : Int32) (q : Nat) (hk : k < 7) (h0 : M.2.1 105 0 = nI k) (h1 : M.2.1 105 1 = a) (h2 : M.2.1 105 2 = m) (hq : q + 4 < 40) : J Fr_X10_run (d + 6) 0 0 0 [(0, .ref 105), (1, .int 1), (2, .int 2), (3, .int x), (4, .int (nI q))] [] M (jk_is (some (.int (stV k a m x * 2 * 3))) (noteL M (30 :: 11 :: stL k))) := by
  refine j_post (fun Q hQ => ?_)
  refine j_aload_n 0 dX10_run_0 rfl ?_
  refine j_ifnull dX10_run_1 ?_
  refine j_iload 4 dX10_run_4 rfl ?_
  refine j_bipush 40 dX10_run_6 bp_40 ?_
  refine j_icmp_leN (tgt := 13) q 40 dX10_run_8 rfl (by omega) (by omega) (fun c1 => ?_) (fun c1 => ?_)
  · refine j_iload_n 1 dX10_run_13 rfl ?_
    refine j_iload_n 2 dX10_run_14 rfl ?_
    refine j_callS (kc := 0) (ks := 0) (a := 0) (b := 0) (d' := (d + 1)) (As := [.int 1, .int 2]) dX10_run_15 kX10_394 rfl (by omega) rfl rfl rfl (Nat.le_of_ble_eq_true rfl) (Nat.le_of_ble_eq_true rfl) (T_kwb_1_2) (kk_p ?_)
    refine j_istore (L' := [(5, .int 2), (0, .ref 105), (1, .int 1), (2, .int 2), (3, .int x), (4, .int (nI q))]) dX10_run_18 (by decide) rfl ?_
    refine j_iload 0 dX10_run_20 rfl ?_
    refine j_callS (kc := 0) (ks := 0) (a := 0) (b := 0) (d' := d) (As := [.int 2]) dX10_run_22 kX10_397 rfl (by omega) rfl rfl rfl (Nat.le_of_ble_eq_true rfl) (Nat.le_of_ble_eq_true rfl) ((T_kAb_c (c := 0) (by decide))) (kk_p ?_)
    refine j_istore (L' := [(6, .int 0), (5, .int 2), (0, .ref 105), (1, .int 1), (2, .int 2), (3, .int x), (4, .int (nI q))]) dX10_run_25 (by decide) rfl ?_
    refine j_aload_n 2 dX10_run_27 rfl ?_
    refine j_getv (nI k) dX10_run_28 fX10_400 (shC hC sgC_105) rfl h0 ?_
    refine j_istore (L' := [(7, .int (nI k)), (6, .int 0), (5, .int 2), (0, .ref 105), (1, .int 1), (2, .int 2), (3, .int x), (4, .int (nI q))]) dX10_run_31 (by decide) rfl ?_
    refine j_iload 7 dX10_run_33 rfl ?_
    refine j_iconst 1 dX10_run_35 ic_1 ?_
    refine j_iaddN q 1 dX10_run_36 ?_
    refine j_istore (L' := [(8, .int (nI (q + 1))), (7, .int (nI k)), (6, .int 0), (5, .int 2), (0, .ref 105), (1, .int 1), (2, .int 2), (3, .int x), (4, .int (nI q))]) dX10_run_37 (by decide) rfl ?_
    refine j_iload_n 5 dX10_run_39 rfl ?_
    refine j_iload 3 dX10_run_40 rfl ?_
    refine j_callS (kc := 0) (ks := 0) (a := 0) (b := 0) (d' := d) (As := [.int 1, .int 2]) dX10_run_42 kX10_401 rfl (by omega) rfl rfl rfl (Nat.le_of_ble_eq_true rfl) (Nat.le_of_ble_eq_true rfl) ((T_bodyOf_c (c := 30) (by decide))) (kk_p ?_)
    refine j_istore (L' := [(9, .int 30), (8, .int (nI (q + 1))), (7, .int (nI k)), (6, .int 0), (5, .int 2), (0, .ref 105), (1, .int 1), (2, .int 2), (3, .int x), (4, .int (nI q))]) dX10_run_45 (by decide) rfl ?_
    refine j_aload_n 5 dX10_run_47 rfl ?_
    refine j_iload 0 dX10_run_48 rfl ?_
    refine j_callV (kc := 0) (ks := 0) (a := 0) (b := 0) (d' := d) (As := [.int 30]) dX10_run_50 kX10_404 rfl (shC hC sgC_105) (by omega) rfl rfl rfl (Nat.le_of_ble_eq_true rfl) (Nat.le_of_ble_eq_true rfl) (T_X4_note hC 30) (kk_pv ?_)
    refine j_iload 0 dX10_run_53 rfl ?_
    refine j_lookup (off := 160) (tgt := 215) dX10_run_55 (by decide) (by decide) rfl ?_
    refine j_aload_n 5 dX10_run_215 rfl ?_
    refine j_iconst 1 dX10_run_216 ic_1 ?_
    refine j_iload 3 dX10_run_217 rfl ?_
    refine j_iload_n 8 dX10_run_219 rfl ?_
    refine j_iload 1 dX10_run_220 rfl ?_
    refine j_callS (kc := 0) (ks := 0) (a := 0) (b := 0) (d' := (d + 5)) (As := [.ref 105, .int 1, .int 0, .int x, .int (nI (q + 1))]) dX10_run_222 kX10_357 rfl (by omega) rfl rfl rfl (Nat.le_of_ble_eq_true rfl) (Nat.le_of_ble_eq_true rfl) (T_run_1_0 (noteM_g.C hC) k a m x (q + 1) hk ((noteM_k (by decide)).trans h0) ((noteM_k (by decide)).trans h1) ((noteM_k (by decide)).trans h2) (by omega)) (kk_p ?_)
    refine j_iconst 3 dX10_run_225 ic_3 ?_
    refine j_imul dX10_run_226 ?_
    refine j_iret dX10_run_227 rfl ?_
    exact hQ _ _ ⟨rfl, rfl⟩
  · exact absurd c1 (by omega)
set_option maxRecDepth 20000 in
set_option maxHeartbeats 4000000 in
theorem T_run_1_5 {d : Nat} {M : jk_M} (hC : WC M) (k : Nat) (a m x : Int32) (q : Nat) (hk : k < 7) (h0 : M.2.1 105 0 = nI k) (h1 : M.2.1 105 1 = a) (h2 : M.2.1 105 2 = m) (hq : q + 4 < 40) : J Fr_X10_run (d + 6) 0 0 0 [(0, .ref 105), (1, .int 1), (2, .int 5), (3, .int x), (4, .int (nI q))] [] M (jk_is (some (.int (stV k a m x * 2 * 3))) (noteL M (30 :: 11 :: stL k))) := by
  refine j_post (fun Q hQ => ?_)
  refine j_aload_n 0 dX10_run_0 rfl ?_
  refine j_ifnull dX10_run_1 ?_
  refine j_iload 4 dX10_run_4 rfl ?_
  refine j_bipush 40 dX10_run_6 bp_40 ?_
  refine j_icmp_leN (tgt := 13) q 40 dX10_run_8 rfl (by omega) (by omega) (fun c1 => ?_) (fun c1 => ?_)
  · refine j_iload_n 1 dX10_run_13 rfl ?_
    refine j_iload_n 2 dX10_run_14 rfl ?_
    refine j_callS (kc := 0) (ks := 0) (a := 0) (b := 0) (d' := (d + 1)) (As := [.int 1, .int 5]) dX10_run_15 kX10_394 rfl (by omega) rfl rfl rfl (Nat.le_of_ble_eq_true rfl) (Nat.le_of_ble_eq_true rfl) (T_kwb_1_5) (kk_p ?_)
    refine j_istore (L' := [(5, .int 2), (0, .ref 105), (1, .int 1), (2, .int 5), (3, .int x), (4, .int (nI q))]) dX10_run_18 (by decide) rfl ?_
    refine j_iload 0 dX10_run_20 rfl ?_
    refine j_callS (kc := 0) (ks := 0) (a := 0) (b := 0) (d' := d) (As := [.int 2]) dX10_run_22 kX10_397 rfl (by omega) rfl rfl rfl (Nat.le_of_ble_eq_true rfl) (Nat.le_of_ble_eq_true rfl) ((T_kAb_c (c := 0) (by decide))) (kk_p ?_)
    refine j_istore (L' := [(6, .int 0), (5, .int 2), (0, .ref 105), (1, .int 1), (2, .int 5), (3, .int x), (4, .int (nI q))]) dX10_run_25 (by decide) rfl ?_
    refine j_aload_n 2 dX10_run_27 rfl ?_
    refine j_getv (nI k) dX10_run_28 fX10_400 (shC hC sgC_105) rfl h0 ?_
    refine j_istore (L' := [(7, .int (nI k)), (6, .int 0), (5, .int 2), (0, .ref 105), (1, .int 1), (2, .int 5), (3, .int x), (4, .int (nI q))]) dX10_run_31 (by decide) rfl ?_
    refine j_iload 7 dX10_run_33 rfl ?_
    refine j_iconst 1 dX10_run_35 ic_1 ?_
    refine j_iaddN q 1 dX10_run_36 ?_
    refine j_istore (L' := [(8, .int (nI (q + 1))), (7, .int (nI k)), (6, .int 0), (5, .int 2), (0, .ref 105), (1, .int 1), (2, .int 5), (3, .int x), (4, .int (nI q))]) dX10_run_37 (by decide) rfl ?_
    refine j_iload_n 5 dX10_run_39 rfl ?_
    refine j_iload 3 dX10_run_40 rfl ?_
    refine j_callS (kc := 0) (ks := 0) (a := 0) (b := 0) (d' := d) (As := [.int 1, .int 2]) dX10_run_42 kX10_401 rfl (by omega) rfl rfl rfl (Nat.le_of_ble_eq_true rfl) (Nat.le_of_ble_eq_true rfl) ((T_bodyOf_c (c := 30) (by decide))) (kk_p ?_)
    refine j_istore (L' := [(9, .int 30), (8, .int (nI (q + 1))), (7, .int (nI k)), (6, .int 0), (5, .int 2), (0, .ref 105), (1, .int 1), (2, .int 5), (3, .int x), (4, .int (nI q))]) dX10_run_45 (by decide) rfl ?_
    refine j_aload_n 5 dX10_run_47 rfl ?_
    refine j_iload 0 dX10_run_48 rfl ?_
    refine j_callV (kc := 0) (ks := 0) (a := 0) (b := 0) (d' := d) (As := [.int 30]) dX10_run_50 kX10_404 rfl (shC hC sgC_105) (by omega) rfl rfl rfl (Nat.le_of_ble_eq_true rfl) (Nat.le_of_ble_eq_true rfl) (T_X4_note hC 30) (kk_pv ?_)
    refine j_iload 0 dX10_run_53 rfl ?_
    refine j_lookup (off := 160) (tgt := 215) dX10_run_55 (by decide) (by decide) rfl ?_
    refine j_aload_n 5 dX10_run_215 rfl ?_
    refine j_iconst 1 dX10_run_216 ic_1 ?_
    refine j_iload 3 dX10_run_217 rfl ?_
    refine j_iload_n 8 dX10_run_219 rfl ?_
    refine j_iload 1 dX10_run_220 rfl ?_
    refine j_callS (kc := 0) (ks := 0) (a := 0) (b := 0) (d' := (d + 5)) (As := [.ref 105, .int 1, .int 0, .int x, .int (nI (q + 1))]) dX10_run_222 kX10_357 rfl (by omega) rfl rfl rfl (Nat.le_of_ble_eq_true rfl) (Nat.le_of_ble_eq_true rfl) (T_run_1_0 (noteM_g.C hC) k a m x (q + 1) hk ((noteM_k (by decide)).trans h0) ((noteM_k (by decide)).trans h1) ((noteM_k (by decide)).trans h2) (by omega)) (kk_p ?_)
    refine j_iconst 3 dX10_run_225 ic_3 ?_
    refine j_imul dX10_run_226 ?_
    refine j_iret dX10_run_227 rfl ?_
    exact hQ _ _ ⟨rfl, rfl⟩
  · exact absurd c1 (by omega)
set_option maxRecDepth 20000 in
set_option maxHeartbeats 4000000 in
theorem T_run_1_3 {d : Nat} {M : jk_M} (hC : WC M) (k : Nat) (a m x : Int32) (q : Nat) (hk : k < 7) (h0 : M.2.1 105 0 = nI k) (h1 : M.2.1 105 1 = a) (h2 : M.2.1 105 2 = m) (hq : q + 4 < 40) : J Fr_X10_run (d + 6) 0 0 0 [(0, .ref 105), (1, .int 1), (2, .int 3), (3, .int x), (4, .int (nI q))] [] M (jk_is (some (.int (stV k a m (x + 1) * 2))) (noteL M (40 :: 11 :: stL k))) := by
  refine j_post (fun Q hQ => ?_)
  refine j_aload_n 0 dX10_run_0 rfl ?_
  refine j_ifnull dX10_run_1 ?_
  refine j_iload 4 dX10_run_4 rfl ?_
  refine j_bipush 40 dX10_run_6 bp_40 ?_
  refine j_icmp_leN (tgt := 13) q 40 dX10_run_8 rfl (by omega) (by omega) (fun c1 => ?_) (fun c1 => ?_)
  · refine j_iload_n 1 dX10_run_13 rfl ?_
    refine j_iload_n 2 dX10_run_14 rfl ?_
    refine j_callS (kc := 0) (ks := 0) (a := 0) (b := 0) (d' := (d + 1)) (As := [.int 1, .int 3]) dX10_run_15 kX10_394 rfl (by omega) rfl rfl rfl (Nat.le_of_ble_eq_true rfl) (Nat.le_of_ble_eq_true rfl) (T_kwb_1_3) (kk_p ?_)
    refine j_istore (L' := [(5, .int 3), (0, .ref 105), (1, .int 1), (2, .int 3), (3, .int x), (4, .int (nI q))]) dX10_run_18 (by decide) rfl ?_
    refine j_iload 0 dX10_run_20 rfl ?_
    refine j_callS (kc := 0) (ks := 0) (a := 0) (b := 0) (d' := d) (As := [.int 3]) dX10_run_22 kX10_397 rfl (by omega) rfl rfl rfl (Nat.le_of_ble_eq_true rfl) (Nat.le_of_ble_eq_true rfl) ((T_kAb_c (c := 1) (by decide))) (kk_p ?_)
    refine j_istore (L' := [(6, .int 1), (5, .int 3), (0, .ref 105), (1, .int 1), (2, .int 3), (3, .int x), (4, .int (nI q))]) dX10_run_25 (by decide) rfl ?_
    refine j_aload_n 2 dX10_run_27 rfl ?_
    refine j_getv (nI k) dX10_run_28 fX10_400 (shC hC sgC_105) rfl h0 ?_
    refine j_istore (L' := [(7, .int (nI k)), (6, .int 1), (5, .int 3), (0, .ref 105), (1, .int 1), (2, .int 3), (3, .int x), (4, .int (nI q))]) dX10_run_31 (by decide) rfl ?_
    refine j_iload 7 dX10_run_33 rfl ?_
    refine j_iconst 1 dX10_run_35 ic_1 ?_
    refine j_iaddN q 1 dX10_run_36 ?_
    refine j_istore (L' := [(8, .int (nI (q + 1))), (7, .int (nI k)), (6, .int 1), (5, .int 3), (0, .ref 105), (1, .int 1), (2, .int 3), (3, .int x), (4, .int (nI q))]) dX10_run_37 (by decide) rfl ?_
    refine j_iload_n 5 dX10_run_39 rfl ?_
    refine j_iload 3 dX10_run_40 rfl ?_
    refine j_callS (kc := 0) (ks := 0) (a := 0) (b := 0) (d' := d) (As := [.int 1, .int 3]) dX10_run_42 kX10_401 rfl (by omega) rfl rfl rfl (Nat.le_of_ble_eq_true rfl) (Nat.le_of_ble_eq_true rfl) ((T_bodyOf_c (c := 40) (by decide))) (kk_p ?_)
    refine j_istore (L' := [(9, .int 40), (8, .int (nI (q + 1))), (7, .int (nI k)), (6, .int 1), (5, .int 3), (0, .ref 105), (1, .int 1), (2, .int 3), (3, .int x), (4, .int (nI q))]) dX10_run_45 (by decide) rfl ?_
    refine j_aload_n 5 dX10_run_47 rfl ?_
    refine j_iload 0 dX10_run_48 rfl ?_
    refine j_callV (kc := 0) (ks := 0) (a := 0) (b := 0) (d' := d) (As := [.int 40]) dX10_run_50 kX10_404 rfl (shC hC sgC_105) (by omega) rfl rfl rfl (Nat.le_of_ble_eq_true rfl) (Nat.le_of_ble_eq_true rfl) (T_X4_note hC 40) (kk_pv ?_)
    refine j_iload 0 dX10_run_53 rfl ?_
    refine j_lookup (off := 173) (tgt := 228) dX10_run_55 (by decide) (by decide) rfl ?_
    refine j_aload_n 5 dX10_run_228 rfl ?_
    refine j_iconst 1 dX10_run_229 ic_1 ?_
    refine j_iload 3 dX10_run_230 rfl ?_
    refine j_iload_n 8 dX10_run_232 rfl ?_
    refine j_iconst 1 dX10_run_233 ic_1 ?_
    refine j_iadd dX10_run_234 ?_
    refine j_iload 1 dX10_run_235 rfl ?_
    refine j_callS (kc := 0) (ks := 0) (a := 0) (b := 0) (d' := (d + 5)) (As := [.ref 105, .int 1, .int 1, .int (x + 1), .int (nI (q + 1))]) dX10_run_237 kX10_357 rfl (by omega) rfl rfl rfl (Nat.le_of_ble_eq_true rfl) (Nat.le_of_ble_eq_true rfl) (T_run_1_1 (noteM_g.C hC) k a m (x + 1) (q + 1) hk ((noteM_k (by decide)).trans h0) ((noteM_k (by decide)).trans h1) ((noteM_k (by decide)).trans h2) (by omega)) (kk_p ?_)
    refine j_iret dX10_run_240 rfl ?_
    exact hQ _ _ ⟨rfl, rfl⟩
  · exact absurd c1 (by omega)
set_option maxRecDepth 20000 in
set_option maxHeartbeats 4000000 in
theorem T_run_1_6 {d : Nat} {M : jk_M} (hC : WC M) (k : Nat) (a m x : Int32) (q : Nat) (hk : k < 7) (h0 : M.2.1 105 0 = nI k) (h1 : M.2.1 105 1 = a) (h2 : M.2.1 105 2 = m) (hq : q + 4 < 40) : J Fr_X10_run (d + 6) 0 0 0 [(0, .ref 105), (1, .int 1), (2, .int 6), (3, .int x), (4, .int (nI q))] [] M (jk_is (some (.int (stV k a m (x - a) * 2))) (noteL M (71 :: 11 :: stL k))) := by
  refine j_post (fun Q hQ => ?_)
  refine j_aload_n 0 dX10_run_0 rfl ?_
  refine j_ifnull dX10_run_1 ?_
  refine j_iload 4 dX10_run_4 rfl ?_
  refine j_bipush 40 dX10_run_6 bp_40 ?_
  refine j_icmp_leN (tgt := 13) q 40 dX10_run_8 rfl (by omega) (by omega) (fun c1 => ?_) (fun c1 => ?_)
  · refine j_iload_n 1 dX10_run_13 rfl ?_
    refine j_iload_n 2 dX10_run_14 rfl ?_
    refine j_callS (kc := 0) (ks := 0) (a := 0) (b := 0) (d' := (d + 1)) (As := [.int 1, .int 6]) dX10_run_15 kX10_394 rfl (by omega) rfl rfl rfl (Nat.le_of_ble_eq_true rfl) (Nat.le_of_ble_eq_true rfl) (T_kwb_1_6) (kk_p ?_)
    refine j_istore (L' := [(5, .int 6), (0, .ref 105), (1, .int 1), (2, .int 6), (3, .int x), (4, .int (nI q))]) dX10_run_18 (by decide) rfl ?_
    refine j_iload 0 dX10_run_20 rfl ?_
    refine j_callS (kc := 0) (ks := 0) (a := 0) (b := 0) (d' := d) (As := [.int 6]) dX10_run_22 kX10_397 rfl (by omega) rfl rfl rfl (Nat.le_of_ble_eq_true rfl) (Nat.le_of_ble_eq_true rfl) ((T_kAb_c (c := 4) (by decide))) (kk_p ?_)
    refine j_istore (L' := [(6, .int 4), (5, .int 6), (0, .ref 105), (1, .int 1), (2, .int 6), (3, .int x), (4, .int (nI q))]) dX10_run_25 (by decide) rfl ?_
    refine j_aload_n 2 dX10_run_27 rfl ?_
    refine j_getv (nI k) dX10_run_28 fX10_400 (shC hC sgC_105) rfl h0 ?_
    refine j_istore (L' := [(7, .int (nI k)), (6, .int 4), (5, .int 6), (0, .ref 105), (1, .int 1), (2, .int 6), (3, .int x), (4, .int (nI q))]) dX10_run_31 (by decide) rfl ?_
    refine j_iload 7 dX10_run_33 rfl ?_
    refine j_iconst 1 dX10_run_35 ic_1 ?_
    refine j_iaddN q 1 dX10_run_36 ?_
    refine j_istore (L' := [(8, .int (nI (q + 1))), (7, .int (nI k)), (6, .int 4), (5, .int 6), (0, .ref 105), (1, .int 1), (2, .int 6), (3, .int x), (4, .int (nI q))]) dX10_run_37 (by decide) rfl ?_
    refine j_iload_n 5 dX10_run_39 rfl ?_
    refine j_iload 3 dX10_run_40 rfl ?_
    refine j_callS (kc := 0) (ks := 0) (a := 0) (b := 0) (d' := d) (As := [.int 1, .int 6]) dX10_run_42 kX10_401 rfl (by omega) rfl rfl rfl (Nat.le_of_ble_eq_true rfl) (Nat.le_of_ble_eq_true rfl) ((T_bodyOf_c (c := 71) (by decide))) (kk_p ?_)
    refine j_istore (L' := [(9, .int 71), (8, .int (nI (q + 1))), (7, .int (nI k)), (6, .int 4), (5, .int 6), (0, .ref 105), (1, .int 1), (2, .int 6), (3, .int x), (4, .int (nI q))]) dX10_run_45 (by decide) rfl ?_
    refine j_aload_n 5 dX10_run_47 rfl ?_
    refine j_iload 0 dX10_run_48 rfl ?_
    refine j_callV (kc := 0) (ks := 0) (a := 0) (b := 0) (d' := d) (As := [.int 71]) dX10_run_50 kX10_404 rfl (shC hC sgC_105) (by omega) rfl rfl rfl (Nat.le_of_ble_eq_true rfl) (Nat.le_of_ble_eq_true rfl) (T_X4_note hC 71) (kk_pv ?_)
    refine j_iload 0 dX10_run_53 rfl ?_
    refine j_lookup (off := 240) (tgt := 295) dX10_run_55 (by decide) (by decide) rfl ?_
    refine j_aload_n 5 dX10_run_295 rfl ?_
    refine j_iconst 1 dX10_run_296 ic_1 ?_
    refine j_iload 3 dX10_run_297 rfl ?_
    refine j_iload_n 8 dX10_run_299 rfl ?_
    refine j_aload_n 5 dX10_run_300 rfl ?_
    refine j_getv a dX10_run_301 fX10_410 (shC (noteM_g.C hC) sgC_105) rfl ((noteM_k (by decide)).trans h1) ?_
    refine j_isub dX10_run_304 ?_
    refine j_iload 1 dX10_run_305 rfl ?_
    refine j_callS (kc := 0) (ks := 0) (a := 0) (b := 0) (d' := (d + 5)) (As := [.ref 105, .int 1, .int 4, .int (x - a), .int (nI (q + 1))]) dX10_run_307 kX10_357 rfl (by omega) rfl rfl rfl (Nat.le_of_ble_eq_true rfl) (Nat.le_of_ble_eq_true rfl) (T_run_1_4 (noteM_g.C hC) k a m (x - a) (q + 1) hk ((noteM_k (by decide)).trans h0) ((noteM_k (by decide)).trans h1) ((noteM_k (by decide)).trans h2) (by omega)) (kk_p ?_)
    refine j_iret dX10_run_310 rfl ?_
    exact hQ _ _ ⟨rfl, rfl⟩
  · exact absurd c1 (by omega)
theorem T_runA_1 {d : Nat} {M : jk_M} (hC : WC M) (k : Nat) (a m x : Int32) (q : Nat) (hk : k < 7) (h0 : M.2.1 105 0 = nI k) (h1 : M.2.1 105 1 = a) (h2 : M.2.1 105 2 = m) (hq : q + 4 < 40) : J Fr_X10_run (d + 6) 0 0 0 [(0, .ref 105), (1, .int 1), (2, .int (nI k)), (3, .int x), (4, .int (nI q))] [] M (jk_is (some (.int (tkV k a m x))) (noteL M (tkL k))) := by
  have hk7 : k = 0 ∨ k = 1 ∨ k = 2 ∨ k = 3 ∨ k = 4 ∨ k = 5 ∨ k = 6 := by omega
  rcases hk7 with rfl | rfl | rfl | rfl | rfl | rfl | rfl
  · rw [show (Value.int (nI 0)) = .int 0 from congrArg _ (by decide)]
    exact T_run_1_0 (d := d + 1) hC 0 a m x q hk h0 h1 h2 (by omega)
  · rw [show (Value.int (nI 1)) = .int 1 from congrArg _ (by decide)]
    exact T_run_1_1 (d := d + 1) hC 1 a m x q hk h0 h1 h2 (by omega)
  · rw [show (Value.int (nI 2)) = .int 2 from congrArg _ (by decide)]
    exact T_run_1_2 (d := d + 0) hC 2 a m x q hk h0 h1 h2 (by omega)
  · rw [show (Value.int (nI 3)) = .int 3 from congrArg _ (by decide)]
    exact T_run_1_3 (d := d + 0) hC 3 a m x q hk h0 h1 h2 (by omega)
  · rw [show (Value.int (nI 4)) = .int 4 from congrArg _ (by decide)]
    exact T_run_1_4 (d := d + 1) hC 4 a m x q hk h0 h1 h2 (by omega)
  · rw [show (Value.int (nI 5)) = .int 5 from congrArg _ (by decide)]
    exact T_run_1_5 (d := d + 0) hC 5 a m x q hk h0 h1 h2 (by omega)
  · rw [show (Value.int (nI 6)) = .int 6 from congrArg _ (by decide)]
    exact T_run_1_6 (d := d + 0) hC 6 a m x q hk h0 h1 h2 (by omega)
set_option maxRecDepth 20000 in
set_option maxHeartbeats 4000000 in
theorem T_run_2_0 {d : Nat} {M : jk_M} (hC : WC M) (k : Nat) (a m x : Int32) (q : Nat) (hk : k < 7) (h0 : M.2.1 105 0 = nI k) (h1 : M.2.1 105 1 = a) (h2 : M.2.1 105 2 = m) (hq : q + 5 < 40) : J Fr_X10_run (d + 7) 0 0 0 [(0, .ref 105), (1, .int 2), (2, .int 0), (3, .int x), (4, .int (nI q))] [] M (jk_is (some (.int (tkV k a m x ^^^ stV k a m (x - a)))) (noteL M (12 :: (tkL k ++ stL k)))) := by
  refine j_post (fun Q hQ => ?_)
  refine j_aload_n 0 dX10_run_0 rfl ?_
  refine j_ifnull dX10_run_1 ?_
  refine j_iload 4 dX10_run_4 rfl ?_
  refine j_bipush 40 dX10_run_6 bp_40 ?_
  refine j_icmp_leN (tgt := 13) q 40 dX10_run_8 rfl (by omega) (by omega) (fun c1 => ?_) (fun c1 => ?_)
  · refine j_iload_n 1 dX10_run_13 rfl ?_
    refine j_iload_n 2 dX10_run_14 rfl ?_
    refine j_callS (kc := 0) (ks := 0) (a := 0) (b := 0) (d' := (d + 1)) (As := [.int 2, .int 0]) dX10_run_15 kX10_394 rfl (by omega) rfl rfl rfl (Nat.le_of_ble_eq_true rfl) (Nat.le_of_ble_eq_true rfl) (T_kwb_2_0) (kk_p ?_)
    refine j_istore (L' := [(5, .int 0), (0, .ref 105), (1, .int 2), (2, .int 0), (3, .int x), (4, .int (nI q))]) dX10_run_18 (by decide) rfl ?_
    refine j_iload 0 dX10_run_20 rfl ?_
    refine j_callS (kc := 0) (ks := 0) (a := 0) (b := 0) (d' := d) (As := [.int 0]) dX10_run_22 kX10_397 rfl (by omega) rfl rfl rfl (Nat.le_of_ble_eq_true rfl) (Nat.le_of_ble_eq_true rfl) ((T_kAb_c (c := 0) (by decide))) (kk_p ?_)
    refine j_istore (L' := [(6, .int 0), (5, .int 0), (0, .ref 105), (1, .int 2), (2, .int 0), (3, .int x), (4, .int (nI q))]) dX10_run_25 (by decide) rfl ?_
    refine j_aload_n 2 dX10_run_27 rfl ?_
    refine j_getv (nI k) dX10_run_28 fX10_400 (shC hC sgC_105) rfl h0 ?_
    refine j_istore (L' := [(7, .int (nI k)), (6, .int 0), (5, .int 0), (0, .ref 105), (1, .int 2), (2, .int 0), (3, .int x), (4, .int (nI q))]) dX10_run_31 (by decide) rfl ?_
    refine j_iload 7 dX10_run_33 rfl ?_
    refine j_iconst 1 dX10_run_35 ic_1 ?_
    refine j_iaddN q 1 dX10_run_36 ?_
    refine j_istore (L' := [(8, .int (nI (q + 1))), (7, .int (nI k)), (6, .int 0), (5, .int 0), (0, .ref 105), (1, .int 2), (2, .int 0), (3, .int x), (4, .int (nI q))]) dX10_run_37 (by decide) rfl ?_
    refine j_iload_n 5 dX10_run_39 rfl ?_
    refine j_iload 3 dX10_run_40 rfl ?_
    refine j_callS (kc := 0) (ks := 0) (a := 0) (b := 0) (d' := d) (As := [.int 2, .int 0]) dX10_run_42 kX10_401 rfl (by omega) rfl rfl rfl (Nat.le_of_ble_eq_true rfl) (Nat.le_of_ble_eq_true rfl) ((T_bodyOf_c (c := 12) (by decide))) (kk_p ?_)
    refine j_istore (L' := [(9, .int 12), (8, .int (nI (q + 1))), (7, .int (nI k)), (6, .int 0), (5, .int 0), (0, .ref 105), (1, .int 2), (2, .int 0), (3, .int x), (4, .int (nI q))]) dX10_run_45 (by decide) rfl ?_
    refine j_aload_n 5 dX10_run_47 rfl ?_
    refine j_iload 0 dX10_run_48 rfl ?_
    refine j_callV (kc := 0) (ks := 0) (a := 0) (b := 0) (d' := d) (As := [.int 12]) dX10_run_50 kX10_404 rfl (shC hC sgC_105) (by omega) rfl rfl rfl (Nat.le_of_ble_eq_true rfl) (Nat.le_of_ble_eq_true rfl) (T_X4_note hC 12) (kk_pv ?_)
    refine j_iload 0 dX10_run_53 rfl ?_
    refine j_lookup (off := 117) (tgt := 172) dX10_run_55 (by decide) (by decide) rfl ?_
    refine j_aload_n 5 dX10_run_172 rfl ?_
    refine j_iconst 1 dX10_run_173 ic_1 ?_
    refine j_iload 2 dX10_run_174 rfl ?_
    refine j_iload_n 8 dX10_run_176 rfl ?_
    refine j_iload 1 dX10_run_177 rfl ?_
    refine j_callS (kc := 0) (ks := 0) (a := 0) (b := 0) (d' := (d + 6)) (As := [.ref 105, .int 1, .int (nI k), .int x, .int (nI (q + 1))]) dX10_run_179 kX10_357 rfl (by omega) rfl rfl rfl (Nat.le_of_ble_eq_true rfl) (Nat.le_of_ble_eq_true rfl) (T_runA_1 (noteM_g.C hC) k a m x (q + 1) hk ((noteM_k (by decide)).trans h0) ((noteM_k (by decide)).trans h1) ((noteM_k (by decide)).trans h2) (by omega)) (kk_p ?_)
    refine j_aload_n 5 dX10_run_182 rfl ?_
    refine j_iconst 0 dX10_run_183 ic_0 ?_
    refine j_iload 2 dX10_run_184 rfl ?_
    refine j_iload_n 8 dX10_run_186 rfl ?_
    refine j_aload_n 5 dX10_run_187 rfl ?_
    refine j_getv a dX10_run_188 fX10_410 (shC ((noteL_g _ _).C (noteM_g.C hC)) sgC_105) rfl ((noteL_k (by decide) _ _).trans ((noteM_k (by decide)).trans h1)) ?_
    refine j_isub dX10_run_191 ?_
    refine j_iload 1 dX10_run_192 rfl ?_
    refine j_callS (kc := 0) (ks := 0) (a := 0) (b := 0) (d' := (d + 4)) (As := [.ref 105, .int 0, .int (nI k), .int (x - a), .int (nI (q + 1))]) dX10_run_194 kX10_357 rfl (by omega) rfl rfl rfl (Nat.le_of_ble_eq_true rfl) (Nat.le_of_ble_eq_true rfl) (T_runA_0 ((noteL_g _ _).C (noteM_g.C hC)) k a m (x - a) (q + 1) hk ((noteL_k (by decide) _ _).trans ((noteM_k (by decide)).trans h0)) ((noteL_k (by decide) _ _).trans ((noteM_k (by decide)).trans h1)) ((noteL_k (by decide) _ _).trans ((noteM_k (by decide)).trans h2)) (by omega)) (kk_p ?_)
    refine j_ixor dX10_run_197 ?_
    refine j_iret dX10_run_198 rfl ?_
    exact hQ _ _ ⟨rfl, (noteL_app _ _ _).symm⟩
  · exact absurd c1 (by omega)
set_option maxRecDepth 20000 in
set_option maxHeartbeats 4000000 in
theorem T_run_2_1 {d : Nat} {M : jk_M} (hC : WC M) (k : Nat) (a m x : Int32) (q : Nat) (hk : k < 7) (h0 : M.2.1 105 0 = nI k) (h1 : M.2.1 105 1 = a) (h2 : M.2.1 105 2 = m) (hq : q + 5 < 40) : J Fr_X10_run (d + 7) 0 0 0 [(0, .ref 105), (1, .int 2), (2, .int 1), (3, .int x), (4, .int (nI q))] [] M (jk_is (some (.int (tkV k a m x ^^^ stV k a m (x - a)))) (noteL M (12 :: (tkL k ++ stL k)))) := by
  refine j_post (fun Q hQ => ?_)
  refine j_aload_n 0 dX10_run_0 rfl ?_
  refine j_ifnull dX10_run_1 ?_
  refine j_iload 4 dX10_run_4 rfl ?_
  refine j_bipush 40 dX10_run_6 bp_40 ?_
  refine j_icmp_leN (tgt := 13) q 40 dX10_run_8 rfl (by omega) (by omega) (fun c1 => ?_) (fun c1 => ?_)
  · refine j_iload_n 1 dX10_run_13 rfl ?_
    refine j_iload_n 2 dX10_run_14 rfl ?_
    refine j_callS (kc := 0) (ks := 0) (a := 0) (b := 0) (d' := (d + 1)) (As := [.int 2, .int 1]) dX10_run_15 kX10_394 rfl (by omega) rfl rfl rfl (Nat.le_of_ble_eq_true rfl) (Nat.le_of_ble_eq_true rfl) (T_kwb_2_1) (kk_p ?_)
    refine j_istore (L' := [(5, .int 0), (0, .ref 105), (1, .int 2), (2, .int 1), (3, .int x), (4, .int (nI q))]) dX10_run_18 (by decide) rfl ?_
    refine j_iload 0 dX10_run_20 rfl ?_
    refine j_callS (kc := 0) (ks := 0) (a := 0) (b := 0) (d' := d) (As := [.int 0]) dX10_run_22 kX10_397 rfl (by omega) rfl rfl rfl (Nat.le_of_ble_eq_true rfl) (Nat.le_of_ble_eq_true rfl) ((T_kAb_c (c := 0) (by decide))) (kk_p ?_)
    refine j_istore (L' := [(6, .int 0), (5, .int 0), (0, .ref 105), (1, .int 2), (2, .int 1), (3, .int x), (4, .int (nI q))]) dX10_run_25 (by decide) rfl ?_
    refine j_aload_n 2 dX10_run_27 rfl ?_
    refine j_getv (nI k) dX10_run_28 fX10_400 (shC hC sgC_105) rfl h0 ?_
    refine j_istore (L' := [(7, .int (nI k)), (6, .int 0), (5, .int 0), (0, .ref 105), (1, .int 2), (2, .int 1), (3, .int x), (4, .int (nI q))]) dX10_run_31 (by decide) rfl ?_
    refine j_iload 7 dX10_run_33 rfl ?_
    refine j_iconst 1 dX10_run_35 ic_1 ?_
    refine j_iaddN q 1 dX10_run_36 ?_
    refine j_istore (L' := [(8, .int (nI (q + 1))), (7, .int (nI k)), (6, .int 0), (5, .int 0), (0, .ref 105), (1, .int 2), (2, .int 1), (3, .int x), (4, .int (nI q))]) dX10_run_37 (by decide) rfl ?_
    refine j_iload_n 5 dX10_run_39 rfl ?_
    refine j_iload 3 dX10_run_40 rfl ?_
    refine j_callS (kc := 0) (ks := 0) (a := 0) (b := 0) (d' := d) (As := [.int 2, .int 0]) dX10_run_42 kX10_401 rfl (by omega) rfl rfl rfl (Nat.le_of_ble_eq_true rfl) (Nat.le_of_ble_eq_true rfl) ((T_bodyOf_c (c := 12) (by decide))) (kk_p ?_)
    refine j_istore (L' := [(9, .int 12), (8, .int (nI (q + 1))), (7, .int (nI k)), (6, .int 0), (5, .int 0), (0, .ref 105), (1, .int 2), (2, .int 1), (3, .int x), (4, .int (nI q))]) dX10_run_45 (by decide) rfl ?_
    refine j_aload_n 5 dX10_run_47 rfl ?_
    refine j_iload 0 dX10_run_48 rfl ?_
    refine j_callV (kc := 0) (ks := 0) (a := 0) (b := 0) (d' := d) (As := [.int 12]) dX10_run_50 kX10_404 rfl (shC hC sgC_105) (by omega) rfl rfl rfl (Nat.le_of_ble_eq_true rfl) (Nat.le_of_ble_eq_true rfl) (T_X4_note hC 12) (kk_pv ?_)
    refine j_iload 0 dX10_run_53 rfl ?_
    refine j_lookup (off := 117) (tgt := 172) dX10_run_55 (by decide) (by decide) rfl ?_
    refine j_aload_n 5 dX10_run_172 rfl ?_
    refine j_iconst 1 dX10_run_173 ic_1 ?_
    refine j_iload 2 dX10_run_174 rfl ?_
    refine j_iload_n 8 dX10_run_176 rfl ?_
    refine j_iload 1 dX10_run_177 rfl ?_
    refine j_callS (kc := 0) (ks := 0) (a := 0) (b := 0) (d' := (d + 6)) (As := [.ref 105, .int 1, .int (nI k), .int x, .int (nI (q + 1))]) dX10_run_179 kX10_357 rfl (by omega) rfl rfl rfl (Nat.le_of_ble_eq_true rfl) (Nat.le_of_ble_eq_true rfl) (T_runA_1 (noteM_g.C hC) k a m x (q + 1) hk ((noteM_k (by decide)).trans h0) ((noteM_k (by decide)).trans h1) ((noteM_k (by decide)).trans h2) (by omega)) (kk_p ?_)
    refine j_aload_n 5 dX10_run_182 rfl ?_
    refine j_iconst 0 dX10_run_183 ic_0 ?_
    refine j_iload 2 dX10_run_184 rfl ?_
    refine j_iload_n 8 dX10_run_186 rfl ?_
    refine j_aload_n 5 dX10_run_187 rfl ?_
    refine j_getv a dX10_run_188 fX10_410 (shC ((noteL_g _ _).C (noteM_g.C hC)) sgC_105) rfl ((noteL_k (by decide) _ _).trans ((noteM_k (by decide)).trans h1)) ?_
    refine j_isub dX10_run_191 ?_
    refine j_iload 1 dX10_run_192 rfl ?_
    refine j_callS (kc := 0) (ks := 0) (a := 0) (b := 0) (d' := (d + 4)) (As := [.ref 105, .int 0, .int (nI k), .int (x - a), .int (nI (q + 1))]) dX10_run_194 kX10_357 rfl (by omega) rfl rfl rfl (Nat.le_of_ble_eq_true rfl) (Nat.le_of_ble_eq_true rfl) (T_runA_0 ((noteL_g _ _).C (noteM_g.C hC)) k a m (x - a) (q + 1) hk ((noteL_k (by decide) _ _).trans ((noteM_k (by decide)).trans h0)) ((noteL_k (by decide) _ _).trans ((noteM_k (by decide)).trans h1)) ((noteL_k (by decide) _ _).trans ((noteM_k (by decide)).trans h2)) (by omega)) (kk_p ?_)
    refine j_ixor dX10_run_197 ?_
    refine j_iret dX10_run_198 rfl ?_
    exact hQ _ _ ⟨rfl, (noteL_app _ _ _).symm⟩
  · exact absurd c1 (by omega)
set_option maxRecDepth 20000 in
set_option maxHeartbeats 4000000 in
theorem T_run_2_2 {d : Nat} {M : jk_M} (hC : WC M) (k : Nat) (a m x : Int32) (q : Nat) (hk : k < 7) (h0 : M.2.1 105 0 = nI k) (h1 : M.2.1 105 1 = a) (h2 : M.2.1 105 2 = m) (hq : q + 5 < 40) : J Fr_X10_run (d + 7) 0 0 0 [(0, .ref 105), (1, .int 2), (2, .int 2), (3, .int x), (4, .int (nI q))] [] M (jk_is (some (.int (tkV k a m x ^^^ stV k a m (x - a)))) (noteL M (12 :: (tkL k ++ stL k)))) := by
  refine j_post (fun Q hQ => ?_)
  refine j_aload_n 0 dX10_run_0 rfl ?_
  refine j_ifnull dX10_run_1 ?_
  refine j_iload 4 dX10_run_4 rfl ?_
  refine j_bipush 40 dX10_run_6 bp_40 ?_
  refine j_icmp_leN (tgt := 13) q 40 dX10_run_8 rfl (by omega) (by omega) (fun c1 => ?_) (fun c1 => ?_)
  · refine j_iload_n 1 dX10_run_13 rfl ?_
    refine j_iload_n 2 dX10_run_14 rfl ?_
    refine j_callS (kc := 0) (ks := 0) (a := 0) (b := 0) (d' := (d + 1)) (As := [.int 2, .int 2]) dX10_run_15 kX10_394 rfl (by omega) rfl rfl rfl (Nat.le_of_ble_eq_true rfl) (Nat.le_of_ble_eq_true rfl) (T_kwb_2_2) (kk_p ?_)
    refine j_istore (L' := [(5, .int 0), (0, .ref 105), (1, .int 2), (2, .int 2), (3, .int x), (4, .int (nI q))]) dX10_run_18 (by decide) rfl ?_
    refine j_iload 0 dX10_run_20 rfl ?_
    refine j_callS (kc := 0) (ks := 0) (a := 0) (b := 0) (d' := d) (As := [.int 0]) dX10_run_22 kX10_397 rfl (by omega) rfl rfl rfl (Nat.le_of_ble_eq_true rfl) (Nat.le_of_ble_eq_true rfl) ((T_kAb_c (c := 0) (by decide))) (kk_p ?_)
    refine j_istore (L' := [(6, .int 0), (5, .int 0), (0, .ref 105), (1, .int 2), (2, .int 2), (3, .int x), (4, .int (nI q))]) dX10_run_25 (by decide) rfl ?_
    refine j_aload_n 2 dX10_run_27 rfl ?_
    refine j_getv (nI k) dX10_run_28 fX10_400 (shC hC sgC_105) rfl h0 ?_
    refine j_istore (L' := [(7, .int (nI k)), (6, .int 0), (5, .int 0), (0, .ref 105), (1, .int 2), (2, .int 2), (3, .int x), (4, .int (nI q))]) dX10_run_31 (by decide) rfl ?_
    refine j_iload 7 dX10_run_33 rfl ?_
    refine j_iconst 1 dX10_run_35 ic_1 ?_
    refine j_iaddN q 1 dX10_run_36 ?_
    refine j_istore (L' := [(8, .int (nI (q + 1))), (7, .int (nI k)), (6, .int 0), (5, .int 0), (0, .ref 105), (1, .int 2), (2, .int 2), (3, .int x), (4, .int (nI q))]) dX10_run_37 (by decide) rfl ?_
    refine j_iload_n 5 dX10_run_39 rfl ?_
    refine j_iload 3 dX10_run_40 rfl ?_
    refine j_callS (kc := 0) (ks := 0) (a := 0) (b := 0) (d' := d) (As := [.int 2, .int 0]) dX10_run_42 kX10_401 rfl (by omega) rfl rfl rfl (Nat.le_of_ble_eq_true rfl) (Nat.le_of_ble_eq_true rfl) ((T_bodyOf_c (c := 12) (by decide))) (kk_p ?_)
    refine j_istore (L' := [(9, .int 12), (8, .int (nI (q + 1))), (7, .int (nI k)), (6, .int 0), (5, .int 0), (0, .ref 105), (1, .int 2), (2, .int 2), (3, .int x), (4, .int (nI q))]) dX10_run_45 (by decide) rfl ?_
    refine j_aload_n 5 dX10_run_47 rfl ?_
    refine j_iload 0 dX10_run_48 rfl ?_
    refine j_callV (kc := 0) (ks := 0) (a := 0) (b := 0) (d' := d) (As := [.int 12]) dX10_run_50 kX10_404 rfl (shC hC sgC_105) (by omega) rfl rfl rfl (Nat.le_of_ble_eq_true rfl) (Nat.le_of_ble_eq_true rfl) (T_X4_note hC 12) (kk_pv ?_)
    refine j_iload 0 dX10_run_53 rfl ?_
    refine j_lookup (off := 117) (tgt := 172) dX10_run_55 (by decide) (by decide) rfl ?_
    refine j_aload_n 5 dX10_run_172 rfl ?_
    refine j_iconst 1 dX10_run_173 ic_1 ?_
    refine j_iload 2 dX10_run_174 rfl ?_
    refine j_iload_n 8 dX10_run_176 rfl ?_
    refine j_iload 1 dX10_run_177 rfl ?_
    refine j_callS (kc := 0) (ks := 0) (a := 0) (b := 0) (d' := (d + 6)) (As := [.ref 105, .int 1, .int (nI k), .int x, .int (nI (q + 1))]) dX10_run_179 kX10_357 rfl (by omega) rfl rfl rfl (Nat.le_of_ble_eq_true rfl) (Nat.le_of_ble_eq_true rfl) (T_runA_1 (noteM_g.C hC) k a m x (q + 1) hk ((noteM_k (by decide)).trans h0) ((noteM_k (by decide)).trans h1) ((noteM_k (by decide)).trans h2) (by omega)) (kk_p ?_)
    refine j_aload_n 5 dX10_run_182 rfl ?_
    refine j_iconst 0 dX10_run_183 ic_0 ?_
    refine j_iload 2 dX10_run_184 rfl ?_
    refine j_iload_n 8 dX10_run_186 rfl ?_
    refine j_aload_n 5 dX10_run_187 rfl ?_
    refine j_getv a dX10_run_188 fX10_410 (shC ((noteL_g _ _).C (noteM_g.C hC)) sgC_105) rfl ((noteL_k (by decide) _ _).trans ((noteM_k (by decide)).trans h1)) ?_
    refine j_isub dX10_run_191 ?_
    refine j_iload 1 dX10_run_192 rfl ?_
    refine j_callS (kc := 0) (ks := 0) (a := 0) (b := 0) (d' := (d + 4)) (As := [.ref 105, .int 0, .int (nI k), .int (x - a), .int (nI (q + 1))]) dX10_run_194 kX10_357 rfl (by omega) rfl rfl rfl (Nat.le_of_ble_eq_true rfl) (Nat.le_of_ble_eq_true rfl) (T_runA_0 ((noteL_g _ _).C (noteM_g.C hC)) k a m (x - a) (q + 1) hk ((noteL_k (by decide) _ _).trans ((noteM_k (by decide)).trans h0)) ((noteL_k (by decide) _ _).trans ((noteM_k (by decide)).trans h1)) ((noteL_k (by decide) _ _).trans ((noteM_k (by decide)).trans h2)) (by omega)) (kk_p ?_)
    refine j_ixor dX10_run_197 ?_
    refine j_iret dX10_run_198 rfl ?_
    exact hQ _ _ ⟨rfl, (noteL_app _ _ _).symm⟩
  · exact absurd c1 (by omega)
set_option maxRecDepth 20000 in
set_option maxHeartbeats 4000000 in
theorem T_run_2_3 {d : Nat} {M : jk_M} (hC : WC M) (k : Nat) (a m x : Int32) (q : Nat) (hk : k < 7) (h0 : M.2.1 105 0 = nI k) (h1 : M.2.1 105 1 = a) (h2 : M.2.1 105 2 = m) (hq : q + 5 < 40) : J Fr_X10_run (d + 7) 0 0 0 [(0, .ref 105), (1, .int 2), (2, .int 3), (3, .int x), (4, .int (nI q))] [] M (jk_is (some (.int (tkV k a m x ^^^ stV k a m (x - a)))) (noteL M (12 :: (tkL k ++ stL k)))) := by
  refine j_post (fun Q hQ => ?_)
  refine j_aload_n 0 dX10_run_0 rfl ?_
  refine j_ifnull dX10_run_1 ?_
  refine j_iload 4 dX10_run_4 rfl ?_
  refine j_bipush 40 dX10_run_6 bp_40 ?_
  refine j_icmp_leN (tgt := 13) q 40 dX10_run_8 rfl (by omega) (by omega) (fun c1 => ?_) (fun c1 => ?_)
  · refine j_iload_n 1 dX10_run_13 rfl ?_
    refine j_iload_n 2 dX10_run_14 rfl ?_
    refine j_callS (kc := 0) (ks := 0) (a := 0) (b := 0) (d' := (d + 1)) (As := [.int 2, .int 3]) dX10_run_15 kX10_394 rfl (by omega) rfl rfl rfl (Nat.le_of_ble_eq_true rfl) (Nat.le_of_ble_eq_true rfl) (T_kwb_2_3) (kk_p ?_)
    refine j_istore (L' := [(5, .int 0), (0, .ref 105), (1, .int 2), (2, .int 3), (3, .int x), (4, .int (nI q))]) dX10_run_18 (by decide) rfl ?_
    refine j_iload 0 dX10_run_20 rfl ?_
    refine j_callS (kc := 0) (ks := 0) (a := 0) (b := 0) (d' := d) (As := [.int 0]) dX10_run_22 kX10_397 rfl (by omega) rfl rfl rfl (Nat.le_of_ble_eq_true rfl) (Nat.le_of_ble_eq_true rfl) ((T_kAb_c (c := 0) (by decide))) (kk_p ?_)
    refine j_istore (L' := [(6, .int 0), (5, .int 0), (0, .ref 105), (1, .int 2), (2, .int 3), (3, .int x), (4, .int (nI q))]) dX10_run_25 (by decide) rfl ?_
    refine j_aload_n 2 dX10_run_27 rfl ?_
    refine j_getv (nI k) dX10_run_28 fX10_400 (shC hC sgC_105) rfl h0 ?_
    refine j_istore (L' := [(7, .int (nI k)), (6, .int 0), (5, .int 0), (0, .ref 105), (1, .int 2), (2, .int 3), (3, .int x), (4, .int (nI q))]) dX10_run_31 (by decide) rfl ?_
    refine j_iload 7 dX10_run_33 rfl ?_
    refine j_iconst 1 dX10_run_35 ic_1 ?_
    refine j_iaddN q 1 dX10_run_36 ?_
    refine j_istore (L' := [(8, .int (nI (q + 1))), (7, .int (nI k)), (6, .int 0), (5, .int 0), (0, .ref 105), (1, .int 2), (2, .int 3), (3, .int x), (4, .int (nI q))]) dX10_run_37 (by decide) rfl ?_
    refine j_iload_n 5 dX10_run_39 rfl ?_
    refine j_iload 3 dX10_run_40 rfl ?_
    refine j_callS (kc := 0) (ks := 0) (a := 0) (b := 0) (d' := d) (As := [.int 2, .int 0]) dX10_run_42 kX10_401 rfl (by omega) rfl rfl rfl (Nat.le_of_ble_eq_true rfl) (Nat.le_of_ble_eq_true rfl) ((T_bodyOf_c (c := 12) (by decide))) (kk_p ?_)
    refine j_istore (L' := [(9, .int 12), (8, .int (nI (q + 1))), (7, .int (nI k)), (6, .int 0), (5, .int 0), (0, .ref 105), (1, .int 2), (2, .int 3), (3, .int x), (4, .int (nI q))]) dX10_run_45 (by decide) rfl ?_
    refine j_aload_n 5 dX10_run_47 rfl ?_
    refine j_iload 0 dX10_run_48 rfl ?_
    refine j_callV (kc := 0) (ks := 0) (a := 0) (b := 0) (d' := d) (As := [.int 12]) dX10_run_50 kX10_404 rfl (shC hC sgC_105) (by omega) rfl rfl rfl (Nat.le_of_ble_eq_true rfl) (Nat.le_of_ble_eq_true rfl) (T_X4_note hC 12) (kk_pv ?_)
    refine j_iload 0 dX10_run_53 rfl ?_
    refine j_lookup (off := 117) (tgt := 172) dX10_run_55 (by decide) (by decide) rfl ?_
    refine j_aload_n 5 dX10_run_172 rfl ?_
    refine j_iconst 1 dX10_run_173 ic_1 ?_
    refine j_iload 2 dX10_run_174 rfl ?_
    refine j_iload_n 8 dX10_run_176 rfl ?_
    refine j_iload 1 dX10_run_177 rfl ?_
    refine j_callS (kc := 0) (ks := 0) (a := 0) (b := 0) (d' := (d + 6)) (As := [.ref 105, .int 1, .int (nI k), .int x, .int (nI (q + 1))]) dX10_run_179 kX10_357 rfl (by omega) rfl rfl rfl (Nat.le_of_ble_eq_true rfl) (Nat.le_of_ble_eq_true rfl) (T_runA_1 (noteM_g.C hC) k a m x (q + 1) hk ((noteM_k (by decide)).trans h0) ((noteM_k (by decide)).trans h1) ((noteM_k (by decide)).trans h2) (by omega)) (kk_p ?_)
    refine j_aload_n 5 dX10_run_182 rfl ?_
    refine j_iconst 0 dX10_run_183 ic_0 ?_
    refine j_iload 2 dX10_run_184 rfl ?_
    refine j_iload_n 8 dX10_run_186 rfl ?_
    refine j_aload_n 5 dX10_run_187 rfl ?_
    refine j_getv a dX10_run_188 fX10_410 (shC ((noteL_g _ _).C (noteM_g.C hC)) sgC_105) rfl ((noteL_k (by decide) _ _).trans ((noteM_k (by decide)).trans h1)) ?_
    refine j_isub dX10_run_191 ?_
    refine j_iload 1 dX10_run_192 rfl ?_
    refine j_callS (kc := 0) (ks := 0) (a := 0) (b := 0) (d' := (d + 4)) (As := [.ref 105, .int 0, .int (nI k), .int (x - a), .int (nI (q + 1))]) dX10_run_194 kX10_357 rfl (by omega) rfl rfl rfl (Nat.le_of_ble_eq_true rfl) (Nat.le_of_ble_eq_true rfl) (T_runA_0 ((noteL_g _ _).C (noteM_g.C hC)) k a m (x - a) (q + 1) hk ((noteL_k (by decide) _ _).trans ((noteM_k (by decide)).trans h0)) ((noteL_k (by decide) _ _).trans ((noteM_k (by decide)).trans h1)) ((noteL_k (by decide) _ _).trans ((noteM_k (by decide)).trans h2)) (by omega)) (kk_p ?_)
    refine j_ixor dX10_run_197 ?_
    refine j_iret dX10_run_198 rfl ?_
    exact hQ _ _ ⟨rfl, (noteL_app _ _ _).symm⟩
  · exact absurd c1 (by omega)
set_option maxRecDepth 20000 in
set_option maxHeartbeats 4000000 in
theorem T_run_2_4 {d : Nat} {M : jk_M} (hC : WC M) (k : Nat) (a m x : Int32) (q : Nat) (hk : k < 7) (h0 : M.2.1 105 0 = nI k) (h1 : M.2.1 105 1 = a) (h2 : M.2.1 105 2 = m) (hq : q + 6 < 40) : J Fr_X10_run (d + 8) 0 0 0 [(0, .ref 105), (1, .int 2), (2, .int 4), (3, .int x), (4, .int (nI q))] [] M (jk_is (some (.int (0 - (tkV k a m x ^^^ stV k a m (x - a))))) (noteL M (50 :: 12 :: (tkL k ++ stL k)))) := by
  refine j_post (fun Q hQ => ?_)
  refine j_aload_n 0 dX10_run_0 rfl ?_
  refine j_ifnull dX10_run_1 ?_
  refine j_iload 4 dX10_run_4 rfl ?_
  refine j_bipush 40 dX10_run_6 bp_40 ?_
  refine j_icmp_leN (tgt := 13) q 40 dX10_run_8 rfl (by omega) (by omega) (fun c1 => ?_) (fun c1 => ?_)
  · refine j_iload_n 1 dX10_run_13 rfl ?_
    refine j_iload_n 2 dX10_run_14 rfl ?_
    refine j_callS (kc := 0) (ks := 0) (a := 0) (b := 0) (d' := (d + 1)) (As := [.int 2, .int 4]) dX10_run_15 kX10_394 rfl (by omega) rfl rfl rfl (Nat.le_of_ble_eq_true rfl) (Nat.le_of_ble_eq_true rfl) (T_kwb_2_4) (kk_p ?_)
    refine j_istore (L' := [(5, .int 4), (0, .ref 105), (1, .int 2), (2, .int 4), (3, .int x), (4, .int (nI q))]) dX10_run_18 (by decide) rfl ?_
    refine j_iload 0 dX10_run_20 rfl ?_
    refine j_callS (kc := 0) (ks := 0) (a := 0) (b := 0) (d' := d) (As := [.int 4]) dX10_run_22 kX10_397 rfl (by omega) rfl rfl rfl (Nat.le_of_ble_eq_true rfl) (Nat.le_of_ble_eq_true rfl) ((T_kAb_c (c := 0) (by decide))) (kk_p ?_)
    refine j_istore (L' := [(6, .int 0), (5, .int 4), (0, .ref 105), (1, .int 2), (2, .int 4), (3, .int x), (4, .int (nI q))]) dX10_run_25 (by decide) rfl ?_
    refine j_aload_n 2 dX10_run_27 rfl ?_
    refine j_getv (nI k) dX10_run_28 fX10_400 (shC hC sgC_105) rfl h0 ?_
    refine j_istore (L' := [(7, .int (nI k)), (6, .int 0), (5, .int 4), (0, .ref 105), (1, .int 2), (2, .int 4), (3, .int x), (4, .int (nI q))]) dX10_run_31 (by decide) rfl ?_
    refine j_iload 7 dX10_run_33 rfl ?_
    refine j_iconst 1 dX10_run_35 ic_1 ?_
    refine j_iaddN q 1 dX10_run_36 ?_
    refine j_istore (L' := [(8, .int (nI (q + 1))), (7, .int (nI k)), (6, .int 0), (5, .int 4), (0, .ref 105), (1, .int 2), (2, .int 4), (3, .int x), (4, .int (nI q))]) dX10_run_37 (by decide) rfl ?_
    refine j_iload_n 5 dX10_run_39 rfl ?_
    refine j_iload 3 dX10_run_40 rfl ?_
    refine j_callS (kc := 0) (ks := 0) (a := 0) (b := 0) (d' := d) (As := [.int 2, .int 4]) dX10_run_42 kX10_401 rfl (by omega) rfl rfl rfl (Nat.le_of_ble_eq_true rfl) (Nat.le_of_ble_eq_true rfl) ((T_bodyOf_c (c := 50) (by decide))) (kk_p ?_)
    refine j_istore (L' := [(9, .int 50), (8, .int (nI (q + 1))), (7, .int (nI k)), (6, .int 0), (5, .int 4), (0, .ref 105), (1, .int 2), (2, .int 4), (3, .int x), (4, .int (nI q))]) dX10_run_45 (by decide) rfl ?_
    refine j_aload_n 5 dX10_run_47 rfl ?_
    refine j_iload 0 dX10_run_48 rfl ?_
    refine j_callV (kc := 0) (ks := 0) (a := 0) (b := 0) (d' := d) (As := [.int 50]) dX10_run_50 kX10_404 rfl (shC hC sgC_105) (by omega) rfl rfl rfl (Nat.le_of_ble_eq_true rfl) (Nat.le_of_ble_eq_true rfl) (T_X4_note hC 50) (kk_pv ?_)
    refine j_iload 0 dX10_run_53 rfl ?_
    refine j_lookup (off := 186) (tgt := 241) dX10_run_55 (by decide) (by decide) rfl ?_
    refine j_aload_n 5 dX10_run_241 rfl ?_
    refine j_iconst 2 dX10_run_242 ic_2 ?_
    refine j_iload 3 dX10_run_243 rfl ?_
    refine j_iload_n 8 dX10_run_245 rfl ?_
    refine j_iload 1 dX10_run_246 rfl ?_
    refine j_callS (kc := 0) (ks := 0) (a := 0) (b := 0) (d' := (d + 7)) (As := [.ref 105, .int 2, .int 0, .int x, .int (nI (q + 1))]) dX10_run_248 kX10_357 rfl (by omega) rfl rfl rfl (Nat.le_of_ble_eq_true rfl) (Nat.le_of_ble_eq_true rfl) (T_run_2_0 (noteM_g.C hC) k a m x (q + 1) hk ((noteM_k (by decide)).trans h0) ((noteM_k (by decide)).trans h1) ((noteM_k (by decide)).trans h2) (by omega)) (kk_p ?_)
    refine j_ineg dX10_run_251 ?_
    refine j_iret dX10_run_252 rfl ?_
    exact hQ _ _ ⟨rfl, rfl⟩
  · exact absurd c1 (by omega)
set_option maxRecDepth 20000 in
set_option maxHeartbeats 4000000 in
theorem T_run_2_6 {d : Nat} {M : jk_M} (hC : WC M) (k : Nat) (a m x : Int32) (q : Nat) (hk : k < 7) (h0 : M.2.1 105 0 = nI k) (h1 : M.2.1 105 1 = a) (h2 : M.2.1 105 2 = m) (hq : q + 6 < 40) : J Fr_X10_run (d + 8) 0 0 0 [(0, .ref 105), (1, .int 2), (2, .int 6), (3, .int x), (4, .int (nI q))] [] M (jk_is (some (.int (0 - (tkV k a m x ^^^ stV k a m (x - a))))) (noteL M (50 :: 12 :: (tkL k ++ stL k)))) := by
  refine j_post (fun Q hQ => ?_)
  refine j_aload_n 0 dX10_run_0 rfl ?_
  refine j_ifnull dX10_run_1 ?_
  refine j_iload 4 dX10_run_4 rfl ?_
  refine j_bipush 40 dX10_run_6 bp_40 ?_
  refine j_icmp_leN (tgt := 13) q 40 dX10_run_8 rfl (by omega) (by omega) (fun c1 => ?_) (fun c1 => ?_)
  · refine j_iload_n 1 dX10_run_13 rfl ?_
    refine j_iload_n 2 dX10_run_14 rfl ?_
    refine j_callS (kc := 0) (ks := 0) (a := 0) (b := 0) (d' := (d + 1)) (As := [.int 2, .int 6]) dX10_run_15 kX10_394 rfl (by omega) rfl rfl rfl (Nat.le_of_ble_eq_true rfl) (Nat.le_of_ble_eq_true rfl) (T_kwb_2_6) (kk_p ?_)
    refine j_istore (L' := [(5, .int 4), (0, .ref 105), (1, .int 2), (2, .int 6), (3, .int x), (4, .int (nI q))]) dX10_run_18 (by decide) rfl ?_
    refine j_iload 0 dX10_run_20 rfl ?_
    refine j_callS (kc := 0) (ks := 0) (a := 0) (b := 0) (d' := d) (As := [.int 4]) dX10_run_22 kX10_397 rfl (by omega) rfl rfl rfl (Nat.le_of_ble_eq_true rfl) (Nat.le_of_ble_eq_true rfl) ((T_kAb_c (c := 0) (by decide))) (kk_p ?_)
    refine j_istore (L' := [(6, .int 0), (5, .int 4), (0, .ref 105), (1, .int 2), (2, .int 6), (3, .int x), (4, .int (nI q))]) dX10_run_25 (by decide) rfl ?_
    refine j_aload_n 2 dX10_run_27 rfl ?_
    refine j_getv (nI k) dX10_run_28 fX10_400 (shC hC sgC_105) rfl h0 ?_
    refine j_istore (L' := [(7, .int (nI k)), (6, .int 0), (5, .int 4), (0, .ref 105), (1, .int 2), (2, .int 6), (3, .int x), (4, .int (nI q))]) dX10_run_31 (by decide) rfl ?_
    refine j_iload 7 dX10_run_33 rfl ?_
    refine j_iconst 1 dX10_run_35 ic_1 ?_
    refine j_iaddN q 1 dX10_run_36 ?_
    refine j_istore (L' := [(8, .int (nI (q + 1))), (7, .int (nI k)), (6, .int 0), (5, .int 4), (0, .ref 105), (1, .int 2), (2, .int 6), (3, .int x), (4, .int (nI q))]) dX10_run_37 (by decide) rfl ?_
    refine j_iload_n 5 dX10_run_39 rfl ?_
    refine j_iload 3 dX10_run_40 rfl ?_
    refine j_callS (kc := 0) (ks := 0) (a := 0) (b := 0) (d' := d) (As := [.int 2, .int 4]) dX10_run_42 kX10_401 rfl (by omega) rfl rfl rfl (Nat.le_of_ble_eq_true rfl) (Nat.le_of_ble_eq_true rfl) ((T_bodyOf_c (c := 50) (by decide))) (kk_p ?_)
    refine j_istore (L' := [(9, .int 50), (8, .int (nI (q + 1))), (7, .int (nI k)), (6, .int 0), (5, .int 4), (0, .ref 105), (1, .int 2), (2, .int 6), (3, .int x), (4, .int (nI q))]) dX10_run_45 (by decide) rfl ?_
    refine j_aload_n 5 dX10_run_47 rfl ?_
    refine j_iload 0 dX10_run_48 rfl ?_
    refine j_callV (kc := 0) (ks := 0) (a := 0) (b := 0) (d' := d) (As := [.int 50]) dX10_run_50 kX10_404 rfl (shC hC sgC_105) (by omega) rfl rfl rfl (Nat.le_of_ble_eq_true rfl) (Nat.le_of_ble_eq_true rfl) (T_X4_note hC 50) (kk_pv ?_)
    refine j_iload 0 dX10_run_53 rfl ?_
    refine j_lookup (off := 186) (tgt := 241) dX10_run_55 (by decide) (by decide) rfl ?_
    refine j_aload_n 5 dX10_run_241 rfl ?_
    refine j_iconst 2 dX10_run_242 ic_2 ?_
    refine j_iload 3 dX10_run_243 rfl ?_
    refine j_iload_n 8 dX10_run_245 rfl ?_
    refine j_iload 1 dX10_run_246 rfl ?_
    refine j_callS (kc := 0) (ks := 0) (a := 0) (b := 0) (d' := (d + 7)) (As := [.ref 105, .int 2, .int 0, .int x, .int (nI (q + 1))]) dX10_run_248 kX10_357 rfl (by omega) rfl rfl rfl (Nat.le_of_ble_eq_true rfl) (Nat.le_of_ble_eq_true rfl) (T_run_2_0 (noteM_g.C hC) k a m x (q + 1) hk ((noteM_k (by decide)).trans h0) ((noteM_k (by decide)).trans h1) ((noteM_k (by decide)).trans h2) (by omega)) (kk_p ?_)
    refine j_ineg dX10_run_251 ?_
    refine j_iret dX10_run_252 rfl ?_
    exact hQ _ _ ⟨rfl, rfl⟩
  · exact absurd c1 (by omega)
set_option maxRecDepth 20000 in
set_option maxHeartbeats 4000000 in
theorem T_run_2_5 {d : Nat} {M : jk_M} (hC : WC M) (k : Nat) (a m x : Int32) (q : Nat) (hk : k < 7) (h0 : M.2.1 105 0 = nI k) (h1 : M.2.1 105 1 = a) (h2 : M.2.1 105 2 = m) (hq : q + 6 < 40) : J Fr_X10_run (d + 8) 0 0 0 [(0, .ref 105), (1, .int 2), (2, .int 5), (3, .int x), (4, .int (nI q))] [] M (jk_is (some (.int ((tkV k a m x ^^^ stV k a m (x - a)) ^^^ 5))) (noteL M (60 :: 12 :: (tkL k ++ stL k)))) := by
  refine j_post (fun Q hQ => ?_)
  refine j_aload_n 0 dX10_run_0 rfl ?_
  refine j_ifnull dX10_run_1 ?_
  refine j_iload 4 dX10_run_4 rfl ?_
  refine j_bipush 40 dX10_run_6 bp_40 ?_
  refine j_icmp_leN (tgt := 13) q 40 dX10_run_8 rfl (by omega) (by omega) (fun c1 => ?_) (fun c1 => ?_)
  · refine j_iload_n 1 dX10_run_13 rfl ?_
    refine j_iload_n 2 dX10_run_14 rfl ?_
    refine j_callS (kc := 0) (ks := 0) (a := 0) (b := 0) (d' := (d + 1)) (As := [.int 2, .int 5]) dX10_run_15 kX10_394 rfl (by omega) rfl rfl rfl (Nat.le_of_ble_eq_true rfl) (Nat.le_of_ble_eq_true rfl) (T_kwb_2_5) (kk_p ?_)
    refine j_istore (L' := [(5, .int 5), (0, .ref 105), (1, .int 2), (2, .int 5), (3, .int x), (4, .int (nI q))]) dX10_run_18 (by decide) rfl ?_
    refine j_iload 0 dX10_run_20 rfl ?_
    refine j_callS (kc := 0) (ks := 0) (a := 0) (b := 0) (d' := d) (As := [.int 5]) dX10_run_22 kX10_397 rfl (by omega) rfl rfl rfl (Nat.le_of_ble_eq_true rfl) (Nat.le_of_ble_eq_true rfl) ((T_kAb_c (c := 2) (by decide))) (kk_p ?_)
    refine j_istore (L' := [(6, .int 2), (5, .int 5), (0, .ref 105), (1, .int 2), (2, .int 5), (3, .int x), (4, .int (nI q))]) dX10_run_25 (by decide) rfl ?_
    refine j_aload_n 2 dX10_run_27 rfl ?_
    refine j_getv (nI k) dX10_run_28 fX10_400 (shC hC sgC_105) rfl h0 ?_
    refine j_istore (L' := [(7, .int (nI k)), (6, .int 2), (5, .int 5), (0, .ref 105), (1, .int 2), (2, .int 5), (3, .int x), (4, .int (nI q))]) dX10_run_31 (by decide) rfl ?_
    refine j_iload 7 dX10_run_33 rfl ?_
    refine j_iconst 1 dX10_run_35 ic_1 ?_
    refine j_iaddN q 1 dX10_run_36 ?_
    refine j_istore (L' := [(8, .int (nI (q + 1))), (7, .int (nI k)), (6, .int 2), (5, .int 5), (0, .ref 105), (1, .int 2), (2, .int 5), (3, .int x), (4, .int (nI q))]) dX10_run_37 (by decide) rfl ?_
    refine j_iload_n 5 dX10_run_39 rfl ?_
    refine j_iload 3 dX10_run_40 rfl ?_
    refine j_callS (kc := 0) (ks := 0) (a := 0) (b := 0) (d' := d) (As := [.int 2, .int 5]) dX10_run_42 kX10_401 rfl (by omega) rfl rfl rfl (Nat.le_of_ble_eq_true rfl) (Nat.le_of_ble_eq_true rfl) ((T_bodyOf_c (c := 60) (by decide))) (kk_p ?_)
    refine j_istore (L' := [(9, .int 60), (8, .int (nI (q + 1))), (7, .int (nI k)), (6, .int 2), (5, .int 5), (0, .ref 105), (1, .int 2), (2, .int 5), (3, .int x), (4, .int (nI q))]) dX10_run_45 (by decide) rfl ?_
    refine j_aload_n 5 dX10_run_47 rfl ?_
    refine j_iload 0 dX10_run_48 rfl ?_
    refine j_callV (kc := 0) (ks := 0) (a := 0) (b := 0) (d' := d) (As := [.int 60]) dX10_run_50 kX10_404 rfl (shC hC sgC_105) (by omega) rfl rfl rfl (Nat.le_of_ble_eq_true rfl) (Nat.le_of_ble_eq_true rfl) (T_X4_note hC 60) (kk_pv ?_)
    refine j_iload 0 dX10_run_53 rfl ?_
    refine j_lookup (off := 214) (tgt := 269) dX10_run_55 (by decide) (by decide) rfl ?_
    refine j_aload_n 5 dX10_run_269 rfl ?_
    refine j_iconst 2 dX10_run_270 ic_2 ?_
    refine j_iload 3 dX10_run_271 rfl ?_
    refine j_iload_n 8 dX10_run_273 rfl ?_
    refine j_iload 1 dX10_run_274 rfl ?_
    refine j_callS (kc := 0) (ks := 0) (a := 0) (b := 0) (d' := (d + 7)) (As := [.ref 105, .int 2, .int 2, .int x, .int (nI (q + 1))]) dX10_run_276 kX10_357 rfl (by omega) rfl rfl rfl (Nat.le_of_ble_eq_true rfl) (Nat.le_of_ble_eq_true rfl) (T_run_2_2 (noteM_g.C hC) k a m x (q + 1) hk ((noteM_k (by decide)).trans h0) ((noteM_k (by decide)).trans h1) ((noteM_k (by decide)).trans h2) (by omega)) (kk_p ?_)
    refine j_iconst 5 dX10_run_279 ic_5 ?_
    refine j_ixor dX10_run_280 ?_
    refine j_iret dX10_run_281 rfl ?_
    exact hQ _ _ ⟨rfl, rfl⟩
  · exact absurd c1 (by omega)
theorem T_runA_2 {d : Nat} {M : jk_M} (hC : WC M) (k : Nat) (a m x : Int32) (q : Nat) (hk : k < 7) (h0 : M.2.1 105 0 = nI k) (h1 : M.2.1 105 1 = a) (h2 : M.2.1 105 2 = m) (hq : q + 6 < 40) : J Fr_X10_run (d + 8) 0 0 0 [(0, .ref 105), (1, .int 2), (2, .int (nI k)), (3, .int x), (4, .int (nI q))] [] M (jk_is (some (.int (hmV k a m x))) (noteL M (hmL k))) := by
  have hk7 : k = 0 ∨ k = 1 ∨ k = 2 ∨ k = 3 ∨ k = 4 ∨ k = 5 ∨ k = 6 := by omega
  rcases hk7 with rfl | rfl | rfl | rfl | rfl | rfl | rfl
  · rw [show (Value.int (nI 0)) = .int 0 from congrArg _ (by decide)]
    exact T_run_2_0 (d := d + 1) hC 0 a m x q hk h0 h1 h2 (by omega)
  · rw [show (Value.int (nI 1)) = .int 1 from congrArg _ (by decide)]
    exact T_run_2_1 (d := d + 1) hC 1 a m x q hk h0 h1 h2 (by omega)
  · rw [show (Value.int (nI 2)) = .int 2 from congrArg _ (by decide)]
    exact T_run_2_2 (d := d + 1) hC 2 a m x q hk h0 h1 h2 (by omega)
  · rw [show (Value.int (nI 3)) = .int 3 from congrArg _ (by decide)]
    exact T_run_2_3 (d := d + 1) hC 3 a m x q hk h0 h1 h2 (by omega)
  · rw [show (Value.int (nI 4)) = .int 4 from congrArg _ (by decide)]
    exact T_run_2_4 (d := d + 0) hC 4 a m x q hk h0 h1 h2 (by omega)
  · rw [show (Value.int (nI 5)) = .int 5 from congrArg _ (by decide)]
    exact T_run_2_5 (d := d + 0) hC 5 a m x q hk h0 h1 h2 (by omega)
  · rw [show (Value.int (nI 6)) = .int 6 from congrArg _ (by decide)]
    exact T_run_2_6 (d := d + 0) hC 6 a m x q hk h0 h1 h2 (by omega)
