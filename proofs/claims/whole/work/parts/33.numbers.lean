/-! numbers -/
def nuV (n : Nat) (t : Nat → Int32) (q : Nat) : Int32 × Nat := if dgS n t (q + 1) = -1 then (dgS n t q, q + 1) else (10 * dgS n t q + dgS n t (q + 1), q + 2)
noncomputable def nuS (S : HS) (n : Nat) (t : Nat → Int32) (z : Int32) (p : Nat) : Nat ⊕ (Int32 × Nat) :=
  if p < n ∧ t p = 32 then (if dgS n t (p + 1) = -1 then .inl (p + 1) else @ite _ (mayS S z (nuV n t (p + 1)).1) (Classical.propDecidable _) (.inr (nuV n t (p + 1))) (.inl (p + 1))) else .inl p
section NU
variable {S : HS} {n : Nat} {t : Nat → Int32} {z : Int32} {p : Nat}
theorem nuS_0 (h : ¬ (p < n ∧ t p = 32)) : nuS S n t z p = .inl p := if_neg h
theorem nuS_1 (h : p < n ∧ t p = 32) (h2 : dgS n t (p + 1) = -1) : nuS S n t z p = .inl (p + 1) := (if_pos h).trans (if_pos h2)
theorem nuS_2 (h : p < n ∧ t p = 32) (h2 : ¬ dgS n t (p + 1) = -1) (h3 : ¬ mayS S z (nuV n t (p + 1)).1) : nuS S n t z p = .inl (p + 1) := (if_pos h).trans ((if_neg h2).trans (@if_neg _ (Classical.propDecidable _) h3 _ _ _))
theorem nuS_3 (h : p < n ∧ t p = 32) (h2 : ¬ dgS n t (p + 1) = -1) (h3 : mayS S z (nuV n t (p + 1)).1) : nuS S n t z p = .inr (nuV n t (p + 1)) := (if_pos h).trans ((if_neg h2).trans (@if_pos _ (Classical.propDecidable _) h3 _ _ _))
theorem nuV_1 {q : Nat} (h : dgS n t (q + 1) = -1) : nuV n t q = (dgS n t q, q + 1) := if_pos h
theorem nuV_2 {q : Nat} (h : ¬ dgS n t (q + 1) = -1) : nuV n t q = (10 * dgS n t q + dgS n t (q + 1), q + 2) := if_neg h
end NU
def soN (w i : Nat) : Int32 := jk_so.getD (w * 3 + i) 0
def roomS (S : HS) (w : Nat) : Prop := (w = 1 → nT S < 16) ∧ (w = 5 → nN S < 8) ∧ (w = 6 → nD S < 6)
set_option maxRecDepth 20000 in
set_option maxHeartbeats 4000000 in
theorem T_X5_readNumber {d : Nat} {M : jk_M} {b n : Nat} {t : Nat → Int32} {S : HS} (hC : WC M) (tx : TX M b n t) (hd : hv M.2.1 55 = S) (ok : Sok S) (p : Nat) (hp : M.2.1 101 3 = nI p) (h9 : p < 800) (i : Nat) (hi : i < 3) (z : Int32) : J Fr_X5_readNumber (d + 4) 0 0 0 [(0, .ref 101), (1, .int (nI i)), (2, .int z)] [] M (jk_or (.int 1) (fun M1 => ∃ x q, nuS S n t z p = .inr (x, q) ∧ Sm PRn M M1 ∧ M1.2.1 101 3 = nI q ∧ M1.2.1 102 i = x ∧ (∀ k, k ≠ i → M1.2.1 102 k = M.2.1 102 k) ∧ M1.2.1 101 4 = M.2.1 101 4) (.int 0) (fun M1 => ∃ f, nuS S n t z p = .inl f ∧ Sm PRn M M1 ∧ M1.2.1 101 4 = nI f)) := by
  refine j_post (fun Q hQ => ?_)
  refine j_aload_n 0 dX5_readNumber_0 rfl ?_
  refine j_bipush 32 dX5_readNumber_1 bp_32 ?_
  refine j_callV (kc := 0) (ks := 0) (a := 0) (b := 0) (d' := (d + 3)) (As := [.int 32]) dX5_readNumber_3 kX5_40 rfl (shC hC sgC_101) (by omega) rfl rfl rfl (Nat.le_of_ble_eq_true rfl) (Nat.le_of_ble_eq_true rfl) (T_X5_isHere hC tx p hp (by omega) 32) (kk_p ?_)
  refine j_if_neB (p := (p < n ∧ t p = 32)) (tgt := 19) dX5_readNumber_6 rfl (fun c1 => ?_) (fun c1 => ?_)
  · refine j_aload_n 0 dX5_readNumber_19 rfl ?_
    refine j_dup dX5_readNumber_20 rfl ?_
    refine j_getv (nI p) dX5_readNumber_21 fX5_22 (shC hC sgC_101) rfl hp ?_
    refine j_iconst 1 dX5_readNumber_24 ic_1 ?_
    refine j_iaddN p 1 dX5_readNumber_25 ?_
    refine j_put dX5_readNumber_26 fX5_22 (shC hC sgC_101) rfl ?_
    have sm2 : Sm PRn M (jk_wI M 101 3 (nI (p + 1))) := Sm.w Sm.rf (Or.inl rfl)
    refine j_aload_n 0 dX5_readNumber_29 rfl ?_
    refine j_getv (nI (p + 1)) dX5_readNumber_30 fX5_22 (shC (Sm.C sm2 hC) sgC_101) rfl rd_s ?_
    refine j_istore_n (L' := [(3, .int (nI (p + 1))), (0, .ref 101), (1, .int (nI i)), (2, .int z)]) dX5_readNumber_33 (by decide) rfl ?_
    refine j_iconst 0 dX5_readNumber_34 ic_0 ?_
    refine j_istore (L' := [(4, .int 0), (3, .int (nI (p + 1))), (0, .ref 101), (1, .int (nI i)), (2, .int z)]) dX5_readNumber_35 (by decide) rfl ?_
    refine j_iconst 0 dX5_readNumber_37 ic_0 ?_
    refine j_istore (L' := [(5, .int 0), (4, .int 0), (3, .int (nI (p + 1))), (0, .ref 101), (1, .int (nI i)), (2, .int z)]) dX5_readNumber_38 (by decide) rfl ?_
    refine j_iload 0 dX5_readNumber_40 rfl ?_
    refine j_iconst 2 dX5_readNumber_42 ic_2 ?_
    refine j_icmp_ge (tgt := 82) dX5_readNumber_43 rfl (fun c3 => ?_) (fun c3 => ?_)
    · exact absurd c3 (by decide)
    · refine j_aload_n 3 dX5_readNumber_46 rfl ?_
      refine j_callV (kc := 0) (ks := 0) (a := 0) (b := 0) (d' := (d + 2)) (As := []) dX5_readNumber_47 kX5_86 rfl (shC (Sm.C sm2 hC) sgC_101) (by omega) rfl rfl rfl (Nat.le_of_ble_eq_true rfl) (Nat.le_of_ble_eq_true rfl) (T_X5_digitHere (Sm.C sm2 hC) (tx.sm sm2 PRnP tx.1.n102) (p + 1) rd_s (by omega)) (kk_p ?_)
      refine j_iconst (-1) dX5_readNumber_50 ic_n1 ?_
      refine j_icmp_eq (tgt := 82) dX5_readNumber_51 rfl (fun c4 => ?_) (fun c4 => ?_)
      · refine j_aload_n 3 dX5_readNumber_82 rfl ?_
        refine j_getv (nI (p + 1)) dX5_readNumber_83 fX5_22 (shC (Sm.C sm2 hC) sgC_101) rfl rd_s ?_
        refine j_iload_n 2 dX5_readNumber_86 rfl ?_
        refine j_icmp_eqN (tgt := 103) (p + 1) (p + 1) dX5_readNumber_87 rfl (by omega) (by omega) (fun c5 => ?_) (fun c5 => ?_)
        · refine j_aload_n 3 dX5_readNumber_103 rfl ?_
          refine j_iload_n 2 dX5_readNumber_104 rfl ?_
          refine j_put dX5_readNumber_105 fX5_26 (shC (Sm.C sm2 hC) sgC_101) rfl ?_
          have sm6 : Sm PRn M (jk_wI (jk_wI M 101 3 (nI (p + 1))) 101 4 (nI (p + 1))) := Sm.w sm2 (Or.inl rfl)
          refine j_iconst 0 dX5_readNumber_108 ic_0 ?_
          refine j_zret dX5_readNumber_109 rfl rfl ?_
          exact hQ _ _ (Or.inr ⟨rfl, _, nuS_1 c1 c4, sm6, rd_s⟩)
        · exact absurd rfl c5
      · refine j_bipush 10 dX5_readNumber_54 bp_10 ?_
        refine j_iload 1 dX5_readNumber_56 rfl ?_
        refine j_imul dX5_readNumber_58 ?_
        refine j_topi 0 (by decide) ?_
        refine j_aload_n 3 dX5_readNumber_59 rfl ?_
        refine j_callV (kc := 0) (ks := 0) (a := 0) (b := 0) (d' := (d + 2)) (As := []) dX5_readNumber_60 kX5_86 rfl (shC (Sm.C sm2 hC) sgC_101) (by omega) rfl rfl rfl (Nat.le_of_ble_eq_true rfl) (Nat.le_of_ble_eq_true rfl) (T_X5_digitHere (Sm.C sm2 hC) (tx.sm sm2 PRnP tx.1.n102) (p + 1) rd_s (by omega)) (kk_p ?_)
        refine j_iadd dX5_readNumber_63 ?_
        refine j_istore (L' := [(4, .int (0 + (dgS n t (p + 1)))), (5, .int 0), (3, .int (nI (p + 1))), (0, .ref 101), (1, .int (nI i)), (2, .int z)]) dX5_readNumber_64 (by decide) rfl ?_
        refine j_aload_n 3 dX5_readNumber_66 rfl ?_
        refine j_dup dX5_readNumber_67 rfl ?_
        refine j_getv (nI (p + 1)) dX5_readNumber_68 fX5_22 (shC (Sm.C sm2 hC) sgC_101) rfl rd_s ?_
        refine j_iconst 1 dX5_readNumber_71 ic_1 ?_
        refine j_iaddN (p + 1) 1 dX5_readNumber_72 ?_
        refine j_put dX5_readNumber_73 fX5_22 (shC (Sm.C sm2 hC) sgC_101) rfl ?_
        have sm7 : Sm PRn M (jk_wI (jk_wI M 101 3 (nI (p + 1))) 101 3 (nI ((p + 1) + 1))) := Sm.w sm2 (Or.inl rfl)
        refine j_iinc 1 1 (L' := [(5, .int 1), (4, .int (0 + (dgS n t (p + 1)))), (3, .int (nI (p + 1))), (0, .ref 101), (1, .int (nI i)), (2, .int z)]) dX5_readNumber_76 rfl (by decide) (by decide) rfl ?_
        refine j_goto (tgt := 40) dX5_readNumber_79 rfl ?_
        refine j_iload 0 dX5_readNumber_40 rfl ?_
        refine j_iconst 2 dX5_readNumber_42 ic_2 ?_
        refine j_icmp_ge (tgt := 82) dX5_readNumber_43 rfl (fun c8 => ?_) (fun c8 => ?_)
        · exact absurd c8 (by decide)
        · refine j_aload_n 3 dX5_readNumber_46 rfl ?_
          refine j_callV (kc := 0) (ks := 0) (a := 0) (b := 0) (d' := (d + 2)) (As := []) dX5_readNumber_47 kX5_86 rfl (shC (Sm.C sm7 hC) sgC_101) (by omega) rfl rfl rfl (Nat.le_of_ble_eq_true rfl) (Nat.le_of_ble_eq_true rfl) (T_X5_digitHere (Sm.C sm7 hC) (tx.sm sm7 PRnP tx.1.n102) ((p + 1) + 1) rd_s (by omega)) (kk_p ?_)
          refine j_iconst (-1) dX5_readNumber_50 ic_n1 ?_
          refine j_icmp_eq (tgt := 82) dX5_readNumber_51 rfl (fun c9 => ?_) (fun c9 => ?_)
          · have ev : (0 + (dgS n t (p + 1))) = (nuV n t (p + 1)).1 := by rw [nuV_1 c9]; simp
            have eq2 : (nuV n t (p + 1)).2 = p + 1 + 1 := by rw [nuV_1 c9]
            refine j_L (congrArg (fun zz9 : Int32 => ([(5, .int 1), (4, .int zz9), (3, .int (nI (p + 1))), (0, .ref 101), (1, .int (nI i)), (2, .int z)] : List (Nat × Value))) ev) ?_
            refine j_aload_n 3 dX5_readNumber_82 rfl ?_
            refine j_getv (nI ((p + 1) + 1)) dX5_readNumber_83 fX5_22 (shC (Sm.C sm7 hC) sgC_101) rfl rd_s ?_
            refine j_iload_n 2 dX5_readNumber_86 rfl ?_
            refine j_icmp_eqN (tgt := 103) ((p + 1) + 1) (p + 1) dX5_readNumber_87 rfl (by omega) (by omega) (fun c10 => ?_) (fun c10 => ?_)
            · exact absurd c10 (by omega)
            · refine j_aload_n 3 dX5_readNumber_90 rfl ?_
              refine j_getr (q := 55) dX5_readNumber_91 fX5_29 (shC (Sm.C sm7 hC) sgC_101) rfl (rfC (Sm.C sm7 hC) rfC_101_0 (fun x => absurd x.2 (by decide))) ?_
              refine j_iload_n 5 dX5_readNumber_94 rfl ?_
              refine j_iload 1 dX5_readNumber_95 rfl ?_
              refine j_callV (kc := 0) (ks := 0) (a := 0) (b := 0) (d' := (d + 1)) (As := [.int z, .int (nuV n t (p + 1)).1]) dX5_readNumber_97 kX5_89 rfl (shC (Sm.C sm7 hC) (sgH (by simp [isH]))) (by omega) rfl rfl rfl (Nat.le_of_ble_eq_true rfl) (Nat.le_of_ble_eq_true rfl) (T_X2_may (Sm.C sm7 hC) (by simp [isH]) (Sm.hv sm7 hd ok PRnH) ok z (nuV n t (p + 1)).1) (kk_p ?_)
              refine j_if_neB (p := (mayS S z (nuV n t (p + 1)).1)) (tgt := 110) dX5_readNumber_100 rfl (fun c11 => ?_) (fun c11 => ?_)
              · refine j_iload_n 4 dX5_readNumber_110 rfl ?_
                refine j_if_ltN (tgt := 131) i dX5_readNumber_111 (by omega) rfl ?_
                refine j_iload_n 4 dX5_readNumber_114 rfl ?_
                refine j_aload_n 3 dX5_readNumber_115 rfl ?_
                refine j_getr (q := 102) dX5_readNumber_116 fX5_11 (shC (Sm.C sm7 hC) sgC_101) rfl (rfC (Sm.C sm7 hC) rfC_101_1 (fun x => absurd x.2 (by decide))) ?_
                refine j_alen dX5_readNumber_119 (shC (Sm.C sm7 hC) sgC_102) (by decide) ?_
                refine j_icmp_geN (tgt := 131) i 3 dX5_readNumber_120 rfl (by omega) (by omega) (fun c13 => ?_) (fun c13 => ?_)
                · exact absurd c13 (by omega)
                · refine j_aload_n 3 dX5_readNumber_123 rfl ?_
                  refine j_getr (q := 102) dX5_readNumber_124 fX5_11 (shC (Sm.C sm7 hC) sgC_101) rfl (rfC (Sm.C sm7 hC) rfC_101_1 (fun x => absurd x.2 (by decide))) ?_
                  refine j_iload_n 4 dX5_readNumber_127 rfl ?_
                  refine j_iload 1 dX5_readNumber_128 rfl ?_
                  refine j_iastN i dX5_readNumber_130 (shC (Sm.C sm7 hC) sgC_102) (by omega) (by omega) ?_
                  have sm14 : Sm PRn M (jk_wI (jk_wI (jk_wI M 101 3 (nI (p + 1))) 101 3 (nI ((p + 1) + 1))) 102 i (nuV n t (p + 1)).1) := Sm.w sm7 (Or.inr rfl)
                  refine j_iconst 1 dX5_readNumber_131 ic_1 ?_
                  refine j_zret dX5_readNumber_132 rfl rfl ?_
                  exact hQ _ _ (Or.inl ⟨rfl, _, _, nuS_3 c1 c4 c11, sm14, ((rd_o (by decide)).trans rd_s).trans (congrArg nI eq2.symm), rd_s, fun k hk => by simp [jk_wI, va_up, hk], by simp [jk_wI, va_up]⟩)
              · refine j_aload_n 3 dX5_readNumber_103 rfl ?_
                refine j_iload_n 2 dX5_readNumber_104 rfl ?_
                refine j_put dX5_readNumber_105 fX5_26 (shC (Sm.C sm7 hC) sgC_101) rfl ?_
                have sm15 : Sm PRn M (jk_wI (jk_wI (jk_wI M 101 3 (nI (p + 1))) 101 3 (nI ((p + 1) + 1))) 101 4 (nI (p + 1))) := Sm.w sm7 (Or.inl rfl)
                refine j_iconst 0 dX5_readNumber_108 ic_0 ?_
                refine j_zret dX5_readNumber_109 rfl rfl ?_
                exact hQ _ _ (Or.inr ⟨rfl, _, nuS_2 c1 c4 c11, sm15, rd_s⟩)
          · refine j_bipush 10 dX5_readNumber_54 bp_10 ?_
            refine j_iload 1 dX5_readNumber_56 rfl ?_
            refine j_imul dX5_readNumber_58 ?_
            refine j_aload_n 3 dX5_readNumber_59 rfl ?_
            refine j_callV (kc := 0) (ks := 0) (a := 0) (b := 0) (d' := (d + 2)) (As := []) dX5_readNumber_60 kX5_86 rfl (shC (Sm.C sm7 hC) sgC_101) (by omega) rfl rfl rfl (Nat.le_of_ble_eq_true rfl) (Nat.le_of_ble_eq_true rfl) (T_X5_digitHere (Sm.C sm7 hC) (tx.sm sm7 PRnP tx.1.n102) ((p + 1) + 1) rd_s (by omega)) (kk_p ?_)
            refine j_iadd dX5_readNumber_63 ?_
            refine j_istore (L' := [(4, .int ((10 * (0 + (dgS n t (p + 1)))) + (dgS n t ((p + 1) + 1)))), (5, .int 1), (3, .int (nI (p + 1))), (0, .ref 101), (1, .int (nI i)), (2, .int z)]) dX5_readNumber_64 (by decide) rfl ?_
            refine j_aload_n 3 dX5_readNumber_66 rfl ?_
            refine j_dup dX5_readNumber_67 rfl ?_
            refine j_getv (nI ((p + 1) + 1)) dX5_readNumber_68 fX5_22 (shC (Sm.C sm7 hC) sgC_101) rfl rd_s ?_
            refine j_iconst 1 dX5_readNumber_71 ic_1 ?_
            refine j_iaddN ((p + 1) + 1) 1 dX5_readNumber_72 ?_
            refine j_put dX5_readNumber_73 fX5_22 (shC (Sm.C sm7 hC) sgC_101) rfl ?_
            have sm16 : Sm PRn M (jk_wI (jk_wI (jk_wI M 101 3 (nI (p + 1))) 101 3 (nI ((p + 1) + 1))) 101 3 (nI (((p + 1) + 1) + 1))) := Sm.w sm7 (Or.inl rfl)
            refine j_iinc 1 2 (L' := [(5, .int 2), (4, .int ((10 * (0 + (dgS n t (p + 1)))) + (dgS n t ((p + 1) + 1)))), (3, .int (nI (p + 1))), (0, .ref 101), (1, .int (nI i)), (2, .int z)]) dX5_readNumber_76 rfl (by decide) (by decide) rfl ?_
            refine j_goto (tgt := 40) dX5_readNumber_79 rfl ?_
            refine j_iload 0 dX5_readNumber_40 rfl ?_
            refine j_iconst 2 dX5_readNumber_42 ic_2 ?_
            refine j_icmp_ge (tgt := 82) dX5_readNumber_43 rfl (fun c17 => ?_) (fun c17 => ?_)
            · have ev : ((10 * (0 + (dgS n t (p + 1)))) + (dgS n t ((p + 1) + 1))) = (nuV n t (p + 1)).1 := by rw [nuV_2 c9]; simp
              have eq2 : (nuV n t (p + 1)).2 = p + 1 + 1 + 1 := by rw [nuV_2 c9]
              refine j_L (congrArg (fun zz9 : Int32 => ([(5, .int 2), (4, .int zz9), (3, .int (nI (p + 1))), (0, .ref 101), (1, .int (nI i)), (2, .int z)] : List (Nat × Value))) ev) ?_
              refine j_aload_n 3 dX5_readNumber_82 rfl ?_
              refine j_getv (nI (((p + 1) + 1) + 1)) dX5_readNumber_83 fX5_22 (shC (Sm.C sm16 hC) sgC_101) rfl rd_s ?_
              refine j_iload_n 2 dX5_readNumber_86 rfl ?_
              refine j_icmp_eqN (tgt := 103) (((p + 1) + 1) + 1) (p + 1) dX5_readNumber_87 rfl (by omega) (by omega) (fun c18 => ?_) (fun c18 => ?_)
              · exact absurd c18 (by omega)
              · refine j_aload_n 3 dX5_readNumber_90 rfl ?_
                refine j_getr (q := 55) dX5_readNumber_91 fX5_29 (shC (Sm.C sm16 hC) sgC_101) rfl (rfC (Sm.C sm16 hC) rfC_101_0 (fun x => absurd x.2 (by decide))) ?_
                refine j_iload_n 5 dX5_readNumber_94 rfl ?_
                refine j_iload 1 dX5_readNumber_95 rfl ?_
                refine j_callV (kc := 0) (ks := 0) (a := 0) (b := 0) (d' := (d + 1)) (As := [.int z, .int (nuV n t (p + 1)).1]) dX5_readNumber_97 kX5_89 rfl (shC (Sm.C sm16 hC) (sgH (by simp [isH]))) (by omega) rfl rfl rfl (Nat.le_of_ble_eq_true rfl) (Nat.le_of_ble_eq_true rfl) (T_X2_may (Sm.C sm16 hC) (by simp [isH]) (Sm.hv sm16 hd ok PRnH) ok z (nuV n t (p + 1)).1) (kk_p ?_)
                refine j_if_neB (p := (mayS S z (nuV n t (p + 1)).1)) (tgt := 110) dX5_readNumber_100 rfl (fun c19 => ?_) (fun c19 => ?_)
                · refine j_iload_n 4 dX5_readNumber_110 rfl ?_
                  refine j_if_ltN (tgt := 131) i dX5_readNumber_111 (by omega) rfl ?_
                  refine j_iload_n 4 dX5_readNumber_114 rfl ?_
                  refine j_aload_n 3 dX5_readNumber_115 rfl ?_
                  refine j_getr (q := 102) dX5_readNumber_116 fX5_11 (shC (Sm.C sm16 hC) sgC_101) rfl (rfC (Sm.C sm16 hC) rfC_101_1 (fun x => absurd x.2 (by decide))) ?_
                  refine j_alen dX5_readNumber_119 (shC (Sm.C sm16 hC) sgC_102) (by decide) ?_
                  refine j_icmp_geN (tgt := 131) i 3 dX5_readNumber_120 rfl (by omega) (by omega) (fun c21 => ?_) (fun c21 => ?_)
                  · exact absurd c21 (by omega)
                  · refine j_aload_n 3 dX5_readNumber_123 rfl ?_
                    refine j_getr (q := 102) dX5_readNumber_124 fX5_11 (shC (Sm.C sm16 hC) sgC_101) rfl (rfC (Sm.C sm16 hC) rfC_101_1 (fun x => absurd x.2 (by decide))) ?_
                    refine j_iload_n 4 dX5_readNumber_127 rfl ?_
                    refine j_iload 1 dX5_readNumber_128 rfl ?_
                    refine j_iastN i dX5_readNumber_130 (shC (Sm.C sm16 hC) sgC_102) (by omega) (by omega) ?_
                    have sm22 : Sm PRn M (jk_wI (jk_wI (jk_wI (jk_wI M 101 3 (nI (p + 1))) 101 3 (nI ((p + 1) + 1))) 101 3 (nI (((p + 1) + 1) + 1))) 102 i (nuV n t (p + 1)).1) := Sm.w sm16 (Or.inr rfl)
                    refine j_iconst 1 dX5_readNumber_131 ic_1 ?_
                    refine j_zret dX5_readNumber_132 rfl rfl ?_
                    exact hQ _ _ (Or.inl ⟨rfl, _, _, nuS_3 c1 c4 c19, sm22, ((rd_o (by decide)).trans rd_s).trans (congrArg nI eq2.symm), rd_s, fun k hk => by simp [jk_wI, va_up, hk], by simp [jk_wI, va_up]⟩)
                · refine j_aload_n 3 dX5_readNumber_103 rfl ?_
                  refine j_iload_n 2 dX5_readNumber_104 rfl ?_
                  refine j_put dX5_readNumber_105 fX5_26 (shC (Sm.C sm16 hC) sgC_101) rfl ?_
                  have sm23 : Sm PRn M (jk_wI (jk_wI (jk_wI (jk_wI M 101 3 (nI (p + 1))) 101 3 (nI ((p + 1) + 1))) 101 3 (nI (((p + 1) + 1) + 1))) 101 4 (nI (p + 1))) := Sm.w sm16 (Or.inl rfl)
                  refine j_iconst 0 dX5_readNumber_108 ic_0 ?_
                  refine j_zret dX5_readNumber_109 rfl rfl ?_
                  exact hQ _ _ (Or.inr ⟨rfl, _, nuS_2 c1 c4 c19, sm23, rd_s⟩)
            · exact absurd c17 (by decide)
  · refine j_aload_n 0 dX5_readNumber_9 rfl ?_
    refine j_aload_n 0 dX5_readNumber_10 rfl ?_
    refine j_getv (nI p) dX5_readNumber_11 fX5_22 (shC hC sgC_101) rfl hp ?_
    refine j_put dX5_readNumber_14 fX5_26 (shC hC sgC_101) rfl ?_
    have sm24 : Sm PRn M (jk_wI M 101 4 (nI p)) := Sm.w Sm.rf (Or.inl rfl)
    refine j_iconst 0 dX5_readNumber_17 ic_0 ?_
    refine j_zret dX5_readNumber_18 rfl rfl ?_
    exact hQ _ _ (Or.inr ⟨rfl, _, nuS_0 c1, sm24, rd_s⟩)
set_option maxRecDepth 20000 in
set_option maxHeartbeats 4000000 in
theorem T_X5_sortOf {d : Nat} {M : jk_M} (w i : Nat) (hw : w < 10) (hi : i < 3) : J Fr_X5_sortOf d 0 0 0 [(0, .int (nI w)), (1, .int (nI i))] [] M (jk_is (some (.int (soN w i))) M) := by
  refine j_post (fun Q hQ => ?_)
  refine j_iload_n 0 dX5_sortOf_0 rfl ?_
  refine j_iconst 3 dX5_sortOf_1 ic_3 ?_
  refine j_imulN w 3 dX5_sortOf_2 ?_
  refine j_iload_n 1 dX5_sortOf_3 rfl ?_
  refine j_iaddN (w * 3) i dX5_sortOf_4 ?_
  refine j_istore_n (L' := [(2, .int (nI ((w * 3) + i))), (0, .int (nI w)), (1, .int (nI i))]) dX5_sortOf_5 (by decide) rfl ?_
  refine j_iload_n 0 dX5_sortOf_6 rfl ?_
  refine j_if_ltN (tgt := 26) ((w * 3) + i) dX5_sortOf_7 (by omega) rfl ?_
  refine j_iload_n 0 dX5_sortOf_10 rfl ?_
  refine j_gets (j := 3) dX5_sortOf_11 rfl sX5_146 ?_
  refine j_alenS (j := 3) dX5_sortOf_14 rfl ?_
  refine j_topi 30 rfl ?_
  refine j_icmp_geN (tgt := 26) ((w * 3) + i) 30 dX5_sortOf_15 rfl (by omega) (by omega) (fun c2 => ?_) (fun c2 => ?_)
  · exact absurd c2 (by omega)
  · refine j_gets (j := 3) dX5_sortOf_18 rfl sX5_146 ?_
    refine j_iload_n 0 dX5_sortOf_21 rfl ?_
    refine j_ialdS (j := 3) dX5_sortOf_22 rfl (vp_in_nI (show w * 3 + i < 30 by omega) (by decide)) ?_
    refine j_goto (tgt := 27) dX5_sortOf_23 rfl ?_
    refine j_iret dX5_sortOf_27 rfl ?_
    exact hQ _ _ ⟨by rw [nI_clamp (by omega)]; rfl, rfl⟩
set_option maxRecDepth 20000 in
set_option maxHeartbeats 4000000 in
theorem T_room_0 {d : Nat} {M : jk_M} {S : HS} (hC : WC M) (hd : hv M.2.1 55 = S) (ok : Sok S) : J Fr_X5_hasRoom d 0 0 0 [(0, .ref 101), (1, .int 0)] [] M (jk_is (some (.int (bI (roomS S 0)))) M) := by
  refine j_post (fun Q hQ => ?_)
  obtain ⟨q1, q2, q3⟩ := ok.cn
  refine j_iload_n 1 dX5_hasRoom_0 rfl ?_
  refine j_lookup (off := 89) (tgt := 90) dX5_hasRoom_1 (by decide) (by decide) rfl ?_
  refine j_iconst 1 dX5_hasRoom_90 ic_1 ?_
  refine j_zret dX5_hasRoom_91 rfl rfl ?_
  exact hQ _ _ ⟨by rw [bI_t (p := roomS S 0) ⟨fun _ => by omega, fun _ => by omega, fun _ => by omega⟩], rfl⟩
set_option maxRecDepth 20000 in
set_option maxHeartbeats 4000000 in
theorem T_room_1 {d : Nat} {M : jk_M} {S : HS} (hC : WC M) (hd : hv M.2.1 55 = S) (ok : Sok S) : J Fr_X5_hasRoom d 0 0 0 [(0, .ref 101), (1, .int 1)] [] M (jk_is (some (.int (bI (roomS S 1)))) M) := by
  refine j_post (fun Q hQ => ?_)
  obtain ⟨q1, q2, q3⟩ := ok.cn
  refine j_iload_n 1 dX5_hasRoom_0 rfl ?_
  refine j_lookup (off := 35) (tgt := 36) dX5_hasRoom_1 (by decide) (by decide) rfl ?_
  refine j_aload_n 0 dX5_hasRoom_36 rfl ?_
  refine j_getr (q := 55) dX5_hasRoom_37 fX5_29 (shC hC sgC_101) rfl (rfC hC rfC_101_0 (fun x => absurd x.2 (by decide))) ?_
  refine j_getv (nI (nT S)) dX5_hasRoom_40 fX5_101 (shC hC (sgH (by simp [isH]))) rfl ((hvs hd (by decide)).trans (Sok.T ok).1) ?_
  refine j_bipush 16 dX5_hasRoom_43 bp_16 ?_
  refine j_icmp_geN (tgt := 52) (nT S) 16 dX5_hasRoom_45 rfl (by omega) (by omega) (fun c1 => ?_) (fun c1 => ?_)
  · refine j_iconst 0 dX5_hasRoom_52 ic_0 ?_
    refine j_zret dX5_hasRoom_53 rfl rfl ?_
    exact hQ _ _ ⟨by rw [bI_f (p := roomS S 1) (fun z => by have := z.1; have := z.2.1; have := z.2.2; omega)], rfl⟩
  · refine j_iconst 1 dX5_hasRoom_48 ic_1 ?_
    refine j_goto (tgt := 53) dX5_hasRoom_49 rfl ?_
    refine j_zret dX5_hasRoom_53 rfl rfl ?_
    exact hQ _ _ ⟨by rw [bI_t (p := roomS S 1) ⟨fun _ => by omega, fun _ => by omega, fun _ => by omega⟩], rfl⟩
set_option maxRecDepth 20000 in
set_option maxHeartbeats 4000000 in
theorem T_room_2 {d : Nat} {M : jk_M} {S : HS} (hC : WC M) (hd : hv M.2.1 55 = S) (ok : Sok S) : J Fr_X5_hasRoom d 0 0 0 [(0, .ref 101), (1, .int 2)] [] M (jk_is (some (.int (bI (roomS S 2)))) M) := by
  refine j_post (fun Q hQ => ?_)
  obtain ⟨q1, q2, q3⟩ := ok.cn
  refine j_iload_n 1 dX5_hasRoom_0 rfl ?_
  refine j_lookup (off := 89) (tgt := 90) dX5_hasRoom_1 (by decide) (by decide) rfl ?_
  refine j_iconst 1 dX5_hasRoom_90 ic_1 ?_
  refine j_zret dX5_hasRoom_91 rfl rfl ?_
  exact hQ _ _ ⟨by rw [bI_t (p := roomS S 2) ⟨fun _ => by omega, fun _ => by omega, fun _ => by omega⟩], rfl⟩
set_option maxRecDepth 20000 in
set_option maxHeartbeats 4000000 in
theorem T_room_3 {d : Nat} {M : jk_M} {S : HS} (hC : WC M) (hd : hv M.2.1 55 = S) (ok : Sok S) : J Fr_X5_hasRoom d 0 0 0 [(0, .ref 101), (1, .int 3)] [] M (jk_is (some (.int (bI (roomS S 3)))) M) := by
  refine j_post (fun Q hQ => ?_)
  obtain ⟨q1, q2, q3⟩ := ok.cn
  refine j_iload_n 1 dX5_hasRoom_0 rfl ?_
  refine j_lookup (off := 89) (tgt := 90) dX5_hasRoom_1 (by decide) (by decide) rfl ?_
  refine j_iconst 1 dX5_hasRoom_90 ic_1 ?_
  refine j_zret dX5_hasRoom_91 rfl rfl ?_
  exact hQ _ _ ⟨by rw [bI_t (p := roomS S 3) ⟨fun _ => by omega, fun _ => by omega, fun _ => by omega⟩], rfl⟩
set_option maxRecDepth 20000 in
set_option maxHeartbeats 4000000 in
theorem T_room_4 {d : Nat} {M : jk_M} {S : HS} (hC : WC M) (hd : hv M.2.1 55 = S) (ok : Sok S) : J Fr_X5_hasRoom d 0 0 0 [(0, .ref 101), (1, .int 4)] [] M (jk_is (some (.int (bI (roomS S 4)))) M) := by
  refine j_post (fun Q hQ => ?_)
  obtain ⟨q1, q2, q3⟩ := ok.cn
  refine j_iload_n 1 dX5_hasRoom_0 rfl ?_
  refine j_lookup (off := 89) (tgt := 90) dX5_hasRoom_1 (by decide) (by decide) rfl ?_
  refine j_iconst 1 dX5_hasRoom_90 ic_1 ?_
  refine j_zret dX5_hasRoom_91 rfl rfl ?_
  exact hQ _ _ ⟨by rw [bI_t (p := roomS S 4) ⟨fun _ => by omega, fun _ => by omega, fun _ => by omega⟩], rfl⟩
set_option maxRecDepth 20000 in
set_option maxHeartbeats 4000000 in
theorem T_room_5 {d : Nat} {M : jk_M} {S : HS} (hC : WC M) (hd : hv M.2.1 55 = S) (ok : Sok S) : J Fr_X5_hasRoom d 0 0 0 [(0, .ref 101), (1, .int 5)] [] M (jk_is (some (.int (bI (roomS S 5)))) M) := by
  refine j_post (fun Q hQ => ?_)
  obtain ⟨q1, q2, q3⟩ := ok.cn
  refine j_iload_n 1 dX5_hasRoom_0 rfl ?_
  refine j_lookup (off := 53) (tgt := 54) dX5_hasRoom_1 (by decide) (by decide) rfl ?_
  refine j_aload_n 0 dX5_hasRoom_54 rfl ?_
  refine j_getr (q := 55) dX5_hasRoom_55 fX5_29 (shC hC sgC_101) rfl (rfC hC rfC_101_0 (fun x => absurd x.2 (by decide))) ?_
  refine j_getv (nI (nN S)) dX5_hasRoom_58 fX5_104 (shC hC (sgH (by simp [isH]))) rfl ((hvs hd (by decide)).trans (Sok.N ok).1) ?_
  refine j_bipush 8 dX5_hasRoom_61 bp_8 ?_
  refine j_icmp_geN (tgt := 70) (nN S) 8 dX5_hasRoom_63 rfl (by omega) (by omega) (fun c1 => ?_) (fun c1 => ?_)
  · refine j_iconst 0 dX5_hasRoom_70 ic_0 ?_
    refine j_zret dX5_hasRoom_71 rfl rfl ?_
    exact hQ _ _ ⟨by rw [bI_f (p := roomS S 5) (fun z => by have := z.1; have := z.2.1; have := z.2.2; omega)], rfl⟩
  · refine j_iconst 1 dX5_hasRoom_66 ic_1 ?_
    refine j_goto (tgt := 71) dX5_hasRoom_67 rfl ?_
    refine j_zret dX5_hasRoom_71 rfl rfl ?_
    exact hQ _ _ ⟨by rw [bI_t (p := roomS S 5) ⟨fun _ => by omega, fun _ => by omega, fun _ => by omega⟩], rfl⟩
set_option maxRecDepth 20000 in
set_option maxHeartbeats 4000000 in
theorem T_room_6 {d : Nat} {M : jk_M} {S : HS} (hC : WC M) (hd : hv M.2.1 55 = S) (ok : Sok S) : J Fr_X5_hasRoom d 0 0 0 [(0, .ref 101), (1, .int 6)] [] M (jk_is (some (.int (bI (roomS S 6)))) M) := by
  refine j_post (fun Q hQ => ?_)
  obtain ⟨q1, q2, q3⟩ := ok.cn
  refine j_iload_n 1 dX5_hasRoom_0 rfl ?_
  refine j_lookup (off := 71) (tgt := 72) dX5_hasRoom_1 (by decide) (by decide) rfl ?_
  refine j_aload_n 0 dX5_hasRoom_72 rfl ?_
  refine j_getr (q := 55) dX5_hasRoom_73 fX5_29 (shC hC sgC_101) rfl (rfC hC rfC_101_0 (fun x => absurd x.2 (by decide))) ?_
  refine j_getv (nI (nD S)) dX5_hasRoom_76 fX5_107 (shC hC (sgH (by simp [isH]))) rfl ((hvs hd (by decide)).trans (Sok.D ok).1) ?_
  refine j_bipush 6 dX5_hasRoom_79 bp_6 ?_
  refine j_icmp_geN (tgt := 88) (nD S) 6 dX5_hasRoom_81 rfl (by omega) (by omega) (fun c1 => ?_) (fun c1 => ?_)
  · refine j_iconst 0 dX5_hasRoom_88 ic_0 ?_
    refine j_zret dX5_hasRoom_89 rfl rfl ?_
    exact hQ _ _ ⟨by rw [bI_f (p := roomS S 6) (fun z => by have := z.1; have := z.2.1; have := z.2.2; omega)], rfl⟩
  · refine j_iconst 1 dX5_hasRoom_84 ic_1 ?_
    refine j_goto (tgt := 89) dX5_hasRoom_85 rfl ?_
    refine j_zret dX5_hasRoom_89 rfl rfl ?_
    exact hQ _ _ ⟨by rw [bI_t (p := roomS S 6) ⟨fun _ => by omega, fun _ => by omega, fun _ => by omega⟩], rfl⟩
set_option maxRecDepth 20000 in
set_option maxHeartbeats 4000000 in
theorem T_room_7 {d : Nat} {M : jk_M} {S : HS} (hC : WC M) (hd : hv M.2.1 55 = S) (ok : Sok S) : J Fr_X5_hasRoom d 0 0 0 [(0, .ref 101), (1, .int 7)] [] M (jk_is (some (.int (bI (roomS S 7)))) M) := by
  refine j_post (fun Q hQ => ?_)
  obtain ⟨q1, q2, q3⟩ := ok.cn
  refine j_iload_n 1 dX5_hasRoom_0 rfl ?_
  refine j_lookup (off := 89) (tgt := 90) dX5_hasRoom_1 (by decide) (by decide) rfl ?_
  refine j_iconst 1 dX5_hasRoom_90 ic_1 ?_
  refine j_zret dX5_hasRoom_91 rfl rfl ?_
  exact hQ _ _ ⟨by rw [bI_t (p := roomS S 7) ⟨fun _ => by omega, fun _ => by omega, fun _ => by omega⟩], rfl⟩
set_option maxRecDepth 20000 in
set_option maxHeartbeats 4000000 in
theorem T_room_8 {d : Nat} {M : jk_M} {S : HS} (hC : WC M) (hd : hv M.2.1 55 = S) (ok : Sok S) : J Fr_X5_hasRoom d 0 0 0 [(0, .ref 101), (1, .int 8)] [] M (jk_is (some (.int (bI (roomS S 8)))) M) := by
  refine j_post (fun Q hQ => ?_)
  obtain ⟨q1, q2, q3⟩ := ok.cn
  refine j_iload_n 1 dX5_hasRoom_0 rfl ?_
  refine j_lookup (off := 89) (tgt := 90) dX5_hasRoom_1 (by decide) (by decide) rfl ?_
  refine j_iconst 1 dX5_hasRoom_90 ic_1 ?_
  refine j_zret dX5_hasRoom_91 rfl rfl ?_
  exact hQ _ _ ⟨by rw [bI_t (p := roomS S 8) ⟨fun _ => by omega, fun _ => by omega, fun _ => by omega⟩], rfl⟩
set_option maxRecDepth 20000 in
set_option maxHeartbeats 4000000 in
theorem T_room_9 {d : Nat} {M : jk_M} {S : HS} (hC : WC M) (hd : hv M.2.1 55 = S) (ok : Sok S) : J Fr_X5_hasRoom d 0 0 0 [(0, .ref 101), (1, .int 9)] [] M (jk_is (some (.int (bI (roomS S 9)))) M) := by
  refine j_post (fun Q hQ => ?_)
  obtain ⟨q1, q2, q3⟩ := ok.cn
  refine j_iload_n 1 dX5_hasRoom_0 rfl ?_
  refine j_lookup (off := 89) (tgt := 90) dX5_hasRoom_1 (by decide) (by decide) rfl ?_
  refine j_iconst 1 dX5_hasRoom_90 ic_1 ?_
  refine j_zret dX5_hasRoom_91 rfl rfl ?_
  exact hQ _ _ ⟨by rw [bI_t (p := roomS S 9) ⟨fun _ => by omega, fun _ => by omega, fun _ => by omega⟩], rfl⟩
theorem T_X5_hasRoom {d : Nat} {M : jk_M} {S : HS} (hC : WC M) (hd : hv M.2.1 55 = S) (ok : Sok S) (w : Nat) (hw : w < 10) : J Fr_X5_hasRoom d 0 0 0 [(0, .ref 101), (1, .int (nI w))] [] M (jk_is (some (.int (bI (roomS S w)))) M) := by
  have h : w = 0 ∨ w = 1 ∨ w = 2 ∨ w = 3 ∨ w = 4 ∨ w = 5 ∨ w = 6 ∨ w = 7 ∨ w = 8 ∨ w = 9 := by omega
  rcases h with rfl | rfl | rfl | rfl | rfl | rfl | rfl | rfl | rfl | rfl
  · rw [show (Value.int (nI 0)) = .int 0 from congrArg _ (by decide)]
    exact T_room_0 hC hd ok
  · rw [show (Value.int (nI 1)) = .int 1 from congrArg _ (by decide)]
    exact T_room_1 hC hd ok
  · rw [show (Value.int (nI 2)) = .int 2 from congrArg _ (by decide)]
    exact T_room_2 hC hd ok
  · rw [show (Value.int (nI 3)) = .int 3 from congrArg _ (by decide)]
    exact T_room_3 hC hd ok
  · rw [show (Value.int (nI 4)) = .int 4 from congrArg _ (by decide)]
    exact T_room_4 hC hd ok
  · rw [show (Value.int (nI 5)) = .int 5 from congrArg _ (by decide)]
    exact T_room_5 hC hd ok
  · rw [show (Value.int (nI 6)) = .int 6 from congrArg _ (by decide)]
    exact T_room_6 hC hd ok
  · rw [show (Value.int (nI 7)) = .int 7 from congrArg _ (by decide)]
    exact T_room_7 hC hd ok
  · rw [show (Value.int (nI 8)) = .int 8 from congrArg _ (by decide)]
    exact T_room_8 hC hd ok
  · rw [show (Value.int (nI 9)) = .int 9 from congrArg _ (by decide)]
    exact T_room_9 hC hd ok
