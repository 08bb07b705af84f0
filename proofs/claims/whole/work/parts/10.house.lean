theorem jk_out {lo hi : Int} {x : Int32} (h : ¬ (lo ≤ x.toInt ∧ x.toInt ≤ hi)) : x.toInt < lo ∨ hi < x.toInt := by omega
theorem vpin {x : Int32} {n : Nat} (N : Int32) (hN : N.toInt = n) (h0 : 0 ≤ x) (h1 : x < N) : vp_in x n := by
  rw [vp_in_iff]
  have a := Int32.le_iff_toInt_le.mp h0
  have b := Int32.lt_iff_toInt_lt.mp h1
  rw [hN] at b
  exact ⟨a, b⟩
set_option maxRecDepth 20000 in
set_option maxHeartbeats 4000000 in
theorem T_X10_isPlace {d : Nat} {M : jk_M} (c : Int32) : J Fr_X10_isPlace d 0 0 0 [(0, .int c)] [] M (jk_is (some (.int (bI (isP c)))) M) := by
  refine j_post (fun Q hQ => ?_)
  refine j_iload_n 0 dX10_isPlace_0 rfl ?_
  refine j_if_lt (tgt := 14) dX10_isPlace_1 rfl (fun c1 => ?_) (fun c1 => ?_)
  · refine j_iconst 0 dX10_isPlace_14 ic_0 ?_
    refine j_zret dX10_isPlace_15 rfl rfl ?_
    exact hQ _ _ ⟨by rw [bI_f (by clear hQ; grind [isP])], rfl⟩
  · refine j_iload_n 0 dX10_isPlace_4 rfl ?_
    refine j_bipush 80 dX10_isPlace_5 bp_80 ?_
    refine j_icmp_ge (tgt := 14) dX10_isPlace_7 rfl (fun c2 => ?_) (fun c2 => ?_)
    · refine j_iconst 0 dX10_isPlace_14 ic_0 ?_
      refine j_zret dX10_isPlace_15 rfl rfl ?_
      exact hQ _ _ ⟨by rw [bI_f (by clear hQ; grind [isP])], rfl⟩
    · refine j_iconst 1 dX10_isPlace_10 ic_1 ?_
      refine j_goto (tgt := 15) dX10_isPlace_11 rfl ?_
      refine j_zret dX10_isPlace_15 rfl rfl ?_
      exact hQ _ _ ⟨by rw [bI_t (by clear hQ; grind [isP])], rfl⟩
set_option maxRecDepth 20000 in
set_option maxHeartbeats 4000000 in
theorem T_X10_barsBy {d : Nat} {M : jk_M} (x : Int32) : J Fr_X10_barsBy d 0 0 0 [(0, .int x)] [] M (jk_is (some (.int (barsBy x))) M) := by
  refine j_post (fun Q hQ => ?_)
  refine j_iconst 5 dX10_barsBy_0 ic_5 ?_
  refine j_iload_n 0 dX10_barsBy_1 rfl ?_
  refine j_bipush 10 dX10_barsBy_2 bp_10 ?_
  refine j_idiv dX10_barsBy_4 (by decide) ?_
  refine j_min dX10_barsBy_5 mX10_318 mt_min.1 mt_min.2.1 mt_min.2.2 (Nat.le_of_ble_eq_true rfl) ?_
  refine j_iret dX10_barsBy_8 rfl ?_
  exact hQ _ _ ⟨rfl, rfl⟩
set_option maxRecDepth 20000 in
set_option maxHeartbeats 4000000 in
theorem T_X10_noiseOver {d : Nat} {M : jk_M} (n f : Int32) : J Fr_X10_noiseOver d 0 0 0 [(0, .int n), (1, .int f)] [] M (jk_is (some (.int (noiseO n f))) M) := by
  refine j_post (fun Q hQ => ?_)
  refine j_iload_n 0 dX10_noiseOver_0 rfl ?_
  refine j_iconst 0 dX10_noiseOver_1 ic_0 ?_
  refine j_iconst 5 dX10_noiseOver_2 ic_5 ?_
  refine j_iload_n 1 dX10_noiseOver_3 rfl ?_
  refine j_abs dX10_noiseOver_4 mX10_388 mt_abs.1 mt_abs.2.1 mt_abs.2.2 (Nat.le_of_ble_eq_true rfl) ?_
  refine j_isub dX10_noiseOver_7 ?_
  refine j_max dX10_noiseOver_8 mX10_240 mt_max.1 mt_max.2.1 mt_max.2.2 (Nat.le_of_ble_eq_true rfl) ?_
  refine j_imul dX10_noiseOver_11 ?_
  refine j_iconst 5 dX10_noiseOver_12 ic_5 ?_
  refine j_idiv dX10_noiseOver_13 (by decide) ?_
  refine j_iret dX10_noiseOver_14 rfl ?_
  exact hQ _ _ ⟨rfl, rfl⟩
set_option maxRecDepth 20000 in
set_option maxHeartbeats 4000000 in
theorem T_X10_stepsFar {d : Nat} {M : jk_M} (c e : Int32) : J Fr_X10_stepsFar d 0 0 0 [(0, .int c), (1, .int e)] [] M (jk_is (some (.int (sfar c e))) M) := by
  refine j_post (fun Q hQ => ?_)
  refine j_iload_n 0 dX10_stepsFar_0 rfl ?_
  refine j_bipush 10 dX10_stepsFar_1 bp_10 ?_
  refine j_idiv dX10_stepsFar_3 (by decide) ?_
  refine j_iload_n 1 dX10_stepsFar_4 rfl ?_
  refine j_bipush 10 dX10_stepsFar_5 bp_10 ?_
  refine j_idiv dX10_stepsFar_7 (by decide) ?_
  refine j_isub dX10_stepsFar_8 ?_
  refine j_abs dX10_stepsFar_9 mX10_388 mt_abs.1 mt_abs.2.1 mt_abs.2.2 (Nat.le_of_ble_eq_true rfl) ?_
  refine j_iload_n 0 dX10_stepsFar_12 rfl ?_
  refine j_bipush 10 dX10_stepsFar_13 bp_10 ?_
  refine j_irem dX10_stepsFar_15 (by decide) ?_
  refine j_iload_n 1 dX10_stepsFar_16 rfl ?_
  refine j_bipush 10 dX10_stepsFar_17 bp_10 ?_
  refine j_irem dX10_stepsFar_19 (by decide) ?_
  refine j_isub dX10_stepsFar_20 ?_
  refine j_abs dX10_stepsFar_21 mX10_388 mt_abs.1 mt_abs.2.1 mt_abs.2.2 (Nat.le_of_ble_eq_true rfl) ?_
  refine j_iadd dX10_stepsFar_24 ?_
  refine j_iret dX10_stepsFar_25 rfl ?_
  exact hQ _ _ ⟨rfl, rfl⟩
set_option maxRecDepth 20000 in
set_option maxHeartbeats 4000000 in
theorem T_X10_kindAbove {d : Nat} {M : jk_M} (k : Int32) : J Fr_X10_kindAbove d 0 0 0 [(0, .int k)] [] M (jk_is (some (.int (kAb k))) M) := by
  refine j_post (fun Q hQ => ?_)
  refine j_iload_n 0 dX10_kindAbove_0 rfl ?_
  refine j_if_lt (tgt := 20) dX10_kindAbove_1 rfl (fun c1 => ?_) (fun c1 => ?_)
  · refine j_iconst 0 dX10_kindAbove_20 ic_0 ?_
    refine j_iret dX10_kindAbove_21 rfl ?_
    exact hQ _ _ ⟨by clear hQ; grind [kAb], rfl⟩
  · refine j_iload_n 0 dX10_kindAbove_4 rfl ?_
    refine j_gets (j := 0) dX10_kindAbove_5 rfl sX10_391 ?_
    refine j_alenS (j := 0) dX10_kindAbove_8 rfl ?_
    refine j_topi 7 rfl ?_
    refine j_icmp_ge (tgt := 20) dX10_kindAbove_9 rfl (fun c2 => ?_) (fun c2 => ?_)
    · refine j_iconst 0 dX10_kindAbove_20 ic_0 ?_
      refine j_iret dX10_kindAbove_21 rfl ?_
      exact hQ _ _ ⟨by clear hQ; grind [kAb], rfl⟩
    · refine j_gets (j := 0) dX10_kindAbove_12 rfl sX10_391 ?_
      refine j_iload_n 0 dX10_kindAbove_15 rfl ?_
      refine j_ialdS (j := 0) dX10_kindAbove_16 rfl (vpin 7 (by decide) (by clear hQ; grind) (by clear hQ; grind)) ?_
      refine j_goto (tgt := 21) dX10_kindAbove_17 rfl ?_
      refine j_iret dX10_kindAbove_21 rfl ?_
      exact hQ _ _ ⟨by clear hQ; grind [kAb], rfl⟩
set_option maxRecDepth 20000 in
set_option maxHeartbeats 4000000 in
theorem T_X2_isCell {d : Nat} {M : jk_M} {h : Nat} {S : HS} (hC : WC M) (hh : isH h) (hS : hv M.2.1 h = S) (ok : Sok S) (c : Int32) : J Fr_X2_isCell d 0 0 0 [(0, .ref h), (1, .int c)] [] M (jk_is (some (.int (bI (isC S c)))) M) := by
  refine j_post (fun Q hQ => ?_)
  refine j_iload_n 1 dX2_isCell_0 rfl ?_
  refine j_if_lt (tgt := 30) dX2_isCell_1 rfl (fun c1 => ?_) (fun c1 => ?_)
  · refine j_iconst 0 dX2_isCell_30 ic_0 ?_
    refine j_zret dX2_isCell_31 rfl rfl ?_
    exact hQ _ _ ⟨by rw [bI_f (by clear hQ; grind [isC])], rfl⟩
  · refine j_iload_n 1 dX2_isCell_4 rfl ?_
    refine j_bipush 10 dX2_isCell_5 bp_10 ?_
    refine j_idiv dX2_isCell_7 (by decide) ?_
    refine j_aload_n 0 dX2_isCell_8 rfl ?_
    refine j_getv (S 0 0) dX2_isCell_9 fX2_9 (shC hC (sgH hh)) rfl (hvs hS (by decide)) ?_
    refine j_icmp_ge (tgt := 30) dX2_isCell_12 rfl (fun c2 => ?_) (fun c2 => ?_)
    · refine j_iconst 0 dX2_isCell_30 ic_0 ?_
      refine j_zret dX2_isCell_31 rfl rfl ?_
      exact hQ _ _ ⟨by rw [bI_f (by clear hQ; grind [isC])], rfl⟩
    · refine j_iload_n 1 dX2_isCell_15 rfl ?_
      refine j_bipush 10 dX2_isCell_16 bp_10 ?_
      refine j_irem dX2_isCell_18 (by decide) ?_
      refine j_aload_n 0 dX2_isCell_19 rfl ?_
      refine j_getv (S 0 0) dX2_isCell_20 fX2_9 (shC hC (sgH hh)) rfl (hvs hS (by decide)) ?_
      refine j_icmp_ge (tgt := 30) dX2_isCell_23 rfl (fun c3 => ?_) (fun c3 => ?_)
      · refine j_iconst 0 dX2_isCell_30 ic_0 ?_
        refine j_zret dX2_isCell_31 rfl rfl ?_
        exact hQ _ _ ⟨by rw [bI_f (by clear hQ; grind [isC])], rfl⟩
      · refine j_iconst 1 dX2_isCell_26 ic_1 ?_
        refine j_goto (tgt := 31) dX2_isCell_27 rfl ?_
        refine j_zret dX2_isCell_31 rfl rfl ?_
        exact hQ _ _ ⟨by rw [bI_t (by clear hQ; grind [isC])], rfl⟩
set_option maxRecDepth 20000 in
set_option maxHeartbeats 4000000 in
theorem T_X2_placeOf {d : Nat} {M : jk_M} {h : Nat} {S : HS} (hC : WC M) (hh : isH h) (hS : hv M.2.1 h = S) (ok : Sok S) (b : Int32) : J Fr_X2_placeOf d 0 0 0 [(0, .ref h), (1, .int b)] [] M (jk_is (some (.int (if b = 0 then S 5 0 else S 6 0))) M) := by
  refine j_post (fun Q hQ => ?_)
  refine j_iload_n 1 dX2_placeOf_0 rfl ?_
  refine j_if_ne (tgt := 11) dX2_placeOf_1 rfl (fun c1 => ?_) (fun c1 => ?_)
  · refine j_aload_n 0 dX2_placeOf_11 rfl ?_
    refine j_getv (S 6 0) dX2_placeOf_12 fX2_30 (shC hC (sgH hh)) rfl (hvs hS (by decide)) ?_
    refine j_iret dX2_placeOf_15 rfl ?_
    exact hQ _ _ ⟨by clear hQ; grind [], rfl⟩
  · refine j_aload_n 0 dX2_placeOf_4 rfl ?_
    refine j_getv (S 5 0) dX2_placeOf_5 fX2_27 (shC hC (sgH hh)) rfl (hvs hS (by decide)) ?_
    refine j_goto (tgt := 15) dX2_placeOf_8 rfl ?_
    refine j_iret dX2_placeOf_15 rfl ?_
    exact hQ _ _ ⟨by clear hQ; grind [], rfl⟩
set_option maxRecDepth 20000 in
set_option maxHeartbeats 4000000 in
theorem T_X2_may {d : Nat} {M : jk_M} {h : Nat} {S : HS} (hC : WC M) (hh : isH h) (hS : hv M.2.1 h = S) (ok : Sok S) (z v : Int32) : J Fr_X2_may (d + 1) 0 0 0 [(0, .ref h), (1, .int z), (2, .int v)] [] M (jk_is (some (.int (bI (mayS S z v)))) M) := by
  refine j_post (fun Q hQ => ?_)
  refine j_iload_n 1 dX2_may_0 rfl ?_
  refine j_iconst 3 dX2_may_1 ic_3 ?_
  refine j_icmp_ne (tgt := 11) dX2_may_2 rfl (fun c1 => ?_) (fun c1 => ?_)
  · refine j_iload_n 1 dX2_may_11 rfl ?_
    refine j_if_lt (tgt := 31) dX2_may_12 rfl (fun c2 => ?_) (fun c2 => ?_)
    · refine j_iconst 0 dX2_may_31 ic_0 ?_
      refine j_zret dX2_may_32 rfl rfl ?_
      exact hQ _ _ ⟨by rw [bI_f (by clear hQ; grind [mayS])], rfl⟩
    · refine j_iload_n 1 dX2_may_15 rfl ?_
      refine j_getsN (j := 1) dX2_may_16 rfl sX2_89 ?_
      refine j_alenS (j := 1) dX2_may_19 rfl ?_
      refine j_topi 14 rfl ?_
      refine j_icmp_ge (tgt := 31) dX2_may_20 rfl (fun c3 => ?_) (fun c3 => ?_)
      · refine j_iconst 0 dX2_may_31 ic_0 ?_
        refine j_zret dX2_may_32 rfl rfl ?_
        exact hQ _ _ ⟨by rw [bI_f (by clear hQ; grind [mayS])], rfl⟩
      · refine j_iload_n 1 dX2_may_23 rfl ?_
        refine j_getsN (j := 2) dX2_may_24 rfl sX2_92 ?_
        refine j_alenS (j := 2) dX2_may_27 rfl ?_
        refine j_topi 14 rfl ?_
        refine j_icmp_lt (tgt := 33) dX2_may_28 rfl (fun c4 => ?_) (fun c4 => ?_)
        · refine j_iload_n 1 dX2_may_33 rfl ?_
          refine j_if_ne (tgt := 45) dX2_may_34 rfl (fun c5 => ?_) (fun c5 => ?_)
          · refine j_iload_n 1 dX2_may_45 rfl ?_
            refine j_bipush 10 dX2_may_46 bp_10 ?_
            refine j_icmp_ne (tgt := 61) dX2_may_48 rfl (fun c6 => ?_) (fun c6 => ?_)
            · refine j_iload_n 2 dX2_may_61 rfl ?_
              refine j_getsN (j := 1) dX2_may_62 rfl sX2_89 ?_
              refine j_iload_n 1 dX2_may_65 rfl ?_
              refine j_ialdS (j := 1) dX2_may_66 rfl (vpin 14 (by decide) (by clear hQ; grind) (by clear hQ; grind)) ?_
              refine j_icmp_lt (tgt := 83) dX2_may_67 rfl (fun c7 => ?_) (fun c7 => ?_)
              · refine j_iconst 0 dX2_may_83 ic_0 ?_
                refine j_zret dX2_may_84 rfl rfl ?_
                exact hQ _ _ ⟨by rw [bI_f (by clear hQ; grind [mayS])], rfl⟩
              · refine j_iload_n 2 dX2_may_70 rfl ?_
                refine j_getsN (j := 2) dX2_may_71 rfl sX2_92 ?_
                refine j_iload_n 1 dX2_may_74 rfl ?_
                refine j_ialdS (j := 2) dX2_may_75 rfl (vpin 14 (by decide) (by clear hQ; grind) (by clear hQ; grind)) ?_
                refine j_icmp_gt (tgt := 83) dX2_may_76 rfl (fun c8 => ?_) (fun c8 => ?_)
                · refine j_iconst 0 dX2_may_83 ic_0 ?_
                  refine j_zret dX2_may_84 rfl rfl ?_
                  exact hQ _ _ ⟨by rw [bI_f (by clear hQ; grind [mayS])], rfl⟩
                · refine j_iconst 1 dX2_may_79 ic_1 ?_
                  refine j_goto (tgt := 84) dX2_may_80 rfl ?_
                  refine j_zret dX2_may_84 rfl rfl ?_
                  exact hQ _ _ ⟨by rw [bI_t (by clear hQ; grind [mayS])], rfl⟩
            · refine j_iload_n 2 dX2_may_51 rfl ?_
              refine j_aload_n 0 dX2_may_52 rfl ?_
              refine j_getv (nI (nT S)) dX2_may_53 fX2_33 (shC hC (sgH hh)) rfl ((hvs hS (by decide)).trans (Sok.T ok).1) ?_
              refine j_icmp_lt (tgt := 61) dX2_may_56 rfl (fun c9 => ?_) (fun c9 => ?_)
              · refine j_iload_n 2 dX2_may_61 rfl ?_
                refine j_getsN (j := 1) dX2_may_62 rfl sX2_89 ?_
                refine j_iload_n 1 dX2_may_65 rfl ?_
                refine j_ialdS (j := 1) dX2_may_66 rfl (vpin 14 (by decide) (by clear hQ; grind) (by clear hQ; grind)) ?_
                refine j_icmp_lt (tgt := 83) dX2_may_67 rfl (fun c10 => ?_) (fun c10 => ?_)
                · refine j_iconst 0 dX2_may_83 ic_0 ?_
                  refine j_zret dX2_may_84 rfl rfl ?_
                  exact hQ _ _ ⟨by rw [bI_f (by clear hQ; grind [mayS])], rfl⟩
                · refine j_iload_n 2 dX2_may_70 rfl ?_
                  refine j_getsN (j := 2) dX2_may_71 rfl sX2_92 ?_
                  refine j_iload_n 1 dX2_may_74 rfl ?_
                  refine j_ialdS (j := 2) dX2_may_75 rfl (vpin 14 (by decide) (by clear hQ; grind) (by clear hQ; grind)) ?_
                  refine j_icmp_gt (tgt := 83) dX2_may_76 rfl (fun c11 => ?_) (fun c11 => ?_)
                  · refine j_iconst 0 dX2_may_83 ic_0 ?_
                    refine j_zret dX2_may_84 rfl rfl ?_
                    exact hQ _ _ ⟨by rw [bI_f (by clear hQ; grind [mayS])], rfl⟩
                  · refine j_iconst 1 dX2_may_79 ic_1 ?_
                    refine j_goto (tgt := 84) dX2_may_80 rfl ?_
                    refine j_zret dX2_may_84 rfl rfl ?_
                    exact hQ _ _ ⟨by rw [bI_t (by clear hQ; grind [mayS])], rfl⟩
              · refine j_iconst 0 dX2_may_59 ic_0 ?_
                refine j_zret dX2_may_60 rfl rfl ?_
                exact hQ _ _ ⟨by rw [bI_f (by clear hQ; grind [mayS])], rfl⟩
          · refine j_iload_n 2 dX2_may_37 rfl ?_
            refine j_aload_n 0 dX2_may_38 rfl ?_
            refine j_getv (S 0 0) dX2_may_39 fX2_9 (shC hC (sgH hh)) rfl (hvs hS (by decide)) ?_
            refine j_icmp_lt (tgt := 59) dX2_may_42 rfl (fun c12 => ?_) (fun c12 => ?_)
            · refine j_iconst 0 dX2_may_59 ic_0 ?_
              refine j_zret dX2_may_60 rfl rfl ?_
              exact hQ _ _ ⟨by rw [bI_f (by clear hQ; grind [mayS])], rfl⟩
            · refine j_iload_n 1 dX2_may_45 rfl ?_
              refine j_bipush 10 dX2_may_46 bp_10 ?_
              refine j_icmp_ne (tgt := 61) dX2_may_48 rfl (fun c13 => ?_) (fun c13 => ?_)
              · refine j_iload_n 2 dX2_may_61 rfl ?_
                refine j_getsN (j := 1) dX2_may_62 rfl sX2_89 ?_
                refine j_iload_n 1 dX2_may_65 rfl ?_
                refine j_ialdS (j := 1) dX2_may_66 rfl (vpin 14 (by decide) (by clear hQ; grind) (by clear hQ; grind)) ?_
                refine j_icmp_lt (tgt := 83) dX2_may_67 rfl (fun c14 => ?_) (fun c14 => ?_)
                · refine j_iconst 0 dX2_may_83 ic_0 ?_
                  refine j_zret dX2_may_84 rfl rfl ?_
                  exact hQ _ _ ⟨by rw [bI_f (by clear hQ; grind [mayS])], rfl⟩
                · refine j_iload_n 2 dX2_may_70 rfl ?_
                  refine j_getsN (j := 2) dX2_may_71 rfl sX2_92 ?_
                  refine j_iload_n 1 dX2_may_74 rfl ?_
                  refine j_ialdS (j := 2) dX2_may_75 rfl (vpin 14 (by decide) (by clear hQ; grind) (by clear hQ; grind)) ?_
                  refine j_icmp_gt (tgt := 83) dX2_may_76 rfl (fun c15 => ?_) (fun c15 => ?_)
                  · refine j_iconst 0 dX2_may_83 ic_0 ?_
                    refine j_zret dX2_may_84 rfl rfl ?_
                    exact hQ _ _ ⟨by rw [bI_f (by clear hQ; grind [mayS])], rfl⟩
                  · refine j_iconst 1 dX2_may_79 ic_1 ?_
                    refine j_goto (tgt := 84) dX2_may_80 rfl ?_
                    refine j_zret dX2_may_84 rfl rfl ?_
                    exact hQ _ _ ⟨by rw [bI_t (by clear hQ; grind [mayS])], rfl⟩
              · refine j_iload_n 2 dX2_may_51 rfl ?_
                refine j_aload_n 0 dX2_may_52 rfl ?_
                refine j_getv (nI (nT S)) dX2_may_53 fX2_33 (shC hC (sgH hh)) rfl ((hvs hS (by decide)).trans (Sok.T ok).1) ?_
                refine j_icmp_lt (tgt := 61) dX2_may_56 rfl (fun c16 => ?_) (fun c16 => ?_)
                · refine j_iload_n 2 dX2_may_61 rfl ?_
                  refine j_getsN (j := 1) dX2_may_62 rfl sX2_89 ?_
                  refine j_iload_n 1 dX2_may_65 rfl ?_
                  refine j_ialdS (j := 1) dX2_may_66 rfl (vpin 14 (by decide) (by clear hQ; grind) (by clear hQ; grind)) ?_
                  refine j_icmp_lt (tgt := 83) dX2_may_67 rfl (fun c17 => ?_) (fun c17 => ?_)
                  · refine j_iconst 0 dX2_may_83 ic_0 ?_
                    refine j_zret dX2_may_84 rfl rfl ?_
                    exact hQ _ _ ⟨by rw [bI_f (by clear hQ; grind [mayS])], rfl⟩
                  · refine j_iload_n 2 dX2_may_70 rfl ?_
                    refine j_getsN (j := 2) dX2_may_71 rfl sX2_92 ?_
                    refine j_iload_n 1 dX2_may_74 rfl ?_
                    refine j_ialdS (j := 2) dX2_may_75 rfl (vpin 14 (by decide) (by clear hQ; grind) (by clear hQ; grind)) ?_
                    refine j_icmp_gt (tgt := 83) dX2_may_76 rfl (fun c18 => ?_) (fun c18 => ?_)
                    · refine j_iconst 0 dX2_may_83 ic_0 ?_
                      refine j_zret dX2_may_84 rfl rfl ?_
                      exact hQ _ _ ⟨by rw [bI_f (by clear hQ; grind [mayS])], rfl⟩
                    · refine j_iconst 1 dX2_may_79 ic_1 ?_
                      refine j_goto (tgt := 84) dX2_may_80 rfl ?_
                      refine j_zret dX2_may_84 rfl rfl ?_
                      exact hQ _ _ ⟨by rw [bI_t (by clear hQ; grind [mayS])], rfl⟩
                · refine j_iconst 0 dX2_may_59 ic_0 ?_
                  refine j_zret dX2_may_60 rfl rfl ?_
                  exact hQ _ _ ⟨by rw [bI_f (by clear hQ; grind [mayS])], rfl⟩
        · refine j_iconst 0 dX2_may_31 ic_0 ?_
          refine j_zret dX2_may_32 rfl rfl ?_
          exact hQ _ _ ⟨by rw [bI_f (by clear hQ; grind [mayS])], rfl⟩
  · refine j_aload_n 0 dX2_may_5 rfl ?_
    refine j_iload_n 2 dX2_may_6 rfl ?_
    refine j_callV (kc := 0) (ks := 0) (a := 0) (b := 0) (d' := d) (As := [.int v]) dX2_may_7 kX2_85 rfl (shC hC (sgH hh)) (by omega) rfl rfl rfl (Nat.le_of_ble_eq_true rfl) (Nat.le_of_ble_eq_true rfl) (T_X2_isCell hC hh hS ok v) (kk_p ?_)
    refine j_zret dX2_may_10 rfl bI_nar ?_
    exact hQ _ _ ⟨by rw [bI_c (q := mayS S z v) (by clear hQ; grind [mayS])], rfl⟩
set_option maxRecDepth 20000 in
set_option maxHeartbeats 4000000 in
theorem T_X2_thingAt {d : Nat} {M : jk_M} {h : Nat} {S : HS} (hC : WC M) (hh : isH h) (hS : hv M.2.1 h = S) (ok : Sok S) (i : Nat) (hi : i < nT S) : J Fr_X2_thingAt d 0 0 0 [(0, .ref h), (1, .int (nI i))] [] M (jk_is (some (.ref (h + 5 + i))) M) := by
  refine j_post (fun Q hQ => ?_)
  have hT := (Sok.T ok).2
  refine j_iload_n 1 dX2_thingAt_0 rfl ?_
  refine j_if_ltN (tgt := 30) i dX2_thingAt_1 (by omega) rfl ?_
  refine j_iload_n 1 dX2_thingAt_4 rfl ?_
  refine j_aload_n 0 dX2_thingAt_5 rfl ?_
  refine j_getv (nI (nT S)) dX2_thingAt_6 fX2_33 (shC hC (sgH hh)) rfl ((hvs hS (by decide)).trans (Sok.T ok).1) ?_
  refine j_icmp_geN (tgt := 30) i (nT S) dX2_thingAt_9 rfl (by omega) (by omega) (fun c2 => ?_) (fun c2 => ?_)
  · refine j_null dX2_thingAt_30 ?_
    refine j_aretN dX2_thingAt_31 rfl ?_
    exfalso; omega
  · refine j_iload_n 1 dX2_thingAt_12 rfl ?_
    refine j_aload_n 0 dX2_thingAt_13 rfl ?_
    refine j_getr (q := (h + 1)) dX2_thingAt_14 fX2_44 (shC hC (sgH hh)) rfl (rfC hC (rfH10 hh) (nzH hh)) ?_
    refine j_alen dX2_thingAt_17 (shC hC (sgH1 hh)) (by decide) ?_
    refine j_icmp_geN (tgt := 30) i 16 dX2_thingAt_18 rfl (by omega) (by omega) (fun c3 => ?_) (fun c3 => ?_)
    · refine j_null dX2_thingAt_30 ?_
      refine j_aretN dX2_thingAt_31 rfl ?_
      exfalso; omega
    · refine j_aload_n 0 dX2_thingAt_21 rfl ?_
      refine j_getr (q := (h + 1)) dX2_thingAt_22 fX2_44 (shC hC (sgH hh)) rfl (rfC hC (rfH10 hh) (nzH hh)) ?_
      refine j_iload_n 1 dX2_thingAt_25 rfl ?_
      refine j_aaldN i (q := (h + 5 + i)) dX2_thingAt_26 (shC hC (sgH1 hh)) (by decide) (by omega) (by omega) (rfC hC (rfHT hh (by omega)) (nzH1 hh)) ?_
      refine j_goto (tgt := 31) dX2_thingAt_27 rfl ?_
      refine j_aret dX2_thingAt_31 rfl ?_
      exact hQ _ _ ⟨rfl, rfl⟩
set_option maxRecDepth 20000 in
set_option maxHeartbeats 4000000 in
theorem T_X2_thingAtN {d : Nat} {M : jk_M} {h : Nat} {S : HS} (hC : WC M) (hh : isH h) (hS : hv M.2.1 h = S) (ok : Sok S) (x : Int32) (hx : ¬ (0 ≤ x ∧ x < nI (nT S))) : J Fr_X2_thingAt d 0 0 0 [(0, .ref h), (1, .int x)] [] M (jk_is (some .null) M) := by
  refine j_post (fun Q hQ => ?_)
  refine j_iload_n 1 dX2_thingAt_0 rfl ?_
  refine j_if_lt (tgt := 30) dX2_thingAt_1 rfl (fun c1 => ?_) (fun c1 => ?_)
  · refine j_null dX2_thingAt_30 ?_
    refine j_aretN dX2_thingAt_31 rfl ?_
    exact hQ _ _ ⟨rfl, rfl⟩
  · refine j_iload_n 1 dX2_thingAt_4 rfl ?_
    refine j_aload_n 0 dX2_thingAt_5 rfl ?_
    refine j_getv (nI (nT S)) dX2_thingAt_6 fX2_33 (shC hC (sgH hh)) rfl ((hvs hS (by decide)).trans (Sok.T ok).1) ?_
    refine j_icmp_ge (tgt := 30) dX2_thingAt_9 rfl (fun c2 => ?_) (fun c2 => ?_)
    · refine j_null dX2_thingAt_30 ?_
      refine j_aretN dX2_thingAt_31 rfl ?_
      exact hQ _ _ ⟨rfl, rfl⟩
    · refine j_iload_n 1 dX2_thingAt_12 rfl ?_
      refine j_aload_n 0 dX2_thingAt_13 rfl ?_
      refine j_getr (q := (h + 1)) dX2_thingAt_14 fX2_44 (shC hC (sgH hh)) rfl (rfC hC (rfH10 hh) (nzH hh)) ?_
      refine j_alen dX2_thingAt_17 (shC hC (sgH1 hh)) (by decide) ?_
      refine j_icmp_ge (tgt := 30) dX2_thingAt_18 rfl (fun c3 => ?_) (fun c3 => ?_)
      · refine j_null dX2_thingAt_30 ?_
        refine j_aretN dX2_thingAt_31 rfl ?_
        exact hQ _ _ ⟨rfl, rfl⟩
      · refine j_aload_n 0 dX2_thingAt_21 rfl ?_
        refine j_getr (q := (h + 1)) dX2_thingAt_22 fX2_44 (shC hC (sgH hh)) rfl (rfC hC (rfH10 hh) (nzH hh)) ?_
        refine j_iload_n 1 dX2_thingAt_25 rfl ?_
        refine j_aald (q := (h + 5 + (x.toNatClampNeg))) dX2_thingAt_26 (shC hC (sgH1 hh)) (by decide) (vpin 16 (by decide) (by clear hQ; grind) (by clear hQ; grind)) (rfC hC (rfHT hh (by exfalso; clear hQ; grind)) (nzH1 hh)) ?_
        refine j_goto (tgt := 31) dX2_thingAt_27 rfl ?_
        refine j_aret dX2_thingAt_31 rfl ?_
        exfalso; clear hQ; grind
set_option maxRecDepth 20000 in
set_option maxHeartbeats 4000000 in
theorem T_X2_deviceAt {d : Nat} {M : jk_M} {h : Nat} {S : HS} (hC : WC M) (hh : isH h) (hS : hv M.2.1 h = S) (ok : Sok S) (i : Nat) (hi : i < nD S) : J Fr_X2_deviceAt d 0 0 0 [(0, .ref h), (1, .int (nI i))] [] M (jk_is (some (.ref (h + 21 + i))) M) := by
  refine j_post (fun Q hQ => ?_)
  have hT := (Sok.D ok).2
  refine j_iload_n 1 dX2_deviceAt_0 rfl ?_
  refine j_if_ltN (tgt := 30) i dX2_deviceAt_1 (by omega) rfl ?_
  refine j_iload_n 1 dX2_deviceAt_4 rfl ?_
  refine j_aload_n 0 dX2_deviceAt_5 rfl ?_
  refine j_getv (nI (nD S)) dX2_deviceAt_6 fX2_39 (shC hC (sgH hh)) rfl ((hvs hS (by decide)).trans (Sok.D ok).1) ?_
  refine j_icmp_geN (tgt := 30) i (nD S) dX2_deviceAt_9 rfl (by omega) (by omega) (fun c2 => ?_) (fun c2 => ?_)
  · refine j_null dX2_deviceAt_30 ?_
    refine j_aretN dX2_deviceAt_31 rfl ?_
    exfalso; omega
  · refine j_iload_n 1 dX2_deviceAt_12 rfl ?_
    refine j_aload_n 0 dX2_deviceAt_13 rfl ?_
    refine j_getr (q := (h + 2)) dX2_deviceAt_14 fX2_50 (shC hC (sgH hh)) rfl (rfC hC (rfH11 hh) (nzH hh)) ?_
    refine j_alen dX2_deviceAt_17 (shC hC (sgH2 hh)) (by decide) ?_
    refine j_icmp_geN (tgt := 30) i 6 dX2_deviceAt_18 rfl (by omega) (by omega) (fun c3 => ?_) (fun c3 => ?_)
    · refine j_null dX2_deviceAt_30 ?_
      refine j_aretN dX2_deviceAt_31 rfl ?_
      exfalso; omega
    · refine j_aload_n 0 dX2_deviceAt_21 rfl ?_
      refine j_getr (q := (h + 2)) dX2_deviceAt_22 fX2_50 (shC hC (sgH hh)) rfl (rfC hC (rfH11 hh) (nzH hh)) ?_
      refine j_iload_n 1 dX2_deviceAt_25 rfl ?_
      refine j_aaldN i (q := (h + 21 + i)) dX2_deviceAt_26 (shC hC (sgH2 hh)) (by decide) (by omega) (by omega) (rfC hC (rfHD hh (by omega)) (nzH2 hh)) ?_
      refine j_goto (tgt := 31) dX2_deviceAt_27 rfl ?_
      refine j_aret dX2_deviceAt_31 rfl ?_
      exact hQ _ _ ⟨rfl, rfl⟩
set_option maxRecDepth 20000 in
set_option maxHeartbeats 4000000 in
theorem T_X2_channelAt {d : Nat} {M : jk_M} {h : Nat} (hC : WC M) (hh : isH h) (i : Nat) (hi : i < 8) : J Fr_X2_channelAt d 0 0 0 [(0, .ref h), (1, .int (nI i))] [] M (jk_is (some (.int (M.2.1 (h + 3) i))) M) := by
  refine j_post (fun Q hQ => ?_)
  refine j_iload_n 1 dX2_channelAt_0 rfl ?_
  refine j_if_ltN (tgt := 22) i dX2_channelAt_1 (by omega) rfl ?_
  refine j_iload_n 1 dX2_channelAt_4 rfl ?_
  refine j_aload_n 0 dX2_channelAt_5 rfl ?_
  refine j_getr (q := (h + 3)) dX2_channelAt_6 fX2_54 (shC hC (sgH hh)) rfl (rfC hC (rfH12 hh) (nzH hh)) ?_
  refine j_alen dX2_channelAt_9 (shC hC (sgH3 hh)) (by decide) ?_
  refine j_icmp_geN (tgt := 22) i 8 dX2_channelAt_10 rfl (by omega) (by omega) (fun c2 => ?_) (fun c2 => ?_)
  · refine j_iconst 0 dX2_channelAt_22 ic_0 ?_
    refine j_iret dX2_channelAt_23 rfl ?_
    exfalso; omega
  · refine j_aload_n 0 dX2_channelAt_13 rfl ?_
    refine j_getr (q := (h + 3)) dX2_channelAt_14 fX2_54 (shC hC (sgH hh)) rfl (rfC hC (rfH12 hh) (nzH hh)) ?_
    refine j_iload_n 1 dX2_channelAt_17 rfl ?_
    refine j_ialdN i dX2_channelAt_18 (shC hC (sgH3 hh)) (by omega) (by omega) ?_
    refine j_goto (tgt := 23) dX2_channelAt_19 rfl ?_
    refine j_iret dX2_channelAt_23 rfl ?_
    exact hQ _ _ ⟨rfl, rfl⟩
set_option maxRecDepth 20000 in
set_option maxHeartbeats 4000000 in
theorem T_X2_noiseAt {d : Nat} {M : jk_M} {h : Nat} (hC : WC M) (hh : isH h) (i : Nat) (hi : i < 8) : J Fr_X2_noiseAt d 0 0 0 [(0, .ref h), (1, .int (nI i))] [] M (jk_is (some (.int (M.2.1 (h + 4) i))) M) := by
  refine j_post (fun Q hQ => ?_)
  refine j_iload_n 1 dX2_noiseAt_0 rfl ?_
  refine j_if_ltN (tgt := 22) i dX2_noiseAt_1 (by omega) rfl ?_
  refine j_iload_n 1 dX2_noiseAt_4 rfl ?_
  refine j_aload_n 0 dX2_noiseAt_5 rfl ?_
  refine j_getr (q := (h + 4)) dX2_noiseAt_6 fX2_58 (shC hC (sgH hh)) rfl (rfC hC (rfH13 hh) (nzH hh)) ?_
  refine j_alen dX2_noiseAt_9 (shC hC (sgH4 hh)) (by decide) ?_
  refine j_icmp_geN (tgt := 22) i 8 dX2_noiseAt_10 rfl (by omega) (by omega) (fun c2 => ?_) (fun c2 => ?_)
  · refine j_iconst 0 dX2_noiseAt_22 ic_0 ?_
    refine j_iret dX2_noiseAt_23 rfl ?_
    exfalso; omega
  · refine j_aload_n 0 dX2_noiseAt_13 rfl ?_
    refine j_getr (q := (h + 4)) dX2_noiseAt_14 fX2_58 (shC hC (sgH hh)) rfl (rfC hC (rfH13 hh) (nzH hh)) ?_
    refine j_iload_n 1 dX2_noiseAt_17 rfl ?_
    refine j_ialdN i dX2_noiseAt_18 (shC hC (sgH4 hh)) (by omega) (by omega) ?_
    refine j_goto (tgt := 23) dX2_noiseAt_19 rfl ?_
    refine j_iret dX2_noiseAt_23 rfl ?_
    exact hQ _ _ ⟨rfl, rfl⟩
theorem T_X2_channelAtS {d : Nat} {M : jk_M} {h : Nat} {S : HS} (hC : WC M) (hh : isH h) (hS : hv M.2.1 h = S) (ok : Sok S) (i : Nat) (hi : i < nN S) : J Fr_X2_channelAt d 0 0 0 [(0, .ref h), (1, .int (nI i))] [] M (jk_is (some (.int (S 14 i))) M) := by
  have e : M.2.1 (h + 3) i = S 14 i := hvN hS hi (k := 0) (by decide)
  rw [← e]
  exact T_X2_channelAt hC hh i (by have := (Sok.N ok).2; omega)
theorem T_X2_noiseAtS {d : Nat} {M : jk_M} {h : Nat} {S : HS} (hC : WC M) (hh : isH h) (hS : hv M.2.1 h = S) (ok : Sok S) (i : Nat) (hi : i < nN S) : J Fr_X2_noiseAt d 0 0 0 [(0, .ref h), (1, .int (nI i))] [] M (jk_is (some (.int (S 15 i))) M) := by
  have e : M.2.1 (h + 4) i = S 15 i := hvN hS hi (k := 1) (by decide)
  rw [← e]
  exact T_X2_noiseAt hC hh i (by have := (Sok.N ok).2; omega)
set_option maxRecDepth 20000 in
set_option maxHeartbeats 4000000 in
theorem T_X2_dinOn {d : Nat} {M : jk_M} {h : Nat} {S : HS} (hC : WC M) (hh : isH h) (hS : hv M.2.1 h = S) (ok : Sok S) (on : Int32) : J Fr_X2_dinOn (d + 1) 0 0 0 [(0, .ref h), (1, .int on)] [] M (jk_is (some (.int (dinS S on))) M) := by
  refine j_post (fun Q hQ => ?_)
  have hT := (Sok.N ok).2
  refine j_iconst 0 dX2_dinOn_0 ic_0 ?_
  refine j_istore_n (L' := [(2, .int 0), (0, .ref h), (1, .int on)]) dX2_dinOn_1 (by decide) rfl ?_
  refine j_iconst 0 dX2_dinOn_2 ic_0 ?_
  refine j_istore_n (L' := [(3, .int 0), (2, .int 0), (0, .ref h), (1, .int on)]) dX2_dinOn_3 (by decide) rfl ?_
  have lp3 : ∀ (k1 : Nat) (i : Nat), nN S - i < k1 → (i ≤ nN S) → J Fr_X2_dinOn (d + 1) 0 0 4 [(0, .ref h), (1, .int on), (2, .int (sm (fun j => noiseO (S 15 j) (S 14 j - on)) i)), (3, .int (nI i))] [] M Q := by
    intro k1
    induction k1 with
    | zero => intro i hk; exact absurd hk (Nat.not_lt_zero _)
    | succ k1 ih2 =>
      intro i hk1 hi
      refine j_iload_n 3 dX2_dinOn_4 rfl ?_
      refine j_aload_n 0 dX2_dinOn_5 rfl ?_
      refine j_getv (nI (nN S)) dX2_dinOn_6 fX2_36 (shC hC (sgH hh)) rfl ((hvs hS (by decide)).trans (Sok.N ok).1) ?_
      refine j_icmp_geN (tgt := 36) i (nN S) dX2_dinOn_9 rfl (by omega) (by omega) (fun c4 => ?_) (fun c4 => ?_)
      · refine j_iload_n 2 dX2_dinOn_36 rfl ?_
        refine j_iret dX2_dinOn_37 rfl ?_
        have e : i = nN S := by omega
        subst e
        exact hQ _ _ ⟨rfl, rfl⟩
      · refine j_iload_n 2 dX2_dinOn_12 rfl ?_
        refine j_aload_n 0 dX2_dinOn_13 rfl ?_
        refine j_iload_n 3 dX2_dinOn_14 rfl ?_
        refine j_callV (kc := 0) (ks := 0) (a := 0) (b := 0) (d' := d) (As := [.int (nI i)]) dX2_dinOn_15 kX2_82 rfl (shC hC (sgH hh)) (by omega) rfl rfl rfl (Nat.le_of_ble_eq_true rfl) (Nat.le_of_ble_eq_true rfl) (T_X2_noiseAtS hC hh hS ok i (by omega)) (kk_p ?_)
        refine j_aload_n 0 dX2_dinOn_18 rfl ?_
        refine j_iload_n 3 dX2_dinOn_19 rfl ?_
        refine j_callV (kc := 0) (ks := 0) (a := 0) (b := 0) (d' := d) (As := [.int (nI i)]) dX2_dinOn_20 kX2_78 rfl (shC hC (sgH hh)) (by omega) rfl rfl rfl (Nat.le_of_ble_eq_true rfl) (Nat.le_of_ble_eq_true rfl) (T_X2_channelAtS hC hh hS ok i (by omega)) (kk_p ?_)
        refine j_iload_n 1 dX2_dinOn_23 rfl ?_
        refine j_isub dX2_dinOn_24 ?_
        refine j_callSN (kc := 0) (ks := 0) (a := 0) (b := 0) (d' := d) (As := [.int (S 15 i), .int ((S 14 i) - on)]) dX2_dinOn_25 kX2_118 rfl (by omega) rfl rfl rfl (Nat.le_of_ble_eq_true rfl) (Nat.le_of_ble_eq_true rfl) (T_X10_noiseOver (S 15 i) ((S 14 i) - on)) (kk_p ?_)
        refine j_iadd dX2_dinOn_28 ?_
        refine j_istore_n (L' := [(2, .int ((sm (fun j => noiseO (S 15 j) (S 14 j - on)) i) + (noiseO (S 15 i) ((S 14 i) - on)))), (0, .ref h), (1, .int on), (3, .int (nI i))]) dX2_dinOn_29 (by decide) rfl ?_
        refine j_iinc 3 (nI (i + 1)) (L' := [(3, .int (nI (i + 1))), (2, .int ((sm (fun j => noiseO (S 15 j) (S 14 j - on)) i) + (noiseO (S 15 i) ((S 14 i) - on)))), (0, .ref h), (1, .int on)]) dX2_dinOn_30 rfl (inc1 i) (by decide) rfl ?_
        refine j_goto (tgt := 4) dX2_dinOn_33 rfl ?_
        exact j_sub (jk_pick [2, 3, 1, 0] rfl) (ih2 (i + 1) (by omega) (by omega))
  exact j_sub (jk_pick [2, 3, 1, 0] rfl) (lp3 _ 0 (Nat.lt_succ_self _) (Nat.zero_le _))
set_option maxRecDepth 20000 in
set_option maxHeartbeats 4000000 in
theorem T_X2_wholeWorth {d : Nat} {M : jk_M} {h : Nat} {S : HS} (hC : WC M) (hh : isH h) (hS : hv M.2.1 h = S) (ok : Sok S) : J Fr_X2_wholeWorth (d + 1) 0 0 0 [(0, .ref h)] [] M (jk_is (some (.int (worthS S))) M) := by
  refine j_post (fun Q hQ => ?_)
  have hT := (Sok.D ok).2
  refine j_iconst 0 dX2_wholeWorth_0 ic_0 ?_
  refine j_istore_n (L' := [(1, .int 0), (0, .ref h)]) dX2_wholeWorth_1 (by decide) rfl ?_
  refine j_iconst 0 dX2_wholeWorth_2 ic_0 ?_
  refine j_istore_n (L' := [(2, .int 0), (1, .int 0), (0, .ref h)]) dX2_wholeWorth_3 (by decide) rfl ?_
  have lp3 : ∀ (k1 : Nat) (i : Nat), nD S - i < k1 → (i ≤ nD S) → J Fr_X2_wholeWorth (d + 1) 0 0 4 [(0, .ref h), (1, .int (sm (fun j => S 18 j) i)), (2, .int (nI i))] [] M Q := by
    intro k1
    induction k1 with
    | zero => intro i hk; exact absurd hk (Nat.not_lt_zero _)
    | succ k1 ih2 =>
      intro i hk1 hi
      refine j_iload_n 2 dX2_wholeWorth_4 rfl ?_
      refine j_aload_n 0 dX2_wholeWorth_5 rfl ?_
      refine j_getv (nI (nD S)) dX2_wholeWorth_6 fX2_39 (shC hC (sgH hh)) rfl ((hvs hS (by decide)).trans (Sok.D ok).1) ?_
      refine j_icmp_geN (tgt := 39) i (nD S) dX2_wholeWorth_9 rfl (by omega) (by omega) (fun c4 => ?_) (fun c4 => ?_)
      · refine j_iload_n 1 dX2_wholeWorth_39 rfl ?_
        refine j_iret dX2_wholeWorth_40 rfl ?_
        have e : i = nD S := by omega
        subst e
        exact hQ _ _ ⟨rfl, rfl⟩
      · refine j_aload_n 0 dX2_wholeWorth_12 rfl ?_
        refine j_iload_n 2 dX2_wholeWorth_13 rfl ?_
        refine j_callV (kc := 0) (ks := 0) (a := 0) (b := 0) (d' := d) (As := [.int (nI i)]) dX2_wholeWorth_14 kX2_71 rfl (shC hC (sgH hh)) (by omega) rfl rfl rfl (Nat.le_of_ble_eq_true rfl) (Nat.le_of_ble_eq_true rfl) (T_X2_deviceAt hC hh hS ok i (by omega)) (kk_p ?_)
        refine j_astore_n (L' := [(3, .ref (h + 21 + i)), (0, .ref h), (1, .int (sm (fun j => S 18 j) i)), (2, .int (nI i))]) dX2_wholeWorth_17 (by decide) rfl ?_
        refine j_iload_n 2 dX2_wholeWorth_18 rfl ?_
        refine j_aload_n 0 dX2_wholeWorth_19 rfl ?_
        refine j_ifnonnull (tgt := 27) dX2_wholeWorth_20 rfl ?_
        refine j_aload_n 0 dX2_wholeWorth_27 rfl ?_
        refine j_getv (S 18 i) dX2_wholeWorth_28 fX2_112 (shC hC (sgHD hh (by have := (Sok.D ok).2; omega))) rfl (hvD hS (by omega) (by decide)) ?_
        refine j_iadd dX2_wholeWorth_31 ?_
        refine j_istore_n (L' := [(1, .int ((sm (fun j => S 18 j) i) + (S 18 i))), (3, .ref (h + 21 + i)), (0, .ref h), (2, .int (nI i))]) dX2_wholeWorth_32 (by decide) rfl ?_
        refine j_iinc 3 (nI (i + 1)) (L' := [(2, .int (nI (i + 1))), (1, .int ((sm (fun j => S 18 j) i) + (S 18 i))), (3, .ref (h + 21 + i)), (0, .ref h)]) dX2_wholeWorth_33 rfl (inc1 i) (by decide) rfl ?_
        refine j_goto (tgt := 4) dX2_wholeWorth_36 rfl ?_
        exact j_sub (jk_pick [3, 1, 0] rfl) (ih2 (i + 1) (by omega) (by omega))
  exact j_sub (jk_pick [2, 1, 0] rfl) (lp3 _ 0 (Nat.lt_succ_self _) (Nat.zero_le _))
