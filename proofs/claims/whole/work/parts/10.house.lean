theorem jk_out {lo hi : Int} {x : Int32} (h : ¬ (lo ≤ x.toInt ∧ x.toInt ≤ hi)) : x.toInt < lo ∨ hi < x.toInt := by omega
set_option maxRecDepth 20000 in
set_option maxHeartbeats 4000000 in
theorem T_X10_isPlace {d : Nat} {M : jk_M} (c : Int32) : J Fr_X10_isPlace d 0 0 0 [(0, .int c)] [] M (jk_is (some (.int (bI (isP c)))) M) := by
  refine j_post (fun Q hQ => ?_)
  refine j_iload_n 0 dX10_isPlace_0 rfl ?_
  refine j_if_lt (tgt := 14) dX10_isPlace_1 rfl (fun c1 => ?_) (fun c1 => ?_)
  · refine j_iconst 0 dX10_isPlace_14 ic_0 ?_
    refine j_zret dX10_isPlace_15 rfl rfl ?_
    exact hQ _ _ ⟨by rw [bI_f (by clear hQ; grind [isP])], rfl⟩
  · refine j_iload_n 0 dX10_isPlace_4 rfl ?_
    refine j_bipush 80 dX10_isPlace_5 bp_80 ?_
    refine j_icmp_ge (tgt := 14) dX10_isPlace_7 rfl (fun c2 => ?_) (fun c2 => ?_)
    · refine j_iconst 0 dX10_isPlace_14 ic_0 ?_
      refine j_zret dX10_isPlace_15 rfl rfl ?_
      exact hQ _ _ ⟨by rw [bI_f (by clear hQ; grind [isP])], rfl⟩
    · refine j_iconst 1 dX10_isPlace_10 ic_1 ?_
      refine j_goto (tgt := 15) dX10_isPlace_11 rfl ?_
      refine j_zret dX10_isPlace_15 rfl rfl ?_
      exact hQ _ _ ⟨by rw [bI_t (by clear hQ; grind [isP])], rfl⟩
set_option maxRecDepth 20000 in
set_option maxHeartbeats 4000000 in
theorem T_X10_barsBy {d : Nat} {M : jk_M} (x : Int32) : J Fr_X10_barsBy d 0 0 0 [(0, .int x)] [] M (jk_is (some (.int (barsBy x))) M) := by
  refine j_post (fun Q hQ => ?_)
  refine j_iconst 5 dX10_barsBy_0 ic_5 ?_
  refine j_iload_n 0 dX10_barsBy_1 rfl ?_
  refine j_bipush 10 dX10_barsBy_2 bp_10 ?_
  refine j_idiv dX10_barsBy_4 (by decide) ?_
  refine j_min dX10_barsBy_5 mX10_318 mt_min.1 mt_min.2.1 mt_min.2.2 (Nat.le_of_ble_eq_true rfl) ?_
  refine j_iret dX10_barsBy_8 rfl ?_
  exact hQ _ _ ⟨rfl, rfl⟩
set_option maxRecDepth 20000 in
set_option maxHeartbeats 4000000 in
theorem T_X10_noiseOver {d : Nat} {M : jk_M} (n f : Int32) : J Fr_X10_noiseOver d 0 0 0 [(0, .int n), (1, .int f)] [] M (jk_is (some (.int (noiseO n f))) M) := by
  refine j_post (fun Q hQ => ?_)
  refine j_iload_n 0 dX10_noiseOver_0 rfl ?_
  refine j_iconst 0 dX10_noiseOver_1 ic_0 ?_
  refine j_iconst 5 dX10_noiseOver_2 ic_5 ?_
  refine j_iload_n 1 dX10_noiseOver_3 rfl ?_
  refine j_abs dX10_noiseOver_4 mX10_388 mt_abs.1 mt_abs.2.1 mt_abs.2.2 (Nat.le_of_ble_eq_true rfl) ?_
  refine j_isub dX10_noiseOver_7 ?_
  refine j_max dX10_noiseOver_8 mX10_240 mt_max.1 mt_max.2.1 mt_max.2.2 (Nat.le_of_ble_eq_true rfl) ?_
  refine j_imul dX10_noiseOver_11 ?_
  refine j_iconst 5 dX10_noiseOver_12 ic_5 ?_
  refine j_idiv dX10_noiseOver_13 (by decide) ?_
  refine j_iret dX10_noiseOver_14 rfl ?_
  exact hQ _ _ ⟨rfl, rfl⟩
set_option maxRecDepth 20000 in
set_option maxHeartbeats 4000000 in
theorem T_X10_stepsFar {d : Nat} {M : jk_M} (c e : Int32) : J Fr_X10_stepsFar d 0 0 0 [(0, .int c), (1, .int e)] [] M (jk_is (some (.int (sfar c e))) M) := by
  refine j_post (fun Q hQ => ?_)
  refine j_iload_n 0 dX10_stepsFar_0 rfl ?_
  refine j_bipush 10 dX10_stepsFar_1 bp_10 ?_
  refine j_idiv dX10_stepsFar_3 (by decide) ?_
  refine j_iload_n 1 dX10_stepsFar_4 rfl ?_
  refine j_bipush 10 dX10_stepsFar_5 bp_10 ?_
  refine j_idiv dX10_stepsFar_7 (by decide) ?_
  refine j_isub dX10_stepsFar_8 ?_
  refine j_abs dX10_stepsFar_9 mX10_388 mt_abs.1 mt_abs.2.1 mt_abs.2.2 (Nat.le_of_ble_eq_true rfl) ?_
  refine j_iload_n 0 dX10_stepsFar_12 rfl ?_
  refine j_bipush 10 dX10_stepsFar_13 bp_10 ?_
  refine j_irem dX10_stepsFar_15 (by decide) ?_
  refine j_iload_n 1 dX10_stepsFar_16 rfl ?_
  refine j_bipush 10 dX10_stepsFar_17 bp_10 ?_
  refine j_irem dX10_stepsFar_19 (by decide) ?_
  refine j_isub dX10_stepsFar_20 ?_
  refine j_abs dX10_stepsFar_21 mX10_388 mt_abs.1 mt_abs.2.1 mt_abs.2.2 (Nat.le_of_ble_eq_true rfl) ?_
  refine j_iadd dX10_stepsFar_24 ?_
  refine j_iret dX10_stepsFar_25 rfl ?_
  exact hQ _ _ ⟨rfl, rfl⟩
set_option maxRecDepth 20000 in
set_option maxHeartbeats 4000000 in
theorem T_X2_isCell {d : Nat} {M : jk_M} {h : Nat} {S : HS} (hC : WC M) (hh : isH h) (hS : hv M.2.1 h = S) (ok : Sok S) (c : Int32) : J Fr_X2_isCell d 0 0 0 [(0, .ref h), (1, .int c)] [] M (jk_is (some (.int (bI (isC S c)))) M) := by
  refine j_post (fun Q hQ => ?_)
  refine j_iload_n 1 dX2_isCell_0 rfl ?_
  refine j_if_lt (tgt := 30) dX2_isCell_1 rfl (fun c1 => ?_) (fun c1 => ?_)
  · refine j_iconst 0 dX2_isCell_30 ic_0 ?_
    refine j_zret dX2_isCell_31 rfl rfl ?_
    exact hQ _ _ ⟨by rw [bI_f (by clear hQ; grind [isC])], rfl⟩
  · refine j_iload_n 1 dX2_isCell_4 rfl ?_
    refine j_bipush 10 dX2_isCell_5 bp_10 ?_
    refine j_idiv dX2_isCell_7 (by decide) ?_
    refine j_aload_n 0 dX2_isCell_8 rfl ?_
    refine j_getv (S 0 0) dX2_isCell_9 fX2_9 (shC hC (sgH hh)) rfl (hvs hS (by decide)) ?_
    refine j_icmp_ge (tgt := 30) dX2_isCell_12 rfl (fun c2 => ?_) (fun c2 => ?_)
    · refine j_iconst 0 dX2_isCell_30 ic_0 ?_
      refine j_zret dX2_isCell_31 rfl rfl ?_
      exact hQ _ _ ⟨by rw [bI_f (by clear hQ; grind [isC])], rfl⟩
    · refine j_iload_n 1 dX2_isCell_15 rfl ?_
      refine j_bipush 10 dX2_isCell_16 bp_10 ?_
      refine j_irem dX2_isCell_18 (by decide) ?_
      refine j_aload_n 0 dX2_isCell_19 rfl ?_
      refine j_getv (S 0 0) dX2_isCell_20 fX2_9 (shC hC (sgH hh)) rfl (hvs hS (by decide)) ?_
      refine j_icmp_ge (tgt := 30) dX2_isCell_23 rfl (fun c3 => ?_) (fun c3 => ?_)
      · refine j_iconst 0 dX2_isCell_30 ic_0 ?_
        refine j_zret dX2_isCell_31 rfl rfl ?_
        exact hQ _ _ ⟨by rw [bI_f (by clear hQ; grind [isC])], rfl⟩
      · refine j_iconst 1 dX2_isCell_26 ic_1 ?_
        refine j_goto (tgt := 31) dX2_isCell_27 rfl ?_
        refine j_zret dX2_isCell_31 rfl rfl ?_
        exact hQ _ _ ⟨by rw [bI_t (by clear hQ; grind [isC])], rfl⟩
set_option maxRecDepth 20000 in
set_option maxHeartbeats 4000000 in
theorem T_X2_placeOf {d : Nat} {M : jk_M} {h : Nat} {S : HS} (hC : WC M) (hh : isH h) (hS : hv M.2.1 h = S) (ok : Sok S) (b : Int32) : J Fr_X2_placeOf d 0 0 0 [(0, .ref h), (1, .int b)] [] M (jk_is (some (.int (if b = 0 then S 5 0 else S 6 0))) M) := by
  refine j_post (fun Q hQ => ?_)
  refine j_iload_n 1 dX2_placeOf_0 rfl ?_
  refine j_if_ne (tgt := 11) dX2_placeOf_1 rfl (fun c1 => ?_) (fun c1 => ?_)
  · refine j_aload_n 0 dX2_placeOf_11 rfl ?_
    refine j_getv (S 6 0) dX2_placeOf_12 fX2_30 (shC hC (sgH hh)) rfl (hvs hS (by decide)) ?_
    refine j_iret dX2_placeOf_15 rfl ?_
    exact hQ _ _ ⟨by simp [c1], rfl⟩
  · refine j_aload_n 0 dX2_placeOf_4 rfl ?_
    refine j_getv (S 5 0) dX2_placeOf_5 fX2_27 (shC hC (sgH hh)) rfl (hvs hS (by decide)) ?_
    refine j_goto (tgt := 15) dX2_placeOf_8 rfl ?_
    refine j_iret dX2_placeOf_15 rfl ?_
    exact hQ _ _ ⟨by simp [c1], rfl⟩
