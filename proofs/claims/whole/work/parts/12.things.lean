theorem ab7 : ∀ {k : Int32} {z : Int32} {j : Nat}, itk k j = z → itk k j = z := fun h => h
set_option maxRecDepth 20000 in
set_option maxHeartbeats 4000000 in
theorem T_X9_isOne {d : Nat} {M : jk_M} {a : Nat} {k x z : Int32} (hC : WC M) (sg : jGC[a]? = some (0, 9)) (e0 : M.2.1 a 0 = k) (e1 : M.2.1 a 1 = x) (e3 : M.2.1 a 3 = z) (q : Int32) : J Fr_X9_isOne (d + 1) 0 0 0 [(0, .ref a), (1, .int q)] [] M (jk_is (some (.int (bI (oneK k q)))) M) := by
  refine j_post (fun Q hQ => ?_)
  refine j_aload_n 0 dX9_isOne_0 rfl ?_
  refine j_getv k dX9_isOne_1 fX9_9 (shC hC sg) rfl e0 ?_
  refine j_istore_n (L' := [(2, .int k), (0, .ref a), (1, .int q)]) dX9_isOne_4 (by decide) rfl ?_
  refine j_iconst 0 dX9_isOne_5 ic_0 ?_
  refine j_istore_n (L' := [(3, .int 0), (2, .int k), (0, .ref a), (1, .int q)]) dX9_isOne_6 (by decide) rfl ?_
  have lp3 : ∀ (k1 : Nat) (i : Nat), 7 - i < k1 → (i ≤ 7) → (∀ j, j < i → ¬ itk k j = q) → J Fr_X9_isOne (d + 1) 0 0 7 [(0, .ref a), (1, .int q), (2, .int (itk k i)), (3, .int (nI i))] [] M Q := by
    intro k1
    induction k1 with
    | zero => intro i hk; exact absurd hk (Nat.not_lt_zero _)
    | succ k1 ih2 =>
      intro i hk1 hi hn
      refine j_iload_n 3 dX9_isOne_7 rfl ?_
      refine j_getsN (j := 0) dX9_isOne_8 rfl sX9_25 ?_
      refine j_alenS (j := 0) dX9_isOne_11 rfl ?_
      refine j_topi 7 rfl ?_
      refine j_icmp_geN (tgt := 33) i 7 dX9_isOne_12 rfl (by omega) (by omega) (fun c4 => ?_) (fun c4 => ?_)
      · refine j_iconst 0 dX9_isOne_33 ic_0 ?_
        refine j_zret dX9_isOne_34 rfl rfl ?_
        exact hQ _ _ ⟨by rw [bI_f (fun ⟨j, hj, e⟩ => hn j (by omega) e)], rfl⟩
      · refine j_iload_n 2 dX9_isOne_15 rfl ?_
        refine j_iload_n 1 dX9_isOne_16 rfl ?_
        refine j_icmp_ne (tgt := 22) dX9_isOne_17 rfl (fun c5 => ?_) (fun c5 => ?_)
        · refine j_iload_n 2 dX9_isOne_22 rfl ?_
          refine j_callSN (kc := 0) (ks := 0) (a := 0) (b := 0) (d' := d) (As := [.int (itk k i)]) dX9_isOne_23 kX9_29 rfl (by omega) rfl rfl rfl (Nat.le_of_ble_eq_true rfl) (Nat.le_of_ble_eq_true rfl) (T_X10_kindAbove (itk k i)) (kk_p ?_)
          refine j_istore_n (L' := [(2, .int (kAb (itk k i))), (0, .ref a), (1, .int q), (3, .int (nI i))]) dX9_isOne_26 (by decide) rfl ?_
          refine j_iinc 3 (nI (i + 1)) (L' := [(3, .int (nI (i + 1))), (2, .int (kAb (itk k i))), (0, .ref a), (1, .int q)]) dX9_isOne_27 rfl (inc1 i) (by decide) rfl ?_
          refine j_goto (tgt := 7) dX9_isOne_30 rfl ?_
          exact j_sub (jk_pick [2, 3, 1, 0] rfl) (ih2 (i + 1) (by omega) (by omega) (fun j hj => (Nat.lt_succ_iff_lt_or_eq.mp hj).elim (hn j) (fun e => by rw [e]; exact c5)))
        · refine j_iconst 1 dX9_isOne_20 ic_1 ?_
          refine j_zret dX9_isOne_21 rfl rfl ?_
          exact hQ _ _ ⟨by rw [bI_t ⟨i, by omega, c5⟩], rfl⟩
  exact j_sub (jk_pick [2, 3, 1, 0] rfl) (lp3 _ 0 (Nat.lt_succ_self _) (by omega) (fun j hj => absurd hj (Nat.not_lt_zero j)))
set_option maxRecDepth 20000 in
set_option maxHeartbeats 4000000 in
theorem T_X9_swallows {d : Nat} {M : jk_M} {a : Nat} {k x z : Int32} (hC : WC M) (sg : jGC[a]? = some (0, 9)) (e0 : M.2.1 a 0 = k) (e1 : M.2.1 a 1 = x) (e3 : M.2.1 a 3 = z) : J Fr_X9_swallows d 0 0 0 [(0, .ref a)] [] M (jk_is (some (.int (lossK k x z))) M) := by
  refine j_post (fun Q hQ => ?_)
  refine j_aload_n 0 dX9_swallows_0 rfl ?_
  refine j_getv k dX9_swallows_1 fX9_9 (shC hC sg) rfl e0 ?_
  by_cases c2 : k = 0
  · refine j_tableIn (tgt := 44) dX9_swallows_4 (by rw [c2]; decide) (by rw [c2]; decide) (off := 40) (by rw [c2]; decide) rfl ?_
    refine j_aload_n 0 dX9_swallows_44 rfl ?_
    refine j_getv x dX9_swallows_45 fX9_15 (shC hC sg) rfl e1 ?_
    refine j_iret dX9_swallows_48 rfl ?_
    exact hQ _ _ ⟨by clear hQ; grind [lossK], rfl⟩
  by_cases c3 : k = 1
  · refine j_tableIn (tgt := 49) dX9_swallows_4 (by rw [c3]; decide) (by rw [c3]; decide) (off := 45) (by rw [c3]; decide) rfl ?_
    refine j_aload_n 0 dX9_swallows_49 rfl ?_
    refine j_getv x dX9_swallows_50 fX9_15 (shC hC sg) rfl e1 ?_
    refine j_iconst 3 dX9_swallows_53 ic_3 ?_
    refine j_iadd dX9_swallows_54 ?_
    refine j_iret dX9_swallows_55 rfl ?_
    exact hQ _ _ ⟨by clear hQ; grind [lossK], rfl⟩
  by_cases c4 : k = 2
  · refine j_tableIn (tgt := 65) dX9_swallows_4 (by rw [c4]; decide) (by rw [c4]; decide) (off := 61) (by rw [c4]; decide) rfl ?_
    refine j_aload_n 0 dX9_swallows_65 rfl ?_
    refine j_getv z dX9_swallows_66 fX9_21 (shC hC sg) rfl e3 ?_
    refine j_if_eq (tgt := 79) dX9_swallows_69 rfl (fun c5 => ?_) (fun c5 => ?_)
    · refine j_iconst 0 dX9_swallows_79 ic_0 ?_
      refine j_iret dX9_swallows_80 rfl ?_
      exact hQ _ _ ⟨by clear hQ; grind [lossK], rfl⟩
    · refine j_aload_n 0 dX9_swallows_72 rfl ?_
      refine j_getv x dX9_swallows_73 fX9_15 (shC hC sg) rfl e1 ?_
      refine j_goto (tgt := 80) dX9_swallows_76 rfl ?_
      refine j_iret dX9_swallows_80 rfl ?_
      exact hQ _ _ ⟨by clear hQ; grind [lossK], rfl⟩
  by_cases c6 : k = 3
  · refine j_tableIn (tgt := 56) dX9_swallows_4 (by rw [c6]; decide) (by rw [c6]; decide) (off := 52) (by rw [c6]; decide) rfl ?_
    refine j_iconst 2 dX9_swallows_56 ic_2 ?_
    refine j_aload_n 0 dX9_swallows_57 rfl ?_
    refine j_getv x dX9_swallows_58 fX9_15 (shC hC sg) rfl e1 ?_
    refine j_iconst 3 dX9_swallows_61 ic_3 ?_
    refine j_iadd dX9_swallows_62 ?_
    refine j_imul dX9_swallows_63 ?_
    refine j_iret dX9_swallows_64 rfl ?_
    exact hQ _ _ ⟨by clear hQ; grind [lossK], rfl⟩
  by_cases c7 : k = 4
  · refine j_tableIn (tgt := 99) dX9_swallows_4 (by rw [c7]; decide) (by rw [c7]; decide) (off := 95) (by rw [c7]; decide) rfl ?_
    refine j_iconst 0 dX9_swallows_99 ic_0 ?_
    refine j_iret dX9_swallows_100 rfl ?_
    exact hQ _ _ ⟨by clear hQ; grind [lossK], rfl⟩
  by_cases c8 : k = 5
  · refine j_tableIn (tgt := 81) dX9_swallows_4 (by rw [c8]; decide) (by rw [c8]; decide) (off := 77) (by rw [c8]; decide) rfl ?_
    refine j_aload_n 0 dX9_swallows_81 rfl ?_
    refine j_getv z dX9_swallows_82 fX9_21 (shC hC sg) rfl e3 ?_
    refine j_if_eq (tgt := 97) dX9_swallows_85 rfl (fun c9 => ?_) (fun c9 => ?_)
    · refine j_iconst 0 dX9_swallows_97 ic_0 ?_
      refine j_iret dX9_swallows_98 rfl ?_
      exact hQ _ _ ⟨by clear hQ; grind [lossK], rfl⟩
    · refine j_aload_n 0 dX9_swallows_88 rfl ?_
      refine j_getv x dX9_swallows_89 fX9_15 (shC hC sg) rfl e1 ?_
      refine j_iconst 2 dX9_swallows_92 ic_2 ?_
      refine j_idiv dX9_swallows_93 (by decide) ?_
      refine j_goto (tgt := 98) dX9_swallows_94 rfl ?_
      refine j_iret dX9_swallows_98 rfl ?_
      exact hQ _ _ ⟨by clear hQ; grind [lossK], rfl⟩
  refine j_tableOut (tgt := 99) dX9_swallows_4 (by have q0 := lv_neT c2 (a := 0) (by decide); have q1 := lv_neT c3 (a := 1) (by decide); have q2 := lv_neT c4 (a := 2) (by decide); have q3 := lv_neT c6 (a := 3) (by decide); have q4 := lv_neT c7 (a := 4) (by decide); have q5 := lv_neT c8 (a := 5) (by decide); omega) rfl ?_
  refine j_iconst 0 dX9_swallows_99 ic_0 ?_
  refine j_iret dX9_swallows_100 rfl ?_
  exact hQ _ _ ⟨by clear hQ; grind [lossK], rfl⟩
set_option maxRecDepth 20000 in
set_option maxHeartbeats 4000000 in
theorem T_X9_humsFar {d : Nat} {M : jk_M} {a : Nat} {k x z : Int32} (hC : WC M) (sg : jGC[a]? = some (0, 9)) (e0 : M.2.1 a 0 = k) (e1 : M.2.1 a 1 = x) (e3 : M.2.1 a 3 = z) (st m : Int32) : J Fr_X9_humsFar d 0 0 0 [(0, .ref a), (1, .int st), (2, .int m)] [] M (jk_is (some (.int (humK k x m st))) M) := by
  refine j_post (fun Q hQ => ?_)
  refine j_iconst 0 dX9_humsFar_0 ic_0 ?_
  refine j_istore_n (L' := [(3, .int 0), (0, .ref a), (1, .int st), (2, .int m)]) dX9_humsFar_1 (by decide) rfl ?_
  refine j_aload_n 1 dX9_humsFar_2 rfl ?_
  refine j_getv k dX9_humsFar_3 fX9_9 (shC hC sg) rfl e0 ?_
  refine j_iconst 4 dX9_humsFar_6 ic_4 ?_
  refine j_icmp_ne (tgt := 24) dX9_humsFar_7 rfl (fun c1 => ?_) (fun c1 => ?_)
  · refine j_aload_n 1 dX9_humsFar_24 rfl ?_
    refine j_getv k dX9_humsFar_25 fX9_9 (shC hC sg) rfl e0 ?_
    refine j_bipush 6 dX9_humsFar_28 bp_6 ?_
    refine j_icmp_ne (tgt := 36) dX9_humsFar_30 rfl (fun c2 => ?_) (fun c2 => ?_)
    · refine j_iconst 0 dX9_humsFar_36 ic_0 ?_
      refine j_iload_n 0 dX9_humsFar_37 rfl ?_
      refine j_iconst 5 dX9_humsFar_38 ic_5 ?_
      refine j_iload_n 2 dX9_humsFar_39 rfl ?_
      refine j_imul dX9_humsFar_40 ?_
      refine j_isub dX9_humsFar_41 ?_
      refine j_max dX9_humsFar_42 mX9_33 mt_max.1 mt_max.2.1 mt_max.2.2 (Nat.le_of_ble_eq_true rfl) ?_
      refine j_iret dX9_humsFar_45 rfl ?_
      exact hQ _ _ ⟨by clear hQ; unfold humK jmax; grind, rfl⟩
    · refine j_bipush 10 dX9_humsFar_33 bp_10 ?_
      refine j_istore_n (L' := [(3, .int 10), (0, .ref a), (1, .int st), (2, .int m)]) dX9_humsFar_35 (by decide) rfl ?_
      refine j_iconst 0 dX9_humsFar_36 ic_0 ?_
      refine j_iload_n 0 dX9_humsFar_37 rfl ?_
      refine j_iconst 5 dX9_humsFar_38 ic_5 ?_
      refine j_iload_n 2 dX9_humsFar_39 rfl ?_
      refine j_imul dX9_humsFar_40 ?_
      refine j_isub dX9_humsFar_41 ?_
      refine j_max dX9_humsFar_42 mX9_33 mt_max.1 mt_max.2.1 mt_max.2.2 (Nat.le_of_ble_eq_true rfl) ?_
      refine j_iret dX9_humsFar_45 rfl ?_
      exact hQ _ _ ⟨by clear hQ; unfold humK jmax; grind, rfl⟩
  · refine j_iload_n 3 dX9_humsFar_10 rfl ?_
    refine j_bipush 10 dX9_humsFar_11 bp_10 ?_
    refine j_irem dX9_humsFar_13 (by decide) ?_
    refine j_aload_n 1 dX9_humsFar_14 rfl ?_
    refine j_getv x dX9_humsFar_15 fX9_15 (shC hC sg) rfl e1 ?_
    refine j_icmp_ge (tgt := 24) dX9_humsFar_18 rfl (fun c3 => ?_) (fun c3 => ?_)
    · refine j_aload_n 1 dX9_humsFar_24 rfl ?_
      refine j_getv k dX9_humsFar_25 fX9_9 (shC hC sg) rfl e0 ?_
      refine j_bipush 6 dX9_humsFar_28 bp_6 ?_
      refine j_icmp_ne (tgt := 36) dX9_humsFar_30 rfl (fun c4 => ?_) (fun c4 => ?_)
      · refine j_iconst 0 dX9_humsFar_36 ic_0 ?_
        refine j_iload_n 0 dX9_humsFar_37 rfl ?_
        refine j_iconst 5 dX9_humsFar_38 ic_5 ?_
        refine j_iload_n 2 dX9_humsFar_39 rfl ?_
        refine j_imul dX9_humsFar_40 ?_
        refine j_isub dX9_humsFar_41 ?_
        refine j_max dX9_humsFar_42 mX9_33 mt_max.1 mt_max.2.1 mt_max.2.2 (Nat.le_of_ble_eq_true rfl) ?_
        refine j_iret dX9_humsFar_45 rfl ?_
        exact hQ _ _ ⟨by clear hQ; unfold humK jmax; grind, rfl⟩
      · refine j_bipush 10 dX9_humsFar_33 bp_10 ?_
        refine j_istore_n (L' := [(3, .int 10), (0, .ref a), (1, .int st), (2, .int m)]) dX9_humsFar_35 (by decide) rfl ?_
        refine j_iconst 0 dX9_humsFar_36 ic_0 ?_
        refine j_iload_n 0 dX9_humsFar_37 rfl ?_
        refine j_iconst 5 dX9_humsFar_38 ic_5 ?_
        refine j_iload_n 2 dX9_humsFar_39 rfl ?_
        refine j_imul dX9_humsFar_40 ?_
        refine j_isub dX9_humsFar_41 ?_
        refine j_max dX9_humsFar_42 mX9_33 mt_max.1 mt_max.2.1 mt_max.2.2 (Nat.le_of_ble_eq_true rfl) ?_
        refine j_iret dX9_humsFar_45 rfl ?_
        exact hQ _ _ ⟨by clear hQ; unfold humK jmax; grind, rfl⟩
    · refine j_bipush 20 dX9_humsFar_21 bp_20 ?_
      refine j_istore_n (L' := [(3, .int 20), (0, .ref a), (1, .int st), (2, .int m)]) dX9_humsFar_23 (by decide) rfl ?_
      refine j_aload_n 1 dX9_humsFar_24 rfl ?_
      refine j_getv k dX9_humsFar_25 fX9_9 (shC hC sg) rfl e0 ?_
      refine j_bipush 6 dX9_humsFar_28 bp_6 ?_
      refine j_icmp_ne (tgt := 36) dX9_humsFar_30 rfl (fun c5 => ?_) (fun c5 => ?_)
      · refine j_iconst 0 dX9_humsFar_36 ic_0 ?_
        refine j_iload_n 0 dX9_humsFar_37 rfl ?_
        refine j_iconst 5 dX9_humsFar_38 ic_5 ?_
        refine j_iload_n 2 dX9_humsFar_39 rfl ?_
        refine j_imul dX9_humsFar_40 ?_
        refine j_isub dX9_humsFar_41 ?_
        refine j_max dX9_humsFar_42 mX9_33 mt_max.1 mt_max.2.1 mt_max.2.2 (Nat.le_of_ble_eq_true rfl) ?_
        refine j_iret dX9_humsFar_45 rfl ?_
        exact hQ _ _ ⟨by clear hQ; unfold humK jmax; grind, rfl⟩
      · refine j_bipush 10 dX9_humsFar_33 bp_10 ?_
        refine j_istore_n (L' := [(3, .int 10), (0, .ref a), (1, .int st), (2, .int m)]) dX9_humsFar_35 (by decide) rfl ?_
        refine j_iconst 0 dX9_humsFar_36 ic_0 ?_
        refine j_iload_n 0 dX9_humsFar_37 rfl ?_
        refine j_iconst 5 dX9_humsFar_38 ic_5 ?_
        refine j_iload_n 2 dX9_humsFar_39 rfl ?_
        refine j_imul dX9_humsFar_40 ?_
        refine j_isub dX9_humsFar_41 ?_
        refine j_max dX9_humsFar_42 mX9_33 mt_max.1 mt_max.2.1 mt_max.2.2 (Nat.le_of_ble_eq_true rfl) ?_
        refine j_iret dX9_humsFar_45 rfl ?_
        exact hQ _ _ ⟨by clear hQ; unfold humK jmax; grind, rfl⟩
set_option maxRecDepth 20000 in
set_option maxHeartbeats 4000000 in
theorem T_X9_become {d : Nat} {M : jk_M} {a b : Nat} (hC : WC M) (sg : jGC[a]? = some (0, 9)) (sgb : jGC[b]? = some (0, 9)) (hab : b ≠ a) (hz : M.2.1 b 3 = 0 ∨ M.2.1 b 3 = 1) : J Fr_X9_become d 0 0 0 [(0, .ref a), (1, .ref b)] [] M (jk_is none (jk_w4 M a (M.2.1 b 0) (M.2.1 b 1) (M.2.1 b 2) (M.2.1 b 3))) := by
  refine j_post (fun Q hQ => ?_)
  refine j_aload_n 1 dX9_become_0 rfl ?_
  refine j_ifnonnull (tgt := 5) dX9_become_1 rfl ?_
  refine j_aload_n 0 dX9_become_5 rfl ?_
  refine j_aload_n 1 dX9_become_6 rfl ?_
  refine j_getv (M.2.1 b 0) dX9_become_7 fX9_9 (shC hC sgb) rfl rfl ?_
  refine j_put dX9_become_10 fX9_9 (shC hC sg) rfl ?_
  refine j_aload_n 0 dX9_become_13 rfl ?_
  refine j_aload_n 1 dX9_become_14 rfl ?_
  refine j_getv (M.2.1 b 1) dX9_become_15 fX9_15 (shC hC sgb) rfl (by simp [jk_wI, va_up, hab]) ?_
  refine j_put dX9_become_18 fX9_15 (shC hC sg) rfl ?_
  refine j_aload_n 0 dX9_become_21 rfl ?_
  refine j_aload_n 1 dX9_become_22 rfl ?_
  refine j_getv (M.2.1 b 2) dX9_become_23 fX9_18 (shC hC sgb) rfl (by simp [jk_wI, va_up, hab]) ?_
  refine j_put dX9_become_26 fX9_18 (shC hC sg) rfl ?_
  refine j_aload_n 0 dX9_become_29 rfl ?_
  refine j_aload_n 1 dX9_become_30 rfl ?_
  refine j_getv (M.2.1 b 3) dX9_become_31 fX9_21 (shC hC sgb) rfl (by simp [jk_wI, va_up, hab]) ?_
  refine j_putz dX9_become_34 fX9_21 (shC hC sg) rfl hz ?_
  refine j_vret dX9_become_37 rfl ?_
  exact hQ _ _ ⟨rfl, rfl⟩
set_option maxRecDepth 20000 in
set_option maxHeartbeats 4000000 in
theorem T_X1_become {d : Nat} {M : jk_M} {a b : Nat} (hC : WC M) (sg : jGC[a]? = some (0, 1)) (sgb : jGC[b]? = some (0, 1)) (hab : b ≠ a) (hz : M.2.1 b 3 = 0 ∨ M.2.1 b 3 = 1) : J Fr_X1_become d 0 0 0 [(0, .ref a), (1, .ref b)] [] M (jk_is none (jk_w4 M a (M.2.1 b 0) (M.2.1 b 1) (M.2.1 b 2) (M.2.1 b 3))) := by
  refine j_post (fun Q hQ => ?_)
  refine j_aload_n 1 dX1_become_0 rfl ?_
  refine j_ifnonnull (tgt := 5) dX1_become_1 rfl ?_
  refine j_aload_n 0 dX1_become_5 rfl ?_
  refine j_aload_n 1 dX1_become_6 rfl ?_
  refine j_getv (M.2.1 b 0) dX1_become_7 fX1_7 (shC hC sgb) rfl rfl ?_
  refine j_put dX1_become_10 fX1_7 (shC hC sg) rfl ?_
  refine j_aload_n 0 dX1_become_13 rfl ?_
  refine j_aload_n 1 dX1_become_14 rfl ?_
  refine j_getv (M.2.1 b 1) dX1_become_15 fX1_13 (shC hC sgb) rfl (by simp [jk_wI, va_up, hab]) ?_
  refine j_put dX1_become_18 fX1_13 (shC hC sg) rfl ?_
  refine j_aload_n 0 dX1_become_21 rfl ?_
  refine j_aload_n 1 dX1_become_22 rfl ?_
  refine j_getv (M.2.1 b 2) dX1_become_23 fX1_16 (shC hC sgb) rfl (by simp [jk_wI, va_up, hab]) ?_
  refine j_put dX1_become_26 fX1_16 (shC hC sg) rfl ?_
  refine j_aload_n 0 dX1_become_29 rfl ?_
  refine j_aload_n 1 dX1_become_30 rfl ?_
  refine j_getv (M.2.1 b 3) dX1_become_31 fX1_19 (shC hC sgb) rfl (by simp [jk_wI, va_up, hab]) ?_
  refine j_put dX1_become_34 fX1_19 (shC hC sg) rfl ?_
  refine j_vret dX1_become_37 rfl ?_
  exact hQ _ _ ⟨rfl, rfl⟩
