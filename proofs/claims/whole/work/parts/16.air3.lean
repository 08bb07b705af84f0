theorem T_X0_humAtP {d : Nat} {M : jk_M} {a h : Nat} {S : HS} (hC : WC M) (x : isA a h) (hS : hv M.2.1 h = S) (ok : Sok S) (ha : AirOK a S M) (c : Int32) (hc : isP c) : J Fr_X0_humAt (d + 1) 0 0 0 [(0, .ref a), (1, .int c)] [] M (jk_ex (some (.int (humC S c))) (fun M1 => Sm (fun q => q = a + 4) M M1 ∧ AirOK a S M1)) := by
  obtain ⟨e, hl⟩ := isP_nat hc
  rw [e]
  exact T_X0_humAt hC x hS ok ha _ hl
set_option maxRecDepth 20000 in
set_option maxHeartbeats 4000000 in
theorem T_X0_along {d : Nat} {M : jk_M} {a b h : Nat} {V K : Nat → Int32} (hC : WC M) (x : isA a h) (sgb : jGC[b]? = some (1, 80)) (hV : ∀ c, c < 80 → M.2.1 b c = V c) (hL : ∀ c, c < 80 → M.2.1 (a + 1) c = K c) (f t : Int32) : J Fr_X0_along (d + 1) 0 0 0 [(0, .ref a), (1, .ref b), (2, .int f), (3, .int t)] [] M (jk_is (some (.int (alng V K f t))) M) := by
  refine j_post (fun Q hQ => ?_)
  refine j_iload_n 2 dX0_along_0 rfl ?_
  refine j_callSN (kc := 0) (ks := 0) (a := 0) (b := 0) (d' := d) (As := [.int f]) dX0_along_1 kX0_68 rfl (by omega) rfl rfl rfl (Nat.le_of_ble_eq_true rfl) (Nat.le_of_ble_eq_true rfl) (T_X10_isPlace f) (kk_p ?_)
  refine j_if_eqB (p := (isP f)) (tgt := 14) dX0_along_4 rfl (fun c1 => ?_) (fun c1 => ?_)
  · refine j_iconst 0 dX0_along_14 ic_0 ?_
    refine j_iret dX0_along_15 rfl ?_
    exact hQ _ _ ⟨by rw [alng_z (by first | exact Or.inl (by assumption) | exact Or.inr (by assumption))], rfl⟩
  · refine j_iload_n 3 dX0_along_7 rfl ?_
    refine j_callSN (kc := 0) (ks := 0) (a := 0) (b := 0) (d' := d) (As := [.int t]) dX0_along_8 kX0_68 rfl (by omega) rfl rfl rfl (Nat.le_of_ble_eq_true rfl) (Nat.le_of_ble_eq_true rfl) (T_X10_isPlace t) (kk_p ?_)
    refine j_if_neB (p := (isP t)) (tgt := 16) dX0_along_11 rfl (fun c2 => ?_) (fun c2 => ?_)
    · refine j_iload_n 3 dX0_along_16 rfl ?_
      refine j_iload_n 2 dX0_along_17 rfl ?_
      refine j_icmp_le (tgt := 29) dX0_along_18 rfl (fun c3 => ?_) (fun c3 => ?_)
      · refine j_aload_n 1 dX0_along_29 rfl ?_
        refine j_iload_n 2 dX0_along_30 rfl ?_
        refine j_iald dX0_along_31 (shC hC sgb) (isP_in (c := f) (by assumption)) ?_
        refine j_aload_n 0 dX0_along_32 rfl ?_
        refine j_getr (q := (a + 1)) dX0_along_33 fX0_9 (shC hC (sgA x)) rfl (rfC hC (rfA1 x) (nzA x)) ?_
        refine j_iload_n 2 dX0_along_36 rfl ?_
        refine j_iald dX0_along_37 (shC hC (sgA1 x)) (isP_in (c := f) (by assumption)) ?_
        refine j_isub dX0_along_38 ?_
        refine j_aload_n 1 dX0_along_39 rfl ?_
        refine j_iload_n 3 dX0_along_40 rfl ?_
        refine j_iald dX0_along_41 (shC hC sgb) (isP_in (c := t) (by assumption)) ?_
        refine j_isub dX0_along_42 ?_
        refine j_aload_n 0 dX0_along_43 rfl ?_
        refine j_getr (q := (a + 1)) dX0_along_44 fX0_9 (shC hC (sgA x)) rfl (rfC hC (rfA1 x) (nzA x)) ?_
        refine j_iload_n 3 dX0_along_47 rfl ?_
        refine j_iald dX0_along_48 (shC hC (sgA1 x)) (isP_in (c := t) (by assumption)) ?_
        refine j_iadd dX0_along_49 ?_
        refine j_iret dX0_along_50 rfl ?_
        have pf : isP f := by assumption
        have pt : isP t := by assumption
        have vf := hV _ (isP_nat pf).2
        have vt := hV _ (isP_nat pt).2
        have lf := hL _ (isP_nat pf).2
        have lt := hL _ (isP_nat pt).2
        exact hQ _ _ ⟨by rw [alng_n pf pt, if_neg (Int32.not_lt.mpr c3), ← vf, ← vt, ← lf, ← lt], rfl⟩
      · refine j_aload_n 1 dX0_along_21 rfl ?_
        refine j_iload_n 3 dX0_along_22 rfl ?_
        refine j_iald dX0_along_23 (shC hC sgb) (isP_in (c := t) (by assumption)) ?_
        refine j_aload_n 1 dX0_along_24 rfl ?_
        refine j_iload_n 2 dX0_along_25 rfl ?_
        refine j_iald dX0_along_26 (shC hC sgb) (isP_in (c := f) (by assumption)) ?_
        refine j_isub dX0_along_27 ?_
        refine j_iret dX0_along_28 rfl ?_
        have pf : isP f := by assumption
        have pt : isP t := by assumption
        have vf := hV _ (isP_nat pf).2
        have vt := hV _ (isP_nat pt).2
        have lf := hL _ (isP_nat pf).2
        have lt := hL _ (isP_nat pt).2
        exact hQ _ _ ⟨by rw [alng_n pf pt, if_pos (Int32.not_le.mp c3), ← vf, ← vt], rfl⟩
    · refine j_iconst 0 dX0_along_14 ic_0 ?_
      refine j_iret dX0_along_15 rfl ?_
      exact hQ _ _ ⟨by rw [alng_z (by first | exact Or.inl (by assumption) | exact Or.inr (by assumption))], rfl⟩
set_option maxRecDepth 20000 in
set_option maxHeartbeats 4000000 in
theorem T_X0_wayLoss {d : Nat} {M : jk_M} {a h : Nat} {S : HS} (hC : WC M) (x : isA a h) (hS : hv M.2.1 h = S) (ok : Sok S) (ha : AirOK a S M) (f t : Int32) : J Fr_X0_wayLoss (d + 2) 0 0 0 [(0, .ref a), (1, .int f), (2, .int t)] [] M (jk_is (some (.int (wayS S f t))) M) := by
  refine j_post (fun Q hQ => ?_)
  refine j_iload_n 1 dX0_wayLoss_0 rfl ?_
  refine j_bipush 10 dX0_wayLoss_1 bp_10 ?_
  refine j_idiv dX0_wayLoss_3 (by decide) ?_
  refine j_bipush 10 dX0_wayLoss_4 bp_10 ?_
  refine j_imul dX0_wayLoss_6 ?_
  refine j_iload_n 2 dX0_wayLoss_7 rfl ?_
  refine j_bipush 10 dX0_wayLoss_8 bp_10 ?_
  refine j_irem dX0_wayLoss_10 (by decide) ?_
  refine j_iadd dX0_wayLoss_11 ?_
  refine j_istore_n (L' := [(3, .int (((f / 10) * 10) + (t - t / 10 * 10))), (0, .ref a), (1, .int f), (2, .int t)]) dX0_wayLoss_12 (by decide) rfl ?_
  refine j_iload_n 3 dX0_wayLoss_13 rfl ?_
  refine j_bipush 10 dX0_wayLoss_14 bp_10 ?_
  refine j_idiv dX0_wayLoss_16 (by decide) ?_
  refine j_bipush 10 dX0_wayLoss_17 bp_10 ?_
  refine j_imul dX0_wayLoss_19 ?_
  refine j_iload_n 2 dX0_wayLoss_20 rfl ?_
  refine j_bipush 10 dX0_wayLoss_21 bp_10 ?_
  refine j_irem dX0_wayLoss_23 (by decide) ?_
  refine j_iadd dX0_wayLoss_24 ?_
  refine j_istore (L' := [(4, .int (((t / 10) * 10) + (f - f / 10 * 10))), (3, .int (((f / 10) * 10) + (t - t / 10 * 10))), (0, .ref a), (1, .int f), (2, .int t)]) dX0_wayLoss_25 (by decide) rfl ?_
  refine j_aload_n 2 dX0_wayLoss_27 rfl ?_
  refine j_aload_n 2 dX0_wayLoss_28 rfl ?_
  refine j_getr (q := (a + 2)) dX0_wayLoss_29 fX0_15 (shC hC (sgA x)) rfl (rfC hC (rfA2 x) (nzA x)) ?_
  refine j_iload_n 3 dX0_wayLoss_32 rfl ?_
  refine j_iload_n 1 dX0_wayLoss_33 rfl ?_
  refine j_callV (kc := 0) (ks := 0) (a := 0) (b := 0) (d' := (d + 1)) (As := [.ref (a + 2), .int f, .int (((f / 10) * 10) + (t - t / 10 * 10))]) dX0_wayLoss_34 kX0_86 rfl (shC hC (sgA x)) (by omega) rfl rfl rfl (Nat.le_of_ble_eq_true rfl) (Nat.le_of_ble_eq_true rfl) (T_X0_along (V := acr (lossC S)) (K := lossC S) hC x (sgA2 x) (fun c hc => (ha.1 c hc).2.1) (fun c hc => (ha.1 c hc).1) f (((f / 10) * 10) + (t - t / 10 * 10))) (kk_p ?_)
  refine j_aload_n 2 dX0_wayLoss_37 rfl ?_
  refine j_aload_n 2 dX0_wayLoss_38 rfl ?_
  refine j_getr (q := (a + 3)) dX0_wayLoss_39 fX0_18 (shC hC (sgA x)) rfl (rfC hC (rfA3 x) (nzA x)) ?_
  refine j_iload_n 1 dX0_wayLoss_42 rfl ?_
  refine j_iload_n 4 dX0_wayLoss_43 rfl ?_
  refine j_callV (kc := 0) (ks := 0) (a := 0) (b := 0) (d' := (d + 1)) (As := [.ref (a + 3), .int (((f / 10) * 10) + (t - t / 10 * 10)), .int t]) dX0_wayLoss_44 kX0_86 rfl (shC hC (sgA x)) (by omega) rfl rfl rfl (Nat.le_of_ble_eq_true rfl) (Nat.le_of_ble_eq_true rfl) (T_X0_along (V := dwn (lossC S)) (K := lossC S) hC x (sgA3 x) (fun c hc => (ha.1 c hc).2.2) (fun c hc => (ha.1 c hc).1) (((f / 10) * 10) + (t - t / 10 * 10)) t) (kk_p ?_)
  refine j_iadd dX0_wayLoss_47 ?_
  refine j_istore (L' := [(5, .int ((alng (acr (lossC S)) (lossC S) f (((f / 10) * 10) + (t - t / 10 * 10))) + (alng (dwn (lossC S)) (lossC S) (((f / 10) * 10) + (t - t / 10 * 10)) t))), (4, .int (((t / 10) * 10) + (f - f / 10 * 10))), (3, .int (((f / 10) * 10) + (t - t / 10 * 10))), (0, .ref a), (1, .int f), (2, .int t)]) dX0_wayLoss_48 (by decide) rfl ?_
  refine j_aload_n 3 dX0_wayLoss_50 rfl ?_
  refine j_aload_n 3 dX0_wayLoss_51 rfl ?_
  refine j_getr (q := (a + 3)) dX0_wayLoss_52 fX0_18 (shC hC (sgA x)) rfl (rfC hC (rfA3 x) (nzA x)) ?_
  refine j_iload_n 4 dX0_wayLoss_55 rfl ?_
  refine j_iload 1 dX0_wayLoss_56 rfl ?_
  refine j_callV (kc := 0) (ks := 0) (a := 0) (b := 0) (d' := (d + 1)) (As := [.ref (a + 3), .int f, .int (((t / 10) * 10) + (f - f / 10 * 10))]) dX0_wayLoss_58 kX0_86 rfl (shC hC (sgA x)) (by omega) rfl rfl rfl (Nat.le_of_ble_eq_true rfl) (Nat.le_of_ble_eq_true rfl) (T_X0_along (V := dwn (lossC S)) (K := lossC S) hC x (sgA3 x) (fun c hc => (ha.1 c hc).2.2) (fun c hc => (ha.1 c hc).1) f (((t / 10) * 10) + (f - f / 10 * 10))) (kk_p ?_)
  refine j_aload_n 3 dX0_wayLoss_61 rfl ?_
  refine j_aload_n 3 dX0_wayLoss_62 rfl ?_
  refine j_getr (q := (a + 2)) dX0_wayLoss_63 fX0_15 (shC hC (sgA x)) rfl (rfC hC (rfA2 x) (nzA x)) ?_
  refine j_iload 1 dX0_wayLoss_66 rfl ?_
  refine j_iload_n 5 dX0_wayLoss_68 rfl ?_
  refine j_callV (kc := 0) (ks := 0) (a := 0) (b := 0) (d' := (d + 1)) (As := [.ref (a + 2), .int (((t / 10) * 10) + (f - f / 10 * 10)), .int t]) dX0_wayLoss_69 kX0_86 rfl (shC hC (sgA x)) (by omega) rfl rfl rfl (Nat.le_of_ble_eq_true rfl) (Nat.le_of_ble_eq_true rfl) (T_X0_along (V := acr (lossC S)) (K := lossC S) hC x (sgA2 x) (fun c hc => (ha.1 c hc).2.1) (fun c hc => (ha.1 c hc).1) (((t / 10) * 10) + (f - f / 10 * 10)) t) (kk_p ?_)
  refine j_iadd dX0_wayLoss_72 ?_
  refine j_istore (L' := [(6, .int ((alng (dwn (lossC S)) (lossC S) f (((t / 10) * 10) + (f - f / 10 * 10))) + (alng (acr (lossC S)) (lossC S) (((t / 10) * 10) + (f - f / 10 * 10)) t))), (5, .int ((alng (acr (lossC S)) (lossC S) f (((f / 10) * 10) + (t - t / 10 * 10))) + (alng (dwn (lossC S)) (lossC S) (((f / 10) * 10) + (t - t / 10 * 10)) t))), (4, .int (((t / 10) * 10) + (f - f / 10 * 10))), (3, .int (((f / 10) * 10) + (t - t / 10 * 10))), (0, .ref a), (1, .int f), (2, .int t)]) dX0_wayLoss_73 (by decide) rfl ?_
  refine j_iload 1 dX0_wayLoss_75 rfl ?_
  refine j_iload 0 dX0_wayLoss_77 rfl ?_
  refine j_min dX0_wayLoss_79 mX0_90 mt_min.1 mt_min.2.1 mt_min.2.2 (Nat.le_of_ble_eq_true rfl) ?_
  refine j_iret dX0_wayLoss_82 rfl ?_
  exact hQ _ _ ⟨rfl, rfl⟩
set_option maxRecDepth 20000 in
set_option maxHeartbeats 4000000 in
theorem T_X0_strengthFrom {d : Nat} {M : jk_M} {a h : Nat} {S : HS} (hC : WC M) (x : isA a h) (hS : hv M.2.1 h = S) (ok : Sok S) (ha : AirOK a S M) (f t : Int32) : J Fr_X0_strengthFrom (d + 3) 0 0 0 [(0, .ref a), (1, .int f), (2, .int t)] [] M (jk_ex (some (.int (strS S f t))) (fun M1 => Sm (fun q => q = a + 4) M M1 ∧ AirOK a S M1)) := by
  refine j_post (fun Q hQ => ?_)
  refine j_iload_n 1 dX0_strengthFrom_0 rfl ?_
  refine j_callSN (kc := 0) (ks := 0) (a := 0) (b := 0) (d' := d) (As := [.int f]) dX0_strengthFrom_1 kX0_68 rfl (by omega) rfl rfl rfl (Nat.le_of_ble_eq_true rfl) (Nat.le_of_ble_eq_true rfl) (T_X10_isPlace f) (kk_p ?_)
  refine j_if_eqB (p := (isP f)) (tgt := 14) dX0_strengthFrom_4 rfl (fun c1 => ?_) (fun c1 => ?_)
  · refine j_iconst 0 dX0_strengthFrom_14 ic_0 ?_
    refine j_iret dX0_strengthFrom_15 rfl ?_
    exact hQ _ _ ⟨by rw [strS_z (by first | exact Or.inl (by assumption) | exact Or.inr (by assumption))], Sm.rf, ha⟩
  · refine j_iload_n 2 dX0_strengthFrom_7 rfl ?_
    refine j_callSN (kc := 0) (ks := 0) (a := 0) (b := 0) (d' := d) (As := [.int t]) dX0_strengthFrom_8 kX0_68 rfl (by omega) rfl rfl rfl (Nat.le_of_ble_eq_true rfl) (Nat.le_of_ble_eq_true rfl) (T_X10_isPlace t) (kk_p ?_)
    refine j_if_neB (p := (isP t)) (tgt := 16) dX0_strengthFrom_11 rfl (fun c2 => ?_) (fun c2 => ?_)
    · refine j_iconst 0 dX0_strengthFrom_16 ic_0 ?_
      refine j_aload_n 0 dX0_strengthFrom_17 rfl ?_
      refine j_getr (q := h) dX0_strengthFrom_18 fX0_31 (shC hC (sgA x)) rfl (rfC hC (rfA0 x) (nzA x)) ?_
      refine j_getv (S 1 0) dX0_strengthFrom_21 fX0_95 (shC hC (sgH (isA.H x))) rfl (hvs hS (by decide)) ?_
      refine j_iconst 2 dX0_strengthFrom_24 ic_2 ?_
      refine j_iload_n 1 dX0_strengthFrom_25 rfl ?_
      refine j_iload_n 2 dX0_strengthFrom_26 rfl ?_
      refine j_callSN (kc := 0) (ks := 0) (a := 0) (b := 0) (d' := d) (As := [.int f, .int t]) dX0_strengthFrom_27 kX0_76 rfl (by omega) rfl rfl rfl (Nat.le_of_ble_eq_true rfl) (Nat.le_of_ble_eq_true rfl) (T_X10_stepsFar f t) (kk_p ?_)
      refine j_imul dX0_strengthFrom_30 ?_
      refine j_isub dX0_strengthFrom_31 ?_
      refine j_aload_n 0 dX0_strengthFrom_32 rfl ?_
      refine j_iload_n 1 dX0_strengthFrom_33 rfl ?_
      refine j_iload_n 2 dX0_strengthFrom_34 rfl ?_
      refine j_callV (kc := 0) (ks := 0) (a := 0) (b := 0) (d' := (d + 2)) (As := [.int f, .int t]) dX0_strengthFrom_35 kX0_98 rfl (shC hC (sgA x)) (by omega) rfl rfl rfl (Nat.le_of_ble_eq_true rfl) (Nat.le_of_ble_eq_true rfl) (T_X0_wayLoss hC x hS ok ha f t) (kk_p ?_)
      refine j_isub dX0_strengthFrom_38 ?_
      refine j_aload_n 0 dX0_strengthFrom_39 rfl ?_
      refine j_iload_n 2 dX0_strengthFrom_40 rfl ?_
      refine j_callV (kc := 0) (ks := 0) (a := 0) (b := 0) (d' := (d + 1)) (As := [.int t]) dX0_strengthFrom_41 kX0_101 rfl (shC hC (sgA x)) (by omega) rfl rfl rfl (Nat.le_of_ble_eq_true rfl) (Nat.le_of_ble_eq_true rfl) (T_X0_humAtP hC x hS ok ha t c2) (kk_e (fun M3 hM4 => ?_))
      obtain ⟨sm5, ha6⟩ := hM4
      refine j_isub dX0_strengthFrom_44 ?_
      refine j_aload_n 0 dX0_strengthFrom_45 rfl ?_
      refine j_getv (dinS S (S 2 0)) dX0_strengthFrom_46 fX0_27 (shC (Sm.C sm5 hC) (sgA x)) rfl ha6.2.2 ?_
      refine j_isub dX0_strengthFrom_49 ?_
      refine j_max dX0_strengthFrom_50 mX0_104 mt_max.1 mt_max.2.1 mt_max.2.2 (Nat.le_of_ble_eq_true rfl) ?_
      refine j_iret dX0_strengthFrom_53 rfl ?_
      exact hQ _ _ ⟨by rw [strS_n (by assumption) (by assumption)]; rfl, sm5, ha6⟩
    · refine j_iconst 0 dX0_strengthFrom_14 ic_0 ?_
      refine j_iret dX0_strengthFrom_15 rfl ?_
      exact hQ _ _ ⟨by rw [strS_z (by first | exact Or.inl (by assumption) | exact Or.inr (by assumption))], Sm.rf, ha⟩
set_option maxRecDepth 20000 in
set_option maxHeartbeats 4000000 in
theorem T_X0_barsOf {d : Nat} {M : jk_M} {a h : Nat} {S : HS} (hC : WC M) (x : isA a h) (hS : hv M.2.1 h = S) (ok : Sok S) (ha : AirOK a S M) (b c : Int32) : J Fr_X0_barsOf (d + 4) 0 0 0 [(0, .ref a), (1, .int b), (2, .int c)] [] M (jk_ex (some (.int (barS S b c))) (fun M1 => Sm (fun q => q = a + 4) M M1 ∧ AirOK a S M1)) := by
  refine j_post (fun Q hQ => ?_)
  refine j_aload_n 0 dX0_barsOf_0 rfl ?_
  refine j_aload_n 0 dX0_barsOf_1 rfl ?_
  refine j_getr (q := h) dX0_barsOf_2 fX0_31 (shC hC (sgA x)) rfl (rfC hC (rfA0 x) (nzA x)) ?_
  refine j_iload_n 1 dX0_barsOf_5 rfl ?_
  refine j_callV (kc := 0) (ks := 0) (a := 0) (b := 0) (d' := d) (As := [.int b]) dX0_barsOf_6 kX0_107 rfl (shC hC (sgH (isA.H x))) (by omega) rfl rfl rfl (Nat.le_of_ble_eq_true rfl) (Nat.le_of_ble_eq_true rfl) (T_X2_placeOf hC (isA.H x) hS ok b) (kk_p ?_)
  refine j_iload_n 2 dX0_barsOf_9 rfl ?_
  refine j_callV (kc := 0) (ks := 0) (a := 0) (b := 0) (d' := (d + 3)) (As := [.int (plO S b), .int c]) dX0_barsOf_10 kX0_110 rfl (shC hC (sgA x)) (by omega) rfl rfl rfl (Nat.le_of_ble_eq_true rfl) (Nat.le_of_ble_eq_true rfl) (T_X0_strengthFrom hC x hS ok ha (plO S b) c) (kk_e (fun M1 hM2 => ?_))
  obtain ⟨sm3, ha4⟩ := hM2
  refine j_callSN (kc := 0) (ks := 0) (a := 0) (b := 0) (d' := d) (As := [.int (strS S (plO S b) c)]) dX0_barsOf_13 kX0_113 rfl (by omega) rfl rfl rfl (Nat.le_of_ble_eq_true rfl) (Nat.le_of_ble_eq_true rfl) (T_X10_barsBy (strS S (plO S b) c)) (kk_p ?_)
  refine j_iret dX0_barsOf_16 rfl ?_
  exact hQ _ _ ⟨rfl, sm3, ha4⟩
set_option maxRecDepth 20000 in
set_option maxHeartbeats 4000000 in
theorem T_X0_betterBars {d : Nat} {M : jk_M} {a h : Nat} {S : HS} (hC : WC M) (x : isA a h) (hS : hv M.2.1 h = S) (ok : Sok S) (ha : AirOK a S M) (c : Int32) : J Fr_X0_betterBars (d + 5) 0 0 0 [(0, .ref a), (1, .int c)] [] M (jk_ex (some (.int (betS S c))) (fun M1 => Sm (fun q => q = a + 4) M M1 ∧ AirOK a S M1)) := by
  refine j_post (fun Q hQ => ?_)
  refine j_aload_n 0 dX0_betterBars_0 rfl ?_
  refine j_iconst 0 dX0_betterBars_1 ic_0 ?_
  refine j_iload_n 1 dX0_betterBars_2 rfl ?_
  refine j_callV (kc := 0) (ks := 0) (a := 0) (b := 0) (d' := (d + 4)) (As := [.int 0, .int c]) dX0_betterBars_3 kX0_116 rfl (shC hC (sgA x)) (by omega) rfl rfl rfl (Nat.le_of_ble_eq_true rfl) (Nat.le_of_ble_eq_true rfl) (T_X0_barsOf hC x hS ok ha 0 c) (kk_e (fun M1 hM2 => ?_))
  obtain ⟨sm3, ha4⟩ := hM2
  refine j_aload_n 0 dX0_betterBars_6 rfl ?_
  refine j_iconst 1 dX0_betterBars_7 ic_1 ?_
  refine j_iload_n 1 dX0_betterBars_8 rfl ?_
  refine j_callV (kc := 0) (ks := 0) (a := 0) (b := 0) (d' := (d + 4)) (As := [.int 1, .int c]) dX0_betterBars_9 kX0_116 rfl (shC (Sm.C sm3 hC) (sgA x)) (by omega) rfl rfl rfl (Nat.le_of_ble_eq_true rfl) (Nat.le_of_ble_eq_true rfl) (T_X0_barsOf (Sm.C sm3 hC) x (Sm.hv sm3 hS ok (PHH x)) ok ha4 1 c) (kk_e (fun M5 hM6 => ?_))
  obtain ⟨sm7, ha8⟩ := hM6
  replace sm7 := Sm.tr sm3 sm7
  refine j_max dX0_betterBars_12 mX0_104 mt_max.1 mt_max.2.1 mt_max.2.2 (Nat.le_of_ble_eq_true rfl) ?_
  refine j_iret dX0_betterBars_15 rfl ?_
  exact hQ _ _ ⟨rfl, sm7, ha8⟩
set_option maxRecDepth 20000 in
set_option maxHeartbeats 4000000 in
theorem T_X0_paceOf {d : Nat} {M : jk_M} {a h : Nat} {S : HS} (hC : WC M) (x : isA a h) (hS : hv M.2.1 h = S) (ok : Sok S) (ha : AirOK a S M) (b c : Int32) : J Fr_X0_paceOf (d + 5) 0 0 0 [(0, .ref a), (1, .int b), (2, .int c)] [] M (jk_ex (some (.int (paceS S b c))) (fun M1 => Sm (fun q => q = a + 4) M M1 ∧ AirOK a S M1)) := by
  refine j_post (fun Q hQ => ?_)
  refine j_iload_n 1 dX0_paceOf_0 rfl ?_
  refine j_if_ne (tgt := 11) dX0_paceOf_1 rfl (fun c1 => ?_) (fun c1 => ?_)
  · refine j_aload_n 0 dX0_paceOf_11 rfl ?_
    refine j_iconst 1 dX0_paceOf_12 ic_1 ?_
    refine j_iload_n 2 dX0_paceOf_13 rfl ?_
    refine j_callV (kc := 0) (ks := 0) (a := 0) (b := 0) (d' := (d + 4)) (As := [.int 1, .int c]) dX0_paceOf_14 kX0_116 rfl (shC hC (sgA x)) (by omega) rfl rfl rfl (Nat.le_of_ble_eq_true rfl) (Nat.le_of_ble_eq_true rfl) (T_X0_barsOf hC x hS ok ha 1 c) (kk_e (fun M2 hM3 => ?_))
    obtain ⟨sm4, ha5⟩ := hM3
    refine j_iconst 2 dX0_paceOf_17 ic_2 ?_
    refine j_idiv dX0_paceOf_18 (by decide) ?_
    refine j_aload_n 0 dX0_paceOf_19 rfl ?_
    refine j_iconst 0 dX0_paceOf_20 ic_0 ?_
    refine j_aload_n 0 dX0_paceOf_21 rfl ?_
    refine j_getr (q := h) dX0_paceOf_22 fX0_31 (shC (Sm.C sm4 hC) (sgA x)) rfl (rfC (Sm.C sm4 hC) (rfA0 x) (nzA x)) ?_
    refine j_getv (S 6 0) dX0_paceOf_25 fX0_119 (shC (Sm.C sm4 hC) (sgH (isA.H x))) rfl (hvs (Sm.hv sm4 hS ok (PHH x)) (by decide)) ?_
    refine j_callV (kc := 0) (ks := 0) (a := 0) (b := 0) (d' := (d + 4)) (As := [.int 0, .int (S 6 0)]) dX0_paceOf_28 kX0_116 rfl (shC (Sm.C sm4 hC) (sgA x)) (by omega) rfl rfl rfl (Nat.le_of_ble_eq_true rfl) (Nat.le_of_ble_eq_true rfl) (T_X0_barsOf (Sm.C sm4 hC) x (Sm.hv sm4 hS ok (PHH x)) ok ha5 0 (S 6 0)) (kk_e (fun M6 hM7 => ?_))
    obtain ⟨sm8, ha9⟩ := hM7
    replace sm8 := Sm.tr sm4 sm8
    refine j_min dX0_paceOf_31 mX0_90 mt_min.1 mt_min.2.1 mt_min.2.2 (Nat.le_of_ble_eq_true rfl) ?_
    refine j_iret dX0_paceOf_34 rfl ?_
    exact hQ _ _ ⟨by first | (rw [paceS, if_pos (by assumption)]; done) | (unfold paceS; rw [if_neg (by assumption : ¬ b = 0)]; rfl), sm8, ha9⟩
  · refine j_aload_n 0 dX0_paceOf_4 rfl ?_
    refine j_iconst 0 dX0_paceOf_5 ic_0 ?_
    refine j_iload_n 2 dX0_paceOf_6 rfl ?_
    refine j_callV (kc := 0) (ks := 0) (a := 0) (b := 0) (d' := (d + 4)) (As := [.int 0, .int c]) dX0_paceOf_7 kX0_116 rfl (shC hC (sgA x)) (by omega) rfl rfl rfl (Nat.le_of_ble_eq_true rfl) (Nat.le_of_ble_eq_true rfl) (T_X0_barsOf hC x hS ok ha 0 c) (kk_e (fun M10 hM11 => ?_))
    obtain ⟨sm12, ha13⟩ := hM11
    refine j_iret dX0_paceOf_10 rfl ?_
    exact hQ _ _ ⟨by first | (rw [paceS, if_pos (by assumption)]; done) | (unfold paceS; rw [if_neg (by assumption : ¬ b = 0)]; rfl), sm12, ha13⟩
set_option maxRecDepth 20000 in
set_option maxHeartbeats 4000000 in
theorem T_X0_clingsThen {d : Nat} {M : jk_M} {a h : Nat} {S : HS} (hC : WC M) (x : isA a h) (hS : hv M.2.1 h = S) (ok : Sok S) (ha : AirOK a S M) (b c r : Int32) : J Fr_X0_clingsThen (d + 4) 0 0 0 [(0, .ref a), (1, .int b), (2, .int c), (3, .int r)] [] M (jk_ex (some (.int (clgS S b c r))) (fun M1 => Sm (fun q => q = a + 4) M M1 ∧ AirOK a S M1)) := by
  refine j_post (fun Q hQ => ?_)
  refine j_aload_n 0 dX0_clingsThen_0 rfl ?_
  refine j_aload_n 0 dX0_clingsThen_1 rfl ?_
  refine j_getr (q := h) dX0_clingsThen_2 fX0_31 (shC hC (sgA x)) rfl (rfC hC (rfA0 x) (nzA x)) ?_
  refine j_iload_n 1 dX0_clingsThen_5 rfl ?_
  refine j_callV (kc := 0) (ks := 0) (a := 0) (b := 0) (d' := d) (As := [.int b]) dX0_clingsThen_6 kX0_107 rfl (shC hC (sgH (isA.H x))) (by omega) rfl rfl rfl (Nat.le_of_ble_eq_true rfl) (Nat.le_of_ble_eq_true rfl) (T_X2_placeOf hC (isA.H x) hS ok b) (kk_p ?_)
  refine j_iload_n 2 dX0_clingsThen_9 rfl ?_
  refine j_callV (kc := 0) (ks := 0) (a := 0) (b := 0) (d' := (d + 3)) (As := [.int (plO S b), .int c]) dX0_clingsThen_10 kX0_110 rfl (shC hC (sgA x)) (by omega) rfl rfl rfl (Nat.le_of_ble_eq_true rfl) (Nat.le_of_ble_eq_true rfl) (T_X0_strengthFrom hC x hS ok ha (plO S b) c) (kk_e (fun M1 hM2 => ?_))
  obtain ⟨sm3, ha4⟩ := hM2
  refine j_callSN (kc := 0) (ks := 0) (a := 0) (b := 0) (d' := d) (As := [.int (strS S (plO S b) c)]) dX0_clingsThen_13 kX0_113 rfl (by omega) rfl rfl rfl (Nat.le_of_ble_eq_true rfl) (Nat.le_of_ble_eq_true rfl) (T_X10_barsBy (strS S (plO S b) c)) (kk_p ?_)
  refine j_istore (L' := [(4, .int (barsBy (strS S (plO S b) c))), (0, .ref a), (1, .int b), (2, .int c), (3, .int r)]) dX0_clingsThen_16 (by decide) rfl ?_
  refine j_aload_n 1 dX0_clingsThen_18 rfl ?_
  refine j_aload_n 1 dX0_clingsThen_19 rfl ?_
  refine j_getr (q := h) dX0_clingsThen_20 fX0_31 (shC (Sm.C sm3 hC) (sgA x)) rfl (rfC (Sm.C sm3 hC) (rfA0 x) (nzA x)) ?_
  refine j_iconst 1 dX0_clingsThen_23 ic_1 ?_
  refine j_iload_n 2 dX0_clingsThen_24 rfl ?_
  refine j_isub dX0_clingsThen_25 ?_
  refine j_callV (kc := 0) (ks := 0) (a := 0) (b := 0) (d' := d) (As := [.int (1 - b)]) dX0_clingsThen_26 kX0_107 rfl (shC (Sm.C sm3 hC) (sgH (isA.H x))) (by omega) rfl rfl rfl (Nat.le_of_ble_eq_true rfl) (Nat.le_of_ble_eq_true rfl) (T_X2_placeOf (Sm.C sm3 hC) (isA.H x) (Sm.hv sm3 hS ok (PHH x)) ok (1 - b)) (kk_p ?_)
  refine j_iload_n 3 dX0_clingsThen_29 rfl ?_
  refine j_callV (kc := 0) (ks := 0) (a := 0) (b := 0) (d' := (d + 3)) (As := [.int (plO S (1 - b)), .int c]) dX0_clingsThen_30 kX0_110 rfl (shC (Sm.C sm3 hC) (sgA x)) (by omega) rfl rfl rfl (Nat.le_of_ble_eq_true rfl) (Nat.le_of_ble_eq_true rfl) (T_X0_strengthFrom (Sm.C sm3 hC) x (Sm.hv sm3 hS ok (PHH x)) ok ha4 (plO S (1 - b)) c) (kk_e (fun M5 hM6 => ?_))
  obtain ⟨sm7, ha8⟩ := hM6
  replace sm7 := Sm.tr sm3 sm7
  refine j_callSN (kc := 0) (ks := 0) (a := 0) (b := 0) (d' := d) (As := [.int (strS S (plO S (1 - b)) c)]) dX0_clingsThen_33 kX0_113 rfl (by omega) rfl rfl rfl (Nat.le_of_ble_eq_true rfl) (Nat.le_of_ble_eq_true rfl) (T_X10_barsBy (strS S (plO S (1 - b)) c)) (kk_p ?_)
  refine j_istore (L' := [(5, .int (barsBy (strS S (plO S (1 - b)) c))), (4, .int (barsBy (strS S (plO S b) c))), (0, .ref a), (1, .int b), (2, .int c), (3, .int r)]) dX0_clingsThen_36 (by decide) rfl ?_
  refine j_iload 1 dX0_clingsThen_38 rfl ?_
  refine j_iload_n 5 dX0_clingsThen_40 rfl ?_
  refine j_icmp_gt (tgt := 57) dX0_clingsThen_41 rfl (fun c9 => ?_) (fun c9 => ?_)
  · refine j_iload_n 3 dX0_clingsThen_57 rfl ?_
    refine j_iret dX0_clingsThen_58 rfl ?_
    exact hQ _ _ ⟨by clear hQ; grind [clgS, barS], sm7, ha8⟩
  · refine j_iload 0 dX0_clingsThen_44 rfl ?_
    refine j_iload 1 dX0_clingsThen_46 rfl ?_
    refine j_icmp_le (tgt := 57) dX0_clingsThen_48 rfl (fun c10 => ?_) (fun c10 => ?_)
    · refine j_iload_n 3 dX0_clingsThen_57 rfl ?_
      refine j_iret dX0_clingsThen_58 rfl ?_
      exact hQ _ _ ⟨by clear hQ; grind [clgS, barS], sm7, ha8⟩
    · refine j_iconst 1 dX0_clingsThen_51 ic_1 ?_
      refine j_iload_n 3 dX0_clingsThen_52 rfl ?_
      refine j_isub dX0_clingsThen_53 ?_
      refine j_goto (tgt := 58) dX0_clingsThen_54 rfl ?_
      refine j_iret dX0_clingsThen_58 rfl ?_
      exact hQ _ _ ⟨by clear hQ; grind [clgS, barS], sm7, ha8⟩
set_option maxRecDepth 20000 in
set_option maxHeartbeats 4000000 in
theorem T_X0_filledNow {d : Nat} {M : jk_M} {a h : Nat} {S : HS} (hC : WC M) (x : isA a h) (hS : hv M.2.1 h = S) (ok : Sok S) (ha : AirOK a S M) : J Fr_X0_filledNow (d + 6) 0 0 0 [(0, .ref a)] [] M (jk_ex (some (.int (fillS S))) (fun M1 => Sm (fun q => q = a + 4) M M1 ∧ AirOK a S M1)) := by
  refine j_post (fun Q hQ => ?_)
  have hT := (Sok.D ok).2
  refine j_iconst 0 dX0_filledNow_0 ic_0 ?_
  refine j_istore_n (L' := [(1, .int 0), (0, .ref a)]) dX0_filledNow_1 (by decide) rfl ?_
  refine j_iconst 0 dX0_filledNow_2 ic_0 ?_
  refine j_istore_n (L' := [(2, .int 0), (1, .int 0), (0, .ref a)]) dX0_filledNow_3 (by decide) rfl ?_
  have lp3 : ∀ (k1 : Nat) (i : Nat) (M2 : jk_M), nD S - i < k1 → (i ≤ nD S) → (Sm (fun q => q = a + 4) M M2) → (AirOK a S M2) → J Fr_X0_filledNow (d + 6) 0 0 4 [(0, .ref a), (1, .int (sm (fun j => if S 17 j ≤ paceS S (S 19 j) (S 16 j) then S 18 j else 0) i)), (2, .int (nI i))] [] M2 Q := by
    intro k1
    induction k1 with
    | zero => intro i M2 hk; exact absurd hk (Nat.not_lt_zero _)
    | succ k1 ih2 =>
      intro i M2 hk1 hi hs2 ha2
      refine j_iload_n 2 dX0_filledNow_4 rfl ?_
      refine j_aload_n 0 dX0_filledNow_5 rfl ?_
      refine j_getr (q := h) dX0_filledNow_6 fX0_31 (shC (Sm.C hs2 hC) (sgA x)) rfl (rfC (Sm.C hs2 hC) (rfA0 x) (nzA x)) ?_
      refine j_getv (nI (nD S)) dX0_filledNow_9 fX0_122 (shC (Sm.C hs2 hC) (sgH (isA.H x))) rfl ((hvs (Sm.hv hs2 hS ok (PHH x)) (by decide)).trans (Sok.D ok).1) ?_
      refine j_icmp_geN (tgt := 60) i (nD S) dX0_filledNow_12 rfl (by omega) (by omega) (fun c4 => ?_) (fun c4 => ?_)
      · refine j_iload_n 1 dX0_filledNow_60 rfl ?_
        refine j_iret dX0_filledNow_61 rfl ?_
        have e : i = nD S := by omega
        subst e
        exact hQ _ _ ⟨rfl, hs2, ha2⟩
      · refine j_aload_n 0 dX0_filledNow_15 rfl ?_
        refine j_getr (q := h) dX0_filledNow_16 fX0_31 (shC (Sm.C hs2 hC) (sgA x)) rfl (rfC (Sm.C hs2 hC) (rfA0 x) (nzA x)) ?_
        refine j_iload_n 2 dX0_filledNow_19 rfl ?_
        refine j_callV (kc := 0) (ks := 0) (a := 0) (b := 0) (d' := d) (As := [.int (nI i)]) dX0_filledNow_20 kX0_125 rfl (shC (Sm.C hs2 hC) (sgH (isA.H x))) (by omega) rfl rfl rfl (Nat.le_of_ble_eq_true rfl) (Nat.le_of_ble_eq_true rfl) (T_X2_deviceAt (Sm.C hs2 hC) (isA.H x) (Sm.hv hs2 hS ok (PHH x)) ok i (by omega)) (kk_p ?_)
        refine j_astore_n (L' := [(3, .ref (h + 21 + i)), (0, .ref a), (1, .int (sm (fun j => if S 17 j ≤ paceS S (S 19 j) (S 16 j) then S 18 j else 0) i)), (2, .int (nI i))]) dX0_filledNow_23 (by decide) rfl ?_
        refine j_aload_n 0 dX0_filledNow_24 rfl ?_
        refine j_ifnull dX0_filledNow_25 ?_
        refine j_aload_n 1 dX0_filledNow_28 rfl ?_
        refine j_aload_n 0 dX0_filledNow_29 rfl ?_
        refine j_getv (S 19 i) dX0_filledNow_30 fX0_129 (shC (Sm.C hs2 hC) (sgHD (isA.H x) (by have := (Sok.D ok).2; omega))) rfl (hvD (Sm.hv hs2 hS ok (PHH x)) (by omega) (by decide)) ?_
        refine j_aload_n 0 dX0_filledNow_33 rfl ?_
        refine j_getv (S 16 i) dX0_filledNow_34 fX0_134 (shC (Sm.C hs2 hC) (sgHD (isA.H x) (by have := (Sok.D ok).2; omega))) rfl (hvD (Sm.hv hs2 hS ok (PHH x)) (by omega) (by decide)) ?_
        refine j_callV (kc := 0) (ks := 0) (a := 0) (b := 0) (d' := (d + 5)) (As := [.int (S 19 i), .int (S 16 i)]) dX0_filledNow_37 kX0_135 rfl (shC (Sm.C hs2 hC) (sgA x)) (by omega) rfl rfl rfl (Nat.le_of_ble_eq_true rfl) (Nat.le_of_ble_eq_true rfl) (T_X0_paceOf (Sm.C hs2 hC) x (Sm.hv hs2 hS ok (PHH x)) ok ha2 (S 19 i) (S 16 i)) (kk_e (fun M5 hM6 => ?_))
        obtain ⟨sm7, ha8⟩ := hM6
        replace sm7 := Sm.tr hs2 sm7
        refine j_aload_n 0 dX0_filledNow_40 rfl ?_
        refine j_getv (S 17 i) dX0_filledNow_41 fX0_138 (shC (Sm.C sm7 hC) (sgHD (isA.H x) (by have := (Sok.D ok).2; omega))) rfl (hvD (Sm.hv sm7 hS ok (PHH x)) (by omega) (by decide)) ?_
        refine j_icmp_lt (tgt := 54) dX0_filledNow_44 rfl (fun c9 => ?_) (fun c9 => ?_)
        · refine j_iinc 3 (nI (i + 1)) (L' := [(2, .int (nI (i + 1))), (3, .ref (h + 21 + i)), (0, .ref a), (1, .int (sm (fun j => if S 17 j ≤ paceS S (S 19 j) (S 16 j) then S 18 j else 0) i))]) dX0_filledNow_54 rfl (inc1 i) (by decide) rfl ?_
          refine j_goto (tgt := 4) dX0_filledNow_57 rfl ?_
          have hst : (sm (fun j => if S 17 j ≤ paceS S (S 19 j) (S 16 j) then S 18 j else 0) i) = sm (fun j => if S 17 j ≤ paceS S (S 19 j) (S 16 j) then S 18 j else 0) (i + 1) := by
            show _ = sm (fun j => if S 17 j ≤ paceS S (S 19 j) (S 16 j) then S 18 j else 0) i + (fun j => if S 17 j ≤ paceS S (S 19 j) (S 16 j) then S 18 j else 0) i
            clear hQ; grind
          refine j_sub (L' := [(0, .ref a), (1, .int (sm (fun j => if S 17 j ≤ paceS S (S 19 j) (S 16 j) then S 18 j else 0) i)), (2, .int (nI (i + 1)))]) (jk_pick [2, 3, 0] rfl) ?_
          rw [hst]
          exact j_sub (jk_pick [0, 1, 2] rfl) (ih2 (i + 1) M5 (by omega) (by omega) sm7 ha8)
        · refine j_iload_n 2 dX0_filledNow_47 rfl ?_
          refine j_aload_n 0 dX0_filledNow_48 rfl ?_
          refine j_getv (S 18 i) dX0_filledNow_49 fX0_141 (shC (Sm.C sm7 hC) (sgHD (isA.H x) (by have := (Sok.D ok).2; omega))) rfl (hvD (Sm.hv sm7 hS ok (PHH x)) (by omega) (by decide)) ?_
          refine j_iadd dX0_filledNow_52 ?_
          refine j_istore_n (L' := [(1, .int ((sm (fun j => if S 17 j ≤ paceS S (S 19 j) (S 16 j) then S 18 j else 0) i) + (S 18 i))), (3, .ref (h + 21 + i)), (0, .ref a), (2, .int (nI i))]) dX0_filledNow_53 (by decide) rfl ?_
          refine j_iinc 3 (nI (i + 1)) (L' := [(2, .int (nI (i + 1))), (1, .int ((sm (fun j => if S 17 j ≤ paceS S (S 19 j) (S 16 j) then S 18 j else 0) i) + (S 18 i))), (3, .ref (h + 21 + i)), (0, .ref a)]) dX0_filledNow_54 rfl (inc1 i) (by decide) rfl ?_
          refine j_goto (tgt := 4) dX0_filledNow_57 rfl ?_
          have hst : ((sm (fun j => if S 17 j ≤ paceS S (S 19 j) (S 16 j) then S 18 j else 0) i) + (S 18 i)) = sm (fun j => if S 17 j ≤ paceS S (S 19 j) (S 16 j) then S 18 j else 0) (i + 1) := by
            show _ = sm (fun j => if S 17 j ≤ paceS S (S 19 j) (S 16 j) then S 18 j else 0) i + (fun j => if S 17 j ≤ paceS S (S 19 j) (S 16 j) then S 18 j else 0) i
            clear hQ; grind
          refine j_sub (L' := [(0, .ref a), (1, .int ((sm (fun j => if S 17 j ≤ paceS S (S 19 j) (S 16 j) then S 18 j else 0) i) + (S 18 i))), (2, .int (nI (i + 1)))]) (jk_pick [3, 1, 0] rfl) ?_
          rw [hst]
          exact j_sub (jk_pick [0, 1, 2] rfl) (ih2 (i + 1) M5 (by omega) (by omega) sm7 ha8)
  exact j_sub (jk_pick [2, 1, 0] rfl) (lp3 _ 0 M (Nat.lt_succ_self _) (Nat.zero_le _) Sm.rf ha)
