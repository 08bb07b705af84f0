theorem lay_fin {a : Nat} {S : HS} {M1 M2 : jk_M} (h1 : LossOK a S M1) (h2 : Sm (fun q => q = a + 4) M1 M2 ∧ ∀ c, c < 80 → M2.2.1 (a + 4) c = -1) : AirOK a S (jk_wI M2 a 6 (dinS S (S 2 0))) := by
  obtain ⟨hs, h4⟩ := h2
  refine ⟨fun c hc => ?_, fun c hc => ?_, rd_s⟩
  · rw [rd_o (by omega), rd_o (by omega), rd_o (by omega), hs.2.2 _ (by omega), hs.2.2 _ (by omega), hs.2.2 _ (by omega)]
    exact h1 c hc
  · rw [rd_o (by omega)]
    exact Or.inl (h4 c hc)
theorem lay_fin5 {a : Nat} {M M1 M2 : jk_M} {x : Int32} (h5 : M1.2.1 (a + 5) = M.2.1 (a + 5)) (h2 : Sm (fun q => q = a + 4) M1 M2) : (jk_wI M2 a 6 x).2.1 (a + 5) = M.2.1 (a + 5) := by
  have e : (jk_wI M2 a 6 x).2.1 (a + 5) = M2.2.1 (a + 5) := jk_up_n _ _ _ _ (by omega)
  rw [e, h2.2.2 _ (by omega), h5]
set_option maxRecDepth 20000 in
set_option maxHeartbeats 4000000 in
theorem T_X0_layHum {d : Nat} {M : jk_M} {a h : Nat} {S : HS} (hC : WC M) (x : isA a h) (hS : hv M.2.1 h = S) (ok : Sok S) : J Fr_X0_layHum (d + 1) 0 0 0 [(0, .ref a)] [] M (jk_ex none (fun M1 => Sm (fun q => q = a + 4) M M1 ∧ ∀ c, c < 80 → M1.2.1 (a + 4) c = -1)) := by
  refine j_post (fun Q hQ => ?_)
  refine j_aload_n 0 dX0_layHum_0 rfl ?_
  refine j_getr (q := (a + 4)) dX0_layHum_1 fX0_21 (shC hC (sgA x)) rfl (rfC hC (rfA4 x) (nzA x)) ?_
  refine j_iconst (-1) dX0_layHum_4 ic_n1 ?_
  refine j_callS (kc := 0) (ks := 0) (a := 0) (b := 0) (d' := d) (As := [.ref (a + 4), .int (-1)]) dX0_layHum_5 kX0_50 rfl (by omega) rfl rfl rfl (Nat.le_of_ble_eq_true rfl) (Nat.le_of_ble_eq_true rfl) (T_J7_fill_53178 (n := 80) hC (sgA4 x) (by omega)) (kk_ev (fun M1 hM2 => ?_))
  obtain ⟨sm3, hf4⟩ := hM2
  replace sm3 : Sm (fun q => q = a + 4) M M1 := Sm.tr Sm.rf (sm3.mo (fun q e => by first | exact e | (rw [e]; exact rfl)))
  refine j_vret dX0_layHum_8 rfl ?_
  exact hQ _ _ ⟨rfl, sm3, hf4⟩
set_option maxRecDepth 20000 in
set_option maxHeartbeats 4000000 in
theorem T_X0_lay {d : Nat} {M : jk_M} {a h : Nat} {S : HS} (hC : WC M) (x : isA a h) (hS : hv M.2.1 h = S) (ok : Sok S) : J Fr_X0_lay (d + 2) 0 0 0 [(0, .ref a)] [] M (jk_ex none (fun M1 => Sm (AO a) M M1 ∧ AirOK a S M1 ∧ M1.2.1 (a + 5) = M.2.1 (a + 5))) := by
  refine j_post (fun Q hQ => ?_)
  refine j_aload_n 0 dX0_lay_0 rfl ?_
  refine j_callV (kc := 0) (ks := 0) (a := 0) (b := 0) (d' := (d + 1)) (As := []) dX0_lay_1 kX0_35 rfl (shC hC (sgA x)) (by omega) rfl rfl rfl (Nat.le_of_ble_eq_true rfl) (Nat.le_of_ble_eq_true rfl) (T_X0_layLoss hC x hS ok) (kk_ev (fun M1 hM2 => ?_))
  obtain ⟨sm3, hl4, q54, q55, q50⟩ := hM2
  refine j_aload_n 0 dX0_lay_4 rfl ?_
  refine j_callV (kc := 0) (ks := 0) (a := 0) (b := 0) (d' := (d + 1)) (As := []) dX0_lay_5 kX0_38 rfl (shC (Sm.C sm3 hC) (sgA x)) (by omega) rfl rfl rfl (Nat.le_of_ble_eq_true rfl) (Nat.le_of_ble_eq_true rfl) (T_X0_layHum (Sm.C sm3 hC) x (Sm.hv sm3 hS ok (AOH x)) ok) (kk_ev (fun M6 hM7 => ?_))
  have keepM6 := hM7
  obtain ⟨sm8, hh9⟩ := hM7
  replace sm8 : Sm (AO a) M M6 := Sm.tr sm3 (sm8.mo (fun q e => by rw [e]; exact AO0 (by decide)))
  refine j_aload_n 0 dX0_lay_8 rfl ?_
  refine j_aload_n 0 dX0_lay_9 rfl ?_
  refine j_getr (q := h) dX0_lay_10 fX0_31 (shC (Sm.C sm8 hC) (sgA x)) rfl (rfC (Sm.C sm8 hC) (rfA0 x) (nzA x)) ?_
  refine j_aload_n 0 dX0_lay_13 rfl ?_
  refine j_getr (q := h) dX0_lay_14 fX0_31 (shC (Sm.C sm8 hC) (sgA x)) rfl (rfC (Sm.C sm8 hC) (rfA0 x) (nzA x)) ?_
  refine j_getv (S 2 0) dX0_lay_17 fX0_41 (shC (Sm.C sm8 hC) (sgH (isA.H x))) rfl (hvs (Sm.hv sm8 hS ok (AOH x)) (by decide)) ?_
  refine j_callV (kc := 0) (ks := 0) (a := 0) (b := 0) (d' := (d + 1)) (As := [.int (S 2 0)]) dX0_lay_20 kX0_46 rfl (shC (Sm.C sm8 hC) (sgH (isA.H x))) (by omega) rfl rfl rfl (Nat.le_of_ble_eq_true rfl) (Nat.le_of_ble_eq_true rfl) (T_X2_dinOn (Sm.C sm8 hC) (isA.H x) (Sm.hv sm8 hS ok (AOH x)) ok (S 2 0)) (kk_p ?_)
  refine j_put dX0_lay_23 fX0_27 (shC (Sm.C sm8 hC) (sgA x)) rfl ?_
  have sm10 : Sm (AO a) M (jk_wI M6 a 6 (dinS S (S 2 0))) := Sm.w sm8 (AO0 (k := 0) (by decide))
  refine j_vret dX0_lay_26 rfl ?_
  exact hQ _ _ ⟨rfl, sm10, lay_fin hl4 keepM6, lay_fin5 q55 keepM6.1⟩
set_option maxRecDepth 20000 in
set_option maxHeartbeats 4000000 in
theorem T_X0_humAt {d : Nat} {M : jk_M} {a h : Nat} {S : HS} (hC : WC M) (x : isA a h) (hS : hv M.2.1 h = S) (ok : Sok S) (ha : AirOK a S M) (n : Nat) (hn : n < 80) : J Fr_X0_humAt (d + 1) 0 0 0 [(0, .ref a), (1, .int (nI n))] [] M (jk_ex (some (.int (humC S (nI n)))) (fun M1 => Sm (fun q => q = a + 4) M M1 ∧ AirOK a S M1)) := by
  refine j_post (fun Q hQ => ?_)
  have hT := (Sok.T ok).2
  refine j_iload_n 1 dX0_humAt_0 rfl ?_
  refine j_callSN (kc := 0) (ks := 0) (a := 0) (b := 0) (d' := d) (As := [.int (nI n)]) dX0_humAt_1 kX0_68 rfl (by omega) rfl rfl rfl (Nat.le_of_ble_eq_true rfl) (Nat.le_of_ble_eq_true rfl) (T_X10_isPlace (nI n)) (kk_p ?_)
  refine j_if_neB (p := (isP (nI n))) (tgt := 9) dX0_humAt_4 rfl (fun c1 => ?_) (fun c1 => ?_)
  · refine j_aload_n 0 dX0_humAt_9 rfl ?_
    refine j_getr (q := (a + 4)) dX0_humAt_10 fX0_21 (shC hC (sgA x)) rfl (rfC hC (rfA4 x) (nzA x)) ?_
    refine j_iload_n 1 dX0_humAt_13 rfl ?_
    refine j_ialdN n dX0_humAt_14 (shC hC (sgA4 x)) (by omega) (by omega) ?_
    refine j_iconst (-1) dX0_humAt_15 ic_n1 ?_
    refine j_icmp_ne (tgt := 86) dX0_humAt_16 rfl (fun c2 => ?_) (fun c2 => ?_)
    · refine j_aload_n 0 dX0_humAt_86 rfl ?_
      refine j_getr (q := (a + 4)) dX0_humAt_87 fX0_21 (shC hC (sgA x)) rfl (rfC hC (rfA4 x) (nzA x)) ?_
      refine j_iload_n 1 dX0_humAt_90 rfl ?_
      refine j_ialdN n dX0_humAt_91 (shC hC (sgA4 x)) (by omega) (by omega) ?_
      refine j_topi (humC S (nI n)) ((ha.2.1 n hn).resolve_left (by assumption)) ?_
      refine j_iret dX0_humAt_92 rfl ?_
      exact hQ _ _ ⟨rfl, Sm.rf, ha⟩
    · refine j_iconst 0 dX0_humAt_19 ic_0 ?_
      refine j_istore_n (L' := [(2, .int 0), (0, .ref a), (1, .int (nI n))]) dX0_humAt_20 (by decide) rfl ?_
      refine j_iconst 0 dX0_humAt_21 ic_0 ?_
      refine j_istore_n (L' := [(3, .int 0), (2, .int 0), (0, .ref a), (1, .int (nI n))]) dX0_humAt_22 (by decide) rfl ?_
      have lp5 : ∀ (k3 : Nat) (i : Nat), nT S - i < k3 → (i ≤ nT S) → J Fr_X0_humAt (d + 1) 0 0 23 [(0, .ref a), (1, .int (nI n)), (2, .int (sm (fun j => humT S j (nI n)) i)), (3, .int (nI i))] [] M Q := by
        intro k3
        induction k3 with
        | zero => intro i hk; exact absurd hk (Nat.not_lt_zero _)
        | succ k3 ih4 =>
          intro i hk3 hi
          refine j_iload_n 3 dX0_humAt_23 rfl ?_
          refine j_aload_n 0 dX0_humAt_24 rfl ?_
          refine j_getr (q := h) dX0_humAt_25 fX0_31 (shC hC (sgA x)) rfl (rfC hC (rfA0 x) (nzA x)) ?_
          refine j_getv (nI (nT S)) dX0_humAt_28 fX0_56 (shC hC (sgH (isA.H x))) rfl ((hvs hS (by decide)).trans (Sok.T ok).1) ?_
          refine j_icmp_geN (tgt := 79) i (nT S) dX0_humAt_31 rfl (by omega) (by omega) (fun c6 => ?_) (fun c6 => ?_)
          · refine j_aload_n 0 dX0_humAt_79 rfl ?_
            refine j_getr (q := (a + 4)) dX0_humAt_80 fX0_21 (shC hC (sgA x)) rfl (rfC hC (rfA4 x) (nzA x)) ?_
            refine j_iload_n 1 dX0_humAt_83 rfl ?_
            refine j_iload_n 2 dX0_humAt_84 rfl ?_
            refine j_iastN n dX0_humAt_85 (shC hC (sgA4 x)) (by omega) (by omega) ?_
            have sm7 : Sm (fun q => q = a + 4) M (jk_wI M (a + 4) n (sm (fun j => humT S j (nI n)) i)) := Sm.w Sm.rf rfl
            refine j_aload_n 0 dX0_humAt_86 rfl ?_
            refine j_getr (q := (a + 4)) dX0_humAt_87 fX0_21 (shC (Sm.C sm7 hC) (sgA x)) rfl (rfC (Sm.C sm7 hC) (rfA4 x) (nzA x)) ?_
            refine j_iload_n 1 dX0_humAt_90 rfl ?_
            refine j_ialdN n dX0_humAt_91 (shC (Sm.C sm7 hC) (sgA4 x)) (by omega) (by omega) ?_
            have e : i = nT S := by omega
            subst e
            refine j_topi (humC S (nI n)) rd_s ?_
            refine j_iret dX0_humAt_92 rfl ?_
            exact hQ _ _ ⟨rfl, sm7, ha.hum hn⟩
          · refine j_aload_n 0 dX0_humAt_34 rfl ?_
            refine j_getr (q := h) dX0_humAt_35 fX0_31 (shC hC (sgA x)) rfl (rfC hC (rfA0 x) (nzA x)) ?_
            refine j_iload_n 3 dX0_humAt_38 rfl ?_
            refine j_callV (kc := 0) (ks := 0) (a := 0) (b := 0) (d' := d) (As := [.int (nI i)]) dX0_humAt_39 kX0_59 rfl (shC hC (sgH (isA.H x))) (by omega) rfl rfl rfl (Nat.le_of_ble_eq_true rfl) (Nat.le_of_ble_eq_true rfl) (T_X2_thingAt hC (isA.H x) hS ok i (by omega)) (kk_p ?_)
            refine j_astore (L' := [(4, .ref (h + 5 + i)), (0, .ref a), (1, .int (nI n)), (2, .int (sm (fun j => humT S j (nI n)) i)), (3, .int (nI i))]) dX0_humAt_42 (by decide) rfl ?_
            refine j_aload 0 dX0_humAt_44 rfl ?_
            refine j_ifnull dX0_humAt_46 ?_
            refine j_iload_n 3 dX0_humAt_49 rfl ?_
            refine j_aload 0 dX0_humAt_50 rfl ?_
            refine j_aload 0 dX0_humAt_52 rfl ?_
            refine j_getv (S 12 i) dX0_humAt_54 fX0_63 (shC hC (sgHT (isA.H x) (by have := (Sok.T ok).2; omega))) rfl (hvT hS (by omega) (by decide)) ?_
            refine j_iload_n 2 dX0_humAt_57 rfl ?_
            refine j_callSN (kc := 0) (ks := 0) (a := 0) (b := 0) (d' := d) (As := [.int (S 12 i), .int (nI n)]) dX0_humAt_58 kX0_76 rfl (by omega) rfl rfl rfl (Nat.le_of_ble_eq_true rfl) (Nat.le_of_ble_eq_true rfl) (T_X10_stepsFar (S 12 i) (nI n)) (kk_p ?_)
            refine j_aload_n 1 dX0_humAt_61 rfl ?_
            refine j_getr (q := h) dX0_humAt_62 fX0_31 (shC hC (sgA x)) rfl (rfC hC (rfA0 x) (nzA x)) ?_
            refine j_getv (S 3 0) dX0_humAt_65 fX0_80 (shC hC (sgH (isA.H x))) rfl (hvs hS (by decide)) ?_
            refine j_callV (kc := 0) (ks := 0) (a := 0) (b := 0) (d' := d) (As := [.int (sfar (S 12 i) (nI n)), .int (S 3 0)]) dX0_humAt_68 kX0_83 rfl (shC hC (sgHT (isA.H x) (by have := (Sok.T ok).2; omega))) (by omega) rfl rfl rfl (Nat.le_of_ble_eq_true rfl) (Nat.le_of_ble_eq_true rfl) (T_X9_humsFar hC (sgHT (isA.H x) (by have := (Sok.T ok).2; omega)) (hvT hS (by omega) (k := 0) (by decide)) (hvT hS (by omega) (k := 1) (by decide)) (hvT hS (by omega) (k := 3) (by decide)) (sfar (S 12 i) (nI n)) (S 3 0)) (kk_p ?_)
            refine j_iadd dX0_humAt_71 ?_
            refine j_istore_n (L' := [(2, .int ((sm (fun j => humT S j (nI n)) i) + (humK (S 10 i) (S 11 i) (S 3 0) (sfar (S 12 i) (nI n))))), (4, .ref (h + 5 + i)), (0, .ref a), (1, .int (nI n)), (3, .int (nI i))]) dX0_humAt_72 (by decide) rfl ?_
            refine j_iinc 4 (nI (i + 1)) (L' := [(3, .int (nI (i + 1))), (2, .int ((sm (fun j => humT S j (nI n)) i) + (humK (S 10 i) (S 11 i) (S 3 0) (sfar (S 12 i) (nI n))))), (4, .ref (h + 5 + i)), (0, .ref a), (1, .int (nI n))]) dX0_humAt_73 rfl (inc1 i) (by decide) rfl ?_
            refine j_goto (tgt := 23) dX0_humAt_76 rfl ?_
            exact j_sub (jk_pick [3, 4, 1, 0] rfl) (ih4 (i + 1) (by omega) (by omega))
      exact j_sub (jk_pick [2, 3, 1, 0] rfl) (lp5 _ 0 (Nat.lt_succ_self _) (Nat.zero_le _))
  · exact absurd (isP_of hn) c1
