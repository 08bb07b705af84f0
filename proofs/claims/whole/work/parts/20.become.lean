set_option maxRecDepth 20000 in
set_option maxHeartbeats 4000000 in
theorem T_X2_addNeighbour {d : Nat} {M : jk_M} {h : Nat} {S : HS} (hC : WC M) (hh : isH h) (hS : hv M.2.1 h = S) (ok : Sok S) (c n : Int32) (h8 : nN S < 8) : J Fr_X2_addNeighbour d 0 0 0 [(0, .ref h), (1, .int c), (2, .int n)] [] M (jk_ex (some (.int (nI (nN S)))) (fun M1 => Sm (HO h) M M1 ∧ hv M1.2.1 h = addNS S c n)) := by
  refine j_post (fun Q hQ => ?_)
  refine j_aload_n 0 dX2_addNeighbour_0 rfl ?_
  refine j_getv (nI (nN S)) dX2_addNeighbour_1 fX2_36 (shC hC (sgH hh)) rfl ((hvs hS (by decide)).trans (Sok.N ok).1) ?_
  refine j_istore_n (L' := [(3, .int (nI (nN S))), (0, .ref h), (1, .int c), (2, .int n)]) dX2_addNeighbour_4 (by decide) rfl ?_
  refine j_iload_n 0 dX2_addNeighbour_5 rfl ?_
  refine j_if_ltN (tgt := 15) (nN S) dX2_addNeighbour_6 (by omega) rfl ?_
  refine j_iload_n 0 dX2_addNeighbour_9 rfl ?_
  refine j_bipush 8 dX2_addNeighbour_10 bp_8 ?_
  refine j_icmp_ltN (tgt := 17) (nN S) 8 dX2_addNeighbour_12 rfl (by omega) (by omega) (fun c2 => ?_) (fun c2 => ?_)
  · refine j_aload_n 1 dX2_addNeighbour_17 rfl ?_
    refine j_getr (q := (h + 3)) dX2_addNeighbour_18 fX2_54 (shC hC (sgH hh)) rfl (rfC hC (rfH12 hh) (nzH hh)) ?_
    refine j_iload_n 0 dX2_addNeighbour_21 rfl ?_
    refine j_iload_n 2 dX2_addNeighbour_22 rfl ?_
    refine j_iastN (nN S) dX2_addNeighbour_23 (shC hC (sgH3 hh)) (by omega) (by omega) ?_
    have sm3 : Sm (HO h) M (jk_wI M (h + 3) (nN S) c) := Sm.w Sm.rf (HO0 (by decide))
    refine j_aload_n 1 dX2_addNeighbour_24 rfl ?_
    refine j_getr (q := (h + 4)) dX2_addNeighbour_25 fX2_58 (shC (Sm.C sm3 hC) (sgH hh)) rfl (rfC (Sm.C sm3 hC) (rfH13 hh) (nzH hh)) ?_
    refine j_iload_n 0 dX2_addNeighbour_28 rfl ?_
    refine j_iload_n 3 dX2_addNeighbour_29 rfl ?_
    refine j_iastN (nN S) dX2_addNeighbour_30 (shC (Sm.C sm3 hC) (sgH4 hh)) (by omega) (by omega) ?_
    have sm4 : Sm (HO h) M (jk_wI (jk_wI M (h + 3) (nN S) c) (h + 4) (nN S) n) := Sm.w sm3 (HO0 (by decide))
    refine j_aload_n 1 dX2_addNeighbour_31 rfl ?_
    refine j_dup dX2_addNeighbour_32 rfl ?_
    refine j_getv (nI (nN S)) dX2_addNeighbour_33 fX2_36 (shC (Sm.C sm4 hC) (sgH hh)) rfl ((rd_o (by omega)).trans ((rd_o (by omega)).trans ((hvs hS (by decide)).trans (Sok.N ok).1))) ?_
    refine j_iconst 1 dX2_addNeighbour_36 ic_1 ?_
    refine j_iaddN (nN S) 1 dX2_addNeighbour_37 ?_
    refine j_put dX2_addNeighbour_38 fX2_36 (shC (Sm.C sm4 hC) (sgH hh)) rfl ?_
    have sm5 : Sm (HO h) M (jk_wI (jk_wI (jk_wI M (h + 3) (nN S) c) (h + 4) (nN S) n) h 8 (nI ((nN S) + 1))) := Sm.w sm4 HOz
    refine j_iload_n 0 dX2_addNeighbour_41 rfl ?_
    refine j_iret dX2_addNeighbour_42 rfl ?_
    exact hQ _ _ ⟨rfl, sm5, hv_addN hS ok h8⟩
  · exact absurd c2 (by omega)
set_option maxRecDepth 20000 in
set_option maxHeartbeats 4000000 in
theorem T_X2_tune {d : Nat} {M : jk_M} {h : Nat} {S : HS} (hC : WC M) (hh : isH h) (hS : hv M.2.1 h = S) (ok : Sok S) (i : Nat) (c : Int32) (hi : i < nN S) : J Fr_X2_tune d 0 0 0 [(0, .ref h), (1, .int (nI i)), (2, .int c)] [] M (jk_ex none (fun M1 => Sm (HO h) M M1 ∧ hv M1.2.1 h = upS S 14 i c)) := by
  refine j_post (fun Q hQ => ?_)
  have hN := (Sok.N ok).2
  refine j_iload_n 1 dX2_tune_0 rfl ?_
  refine j_if_ltN (tgt := 20) i dX2_tune_1 (by omega) rfl ?_
  refine j_iload_n 1 dX2_tune_4 rfl ?_
  refine j_aload_n 0 dX2_tune_5 rfl ?_
  refine j_getr (q := (h + 3)) dX2_tune_6 fX2_54 (shC hC (sgH hh)) rfl (rfC hC (rfH12 hh) (nzH hh)) ?_
  refine j_alen dX2_tune_9 (shC hC (sgH3 hh)) (by decide) ?_
  refine j_icmp_geN (tgt := 20) i 8 dX2_tune_10 rfl (by omega) (by omega) (fun c2 => ?_) (fun c2 => ?_)
  · exact absurd c2 (by omega)
  · refine j_aload_n 0 dX2_tune_13 rfl ?_
    refine j_getr (q := (h + 3)) dX2_tune_14 fX2_54 (shC hC (sgH hh)) rfl (rfC hC (rfH12 hh) (nzH hh)) ?_
    refine j_iload_n 1 dX2_tune_17 rfl ?_
    refine j_iload_n 2 dX2_tune_18 rfl ?_
    refine j_iastN i dX2_tune_19 (shC hC (sgH3 hh)) (by omega) (by omega) ?_
    have sm3 : Sm (HO h) M (jk_wI M (h + 3) i c) := Sm.w Sm.rf (HO0 (by decide))
    refine j_vret dX2_tune_20 rfl ?_
    exact hQ _ _ ⟨rfl, sm3, hv_nb hS ok hi (k := 0) (by decide)⟩
set_option maxRecDepth 20000 in
set_option maxHeartbeats 4000000 in
theorem T_X2_place {d : Nat} {M : jk_M} {h : Nat} {S : HS} (hC : WC M) (hh : isH h) (hS : hv M.2.1 h = S) (ok : Sok S) (b c : Int32) : J Fr_X2_place d 0 0 0 [(0, .ref h), (1, .int b), (2, .int c)] [] M (jk_ex none (fun M1 => Sm (HO h) M M1 ∧ hv M1.2.1 h = (if b = 0 then upS S 5 0 c else upS S 6 0 c))) := by
  refine j_post (fun Q hQ => ?_)
  refine j_iload_n 1 dX2_place_0 rfl ?_
  refine j_if_ne (tgt := 12) dX2_place_1 rfl (fun c1 => ?_) (fun c1 => ?_)
  · refine j_aload_n 0 dX2_place_12 rfl ?_
    refine j_iload_n 2 dX2_place_13 rfl ?_
    refine j_put dX2_place_14 fX2_30 (shC hC (sgH hh)) rfl ?_
    have sm2 : Sm (HO h) M (jk_wI M h 6 c) := Sm.w Sm.rf HOz
    refine j_vret dX2_place_17 rfl ?_
    exact hQ _ _ ⟨rfl, sm2, by rw [if_neg c1]; exact hv_sc hS ok (by decide) (by decide) (by decide) (by decide)⟩
  · refine j_aload_n 0 dX2_place_4 rfl ?_
    refine j_iload_n 2 dX2_place_5 rfl ?_
    refine j_put dX2_place_6 fX2_27 (shC hC (sgH hh)) rfl ?_
    have sm3 : Sm (HO h) M (jk_wI M h 5 c) := Sm.w Sm.rf HOz
    refine j_goto (tgt := 17) dX2_place_9 rfl ?_
    refine j_vret dX2_place_17 rfl ?_
    exact hQ _ _ ⟨rfl, sm3, by rw [if_pos c1]; exact hv_sc hS ok (by decide) (by decide) (by decide) (by decide)⟩
set_option maxRecDepth 20000 in
set_option maxHeartbeats 4000000 in
theorem T_X2_draw {d : Nat} {M : jk_M} {h : Nat} {S : HS} (hC : WC M) (hh : isH h) (hS : hv M.2.1 h = S) (ok : Sok S) (n : Int32) : J Fr_X2_draw d 0 0 0 [(0, .ref h), (1, .int n)] [] M (jk_ex (some (.int (drawN (drawS S) n))) (fun M1 => Sm (HO h) M M1 ∧ hv M1.2.1 h = upS S 4 0 (drawS S))) := by
  refine j_post (fun Q hQ => ?_)
  refine j_aload_n 0 dX2_draw_0 rfl ?_
  refine j_aload_n 0 dX2_draw_1 rfl ?_
  refine j_getv (S 4 0) dX2_draw_2 fX2_24 (shC hC (sgH hh)) rfl (hvs hS (by decide)) ?_
  refine j_ldc dX2_draw_5 ckX2_122 ?_
  refine j_imul dX2_draw_7 ?_
  refine j_sipush 12345 dX2_draw_8 sp_12345 ?_
  refine j_iadd dX2_draw_11 ?_
  refine j_put dX2_draw_12 fX2_24 (shC hC (sgH hh)) rfl ?_
  have sm1 : Sm (HO h) M (jk_wI M h 4 (((S 4 0) * 1103515245) + 12345)) := Sm.w Sm.rf HOz
  refine j_iload_n 1 dX2_draw_15 rfl ?_
  refine j_if_le (tgt := 31) dX2_draw_16 rfl (fun c2 => ?_) (fun c2 => ?_)
  · refine j_iconst 0 dX2_draw_31 ic_0 ?_
    refine j_iret dX2_draw_32 rfl ?_
    exact hQ _ _ ⟨by clear hQ; grind [drawN], sm1, hv_sc hS ok (by decide) (by decide) (by decide) (by decide)⟩
  · refine j_aload_n 0 dX2_draw_19 rfl ?_
    refine j_getv (drawS S) dX2_draw_20 fX2_24 (shC (Sm.C sm1 hC) (sgH hh)) rfl rd_s ?_
    refine j_bipush 16 dX2_draw_23 bp_16 ?_
    refine j_iushr dX2_draw_25 ?_
    refine j_iload_n 1 dX2_draw_26 rfl ?_
    refine j_irem dX2_draw_27 (by clear hQ; grind) ?_
    refine j_goto (tgt := 32) dX2_draw_28 rfl ?_
    refine j_iret dX2_draw_32 rfl ?_
    exact hQ _ _ ⟨by clear hQ; grind [drawN], sm1, hv_sc hS ok (by decide) (by decide) (by decide) (by decide)⟩
theorem bec_sc {M : jk_M} {h h2 : Nat} {b : Nat} (hb : b < 10) : (jk_wI (jk_wI (jk_wI (jk_wI (jk_wI (jk_wI (jk_wI (jk_wI (jk_wI (jk_wI M h 0 (M.2.1 h2 0)) h 1 (M.2.1 h2 1)) h 2 (M.2.1 h2 2)) h 3 (M.2.1 h2 3)) h 4 (M.2.1 h2 4)) h 5 (M.2.1 h2 5)) h 6 (M.2.1 h2 6)) h 7 (M.2.1 h2 7)) h 8 (M.2.1 h2 8)) h 9 (M.2.1 h2 9)).2.1 h b = M.2.1 h2 b := by
  have : b = 0 ∨ b = 1 ∨ b = 2 ∨ b = 3 ∨ b = 4 ∨ b = 5 ∨ b = 6 ∨ b = 7 ∨ b = 8 ∨ b = 9 := by omega
  rcases this with rfl | rfl | rfl | rfl | rfl | rfl | rfl | rfl | rfl | rfl <;> simp [jk_wI, va_up]
set_option maxRecDepth 20000 in
set_option maxHeartbeats 4000000 in
theorem T_X2_become {d : Nat} {M : jk_M} {h h2 : Nat} {S : HS} (hC : WC M) (hh : isH h) (hh2 : isH h2) (hne : h ≠ h2) (hS : hv M.2.1 h2 = S) (ok : Sok S) : J Fr_X2_become (d + 1) 0 0 0 [(0, .ref h), (1, .ref h2)] [] M (jk_ex none (fun M1 => Sm (HO h) M M1 ∧ hv M1.2.1 h = S)) := by
  refine j_post (fun Q hQ => ?_)
  have hap := HOap hh hh2 hne
  obtain ⟨k1, k2, k3⟩ := ok.cn
  refine j_aload_n 1 dX2_become_0 rfl ?_
  refine j_ifnonnull (tgt := 5) dX2_become_1 rfl ?_
  refine j_aload_n 0 dX2_become_5 rfl ?_
  refine j_aload_n 1 dX2_become_6 rfl ?_
  refine j_getv (M.2.1 h2 0) dX2_become_7 fX2_9 (shC hC (sgH hh2)) rfl rfl ?_
  refine j_put dX2_become_10 fX2_9 (shC hC (sgH hh)) rfl ?_
  have sm1 : Sm (HO h) M (jk_wI M h 0 (M.2.1 h2 0)) := Sm.w Sm.rf HOz
  refine j_aload_n 0 dX2_become_13 rfl ?_
  refine j_aload_n 1 dX2_become_14 rfl ?_
  refine j_getv (M.2.1 h2 1) dX2_become_15 fX2_15 (shC (Sm.C sm1 hC) (sgH hh2)) rfl (congrFun (sm1.2.2 _ (hap _ HOz)) 1) ?_
  refine j_put dX2_become_18 fX2_15 (shC (Sm.C sm1 hC) (sgH hh)) rfl ?_
  have sm2 : Sm (HO h) M (jk_wI (jk_wI M h 0 (M.2.1 h2 0)) h 1 (M.2.1 h2 1)) := Sm.w sm1 HOz
  refine j_aload_n 0 dX2_become_21 rfl ?_
  refine j_aload_n 1 dX2_become_22 rfl ?_
  refine j_getv (M.2.1 h2 2) dX2_become_23 fX2_18 (shC (Sm.C sm2 hC) (sgH hh2)) rfl (congrFun (sm2.2.2 _ (hap _ HOz)) 2) ?_
  refine j_put dX2_become_26 fX2_18 (shC (Sm.C sm2 hC) (sgH hh)) rfl ?_
  have sm3 : Sm (HO h) M (jk_wI (jk_wI (jk_wI M h 0 (M.2.1 h2 0)) h 1 (M.2.1 h2 1)) h 2 (M.2.1 h2 2)) := Sm.w sm2 HOz
  refine j_aload_n 0 dX2_become_29 rfl ?_
  refine j_aload_n 1 dX2_become_30 rfl ?_
  refine j_getv (M.2.1 h2 3) dX2_become_31 fX2_21 (shC (Sm.C sm3 hC) (sgH hh2)) rfl (congrFun (sm3.2.2 _ (hap _ HOz)) 3) ?_
  refine j_put dX2_become_34 fX2_21 (shC (Sm.C sm3 hC) (sgH hh)) rfl ?_
  have sm4 : Sm (HO h) M (jk_wI (jk_wI (jk_wI (jk_wI M h 0 (M.2.1 h2 0)) h 1 (M.2.1 h2 1)) h 2 (M.2.1 h2 2)) h 3 (M.2.1 h2 3)) := Sm.w sm3 HOz
  refine j_aload_n 0 dX2_become_37 rfl ?_
  refine j_aload_n 1 dX2_become_38 rfl ?_
  refine j_getv (M.2.1 h2 4) dX2_become_39 fX2_24 (shC (Sm.C sm4 hC) (sgH hh2)) rfl (congrFun (sm4.2.2 _ (hap _ HOz)) 4) ?_
  refine j_put dX2_become_42 fX2_24 (shC (Sm.C sm4 hC) (sgH hh)) rfl ?_
  have sm5 : Sm (HO h) M (jk_wI (jk_wI (jk_wI (jk_wI (jk_wI M h 0 (M.2.1 h2 0)) h 1 (M.2.1 h2 1)) h 2 (M.2.1 h2 2)) h 3 (M.2.1 h2 3)) h 4 (M.2.1 h2 4)) := Sm.w sm4 HOz
  refine j_aload_n 0 dX2_become_45 rfl ?_
  refine j_aload_n 1 dX2_become_46 rfl ?_
  refine j_getv (M.2.1 h2 5) dX2_become_47 fX2_27 (shC (Sm.C sm5 hC) (sgH hh2)) rfl (congrFun (sm5.2.2 _ (hap _ HOz)) 5) ?_
  refine j_put dX2_become_50 fX2_27 (shC (Sm.C sm5 hC) (sgH hh)) rfl ?_
  have sm6 : Sm (HO h) M (jk_wI (jk_wI (jk_wI (jk_wI (jk_wI (jk_wI M h 0 (M.2.1 h2 0)) h 1 (M.2.1 h2 1)) h 2 (M.2.1 h2 2)) h 3 (M.2.1 h2 3)) h 4 (M.2.1 h2 4)) h 5 (M.2.1 h2 5)) := Sm.w sm5 HOz
  refine j_aload_n 0 dX2_become_53 rfl ?_
  refine j_aload_n 1 dX2_become_54 rfl ?_
  refine j_getv (M.2.1 h2 6) dX2_become_55 fX2_30 (shC (Sm.C sm6 hC) (sgH hh2)) rfl (congrFun (sm6.2.2 _ (hap _ HOz)) 6) ?_
  refine j_put dX2_become_58 fX2_30 (shC (Sm.C sm6 hC) (sgH hh)) rfl ?_
  have sm7 : Sm (HO h) M (jk_wI (jk_wI (jk_wI (jk_wI (jk_wI (jk_wI (jk_wI M h 0 (M.2.1 h2 0)) h 1 (M.2.1 h2 1)) h 2 (M.2.1 h2 2)) h 3 (M.2.1 h2 3)) h 4 (M.2.1 h2 4)) h 5 (M.2.1 h2 5)) h 6 (M.2.1 h2 6)) := Sm.w sm6 HOz
  refine j_aload_n 0 dX2_become_61 rfl ?_
  refine j_aload_n 1 dX2_become_62 rfl ?_
  refine j_getv (M.2.1 h2 7) dX2_become_63 fX2_33 (shC (Sm.C sm7 hC) (sgH hh2)) rfl (congrFun (sm7.2.2 _ (hap _ HOz)) 7) ?_
  refine j_put dX2_become_66 fX2_33 (shC (Sm.C sm7 hC) (sgH hh)) rfl ?_
  have sm8 : Sm (HO h) M (jk_wI (jk_wI (jk_wI (jk_wI (jk_wI (jk_wI (jk_wI (jk_wI M h 0 (M.2.1 h2 0)) h 1 (M.2.1 h2 1)) h 2 (M.2.1 h2 2)) h 3 (M.2.1 h2 3)) h 4 (M.2.1 h2 4)) h 5 (M.2.1 h2 5)) h 6 (M.2.1 h2 6)) h 7 (M.2.1 h2 7)) := Sm.w sm7 HOz
  refine j_aload_n 0 dX2_become_69 rfl ?_
  refine j_aload_n 1 dX2_become_70 rfl ?_
  refine j_getv (M.2.1 h2 8) dX2_become_71 fX2_36 (shC (Sm.C sm8 hC) (sgH hh2)) rfl (congrFun (sm8.2.2 _ (hap _ HOz)) 8) ?_
  refine j_put dX2_become_74 fX2_36 (shC (Sm.C sm8 hC) (sgH hh)) rfl ?_
  have sm9 : Sm (HO h) M (jk_wI (jk_wI (jk_wI (jk_wI (jk_wI (jk_wI (jk_wI (jk_wI (jk_wI M h 0 (M.2.1 h2 0)) h 1 (M.2.1 h2 1)) h 2 (M.2.1 h2 2)) h 3 (M.2.1 h2 3)) h 4 (M.2.1 h2 4)) h 5 (M.2.1 h2 5)) h 6 (M.2.1 h2 6)) h 7 (M.2.1 h2 7)) h 8 (M.2.1 h2 8)) := Sm.w sm8 HOz
  refine j_aload_n 0 dX2_become_77 rfl ?_
  refine j_aload_n 1 dX2_become_78 rfl ?_
  refine j_getv (M.2.1 h2 9) dX2_become_79 fX2_39 (shC (Sm.C sm9 hC) (sgH hh2)) rfl (congrFun (sm9.2.2 _ (hap _ HOz)) 9) ?_
  refine j_put dX2_become_82 fX2_39 (shC (Sm.C sm9 hC) (sgH hh)) rfl ?_
  have sm10 : Sm (HO h) M (jk_wI (jk_wI (jk_wI (jk_wI (jk_wI (jk_wI (jk_wI (jk_wI (jk_wI (jk_wI M h 0 (M.2.1 h2 0)) h 1 (M.2.1 h2 1)) h 2 (M.2.1 h2 2)) h 3 (M.2.1 h2 3)) h 4 (M.2.1 h2 4)) h 5 (M.2.1 h2 5)) h 6 (M.2.1 h2 6)) h 7 (M.2.1 h2 7)) h 8 (M.2.1 h2 8)) h 9 (M.2.1 h2 9)) := Sm.w sm9 HOz
  refine j_iconst 0 dX2_become_85 ic_0 ?_
  refine j_istore_n (L' := [(2, .int 0), (0, .ref h), (1, .ref h2)]) dX2_become_86 (by decide) rfl ?_
  have lp13 : ∀ (k11 : Nat) (i : Nat) (M1 : jk_M), nT S - i < k11 → (i ≤ nT S) → (Bec h h2 M M1 i 0 0) → J Fr_X2_become (d + 1) 0 0 87 [(0, .ref h), (1, .ref h2), (2, .int (nI i))] [] M1 Q := by
    intro k11
    induction k11 with
    | zero => intro i M1 hk; exact absurd hk (Nat.not_lt_zero _)
    | succ k11 ih12 =>
      intro i M1 hk11 hi hb1
      refine j_iload_n 2 dX2_become_87 rfl ?_
      refine j_aload_n 0 dX2_become_88 rfl ?_
      refine j_getv (nI (nT S)) dX2_become_89 fX2_33 (shC (Sm.C hb1.1 hC) (sgH hh)) rfl (hb1.c hS ok).1 ?_
      refine j_icmp_geN (tgt := 120) i (nT S) dX2_become_92 rfl (by omega) (by omega) (fun c14 => ?_) (fun c14 => ?_)
      · refine j_iconst 0 dX2_become_120 ic_0 ?_
        refine j_istore_n (L' := [(2, .int 0), (0, .ref h), (1, .ref h2)]) dX2_become_121 (by decide) rfl ?_
        have ei : i = nT S := by omega
        subst ei
        have lp17 : ∀ (k15 : Nat) (i : Nat) (M2 : jk_M), nD S - i < k15 → (i ≤ nD S) → (Bec h h2 M M2 (nT S) i 0) → J Fr_X2_become (d + 1) 0 0 122 [(0, .ref h), (1, .ref h2), (2, .int (nI i))] [] M2 Q := by
          intro k15
          induction k15 with
          | zero => intro i M2 hk; exact absurd hk (Nat.not_lt_zero _)
          | succ k15 ih16 =>
            intro i M2 hk15 hi2 hb2
            refine j_iload_n 2 dX2_become_122 rfl ?_
            refine j_aload_n 0 dX2_become_123 rfl ?_
            refine j_getv (nI (nD S)) dX2_become_124 fX2_39 (shC (Sm.C hb2.1 hC) (sgH hh)) rfl (hb2.c hS ok).2 ?_
            refine j_icmp_geN (tgt := 155) i (nD S) dX2_become_127 rfl (by omega) (by omega) (fun c18 => ?_) (fun c18 => ?_)
            · refine j_iconst 0 dX2_become_155 ic_0 ?_
              refine j_istore_n (L' := [(2, .int 0), (0, .ref h), (1, .ref h2)]) dX2_become_156 (by decide) rfl ?_
              have ei : i = nD S := by omega
              subst ei
              have lp21 : ∀ (k19 : Nat) (i : Nat) (M3 : jk_M), 8 - i < k19 → (i ≤ 8) → (Bec h h2 M M3 (nT S) (nD S) i) → J Fr_X2_become (d + 1) 0 0 157 [(0, .ref h), (1, .ref h2), (2, .int (nI i))] [] M3 Q := by
                intro k19
                induction k19 with
                | zero => intro i M3 hk; exact absurd hk (Nat.not_lt_zero _)
                | succ k19 ih20 =>
                  intro i M3 hk19 hi3 hb3
                  refine j_iload_n 2 dX2_become_157 rfl ?_
                  refine j_bipush 8 dX2_become_158 bp_8 ?_
                  refine j_icmp_geN (tgt := 191) i 8 dX2_become_160 rfl (by omega) (by omega) (fun c22 => ?_) (fun c22 => ?_)
                  · refine j_vret dX2_become_191 rfl ?_
                    have ei : i = 8 := by omega
                    subst ei
                    exact hQ _ _ ⟨rfl, hb3.1, hb3.fin hS ok⟩
                  · refine j_aload_n 0 dX2_become_163 rfl ?_
                    refine j_getr (q := (h + 3)) dX2_become_164 fX2_54 (shC (Sm.C hb3.1 hC) (sgH hh)) rfl (rfC (Sm.C hb3.1 hC) (rfH12 hh) (nzH hh)) ?_
                    refine j_iload_n 2 dX2_become_167 rfl ?_
                    refine j_aload_n 1 dX2_become_168 rfl ?_
                    refine j_iload_n 2 dX2_become_169 rfl ?_
                    refine j_callV (kc := 0) (ks := 0) (a := 0) (b := 0) (d' := d) (As := [.int (nI i)]) dX2_become_170 kX2_78 rfl (shC (Sm.C hb3.1 hC) (sgH hh2)) (by omega) rfl rfl rfl (Nat.le_of_ble_eq_true rfl) (Nat.le_of_ble_eq_true rfl) (T_X2_channelAt (Sm.C hb3.1 hC) hh2 i (by omega)) (kk_p ?_)
                    refine j_iastN i dX2_become_173 (shC (Sm.C hb3.1 hC) (sgH3 hh)) (by omega) (by omega) ?_
                    have sm23 : Sm (HO h) M (jk_wI M3 (h + 3) i (M3.2.1 (h2 + 3) i)) := Sm.w hb3.1 (HO0 (by decide))
                    refine j_aload_n 0 dX2_become_174 rfl ?_
                    refine j_getr (q := (h + 4)) dX2_become_175 fX2_58 (shC (Sm.C sm23 hC) (sgH hh)) rfl (rfC (Sm.C sm23 hC) (rfH13 hh) (nzH hh)) ?_
                    refine j_iload_n 2 dX2_become_178 rfl ?_
                    refine j_aload_n 1 dX2_become_179 rfl ?_
                    refine j_iload_n 2 dX2_become_180 rfl ?_
                    refine j_callV (kc := 0) (ks := 0) (a := 0) (b := 0) (d' := d) (As := [.int (nI i)]) dX2_become_181 kX2_82 rfl (shC (Sm.C sm23 hC) (sgH hh2)) (by omega) rfl rfl rfl (Nat.le_of_ble_eq_true rfl) (Nat.le_of_ble_eq_true rfl) (T_X2_noiseAt (Sm.C sm23 hC) hh2 i (by omega)) (kk_p ?_)
                    refine j_iastN i dX2_become_184 (shC (Sm.C sm23 hC) (sgH4 hh)) (by omega) (by omega) ?_
                    have sm24 : Sm (HO h) M (jk_wI (jk_wI M3 (h + 3) i (M3.2.1 (h2 + 3) i)) (h + 4) i ((jk_wI M3 (h + 3) i (M3.2.1 (h2 + 3) i)).2.1 (h2 + 4) i)) := Sm.w sm23 (HO0 (by decide))
                    refine j_iinc 2 (nI (i + 1)) (L' := [(2, .int (nI (i + 1))), (0, .ref h), (1, .ref h2)]) dX2_become_185 rfl (inc1 i) (by decide) rfl ?_
                    refine j_goto (tgt := 157) dX2_become_188 rfl ?_
                    exact j_sub (jk_pick [1, 2, 0] rfl) (ih20 (i + 1) (jk_wI (jk_wI M3 (h + 3) i (M3.2.1 (h2 + 3) i)) (h + 4) i ((jk_wI M3 (h + 3) i (M3.2.1 (h2 + 3) i)).2.1 (h2 + 4) i)) (by omega) (by omega) (hb3.ne hap (by omega) k1 k3 rfl (rd_o (by rcases hh with rfl | rfl | rfl <;> rcases hh2 with rfl | rfl | rfl <;> omega))))
              exact j_sub (jk_pick [1, 2, 0] rfl) (lp21 _ 0 M2 (Nat.lt_succ_self _) (by omega) hb2)
            · refine j_aload_n 0 dX2_become_130 rfl ?_
              refine j_iload_n 2 dX2_become_131 rfl ?_
              refine j_callV (kc := 0) (ks := 0) (a := 0) (b := 0) (d' := d) (As := [.int (nI i)]) dX2_become_132 kX2_71 rfl (shC (Sm.C hb2.1 hC) (sgH hh)) (by omega) rfl rfl rfl (Nat.le_of_ble_eq_true rfl) (Nat.le_of_ble_eq_true rfl) (T_X2_deviceAtR (Sm.C hb2.1 hC) hh (nD S) i (hb2.c hS ok).2 (by omega) (by omega)) (kk_p ?_)
              refine j_astore_n (L' := [(3, .ref (h + 21 + i)), (0, .ref h), (1, .ref h2), (2, .int (nI i))]) dX2_become_135 (by decide) rfl ?_
              refine j_aload_n 0 dX2_become_136 rfl ?_
              refine j_ifnull dX2_become_137 ?_
              refine j_aload_n 0 dX2_become_140 rfl ?_
              refine j_aload_n 2 dX2_become_141 rfl ?_
              refine j_iload_n 3 dX2_become_142 rfl ?_
              refine j_callV (kc := 0) (ks := 0) (a := 0) (b := 0) (d' := d) (As := [.int (nI i)]) dX2_become_143 kX2_71 rfl (shC (Sm.C hb2.1 hC) (sgH hh2)) (by omega) rfl rfl rfl (Nat.le_of_ble_eq_true rfl) (Nat.le_of_ble_eq_true rfl) (T_X2_deviceAt (Sm.C hb2.1 hC) hh2 (Sm.hv hb2.1 hS ok hap) ok i (by omega)) (kk_p ?_)
              refine j_callV (kc := 0) (ks := 0) (a := 0) (b := 0) (d' := d) (As := [.ref (h2 + 21 + i)]) dX2_become_146 kX2_75 rfl (shC (Sm.C hb2.1 hC) (sgHD hh (by omega))) (by omega) rfl rfl rfl (Nat.le_of_ble_eq_true rfl) (Nat.le_of_ble_eq_true rfl) (T_X1_become (Sm.C hb2.1 hC) (sgHD hh (by omega)) (sgHD hh2 (by have := (Sok.D ok).2; omega)) (by rcases hh with rfl | rfl | rfl <;> rcases hh2 with rfl | rfl | rfl <;> omega) (by rw [hvD (Sm.hv hb2.1 hS ok hap) (by omega) (by decide)]; exact (Sok.de ok (by omega)).2.2.2)) (kk_pv ?_)
              refine j_iinc 3 (nI (i + 1)) (L' := [(2, .int (nI (i + 1))), (3, .ref (h + 21 + i)), (0, .ref h), (1, .ref h2)]) dX2_become_149 rfl (inc1 i) (by decide) rfl ?_
              refine j_goto (tgt := 122) dX2_become_152 rfl ?_
              exact j_sub (jk_pick [2, 3, 0] rfl) (ih16 (i + 1) (jk_w4 M2 (h + 21 + i) (M2.2.1 (h2 + 21 + i) 0) (M2.2.1 (h2 + 21 + i) 1) (M2.2.1 (h2 + 21 + i) 2) (M2.2.1 (h2 + 21 + i) 3)) (by omega) (by omega) (hb2.de hap (by omega) k1))
        exact j_sub (jk_pick [1, 2, 0] rfl) (lp17 _ 0 M1 (Nat.lt_succ_self _) (Nat.zero_le _) hb1)
      · refine j_aload_n 0 dX2_become_95 rfl ?_
        refine j_iload_n 2 dX2_become_96 rfl ?_
        refine j_callV (kc := 0) (ks := 0) (a := 0) (b := 0) (d' := d) (As := [.int (nI i)]) dX2_become_97 kX2_63 rfl (shC (Sm.C hb1.1 hC) (sgH hh)) (by omega) rfl rfl rfl (Nat.le_of_ble_eq_true rfl) (Nat.le_of_ble_eq_true rfl) (T_X2_thingAtR (Sm.C hb1.1 hC) hh (nT S) i (hb1.c hS ok).1 (by omega) (by omega)) (kk_p ?_)
        refine j_astore_n (L' := [(3, .ref (h + 5 + i)), (0, .ref h), (1, .ref h2), (2, .int (nI i))]) dX2_become_100 (by decide) rfl ?_
        refine j_aload_n 0 dX2_become_101 rfl ?_
        refine j_ifnull dX2_become_102 ?_
        refine j_aload_n 0 dX2_become_105 rfl ?_
        refine j_aload_n 2 dX2_become_106 rfl ?_
        refine j_iload_n 3 dX2_become_107 rfl ?_
        refine j_callV (kc := 0) (ks := 0) (a := 0) (b := 0) (d' := d) (As := [.int (nI i)]) dX2_become_108 kX2_63 rfl (shC (Sm.C hb1.1 hC) (sgH hh2)) (by omega) rfl rfl rfl (Nat.le_of_ble_eq_true rfl) (Nat.le_of_ble_eq_true rfl) (T_X2_thingAt (Sm.C hb1.1 hC) hh2 (Sm.hv hb1.1 hS ok hap) ok i (by omega)) (kk_p ?_)
        refine j_callV (kc := 0) (ks := 0) (a := 0) (b := 0) (d' := d) (As := [.ref (h2 + 5 + i)]) dX2_become_111 kX2_67 rfl (shC (Sm.C hb1.1 hC) (sgHT hh (by omega))) (by omega) rfl rfl rfl (Nat.le_of_ble_eq_true rfl) (Nat.le_of_ble_eq_true rfl) (T_X9_become (Sm.C hb1.1 hC) (sgHT hh (by omega)) (sgHT hh2 (by have := (Sok.T ok).2; omega)) (by rcases hh with rfl | rfl | rfl <;> rcases hh2 with rfl | rfl | rfl <;> omega) (by rw [hvT (Sm.hv hb1.1 hS ok hap) (by omega) (by decide)]; exact (Sok.th ok (by omega)).2.2.2)) (kk_pv ?_)
        refine j_iinc 3 (nI (i + 1)) (L' := [(2, .int (nI (i + 1))), (3, .ref (h + 5 + i)), (0, .ref h), (1, .ref h2)]) dX2_become_114 rfl (inc1 i) (by decide) rfl ?_
        refine j_goto (tgt := 87) dX2_become_117 rfl ?_
        exact j_sub (jk_pick [2, 3, 0] rfl) (ih12 (i + 1) (jk_w4 M1 (h + 5 + i) (M1.2.1 (h2 + 5 + i) 0) (M1.2.1 (h2 + 5 + i) 1) (M1.2.1 (h2 + 5 + i) 2) (M1.2.1 (h2 + 5 + i) 3)) (by omega) (by omega) (hb1.th hap (by omega)))
  exact j_sub (jk_pick [1, 2, 0] rfl) (lp13 _ 0 (jk_wI (jk_wI (jk_wI (jk_wI (jk_wI (jk_wI (jk_wI (jk_wI (jk_wI (jk_wI M h 0 (M.2.1 h2 0)) h 1 (M.2.1 h2 1)) h 2 (M.2.1 h2 2)) h 3 (M.2.1 h2 3)) h 4 (M.2.1 h2 4)) h 5 (M.2.1 h2 5)) h 6 (M.2.1 h2 6)) h 7 (M.2.1 h2 7)) h 8 (M.2.1 h2 8)) h 9 (M.2.1 h2 9)) (Nat.lt_succ_self _) (Nat.zero_le _) ⟨sm10, (fun b hb => bec_sc hb), fun j hj => absurd hj (Nat.not_lt_zero j), fun j hj => absurd hj (Nat.not_lt_zero j), fun j hj => absurd hj (Nat.not_lt_zero j)⟩)
