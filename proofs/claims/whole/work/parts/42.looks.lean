/-! calls that look -/
theorem PScH : ∀ q, HO 1 q → ¬ PSc q := fun q hq e => by have := hq.2; have := e.1; omega
theorem PScL : ∀ q, AO 82 q → PSc q := fun q h => ⟨by have := AO82 h; omega, by have := AO82 h; omega⟩
theorem PScA : ∀ q, q = 82 + 4 → PSc q := fun q h => ⟨by omega, by omega⟩
theorem PScR : ∀ q, PR 82 q → PSc q := fun q h => ⟨by rcases h with h | h <;> omega, by rcases h with h | h <;> omega⟩
noncomputable def cif {α : Type} (p : Prop) (a b : α) : α := @ite α p (Classical.propDecidable p) a b
noncomputable def barsZ (Z : ZS) (b c w : Int32) : Int32 × ZS := cif (¬ (0 ≤ w ∧ w ≤ 2)) (-5, refZ Z (-5)) (cif (¬ (mayS Z.1 4 b ∧ isC Z.1 c)) (-6, refZ Z (-6)) (cif (w = 0) (strS Z.1 (plO Z.1 b) c, Z) (cif (w = 1) (barS Z.1 b c, Z) (paceS Z.1 b c, Z))))
noncomputable def wayZ (Z : ZS) (c e w : Int32) : Int32 × ZS := cif (¬ (0 ≤ w ∧ w ≤ 1)) (-5, refZ Z (-5)) (cif (¬ (isC Z.1 c ∧ isC Z.1 e)) (-6, refZ Z (-6)) (cif (w = 0) (sfar c e, Z) (wayS Z.1 c e, Z)))
noncomputable def humZ (Z : ZS) (c w : Int32) : Int32 × ZS := cif (¬ (0 ≤ w ∧ w ≤ 1)) (-5, refZ Z (-5)) (cif (¬ isC Z.1 c) (-6, refZ Z (-6)) (cif (w = 1) (dinS Z.1 (Z.1 2 0), Z) (humC Z.1 c, Z)))
noncomputable def filledZ (Z : ZS) (w : Int32) : Int32 × ZS := cif (¬ (0 ≤ w ∧ w ≤ 1)) (-5, refZ Z (-5)) (cif (w = 0) (fillS Z.1, Z) (servS Z.1, Z))
set_option maxRecDepth 20000 in
set_option maxHeartbeats 4000000 in
theorem P_bars {d : Nat} {M : jk_M} {Z : ZS} (cv : CV M Z) (ok : Zok Z) (b : Int32) (c : Int32) (k : Int32) : J Fr_X10_bars (d + 6) 0 0 0 [(0, .ref 0), (1, .int b), (2, .int c), (3, .int k)] [] M (jk_ex (some (.int (barsZ Z b c k).1)) (fun M1 => CV M1 (barsZ Z b c k).2)) := by
  refine j_post (fun Q hQ => ?_)
  have hC := cv.1
  have hS := cv.2.1
  have okS := ok.1
  refine j_iload_n 3 dX10_bars_0 rfl ?_
  refine j_if_lt (tgt := 9) dX10_bars_1 rfl (fun c1 => ?_) (fun c1 => ?_)
  · refine j_aload_n 0 dX10_bars_9 rfl ?_
    refine j_bipush (-5) dX10_bars_10 bp_n5 ?_
    refine j_callV (kc := 0) (ks := 0) (a := 0) (b := 0) (d' := d) (As := [.int (-5)]) dX10_bars_12 kX10_93 rfl (shC hC sgC_0) (by omega) rfl rfl rfl (Nat.le_of_ble_eq_true rfl) (Nat.le_of_ble_eq_true rfl) (T_X10_refuse hC (-5)) (kk_p ?_)
    refine j_iret dX10_bars_15 rfl ?_
    have hz : barsZ Z b c k = ((-5), (refZ Z (-5))) := by
      clear hQ
      grind [barsZ, cif]
    exact hQ _ _ ⟨by rw [hz], by rw [hz]; exact CV.rf cv ok (-5)⟩
  · refine j_iload_n 3 dX10_bars_4 rfl ?_
    refine j_iconst 2 dX10_bars_5 ic_2 ?_
    refine j_icmp_le (tgt := 16) dX10_bars_6 rfl (fun c2 => ?_) (fun c2 => ?_)
    · refine j_aload_n 0 dX10_bars_16 rfl ?_
      refine j_getr (q := 1) dX10_bars_17 fX10_10 (shC hC sgC_0) rfl (rfC hC rfC_0_0 (nz (by decide))) ?_
      refine j_iconst 4 dX10_bars_20 ic_4 ?_
      refine j_iload_n 1 dX10_bars_21 rfl ?_
      refine j_callV (kc := 0) (ks := 0) (a := 0) (b := 0) (d' := (d + 1)) (As := [.int 4, .int b]) dX10_bars_22 kX10_150 rfl (shC hC (sgH (by simp [isH]))) (by omega) rfl rfl rfl (Nat.le_of_ble_eq_true rfl) (Nat.le_of_ble_eq_true rfl) (T_X2_may hC (by simp [isH]) hS okS 4 b) (kk_p ?_)
      refine j_if_eqB (p := (mayS Z.1 4 b)) (tgt := 39) dX10_bars_25 rfl (fun c3 => ?_) (fun c3 => ?_)
      · refine j_aload_n 0 dX10_bars_39 rfl ?_
        refine j_bipush (-6) dX10_bars_40 bp_n6 ?_
        refine j_callV (kc := 0) (ks := 0) (a := 0) (b := 0) (d' := d) (As := [.int (-6)]) dX10_bars_42 kX10_93 rfl (shC hC sgC_0) (by omega) rfl rfl rfl (Nat.le_of_ble_eq_true rfl) (Nat.le_of_ble_eq_true rfl) (T_X10_refuse hC (-6)) (kk_p ?_)
        refine j_iret dX10_bars_45 rfl ?_
        have hz : barsZ Z b c k = ((-6), (refZ Z (-6))) := by
          clear hQ
          grind [barsZ, cif]
        exact hQ _ _ ⟨by rw [hz], by rw [hz]; exact CV.rf cv ok (-6)⟩
      · refine j_aload_n 0 dX10_bars_28 rfl ?_
        refine j_getr (q := 1) dX10_bars_29 fX10_10 (shC hC sgC_0) rfl (rfC hC rfC_0_0 (nz (by decide))) ?_
        refine j_iload_n 2 dX10_bars_32 rfl ?_
        refine j_callV (kc := 0) (ks := 0) (a := 0) (b := 0) (d' := d) (As := [.int c]) dX10_bars_33 kX10_178 rfl (shC hC (sgH (by simp [isH]))) (by omega) rfl rfl rfl (Nat.le_of_ble_eq_true rfl) (Nat.le_of_ble_eq_true rfl) (T_X2_isCell hC (by simp [isH]) hS okS c) (kk_p ?_)
        refine j_if_neB (p := (isC Z.1 c)) (tgt := 46) dX10_bars_36 rfl (fun c4 => ?_) (fun c4 => ?_)
        · refine j_aload_n 0 dX10_bars_46 rfl ?_
          refine j_getr (q := 82) dX10_bars_47 fX10_27 (shC hC sgC_0) rfl (rfC hC rfC_0_3 (nz (by decide))) ?_
          refine j_callV (kc := 0) (ks := 0) (a := 0) (b := 0) (d' := (d + 2)) (As := []) dX10_bars_50 kX10_222 rfl (shC hC (sgA isA82)) (by omega) rfl rfl rfl (Nat.le_of_ble_eq_true rfl) (Nat.le_of_ble_eq_true rfl) (T_X0_lay hC isA82 hS okS) (kk_ev (fun M5 hM6 => ?_))
          obtain ⟨sm7, ha8, -⟩ := hM6
          replace sm7 := (sm7.mo PScL)
          refine j_iload_n 3 dX10_bars_53 rfl ?_
          refine j_if_ne (tgt := 74) dX10_bars_54 rfl (fun c9 => ?_) (fun c9 => ?_)
          · refine j_iload_n 3 dX10_bars_74 rfl ?_
            refine j_iconst 1 dX10_bars_75 ic_1 ?_
            refine j_icmp_ne (tgt := 91) dX10_bars_76 rfl (fun c10 => ?_) (fun c10 => ?_)
            · refine j_aload_n 0 dX10_bars_91 rfl ?_
              refine j_getr (q := 82) dX10_bars_92 fX10_27 (shC (Sm.C sm7 hC) sgC_0) rfl (rfC (Sm.C sm7 hC) rfC_0_3 (nz (by decide))) ?_
              refine j_iload_n 1 dX10_bars_95 rfl ?_
              refine j_iload_n 2 dX10_bars_96 rfl ?_
              refine j_callV (kc := 0) (ks := 0) (a := 0) (b := 0) (d' := (d + 5)) (As := [.int b, .int c]) dX10_bars_97 kX10_237 rfl (shC (Sm.C sm7 hC) (sgA isA82)) (by omega) rfl rfl rfl (Nat.le_of_ble_eq_true rfl) (Nat.le_of_ble_eq_true rfl) (T_X0_paceOf (Sm.C sm7 hC) isA82 (Sm.hv sm7 hS okS PScH) okS ha8 b c) (kk_e (fun M11 hM12 => ?_))
              obtain ⟨sm13, ha14⟩ := hM12
              replace sm13 := Sm.tr sm7 (sm13.mo PScA)
              refine j_iret dX10_bars_100 rfl ?_
              have hz : barsZ Z b c k = ((paceS Z.1 b c), Z) := by
                clear hQ
                grind [barsZ, cif]
              exact hQ _ _ ⟨by rw [hz], by rw [hz]; exact CV.sc cv ok (Sm.g sm13)⟩
            · refine j_aload_n 0 dX10_bars_79 rfl ?_
              refine j_getr (q := 82) dX10_bars_80 fX10_27 (shC (Sm.C sm7 hC) sgC_0) rfl (rfC (Sm.C sm7 hC) rfC_0_3 (nz (by decide))) ?_
              refine j_iload_n 1 dX10_bars_83 rfl ?_
              refine j_iload_n 2 dX10_bars_84 rfl ?_
              refine j_callV (kc := 0) (ks := 0) (a := 0) (b := 0) (d' := (d + 4)) (As := [.int b, .int c]) dX10_bars_85 kX10_255 rfl (shC (Sm.C sm7 hC) (sgA isA82)) (by omega) rfl rfl rfl (Nat.le_of_ble_eq_true rfl) (Nat.le_of_ble_eq_true rfl) (T_X0_barsOf (Sm.C sm7 hC) isA82 (Sm.hv sm7 hS okS PScH) okS ha8 b c) (kk_e (fun M15 hM16 => ?_))
              obtain ⟨sm17, ha18⟩ := hM16
              replace sm17 := Sm.tr sm7 (sm17.mo PScA)
              refine j_goto (tgt := 100) dX10_bars_88 rfl ?_
              refine j_iret dX10_bars_100 rfl ?_
              have hz : barsZ Z b c k = ((barS Z.1 b c), Z) := by
                clear hQ
                grind [barsZ, cif]
              exact hQ _ _ ⟨by rw [hz], by rw [hz]; exact CV.sc cv ok (Sm.g sm17)⟩
          · refine j_aload_n 0 dX10_bars_57 rfl ?_
            refine j_getr (q := 82) dX10_bars_58 fX10_27 (shC (Sm.C sm7 hC) sgC_0) rfl (rfC (Sm.C sm7 hC) rfC_0_3 (nz (by decide))) ?_
            refine j_aload_n 0 dX10_bars_61 rfl ?_
            refine j_getr (q := 1) dX10_bars_62 fX10_10 (shC (Sm.C sm7 hC) sgC_0) rfl (rfC (Sm.C sm7 hC) rfC_0_0 (nz (by decide))) ?_
            refine j_iload_n 1 dX10_bars_65 rfl ?_
            refine j_callV (kc := 0) (ks := 0) (a := 0) (b := 0) (d' := d) (As := [.int b]) dX10_bars_66 kX10_200 rfl (shC (Sm.C sm7 hC) (sgH (by simp [isH]))) (by omega) rfl rfl rfl (Nat.le_of_ble_eq_true rfl) (Nat.le_of_ble_eq_true rfl) (T_X2_placeOf (Sm.C sm7 hC) (by simp [isH]) (Sm.hv sm7 hS okS PScH) okS b) (kk_p ?_)
            refine j_iload_n 2 dX10_bars_69 rfl ?_
            refine j_callV (kc := 0) (ks := 0) (a := 0) (b := 0) (d' := (d + 3)) (As := [.int (plO Z.1 b), .int c]) dX10_bars_70 kX10_252 rfl (shC (Sm.C sm7 hC) (sgA isA82)) (by omega) rfl rfl rfl (Nat.le_of_ble_eq_true rfl) (Nat.le_of_ble_eq_true rfl) (T_X0_strengthFrom (Sm.C sm7 hC) isA82 (Sm.hv sm7 hS okS PScH) okS ha8 (plO Z.1 b) c) (kk_e (fun M19 hM20 => ?_))
            obtain ⟨sm21, ha22⟩ := hM20
            replace sm21 := Sm.tr sm7 (sm21.mo PScA)
            refine j_iret dX10_bars_73 rfl ?_
            have hz : barsZ Z b c k = ((strS Z.1 (plO Z.1 b) c), Z) := by
              clear hQ
              grind [barsZ, cif]
            exact hQ _ _ ⟨by rw [hz], by rw [hz]; exact CV.sc cv ok (Sm.g sm21)⟩
        · refine j_aload_n 0 dX10_bars_39 rfl ?_
          refine j_bipush (-6) dX10_bars_40 bp_n6 ?_
          refine j_callV (kc := 0) (ks := 0) (a := 0) (b := 0) (d' := d) (As := [.int (-6)]) dX10_bars_42 kX10_93 rfl (shC hC sgC_0) (by omega) rfl rfl rfl (Nat.le_of_ble_eq_true rfl) (Nat.le_of_ble_eq_true rfl) (T_X10_refuse hC (-6)) (kk_p ?_)
          refine j_iret dX10_bars_45 rfl ?_
          have hz : barsZ Z b c k = ((-6), (refZ Z (-6))) := by
            clear hQ
            grind [barsZ, cif]
          exact hQ _ _ ⟨by rw [hz], by rw [hz]; exact CV.rf cv ok (-6)⟩
    · refine j_aload_n 0 dX10_bars_9 rfl ?_
      refine j_bipush (-5) dX10_bars_10 bp_n5 ?_
      refine j_callV (kc := 0) (ks := 0) (a := 0) (b := 0) (d' := d) (As := [.int (-5)]) dX10_bars_12 kX10_93 rfl (shC hC sgC_0) (by omega) rfl rfl rfl (Nat.le_of_ble_eq_true rfl) (Nat.le_of_ble_eq_true rfl) (T_X10_refuse hC (-5)) (kk_p ?_)
      refine j_iret dX10_bars_15 rfl ?_
      have hz : barsZ Z b c k = ((-5), (refZ Z (-5))) := by
        clear hQ
        grind [barsZ, cif]
      exact hQ _ _ ⟨by rw [hz], by rw [hz]; exact CV.rf cv ok (-5)⟩
set_option maxRecDepth 20000 in
set_option maxHeartbeats 4000000 in
theorem P_way {d : Nat} {M : jk_M} {Z : ZS} (cv : CV M Z) (ok : Zok Z) (c : Int32) (e : Int32) (k : Int32) : J Fr_X10_way (d + 3) 0 0 0 [(0, .ref 0), (1, .int c), (2, .int e), (3, .int k)] [] M (jk_ex (some (.int (wayZ Z c e k).1)) (fun M1 => CV M1 (wayZ Z c e k).2)) := by
  refine j_post (fun Q hQ => ?_)
  have hC := cv.1
  have hS := cv.2.1
  have okS := ok.1
  refine j_iload_n 3 dX10_way_0 rfl ?_
  refine j_if_lt (tgt := 9) dX10_way_1 rfl (fun c1 => ?_) (fun c1 => ?_)
  · refine j_aload_n 0 dX10_way_9 rfl ?_
    refine j_bipush (-5) dX10_way_10 bp_n5 ?_
    refine j_callV (kc := 0) (ks := 0) (a := 0) (b := 0) (d' := d) (As := [.int (-5)]) dX10_way_12 kX10_93 rfl (shC hC sgC_0) (by omega) rfl rfl rfl (Nat.le_of_ble_eq_true rfl) (Nat.le_of_ble_eq_true rfl) (T_X10_refuse hC (-5)) (kk_p ?_)
    refine j_iret dX10_way_15 rfl ?_
    have hz : wayZ Z c e k = ((-5), (refZ Z (-5))) := by
      clear hQ
      grind [wayZ, cif]
    exact hQ _ _ ⟨by rw [hz], by rw [hz]; exact CV.rf cv ok (-5)⟩
  · refine j_iload_n 3 dX10_way_4 rfl ?_
    refine j_iconst 1 dX10_way_5 ic_1 ?_
    refine j_icmp_le (tgt := 16) dX10_way_6 rfl (fun c2 => ?_) (fun c2 => ?_)
    · refine j_aload_n 0 dX10_way_16 rfl ?_
      refine j_getr (q := 1) dX10_way_17 fX10_10 (shC hC sgC_0) rfl (rfC hC rfC_0_0 (nz (by decide))) ?_
      refine j_iload_n 1 dX10_way_20 rfl ?_
      refine j_callV (kc := 0) (ks := 0) (a := 0) (b := 0) (d' := d) (As := [.int c]) dX10_way_21 kX10_178 rfl (shC hC (sgH (by simp [isH]))) (by omega) rfl rfl rfl (Nat.le_of_ble_eq_true rfl) (Nat.le_of_ble_eq_true rfl) (T_X2_isCell hC (by simp [isH]) hS okS c) (kk_p ?_)
      refine j_if_eqB (p := (isC Z.1 c)) (tgt := 38) dX10_way_24 rfl (fun c3 => ?_) (fun c3 => ?_)
      · refine j_aload_n 0 dX10_way_38 rfl ?_
        refine j_bipush (-6) dX10_way_39 bp_n6 ?_
        refine j_callV (kc := 0) (ks := 0) (a := 0) (b := 0) (d' := d) (As := [.int (-6)]) dX10_way_41 kX10_93 rfl (shC hC sgC_0) (by omega) rfl rfl rfl (Nat.le_of_ble_eq_true rfl) (Nat.le_of_ble_eq_true rfl) (T_X10_refuse hC (-6)) (kk_p ?_)
        refine j_iret dX10_way_44 rfl ?_
        have hz : wayZ Z c e k = ((-6), (refZ Z (-6))) := by
          clear hQ
          grind [wayZ, cif]
        exact hQ _ _ ⟨by rw [hz], by rw [hz]; exact CV.rf cv ok (-6)⟩
      · refine j_aload_n 0 dX10_way_27 rfl ?_
        refine j_getr (q := 1) dX10_way_28 fX10_10 (shC hC sgC_0) rfl (rfC hC rfC_0_0 (nz (by decide))) ?_
        refine j_iload_n 2 dX10_way_31 rfl ?_
        refine j_callV (kc := 0) (ks := 0) (a := 0) (b := 0) (d' := d) (As := [.int e]) dX10_way_32 kX10_178 rfl (shC hC (sgH (by simp [isH]))) (by omega) rfl rfl rfl (Nat.le_of_ble_eq_true rfl) (Nat.le_of_ble_eq_true rfl) (T_X2_isCell hC (by simp [isH]) hS okS e) (kk_p ?_)
        refine j_if_neB (p := (isC Z.1 e)) (tgt := 45) dX10_way_35 rfl (fun c4 => ?_) (fun c4 => ?_)
        · refine j_iload_n 3 dX10_way_45 rfl ?_
          refine j_if_ne (tgt := 55) dX10_way_46 rfl (fun c5 => ?_) (fun c5 => ?_)
          · refine j_aload_n 0 dX10_way_55 rfl ?_
            refine j_getr (q := 82) dX10_way_56 fX10_27 (shC hC sgC_0) rfl (rfC hC rfC_0_3 (nz (by decide))) ?_
            refine j_callV (kc := 0) (ks := 0) (a := 0) (b := 0) (d' := (d + 2)) (As := []) dX10_way_59 kX10_222 rfl (shC hC (sgA isA82)) (by omega) rfl rfl rfl (Nat.le_of_ble_eq_true rfl) (Nat.le_of_ble_eq_true rfl) (T_X0_lay hC isA82 hS okS) (kk_ev (fun M6 hM7 => ?_))
            obtain ⟨sm8, ha9, -⟩ := hM7
            replace sm8 := (sm8.mo PScL)
            refine j_aload_n 0 dX10_way_62 rfl ?_
            refine j_getr (q := 82) dX10_way_63 fX10_27 (shC (Sm.C sm8 hC) sgC_0) rfl (rfC (Sm.C sm8 hC) rfC_0_3 (nz (by decide))) ?_
            refine j_iload_n 1 dX10_way_66 rfl ?_
            refine j_iload_n 2 dX10_way_67 rfl ?_
            refine j_callV (kc := 0) (ks := 0) (a := 0) (b := 0) (d' := (d + 2)) (As := [.int c, .int e]) dX10_way_68 kX10_261 rfl (shC (Sm.C sm8 hC) (sgA isA82)) (by omega) rfl rfl rfl (Nat.le_of_ble_eq_true rfl) (Nat.le_of_ble_eq_true rfl) (T_X0_wayLoss (Sm.C sm8 hC) isA82 (Sm.hv sm8 hS okS PScH) okS ha9 c e) (kk_p ?_)
            refine j_iret dX10_way_71 rfl ?_
            have hz : wayZ Z c e k = ((wayS Z.1 c e), Z) := by
              clear hQ
              grind [wayZ, cif]
            exact hQ _ _ ⟨by rw [hz], by rw [hz]; exact CV.sc cv ok (Sm.g sm8)⟩
          · refine j_iload_n 1 dX10_way_49 rfl ?_
            refine j_iload_n 2 dX10_way_50 rfl ?_
            refine j_callS (kc := 0) (ks := 0) (a := 0) (b := 0) (d' := d) (As := [.int c, .int e]) dX10_way_51 kX10_258 rfl (by omega) rfl rfl rfl (Nat.le_of_ble_eq_true rfl) (Nat.le_of_ble_eq_true rfl) (T_X10_stepsFar c e) (kk_p ?_)
            refine j_iret dX10_way_54 rfl ?_
            have hz : wayZ Z c e k = ((sfar c e), Z) := by
              clear hQ
              grind [wayZ, cif]
            exact hQ _ _ ⟨by rw [hz], by rw [hz]; exact cv⟩
        · refine j_aload_n 0 dX10_way_38 rfl ?_
          refine j_bipush (-6) dX10_way_39 bp_n6 ?_
          refine j_callV (kc := 0) (ks := 0) (a := 0) (b := 0) (d' := d) (As := [.int (-6)]) dX10_way_41 kX10_93 rfl (shC hC sgC_0) (by omega) rfl rfl rfl (Nat.le_of_ble_eq_true rfl) (Nat.le_of_ble_eq_true rfl) (T_X10_refuse hC (-6)) (kk_p ?_)
          refine j_iret dX10_way_44 rfl ?_
          have hz : wayZ Z c e k = ((-6), (refZ Z (-6))) := by
            clear hQ
            grind [wayZ, cif]
          exact hQ _ _ ⟨by rw [hz], by rw [hz]; exact CV.rf cv ok (-6)⟩
    · refine j_aload_n 0 dX10_way_9 rfl ?_
      refine j_bipush (-5) dX10_way_10 bp_n5 ?_
      refine j_callV (kc := 0) (ks := 0) (a := 0) (b := 0) (d' := d) (As := [.int (-5)]) dX10_way_12 kX10_93 rfl (shC hC sgC_0) (by omega) rfl rfl rfl (Nat.le_of_ble_eq_true rfl) (Nat.le_of_ble_eq_true rfl) (T_X10_refuse hC (-5)) (kk_p ?_)
      refine j_iret dX10_way_15 rfl ?_
      have hz : wayZ Z c e k = ((-5), (refZ Z (-5))) := by
        clear hQ
        grind [wayZ, cif]
      exact hQ _ _ ⟨by rw [hz], by rw [hz]; exact CV.rf cv ok (-5)⟩
set_option maxRecDepth 20000 in
set_option maxHeartbeats 4000000 in
theorem P_filled {d : Nat} {M : jk_M} {Z : ZS} (cv : CV M Z) (ok : Zok Z) (k : Int32) : J Fr_X10_filled (d + 7) 0 0 0 [(0, .ref 0), (1, .int k)] [] M (jk_ex (some (.int (filledZ Z k).1)) (fun M1 => CV M1 (filledZ Z k).2)) := by
  refine j_post (fun Q hQ => ?_)
  have hC := cv.1
  have hS := cv.2.1
  have okS := ok.1
  refine j_iload_n 1 dX10_filled_0 rfl ?_
  refine j_if_lt (tgt := 9) dX10_filled_1 rfl (fun c1 => ?_) (fun c1 => ?_)
  · refine j_aload_n 0 dX10_filled_9 rfl ?_
    refine j_bipush (-5) dX10_filled_10 bp_n5 ?_
    refine j_callV (kc := 0) (ks := 0) (a := 0) (b := 0) (d' := d) (As := [.int (-5)]) dX10_filled_12 kX10_93 rfl (shC hC sgC_0) (by omega) rfl rfl rfl (Nat.le_of_ble_eq_true rfl) (Nat.le_of_ble_eq_true rfl) (T_X10_refuse hC (-5)) (kk_p ?_)
    refine j_iret dX10_filled_15 rfl ?_
    have hz : filledZ Z k = ((-5), (refZ Z (-5))) := by
      clear hQ
      grind [filledZ, cif]
    exact hQ _ _ ⟨by rw [hz], by rw [hz]; exact CV.rf cv ok (-5)⟩
  · refine j_iload_n 1 dX10_filled_4 rfl ?_
    refine j_iconst 1 dX10_filled_5 ic_1 ?_
    refine j_icmp_le (tgt := 16) dX10_filled_6 rfl (fun c2 => ?_) (fun c2 => ?_)
    · refine j_aload_n 0 dX10_filled_16 rfl ?_
      refine j_getr (q := 82) dX10_filled_17 fX10_27 (shC hC sgC_0) rfl (rfC hC rfC_0_3 (nz (by decide))) ?_
      refine j_callV (kc := 0) (ks := 0) (a := 0) (b := 0) (d' := (d + 2)) (As := []) dX10_filled_20 kX10_222 rfl (shC hC (sgA isA82)) (by omega) rfl rfl rfl (Nat.le_of_ble_eq_true rfl) (Nat.le_of_ble_eq_true rfl) (T_X0_lay hC isA82 hS okS) (kk_ev (fun M3 hM4 => ?_))
      obtain ⟨sm5, ha6, -⟩ := hM4
      replace sm5 := (sm5.mo PScL)
      refine j_iload_n 1 dX10_filled_23 rfl ?_
      refine j_if_ne (tgt := 37) dX10_filled_24 rfl (fun c7 => ?_) (fun c7 => ?_)
      · refine j_aload_n 0 dX10_filled_37 rfl ?_
        refine j_getr (q := 82) dX10_filled_38 fX10_27 (shC (Sm.C sm5 hC) sgC_0) rfl (rfC (Sm.C sm5 hC) rfC_0_3 (nz (by decide))) ?_
        refine j_callV (kc := 0) (ks := 0) (a := 0) (b := 0) (d' := (d + 5)) (As := []) dX10_filled_41 kX10_273 rfl (shC (Sm.C sm5 hC) (sgA isA82)) (by omega) rfl rfl rfl (Nat.le_of_ble_eq_true rfl) (Nat.le_of_ble_eq_true rfl) (T_X0_servedNow (Sm.C sm5 hC) isA82 (Sm.hv sm5 hS okS PScH) okS ha6) (kk_e (fun M8 hM9 => ?_))
        obtain ⟨sm10, ha11⟩ := hM9
        replace sm10 := Sm.tr sm5 (sm10.mo PScR)
        refine j_iret dX10_filled_44 rfl ?_
        have hz : filledZ Z k = ((servS Z.1), Z) := by
          clear hQ
          grind [filledZ, cif]
        exact hQ _ _ ⟨by rw [hz], by rw [hz]; exact CV.sc cv ok (Sm.g sm10)⟩
      · refine j_aload_n 0 dX10_filled_27 rfl ?_
        refine j_getr (q := 82) dX10_filled_28 fX10_27 (shC (Sm.C sm5 hC) sgC_0) rfl (rfC (Sm.C sm5 hC) rfC_0_3 (nz (by decide))) ?_
        refine j_callV (kc := 0) (ks := 0) (a := 0) (b := 0) (d' := (d + 6)) (As := []) dX10_filled_31 kX10_270 rfl (shC (Sm.C sm5 hC) (sgA isA82)) (by omega) rfl rfl rfl (Nat.le_of_ble_eq_true rfl) (Nat.le_of_ble_eq_true rfl) (T_X0_filledNow (Sm.C sm5 hC) isA82 (Sm.hv sm5 hS okS PScH) okS ha6) (kk_e (fun M12 hM13 => ?_))
        obtain ⟨sm14, ha15⟩ := hM13
        replace sm14 := Sm.tr sm5 (sm14.mo PScA)
        refine j_goto (tgt := 44) dX10_filled_34 rfl ?_
        refine j_iret dX10_filled_44 rfl ?_
        have hz : filledZ Z k = ((fillS Z.1), Z) := by
          clear hQ
          grind [filledZ, cif]
        exact hQ _ _ ⟨by rw [hz], by rw [hz]; exact CV.sc cv ok (Sm.g sm14)⟩
    · refine j_aload_n 0 dX10_filled_9 rfl ?_
      refine j_bipush (-5) dX10_filled_10 bp_n5 ?_
      refine j_callV (kc := 0) (ks := 0) (a := 0) (b := 0) (d' := d) (As := [.int (-5)]) dX10_filled_12 kX10_93 rfl (shC hC sgC_0) (by omega) rfl rfl rfl (Nat.le_of_ble_eq_true rfl) (Nat.le_of_ble_eq_true rfl) (T_X10_refuse hC (-5)) (kk_p ?_)
      refine j_iret dX10_filled_15 rfl ?_
      have hz : filledZ Z k = ((-5), (refZ Z (-5))) := by
        clear hQ
        grind [filledZ, cif]
      exact hQ _ _ ⟨by rw [hz], by rw [hz]; exact CV.rf cv ok (-5)⟩
set_option maxRecDepth 20000 in
set_option maxHeartbeats 4000000 in
theorem P_hum {d : Nat} {M : jk_M} {Z : ZS} (cv : CV M Z) (ok : Zok Z) (c : Int32) (k : Int32) : J Fr_X10_hum (d + 3) 0 0 0 [(0, .ref 0), (1, .int c), (2, .int k)] [] M (jk_ex (some (.int (humZ Z c k).1)) (fun M1 => CV M1 (humZ Z c k).2)) := by
  refine j_post (fun Q hQ => ?_)
  have hC := cv.1
  have hS := cv.2.1
  have okS := ok.1
  refine j_iload_n 2 dX10_hum_0 rfl ?_
  refine j_if_lt (tgt := 9) dX10_hum_1 rfl (fun c1 => ?_) (fun c1 => ?_)
  · refine j_aload_n 0 dX10_hum_9 rfl ?_
    refine j_bipush (-5) dX10_hum_10 bp_n5 ?_
    refine j_callV (kc := 0) (ks := 0) (a := 0) (b := 0) (d' := d) (As := [.int (-5)]) dX10_hum_12 kX10_93 rfl (shC hC sgC_0) (by omega) rfl rfl rfl (Nat.le_of_ble_eq_true rfl) (Nat.le_of_ble_eq_true rfl) (T_X10_refuse hC (-5)) (kk_p ?_)
    refine j_iret dX10_hum_15 rfl ?_
    have hz : humZ Z c k = ((-5), (refZ Z (-5))) := by
      clear hQ
      grind [humZ, cif]
    exact hQ _ _ ⟨by rw [hz], by rw [hz]; exact CV.rf cv ok (-5)⟩
  · refine j_iload_n 2 dX10_hum_4 rfl ?_
    refine j_iconst 1 dX10_hum_5 ic_1 ?_
    refine j_icmp_le (tgt := 16) dX10_hum_6 rfl (fun c2 => ?_) (fun c2 => ?_)
    · refine j_aload_n 0 dX10_hum_16 rfl ?_
      refine j_getr (q := 1) dX10_hum_17 fX10_10 (shC hC sgC_0) rfl (rfC hC rfC_0_0 (nz (by decide))) ?_
      refine j_iload_n 1 dX10_hum_20 rfl ?_
      refine j_callV (kc := 0) (ks := 0) (a := 0) (b := 0) (d' := d) (As := [.int c]) dX10_hum_21 kX10_178 rfl (shC hC (sgH (by simp [isH]))) (by omega) rfl rfl rfl (Nat.le_of_ble_eq_true rfl) (Nat.le_of_ble_eq_true rfl) (T_X2_isCell hC (by simp [isH]) hS okS c) (kk_p ?_)
      refine j_if_neB (p := (isC Z.1 c)) (tgt := 34) dX10_hum_24 rfl (fun c3 => ?_) (fun c3 => ?_)
      · refine j_iload_n 2 dX10_hum_34 rfl ?_
        refine j_iconst 1 dX10_hum_35 ic_1 ?_
        refine j_icmp_ne (tgt := 54) dX10_hum_36 rfl (fun c4 => ?_) (fun c4 => ?_)
        · refine j_aload_n 0 dX10_hum_54 rfl ?_
          refine j_getr (q := 82) dX10_hum_55 fX10_27 (shC hC sgC_0) rfl (rfC hC rfC_0_3 (nz (by decide))) ?_
          refine j_callV (kc := 0) (ks := 0) (a := 0) (b := 0) (d' := (d + 2)) (As := []) dX10_hum_58 kX10_222 rfl (shC hC (sgA isA82)) (by omega) rfl rfl rfl (Nat.le_of_ble_eq_true rfl) (Nat.le_of_ble_eq_true rfl) (T_X0_lay hC isA82 hS okS) (kk_ev (fun M5 hM6 => ?_))
          obtain ⟨sm7, ha8, -⟩ := hM6
          replace sm7 := (sm7.mo PScL)
          refine j_aload_n 0 dX10_hum_61 rfl ?_
          refine j_getr (q := 82) dX10_hum_62 fX10_27 (shC (Sm.C sm7 hC) sgC_0) rfl (rfC (Sm.C sm7 hC) rfC_0_3 (nz (by decide))) ?_
          refine j_iload_n 1 dX10_hum_65 rfl ?_
          refine j_callV (kc := 0) (ks := 0) (a := 0) (b := 0) (d' := (d + 1)) (As := [.int c]) dX10_hum_66 kX10_267 rfl (shC (Sm.C sm7 hC) (sgA isA82)) (by omega) rfl rfl rfl (Nat.le_of_ble_eq_true rfl) (Nat.le_of_ble_eq_true rfl) (T_X0_humAtP (Sm.C sm7 hC) isA82 (Sm.hv sm7 hS okS PScH) okS ha8 c (isC80 okS (by assumption))) (kk_e (fun M9 hM10 => ?_))
          obtain ⟨sm11, ha12⟩ := hM10
          replace sm11 := Sm.tr sm7 (sm11.mo PScA)
          refine j_iret dX10_hum_69 rfl ?_
          have hz : humZ Z c k = ((humC Z.1 c), Z) := by
            clear hQ
            grind [humZ, cif]
          exact hQ _ _ ⟨by rw [hz], by rw [hz]; exact CV.sc cv ok (Sm.g sm11)⟩
        · refine j_aload_n 0 dX10_hum_39 rfl ?_
          refine j_getr (q := 1) dX10_hum_40 fX10_10 (shC hC sgC_0) rfl (rfC hC rfC_0_0 (nz (by decide))) ?_
          refine j_aload_n 0 dX10_hum_43 rfl ?_
          refine j_getr (q := 1) dX10_hum_44 fX10_10 (shC hC sgC_0) rfl (rfC hC rfC_0_0 (nz (by decide))) ?_
          refine j_getv (Z.1 2 0) dX10_hum_47 fX10_209 (shC hC (sgH (by simp [isH]))) rfl (hvs hS (by decide)) ?_
          refine j_callV (kc := 0) (ks := 0) (a := 0) (b := 0) (d' := (d + 1)) (As := [.int (Z.1 2 0)]) dX10_hum_50 kX10_264 rfl (shC hC (sgH (by simp [isH]))) (by omega) rfl rfl rfl (Nat.le_of_ble_eq_true rfl) (Nat.le_of_ble_eq_true rfl) (T_X2_dinOn hC (by simp [isH]) hS okS (Z.1 2 0)) (kk_p ?_)
          refine j_iret dX10_hum_53 rfl ?_
          have hz : humZ Z c k = ((dinS Z.1 (Z.1 2 0)), Z) := by
            clear hQ
            grind [humZ, cif]
          exact hQ _ _ ⟨by rw [hz], by rw [hz]; exact cv⟩
      · refine j_aload_n 0 dX10_hum_27 rfl ?_
        refine j_bipush (-6) dX10_hum_28 bp_n6 ?_
        refine j_callV (kc := 0) (ks := 0) (a := 0) (b := 0) (d' := d) (As := [.int (-6)]) dX10_hum_30 kX10_93 rfl (shC hC sgC_0) (by omega) rfl rfl rfl (Nat.le_of_ble_eq_true rfl) (Nat.le_of_ble_eq_true rfl) (T_X10_refuse hC (-6)) (kk_p ?_)
        refine j_iret dX10_hum_33 rfl ?_
        have hz : humZ Z c k = ((-6), (refZ Z (-6))) := by
          clear hQ
          grind [humZ, cif]
        exact hQ _ _ ⟨by rw [hz], by rw [hz]; exact CV.rf cv ok (-6)⟩
    · refine j_aload_n 0 dX10_hum_9 rfl ?_
      refine j_bipush (-5) dX10_hum_10 bp_n5 ?_
      refine j_callV (kc := 0) (ks := 0) (a := 0) (b := 0) (d' := d) (As := [.int (-5)]) dX10_hum_12 kX10_93 rfl (shC hC sgC_0) (by omega) rfl rfl rfl (Nat.le_of_ble_eq_true rfl) (Nat.le_of_ble_eq_true rfl) (T_X10_refuse hC (-5)) (kk_p ?_)
      refine j_iret dX10_hum_15 rfl ?_
      have hz : humZ Z c k = ((-5), (refZ Z (-5))) := by
        clear hQ
        grind [humZ, cif]
      exact hQ _ _ ⟨by rw [hz], by rw [hz]; exact CV.rf cv ok (-5)⟩
