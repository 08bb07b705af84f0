/-! calls that change the house -/
def PNw (q : Nat) : Prop := HO 1 q ∨ PSc q
noncomputable def sideZ (Z : ZS) (n : Int32) : Int32 × ZS := cif (¬ mayS Z.1 0 n) (-6, refZ Z (-6)) (Z.1 0 0, nowZ Z (upS Z.1 0 0 n))
noncomputable def thingZ (Z : ZS) (k a c : Int32) : Int32 × ZS := cif (¬ mayS Z.1 1 k) (-1, refZ Z (-1)) (cif (¬ (mayS Z.1 2 a ∧ isC Z.1 c)) (-6, refZ Z (-6)) (cif (16 ≤ nT Z.1) (-7, refZ Z (-7)) (nI (nT Z.1), nowZ Z (addTS Z.1 k a c))))
noncomputable def neighZ (Z : ZS) (c n : Int32) : Int32 × ZS := cif (¬ (mayS Z.1 6 c ∧ mayS Z.1 7 n)) (-6, refZ Z (-6)) (cif (8 ≤ nN Z.1) (-7, refZ Z (-7)) (nI (nN Z.1), nowZ Z (addNS Z.1 c n)))
noncomputable def devZ (Z : ZS) (c w v : Int32) : Int32 × ZS := cif (¬ (isC Z.1 c ∧ mayS Z.1 8 w ∧ mayS Z.1 9 v)) (-6, refZ Z (-6)) (cif (6 ≤ nD Z.1) (-7, refZ Z (-7)) (nI (nD Z.1), nowZ Z (addDS Z.1 c w v)))
noncomputable def boxZ (Z : ZS) (b c : Int32) : Int32 × ZS := cif (¬ (mayS Z.1 4 b ∧ ((b = 1 ∧ c = -1) ∨ isC Z.1 c))) (-16, refZ Z (-6)) (plO Z.1 b, nowZ Z (if b = 0 then upS Z.1 5 0 c else upS Z.1 6 0 c))
noncomputable def askZ (Z : ZS) (w v : Int32) : Int32 × ZS := cif (w = 0 ∧ mayS Z.1 5 v) (Z.1 1 0, nowZ Z (upS Z.1 1 0 v)) (cif (w = 1 ∧ mayS Z.1 6 v) (Z.1 2 0, nowZ Z (upS Z.1 2 0 v)) (cif (w = 2 ∧ mayS Z.1 11 v) (Z.1 3 0, nowZ Z (upS Z.1 3 0 v)) (-6, refZ Z (-6))))
def seedZ (Z : ZS) (v : Int32) : Int32 × ZS := (Z.1 4 0, nowZ Z (upS Z.1 4 0 v))
set_option maxRecDepth 20000 in
set_option maxHeartbeats 4000000 in
theorem P_side {d : Nat} {M : jk_M} {Z : ZS} (cv : CV M Z) (ok : Zok Z) (n : Int32) : J Fr_X10_side (d + 2) 0 0 0 [(0, .ref 0), (1, .int n)] [] M (jk_ex (some (.int (sideZ Z n).1)) (fun M1 => CV M1 (sideZ Z n).2)) := by
  refine j_post (fun Q hQ => ?_)
  have hC := cv.1
  have hS := cv.2.1
  have okS := ok.1
  refine j_aload_n 0 dX10_side_0 rfl ?_
  refine j_getr (q := 1) dX10_side_1 fX10_10 (shC hC sgC_0) rfl (rfC hC rfC_0_0 (nz (by decide))) ?_
  refine j_iconst 0 dX10_side_4 ic_0 ?_
  refine j_iload_n 1 dX10_side_5 rfl ?_
  refine j_callV (kc := 0) (ks := 0) (a := 0) (b := 0) (d' := (d + 1)) (As := [.int 0, .int n]) dX10_side_6 kX10_150 rfl (shC hC (sgH (by simp [isH]))) (by omega) rfl rfl rfl (Nat.le_of_ble_eq_true rfl) (Nat.le_of_ble_eq_true rfl) (T_X2_may hC (by simp [isH]) hS okS 0 n) (kk_p ?_)
  refine j_if_neB (p := (mayS Z.1 0 n)) (tgt := 19) dX10_side_9 rfl (fun c1 => ?_) (fun c1 => ?_)
  · refine j_aload_n 0 dX10_side_19 rfl ?_
    refine j_getr (q := 1) dX10_side_20 fX10_10 (shC hC sgC_0) rfl (rfC hC rfC_0_0 (nz (by decide))) ?_
    refine j_getv (Z.1 0 0) dX10_side_23 fX10_175 (shC hC (sgH (by simp [isH]))) rfl (hvs hS (by decide)) ?_
    refine j_istore_n (L' := [(2, .int (Z.1 0 0)), (0, .ref 0), (1, .int n)]) dX10_side_26 (by decide) rfl ?_
    refine j_aload_n 1 dX10_side_27 rfl ?_
    refine j_getr (q := 1) dX10_side_28 fX10_10 (shC hC sgC_0) rfl (rfC hC rfC_0_0 (nz (by decide))) ?_
    refine j_iload_n 2 dX10_side_31 rfl ?_
    refine j_put dX10_side_32 fX10_175 (shC hC (sgH (by simp [isH]))) rfl ?_
    have sm2 : Sm PNw M (jk_wI M 1 0 n) := Sm.w Sm.rf (Or.inl HOz)
    refine j_iload_n 0 dX10_side_35 rfl ?_
    refine j_iret dX10_side_36 rfl ?_
    have hz : sideZ Z n = ((Z.1 0 0), nowZ Z (upS Z.1 0 0 n)) := by
      clear hQ
      grind [sideZ, cif]
    exact hQ _ _ ⟨by rw [hz], by rw [hz]; exact CV.now cv ok (Sm.g sm2) (hv_sc hS okS (by decide) (by decide) (by decide) (by decide))⟩
  · refine j_aload_n 0 dX10_side_12 rfl ?_
    refine j_bipush (-6) dX10_side_13 bp_n6 ?_
    refine j_callV (kc := 0) (ks := 0) (a := 0) (b := 0) (d' := d) (As := [.int (-6)]) dX10_side_15 kX10_93 rfl (shC hC sgC_0) (by omega) rfl rfl rfl (Nat.le_of_ble_eq_true rfl) (Nat.le_of_ble_eq_true rfl) (T_X10_refuse hC (-6)) (kk_p ?_)
    refine j_iret dX10_side_18 rfl ?_
    have hz : sideZ Z n = ((-6), (refZ Z (-6))) := by
      clear hQ
      grind [sideZ, cif]
    exact hQ _ _ ⟨by rw [hz], by rw [hz]; exact CV.rf cv ok (-6)⟩
set_option maxRecDepth 20000 in
set_option maxHeartbeats 4000000 in
theorem P_seed {d : Nat} {M : jk_M} {Z : ZS} (cv : CV M Z) (ok : Zok Z) (n : Int32) : J Fr_X10_seed d 0 0 0 [(0, .ref 0), (1, .int n)] [] M (jk_ex (some (.int (seedZ Z n).1)) (fun M1 => CV M1 (seedZ Z n).2)) := by
  refine j_post (fun Q hQ => ?_)
  have hC := cv.1
  have hS := cv.2.1
  have okS := ok.1
  refine j_aload_n 0 dX10_seed_0 rfl ?_
  refine j_getr (q := 1) dX10_seed_1 fX10_10 (shC hC sgC_0) rfl (rfC hC rfC_0_0 (nz (by decide))) ?_
  refine j_getv (Z.1 4 0) dX10_seed_4 fX10_349 (shC hC (sgH (by simp [isH]))) rfl (hvs hS (by decide)) ?_
  refine j_istore_n (L' := [(2, .int (Z.1 4 0)), (0, .ref 0), (1, .int n)]) dX10_seed_7 (by decide) rfl ?_
  refine j_aload_n 1 dX10_seed_8 rfl ?_
  refine j_getr (q := 1) dX10_seed_9 fX10_10 (shC hC sgC_0) rfl (rfC hC rfC_0_0 (nz (by decide))) ?_
  refine j_iload_n 2 dX10_seed_12 rfl ?_
  refine j_put dX10_seed_13 fX10_349 (shC hC (sgH (by simp [isH]))) rfl ?_
  have sm1 : Sm PNw M (jk_wI M 1 4 n) := Sm.w Sm.rf (Or.inl HOz)
  refine j_iload_n 0 dX10_seed_16 rfl ?_
  refine j_iret dX10_seed_17 rfl ?_
  have hz : seedZ Z n = ((Z.1 4 0), nowZ Z (upS Z.1 4 0 n)) := by
    clear hQ
    grind [seedZ, cif]
  exact hQ _ _ ⟨by rw [hz], by rw [hz]; exact CV.now cv ok (Sm.g sm1) (hv_sc hS okS (by decide) (by decide) (by decide) (by decide))⟩
set_option maxRecDepth 20000 in
set_option maxHeartbeats 4000000 in
theorem P_thing {d : Nat} {M : jk_M} {Z : ZS} (cv : CV M Z) (ok : Zok Z) (k : Int32) (a : Int32) (c : Int32) : J Fr_X10_thing (d + 2) 0 0 0 [(0, .ref 0), (1, .int k), (2, .int a), (3, .int c)] [] M (jk_ex (some (.int (thingZ Z k a c).1)) (fun M1 => CV M1 (thingZ Z k a c).2)) := by
  refine j_post (fun Q hQ => ?_)
  have hC := cv.1
  have hS := cv.2.1
  have okS := ok.1
  have hT := (Sok.T okS).2
  refine j_aload_n 0 dX10_thing_0 rfl ?_
  refine j_getr (q := 1) dX10_thing_1 fX10_10 (shC hC sgC_0) rfl (rfC hC rfC_0_0 (nz (by decide))) ?_
  refine j_iconst 1 dX10_thing_4 ic_1 ?_
  refine j_iload_n 1 dX10_thing_5 rfl ?_
  refine j_callV (kc := 0) (ks := 0) (a := 0) (b := 0) (d' := (d + 1)) (As := [.int 1, .int k]) dX10_thing_6 kX10_150 rfl (shC hC (sgH (by simp [isH]))) (by omega) rfl rfl rfl (Nat.le_of_ble_eq_true rfl) (Nat.le_of_ble_eq_true rfl) (T_X2_may hC (by simp [isH]) hS okS 1 k) (kk_p ?_)
  refine j_if_neB (p := (mayS Z.1 1 k)) (tgt := 18) dX10_thing_9 rfl (fun c1 => ?_) (fun c1 => ?_)
  · refine j_aload_n 0 dX10_thing_18 rfl ?_
    refine j_getr (q := 1) dX10_thing_19 fX10_10 (shC hC sgC_0) rfl (rfC hC rfC_0_0 (nz (by decide))) ?_
    refine j_iconst 2 dX10_thing_22 ic_2 ?_
    refine j_iload_n 2 dX10_thing_23 rfl ?_
    refine j_callV (kc := 0) (ks := 0) (a := 0) (b := 0) (d' := (d + 1)) (As := [.int 2, .int a]) dX10_thing_24 kX10_150 rfl (shC hC (sgH (by simp [isH]))) (by omega) rfl rfl rfl (Nat.le_of_ble_eq_true rfl) (Nat.le_of_ble_eq_true rfl) (T_X2_may hC (by simp [isH]) hS okS 2 a) (kk_p ?_)
    refine j_if_eqB (p := (mayS Z.1 2 a)) (tgt := 41) dX10_thing_27 rfl (fun c2 => ?_) (fun c2 => ?_)
    · refine j_aload_n 0 dX10_thing_41 rfl ?_
      refine j_bipush (-6) dX10_thing_42 bp_n6 ?_
      refine j_callV (kc := 0) (ks := 0) (a := 0) (b := 0) (d' := d) (As := [.int (-6)]) dX10_thing_44 kX10_93 rfl (shC hC sgC_0) (by omega) rfl rfl rfl (Nat.le_of_ble_eq_true rfl) (Nat.le_of_ble_eq_true rfl) (T_X10_refuse hC (-6)) (kk_p ?_)
      refine j_iret dX10_thing_47 rfl ?_
      have hz : thingZ Z k a c = ((-6), (refZ Z (-6))) := by
        clear hQ
        grind [thingZ, cif]
      exact hQ _ _ ⟨by rw [hz], by rw [hz]; exact CV.rf cv ok (-6)⟩
    · refine j_aload_n 0 dX10_thing_30 rfl ?_
      refine j_getr (q := 1) dX10_thing_31 fX10_10 (shC hC sgC_0) rfl (rfC hC rfC_0_0 (nz (by decide))) ?_
      refine j_iload_n 3 dX10_thing_34 rfl ?_
      refine j_callV (kc := 0) (ks := 0) (a := 0) (b := 0) (d' := d) (As := [.int c]) dX10_thing_35 kX10_178 rfl (shC hC (sgH (by simp [isH]))) (by omega) rfl rfl rfl (Nat.le_of_ble_eq_true rfl) (Nat.le_of_ble_eq_true rfl) (T_X2_isCell hC (by simp [isH]) hS okS c) (kk_p ?_)
      refine j_if_neB (p := (isC Z.1 c)) (tgt := 48) dX10_thing_38 rfl (fun c3 => ?_) (fun c3 => ?_)
      · refine j_aload_n 0 dX10_thing_48 rfl ?_
        refine j_getr (q := 1) dX10_thing_49 fX10_10 (shC hC sgC_0) rfl (rfC hC rfC_0_0 (nz (by decide))) ?_
        refine j_getv (nI (nT Z.1)) dX10_thing_52 fX10_181 (shC hC (sgH (by simp [isH]))) rfl ((hvs hS (by decide)).trans (Sok.T okS).1) ?_
        refine j_bipush 16 dX10_thing_55 bp_16 ?_
        refine j_icmp_ltN (tgt := 67) (nT Z.1) 16 dX10_thing_57 rfl (by omega) (by omega) (fun c4 => ?_) (fun c4 => ?_)
        · refine j_aload_n 0 dX10_thing_67 rfl ?_
          refine j_getr (q := 1) dX10_thing_68 fX10_10 (shC hC sgC_0) rfl (rfC hC rfC_0_0 (nz (by decide))) ?_
          refine j_iload_n 1 dX10_thing_71 rfl ?_
          refine j_iload_n 2 dX10_thing_72 rfl ?_
          refine j_iload_n 3 dX10_thing_73 rfl ?_
          refine j_callV (kc := 0) (ks := 0) (a := 0) (b := 0) (d' := (d + 1)) (As := [.int k, .int a, .int c]) dX10_thing_74 kX10_184 rfl (shC hC (sgH (by simp [isH]))) (by omega) rfl rfl rfl (Nat.le_of_ble_eq_true rfl) (Nat.le_of_ble_eq_true rfl) (T_X2_addThing hC (by simp [isH]) hS okS k a c (by omega)) (kk_e (fun M5 hM6 => ?_))
          obtain ⟨sm7, hv8⟩ := hM6
          have sm72 : Sm PNw M M5 := Sm.mo sm7 (fun _ h => Or.inl h)
          refine j_iret dX10_thing_77 rfl ?_
          have hz : thingZ Z k a c = ((nI (nT Z.1)), nowZ Z (addTS Z.1 k a c)) := by
            clear hQ
            grind [thingZ, cif]
          exact hQ _ _ ⟨by rw [hz], by rw [hz]; exact CV.now cv ok (Sm.g sm72) hv8⟩
        · refine j_aload_n 0 dX10_thing_60 rfl ?_
          refine j_bipush (-7) dX10_thing_61 bp_n7 ?_
          refine j_callV (kc := 0) (ks := 0) (a := 0) (b := 0) (d' := d) (As := [.int (-7)]) dX10_thing_63 kX10_93 rfl (shC hC sgC_0) (by omega) rfl rfl rfl (Nat.le_of_ble_eq_true rfl) (Nat.le_of_ble_eq_true rfl) (T_X10_refuse hC (-7)) (kk_p ?_)
          refine j_iret dX10_thing_66 rfl ?_
          have hz : thingZ Z k a c = ((-7), (refZ Z (-7))) := by
            clear hQ
            grind [thingZ, cif]
          exact hQ _ _ ⟨by rw [hz], by rw [hz]; exact CV.rf cv ok (-7)⟩
      · refine j_aload_n 0 dX10_thing_41 rfl ?_
        refine j_bipush (-6) dX10_thing_42 bp_n6 ?_
        refine j_callV (kc := 0) (ks := 0) (a := 0) (b := 0) (d' := d) (As := [.int (-6)]) dX10_thing_44 kX10_93 rfl (shC hC sgC_0) (by omega) rfl rfl rfl (Nat.le_of_ble_eq_true rfl) (Nat.le_of_ble_eq_true rfl) (T_X10_refuse hC (-6)) (kk_p ?_)
        refine j_iret dX10_thing_47 rfl ?_
        have hz : thingZ Z k a c = ((-6), (refZ Z (-6))) := by
          clear hQ
          grind [thingZ, cif]
        exact hQ _ _ ⟨by rw [hz], by rw [hz]; exact CV.rf cv ok (-6)⟩
  · refine j_aload_n 0 dX10_thing_12 rfl ?_
    refine j_iconst (-1) dX10_thing_13 ic_n1 ?_
    refine j_callV (kc := 0) (ks := 0) (a := 0) (b := 0) (d' := d) (As := [.int (-1)]) dX10_thing_14 kX10_93 rfl (shC hC sgC_0) (by omega) rfl rfl rfl (Nat.le_of_ble_eq_true rfl) (Nat.le_of_ble_eq_true rfl) (T_X10_refuse hC (-1)) (kk_p ?_)
    refine j_iret dX10_thing_17 rfl ?_
    have hz : thingZ Z k a c = ((-1), (refZ Z (-1))) := by
      clear hQ
      grind [thingZ, cif]
    exact hQ _ _ ⟨by rw [hz], by rw [hz]; exact CV.rf cv ok (-1)⟩
set_option maxRecDepth 20000 in
set_option maxHeartbeats 4000000 in
theorem P_neighbour {d : Nat} {M : jk_M} {Z : ZS} (cv : CV M Z) (ok : Zok Z) (c : Int32) (n : Int32) : J Fr_X10_neighbour (d + 2) 0 0 0 [(0, .ref 0), (1, .int c), (2, .int n)] [] M (jk_ex (some (.int (neighZ Z c n).1)) (fun M1 => CV M1 (neighZ Z c n).2)) := by
  refine j_post (fun Q hQ => ?_)
  have hC := cv.1
  have hS := cv.2.1
  have okS := ok.1
  have hT := (Sok.N okS).2
  refine j_aload_n 0 dX10_neighbour_0 rfl ?_
  refine j_getr (q := 1) dX10_neighbour_1 fX10_10 (shC hC sgC_0) rfl (rfC hC rfC_0_0 (nz (by decide))) ?_
  refine j_bipush 6 dX10_neighbour_4 bp_6 ?_
  refine j_iload_n 1 dX10_neighbour_6 rfl ?_
  refine j_callV (kc := 0) (ks := 0) (a := 0) (b := 0) (d' := (d + 1)) (As := [.int 6, .int c]) dX10_neighbour_7 kX10_150 rfl (shC hC (sgH (by simp [isH]))) (by omega) rfl rfl rfl (Nat.le_of_ble_eq_true rfl) (Nat.le_of_ble_eq_true rfl) (T_X2_may hC (by simp [isH]) hS okS 6 c) (kk_p ?_)
  refine j_if_eqB (p := (mayS Z.1 6 c)) (tgt := 26) dX10_neighbour_10 rfl (fun c1 => ?_) (fun c1 => ?_)
  · refine j_aload_n 0 dX10_neighbour_26 rfl ?_
    refine j_bipush (-6) dX10_neighbour_27 bp_n6 ?_
    refine j_callV (kc := 0) (ks := 0) (a := 0) (b := 0) (d' := d) (As := [.int (-6)]) dX10_neighbour_29 kX10_93 rfl (shC hC sgC_0) (by omega) rfl rfl rfl (Nat.le_of_ble_eq_true rfl) (Nat.le_of_ble_eq_true rfl) (T_X10_refuse hC (-6)) (kk_p ?_)
    refine j_iret dX10_neighbour_32 rfl ?_
    have hz : neighZ Z c n = ((-6), (refZ Z (-6))) := by
      clear hQ
      grind [neighZ, cif]
    exact hQ _ _ ⟨by rw [hz], by rw [hz]; exact CV.rf cv ok (-6)⟩
  · refine j_aload_n 0 dX10_neighbour_13 rfl ?_
    refine j_getr (q := 1) dX10_neighbour_14 fX10_10 (shC hC sgC_0) rfl (rfC hC rfC_0_0 (nz (by decide))) ?_
    refine j_bipush 7 dX10_neighbour_17 bp_7 ?_
    refine j_iload_n 2 dX10_neighbour_19 rfl ?_
    refine j_callV (kc := 0) (ks := 0) (a := 0) (b := 0) (d' := (d + 1)) (As := [.int 7, .int n]) dX10_neighbour_20 kX10_150 rfl (shC hC (sgH (by simp [isH]))) (by omega) rfl rfl rfl (Nat.le_of_ble_eq_true rfl) (Nat.le_of_ble_eq_true rfl) (T_X2_may hC (by simp [isH]) hS okS 7 n) (kk_p ?_)
    refine j_if_neB (p := (mayS Z.1 7 n)) (tgt := 33) dX10_neighbour_23 rfl (fun c2 => ?_) (fun c2 => ?_)
    · refine j_aload_n 0 dX10_neighbour_33 rfl ?_
      refine j_getr (q := 1) dX10_neighbour_34 fX10_10 (shC hC sgC_0) rfl (rfC hC rfC_0_0 (nz (by decide))) ?_
      refine j_getv (nI (nN Z.1)) dX10_neighbour_37 fX10_188 (shC hC (sgH (by simp [isH]))) rfl ((hvs hS (by decide)).trans (Sok.N okS).1) ?_
      refine j_bipush 8 dX10_neighbour_40 bp_8 ?_
      refine j_icmp_ltN (tgt := 52) (nN Z.1) 8 dX10_neighbour_42 rfl (by omega) (by omega) (fun c3 => ?_) (fun c3 => ?_)
      · refine j_aload_n 0 dX10_neighbour_52 rfl ?_
        refine j_getr (q := 1) dX10_neighbour_53 fX10_10 (shC hC sgC_0) rfl (rfC hC rfC_0_0 (nz (by decide))) ?_
        refine j_iload_n 1 dX10_neighbour_56 rfl ?_
        refine j_iload_n 2 dX10_neighbour_57 rfl ?_
        refine j_callV (kc := 0) (ks := 0) (a := 0) (b := 0) (d' := d) (As := [.int c, .int n]) dX10_neighbour_58 kX10_191 rfl (shC hC (sgH (by simp [isH]))) (by omega) rfl rfl rfl (Nat.le_of_ble_eq_true rfl) (Nat.le_of_ble_eq_true rfl) (T_X2_addNeighbour hC (by simp [isH]) hS okS c n (by omega)) (kk_e (fun M4 hM5 => ?_))
        obtain ⟨sm6, hv7⟩ := hM5
        have sm62 : Sm PNw M M4 := Sm.mo sm6 (fun _ h => Or.inl h)
        refine j_iret dX10_neighbour_61 rfl ?_
        have hz : neighZ Z c n = ((nI (nN Z.1)), nowZ Z (addNS Z.1 c n)) := by
          clear hQ
          grind [neighZ, cif]
        exact hQ _ _ ⟨by rw [hz], by rw [hz]; exact CV.now cv ok (Sm.g sm62) hv7⟩
      · refine j_aload_n 0 dX10_neighbour_45 rfl ?_
        refine j_bipush (-7) dX10_neighbour_46 bp_n7 ?_
        refine j_callV (kc := 0) (ks := 0) (a := 0) (b := 0) (d' := d) (As := [.int (-7)]) dX10_neighbour_48 kX10_93 rfl (shC hC sgC_0) (by omega) rfl rfl rfl (Nat.le_of_ble_eq_true rfl) (Nat.le_of_ble_eq_true rfl) (T_X10_refuse hC (-7)) (kk_p ?_)
        refine j_iret dX10_neighbour_51 rfl ?_
        have hz : neighZ Z c n = ((-7), (refZ Z (-7))) := by
          clear hQ
          grind [neighZ, cif]
        exact hQ _ _ ⟨by rw [hz], by rw [hz]; exact CV.rf cv ok (-7)⟩
    · refine j_aload_n 0 dX10_neighbour_26 rfl ?_
      refine j_bipush (-6) dX10_neighbour_27 bp_n6 ?_
      refine j_callV (kc := 0) (ks := 0) (a := 0) (b := 0) (d' := d) (As := [.int (-6)]) dX10_neighbour_29 kX10_93 rfl (shC hC sgC_0) (by omega) rfl rfl rfl (Nat.le_of_ble_eq_true rfl) (Nat.le_of_ble_eq_true rfl) (T_X10_refuse hC (-6)) (kk_p ?_)
      refine j_iret dX10_neighbour_32 rfl ?_
      have hz : neighZ Z c n = ((-6), (refZ Z (-6))) := by
        clear hQ
        grind [neighZ, cif]
      exact hQ _ _ ⟨by rw [hz], by rw [hz]; exact CV.rf cv ok (-6)⟩
set_option maxRecDepth 20000 in
set_option maxHeartbeats 4000000 in
theorem P_device {d : Nat} {M : jk_M} {Z : ZS} (cv : CV M Z) (ok : Zok Z) (c : Int32) (k : Int32) (v : Int32) : J Fr_X10_device (d + 2) 0 0 0 [(0, .ref 0), (1, .int c), (2, .int k), (3, .int v)] [] M (jk_ex (some (.int (devZ Z c k v).1)) (fun M1 => CV M1 (devZ Z c k v).2)) := by
  refine j_post (fun Q hQ => ?_)
  have hC := cv.1
  have hS := cv.2.1
  have okS := ok.1
  have hT := (Sok.D okS).2
  refine j_aload_n 0 dX10_device_0 rfl ?_
  refine j_getr (q := 1) dX10_device_1 fX10_10 (shC hC sgC_0) rfl (rfC hC rfC_0_0 (nz (by decide))) ?_
  refine j_iload_n 1 dX10_device_4 rfl ?_
  refine j_callV (kc := 0) (ks := 0) (a := 0) (b := 0) (d' := d) (As := [.int c]) dX10_device_5 kX10_178 rfl (shC hC (sgH (by simp [isH]))) (by omega) rfl rfl rfl (Nat.le_of_ble_eq_true rfl) (Nat.le_of_ble_eq_true rfl) (T_X2_isCell hC (by simp [isH]) hS okS c) (kk_p ?_)
  refine j_if_eqB (p := (isC Z.1 c)) (tgt := 37) dX10_device_8 rfl (fun c1 => ?_) (fun c1 => ?_)
  · refine j_aload_n 0 dX10_device_37 rfl ?_
    refine j_bipush (-6) dX10_device_38 bp_n6 ?_
    refine j_callV (kc := 0) (ks := 0) (a := 0) (b := 0) (d' := d) (As := [.int (-6)]) dX10_device_40 kX10_93 rfl (shC hC sgC_0) (by omega) rfl rfl rfl (Nat.le_of_ble_eq_true rfl) (Nat.le_of_ble_eq_true rfl) (T_X10_refuse hC (-6)) (kk_p ?_)
    refine j_iret dX10_device_43 rfl ?_
    have hz : devZ Z c k v = ((-6), (refZ Z (-6))) := by
      clear hQ
      grind [devZ, cif]
    exact hQ _ _ ⟨by rw [hz], by rw [hz]; exact CV.rf cv ok (-6)⟩
  · refine j_aload_n 0 dX10_device_11 rfl ?_
    refine j_getr (q := 1) dX10_device_12 fX10_10 (shC hC sgC_0) rfl (rfC hC rfC_0_0 (nz (by decide))) ?_
    refine j_bipush 8 dX10_device_15 bp_8 ?_
    refine j_iload_n 2 dX10_device_17 rfl ?_
    refine j_callV (kc := 0) (ks := 0) (a := 0) (b := 0) (d' := (d + 1)) (As := [.int 8, .int k]) dX10_device_18 kX10_150 rfl (shC hC (sgH (by simp [isH]))) (by omega) rfl rfl rfl (Nat.le_of_ble_eq_true rfl) (Nat.le_of_ble_eq_true rfl) (T_X2_may hC (by simp [isH]) hS okS 8 k) (kk_p ?_)
    refine j_if_eqB (p := (mayS Z.1 8 k)) (tgt := 37) dX10_device_21 rfl (fun c2 => ?_) (fun c2 => ?_)
    · refine j_aload_n 0 dX10_device_37 rfl ?_
      refine j_bipush (-6) dX10_device_38 bp_n6 ?_
      refine j_callV (kc := 0) (ks := 0) (a := 0) (b := 0) (d' := d) (As := [.int (-6)]) dX10_device_40 kX10_93 rfl (shC hC sgC_0) (by omega) rfl rfl rfl (Nat.le_of_ble_eq_true rfl) (Nat.le_of_ble_eq_true rfl) (T_X10_refuse hC (-6)) (kk_p ?_)
      refine j_iret dX10_device_43 rfl ?_
      have hz : devZ Z c k v = ((-6), (refZ Z (-6))) := by
        clear hQ
        grind [devZ, cif]
      exact hQ _ _ ⟨by rw [hz], by rw [hz]; exact CV.rf cv ok (-6)⟩
    · refine j_aload_n 0 dX10_device_24 rfl ?_
      refine j_getr (q := 1) dX10_device_25 fX10_10 (shC hC sgC_0) rfl (rfC hC rfC_0_0 (nz (by decide))) ?_
      refine j_bipush 9 dX10_device_28 bp_9 ?_
      refine j_iload_n 3 dX10_device_30 rfl ?_
      refine j_callV (kc := 0) (ks := 0) (a := 0) (b := 0) (d' := (d + 1)) (As := [.int 9, .int v]) dX10_device_31 kX10_150 rfl (shC hC (sgH (by simp [isH]))) (by omega) rfl rfl rfl (Nat.le_of_ble_eq_true rfl) (Nat.le_of_ble_eq_true rfl) (T_X2_may hC (by simp [isH]) hS okS 9 v) (kk_p ?_)
      refine j_if_neB (p := (mayS Z.1 9 v)) (tgt := 44) dX10_device_34 rfl (fun c3 => ?_) (fun c3 => ?_)
      · refine j_aload_n 0 dX10_device_44 rfl ?_
        refine j_getr (q := 1) dX10_device_45 fX10_10 (shC hC sgC_0) rfl (rfC hC rfC_0_0 (nz (by decide))) ?_
        refine j_getv (nI (nD Z.1)) dX10_device_48 fX10_194 (shC hC (sgH (by simp [isH]))) rfl ((hvs hS (by decide)).trans (Sok.D okS).1) ?_
        refine j_bipush 6 dX10_device_51 bp_6 ?_
        refine j_icmp_ltN (tgt := 63) (nD Z.1) 6 dX10_device_53 rfl (by omega) (by omega) (fun c4 => ?_) (fun c4 => ?_)
        · refine j_aload_n 0 dX10_device_63 rfl ?_
          refine j_getr (q := 1) dX10_device_64 fX10_10 (shC hC sgC_0) rfl (rfC hC rfC_0_0 (nz (by decide))) ?_
          refine j_iload_n 1 dX10_device_67 rfl ?_
          refine j_iload_n 2 dX10_device_68 rfl ?_
          refine j_iload_n 3 dX10_device_69 rfl ?_
          refine j_callV (kc := 0) (ks := 0) (a := 0) (b := 0) (d' := (d + 1)) (As := [.int c, .int k, .int v]) dX10_device_70 kX10_197 rfl (shC hC (sgH (by simp [isH]))) (by omega) rfl rfl rfl (Nat.le_of_ble_eq_true rfl) (Nat.le_of_ble_eq_true rfl) (T_X2_addDevice hC (by simp [isH]) hS okS c k v (by omega)) (kk_e (fun M5 hM6 => ?_))
          obtain ⟨sm7, hv8⟩ := hM6
          have sm72 : Sm PNw M M5 := Sm.mo sm7 (fun _ h => Or.inl h)
          refine j_iret dX10_device_73 rfl ?_
          have hz : devZ Z c k v = ((nI (nD Z.1)), nowZ Z (addDS Z.1 c k v)) := by
            clear hQ
            grind [devZ, cif]
          exact hQ _ _ ⟨by rw [hz], by rw [hz]; exact CV.now cv ok (Sm.g sm72) hv8⟩
        · refine j_aload_n 0 dX10_device_56 rfl ?_
          refine j_bipush (-7) dX10_device_57 bp_n7 ?_
          refine j_callV (kc := 0) (ks := 0) (a := 0) (b := 0) (d' := d) (As := [.int (-7)]) dX10_device_59 kX10_93 rfl (shC hC sgC_0) (by omega) rfl rfl rfl (Nat.le_of_ble_eq_true rfl) (Nat.le_of_ble_eq_true rfl) (T_X10_refuse hC (-7)) (kk_p ?_)
          refine j_iret dX10_device_62 rfl ?_
          have hz : devZ Z c k v = ((-7), (refZ Z (-7))) := by
            clear hQ
            grind [devZ, cif]
          exact hQ _ _ ⟨by rw [hz], by rw [hz]; exact CV.rf cv ok (-7)⟩
      · refine j_aload_n 0 dX10_device_37 rfl ?_
        refine j_bipush (-6) dX10_device_38 bp_n6 ?_
        refine j_callV (kc := 0) (ks := 0) (a := 0) (b := 0) (d' := d) (As := [.int (-6)]) dX10_device_40 kX10_93 rfl (shC hC sgC_0) (by omega) rfl rfl rfl (Nat.le_of_ble_eq_true rfl) (Nat.le_of_ble_eq_true rfl) (T_X10_refuse hC (-6)) (kk_p ?_)
        refine j_iret dX10_device_43 rfl ?_
        have hz : devZ Z c k v = ((-6), (refZ Z (-6))) := by
          clear hQ
          grind [devZ, cif]
        exact hQ _ _ ⟨by rw [hz], by rw [hz]; exact CV.rf cv ok (-6)⟩
set_option maxRecDepth 20000 in
set_option maxHeartbeats 4000000 in
theorem P_box {d : Nat} {M : jk_M} {Z : ZS} (cv : CV M Z) (ok : Zok Z) (b : Int32) (c : Int32) : J Fr_X10_box (d + 2) 0 0 0 [(0, .ref 0), (1, .int b), (2, .int c)] [] M (jk_ex (some (.int (boxZ Z b c).1)) (fun M1 => CV M1 (boxZ Z b c).2)) := by
  refine j_post (fun Q hQ => ?_)
  have hC := cv.1
  have hS := cv.2.1
  have okS := ok.1
  refine j_iload_n 1 dX10_box_0 rfl ?_
  refine j_iconst 1 dX10_box_1 ic_1 ?_
  refine j_icmp_ne (tgt := 14) dX10_box_2 rfl (fun c1 => ?_) (fun c1 => ?_)
  · refine j_iconst 0 dX10_box_14 ic_0 ?_
    refine j_istore_n (L' := [(3, .int 0), (0, .ref 0), (1, .int b), (2, .int c)]) dX10_box_15 (by decide) rfl ?_
    refine j_aload_n 1 dX10_box_16 rfl ?_
    refine j_getr (q := 1) dX10_box_17 fX10_10 (shC hC sgC_0) rfl (rfC hC rfC_0_0 (nz (by decide))) ?_
    refine j_iconst 4 dX10_box_20 ic_4 ?_
    refine j_iload_n 2 dX10_box_21 rfl ?_
    refine j_callV (kc := 0) (ks := 0) (a := 0) (b := 0) (d' := (d + 1)) (As := [.int 4, .int b]) dX10_box_22 kX10_150 rfl (shC hC (sgH (by simp [isH]))) (by omega) rfl rfl rfl (Nat.le_of_ble_eq_true rfl) (Nat.le_of_ble_eq_true rfl) (T_X2_may hC (by simp [isH]) hS okS 4 b) (kk_p ?_)
    refine j_if_eqB (p := (mayS Z.1 4 b)) (tgt := 43) dX10_box_25 rfl (fun c2 => ?_) (fun c2 => ?_)
    · refine j_aload_n 1 dX10_box_43 rfl ?_
      refine j_bipush (-6) dX10_box_44 bp_n6 ?_
      refine j_callV (kc := 0) (ks := 0) (a := 0) (b := 0) (d' := d) (As := [.int (-6)]) dX10_box_46 kX10_93 rfl (shC hC sgC_0) (by omega) rfl rfl rfl (Nat.le_of_ble_eq_true rfl) (Nat.le_of_ble_eq_true rfl) (T_X10_refuse hC (-6)) (kk_p ?_)
      refine j_bipush (-10) dX10_box_49 bp_n10 ?_
      refine j_iadd dX10_box_51 ?_
      refine j_topi (-16) (by decide) ?_
      refine j_iret dX10_box_52 rfl ?_
      have hz : boxZ Z b c = ((-16), (refZ Z (-6))) := by
        clear hQ
        grind [boxZ, cif]
      exact hQ _ _ ⟨by rw [hz], by rw [hz]; exact CV.rf cv ok (-6)⟩
    · refine j_iload_n 0 dX10_box_28 rfl ?_
      refine j_if_ne (tgt := 53) dX10_box_29 rfl (fun c3 => ?_) (fun c3 => ?_)
      · exact absurd c3 (by decide)
      · refine j_aload_n 1 dX10_box_32 rfl ?_
        refine j_getr (q := 1) dX10_box_33 fX10_10 (shC hC sgC_0) rfl (rfC hC rfC_0_0 (nz (by decide))) ?_
        refine j_iload_n 3 dX10_box_36 rfl ?_
        refine j_callV (kc := 0) (ks := 0) (a := 0) (b := 0) (d' := d) (As := [.int c]) dX10_box_37 kX10_178 rfl (shC hC (sgH (by simp [isH]))) (by omega) rfl rfl rfl (Nat.le_of_ble_eq_true rfl) (Nat.le_of_ble_eq_true rfl) (T_X2_isCell hC (by simp [isH]) hS okS c) (kk_p ?_)
        refine j_if_neB (p := (isC Z.1 c)) (tgt := 53) dX10_box_40 rfl (fun c4 => ?_) (fun c4 => ?_)
        · refine j_aload_n 1 dX10_box_53 rfl ?_
          refine j_getr (q := 1) dX10_box_54 fX10_10 (shC hC sgC_0) rfl (rfC hC rfC_0_0 (nz (by decide))) ?_
          refine j_iload_n 2 dX10_box_57 rfl ?_
          refine j_callV (kc := 0) (ks := 0) (a := 0) (b := 0) (d' := d) (As := [.int b]) dX10_box_58 kX10_200 rfl (shC hC (sgH (by simp [isH]))) (by omega) rfl rfl rfl (Nat.le_of_ble_eq_true rfl) (Nat.le_of_ble_eq_true rfl) (T_X2_placeOf hC (by simp [isH]) hS okS b) (kk_p ?_)
          refine j_istore (L' := [(4, .int (plO Z.1 b)), (3, .int 0), (0, .ref 0), (1, .int b), (2, .int c)]) dX10_box_61 (by decide) rfl ?_
          refine j_aload_n 2 dX10_box_63 rfl ?_
          refine j_getr (q := 1) dX10_box_64 fX10_10 (shC hC sgC_0) rfl (rfC hC rfC_0_0 (nz (by decide))) ?_
          refine j_iload_n 3 dX10_box_67 rfl ?_
          refine j_iload_n 4 dX10_box_68 rfl ?_
          refine j_callV (kc := 0) (ks := 0) (a := 0) (b := 0) (d' := d) (As := [.int b, .int c]) dX10_box_69 kX10_203 rfl (shC hC (sgH (by simp [isH]))) (by omega) rfl rfl rfl (Nat.le_of_ble_eq_true rfl) (Nat.le_of_ble_eq_true rfl) (T_X2_place hC (by simp [isH]) hS okS b c) (kk_ev (fun M5 hM6 => ?_))
          obtain ⟨sm7, hv8⟩ := hM6
          have sm72 : Sm PNw M M5 := Sm.mo sm7 (fun _ h => Or.inl h)
          refine j_iload 0 dX10_box_72 rfl ?_
          refine j_iret dX10_box_74 rfl ?_
          have hz : boxZ Z b c = ((plO Z.1 b), nowZ Z (if b = 0 then upS Z.1 5 0 c else upS Z.1 6 0 c)) := by
            clear hQ
            grind [boxZ, cif]
          exact hQ _ _ ⟨by rw [hz], by rw [hz]; exact CV.now cv ok (Sm.g sm72) hv8⟩
        · refine j_aload_n 1 dX10_box_43 rfl ?_
          refine j_bipush (-6) dX10_box_44 bp_n6 ?_
          refine j_callV (kc := 0) (ks := 0) (a := 0) (b := 0) (d' := d) (As := [.int (-6)]) dX10_box_46 kX10_93 rfl (shC hC sgC_0) (by omega) rfl rfl rfl (Nat.le_of_ble_eq_true rfl) (Nat.le_of_ble_eq_true rfl) (T_X10_refuse hC (-6)) (kk_p ?_)
          refine j_bipush (-10) dX10_box_49 bp_n10 ?_
          refine j_iadd dX10_box_51 ?_
          refine j_topi (-16) (by decide) ?_
          refine j_iret dX10_box_52 rfl ?_
          have hz : boxZ Z b c = ((-16), (refZ Z (-6))) := by
            clear hQ
            grind [boxZ, cif]
          exact hQ _ _ ⟨by rw [hz], by rw [hz]; exact CV.rf cv ok (-6)⟩
  · refine j_iload_n 2 dX10_box_5 rfl ?_
    refine j_iconst (-1) dX10_box_6 ic_n1 ?_
    refine j_icmp_ne (tgt := 14) dX10_box_7 rfl (fun c9 => ?_) (fun c9 => ?_)
    · refine j_iconst 0 dX10_box_14 ic_0 ?_
      refine j_istore_n (L' := [(3, .int 0), (0, .ref 0), (1, .int b), (2, .int c)]) dX10_box_15 (by decide) rfl ?_
      refine j_aload_n 1 dX10_box_16 rfl ?_
      refine j_getr (q := 1) dX10_box_17 fX10_10 (shC hC sgC_0) rfl (rfC hC rfC_0_0 (nz (by decide))) ?_
      refine j_iconst 4 dX10_box_20 ic_4 ?_
      refine j_iload_n 2 dX10_box_21 rfl ?_
      refine j_callV (kc := 0) (ks := 0) (a := 0) (b := 0) (d' := (d + 1)) (As := [.int 4, .int b]) dX10_box_22 kX10_150 rfl (shC hC (sgH (by simp [isH]))) (by omega) rfl rfl rfl (Nat.le_of_ble_eq_true rfl) (Nat.le_of_ble_eq_true rfl) (T_X2_may hC (by simp [isH]) hS okS 4 b) (kk_p ?_)
      refine j_if_eqB (p := (mayS Z.1 4 b)) (tgt := 43) dX10_box_25 rfl (fun c10 => ?_) (fun c10 => ?_)
      · refine j_aload_n 1 dX10_box_43 rfl ?_
        refine j_bipush (-6) dX10_box_44 bp_n6 ?_
        refine j_callV (kc := 0) (ks := 0) (a := 0) (b := 0) (d' := d) (As := [.int (-6)]) dX10_box_46 kX10_93 rfl (shC hC sgC_0) (by omega) rfl rfl rfl (Nat.le_of_ble_eq_true rfl) (Nat.le_of_ble_eq_true rfl) (T_X10_refuse hC (-6)) (kk_p ?_)
        refine j_bipush (-10) dX10_box_49 bp_n10 ?_
        refine j_iadd dX10_box_51 ?_
        refine j_topi (-16) (by decide) ?_
        refine j_iret dX10_box_52 rfl ?_
        have hz : boxZ Z b c = ((-16), (refZ Z (-6))) := by
          clear hQ
          grind [boxZ, cif]
        exact hQ _ _ ⟨by rw [hz], by rw [hz]; exact CV.rf cv ok (-6)⟩
      · refine j_iload_n 0 dX10_box_28 rfl ?_
        refine j_if_ne (tgt := 53) dX10_box_29 rfl (fun c11 => ?_) (fun c11 => ?_)
        · exact absurd c11 (by decide)
        · refine j_aload_n 1 dX10_box_32 rfl ?_
          refine j_getr (q := 1) dX10_box_33 fX10_10 (shC hC sgC_0) rfl (rfC hC rfC_0_0 (nz (by decide))) ?_
          refine j_iload_n 3 dX10_box_36 rfl ?_
          refine j_callV (kc := 0) (ks := 0) (a := 0) (b := 0) (d' := d) (As := [.int c]) dX10_box_37 kX10_178 rfl (shC hC (sgH (by simp [isH]))) (by omega) rfl rfl rfl (Nat.le_of_ble_eq_true rfl) (Nat.le_of_ble_eq_true rfl) (T_X2_isCell hC (by simp [isH]) hS okS c) (kk_p ?_)
          refine j_if_neB (p := (isC Z.1 c)) (tgt := 53) dX10_box_40 rfl (fun c12 => ?_) (fun c12 => ?_)
          · refine j_aload_n 1 dX10_box_53 rfl ?_
            refine j_getr (q := 1) dX10_box_54 fX10_10 (shC hC sgC_0) rfl (rfC hC rfC_0_0 (nz (by decide))) ?_
            refine j_iload_n 2 dX10_box_57 rfl ?_
            refine j_callV (kc := 0) (ks := 0) (a := 0) (b := 0) (d' := d) (As := [.int b]) dX10_box_58 kX10_200 rfl (shC hC (sgH (by simp [isH]))) (by omega) rfl rfl rfl (Nat.le_of_ble_eq_true rfl) (Nat.le_of_ble_eq_true rfl) (T_X2_placeOf hC (by simp [isH]) hS okS b) (kk_p ?_)
            refine j_istore (L' := [(4, .int (plO Z.1 b)), (3, .int 0), (0, .ref 0), (1, .int b), (2, .int c)]) dX10_box_61 (by decide) rfl ?_
            refine j_aload_n 2 dX10_box_63 rfl ?_
            refine j_getr (q := 1) dX10_box_64 fX10_10 (shC hC sgC_0) rfl (rfC hC rfC_0_0 (nz (by decide))) ?_
            refine j_iload_n 3 dX10_box_67 rfl ?_
            refine j_iload_n 4 dX10_box_68 rfl ?_
            refine j_callV (kc := 0) (ks := 0) (a := 0) (b := 0) (d' := d) (As := [.int b, .int c]) dX10_box_69 kX10_203 rfl (shC hC (sgH (by simp [isH]))) (by omega) rfl rfl rfl (Nat.le_of_ble_eq_true rfl) (Nat.le_of_ble_eq_true rfl) (T_X2_place hC (by simp [isH]) hS okS b c) (kk_ev (fun M13 hM14 => ?_))
            obtain ⟨sm15, hv16⟩ := hM14
            have sm152 : Sm PNw M M13 := Sm.mo sm15 (fun _ h => Or.inl h)
            refine j_iload 0 dX10_box_72 rfl ?_
            refine j_iret dX10_box_74 rfl ?_
            have hz : boxZ Z b c = ((plO Z.1 b), nowZ Z (if b = 0 then upS Z.1 5 0 c else upS Z.1 6 0 c)) := by
              clear hQ
              grind [boxZ, cif]
            exact hQ _ _ ⟨by rw [hz], by rw [hz]; exact CV.now cv ok (Sm.g sm152) hv16⟩
          · refine j_aload_n 1 dX10_box_43 rfl ?_
            refine j_bipush (-6) dX10_box_44 bp_n6 ?_
            refine j_callV (kc := 0) (ks := 0) (a := 0) (b := 0) (d' := d) (As := [.int (-6)]) dX10_box_46 kX10_93 rfl (shC hC sgC_0) (by omega) rfl rfl rfl (Nat.le_of_ble_eq_true rfl) (Nat.le_of_ble_eq_true rfl) (T_X10_refuse hC (-6)) (kk_p ?_)
            refine j_bipush (-10) dX10_box_49 bp_n10 ?_
            refine j_iadd dX10_box_51 ?_
            refine j_topi (-16) (by decide) ?_
            refine j_iret dX10_box_52 rfl ?_
            have hz : boxZ Z b c = ((-16), (refZ Z (-6))) := by
              clear hQ
              grind [boxZ, cif]
            exact hQ _ _ ⟨by rw [hz], by rw [hz]; exact CV.rf cv ok (-6)⟩
    · refine j_iconst 1 dX10_box_10 ic_1 ?_
      refine j_goto (tgt := 15) dX10_box_11 rfl ?_
      refine j_istore_n (L' := [(3, .int 1), (0, .ref 0), (1, .int b), (2, .int c)]) dX10_box_15 (by decide) rfl ?_
      refine j_aload_n 1 dX10_box_16 rfl ?_
      refine j_getr (q := 1) dX10_box_17 fX10_10 (shC hC sgC_0) rfl (rfC hC rfC_0_0 (nz (by decide))) ?_
      refine j_iconst 4 dX10_box_20 ic_4 ?_
      refine j_iload_n 2 dX10_box_21 rfl ?_
      refine j_callV (kc := 0) (ks := 0) (a := 0) (b := 0) (d' := (d + 1)) (As := [.int 4, .int b]) dX10_box_22 kX10_150 rfl (shC hC (sgH (by simp [isH]))) (by omega) rfl rfl rfl (Nat.le_of_ble_eq_true rfl) (Nat.le_of_ble_eq_true rfl) (T_X2_may hC (by simp [isH]) hS okS 4 b) (kk_p ?_)
      refine j_if_eqB (p := (mayS Z.1 4 b)) (tgt := 43) dX10_box_25 rfl (fun c17 => ?_) (fun c17 => ?_)
      · refine j_aload_n 1 dX10_box_43 rfl ?_
        refine j_bipush (-6) dX10_box_44 bp_n6 ?_
        refine j_callV (kc := 0) (ks := 0) (a := 0) (b := 0) (d' := d) (As := [.int (-6)]) dX10_box_46 kX10_93 rfl (shC hC sgC_0) (by omega) rfl rfl rfl (Nat.le_of_ble_eq_true rfl) (Nat.le_of_ble_eq_true rfl) (T_X10_refuse hC (-6)) (kk_p ?_)
        refine j_bipush (-10) dX10_box_49 bp_n10 ?_
        refine j_iadd dX10_box_51 ?_
        refine j_topi (-16) (by decide) ?_
        refine j_iret dX10_box_52 rfl ?_
        have hz : boxZ Z b c = ((-16), (refZ Z (-6))) := by
          clear hQ
          grind [boxZ, cif]
        exact hQ _ _ ⟨by rw [hz], by rw [hz]; exact CV.rf cv ok (-6)⟩
      · refine j_iload_n 0 dX10_box_28 rfl ?_
        refine j_if_ne (tgt := 53) dX10_box_29 rfl (fun c18 => ?_) (fun c18 => ?_)
        · refine j_aload_n 1 dX10_box_53 rfl ?_
          refine j_getr (q := 1) dX10_box_54 fX10_10 (shC hC sgC_0) rfl (rfC hC rfC_0_0 (nz (by decide))) ?_
          refine j_iload_n 2 dX10_box_57 rfl ?_
          refine j_callV (kc := 0) (ks := 0) (a := 0) (b := 0) (d' := d) (As := [.int b]) dX10_box_58 kX10_200 rfl (shC hC (sgH (by simp [isH]))) (by omega) rfl rfl rfl (Nat.le_of_ble_eq_true rfl) (Nat.le_of_ble_eq_true rfl) (T_X2_placeOf hC (by simp [isH]) hS okS b) (kk_p ?_)
          refine j_istore (L' := [(4, .int (plO Z.1 b)), (3, .int 1), (0, .ref 0), (1, .int b), (2, .int c)]) dX10_box_61 (by decide) rfl ?_
          refine j_aload_n 2 dX10_box_63 rfl ?_
          refine j_getr (q := 1) dX10_box_64 fX10_10 (shC hC sgC_0) rfl (rfC hC rfC_0_0 (nz (by decide))) ?_
          refine j_iload_n 3 dX10_box_67 rfl ?_
          refine j_iload_n 4 dX10_box_68 rfl ?_
          refine j_callV (kc := 0) (ks := 0) (a := 0) (b := 0) (d' := d) (As := [.int b, .int c]) dX10_box_69 kX10_203 rfl (shC hC (sgH (by simp [isH]))) (by omega) rfl rfl rfl (Nat.le_of_ble_eq_true rfl) (Nat.le_of_ble_eq_true rfl) (T_X2_place hC (by simp [isH]) hS okS b c) (kk_ev (fun M19 hM20 => ?_))
          obtain ⟨sm21, hv22⟩ := hM20
          have sm212 : Sm PNw M M19 := Sm.mo sm21 (fun _ h => Or.inl h)
          refine j_iload 0 dX10_box_72 rfl ?_
          refine j_iret dX10_box_74 rfl ?_
          have hz : boxZ Z b c = ((plO Z.1 b), nowZ Z (if b = 0 then upS Z.1 5 0 c else upS Z.1 6 0 c)) := by
            clear hQ
            grind [boxZ, cif]
          exact hQ _ _ ⟨by rw [hz], by rw [hz]; exact CV.now cv ok (Sm.g sm212) hv22⟩
        · exact absurd c18 (by decide)
set_option maxRecDepth 20000 in
set_option maxHeartbeats 4000000 in
theorem P_ask {d : Nat} {M : jk_M} {Z : ZS} (cv : CV M Z) (ok : Zok Z) (k : Int32) (v : Int32) : J Fr_X10_ask (d + 2) 0 0 0 [(0, .ref 0), (1, .int k), (2, .int v)] [] M (jk_ex (some (.int (askZ Z k v).1)) (fun M1 => CV M1 (askZ Z k v).2)) := by
  refine j_post (fun Q hQ => ?_)
  have hC := cv.1
  have hS := cv.2.1
  have okS := ok.1
  refine j_iload_n 1 dX10_ask_0 rfl ?_
  refine j_if_ne (tgt := 34) dX10_ask_1 rfl (fun c1 => ?_) (fun c1 => ?_)
  · refine j_iload_n 1 dX10_ask_34 rfl ?_
    refine j_iconst 1 dX10_ask_35 ic_1 ?_
    refine j_icmp_ne (tgt := 70) dX10_ask_36 rfl (fun c2 => ?_) (fun c2 => ?_)
    · refine j_iload_n 1 dX10_ask_70 rfl ?_
      refine j_iconst 2 dX10_ask_71 ic_2 ?_
      refine j_icmp_ne (tgt := 106) dX10_ask_72 rfl (fun c3 => ?_) (fun c3 => ?_)
      · refine j_aload_n 0 dX10_ask_106 rfl ?_
        refine j_bipush (-6) dX10_ask_107 bp_n6 ?_
        refine j_callV (kc := 0) (ks := 0) (a := 0) (b := 0) (d' := d) (As := [.int (-6)]) dX10_ask_109 kX10_93 rfl (shC hC sgC_0) (by omega) rfl rfl rfl (Nat.le_of_ble_eq_true rfl) (Nat.le_of_ble_eq_true rfl) (T_X10_refuse hC (-6)) (kk_p ?_)
        refine j_iret dX10_ask_112 rfl ?_
        have hz : askZ Z k v = ((-6), (refZ Z (-6))) := by
          clear hQ
          grind [askZ, cif]
        exact hQ _ _ ⟨by rw [hz], by rw [hz]; exact CV.rf cv ok (-6)⟩
      · refine j_aload_n 0 dX10_ask_75 rfl ?_
        refine j_getr (q := 1) dX10_ask_76 fX10_10 (shC hC sgC_0) rfl (rfC hC rfC_0_0 (nz (by decide))) ?_
        refine j_bipush 11 dX10_ask_79 bp_11 ?_
        refine j_iload_n 2 dX10_ask_81 rfl ?_
        refine j_callV (kc := 0) (ks := 0) (a := 0) (b := 0) (d' := (d + 1)) (As := [.int 11, .int v]) dX10_ask_82 kX10_150 rfl (shC hC (sgH (by simp [isH]))) (by omega) rfl rfl rfl (Nat.le_of_ble_eq_true rfl) (Nat.le_of_ble_eq_true rfl) (T_X2_may hC (by simp [isH]) hS okS 11 v) (kk_p ?_)
        refine j_if_eqB (p := (mayS Z.1 11 v)) (tgt := 106) dX10_ask_85 rfl (fun c4 => ?_) (fun c4 => ?_)
        · refine j_aload_n 0 dX10_ask_106 rfl ?_
          refine j_bipush (-6) dX10_ask_107 bp_n6 ?_
          refine j_callV (kc := 0) (ks := 0) (a := 0) (b := 0) (d' := d) (As := [.int (-6)]) dX10_ask_109 kX10_93 rfl (shC hC sgC_0) (by omega) rfl rfl rfl (Nat.le_of_ble_eq_true rfl) (Nat.le_of_ble_eq_true rfl) (T_X10_refuse hC (-6)) (kk_p ?_)
          refine j_iret dX10_ask_112 rfl ?_
          have hz : askZ Z k v = ((-6), (refZ Z (-6))) := by
            clear hQ
            grind [askZ, cif]
          exact hQ _ _ ⟨by rw [hz], by rw [hz]; exact CV.rf cv ok (-6)⟩
        · refine j_aload_n 0 dX10_ask_88 rfl ?_
          refine j_getr (q := 1) dX10_ask_89 fX10_10 (shC hC sgC_0) rfl (rfC hC rfC_0_0 (nz (by decide))) ?_
          refine j_getv (Z.1 3 0) dX10_ask_92 fX10_164 (shC hC (sgH (by simp [isH]))) rfl (hvs hS (by decide)) ?_
          refine j_istore_n (L' := [(3, .int (Z.1 3 0)), (0, .ref 0), (1, .int k), (2, .int v)]) dX10_ask_95 (by decide) rfl ?_
          refine j_aload_n 1 dX10_ask_96 rfl ?_
          refine j_getr (q := 1) dX10_ask_97 fX10_10 (shC hC sgC_0) rfl (rfC hC rfC_0_0 (nz (by decide))) ?_
          refine j_iload_n 3 dX10_ask_100 rfl ?_
          refine j_put dX10_ask_101 fX10_164 (shC hC (sgH (by simp [isH]))) rfl ?_
          have sm5 : Sm PNw M (jk_wI M 1 3 v) := Sm.w Sm.rf (Or.inl HOz)
          refine j_iload_n 0 dX10_ask_104 rfl ?_
          refine j_iret dX10_ask_105 rfl ?_
          have hz : askZ Z k v = ((Z.1 3 0), nowZ Z (upS Z.1 3 0 v)) := by
            clear hQ
            grind [askZ, cif]
          exact hQ _ _ ⟨by rw [hz], by rw [hz]; exact CV.now cv ok (Sm.g sm5) (hv_sc hS okS (by decide) (by decide) (by decide) (by decide))⟩
    · refine j_aload_n 0 dX10_ask_39 rfl ?_
      refine j_getr (q := 1) dX10_ask_40 fX10_10 (shC hC sgC_0) rfl (rfC hC rfC_0_0 (nz (by decide))) ?_
      refine j_bipush 6 dX10_ask_43 bp_6 ?_
      refine j_iload_n 2 dX10_ask_45 rfl ?_
      refine j_callV (kc := 0) (ks := 0) (a := 0) (b := 0) (d' := (d + 1)) (As := [.int 6, .int v]) dX10_ask_46 kX10_150 rfl (shC hC (sgH (by simp [isH]))) (by omega) rfl rfl rfl (Nat.le_of_ble_eq_true rfl) (Nat.le_of_ble_eq_true rfl) (T_X2_may hC (by simp [isH]) hS okS 6 v) (kk_p ?_)
      refine j_if_eqB (p := (mayS Z.1 6 v)) (tgt := 70) dX10_ask_49 rfl (fun c6 => ?_) (fun c6 => ?_)
      · refine j_iload_n 1 dX10_ask_70 rfl ?_
        refine j_iconst 2 dX10_ask_71 ic_2 ?_
        refine j_icmp_ne (tgt := 106) dX10_ask_72 rfl (fun c7 => ?_) (fun c7 => ?_)
        · refine j_aload_n 0 dX10_ask_106 rfl ?_
          refine j_bipush (-6) dX10_ask_107 bp_n6 ?_
          refine j_callV (kc := 0) (ks := 0) (a := 0) (b := 0) (d' := d) (As := [.int (-6)]) dX10_ask_109 kX10_93 rfl (shC hC sgC_0) (by omega) rfl rfl rfl (Nat.le_of_ble_eq_true rfl) (Nat.le_of_ble_eq_true rfl) (T_X10_refuse hC (-6)) (kk_p ?_)
          refine j_iret dX10_ask_112 rfl ?_
          have hz : askZ Z k v = ((-6), (refZ Z (-6))) := by
            clear hQ
            grind [askZ, cif]
          exact hQ _ _ ⟨by rw [hz], by rw [hz]; exact CV.rf cv ok (-6)⟩
        · refine j_aload_n 0 dX10_ask_75 rfl ?_
          refine j_getr (q := 1) dX10_ask_76 fX10_10 (shC hC sgC_0) rfl (rfC hC rfC_0_0 (nz (by decide))) ?_
          refine j_bipush 11 dX10_ask_79 bp_11 ?_
          refine j_iload_n 2 dX10_ask_81 rfl ?_
          refine j_callV (kc := 0) (ks := 0) (a := 0) (b := 0) (d' := (d + 1)) (As := [.int 11, .int v]) dX10_ask_82 kX10_150 rfl (shC hC (sgH (by simp [isH]))) (by omega) rfl rfl rfl (Nat.le_of_ble_eq_true rfl) (Nat.le_of_ble_eq_true rfl) (T_X2_may hC (by simp [isH]) hS okS 11 v) (kk_p ?_)
          refine j_if_eqB (p := (mayS Z.1 11 v)) (tgt := 106) dX10_ask_85 rfl (fun c8 => ?_) (fun c8 => ?_)
          · refine j_aload_n 0 dX10_ask_106 rfl ?_
            refine j_bipush (-6) dX10_ask_107 bp_n6 ?_
            refine j_callV (kc := 0) (ks := 0) (a := 0) (b := 0) (d' := d) (As := [.int (-6)]) dX10_ask_109 kX10_93 rfl (shC hC sgC_0) (by omega) rfl rfl rfl (Nat.le_of_ble_eq_true rfl) (Nat.le_of_ble_eq_true rfl) (T_X10_refuse hC (-6)) (kk_p ?_)
            refine j_iret dX10_ask_112 rfl ?_
            have hz : askZ Z k v = ((-6), (refZ Z (-6))) := by
              clear hQ
              grind [askZ, cif]
            exact hQ _ _ ⟨by rw [hz], by rw [hz]; exact CV.rf cv ok (-6)⟩
          · refine j_aload_n 0 dX10_ask_88 rfl ?_
            refine j_getr (q := 1) dX10_ask_89 fX10_10 (shC hC sgC_0) rfl (rfC hC rfC_0_0 (nz (by decide))) ?_
            refine j_getv (Z.1 3 0) dX10_ask_92 fX10_164 (shC hC (sgH (by simp [isH]))) rfl (hvs hS (by decide)) ?_
            refine j_istore_n (L' := [(3, .int (Z.1 3 0)), (0, .ref 0), (1, .int k), (2, .int v)]) dX10_ask_95 (by decide) rfl ?_
            refine j_aload_n 1 dX10_ask_96 rfl ?_
            refine j_getr (q := 1) dX10_ask_97 fX10_10 (shC hC sgC_0) rfl (rfC hC rfC_0_0 (nz (by decide))) ?_
            refine j_iload_n 3 dX10_ask_100 rfl ?_
            refine j_put dX10_ask_101 fX10_164 (shC hC (sgH (by simp [isH]))) rfl ?_
            have sm9 : Sm PNw M (jk_wI M 1 3 v) := Sm.w Sm.rf (Or.inl HOz)
            refine j_iload_n 0 dX10_ask_104 rfl ?_
            refine j_iret dX10_ask_105 rfl ?_
            have hz : askZ Z k v = ((Z.1 3 0), nowZ Z (upS Z.1 3 0 v)) := by
              clear hQ
              grind [askZ, cif]
            exact hQ _ _ ⟨by rw [hz], by rw [hz]; exact CV.now cv ok (Sm.g sm9) (hv_sc hS okS (by decide) (by decide) (by decide) (by decide))⟩
      · refine j_aload_n 0 dX10_ask_52 rfl ?_
        refine j_getr (q := 1) dX10_ask_53 fX10_10 (shC hC sgC_0) rfl (rfC hC rfC_0_0 (nz (by decide))) ?_
        refine j_getv (Z.1 2 0) dX10_ask_56 fX10_209 (shC hC (sgH (by simp [isH]))) rfl (hvs hS (by decide)) ?_
        refine j_istore_n (L' := [(3, .int (Z.1 2 0)), (0, .ref 0), (1, .int k), (2, .int v)]) dX10_ask_59 (by decide) rfl ?_
        refine j_aload_n 1 dX10_ask_60 rfl ?_
        refine j_getr (q := 1) dX10_ask_61 fX10_10 (shC hC sgC_0) rfl (rfC hC rfC_0_0 (nz (by decide))) ?_
        refine j_iload_n 3 dX10_ask_64 rfl ?_
        refine j_put dX10_ask_65 fX10_209 (shC hC (sgH (by simp [isH]))) rfl ?_
        have sm10 : Sm PNw M (jk_wI M 1 2 v) := Sm.w Sm.rf (Or.inl HOz)
        refine j_iload_n 0 dX10_ask_68 rfl ?_
        refine j_iret dX10_ask_69 rfl ?_
        have hz : askZ Z k v = ((Z.1 2 0), nowZ Z (upS Z.1 2 0 v)) := by
          clear hQ
          grind [askZ, cif]
        exact hQ _ _ ⟨by rw [hz], by rw [hz]; exact CV.now cv ok (Sm.g sm10) (hv_sc hS okS (by decide) (by decide) (by decide) (by decide))⟩
  · refine j_aload_n 0 dX10_ask_4 rfl ?_
    refine j_getr (q := 1) dX10_ask_5 fX10_10 (shC hC sgC_0) rfl (rfC hC rfC_0_0 (nz (by decide))) ?_
    refine j_iconst 5 dX10_ask_8 ic_5 ?_
    refine j_iload_n 2 dX10_ask_9 rfl ?_
    refine j_callV (kc := 0) (ks := 0) (a := 0) (b := 0) (d' := (d + 1)) (As := [.int 5, .int v]) dX10_ask_10 kX10_150 rfl (shC hC (sgH (by simp [isH]))) (by omega) rfl rfl rfl (Nat.le_of_ble_eq_true rfl) (Nat.le_of_ble_eq_true rfl) (T_X2_may hC (by simp [isH]) hS okS 5 v) (kk_p ?_)
    refine j_if_eqB (p := (mayS Z.1 5 v)) (tgt := 34) dX10_ask_13 rfl (fun c11 => ?_) (fun c11 => ?_)
    · refine j_iload_n 1 dX10_ask_34 rfl ?_
      refine j_iconst 1 dX10_ask_35 ic_1 ?_
      refine j_icmp_ne (tgt := 70) dX10_ask_36 rfl (fun c12 => ?_) (fun c12 => ?_)
      · refine j_iload_n 1 dX10_ask_70 rfl ?_
        refine j_iconst 2 dX10_ask_71 ic_2 ?_
        refine j_icmp_ne (tgt := 106) dX10_ask_72 rfl (fun c13 => ?_) (fun c13 => ?_)
        · refine j_aload_n 0 dX10_ask_106 rfl ?_
          refine j_bipush (-6) dX10_ask_107 bp_n6 ?_
          refine j_callV (kc := 0) (ks := 0) (a := 0) (b := 0) (d' := d) (As := [.int (-6)]) dX10_ask_109 kX10_93 rfl (shC hC sgC_0) (by omega) rfl rfl rfl (Nat.le_of_ble_eq_true rfl) (Nat.le_of_ble_eq_true rfl) (T_X10_refuse hC (-6)) (kk_p ?_)
          refine j_iret dX10_ask_112 rfl ?_
          have hz : askZ Z k v = ((-6), (refZ Z (-6))) := by
            clear hQ
            grind [askZ, cif]
          exact hQ _ _ ⟨by rw [hz], by rw [hz]; exact CV.rf cv ok (-6)⟩
        · refine j_aload_n 0 dX10_ask_75 rfl ?_
          refine j_getr (q := 1) dX10_ask_76 fX10_10 (shC hC sgC_0) rfl (rfC hC rfC_0_0 (nz (by decide))) ?_
          refine j_bipush 11 dX10_ask_79 bp_11 ?_
          refine j_iload_n 2 dX10_ask_81 rfl ?_
          refine j_callV (kc := 0) (ks := 0) (a := 0) (b := 0) (d' := (d + 1)) (As := [.int 11, .int v]) dX10_ask_82 kX10_150 rfl (shC hC (sgH (by simp [isH]))) (by omega) rfl rfl rfl (Nat.le_of_ble_eq_true rfl) (Nat.le_of_ble_eq_true rfl) (T_X2_may hC (by simp [isH]) hS okS 11 v) (kk_p ?_)
          refine j_if_eqB (p := (mayS Z.1 11 v)) (tgt := 106) dX10_ask_85 rfl (fun c14 => ?_) (fun c14 => ?_)
          · refine j_aload_n 0 dX10_ask_106 rfl ?_
            refine j_bipush (-6) dX10_ask_107 bp_n6 ?_
            refine j_callV (kc := 0) (ks := 0) (a := 0) (b := 0) (d' := d) (As := [.int (-6)]) dX10_ask_109 kX10_93 rfl (shC hC sgC_0) (by omega) rfl rfl rfl (Nat.le_of_ble_eq_true rfl) (Nat.le_of_ble_eq_true rfl) (T_X10_refuse hC (-6)) (kk_p ?_)
            refine j_iret dX10_ask_112 rfl ?_
            have hz : askZ Z k v = ((-6), (refZ Z (-6))) := by
              clear hQ
              grind [askZ, cif]
            exact hQ _ _ ⟨by rw [hz], by rw [hz]; exact CV.rf cv ok (-6)⟩
          · refine j_aload_n 0 dX10_ask_88 rfl ?_
            refine j_getr (q := 1) dX10_ask_89 fX10_10 (shC hC sgC_0) rfl (rfC hC rfC_0_0 (nz (by decide))) ?_
            refine j_getv (Z.1 3 0) dX10_ask_92 fX10_164 (shC hC (sgH (by simp [isH]))) rfl (hvs hS (by decide)) ?_
            refine j_istore_n (L' := [(3, .int (Z.1 3 0)), (0, .ref 0), (1, .int k), (2, .int v)]) dX10_ask_95 (by decide) rfl ?_
            refine j_aload_n 1 dX10_ask_96 rfl ?_
            refine j_getr (q := 1) dX10_ask_97 fX10_10 (shC hC sgC_0) rfl (rfC hC rfC_0_0 (nz (by decide))) ?_
            refine j_iload_n 3 dX10_ask_100 rfl ?_
            refine j_put dX10_ask_101 fX10_164 (shC hC (sgH (by simp [isH]))) rfl ?_
            have sm15 : Sm PNw M (jk_wI M 1 3 v) := Sm.w Sm.rf (Or.inl HOz)
            refine j_iload_n 0 dX10_ask_104 rfl ?_
            refine j_iret dX10_ask_105 rfl ?_
            have hz : askZ Z k v = ((Z.1 3 0), nowZ Z (upS Z.1 3 0 v)) := by
              clear hQ
              grind [askZ, cif]
            exact hQ _ _ ⟨by rw [hz], by rw [hz]; exact CV.now cv ok (Sm.g sm15) (hv_sc hS okS (by decide) (by decide) (by decide) (by decide))⟩
      · refine j_aload_n 0 dX10_ask_39 rfl ?_
        refine j_getr (q := 1) dX10_ask_40 fX10_10 (shC hC sgC_0) rfl (rfC hC rfC_0_0 (nz (by decide))) ?_
        refine j_bipush 6 dX10_ask_43 bp_6 ?_
        refine j_iload_n 2 dX10_ask_45 rfl ?_
        refine j_callV (kc := 0) (ks := 0) (a := 0) (b := 0) (d' := (d + 1)) (As := [.int 6, .int v]) dX10_ask_46 kX10_150 rfl (shC hC (sgH (by simp [isH]))) (by omega) rfl rfl rfl (Nat.le_of_ble_eq_true rfl) (Nat.le_of_ble_eq_true rfl) (T_X2_may hC (by simp [isH]) hS okS 6 v) (kk_p ?_)
        refine j_if_eqB (p := (mayS Z.1 6 v)) (tgt := 70) dX10_ask_49 rfl (fun c16 => ?_) (fun c16 => ?_)
        · refine j_iload_n 1 dX10_ask_70 rfl ?_
          refine j_iconst 2 dX10_ask_71 ic_2 ?_
          refine j_icmp_ne (tgt := 106) dX10_ask_72 rfl (fun c17 => ?_) (fun c17 => ?_)
          · refine j_aload_n 0 dX10_ask_106 rfl ?_
            refine j_bipush (-6) dX10_ask_107 bp_n6 ?_
            refine j_callV (kc := 0) (ks := 0) (a := 0) (b := 0) (d' := d) (As := [.int (-6)]) dX10_ask_109 kX10_93 rfl (shC hC sgC_0) (by omega) rfl rfl rfl (Nat.le_of_ble_eq_true rfl) (Nat.le_of_ble_eq_true rfl) (T_X10_refuse hC (-6)) (kk_p ?_)
            refine j_iret dX10_ask_112 rfl ?_
            have hz : askZ Z k v = ((-6), (refZ Z (-6))) := by
              clear hQ
              grind [askZ, cif]
            exact hQ _ _ ⟨by rw [hz], by rw [hz]; exact CV.rf cv ok (-6)⟩
          · refine j_aload_n 0 dX10_ask_75 rfl ?_
            refine j_getr (q := 1) dX10_ask_76 fX10_10 (shC hC sgC_0) rfl (rfC hC rfC_0_0 (nz (by decide))) ?_
            refine j_bipush 11 dX10_ask_79 bp_11 ?_
            refine j_iload_n 2 dX10_ask_81 rfl ?_
            refine j_callV (kc := 0) (ks := 0) (a := 0) (b := 0) (d' := (d + 1)) (As := [.int 11, .int v]) dX10_ask_82 kX10_150 rfl (shC hC (sgH (by simp [isH]))) (by omega) rfl rfl rfl (Nat.le_of_ble_eq_true rfl) (Nat.le_of_ble_eq_true rfl) (T_X2_may hC (by simp [isH]) hS okS 11 v) (kk_p ?_)
            refine j_if_eqB (p := (mayS Z.1 11 v)) (tgt := 106) dX10_ask_85 rfl (fun c18 => ?_) (fun c18 => ?_)
            · refine j_aload_n 0 dX10_ask_106 rfl ?_
              refine j_bipush (-6) dX10_ask_107 bp_n6 ?_
              refine j_callV (kc := 0) (ks := 0) (a := 0) (b := 0) (d' := d) (As := [.int (-6)]) dX10_ask_109 kX10_93 rfl (shC hC sgC_0) (by omega) rfl rfl rfl (Nat.le_of_ble_eq_true rfl) (Nat.le_of_ble_eq_true rfl) (T_X10_refuse hC (-6)) (kk_p ?_)
              refine j_iret dX10_ask_112 rfl ?_
              have hz : askZ Z k v = ((-6), (refZ Z (-6))) := by
                clear hQ
                grind [askZ, cif]
              exact hQ _ _ ⟨by rw [hz], by rw [hz]; exact CV.rf cv ok (-6)⟩
            · refine j_aload_n 0 dX10_ask_88 rfl ?_
              refine j_getr (q := 1) dX10_ask_89 fX10_10 (shC hC sgC_0) rfl (rfC hC rfC_0_0 (nz (by decide))) ?_
              refine j_getv (Z.1 3 0) dX10_ask_92 fX10_164 (shC hC (sgH (by simp [isH]))) rfl (hvs hS (by decide)) ?_
              refine j_istore_n (L' := [(3, .int (Z.1 3 0)), (0, .ref 0), (1, .int k), (2, .int v)]) dX10_ask_95 (by decide) rfl ?_
              refine j_aload_n 1 dX10_ask_96 rfl ?_
              refine j_getr (q := 1) dX10_ask_97 fX10_10 (shC hC sgC_0) rfl (rfC hC rfC_0_0 (nz (by decide))) ?_
              refine j_iload_n 3 dX10_ask_100 rfl ?_
              refine j_put dX10_ask_101 fX10_164 (shC hC (sgH (by simp [isH]))) rfl ?_
              have sm19 : Sm PNw M (jk_wI M 1 3 v) := Sm.w Sm.rf (Or.inl HOz)
              refine j_iload_n 0 dX10_ask_104 rfl ?_
              refine j_iret dX10_ask_105 rfl ?_
              have hz : askZ Z k v = ((Z.1 3 0), nowZ Z (upS Z.1 3 0 v)) := by
                clear hQ
                grind [askZ, cif]
              exact hQ _ _ ⟨by rw [hz], by rw [hz]; exact CV.now cv ok (Sm.g sm19) (hv_sc hS okS (by decide) (by decide) (by decide) (by decide))⟩
        · refine j_aload_n 0 dX10_ask_52 rfl ?_
          refine j_getr (q := 1) dX10_ask_53 fX10_10 (shC hC sgC_0) rfl (rfC hC rfC_0_0 (nz (by decide))) ?_
          refine j_getv (Z.1 2 0) dX10_ask_56 fX10_209 (shC hC (sgH (by simp [isH]))) rfl (hvs hS (by decide)) ?_
          refine j_istore_n (L' := [(3, .int (Z.1 2 0)), (0, .ref 0), (1, .int k), (2, .int v)]) dX10_ask_59 (by decide) rfl ?_
          refine j_aload_n 1 dX10_ask_60 rfl ?_
          refine j_getr (q := 1) dX10_ask_61 fX10_10 (shC hC sgC_0) rfl (rfC hC rfC_0_0 (nz (by decide))) ?_
          refine j_iload_n 3 dX10_ask_64 rfl ?_
          refine j_put dX10_ask_65 fX10_209 (shC hC (sgH (by simp [isH]))) rfl ?_
          have sm20 : Sm PNw M (jk_wI M 1 2 v) := Sm.w Sm.rf (Or.inl HOz)
          refine j_iload_n 0 dX10_ask_68 rfl ?_
          refine j_iret dX10_ask_69 rfl ?_
          have hz : askZ Z k v = ((Z.1 2 0), nowZ Z (upS Z.1 2 0 v)) := by
            clear hQ
            grind [askZ, cif]
          exact hQ _ _ ⟨by rw [hz], by rw [hz]; exact CV.now cv ok (Sm.g sm20) (hv_sc hS okS (by decide) (by decide) (by decide) (by decide))⟩
    · refine j_aload_n 0 dX10_ask_16 rfl ?_
      refine j_getr (q := 1) dX10_ask_17 fX10_10 (shC hC sgC_0) rfl (rfC hC rfC_0_0 (nz (by decide))) ?_
      refine j_getv (Z.1 1 0) dX10_ask_20 fX10_206 (shC hC (sgH (by simp [isH]))) rfl (hvs hS (by decide)) ?_
      refine j_istore_n (L' := [(3, .int (Z.1 1 0)), (0, .ref 0), (1, .int k), (2, .int v)]) dX10_ask_23 (by decide) rfl ?_
      refine j_aload_n 1 dX10_ask_24 rfl ?_
      refine j_getr (q := 1) dX10_ask_25 fX10_10 (shC hC sgC_0) rfl (rfC hC rfC_0_0 (nz (by decide))) ?_
      refine j_iload_n 3 dX10_ask_28 rfl ?_
      refine j_put dX10_ask_29 fX10_206 (shC hC (sgH (by simp [isH]))) rfl ?_
      have sm21 : Sm PNw M (jk_wI M 1 1 v) := Sm.w Sm.rf (Or.inl HOz)
      refine j_iload_n 0 dX10_ask_32 rfl ?_
      refine j_iret dX10_ask_33 rfl ?_
      have hz : askZ Z k v = ((Z.1 1 0), nowZ Z (upS Z.1 1 0 v)) := by
        clear hQ
        grind [askZ, cif]
      exact hQ _ _ ⟨by rw [hz], by rw [hz]; exact CV.now cv ok (Sm.g sm21) (hv_sc hS okS (by decide) (by decide) (by decide) (by decide))⟩
