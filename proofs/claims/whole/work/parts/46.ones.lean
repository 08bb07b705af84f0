/-! calls of one thing, one device -/
theorem i_in {t : Int32} {n : Nat} (hn : n < 2 ^ 31) (h : 0 ≤ t ∧ t < nI n) : ∃ k, k < n ∧ t = nI k := by
  obtain ⟨j, hj, e⟩ := nI_of (Int32.not_lt.mpr h.1)
  have h2 := h.2
  rw [e, nI_ltI hj hn] at h2
  exact ⟨j, h2, e⟩
theorem i_ok {k n : Nat} (hk : k < n) (hn : n < 2 ^ 31) : 0 ≤ nI k ∧ nI k < nI n := ⟨nI_pos' (by omega), (nI_ltI (by omega) hn).mpr hk⟩
noncomputable def inZ (Z : ZS) (t : Int32) (n : Nat) (c : Int32) (f : Nat → Int32 × ZS) : Int32 × ZS := cif (0 ≤ t ∧ t < nI n) (f t.toNatClampNeg) (c, refZ Z c)
theorem inZ_y {Z : ZS} {n : Nat} {c : Int32} {f : Nat → Int32 × ZS} {k : Nat} (hk : k < n) (hn : n < 2 ^ 31) : inZ Z (nI k) n c f = f k := by
  rw [inZ, cif_t (i_ok hk hn), nI_clamp (by omega)]
theorem inZ_n {Z : ZS} {n : Nat} {c t : Int32} {f : Nat → Int32 × ZS} (h : ¬ (0 ≤ t ∧ t < nI n)) : inZ Z t n c f = (c, refZ Z c) := by
  rw [inZ, cif_f h]
def shutK (Z : ZS) (b : Int32) (i : Nat) : Int32 × ZS := (Z.1 13 i, nowZ Z (upS Z.1 13 i b))
noncomputable def moveK (Z : ZS) (c : Int32) (i : Nat) : Int32 × ZS := cif (¬ isC Z.1 c) (-6, refZ Z (-6)) (Z.1 12 i, nowZ Z (upS Z.1 12 i c))
def tofK (Z : ZS) (w : Int32) (i : Nat) : Int32 × ZS := if w = 0 then (Z.1 10 i, Z) else if w = 1 then (Z.1 11 i, Z) else if w = 2 then (Z.1 12 i, Z) else if w = 3 then (Z.1 13 i, Z) else if w = 4 then (lossT Z.1 i, Z) else (-5, refZ Z (-5))
noncomputable def dofK (Z : ZS) (w : Int32) (i : Nat) : Int32 × ZS := if w = 0 then (Z.1 16 i, Z) else if w = 1 then (Z.1 17 i, Z) else if w = 2 then (Z.1 18 i, Z) else if w = 3 then (Z.1 19 i, Z) else if w = 4 then (paceS Z.1 (Z.1 19 i) (Z.1 16 i), Z) else if w = 5 then (jmax (paceS Z.1 0 (Z.1 16 i)) (paceS Z.1 1 (Z.1 16 i)), Z) else (-5, refZ Z (-5))
noncomputable def shutZ (Z : ZS) (t b : Int32) : Int32 × ZS := inZ Z t (nT Z.1) (-1) (shutK Z b)
noncomputable def moveZ (Z : ZS) (t c : Int32) : Int32 × ZS := inZ Z t (nT Z.1) (-1) (moveK Z c)
noncomputable def tofZ (Z : ZS) (t w : Int32) : Int32 × ZS := inZ Z t (nT Z.1) (-5) (tofK Z w)
noncomputable def dofZ (Z : ZS) (t w : Int32) : Int32 × ZS := inZ Z t (nD Z.1) (-5) (dofK Z w)
set_option maxRecDepth 20000 in
set_option maxHeartbeats 4000000 in
theorem T_X2_deviceAtN {d : Nat} {M : jk_M} {h : Nat} {S : HS} (hC : WC M) (hh : isH h) (hS : hv M.2.1 h = S) (ok : Sok S) (x : Int32) (hx : ¬ (0 ≤ x ∧ x < nI (nD S))) : J Fr_X2_deviceAt d 0 0 0 [(0, .ref h), (1, .int x)] [] M (jk_is (some .null) M) := by
  refine j_post (fun Q hQ => ?_)
  refine j_iload_n 1 dX2_deviceAt_0 rfl ?_
  refine j_if_lt (tgt := 30) dX2_deviceAt_1 rfl (fun c1 => ?_) (fun c1 => ?_)
  · refine j_null dX2_deviceAt_30 ?_
    refine j_aretN dX2_deviceAt_31 rfl ?_
    exact hQ _ _ ⟨rfl, rfl⟩
  · refine j_iload_n 1 dX2_deviceAt_4 rfl ?_
    refine j_aload_n 0 dX2_deviceAt_5 rfl ?_
    refine j_getv (nI (nD S)) dX2_deviceAt_6 fX2_39 (shC hC (sgH hh)) rfl ((hvs hS (by decide)).trans (Sok.D ok).1) ?_
    refine j_icmp_ge (tgt := 30) dX2_deviceAt_9 rfl (fun c2 => ?_) (fun c2 => ?_)
    · refine j_null dX2_deviceAt_30 ?_
      refine j_aretN dX2_deviceAt_31 rfl ?_
      exact hQ _ _ ⟨rfl, rfl⟩
    · refine j_iload_n 1 dX2_deviceAt_12 rfl ?_
      refine j_aload_n 0 dX2_deviceAt_13 rfl ?_
      refine j_getr (q := (h + 2)) dX2_deviceAt_14 fX2_50 (shC hC (sgH hh)) rfl (rfC hC (rfH11 hh) (nzH hh)) ?_
      refine j_alen dX2_deviceAt_17 (shC hC (sgH2 hh)) (by decide) ?_
      refine j_icmp_ge (tgt := 30) dX2_deviceAt_18 rfl (fun c3 => ?_) (fun c3 => ?_)
      · refine j_null dX2_deviceAt_30 ?_
        refine j_aretN dX2_deviceAt_31 rfl ?_
        exact hQ _ _ ⟨rfl, rfl⟩
      · refine j_aload_n 0 dX2_deviceAt_21 rfl ?_
        refine j_getr (q := (h + 2)) dX2_deviceAt_22 fX2_50 (shC hC (sgH hh)) rfl (rfC hC (rfH11 hh) (nzH hh)) ?_
        refine j_iload_n 1 dX2_deviceAt_25 rfl ?_
        refine j_aald (q := (h + 21 + (x.toNatClampNeg))) dX2_deviceAt_26 (shC hC (sgH2 hh)) (by decide) (vpin 6 (by decide) (by clear hQ; grind) (by clear hQ; grind)) (rfC hC (rfHD hh (by exfalso; clear hQ; grind)) (nzH2 hh)) ?_
        refine j_goto (tgt := 31) dX2_deviceAt_27 rfl ?_
        refine j_aret dX2_deviceAt_31 rfl ?_
        exfalso; clear hQ; grind
set_option maxRecDepth 20000 in
set_option maxHeartbeats 4000000 in
theorem P_shutY {d : Nat} {M : jk_M} {Z : ZS} (cv : CV M Z) (ok : Zok Z) (b : Int32) (hb : b = 0 ∨ b = 1) (i : Nat) (hi : i < nT Z.1) : J Fr_X10_shut (d + 1) 0 0 0 [(0, .ref 0), (1, .int (nI i)), (2, .int b)] [] M (jk_ex (some (.int (shutK Z b i).1)) (fun M1 => CV M1 (shutK Z b i).2)) := by
  refine j_post (fun Q hQ => ?_)
  have hC := cv.1
  have hS := cv.2.1
  have okS := ok.1
  have hT := (Sok.T okS).2
  have hD := (Sok.D okS).2
  refine j_aload_n 0 dX10_shut_0 rfl ?_
  refine j_getr (q := 1) dX10_shut_1 fX10_10 (shC hC sgC_0) rfl (rfC hC rfC_0_0 (nz (by decide))) ?_
  refine j_iload_n 1 dX10_shut_4 rfl ?_
  refine j_callV (kc := 0) (ks := 0) (a := 0) (b := 0) (d' := d) (As := [.int (nI i)]) dX10_shut_5 kX10_129 rfl (shC hC (sgH (by simp [isH]))) (by omega) rfl rfl rfl (Nat.le_of_ble_eq_true rfl) (Nat.le_of_ble_eq_true rfl) (T_X2_thingAt hC (by simp [isH]) hS okS i (by omega)) (kk_p ?_)
  refine j_astore_n (L' := [(3, .ref (1 + 5 + i)), (0, .ref 0), (1, .int (nI i)), (2, .int b)]) dX10_shut_8 (by decide) rfl ?_
  refine j_aload_n 0 dX10_shut_9 rfl ?_
  refine j_ifnonnull (tgt := 19) dX10_shut_10 rfl ?_
  refine j_aload_n 0 dX10_shut_19 rfl ?_
  refine j_getv (Z.1 13 i) dX10_shut_20 fX10_161 (shC hC (sgHT (by simp [isH]) (by have := (Sok.T okS).2; omega))) rfl (hvT hS (by omega) (by decide)) ?_
  refine j_if_eq (tgt := 30) dX10_shut_23 rfl (fun c1 => ?_) (fun c1 => ?_)
  · refine j_iconst 0 dX10_shut_30 ic_0 ?_
    refine j_istore (L' := [(4, .int 0), (3, .ref (1 + 5 + i)), (0, .ref 0), (1, .int (nI i)), (2, .int b)]) dX10_shut_31 (by decide) rfl ?_
    refine j_aload_n 1 dX10_shut_33 rfl ?_
    refine j_iload_n 4 dX10_shut_34 rfl ?_
    refine j_putz dX10_shut_35 fX10_161 (shC hC (sgHT (by simp [isH]) (by have := (Sok.T okS).2; omega))) rfl (by assumption) ?_
    have sm2 : Sm PNw M (jk_wI M (1 + 5 + i) 3 b) := Sm.w Sm.rf (Or.inl (HOT (by omega)))
    refine j_iload 0 dX10_shut_38 rfl ?_
    refine j_iret dX10_shut_40 rfl ?_
    have hz : shutK Z b i = (0, nowZ Z (upS Z.1 13 i b)) := by
      clear hQ
      have h01 := (okS.th hi).2.2.2
      grind [shutK, cif]
    exact hQ _ _ ⟨by rw [hz], by rw [hz]; exact CV.now cv ok (Sm.g sm2) (hv_th (k := 3) hS okS (by omega) (by decide))⟩
  · refine j_iconst 1 dX10_shut_26 ic_1 ?_
    refine j_goto (tgt := 31) dX10_shut_27 rfl ?_
    refine j_istore (L' := [(4, .int 1), (3, .ref (1 + 5 + i)), (0, .ref 0), (1, .int (nI i)), (2, .int b)]) dX10_shut_31 (by decide) rfl ?_
    refine j_aload_n 1 dX10_shut_33 rfl ?_
    refine j_iload_n 4 dX10_shut_34 rfl ?_
    refine j_putz dX10_shut_35 fX10_161 (shC hC (sgHT (by simp [isH]) (by have := (Sok.T okS).2; omega))) rfl (by assumption) ?_
    have sm3 : Sm PNw M (jk_wI M (1 + 5 + i) 3 b) := Sm.w Sm.rf (Or.inl (HOT (by omega)))
    refine j_iload 0 dX10_shut_38 rfl ?_
    refine j_iret dX10_shut_40 rfl ?_
    have hz : shutK Z b i = (1, nowZ Z (upS Z.1 13 i b)) := by
      clear hQ
      have h01 := (okS.th hi).2.2.2
      grind [shutK, cif]
    exact hQ _ _ ⟨by rw [hz], by rw [hz]; exact CV.now cv ok (Sm.g sm3) (hv_th (k := 3) hS okS (by omega) (by decide))⟩
set_option maxRecDepth 20000 in
set_option maxHeartbeats 4000000 in
theorem P_shutN {d : Nat} {M : jk_M} {Z : ZS} (cv : CV M Z) (ok : Zok Z) (b : Int32) (hb : b = 0 ∨ b = 1) (t : Int32) (hx : ¬ (0 ≤ t ∧ t < nI (nT Z.1))) : J Fr_X10_shut (d + 1) 0 0 0 [(0, .ref 0), (1, .int t), (2, .int b)] [] M (jk_ex (some (.int (((-1 : Int32), refZ Z (-1))).1)) (fun M1 => CV M1 (((-1 : Int32), refZ Z (-1))).2)) := by
  refine j_post (fun Q hQ => ?_)
  have hC := cv.1
  have hS := cv.2.1
  have okS := ok.1
  refine j_aload_n 0 dX10_shut_0 rfl ?_
  refine j_getr (q := 1) dX10_shut_1 fX10_10 (shC hC sgC_0) rfl (rfC hC rfC_0_0 (nz (by decide))) ?_
  refine j_iload_n 1 dX10_shut_4 rfl ?_
  refine j_callV (kc := 0) (ks := 0) (a := 0) (b := 0) (d' := d) (As := [.int t]) dX10_shut_5 kX10_129 rfl (shC hC (sgH (by simp [isH]))) (by omega) rfl rfl rfl (Nat.le_of_ble_eq_true rfl) (Nat.le_of_ble_eq_true rfl) (T_X2_thingAtN hC (by simp [isH]) hS okS t (by assumption)) (kk_p ?_)
  refine j_astore_nN (L' := [(3, .null), (0, .ref 0), (1, .int t), (2, .int b)]) dX10_shut_8 (by decide) rfl ?_
  refine j_aload_nN 0 dX10_shut_9 rfl ?_
  refine j_ifnonnullN dX10_shut_10 ?_
  refine j_aload_n 1 dX10_shut_13 rfl ?_
  refine j_iconst (-1) dX10_shut_14 ic_n1 ?_
  refine j_callV (kc := 0) (ks := 0) (a := 0) (b := 0) (d' := d) (As := [.int (-1)]) dX10_shut_15 kX10_93 rfl (shC hC sgC_0) (by omega) rfl rfl rfl (Nat.le_of_ble_eq_true rfl) (Nat.le_of_ble_eq_true rfl) (T_X10_refuse hC (-1)) (kk_p ?_)
  refine j_iret dX10_shut_18 rfl ?_
  exact hQ _ _ ⟨rfl, CV.rf cv ok (-1)⟩
theorem P_shut {d : Nat} {M : jk_M} {Z : ZS} (cv : CV M Z) (ok : Zok Z) (t : Int32) (b : Int32) (hb : b = 0 ∨ b = 1) : J Fr_X10_shut (d + 1) 0 0 0 [(0, .ref 0), (1, .int t), (2, .int b)] [] M (jk_ex (some (.int (shutZ Z t b).1)) (fun M1 => CV M1 (shutZ Z t b).2)) := by
  by_cases h : 0 ≤ t ∧ t < nI (nT Z.1)
  · have hn : nT Z.1 < 2 ^ 31 := by have := (Sok.T ok.1).2; omega
    obtain ⟨k9, hk9, rfl⟩ := i_in hn h
    rw [shutZ, inZ_y hk9 hn]
    exact P_shutY cv ok b hb k9 hk9
  · rw [shutZ, inZ_n h]
    exact P_shutN cv ok b hb t h
set_option maxRecDepth 20000 in
set_option maxHeartbeats 4000000 in
theorem P_moveY {d : Nat} {M : jk_M} {Z : ZS} (cv : CV M Z) (ok : Zok Z) (c : Int32) (i : Nat) (hi : i < nT Z.1) : J Fr_X10_move (d + 1) 0 0 0 [(0, .ref 0), (1, .int (nI i)), (2, .int c)] [] M (jk_ex (some (.int (moveK Z c i).1)) (fun M1 => CV M1 (moveK Z c i).2)) := by
  refine j_post (fun Q hQ => ?_)
  have hC := cv.1
  have hS := cv.2.1
  have okS := ok.1
  have hT := (Sok.T okS).2
  have hD := (Sok.D okS).2
  refine j_aload_n 0 dX10_move_0 rfl ?_
  refine j_getr (q := 1) dX10_move_1 fX10_10 (shC hC sgC_0) rfl (rfC hC rfC_0_0 (nz (by decide))) ?_
  refine j_iload_n 1 dX10_move_4 rfl ?_
  refine j_callV (kc := 0) (ks := 0) (a := 0) (b := 0) (d' := d) (As := [.int (nI i)]) dX10_move_5 kX10_129 rfl (shC hC (sgH (by simp [isH]))) (by omega) rfl rfl rfl (Nat.le_of_ble_eq_true rfl) (Nat.le_of_ble_eq_true rfl) (T_X2_thingAt hC (by simp [isH]) hS okS i (by omega)) (kk_p ?_)
  refine j_astore_n (L' := [(3, .ref (1 + 5 + i)), (0, .ref 0), (1, .int (nI i)), (2, .int c)]) dX10_move_8 (by decide) rfl ?_
  refine j_aload_n 0 dX10_move_9 rfl ?_
  refine j_ifnonnull (tgt := 19) dX10_move_10 rfl ?_
  refine j_aload_n 1 dX10_move_19 rfl ?_
  refine j_getr (q := 1) dX10_move_20 fX10_10 (shC hC sgC_0) rfl (rfC hC rfC_0_0 (nz (by decide))) ?_
  refine j_iload_n 3 dX10_move_23 rfl ?_
  refine j_callV (kc := 0) (ks := 0) (a := 0) (b := 0) (d' := d) (As := [.int c]) dX10_move_24 kX10_178 rfl (shC hC (sgH (by simp [isH]))) (by omega) rfl rfl rfl (Nat.le_of_ble_eq_true rfl) (Nat.le_of_ble_eq_true rfl) (T_X2_isCell hC (by simp [isH]) hS okS c) (kk_p ?_)
  refine j_if_neB (p := (isC Z.1 c)) (tgt := 37) dX10_move_27 rfl (fun c1 => ?_) (fun c1 => ?_)
  · refine j_aload_n 0 dX10_move_37 rfl ?_
    refine j_getv (Z.1 12 i) dX10_move_38 fX10_158 (shC hC (sgHT (by simp [isH]) (by have := (Sok.T okS).2; omega))) rfl (hvT hS (by omega) (by decide)) ?_
    refine j_istore (L' := [(4, .int (Z.1 12 i)), (3, .ref (1 + 5 + i)), (0, .ref 0), (1, .int (nI i)), (2, .int c)]) dX10_move_41 (by decide) rfl ?_
    refine j_aload_n 1 dX10_move_43 rfl ?_
    refine j_iload_n 4 dX10_move_44 rfl ?_
    refine j_put dX10_move_45 fX10_158 (shC hC (sgHT (by simp [isH]) (by have := (Sok.T okS).2; omega))) rfl ?_
    have sm2 : Sm PNw M (jk_wI M (1 + 5 + i) 2 c) := Sm.w Sm.rf (Or.inl (HOT (by omega)))
    refine j_iload 0 dX10_move_48 rfl ?_
    refine j_iret dX10_move_50 rfl ?_
    have hz : moveK Z c i = ((Z.1 12 i), nowZ Z (upS Z.1 12 i c)) := by
      clear hQ
      grind [moveK, cif]
    exact hQ _ _ ⟨by rw [hz], by rw [hz]; exact CV.now cv ok (Sm.g sm2) (hv_th (k := 2) hS okS (by omega) (by decide))⟩
  · refine j_aload_n 1 dX10_move_30 rfl ?_
    refine j_bipush (-6) dX10_move_31 bp_n6 ?_
    refine j_callV (kc := 0) (ks := 0) (a := 0) (b := 0) (d' := d) (As := [.int (-6)]) dX10_move_33 kX10_93 rfl (shC hC sgC_0) (by omega) rfl rfl rfl (Nat.le_of_ble_eq_true rfl) (Nat.le_of_ble_eq_true rfl) (T_X10_refuse hC (-6)) (kk_p ?_)
    refine j_iret dX10_move_36 rfl ?_
    have hz : moveK Z c i = ((-6), (refZ Z (-6))) := by
      clear hQ
      grind [moveK, cif]
    exact hQ _ _ ⟨by rw [hz], by rw [hz]; exact CV.rf cv ok (-6)⟩
set_option maxRecDepth 20000 in
set_option maxHeartbeats 4000000 in
theorem P_moveN {d : Nat} {M : jk_M} {Z : ZS} (cv : CV M Z) (ok : Zok Z) (c : Int32) (t : Int32) (hx : ¬ (0 ≤ t ∧ t < nI (nT Z.1))) : J Fr_X10_move (d + 1) 0 0 0 [(0, .ref 0), (1, .int t), (2, .int c)] [] M (jk_ex (some (.int (((-1 : Int32), refZ Z (-1))).1)) (fun M1 => CV M1 (((-1 : Int32), refZ Z (-1))).2)) := by
  refine j_post (fun Q hQ => ?_)
  have hC := cv.1
  have hS := cv.2.1
  have okS := ok.1
  refine j_aload_n 0 dX10_move_0 rfl ?_
  refine j_getr (q := 1) dX10_move_1 fX10_10 (shC hC sgC_0) rfl (rfC hC rfC_0_0 (nz (by decide))) ?_
  refine j_iload_n 1 dX10_move_4 rfl ?_
  refine j_callV (kc := 0) (ks := 0) (a := 0) (b := 0) (d' := d) (As := [.int t]) dX10_move_5 kX10_129 rfl (shC hC (sgH (by simp [isH]))) (by omega) rfl rfl rfl (Nat.le_of_ble_eq_true rfl) (Nat.le_of_ble_eq_true rfl) (T_X2_thingAtN hC (by simp [isH]) hS okS t (by assumption)) (kk_p ?_)
  refine j_astore_nN (L' := [(3, .null), (0, .ref 0), (1, .int t), (2, .int c)]) dX10_move_8 (by decide) rfl ?_
  refine j_aload_nN 0 dX10_move_9 rfl ?_
  refine j_ifnonnullN dX10_move_10 ?_
  refine j_aload_n 1 dX10_move_13 rfl ?_
  refine j_iconst (-1) dX10_move_14 ic_n1 ?_
  refine j_callV (kc := 0) (ks := 0) (a := 0) (b := 0) (d' := d) (As := [.int (-1)]) dX10_move_15 kX10_93 rfl (shC hC sgC_0) (by omega) rfl rfl rfl (Nat.le_of_ble_eq_true rfl) (Nat.le_of_ble_eq_true rfl) (T_X10_refuse hC (-1)) (kk_p ?_)
  refine j_iret dX10_move_18 rfl ?_
  exact hQ _ _ ⟨rfl, CV.rf cv ok (-1)⟩
theorem P_move {d : Nat} {M : jk_M} {Z : ZS} (cv : CV M Z) (ok : Zok Z) (t : Int32) (c : Int32) : J Fr_X10_move (d + 1) 0 0 0 [(0, .ref 0), (1, .int t), (2, .int c)] [] M (jk_ex (some (.int (moveZ Z t c).1)) (fun M1 => CV M1 (moveZ Z t c).2)) := by
  by_cases h : 0 ≤ t ∧ t < nI (nT Z.1)
  · have hn : nT Z.1 < 2 ^ 31 := by have := (Sok.T ok.1).2; omega
    obtain ⟨k9, hk9, rfl⟩ := i_in hn h
    rw [moveZ, inZ_y hk9 hn]
    exact P_moveY cv ok c k9 hk9
  · rw [moveZ, inZ_n h]
    exact P_moveN cv ok c t h
set_option maxRecDepth 20000 in
set_option maxHeartbeats 4000000 in
theorem P_thingOfY {d : Nat} {M : jk_M} {Z : ZS} (cv : CV M Z) (ok : Zok Z) (k : Int32) (i : Nat) (hi : i < nT Z.1) : J Fr_X10_thingOf (d + 1) 0 0 0 [(0, .ref 0), (1, .int (nI i)), (2, .int k)] [] M (jk_ex (some (.int (tofK Z k i).1)) (fun M1 => CV M1 (tofK Z k i).2)) := by
  refine j_post (fun Q hQ => ?_)
  have hC := cv.1
  have hS := cv.2.1
  have okS := ok.1
  have hT := (Sok.T okS).2
  have hD := (Sok.D okS).2
  refine j_aload_n 0 dX10_thingOf_0 rfl ?_
  refine j_getr (q := 1) dX10_thingOf_1 fX10_10 (shC hC sgC_0) rfl (rfC hC rfC_0_0 (nz (by decide))) ?_
  refine j_iload_n 1 dX10_thingOf_4 rfl ?_
  refine j_callV (kc := 0) (ks := 0) (a := 0) (b := 0) (d' := d) (As := [.int (nI i)]) dX10_thingOf_5 kX10_129 rfl (shC hC (sgH (by simp [isH]))) (by omega) rfl rfl rfl (Nat.le_of_ble_eq_true rfl) (Nat.le_of_ble_eq_true rfl) (T_X2_thingAt hC (by simp [isH]) hS okS i (by omega)) (kk_p ?_)
  refine j_astore_n (L' := [(3, .ref (1 + 5 + i)), (0, .ref 0), (1, .int (nI i)), (2, .int k)]) dX10_thingOf_8 (by decide) rfl ?_
  refine j_aload_n 0 dX10_thingOf_9 rfl ?_
  refine j_ifnonnull (tgt := 20) dX10_thingOf_10 rfl ?_
  refine j_iload_n 3 dX10_thingOf_20 rfl ?_
  by_cases c2 : k = 0
  · refine j_tableIn (tgt := 56) dX10_thingOf_21 (by rw [c2]; decide) (by rw [c2]; decide) (off := 35) (by rw [c2]; decide) rfl ?_
    refine j_aload_n 0 dX10_thingOf_56 rfl ?_
    refine j_getv (Z.1 10 i) dX10_thingOf_57 fX10_212 (shC hC (sgHT (by simp [isH]) (by have := (Sok.T okS).2; omega))) rfl (hvT hS (by omega) (by decide)) ?_
    refine j_iret dX10_thingOf_60 rfl ?_
    have hz : tofK Z k i = ((Z.1 10 i), Z) := by
      clear hQ
      have h01 := (okS.th hi).2.2.2
      grind [tofK, cif, lossT]
    exact hQ _ _ ⟨by rw [hz], by rw [hz]; exact cv⟩
  by_cases c3 : k = 1
  · refine j_tableIn (tgt := 61) dX10_thingOf_21 (by rw [c3]; decide) (by rw [c3]; decide) (off := 40) (by rw [c3]; decide) rfl ?_
    refine j_aload_n 0 dX10_thingOf_61 rfl ?_
    refine j_getv (Z.1 11 i) dX10_thingOf_62 fX10_215 (shC hC (sgHT (by simp [isH]) (by have := (Sok.T okS).2; omega))) rfl (hvT hS (by omega) (by decide)) ?_
    refine j_iret dX10_thingOf_65 rfl ?_
    have hz : tofK Z k i = ((Z.1 11 i), Z) := by
      clear hQ
      have h01 := (okS.th hi).2.2.2
      grind [tofK, cif, lossT]
    exact hQ _ _ ⟨by rw [hz], by rw [hz]; exact cv⟩
  by_cases c4 : k = 2
  · refine j_tableIn (tgt := 66) dX10_thingOf_21 (by rw [c4]; decide) (by rw [c4]; decide) (off := 45) (by rw [c4]; decide) rfl ?_
    refine j_aload_n 0 dX10_thingOf_66 rfl ?_
    refine j_getv (Z.1 12 i) dX10_thingOf_67 fX10_158 (shC hC (sgHT (by simp [isH]) (by have := (Sok.T okS).2; omega))) rfl (hvT hS (by omega) (by decide)) ?_
    refine j_iret dX10_thingOf_70 rfl ?_
    have hz : tofK Z k i = ((Z.1 12 i), Z) := by
      clear hQ
      have h01 := (okS.th hi).2.2.2
      grind [tofK, cif, lossT]
    exact hQ _ _ ⟨by rw [hz], by rw [hz]; exact cv⟩
  by_cases c5 : k = 3
  · refine j_tableIn (tgt := 71) dX10_thingOf_21 (by rw [c5]; decide) (by rw [c5]; decide) (off := 50) (by rw [c5]; decide) rfl ?_
    refine j_aload_n 0 dX10_thingOf_71 rfl ?_
    refine j_getv (Z.1 13 i) dX10_thingOf_72 fX10_161 (shC hC (sgHT (by simp [isH]) (by have := (Sok.T okS).2; omega))) rfl (hvT hS (by omega) (by decide)) ?_
    refine j_if_eq (tgt := 82) dX10_thingOf_75 rfl (fun c6 => ?_) (fun c6 => ?_)
    · refine j_iconst 0 dX10_thingOf_82 ic_0 ?_
      refine j_iret dX10_thingOf_83 rfl ?_
      have hz : tofK Z k i = (0, Z) := by
        clear hQ
        have h01 := (okS.th hi).2.2.2
        grind [tofK, cif, lossT]
      exact hQ _ _ ⟨by rw [hz], by rw [hz]; exact cv⟩
    · refine j_iconst 1 dX10_thingOf_78 ic_1 ?_
      refine j_goto (tgt := 83) dX10_thingOf_79 rfl ?_
      refine j_iret dX10_thingOf_83 rfl ?_
      have hz : tofK Z k i = (1, Z) := by
        clear hQ
        have h01 := (okS.th hi).2.2.2
        grind [tofK, cif, lossT]
      exact hQ _ _ ⟨by rw [hz], by rw [hz]; exact cv⟩
  by_cases c7 : k = 4
  · refine j_tableIn (tgt := 84) dX10_thingOf_21 (by rw [c7]; decide) (by rw [c7]; decide) (off := 63) (by rw [c7]; decide) rfl ?_
    refine j_aload_n 0 dX10_thingOf_84 rfl ?_
    refine j_callV (kc := 0) (ks := 0) (a := 0) (b := 0) (d' := d) (As := []) dX10_thingOf_85 kX10_171 rfl (shC hC (sgHT (by simp [isH]) (by have := (Sok.T okS).2; omega))) (by omega) rfl rfl rfl (Nat.le_of_ble_eq_true rfl) (Nat.le_of_ble_eq_true rfl) (T_X9_swallows hC (sgHT (by simp [isH]) (by have := (Sok.T okS).2; omega)) (hvT hS (by omega) (k := 0) (by decide)) (hvT hS (by omega) (k := 1) (by decide)) (hvT hS (by omega) (k := 3) (by decide))) (kk_p ?_)
    refine j_iret dX10_thingOf_88 rfl ?_
    have hz : tofK Z k i = ((lossK (Z.1 10 i) (Z.1 11 i) (Z.1 13 i)), Z) := by
      clear hQ
      have h01 := (okS.th hi).2.2.2
      grind [tofK, cif, lossT]
    exact hQ _ _ ⟨by rw [hz], by rw [hz]; exact cv⟩
  refine j_tableOut (tgt := 89) dX10_thingOf_21 (by have q0 := lv_neT c2 (a := 0) (by decide); have q1 := lv_neT c3 (a := 1) (by decide); have q2 := lv_neT c4 (a := 2) (by decide); have q3 := lv_neT c5 (a := 3) (by decide); have q4 := lv_neT c7 (a := 4) (by decide); omega) rfl ?_
  refine j_aload_n 1 dX10_thingOf_89 rfl ?_
  refine j_bipush (-5) dX10_thingOf_90 bp_n5 ?_
  refine j_callV (kc := 0) (ks := 0) (a := 0) (b := 0) (d' := d) (As := [.int (-5)]) dX10_thingOf_92 kX10_93 rfl (shC hC sgC_0) (by omega) rfl rfl rfl (Nat.le_of_ble_eq_true rfl) (Nat.le_of_ble_eq_true rfl) (T_X10_refuse hC (-5)) (kk_p ?_)
  refine j_iret dX10_thingOf_95 rfl ?_
  have hz : tofK Z k i = ((-5), (refZ Z (-5))) := by
    clear hQ
    have h01 := (okS.th hi).2.2.2
    grind [tofK, cif, lossT]
  exact hQ _ _ ⟨by rw [hz], by rw [hz]; exact CV.rf cv ok (-5)⟩
set_option maxRecDepth 20000 in
set_option maxHeartbeats 4000000 in
theorem P_thingOfN {d : Nat} {M : jk_M} {Z : ZS} (cv : CV M Z) (ok : Zok Z) (k : Int32) (t : Int32) (hx : ¬ (0 ≤ t ∧ t < nI (nT Z.1))) : J Fr_X10_thingOf (d + 1) 0 0 0 [(0, .ref 0), (1, .int t), (2, .int k)] [] M (jk_ex (some (.int (((-5 : Int32), refZ Z (-5))).1)) (fun M1 => CV M1 (((-5 : Int32), refZ Z (-5))).2)) := by
  refine j_post (fun Q hQ => ?_)
  have hC := cv.1
  have hS := cv.2.1
  have okS := ok.1
  refine j_aload_n 0 dX10_thingOf_0 rfl ?_
  refine j_getr (q := 1) dX10_thingOf_1 fX10_10 (shC hC sgC_0) rfl (rfC hC rfC_0_0 (nz (by decide))) ?_
  refine j_iload_n 1 dX10_thingOf_4 rfl ?_
  refine j_callV (kc := 0) (ks := 0) (a := 0) (b := 0) (d' := d) (As := [.int t]) dX10_thingOf_5 kX10_129 rfl (shC hC (sgH (by simp [isH]))) (by omega) rfl rfl rfl (Nat.le_of_ble_eq_true rfl) (Nat.le_of_ble_eq_true rfl) (T_X2_thingAtN hC (by simp [isH]) hS okS t (by assumption)) (kk_p ?_)
  refine j_astore_nN (L' := [(3, .null), (0, .ref 0), (1, .int t), (2, .int k)]) dX10_thingOf_8 (by decide) rfl ?_
  refine j_aload_nN 0 dX10_thingOf_9 rfl ?_
  refine j_ifnonnullN dX10_thingOf_10 ?_
  refine j_aload_n 1 dX10_thingOf_13 rfl ?_
  refine j_bipush (-5) dX10_thingOf_14 bp_n5 ?_
  refine j_callV (kc := 0) (ks := 0) (a := 0) (b := 0) (d' := d) (As := [.int (-5)]) dX10_thingOf_16 kX10_93 rfl (shC hC sgC_0) (by omega) rfl rfl rfl (Nat.le_of_ble_eq_true rfl) (Nat.le_of_ble_eq_true rfl) (T_X10_refuse hC (-5)) (kk_p ?_)
  refine j_iret dX10_thingOf_19 rfl ?_
  exact hQ _ _ ⟨rfl, CV.rf cv ok (-5)⟩
theorem P_thingOf {d : Nat} {M : jk_M} {Z : ZS} (cv : CV M Z) (ok : Zok Z) (t : Int32) (k : Int32) : J Fr_X10_thingOf (d + 1) 0 0 0 [(0, .ref 0), (1, .int t), (2, .int k)] [] M (jk_ex (some (.int (tofZ Z t k).1)) (fun M1 => CV M1 (tofZ Z t k).2)) := by
  by_cases h : 0 ≤ t ∧ t < nI (nT Z.1)
  · have hn : nT Z.1 < 2 ^ 31 := by have := (Sok.T ok.1).2; omega
    obtain ⟨k9, hk9, rfl⟩ := i_in hn h
    rw [tofZ, inZ_y hk9 hn]
    exact P_thingOfY cv ok k k9 hk9
  · rw [tofZ, inZ_n h]
    exact P_thingOfN cv ok k t h
set_option maxRecDepth 20000 in
set_option maxHeartbeats 4000000 in
theorem P_deviceOfY {d : Nat} {M : jk_M} {Z : ZS} (cv : CV M Z) (ok : Zok Z) (k : Int32) (i : Nat) (hi : i < nD Z.1) : J Fr_X10_deviceOf (d + 6) 0 0 0 [(0, .ref 0), (1, .int (nI i)), (2, .int k)] [] M (jk_ex (some (.int (dofK Z k i).1)) (fun M1 => CV M1 (dofK Z k i).2)) := by
  refine j_post (fun Q hQ => ?_)
  have hC := cv.1
  have hS := cv.2.1
  have okS := ok.1
  have hT := (Sok.T okS).2
  have hD := (Sok.D okS).2
  refine j_aload_n 0 dX10_deviceOf_0 rfl ?_
  refine j_getr (q := 1) dX10_deviceOf_1 fX10_10 (shC hC sgC_0) rfl (rfC hC rfC_0_0 (nz (by decide))) ?_
  refine j_iload_n 1 dX10_deviceOf_4 rfl ?_
  refine j_callV (kc := 0) (ks := 0) (a := 0) (b := 0) (d' := d) (As := [.int (nI i)]) dX10_deviceOf_5 kX10_218 rfl (shC hC (sgH (by simp [isH]))) (by omega) rfl rfl rfl (Nat.le_of_ble_eq_true rfl) (Nat.le_of_ble_eq_true rfl) (T_X2_deviceAt hC (by simp [isH]) hS okS i (by omega)) (kk_p ?_)
  refine j_astore_n (L' := [(3, .ref (1 + 21 + i)), (0, .ref 0), (1, .int (nI i)), (2, .int k)]) dX10_deviceOf_8 (by decide) rfl ?_
  refine j_aload_n 0 dX10_deviceOf_9 rfl ?_
  refine j_ifnonnull (tgt := 20) dX10_deviceOf_10 rfl ?_
  refine j_aload_n 1 dX10_deviceOf_20 rfl ?_
  refine j_getr (q := 82) dX10_deviceOf_21 fX10_27 (shC hC sgC_0) rfl (rfC hC rfC_0_3 (nz (by decide))) ?_
  refine j_callV (kc := 0) (ks := 0) (a := 0) (b := 0) (d' := (d + 2)) (As := []) dX10_deviceOf_24 kX10_222 rfl (shC hC (sgA isA82)) (by omega) rfl rfl rfl (Nat.le_of_ble_eq_true rfl) (Nat.le_of_ble_eq_true rfl) (T_X0_lay hC isA82 hS okS) (kk_ev (fun M1 hM2 => ?_))
  obtain ⟨sm3, ha4, -⟩ := hM2
  replace sm3 := (sm3.mo PScL)
  refine j_iload_n 3 dX10_deviceOf_27 rfl ?_
  by_cases c6 : k = 0
  · refine j_tableIn (tgt := 68) dX10_deviceOf_28 (by rw [c6]; decide) (by rw [c6]; decide) (off := 40) (by rw [c6]; decide) rfl ?_
    refine j_aload_n 0 dX10_deviceOf_68 rfl ?_
    refine j_getv (Z.1 16 i) dX10_deviceOf_69 fX10_225 (shC (Sm.C sm3 hC) (sgHD (by simp [isH]) (by have := (Sok.D okS).2; omega))) rfl (hvD (Sm.hv sm3 hS okS PScH) (by omega) (by decide)) ?_
    refine j_iret dX10_deviceOf_72 rfl ?_
    have hz : dofK Z k i = ((Z.1 16 i), Z) := by
      clear hQ
      grind [dofK, cif, jmax]
    exact hQ _ _ ⟨by rw [hz], by rw [hz]; exact CV.sc cv ok (Sm.g sm3)⟩
  by_cases c7 : k = 1
  · refine j_tableIn (tgt := 73) dX10_deviceOf_28 (by rw [c7]; decide) (by rw [c7]; decide) (off := 45) (by rw [c7]; decide) rfl ?_
    refine j_aload_n 0 dX10_deviceOf_73 rfl ?_
    refine j_getv (Z.1 17 i) dX10_deviceOf_74 fX10_228 (shC (Sm.C sm3 hC) (sgHD (by simp [isH]) (by have := (Sok.D okS).2; omega))) rfl (hvD (Sm.hv sm3 hS okS PScH) (by omega) (by decide)) ?_
    refine j_iret dX10_deviceOf_77 rfl ?_
    have hz : dofK Z k i = ((Z.1 17 i), Z) := by
      clear hQ
      grind [dofK, cif, jmax]
    exact hQ _ _ ⟨by rw [hz], by rw [hz]; exact CV.sc cv ok (Sm.g sm3)⟩
  by_cases c8 : k = 2
  · refine j_tableIn (tgt := 78) dX10_deviceOf_28 (by rw [c8]; decide) (by rw [c8]; decide) (off := 50) (by rw [c8]; decide) rfl ?_
    refine j_aload_n 0 dX10_deviceOf_78 rfl ?_
    refine j_getv (Z.1 18 i) dX10_deviceOf_79 fX10_231 (shC (Sm.C sm3 hC) (sgHD (by simp [isH]) (by have := (Sok.D okS).2; omega))) rfl (hvD (Sm.hv sm3 hS okS PScH) (by omega) (by decide)) ?_
    refine j_iret dX10_deviceOf_82 rfl ?_
    have hz : dofK Z k i = ((Z.1 18 i), Z) := by
      clear hQ
      grind [dofK, cif, jmax]
    exact hQ _ _ ⟨by rw [hz], by rw [hz]; exact CV.sc cv ok (Sm.g sm3)⟩
  by_cases c9 : k = 3
  · refine j_tableIn (tgt := 83) dX10_deviceOf_28 (by rw [c9]; decide) (by rw [c9]; decide) (off := 55) (by rw [c9]; decide) rfl ?_
    refine j_aload_n 0 dX10_deviceOf_83 rfl ?_
    refine j_getv (Z.1 19 i) dX10_deviceOf_84 fX10_234 (shC (Sm.C sm3 hC) (sgHD (by simp [isH]) (by have := (Sok.D okS).2; omega))) rfl (hvD (Sm.hv sm3 hS okS PScH) (by omega) (by decide)) ?_
    refine j_iret dX10_deviceOf_87 rfl ?_
    have hz : dofK Z k i = ((Z.1 19 i), Z) := by
      clear hQ
      grind [dofK, cif, jmax]
    exact hQ _ _ ⟨by rw [hz], by rw [hz]; exact CV.sc cv ok (Sm.g sm3)⟩
  by_cases c10 : k = 4
  · refine j_tableIn (tgt := 88) dX10_deviceOf_28 (by rw [c10]; decide) (by rw [c10]; decide) (off := 60) (by rw [c10]; decide) rfl ?_
    refine j_aload_n 1 dX10_deviceOf_88 rfl ?_
    refine j_getr (q := 82) dX10_deviceOf_89 fX10_27 (shC (Sm.C sm3 hC) sgC_0) rfl (rfC (Sm.C sm3 hC) rfC_0_3 (nz (by decide))) ?_
    refine j_aload_n 0 dX10_deviceOf_92 rfl ?_
    refine j_getv (Z.1 19 i) dX10_deviceOf_93 fX10_234 (shC (Sm.C sm3 hC) (sgHD (by simp [isH]) (by have := (Sok.D okS).2; omega))) rfl (hvD (Sm.hv sm3 hS okS PScH) (by omega) (by decide)) ?_
    refine j_aload_n 0 dX10_deviceOf_96 rfl ?_
    refine j_getv (Z.1 16 i) dX10_deviceOf_97 fX10_225 (shC (Sm.C sm3 hC) (sgHD (by simp [isH]) (by have := (Sok.D okS).2; omega))) rfl (hvD (Sm.hv sm3 hS okS PScH) (by omega) (by decide)) ?_
    refine j_callV (kc := 0) (ks := 0) (a := 0) (b := 0) (d' := (d + 5)) (As := [.int (Z.1 19 i), .int (Z.1 16 i)]) dX10_deviceOf_100 kX10_237 rfl (shC (Sm.C sm3 hC) (sgA isA82)) (by omega) rfl rfl rfl (Nat.le_of_ble_eq_true rfl) (Nat.le_of_ble_eq_true rfl) (T_X0_paceOf (Sm.C sm3 hC) isA82 (Sm.hv sm3 hS okS PScH) okS ha4 (Z.1 19 i) (Z.1 16 i)) (kk_e (fun M11 hM12 => ?_))
    obtain ⟨sm13, ha14⟩ := hM12
    replace sm13 := Sm.tr sm3 (sm13.mo PScA)
    refine j_iret dX10_deviceOf_103 rfl ?_
    have hz : dofK Z k i = ((paceS Z.1 (Z.1 19 i) (Z.1 16 i)), Z) := by
      clear hQ
      grind [dofK, cif, jmax]
    exact hQ _ _ ⟨by rw [hz], by rw [hz]; exact CV.sc cv ok (Sm.g sm13)⟩
  by_cases c15 : k = 5
  · refine j_tableIn (tgt := 104) dX10_deviceOf_28 (by rw [c15]; decide) (by rw [c15]; decide) (off := 76) (by rw [c15]; decide) rfl ?_
    refine j_aload_n 1 dX10_deviceOf_104 rfl ?_
    refine j_getr (q := 82) dX10_deviceOf_105 fX10_27 (shC (Sm.C sm3 hC) sgC_0) rfl (rfC (Sm.C sm3 hC) rfC_0_3 (nz (by decide))) ?_
    refine j_iconst 0 dX10_deviceOf_108 ic_0 ?_
    refine j_aload_n 0 dX10_deviceOf_109 rfl ?_
    refine j_getv (Z.1 16 i) dX10_deviceOf_110 fX10_225 (shC (Sm.C sm3 hC) (sgHD (by simp [isH]) (by have := (Sok.D okS).2; omega))) rfl (hvD (Sm.hv sm3 hS okS PScH) (by omega) (by decide)) ?_
    refine j_callV (kc := 0) (ks := 0) (a := 0) (b := 0) (d' := (d + 5)) (As := [.int 0, .int (Z.1 16 i)]) dX10_deviceOf_113 kX10_237 rfl (shC (Sm.C sm3 hC) (sgA isA82)) (by omega) rfl rfl rfl (Nat.le_of_ble_eq_true rfl) (Nat.le_of_ble_eq_true rfl) (T_X0_paceOf (Sm.C sm3 hC) isA82 (Sm.hv sm3 hS okS PScH) okS ha4 0 (Z.1 16 i)) (kk_e (fun M16 hM17 => ?_))
    obtain ⟨sm18, ha19⟩ := hM17
    replace sm18 := Sm.tr sm3 (sm18.mo PScA)
    refine j_aload_n 1 dX10_deviceOf_116 rfl ?_
    refine j_getr (q := 82) dX10_deviceOf_117 fX10_27 (shC (Sm.C sm18 hC) sgC_0) rfl (rfC (Sm.C sm18 hC) rfC_0_3 (nz (by decide))) ?_
    refine j_iconst 1 dX10_deviceOf_120 ic_1 ?_
    refine j_aload_n 0 dX10_deviceOf_121 rfl ?_
    refine j_getv (Z.1 16 i) dX10_deviceOf_122 fX10_225 (shC (Sm.C sm18 hC) (sgHD (by simp [isH]) (by have := (Sok.D okS).2; omega))) rfl (hvD (Sm.hv sm18 hS okS PScH) (by omega) (by decide)) ?_
    refine j_callV (kc := 0) (ks := 0) (a := 0) (b := 0) (d' := (d + 5)) (As := [.int 1, .int (Z.1 16 i)]) dX10_deviceOf_125 kX10_237 rfl (shC (Sm.C sm18 hC) (sgA isA82)) (by omega) rfl rfl rfl (Nat.le_of_ble_eq_true rfl) (Nat.le_of_ble_eq_true rfl) (T_X0_paceOf (Sm.C sm18 hC) isA82 (Sm.hv sm18 hS okS PScH) okS ha19 1 (Z.1 16 i)) (kk_e (fun M20 hM21 => ?_))
    obtain ⟨sm22, ha23⟩ := hM21
    replace sm22 := Sm.tr sm18 (sm22.mo PScA)
    refine j_max dX10_deviceOf_128 mX10_240 mt_max.1 mt_max.2.1 mt_max.2.2 (Nat.le_of_ble_eq_true rfl) ?_
    refine j_iret dX10_deviceOf_131 rfl ?_
    have hz : dofK Z k i = ((if (paceS Z.1 0 (Z.1 16 i)) < (paceS Z.1 1 (Z.1 16 i)) then (paceS Z.1 1 (Z.1 16 i)) else (paceS Z.1 0 (Z.1 16 i))), Z) := by
      clear hQ
      grind [dofK, cif, jmax]
    exact hQ _ _ ⟨by rw [hz], by rw [hz]; exact CV.sc cv ok (Sm.g sm22)⟩
  refine j_tableOut (tgt := 132) dX10_deviceOf_28 (by have q0 := lv_neT c6 (a := 0) (by decide); have q1 := lv_neT c7 (a := 1) (by decide); have q2 := lv_neT c8 (a := 2) (by decide); have q3 := lv_neT c9 (a := 3) (by decide); have q4 := lv_neT c10 (a := 4) (by decide); have q5 := lv_neT c15 (a := 5) (by decide); omega) rfl ?_
  refine j_aload_n 1 dX10_deviceOf_132 rfl ?_
  refine j_bipush (-5) dX10_deviceOf_133 bp_n5 ?_
  refine j_callV (kc := 0) (ks := 0) (a := 0) (b := 0) (d' := d) (As := [.int (-5)]) dX10_deviceOf_135 kX10_93 rfl (shC (Sm.C sm3 hC) sgC_0) (by omega) rfl rfl rfl (Nat.le_of_ble_eq_true rfl) (Nat.le_of_ble_eq_true rfl) (T_X10_refuse (Sm.C sm3 hC) (-5)) (kk_p ?_)
  refine j_iret dX10_deviceOf_138 rfl ?_
  have hz : dofK Z k i = ((-5), (refZ Z (-5))) := by
    clear hQ
    grind [dofK, cif, jmax]
  exact hQ _ _ ⟨by rw [hz], by rw [hz]; exact CV.rf (CV.sc cv ok (Sm.g sm3)) ok (-5)⟩
set_option maxRecDepth 20000 in
set_option maxHeartbeats 4000000 in
theorem P_deviceOfN {d : Nat} {M : jk_M} {Z : ZS} (cv : CV M Z) (ok : Zok Z) (k : Int32) (t : Int32) (hx : ¬ (0 ≤ t ∧ t < nI (nD Z.1))) : J Fr_X10_deviceOf (d + 6) 0 0 0 [(0, .ref 0), (1, .int t), (2, .int k)] [] M (jk_ex (some (.int (((-5 : Int32), refZ Z (-5))).1)) (fun M1 => CV M1 (((-5 : Int32), refZ Z (-5))).2)) := by
  refine j_post (fun Q hQ => ?_)
  have hC := cv.1
  have hS := cv.2.1
  have okS := ok.1
  refine j_aload_n 0 dX10_deviceOf_0 rfl ?_
  refine j_getr (q := 1) dX10_deviceOf_1 fX10_10 (shC hC sgC_0) rfl (rfC hC rfC_0_0 (nz (by decide))) ?_
  refine j_iload_n 1 dX10_deviceOf_4 rfl ?_
  refine j_callV (kc := 0) (ks := 0) (a := 0) (b := 0) (d' := d) (As := [.int t]) dX10_deviceOf_5 kX10_218 rfl (shC hC (sgH (by simp [isH]))) (by omega) rfl rfl rfl (Nat.le_of_ble_eq_true rfl) (Nat.le_of_ble_eq_true rfl) (T_X2_deviceAtN hC (by simp [isH]) hS okS t (by assumption)) (kk_p ?_)
  refine j_astore_nN (L' := [(3, .null), (0, .ref 0), (1, .int t), (2, .int k)]) dX10_deviceOf_8 (by decide) rfl ?_
  refine j_aload_nN 0 dX10_deviceOf_9 rfl ?_
  refine j_ifnonnullN dX10_deviceOf_10 ?_
  refine j_aload_n 1 dX10_deviceOf_13 rfl ?_
  refine j_bipush (-5) dX10_deviceOf_14 bp_n5 ?_
  refine j_callV (kc := 0) (ks := 0) (a := 0) (b := 0) (d' := d) (As := [.int (-5)]) dX10_deviceOf_16 kX10_93 rfl (shC hC sgC_0) (by omega) rfl rfl rfl (Nat.le_of_ble_eq_true rfl) (Nat.le_of_ble_eq_true rfl) (T_X10_refuse hC (-5)) (kk_p ?_)
  refine j_iret dX10_deviceOf_19 rfl ?_
  exact hQ _ _ ⟨rfl, CV.rf cv ok (-5)⟩
theorem P_deviceOf {d : Nat} {M : jk_M} {Z : ZS} (cv : CV M Z) (ok : Zok Z) (t : Int32) (k : Int32) : J Fr_X10_deviceOf (d + 6) 0 0 0 [(0, .ref 0), (1, .int t), (2, .int k)] [] M (jk_ex (some (.int (dofZ Z t k).1)) (fun M1 => CV M1 (dofZ Z t k).2)) := by
  by_cases h : 0 ≤ t ∧ t < nI (nD Z.1)
  · have hn : nD Z.1 < 2 ^ 31 := by have := (Sok.D ok.1).2; omega
    obtain ⟨k9, hk9, rfl⟩ := i_in hn h
    rw [dofZ, inZ_y hk9 hn]
    exact P_deviceOfY cv ok k k9 hk9
  · rw [dofZ, inZ_n h]
    exact P_deviceOfN cv ok k t h
