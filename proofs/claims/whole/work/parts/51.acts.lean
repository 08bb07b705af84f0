/-! acts, status -/
def vZ (Z : ZS) (V : Nat → Int32) : ZS := (Z.1, Z.2.1, Z.2.2.1, Z.2.2.2.1, V)
def noteV (V : Nat → Int32) (b : Int32) : Nat → Int32 := va_up (if 0 ≤ V 10 ∧ V 10 < 20 then va_up V (11 + (V 10).toNatClampNeg) b else V) 10 (V 10 + 1)
def noteVL (V : Nat → Int32) : List Int32 → Nat → Int32
  | [] => V
  | b :: l => noteVL (noteV V b) l
def v0 (V : Nat → Int32) : Nat → Int32 := va_up V 10 0
def actK (Z : ZS) (m x : Int32) (i : Nat) : Int32 × ZS :=
  if m = 0 then (stV (Z.1 10 i).toNatClampNeg (Z.1 11 i) (nI i) x, vZ Z (noteVL (v0 Z.2.2.2.2) (stL (Z.1 10 i).toNatClampNeg)))
  else if m = 1 then (tkV (Z.1 10 i).toNatClampNeg (Z.1 11 i) (nI i) x, vZ Z (noteVL (v0 Z.2.2.2.2) (tkL (Z.1 10 i).toNatClampNeg)))
  else (hmV (Z.1 10 i).toNatClampNeg (Z.1 11 i) (nI i) x, vZ Z (noteVL (v0 Z.2.2.2.2) (hmL (Z.1 10 i).toNatClampNeg)))
noncomputable def actZ (Z : ZS) (t m x : Int32) : Int32 × ZS := cif ((0 ≤ t ∧ t < nI (nT Z.1)) ∧ 0 ≤ m ∧ m ≤ 2) (actK Z m x t.toNatClampNeg) (0, vZ Z (v0 Z.2.2.2.2))
def statS (S : HS) (V : Nat → Int32) (w : Int32) : Int32 := if w = 0 then S 7 0 else if w = 1 then S 0 0 else if w = 2 then S 8 0 else if w = 3 then S 9 0 else if w = 4 then S 1 0 else if w = 5 then S 2 0 else if w = 6 then S 3 0 else if w = 7 then S 5 0 else if w = 8 then S 6 0 else if w = 9 then S 4 0 else if w = 10 then V 10 else -1
noncomputable def statZ (Z : ZS) (w : Int32) : Int32 × ZS := (cif (11 ≤ w ∧ w ≤ 17) (Z.2.2.2.2 (w - 10).toNatClampNeg) (statS Z.1 Z.2.2.2.2 w), Z)
/-- what CV asks of a state beside the parts -/
def Hok (Z : ZS) : Prop := Sok Z.1 ∧ Sok Z.2.1
theorem CV.pl {M : jk_M} {Z : ZS} (h : CV M Z) (ok : Hok Z) {k : Nat} (hk : k < 3) (x : Int32) : CV (jk_wI M 105 k x) Z := by
  obtain ⟨h1, h2, h3, h4, h5, h6, h7, h8, h9, h10⟩ := h
  have s : Sm (fun q => q = 105) M (jk_wI M 105 k x) := Sm.rf.w rfl
  refine ⟨s.C h1, s.hv h2 ok.1 (fun q hq z => by have := hq.2; have z : q = 105 := z; omega), s.hv h3 ok.2 (fun q hq z => by have := hq.2; have z : q = 105 := z; omega), fun t ht j hj => ?_, h5, fun i hi => ?_, ?_, ?_, ?_, fun i hi => ?_⟩
  · rw [rd_o (by omega)]; exact h4 t ht j hj
  · rw [rd_o (by omega)]; exact h6 i hi
  · rw [rd_o (by omega)]; exact h7
  · rw [rd_o (by omega)]; exact h8
  · rw [rd_k (by omega)]; exact h9
  · rw [rd_o (by omega)]; exact h10 i hi
theorem CV.ran {M : jk_M} {Z : ZS} (h : CV M Z) (ok : Hok Z) (x : Int32) : CV (jk_wI M 105 3 x) (vZ Z (va_up Z.2.2.2.2 10 x)) := by
  obtain ⟨h1, h2, h3, h4, h5, h6, h7, h8, h9, h10⟩ := h
  have s : Sm (fun q => q = 105) M (jk_wI M 105 3 x) := Sm.rf.w rfl
  refine ⟨s.C h1, s.hv h2 ok.1 (fun q hq z => by have := hq.2; have z : q = 105 := z; omega), s.hv h3 ok.2 (fun q hq z => by have := hq.2; have z : q = 105 := z; omega), fun t ht j hj => ?_, h5, fun i hi => ?_, ?_, ?_, ?_, fun i hi => ?_⟩
  · rw [rd_o (by omega)]; exact h4 t ht j hj
  · show _ = va_up Z.2.2.2.2 10 x i
    rw [rd_o (by omega), va_up_ne _ _ (by omega)]; exact h6 i hi
  · show _ = va_up Z.2.2.2.2 10 x 8
    rw [rd_o (by omega), va_up_ne _ _ (by omega)]; exact h7
  · show _ = va_up Z.2.2.2.2 10 x 9
    rw [rd_o (by omega), va_up_ne _ _ (by omega)]; exact h8
  · show _ = va_up Z.2.2.2.2 10 x 10
    rw [rd_s, va_up_self]
  · show _ = va_up Z.2.2.2.2 10 x (11 + i)
    rw [rd_o (by omega), va_up_ne _ _ (by omega)]; exact h10 i hi
theorem CV.bod {M : jk_M} {Z : ZS} (h : CV M Z) (ok : Hok Z) {j : Nat} (hj : j < 20) (b : Int32) : CV (jk_wI M 106 j b) (vZ Z (va_up Z.2.2.2.2 (11 + j) b)) := by
  obtain ⟨h1, h2, h3, h4, h5, h6, h7, h8, h9, h10⟩ := h
  have s : Sm (fun q => q = 106) M (jk_wI M 106 j b) := Sm.rf.w rfl
  refine ⟨s.C h1, s.hv h2 ok.1 (fun q hq z => by have := hq.2; have z : q = 106 := z; omega), s.hv h3 ok.2 (fun q hq z => by have := hq.2; have z : q = 106 := z; omega), fun t ht k hk => ?_, h5, fun i hi => ?_, ?_, ?_, ?_, fun i hi => ?_⟩
  · rw [rd_o (by omega)]; exact h4 t ht k hk
  · show _ = va_up Z.2.2.2.2 (11 + j) b i
    rw [rd_o (by omega), va_up_ne _ _ (by omega)]; exact h6 i hi
  · show _ = va_up Z.2.2.2.2 (11 + j) b 8
    rw [rd_o (by omega), va_up_ne _ _ (by omega)]; exact h7
  · show _ = va_up Z.2.2.2.2 (11 + j) b 9
    rw [rd_o (by omega), va_up_ne _ _ (by omega)]; exact h8
  · show _ = va_up Z.2.2.2.2 (11 + j) b 10
    rw [rd_o (by omega), va_up_ne _ _ (by omega)]; exact h9
  · show _ = va_up Z.2.2.2.2 (11 + j) b (11 + i)
    by_cases e : i = j
    · subst e; rw [rd_s, va_up_self]
    · rw [rd_k e, va_up_ne _ _ (by omega)]; exact h10 i hi
theorem in20 {x : Int32} (h : 0 ≤ x ∧ x < 20) : ∃ j, j < 20 ∧ x.toNatClampNeg = j := by
  obtain ⟨j, hj, rfl⟩ := i_in (n := 20) (by decide) ⟨h.1, by rw [show nI 20 = (20 : Int32) by decide]; exact h.2⟩
  exact ⟨j, hj, nI_clamp (by omega)⟩
theorem CV.note {M : jk_M} {Z : ZS} (h : CV M Z) (ok : Hok Z) (b : Int32) : CV (noteM M b) (vZ Z (noteV Z.2.2.2.2 b)) := by
  have e9 : M.2.1 105 3 = Z.2.2.2.2 10 := h.2.2.2.2.2.2.2.2.1
  rw [noteM, noteV, e9]
  by_cases c : 0 ≤ Z.2.2.2.2 10 ∧ Z.2.2.2.2 10 < 20
  · obtain ⟨j, hj, ej⟩ := in20 c
    rw [if_pos c, if_pos c, ej]
    have h1 := CV.bod h ok hj b
    exact CV.ran (Z := vZ Z (va_up Z.2.2.2.2 (11 + j) b)) h1 ok _
  · rw [if_neg c, if_neg c]
    exact CV.ran h ok _
theorem CV.noteL : ∀ (l : List Int32) {M : jk_M} {Z : ZS}, CV M Z → Hok Z → CV (noteL M l) (vZ Z (noteVL Z.2.2.2.2 l))
  | [], M, Z, h, _ => h
  | b :: l, M, Z, h, ok => by
    have h1 := CV.note h ok b
    exact CV.noteL l (Z := vZ Z (noteV Z.2.2.2.2 b)) h1 ok
set_option maxRecDepth 20000 in
set_option maxHeartbeats 4000000 in
theorem T_X4_cast {d : Nat} {M : jk_M} {a : Nat} {x0 x1 : Int32} (hC : WC M) (sga : jGC[a]? = some (0, 9)) (ha : a ≠ 105) (e0 : M.2.1 a 0 = x0) (e1 : M.2.1 a 1 = x1) (m : Int32) : J Fr_X4_cast d 0 0 0 [(0, .ref 105), (1, .ref a), (2, .int m)] [] M (jk_is none (jk_wI (jk_wI (jk_wI M 105 0 x0) 105 1 x1) 105 2 m)) := by
  refine j_post (fun Q hQ => ?_)
  refine j_aload_n 1 dX4_cast_0 rfl ?_
  refine j_ifnull dX4_cast_1 ?_
  refine j_aload_n 0 dX4_cast_4 rfl ?_
  refine j_aload_n 1 dX4_cast_5 rfl ?_
  refine j_getv x0 dX4_cast_6 fX4_28 (shC hC sga) rfl e0 ?_
  refine j_put dX4_cast_9 fX4_9 (shC hC sgC_105) rfl ?_
  have sm1 : Sm (fun q => q = 105) M (jk_wI M 105 0 x0) := Sm.w Sm.rf rfl
  refine j_aload_n 0 dX4_cast_12 rfl ?_
  refine j_aload_n 1 dX4_cast_13 rfl ?_
  refine j_getv x1 dX4_cast_14 fX4_31 (shC (Sm.C sm1 hC) sga) rfl ((rd_o ha).trans e1) ?_
  refine j_put dX4_cast_17 fX4_15 (shC (Sm.C sm1 hC) sgC_105) rfl ?_
  have sm2 : Sm (fun q => q = 105) M (jk_wI (jk_wI M 105 0 x0) 105 1 x1) := Sm.w sm1 rfl
  refine j_aload_n 0 dX4_cast_20 rfl ?_
  refine j_iload_n 2 dX4_cast_21 rfl ?_
  refine j_put dX4_cast_22 fX4_18 (shC (Sm.C sm2 hC) sgC_105) rfl ?_
  have sm3 : Sm (fun q => q = 105) M (jk_wI (jk_wI (jk_wI M 105 0 x0) 105 1 x1) 105 2 m) := Sm.w sm2 rfl
  refine j_vret dX4_cast_25 rfl ?_
  exact hQ _ _ ⟨rfl, rfl⟩
set_option maxRecDepth 20000 in
set_option maxHeartbeats 4000000 in
theorem P_act0 {d : Nat} {M : jk_M} {Z : ZS} (cv : CV M Z) (ok : Zok Z) (i : Nat) (hi : i < nT Z.1) (k : Nat) (hk : k < 7) (hkk : Z.1 10 i = nI k) (x : Int32) : J Fr_X10_act (d + 10) 0 0 0 [(0, .ref 0), (1, .int (nI i)), (2, .int 0), (3, .int x)] [] M (jk_ex (some (.int (actK Z 0 x i).1)) (fun M1 => CV M1 (actK Z 0 x i).2)) := by
  refine j_post (fun Q hQ => ?_)
  have hC := cv.1
  have hS := cv.2.1
  have okS := ok.1
  have hT := (Sok.T okS).2
  refine j_aload_n 0 dX10_act_0 rfl ?_
  refine j_getr (q := 105) dX10_act_1 fX10_66 (shC hC sgC_0) rfl (rfC hC rfC_0_8 (nz (by decide))) ?_
  refine j_callV (kc := 0) (ks := 0) (a := 0) (b := 0) (d' := d) (As := []) dX10_act_4 kX10_352 rfl (shC hC sgC_105) (by omega) rfl rfl rfl (Nat.le_of_ble_eq_true rfl) (Nat.le_of_ble_eq_true rfl) (T_X4_clear hC) (kk_pv ?_)
  have sm1 : Sm (fun q => q = 105) M (jk_wI M 105 3 0) := (Sm.w Sm.rf rfl)
  refine j_aload_n 0 dX10_act_7 rfl ?_
  refine j_getr (q := 1) dX10_act_8 fX10_10 (shC (Sm.C sm1 hC) sgC_0) rfl (rfC (Sm.C sm1 hC) rfC_0_0 (nz (by decide))) ?_
  refine j_iload_n 1 dX10_act_11 rfl ?_
  refine j_callV (kc := 0) (ks := 0) (a := 0) (b := 0) (d' := d) (As := [.int (nI i)]) dX10_act_12 kX10_129 rfl (shC (Sm.C sm1 hC) (sgH (by simp [isH]))) (by omega) rfl rfl rfl (Nat.le_of_ble_eq_true rfl) (Nat.le_of_ble_eq_true rfl) (T_X2_thingAt (Sm.C sm1 hC) (by simp [isH]) (Sm.hv sm1 hS okS (fun q hq z => by have := hq.2; have z : q = 105 := z; omega)) okS i (by omega)) (kk_p ?_)
  refine j_astore (L' := [(4, .ref (1 + 5 + i)), (0, .ref 0), (1, .int (nI i)), (2, .int 0), (3, .int x)]) dX10_act_15 (by decide) rfl ?_
  refine j_aload 0 dX10_act_17 rfl ?_
  refine j_ifnull dX10_act_19 ?_
  refine j_iload_n 3 dX10_act_22 rfl ?_
  refine j_if_lt (tgt := 31) dX10_act_23 rfl (fun c2 => ?_) (fun c2 => ?_)
  · exact absurd c2 (by decide)
  · refine j_iload_n 3 dX10_act_26 rfl ?_
    refine j_iconst 2 dX10_act_27 ic_2 ?_
    refine j_icmp_le (tgt := 33) dX10_act_28 rfl (fun c3 => ?_) (fun c3 => ?_)
    · refine j_aload_n 1 dX10_act_33 rfl ?_
      refine j_getr (q := 105) dX10_act_34 fX10_66 (shC (Sm.C sm1 hC) sgC_0) rfl (rfC (Sm.C sm1 hC) rfC_0_8 (nz (by decide))) ?_
      refine j_aload 0 dX10_act_37 rfl ?_
      refine j_iload_n 2 dX10_act_39 rfl ?_
      refine j_callV (kc := 0) (ks := 0) (a := 0) (b := 0) (d' := d) (As := [.ref (1 + 5 + i), .int (nI i)]) dX10_act_40 kX10_353 rfl (shC (Sm.C sm1 hC) sgC_105) (by omega) rfl rfl rfl (Nat.le_of_ble_eq_true rfl) (Nat.le_of_ble_eq_true rfl) (T_X4_cast (Sm.C sm1 hC) (sgHT (by simp [isH]) (by have := (Sok.T okS).2; omega)) (by omega) ((hvT (Sm.hv sm1 hS okS (fun q hq z => by have := hq.2; have z : q = 105 := z; omega)) (by omega) (k := 0) (by decide)).trans hkk) (hvT (Sm.hv sm1 hS okS (fun q hq z => by have := hq.2; have z : q = 105 := z; omega)) (by omega) (k := 1) (by decide)) (nI i)) (kk_pv ?_)
      have sm4 : Sm (fun q => q = 105) M (jk_wI (jk_wI (jk_wI (jk_wI M 105 3 0) 105 0 (nI k)) 105 1 (Z.1 11 i)) 105 2 (nI i)) := (Sm.w (Sm.w (Sm.w sm1 rfl) rfl) rfl)
      refine j_aload_n 1 dX10_act_43 rfl ?_
      refine j_getr (q := 105) dX10_act_44 fX10_66 (shC (Sm.C sm4 hC) sgC_0) rfl (rfC (Sm.C sm4 hC) rfC_0_8 (nz (by decide))) ?_
      refine j_iload_n 3 dX10_act_47 rfl ?_
      refine j_aload 0 dX10_act_48 rfl ?_
      refine j_getv (nI k) dX10_act_50 fX10_212 (shC (Sm.C sm4 hC) (sgHT (by simp [isH]) (by have := (Sok.T okS).2; omega))) rfl ((hvT (Sm.hv sm4 hS okS (fun q hq z => by have := hq.2; have z : q = 105 := z; omega)) (by omega) (k := 0) (by decide)).trans hkk) ?_
      refine j_iload_n 4 dX10_act_53 rfl ?_
      refine j_iconst 0 dX10_act_54 ic_0 ?_
      refine j_topi (nI 0) rfl ?_
      refine j_callS (kc := 0) (ks := 0) (a := 0) (b := 0) (d' := (d + 4)) (As := [.ref 105, .int 0, .int (nI k), .int x, .int (nI 0)]) dX10_act_55 kX10_357 rfl (by omega) rfl rfl rfl (Nat.le_of_ble_eq_true rfl) (Nat.le_of_ble_eq_true rfl) (T_runA_0 (Sm.C sm4 hC) k (Z.1 11 i) (nI i) x 0 hk ((rd_k (by decide)).trans ((rd_k (by decide)).trans rd_s)) ((rd_k (by decide)).trans rd_s) rd_s (by decide)) (kk_p ?_)
      refine j_iret dX10_act_58 rfl ?_
      have c0 := CV.ran cv (show Hok Z from ⟨ok.1, ok.2.1⟩) 0
      have okV : ∀ V, Hok (vZ Z V) := fun V => ⟨ok.1, ok.2.1⟩
      have c1 := CV.pl (CV.pl (CV.pl c0 (okV _) (k := 0) (by decide) (nI k)) (okV _) (k := 1) (by decide) (Z.1 11 i)) (okV _) (k := 2) (by decide) (nI i)
      have c2 := CV.noteL (stL k) c1 (okV _)
      have hz : actK Z 0 x i = ((stV k (Z.1 11 i) (nI i) x), vZ Z (noteVL (v0 Z.2.2.2.2) (stL k))) := by
        simp only [actK, hkk, nI_clamp (show k < 2 ^ 31 by omega)]; rfl
      exact hQ _ _ ⟨by rw [hz], by rw [hz]; exact c2⟩
    · exact absurd c3 (by decide)
set_option maxRecDepth 20000 in
set_option maxHeartbeats 4000000 in
theorem P_act1 {d : Nat} {M : jk_M} {Z : ZS} (cv : CV M Z) (ok : Zok Z) (i : Nat) (hi : i < nT Z.1) (k : Nat) (hk : k < 7) (hkk : Z.1 10 i = nI k) (x : Int32) : J Fr_X10_act (d + 10) 0 0 0 [(0, .ref 0), (1, .int (nI i)), (2, .int 1), (3, .int x)] [] M (jk_ex (some (.int (actK Z 1 x i).1)) (fun M1 => CV M1 (actK Z 1 x i).2)) := by
  refine j_post (fun Q hQ => ?_)
  have hC := cv.1
  have hS := cv.2.1
  have okS := ok.1
  have hT := (Sok.T okS).2
  refine j_aload_n 0 dX10_act_0 rfl ?_
  refine j_getr (q := 105) dX10_act_1 fX10_66 (shC hC sgC_0) rfl (rfC hC rfC_0_8 (nz (by decide))) ?_
  refine j_callV (kc := 0) (ks := 0) (a := 0) (b := 0) (d' := d) (As := []) dX10_act_4 kX10_352 rfl (shC hC sgC_105) (by omega) rfl rfl rfl (Nat.le_of_ble_eq_true rfl) (Nat.le_of_ble_eq_true rfl) (T_X4_clear hC) (kk_pv ?_)
  have sm1 : Sm (fun q => q = 105) M (jk_wI M 105 3 0) := (Sm.w Sm.rf rfl)
  refine j_aload_n 0 dX10_act_7 rfl ?_
  refine j_getr (q := 1) dX10_act_8 fX10_10 (shC (Sm.C sm1 hC) sgC_0) rfl (rfC (Sm.C sm1 hC) rfC_0_0 (nz (by decide))) ?_
  refine j_iload_n 1 dX10_act_11 rfl ?_
  refine j_callV (kc := 0) (ks := 0) (a := 0) (b := 0) (d' := d) (As := [.int (nI i)]) dX10_act_12 kX10_129 rfl (shC (Sm.C sm1 hC) (sgH (by simp [isH]))) (by omega) rfl rfl rfl (Nat.le_of_ble_eq_true rfl) (Nat.le_of_ble_eq_true rfl) (T_X2_thingAt (Sm.C sm1 hC) (by simp [isH]) (Sm.hv sm1 hS okS (fun q hq z => by have := hq.2; have z : q = 105 := z; omega)) okS i (by omega)) (kk_p ?_)
  refine j_astore (L' := [(4, .ref (1 + 5 + i)), (0, .ref 0), (1, .int (nI i)), (2, .int 1), (3, .int x)]) dX10_act_15 (by decide) rfl ?_
  refine j_aload 0 dX10_act_17 rfl ?_
  refine j_ifnull dX10_act_19 ?_
  refine j_iload_n 3 dX10_act_22 rfl ?_
  refine j_if_lt (tgt := 31) dX10_act_23 rfl (fun c2 => ?_) (fun c2 => ?_)
  · exact absurd c2 (by decide)
  · refine j_iload_n 3 dX10_act_26 rfl ?_
    refine j_iconst 2 dX10_act_27 ic_2 ?_
    refine j_icmp_le (tgt := 33) dX10_act_28 rfl (fun c3 => ?_) (fun c3 => ?_)
    · refine j_aload_n 1 dX10_act_33 rfl ?_
      refine j_getr (q := 105) dX10_act_34 fX10_66 (shC (Sm.C sm1 hC) sgC_0) rfl (rfC (Sm.C sm1 hC) rfC_0_8 (nz (by decide))) ?_
      refine j_aload 0 dX10_act_37 rfl ?_
      refine j_iload_n 2 dX10_act_39 rfl ?_
      refine j_callV (kc := 0) (ks := 0) (a := 0) (b := 0) (d' := d) (As := [.ref (1 + 5 + i), .int (nI i)]) dX10_act_40 kX10_353 rfl (shC (Sm.C sm1 hC) sgC_105) (by omega) rfl rfl rfl (Nat.le_of_ble_eq_true rfl) (Nat.le_of_ble_eq_true rfl) (T_X4_cast (Sm.C sm1 hC) (sgHT (by simp [isH]) (by have := (Sok.T okS).2; omega)) (by omega) ((hvT (Sm.hv sm1 hS okS (fun q hq z => by have := hq.2; have z : q = 105 := z; omega)) (by omega) (k := 0) (by decide)).trans hkk) (hvT (Sm.hv sm1 hS okS (fun q hq z => by have := hq.2; have z : q = 105 := z; omega)) (by omega) (k := 1) (by decide)) (nI i)) (kk_pv ?_)
      have sm4 : Sm (fun q => q = 105) M (jk_wI (jk_wI (jk_wI (jk_wI M 105 3 0) 105 0 (nI k)) 105 1 (Z.1 11 i)) 105 2 (nI i)) := (Sm.w (Sm.w (Sm.w sm1 rfl) rfl) rfl)
      refine j_aload_n 1 dX10_act_43 rfl ?_
      refine j_getr (q := 105) dX10_act_44 fX10_66 (shC (Sm.C sm4 hC) sgC_0) rfl (rfC (Sm.C sm4 hC) rfC_0_8 (nz (by decide))) ?_
      refine j_iload_n 3 dX10_act_47 rfl ?_
      refine j_aload 0 dX10_act_48 rfl ?_
      refine j_getv (nI k) dX10_act_50 fX10_212 (shC (Sm.C sm4 hC) (sgHT (by simp [isH]) (by have := (Sok.T okS).2; omega))) rfl ((hvT (Sm.hv sm4 hS okS (fun q hq z => by have := hq.2; have z : q = 105 := z; omega)) (by omega) (k := 0) (by decide)).trans hkk) ?_
      refine j_iload_n 4 dX10_act_53 rfl ?_
      refine j_iconst 0 dX10_act_54 ic_0 ?_
      refine j_topi (nI 0) rfl ?_
      refine j_callS (kc := 0) (ks := 0) (a := 0) (b := 0) (d' := (d + 6)) (As := [.ref 105, .int 1, .int (nI k), .int x, .int (nI 0)]) dX10_act_55 kX10_357 rfl (by omega) rfl rfl rfl (Nat.le_of_ble_eq_true rfl) (Nat.le_of_ble_eq_true rfl) (T_runA_1 (Sm.C sm4 hC) k (Z.1 11 i) (nI i) x 0 hk ((rd_k (by decide)).trans ((rd_k (by decide)).trans rd_s)) ((rd_k (by decide)).trans rd_s) rd_s (by decide)) (kk_p ?_)
      refine j_iret dX10_act_58 rfl ?_
      have c0 := CV.ran cv (show Hok Z from ⟨ok.1, ok.2.1⟩) 0
      have okV : ∀ V, Hok (vZ Z V) := fun V => ⟨ok.1, ok.2.1⟩
      have c1 := CV.pl (CV.pl (CV.pl c0 (okV _) (k := 0) (by decide) (nI k)) (okV _) (k := 1) (by decide) (Z.1 11 i)) (okV _) (k := 2) (by decide) (nI i)
      have c2 := CV.noteL (tkL k) c1 (okV _)
      have hz : actK Z 1 x i = ((tkV k (Z.1 11 i) (nI i) x), vZ Z (noteVL (v0 Z.2.2.2.2) (tkL k))) := by
        simp only [actK, hkk, nI_clamp (show k < 2 ^ 31 by omega)]; rfl
      exact hQ _ _ ⟨by rw [hz], by rw [hz]; exact c2⟩
    · exact absurd c3 (by decide)
set_option maxRecDepth 20000 in
set_option maxHeartbeats 4000000 in
theorem P_act2 {d : Nat} {M : jk_M} {Z : ZS} (cv : CV M Z) (ok : Zok Z) (i : Nat) (hi : i < nT Z.1) (k : Nat) (hk : k < 7) (hkk : Z.1 10 i = nI k) (x : Int32) : J Fr_X10_act (d + 10) 0 0 0 [(0, .ref 0), (1, .int (nI i)), (2, .int 2), (3, .int x)] [] M (jk_ex (some (.int (actK Z 2 x i).1)) (fun M1 => CV M1 (actK Z 2 x i).2)) := by
  refine j_post (fun Q hQ => ?_)
  have hC := cv.1
  have hS := cv.2.1
  have okS := ok.1
  have hT := (Sok.T okS).2
  refine j_aload_n 0 dX10_act_0 rfl ?_
  refine j_getr (q := 105) dX10_act_1 fX10_66 (shC hC sgC_0) rfl (rfC hC rfC_0_8 (nz (by decide))) ?_
  refine j_callV (kc := 0) (ks := 0) (a := 0) (b := 0) (d' := d) (As := []) dX10_act_4 kX10_352 rfl (shC hC sgC_105) (by omega) rfl rfl rfl (Nat.le_of_ble_eq_true rfl) (Nat.le_of_ble_eq_true rfl) (T_X4_clear hC) (kk_pv ?_)
  have sm1 : Sm (fun q => q = 105) M (jk_wI M 105 3 0) := (Sm.w Sm.rf rfl)
  refine j_aload_n 0 dX10_act_7 rfl ?_
  refine j_getr (q := 1) dX10_act_8 fX10_10 (shC (Sm.C sm1 hC) sgC_0) rfl (rfC (Sm.C sm1 hC) rfC_0_0 (nz (by decide))) ?_
  refine j_iload_n 1 dX10_act_11 rfl ?_
  refine j_callV (kc := 0) (ks := 0) (a := 0) (b := 0) (d' := d) (As := [.int (nI i)]) dX10_act_12 kX10_129 rfl (shC (Sm.C sm1 hC) (sgH (by simp [isH]))) (by omega) rfl rfl rfl (Nat.le_of_ble_eq_true rfl) (Nat.le_of_ble_eq_true rfl) (T_X2_thingAt (Sm.C sm1 hC) (by simp [isH]) (Sm.hv sm1 hS okS (fun q hq z => by have := hq.2; have z : q = 105 := z; omega)) okS i (by omega)) (kk_p ?_)
  refine j_astore (L' := [(4, .ref (1 + 5 + i)), (0, .ref 0), (1, .int (nI i)), (2, .int 2), (3, .int x)]) dX10_act_15 (by decide) rfl ?_
  refine j_aload 0 dX10_act_17 rfl ?_
  refine j_ifnull dX10_act_19 ?_
  refine j_iload_n 3 dX10_act_22 rfl ?_
  refine j_if_lt (tgt := 31) dX10_act_23 rfl (fun c2 => ?_) (fun c2 => ?_)
  · exact absurd c2 (by decide)
  · refine j_iload_n 3 dX10_act_26 rfl ?_
    refine j_iconst 2 dX10_act_27 ic_2 ?_
    refine j_icmp_le (tgt := 33) dX10_act_28 rfl (fun c3 => ?_) (fun c3 => ?_)
    · refine j_aload_n 1 dX10_act_33 rfl ?_
      refine j_getr (q := 105) dX10_act_34 fX10_66 (shC (Sm.C sm1 hC) sgC_0) rfl (rfC (Sm.C sm1 hC) rfC_0_8 (nz (by decide))) ?_
      refine j_aload 0 dX10_act_37 rfl ?_
      refine j_iload_n 2 dX10_act_39 rfl ?_
      refine j_callV (kc := 0) (ks := 0) (a := 0) (b := 0) (d' := d) (As := [.ref (1 + 5 + i), .int (nI i)]) dX10_act_40 kX10_353 rfl (shC (Sm.C sm1 hC) sgC_105) (by omega) rfl rfl rfl (Nat.le_of_ble_eq_true rfl) (Nat.le_of_ble_eq_true rfl) (T_X4_cast (Sm.C sm1 hC) (sgHT (by simp [isH]) (by have := (Sok.T okS).2; omega)) (by omega) ((hvT (Sm.hv sm1 hS okS (fun q hq z => by have := hq.2; have z : q = 105 := z; omega)) (by omega) (k := 0) (by decide)).trans hkk) (hvT (Sm.hv sm1 hS okS (fun q hq z => by have := hq.2; have z : q = 105 := z; omega)) (by omega) (k := 1) (by decide)) (nI i)) (kk_pv ?_)
      have sm4 : Sm (fun q => q = 105) M (jk_wI (jk_wI (jk_wI (jk_wI M 105 3 0) 105 0 (nI k)) 105 1 (Z.1 11 i)) 105 2 (nI i)) := (Sm.w (Sm.w (Sm.w sm1 rfl) rfl) rfl)
      refine j_aload_n 1 dX10_act_43 rfl ?_
      refine j_getr (q := 105) dX10_act_44 fX10_66 (shC (Sm.C sm4 hC) sgC_0) rfl (rfC (Sm.C sm4 hC) rfC_0_8 (nz (by decide))) ?_
      refine j_iload_n 3 dX10_act_47 rfl ?_
      refine j_aload 0 dX10_act_48 rfl ?_
      refine j_getv (nI k) dX10_act_50 fX10_212 (shC (Sm.C sm4 hC) (sgHT (by simp [isH]) (by have := (Sok.T okS).2; omega))) rfl ((hvT (Sm.hv sm4 hS okS (fun q hq z => by have := hq.2; have z : q = 105 := z; omega)) (by omega) (k := 0) (by decide)).trans hkk) ?_
      refine j_iload_n 4 dX10_act_53 rfl ?_
      refine j_iconst 0 dX10_act_54 ic_0 ?_
      refine j_topi (nI 0) rfl ?_
      refine j_callS (kc := 0) (ks := 0) (a := 0) (b := 0) (d' := (d + 8)) (As := [.ref 105, .int 2, .int (nI k), .int x, .int (nI 0)]) dX10_act_55 kX10_357 rfl (by omega) rfl rfl rfl (Nat.le_of_ble_eq_true rfl) (Nat.le_of_ble_eq_true rfl) (T_runA_2 (Sm.C sm4 hC) k (Z.1 11 i) (nI i) x 0 hk ((rd_k (by decide)).trans ((rd_k (by decide)).trans rd_s)) ((rd_k (by decide)).trans rd_s) rd_s (by decide)) (kk_p ?_)
      refine j_iret dX10_act_58 rfl ?_
      have c0 := CV.ran cv (show Hok Z from ⟨ok.1, ok.2.1⟩) 0
      have okV : ∀ V, Hok (vZ Z V) := fun V => ⟨ok.1, ok.2.1⟩
      have c1 := CV.pl (CV.pl (CV.pl c0 (okV _) (k := 0) (by decide) (nI k)) (okV _) (k := 1) (by decide) (Z.1 11 i)) (okV _) (k := 2) (by decide) (nI i)
      have c2 := CV.noteL (hmL k) c1 (okV _)
      have hz : actK Z 2 x i = ((hmV k (Z.1 11 i) (nI i) x), vZ Z (noteVL (v0 Z.2.2.2.2) (hmL k))) := by
        simp only [actK, hkk, nI_clamp (show k < 2 ^ 31 by omega)]; rfl
      exact hQ _ _ ⟨by rw [hz], by rw [hz]; exact c2⟩
    · exact absurd c3 (by decide)
set_option maxRecDepth 20000 in
set_option maxHeartbeats 4000000 in
theorem P_actN {d : Nat} {M : jk_M} {Z : ZS} (cv : CV M Z) (ok : Zok Z) (t m x : Int32) (hx : ¬ (0 ≤ t ∧ t < nI (nT Z.1))) : J Fr_X10_act (d + 10) 0 0 0 [(0, .ref 0), (1, .int t), (2, .int m), (3, .int x)] [] M (jk_ex (some (.int (((0 : Int32), vZ Z (v0 Z.2.2.2.2))).1)) (fun M1 => CV M1 (((0 : Int32), vZ Z (v0 Z.2.2.2.2))).2)) := by
  refine j_post (fun Q hQ => ?_)
  have hC := cv.1
  have hS := cv.2.1
  have okS := ok.1
  refine j_aload_n 0 dX10_act_0 rfl ?_
  refine j_getr (q := 105) dX10_act_1 fX10_66 (shC hC sgC_0) rfl (rfC hC rfC_0_8 (nz (by decide))) ?_
  refine j_callV (kc := 0) (ks := 0) (a := 0) (b := 0) (d' := d) (As := []) dX10_act_4 kX10_352 rfl (shC hC sgC_105) (by omega) rfl rfl rfl (Nat.le_of_ble_eq_true rfl) (Nat.le_of_ble_eq_true rfl) (T_X4_clear hC) (kk_pv ?_)
  have sm1 : Sm (fun q => q = 105) M (jk_wI M 105 3 0) := (Sm.w Sm.rf rfl)
  refine j_aload_n 0 dX10_act_7 rfl ?_
  refine j_getr (q := 1) dX10_act_8 fX10_10 (shC (Sm.C sm1 hC) sgC_0) rfl (rfC (Sm.C sm1 hC) rfC_0_0 (nz (by decide))) ?_
  refine j_iload_n 1 dX10_act_11 rfl ?_
  refine j_callV (kc := 0) (ks := 0) (a := 0) (b := 0) (d' := d) (As := [.int t]) dX10_act_12 kX10_129 rfl (shC (Sm.C sm1 hC) (sgH (by simp [isH]))) (by omega) rfl rfl rfl (Nat.le_of_ble_eq_true rfl) (Nat.le_of_ble_eq_true rfl) (T_X2_thingAtN (Sm.C sm1 hC) (by simp [isH]) (Sm.hv sm1 hS okS (fun q hq z => by have := hq.2; have z : q = 105 := z; omega)) okS t (by assumption)) (kk_p ?_)
  refine j_astoreN (L' := [(4, .null), (0, .ref 0), (1, .int t), (2, .int m), (3, .int x)]) dX10_act_15 (by decide) rfl ?_
  refine j_aloadN 0 dX10_act_17 rfl ?_
  refine j_ifnullN (tgt := 31) dX10_act_19 rfl ?_
  refine j_iconst 0 dX10_act_31 ic_0 ?_
  refine j_iret dX10_act_32 rfl ?_
  exact hQ _ _ ⟨rfl, CV.ran cv (show Hok Z from ⟨ok.1, ok.2.1⟩) 0⟩
set_option maxRecDepth 20000 in
set_option maxHeartbeats 4000000 in
theorem P_actM {d : Nat} {M : jk_M} {Z : ZS} (cv : CV M Z) (ok : Zok Z) (i : Nat) (hi : i < nT Z.1) (m x : Int32) (hm : ¬ (0 ≤ m ∧ m ≤ 2)) : J Fr_X10_act (d + 10) 0 0 0 [(0, .ref 0), (1, .int (nI i)), (2, .int m), (3, .int x)] [] M (jk_ex (some (.int (((0 : Int32), vZ Z (v0 Z.2.2.2.2))).1)) (fun M1 => CV M1 (((0 : Int32), vZ Z (v0 Z.2.2.2.2))).2)) := by
  refine j_post (fun Q hQ => ?_)
  have hC := cv.1
  have hS := cv.2.1
  have okS := ok.1
  have hT := (Sok.T okS).2
  refine j_aload_n 0 dX10_act_0 rfl ?_
  refine j_getr (q := 105) dX10_act_1 fX10_66 (shC hC sgC_0) rfl (rfC hC rfC_0_8 (nz (by decide))) ?_
  refine j_callV (kc := 0) (ks := 0) (a := 0) (b := 0) (d' := d) (As := []) dX10_act_4 kX10_352 rfl (shC hC sgC_105) (by omega) rfl rfl rfl (Nat.le_of_ble_eq_true rfl) (Nat.le_of_ble_eq_true rfl) (T_X4_clear hC) (kk_pv ?_)
  have sm1 : Sm (fun q => q = 105) M (jk_wI M 105 3 0) := (Sm.w Sm.rf rfl)
  refine j_aload_n 0 dX10_act_7 rfl ?_
  refine j_getr (q := 1) dX10_act_8 fX10_10 (shC (Sm.C sm1 hC) sgC_0) rfl (rfC (Sm.C sm1 hC) rfC_0_0 (nz (by decide))) ?_
  refine j_iload_n 1 dX10_act_11 rfl ?_
  refine j_callV (kc := 0) (ks := 0) (a := 0) (b := 0) (d' := d) (As := [.int (nI i)]) dX10_act_12 kX10_129 rfl (shC (Sm.C sm1 hC) (sgH (by simp [isH]))) (by omega) rfl rfl rfl (Nat.le_of_ble_eq_true rfl) (Nat.le_of_ble_eq_true rfl) (T_X2_thingAt (Sm.C sm1 hC) (by simp [isH]) (Sm.hv sm1 hS okS (fun q hq z => by have := hq.2; have z : q = 105 := z; omega)) okS i (by omega)) (kk_p ?_)
  refine j_astore (L' := [(4, .ref (1 + 5 + i)), (0, .ref 0), (1, .int (nI i)), (2, .int m), (3, .int x)]) dX10_act_15 (by decide) rfl ?_
  refine j_aload 0 dX10_act_17 rfl ?_
  refine j_ifnull dX10_act_19 ?_
  refine j_iload_n 3 dX10_act_22 rfl ?_
  refine j_if_lt (tgt := 31) dX10_act_23 rfl (fun c2 => ?_) (fun c2 => ?_)
  · refine j_iconst 0 dX10_act_31 ic_0 ?_
    refine j_iret dX10_act_32 rfl ?_
    exact hQ _ _ ⟨rfl, CV.ran cv (show Hok Z from ⟨ok.1, ok.2.1⟩) 0⟩
  · refine j_iload_n 3 dX10_act_26 rfl ?_
    refine j_iconst 2 dX10_act_27 ic_2 ?_
    refine j_icmp_le (tgt := 33) dX10_act_28 rfl (fun c3 => ?_) (fun c3 => ?_)
    · exact absurd (show 0 ≤ m ∧ m ≤ 2 by clear hQ; grind) hm
    · refine j_iconst 0 dX10_act_31 ic_0 ?_
      refine j_iret dX10_act_32 rfl ?_
      exact hQ _ _ ⟨rfl, CV.ran cv (show Hok Z from ⟨ok.1, ok.2.1⟩) 0⟩
theorem P_act {d : Nat} {M : jk_M} {Z : ZS} (cv : CV M Z) (ok : Zok Z) (t m x : Int32) : J Fr_X10_act (d + 10) 0 0 0 [(0, .ref 0), (1, .int t), (2, .int m), (3, .int x)] [] M (jk_ex (some (.int (actZ Z t m x).1)) (fun M1 => CV M1 (actZ Z t m x).2)) := by
  by_cases h : 0 ≤ t ∧ t < nI (nT Z.1)
  · obtain ⟨i, hi, rfl⟩ := i_in (by have := (Sok.T ok.1).2; omega) h
    by_cases hm : 0 ≤ m ∧ m ≤ 2
    · rw [actZ, cif_t ⟨h, hm⟩, nI_clamp (by have := (Sok.T ok.1).2; omega)]
      obtain ⟨k, -, hk, hkk⟩ := (ok.1.th hi).1
      have h3 : m = 0 ∨ m = 1 ∨ m = 2 := by grind
      rcases h3 with rfl | rfl | rfl
      · exact P_act0 cv ok i hi k (by omega) hkk x
      · exact P_act1 cv ok i hi k (by omega) hkk x
      · exact P_act2 cv ok i hi k (by omega) hkk x
    · rw [actZ, cif_f (fun z => hm z.2)]
      exact P_actM cv ok i hi m x hm
  · rw [actZ, cif_f (fun z => h z.1)]
    exact P_actN cv ok t m x h
set_option maxRecDepth 20000 in
set_option maxHeartbeats 4000000 in
theorem P_statR {d : Nat} {M : jk_M} {Z : ZS} (cv : CV M Z) (ok : Zok Z) (j : Nat) (h1 : 1 ≤ j) (h7 : j ≤ 7) : J Fr_X10_status d 0 0 0 [(0, .ref 0), (1, .int (nI (10 + j)))] [] M (jk_ex (some (.int ((Z.2.2.2.2 j, Z)).1)) (fun M1 => CV M1 ((Z.2.2.2.2 j, Z)).2)) := by
  refine j_post (fun Q hQ => ?_)
  have hC := cv.1
  have hS := cv.2.1
  have okS := ok.1
  refine j_iload_n 1 dX10_status_0 rfl ?_
  refine j_bipush 11 dX10_status_1 bp_11 ?_
  refine j_icmp_ltN (tgt := 37) (10 + j) 11 dX10_status_3 rfl (by omega) (by omega) (fun c1 => ?_) (fun c1 => ?_)
  · exact absurd c1 (by omega)
  · refine j_iload_n 1 dX10_status_6 rfl ?_
    refine j_bipush 17 dX10_status_7 bp_17 ?_
    refine j_icmp_gtN (tgt := 37) (10 + j) 17 dX10_status_9 rfl (by omega) (by omega) (fun c2 => ?_) (fun c2 => ?_)
    · exact absurd c2 (by omega)
    · refine j_iload_n 1 dX10_status_12 rfl ?_
      refine j_bipush 10 dX10_status_13 bp_10 ?_
      refine j_isubN (10 + j) 10 dX10_status_15 (by omega) ?_
      refine j_istore_n (L' := [(2, .int (nI ((10 + j) - 10))), (0, .ref 0), (1, .int (nI (10 + j)))]) dX10_status_16 (by decide) rfl ?_
      refine j_iload_n 0 dX10_status_17 rfl ?_
      refine j_aload_n 1 dX10_status_18 rfl ?_
      refine j_getr (q := 108) dX10_status_19 fX10_76 (shC hC sgC_0) rfl (rfC hC rfC_0_10 (nz (by decide))) ?_
      refine j_alen dX10_status_22 (shC hC sgC_108) (by decide) ?_
      refine j_icmp_geN (tgt := 35) ((10 + j) - 10) 8 dX10_status_23 rfl (by omega) (by omega) (fun c3 => ?_) (fun c3 => ?_)
      · exact absurd c3 (by omega)
      · refine j_aload_n 1 dX10_status_26 rfl ?_
        refine j_getr (q := 108) dX10_status_27 fX10_76 (shC hC sgC_0) rfl (rfC hC rfC_0_10 (nz (by decide))) ?_
        refine j_iload_n 0 dX10_status_30 rfl ?_
        refine j_ialdN ((10 + j) - 10) dX10_status_31 (shC hC sgC_108) (by omega) (by omega) ?_
        refine j_goto (tgt := 36) dX10_status_32 rfl ?_
        refine j_iret dX10_status_36 rfl ?_
        exact hQ _ _ ⟨by rw [show 10 + j - 10 = j by omega, cv.2.2.2.2.2.1 j (by omega)], cv⟩
set_option maxRecDepth 20000 in
set_option maxHeartbeats 4000000 in
theorem P_statS {d : Nat} {M : jk_M} {Z : ZS} (cv : CV M Z) (ok : Zok Z) (w : Int32) (h : ¬ (11 ≤ w ∧ w ≤ 17)) : J Fr_X10_status d 0 0 0 [(0, .ref 0), (1, .int w)] [] M (jk_ex (some (.int ((statS Z.1 Z.2.2.2.2 w, Z)).1)) (fun M1 => CV M1 ((statS Z.1 Z.2.2.2.2 w, Z)).2)) := by
  refine j_post (fun Q hQ => ?_)
  have hC := cv.1
  have hS := cv.2.1
  have okS := ok.1
  refine j_iload_n 1 dX10_status_0 rfl ?_
  refine j_bipush 11 dX10_status_1 bp_11 ?_
  refine j_icmp_lt (tgt := 37) dX10_status_3 rfl (fun c1 => ?_) (fun c1 => ?_)
  · refine j_iload_n 1 dX10_status_37 rfl ?_
    by_cases c3 : w = 0
    · refine j_tableIn (tgt := 96) dX10_status_38 (by rw [c3]; decide) (by rw [c3]; decide) (off := 58) (by rw [c3]; decide) rfl ?_
      refine j_aload_n 0 dX10_status_96 rfl ?_
      refine j_getr (q := 1) dX10_status_97 fX10_10 (shC hC sgC_0) rfl (rfC hC rfC_0_0 (nz (by decide))) ?_
      refine j_getv (Z.1 7 0) dX10_status_100 fX10_181 (shC hC (sgH (by simp [isH]))) rfl (hvs hS (by decide)) ?_
      refine j_iret dX10_status_103 rfl ?_
      have hz : statS Z.1 Z.2.2.2.2 w = (Z.1 7 0) := by
        clear hQ
        clear cv hC hS
        grind [statS]
      exact hQ _ _ ⟨by rw [hz], cv⟩
    by_cases c4 : w = 1
    · refine j_tableIn (tgt := 104) dX10_status_38 (by rw [c4]; decide) (by rw [c4]; decide) (off := 66) (by rw [c4]; decide) rfl ?_
      refine j_aload_n 0 dX10_status_104 rfl ?_
      refine j_getr (q := 1) dX10_status_105 fX10_10 (shC hC sgC_0) rfl (rfC hC rfC_0_0 (nz (by decide))) ?_
      refine j_getv (Z.1 0 0) dX10_status_108 fX10_175 (shC hC (sgH (by simp [isH]))) rfl (hvs hS (by decide)) ?_
      refine j_iret dX10_status_111 rfl ?_
      have hz : statS Z.1 Z.2.2.2.2 w = (Z.1 0 0) := by
        clear hQ
        clear cv hC hS
        grind [statS]
      exact hQ _ _ ⟨by rw [hz], cv⟩
    by_cases c5 : w = 2
    · refine j_tableIn (tgt := 112) dX10_status_38 (by rw [c5]; decide) (by rw [c5]; decide) (off := 74) (by rw [c5]; decide) rfl ?_
      refine j_aload_n 0 dX10_status_112 rfl ?_
      refine j_getr (q := 1) dX10_status_113 fX10_10 (shC hC sgC_0) rfl (rfC hC rfC_0_0 (nz (by decide))) ?_
      refine j_getv (Z.1 8 0) dX10_status_116 fX10_188 (shC hC (sgH (by simp [isH]))) rfl (hvs hS (by decide)) ?_
      refine j_iret dX10_status_119 rfl ?_
      have hz : statS Z.1 Z.2.2.2.2 w = (Z.1 8 0) := by
        clear hQ
        clear cv hC hS
        grind [statS]
      exact hQ _ _ ⟨by rw [hz], cv⟩
    by_cases c6 : w = 3
    · refine j_tableIn (tgt := 120) dX10_status_38 (by rw [c6]; decide) (by rw [c6]; decide) (off := 82) (by rw [c6]; decide) rfl ?_
      refine j_aload_n 0 dX10_status_120 rfl ?_
      refine j_getr (q := 1) dX10_status_121 fX10_10 (shC hC sgC_0) rfl (rfC hC rfC_0_0 (nz (by decide))) ?_
      refine j_getv (Z.1 9 0) dX10_status_124 fX10_194 (shC hC (sgH (by simp [isH]))) rfl (hvs hS (by decide)) ?_
      refine j_iret dX10_status_127 rfl ?_
      have hz : statS Z.1 Z.2.2.2.2 w = (Z.1 9 0) := by
        clear hQ
        clear cv hC hS
        grind [statS]
      exact hQ _ _ ⟨by rw [hz], cv⟩
    by_cases c7 : w = 4
    · refine j_tableIn (tgt := 128) dX10_status_38 (by rw [c7]; decide) (by rw [c7]; decide) (off := 90) (by rw [c7]; decide) rfl ?_
      refine j_aload_n 0 dX10_status_128 rfl ?_
      refine j_getr (q := 1) dX10_status_129 fX10_10 (shC hC sgC_0) rfl (rfC hC rfC_0_0 (nz (by decide))) ?_
      refine j_getv (Z.1 1 0) dX10_status_132 fX10_206 (shC hC (sgH (by simp [isH]))) rfl (hvs hS (by decide)) ?_
      refine j_iret dX10_status_135 rfl ?_
      have hz : statS Z.1 Z.2.2.2.2 w = (Z.1 1 0) := by
        clear hQ
        clear cv hC hS
        grind [statS]
      exact hQ _ _ ⟨by rw [hz], cv⟩
    by_cases c8 : w = 5
    · refine j_tableIn (tgt := 136) dX10_status_38 (by rw [c8]; decide) (by rw [c8]; decide) (off := 98) (by rw [c8]; decide) rfl ?_
      refine j_aload_n 0 dX10_status_136 rfl ?_
      refine j_getr (q := 1) dX10_status_137 fX10_10 (shC hC sgC_0) rfl (rfC hC rfC_0_0 (nz (by decide))) ?_
      refine j_getv (Z.1 2 0) dX10_status_140 fX10_209 (shC hC (sgH (by simp [isH]))) rfl (hvs hS (by decide)) ?_
      refine j_iret dX10_status_143 rfl ?_
      have hz : statS Z.1 Z.2.2.2.2 w = (Z.1 2 0) := by
        clear hQ
        clear cv hC hS
        grind [statS]
      exact hQ _ _ ⟨by rw [hz], cv⟩
    by_cases c9 : w = 6
    · refine j_tableIn (tgt := 144) dX10_status_38 (by rw [c9]; decide) (by rw [c9]; decide) (off := 106) (by rw [c9]; decide) rfl ?_
      refine j_aload_n 0 dX10_status_144 rfl ?_
      refine j_getr (q := 1) dX10_status_145 fX10_10 (shC hC sgC_0) rfl (rfC hC rfC_0_0 (nz (by decide))) ?_
      refine j_getv (Z.1 3 0) dX10_status_148 fX10_164 (shC hC (sgH (by simp [isH]))) rfl (hvs hS (by decide)) ?_
      refine j_iret dX10_status_151 rfl ?_
      have hz : statS Z.1 Z.2.2.2.2 w = (Z.1 3 0) := by
        clear hQ
        clear cv hC hS
        grind [statS]
      exact hQ _ _ ⟨by rw [hz], cv⟩
    by_cases c10 : w = 7
    · refine j_tableIn (tgt := 152) dX10_status_38 (by rw [c10]; decide) (by rw [c10]; decide) (off := 114) (by rw [c10]; decide) rfl ?_
      refine j_aload_n 0 dX10_status_152 rfl ?_
      refine j_getr (q := 1) dX10_status_153 fX10_10 (shC hC sgC_0) rfl (rfC hC rfC_0_0 (nz (by decide))) ?_
      refine j_getv (Z.1 5 0) dX10_status_156 fX10_324 (shC hC (sgH (by simp [isH]))) rfl (hvs hS (by decide)) ?_
      refine j_iret dX10_status_159 rfl ?_
      have hz : statS Z.1 Z.2.2.2.2 w = (Z.1 5 0) := by
        clear hQ
        clear cv hC hS
        grind [statS]
      exact hQ _ _ ⟨by rw [hz], cv⟩
    by_cases c11 : w = 8
    · refine j_tableIn (tgt := 160) dX10_status_38 (by rw [c11]; decide) (by rw [c11]; decide) (off := 122) (by rw [c11]; decide) rfl ?_
      refine j_aload_n 0 dX10_status_160 rfl ?_
      refine j_getr (q := 1) dX10_status_161 fX10_10 (shC hC sgC_0) rfl (rfC hC rfC_0_0 (nz (by decide))) ?_
      refine j_getv (Z.1 6 0) dX10_status_164 fX10_364 (shC hC (sgH (by simp [isH]))) rfl (hvs hS (by decide)) ?_
      refine j_iret dX10_status_167 rfl ?_
      have hz : statS Z.1 Z.2.2.2.2 w = (Z.1 6 0) := by
        clear hQ
        clear cv hC hS
        grind [statS]
      exact hQ _ _ ⟨by rw [hz], cv⟩
    by_cases c12 : w = 9
    · refine j_tableIn (tgt := 168) dX10_status_38 (by rw [c12]; decide) (by rw [c12]; decide) (off := 130) (by rw [c12]; decide) rfl ?_
      refine j_aload_n 0 dX10_status_168 rfl ?_
      refine j_getr (q := 1) dX10_status_169 fX10_10 (shC hC sgC_0) rfl (rfC hC rfC_0_0 (nz (by decide))) ?_
      refine j_getv (Z.1 4 0) dX10_status_172 fX10_349 (shC hC (sgH (by simp [isH]))) rfl (hvs hS (by decide)) ?_
      refine j_iret dX10_status_175 rfl ?_
      have hz : statS Z.1 Z.2.2.2.2 w = (Z.1 4 0) := by
        clear hQ
        clear cv hC hS
        grind [statS]
      exact hQ _ _ ⟨by rw [hz], cv⟩
    by_cases c13 : w = 10
    · refine j_tableIn (tgt := 176) dX10_status_38 (by rw [c13]; decide) (by rw [c13]; decide) (off := 138) (by rw [c13]; decide) rfl ?_
      refine j_aload_n 0 dX10_status_176 rfl ?_
      refine j_getr (q := 105) dX10_status_177 fX10_66 (shC hC sgC_0) rfl (rfC hC rfC_0_8 (nz (by decide))) ?_
      refine j_getv (Z.2.2.2.2 10) dX10_status_180 fX10_367 (shC hC sgC_105) rfl cv.2.2.2.2.2.2.2.2.1 ?_
      refine j_iret dX10_status_183 rfl ?_
      have hz : statS Z.1 Z.2.2.2.2 w = (Z.2.2.2.2 10) := by
        clear hQ
        clear cv hC hS
        grind [statS]
      exact hQ _ _ ⟨by rw [hz], cv⟩
    refine j_tableOut (tgt := 184) dX10_status_38 (by have q0 := lv_neT c3 (a := 0) (by decide); have q1 := lv_neT c4 (a := 1) (by decide); have q2 := lv_neT c5 (a := 2) (by decide); have q3 := lv_neT c6 (a := 3) (by decide); have q4 := lv_neT c7 (a := 4) (by decide); have q5 := lv_neT c8 (a := 5) (by decide); have q6 := lv_neT c9 (a := 6) (by decide); have q7 := lv_neT c10 (a := 7) (by decide); have q8 := lv_neT c11 (a := 8) (by decide); have q9 := lv_neT c12 (a := 9) (by decide); have q10 := lv_neT c13 (a := 10) (by decide); omega) rfl ?_
    refine j_iconst (-1) dX10_status_184 ic_n1 ?_
    refine j_iret dX10_status_185 rfl ?_
    have hz : statS Z.1 Z.2.2.2.2 w = (-1) := by
      clear hQ
      clear cv hC hS
      grind [statS]
    exact hQ _ _ ⟨by rw [hz], cv⟩
  · refine j_iload_n 1 dX10_status_6 rfl ?_
    refine j_bipush 17 dX10_status_7 bp_17 ?_
    refine j_icmp_gt (tgt := 37) dX10_status_9 rfl (fun c14 => ?_) (fun c14 => ?_)
    · refine j_iload_n 1 dX10_status_37 rfl ?_
      by_cases c16 : w = 0
      · refine j_tableIn (tgt := 96) dX10_status_38 (by rw [c16]; decide) (by rw [c16]; decide) (off := 58) (by rw [c16]; decide) rfl ?_
        refine j_aload_n 0 dX10_status_96 rfl ?_
        refine j_getr (q := 1) dX10_status_97 fX10_10 (shC hC sgC_0) rfl (rfC hC rfC_0_0 (nz (by decide))) ?_
        refine j_getv (Z.1 7 0) dX10_status_100 fX10_181 (shC hC (sgH (by simp [isH]))) rfl (hvs hS (by decide)) ?_
        refine j_iret dX10_status_103 rfl ?_
        have hz : statS Z.1 Z.2.2.2.2 w = (Z.1 7 0) := by
          clear hQ
          clear cv hC hS
          grind [statS]
        exact hQ _ _ ⟨by rw [hz], cv⟩
      by_cases c17 : w = 1
      · refine j_tableIn (tgt := 104) dX10_status_38 (by rw [c17]; decide) (by rw [c17]; decide) (off := 66) (by rw [c17]; decide) rfl ?_
        refine j_aload_n 0 dX10_status_104 rfl ?_
        refine j_getr (q := 1) dX10_status_105 fX10_10 (shC hC sgC_0) rfl (rfC hC rfC_0_0 (nz (by decide))) ?_
        refine j_getv (Z.1 0 0) dX10_status_108 fX10_175 (shC hC (sgH (by simp [isH]))) rfl (hvs hS (by decide)) ?_
        refine j_iret dX10_status_111 rfl ?_
        have hz : statS Z.1 Z.2.2.2.2 w = (Z.1 0 0) := by
          clear hQ
          clear cv hC hS
          grind [statS]
        exact hQ _ _ ⟨by rw [hz], cv⟩
      by_cases c18 : w = 2
      · refine j_tableIn (tgt := 112) dX10_status_38 (by rw [c18]; decide) (by rw [c18]; decide) (off := 74) (by rw [c18]; decide) rfl ?_
        refine j_aload_n 0 dX10_status_112 rfl ?_
        refine j_getr (q := 1) dX10_status_113 fX10_10 (shC hC sgC_0) rfl (rfC hC rfC_0_0 (nz (by decide))) ?_
        refine j_getv (Z.1 8 0) dX10_status_116 fX10_188 (shC hC (sgH (by simp [isH]))) rfl (hvs hS (by decide)) ?_
        refine j_iret dX10_status_119 rfl ?_
        have hz : statS Z.1 Z.2.2.2.2 w = (Z.1 8 0) := by
          clear hQ
          clear cv hC hS
          grind [statS]
        exact hQ _ _ ⟨by rw [hz], cv⟩
      by_cases c19 : w = 3
      · refine j_tableIn (tgt := 120) dX10_status_38 (by rw [c19]; decide) (by rw [c19]; decide) (off := 82) (by rw [c19]; decide) rfl ?_
        refine j_aload_n 0 dX10_status_120 rfl ?_
        refine j_getr (q := 1) dX10_status_121 fX10_10 (shC hC sgC_0) rfl (rfC hC rfC_0_0 (nz (by decide))) ?_
        refine j_getv (Z.1 9 0) dX10_status_124 fX10_194 (shC hC (sgH (by simp [isH]))) rfl (hvs hS (by decide)) ?_
        refine j_iret dX10_status_127 rfl ?_
        have hz : statS Z.1 Z.2.2.2.2 w = (Z.1 9 0) := by
          clear hQ
          clear cv hC hS
          grind [statS]
        exact hQ _ _ ⟨by rw [hz], cv⟩
      by_cases c20 : w = 4
      · refine j_tableIn (tgt := 128) dX10_status_38 (by rw [c20]; decide) (by rw [c20]; decide) (off := 90) (by rw [c20]; decide) rfl ?_
        refine j_aload_n 0 dX10_status_128 rfl ?_
        refine j_getr (q := 1) dX10_status_129 fX10_10 (shC hC sgC_0) rfl (rfC hC rfC_0_0 (nz (by decide))) ?_
        refine j_getv (Z.1 1 0) dX10_status_132 fX10_206 (shC hC (sgH (by simp [isH]))) rfl (hvs hS (by decide)) ?_
        refine j_iret dX10_status_135 rfl ?_
        have hz : statS Z.1 Z.2.2.2.2 w = (Z.1 1 0) := by
          clear hQ
          clear cv hC hS
          grind [statS]
        exact hQ _ _ ⟨by rw [hz], cv⟩
      by_cases c21 : w = 5
      · refine j_tableIn (tgt := 136) dX10_status_38 (by rw [c21]; decide) (by rw [c21]; decide) (off := 98) (by rw [c21]; decide) rfl ?_
        refine j_aload_n 0 dX10_status_136 rfl ?_
        refine j_getr (q := 1) dX10_status_137 fX10_10 (shC hC sgC_0) rfl (rfC hC rfC_0_0 (nz (by decide))) ?_
        refine j_getv (Z.1 2 0) dX10_status_140 fX10_209 (shC hC (sgH (by simp [isH]))) rfl (hvs hS (by decide)) ?_
        refine j_iret dX10_status_143 rfl ?_
        have hz : statS Z.1 Z.2.2.2.2 w = (Z.1 2 0) := by
          clear hQ
          clear cv hC hS
          grind [statS]
        exact hQ _ _ ⟨by rw [hz], cv⟩
      by_cases c22 : w = 6
      · refine j_tableIn (tgt := 144) dX10_status_38 (by rw [c22]; decide) (by rw [c22]; decide) (off := 106) (by rw [c22]; decide) rfl ?_
        refine j_aload_n 0 dX10_status_144 rfl ?_
        refine j_getr (q := 1) dX10_status_145 fX10_10 (shC hC sgC_0) rfl (rfC hC rfC_0_0 (nz (by decide))) ?_
        refine j_getv (Z.1 3 0) dX10_status_148 fX10_164 (shC hC (sgH (by simp [isH]))) rfl (hvs hS (by decide)) ?_
        refine j_iret dX10_status_151 rfl ?_
        have hz : statS Z.1 Z.2.2.2.2 w = (Z.1 3 0) := by
          clear hQ
          clear cv hC hS
          grind [statS]
        exact hQ _ _ ⟨by rw [hz], cv⟩
      by_cases c23 : w = 7
      · refine j_tableIn (tgt := 152) dX10_status_38 (by rw [c23]; decide) (by rw [c23]; decide) (off := 114) (by rw [c23]; decide) rfl ?_
        refine j_aload_n 0 dX10_status_152 rfl ?_
        refine j_getr (q := 1) dX10_status_153 fX10_10 (shC hC sgC_0) rfl (rfC hC rfC_0_0 (nz (by decide))) ?_
        refine j_getv (Z.1 5 0) dX10_status_156 fX10_324 (shC hC (sgH (by simp [isH]))) rfl (hvs hS (by decide)) ?_
        refine j_iret dX10_status_159 rfl ?_
        have hz : statS Z.1 Z.2.2.2.2 w = (Z.1 5 0) := by
          clear hQ
          clear cv hC hS
          grind [statS]
        exact hQ _ _ ⟨by rw [hz], cv⟩
      by_cases c24 : w = 8
      · refine j_tableIn (tgt := 160) dX10_status_38 (by rw [c24]; decide) (by rw [c24]; decide) (off := 122) (by rw [c24]; decide) rfl ?_
        refine j_aload_n 0 dX10_status_160 rfl ?_
        refine j_getr (q := 1) dX10_status_161 fX10_10 (shC hC sgC_0) rfl (rfC hC rfC_0_0 (nz (by decide))) ?_
        refine j_getv (Z.1 6 0) dX10_status_164 fX10_364 (shC hC (sgH (by simp [isH]))) rfl (hvs hS (by decide)) ?_
        refine j_iret dX10_status_167 rfl ?_
        have hz : statS Z.1 Z.2.2.2.2 w = (Z.1 6 0) := by
          clear hQ
          clear cv hC hS
          grind [statS]
        exact hQ _ _ ⟨by rw [hz], cv⟩
      by_cases c25 : w = 9
      · refine j_tableIn (tgt := 168) dX10_status_38 (by rw [c25]; decide) (by rw [c25]; decide) (off := 130) (by rw [c25]; decide) rfl ?_
        refine j_aload_n 0 dX10_status_168 rfl ?_
        refine j_getr (q := 1) dX10_status_169 fX10_10 (shC hC sgC_0) rfl (rfC hC rfC_0_0 (nz (by decide))) ?_
        refine j_getv (Z.1 4 0) dX10_status_172 fX10_349 (shC hC (sgH (by simp [isH]))) rfl (hvs hS (by decide)) ?_
        refine j_iret dX10_status_175 rfl ?_
        have hz : statS Z.1 Z.2.2.2.2 w = (Z.1 4 0) := by
          clear hQ
          clear cv hC hS
          grind [statS]
        exact hQ _ _ ⟨by rw [hz], cv⟩
      by_cases c26 : w = 10
      · refine j_tableIn (tgt := 176) dX10_status_38 (by rw [c26]; decide) (by rw [c26]; decide) (off := 138) (by rw [c26]; decide) rfl ?_
        refine j_aload_n 0 dX10_status_176 rfl ?_
        refine j_getr (q := 105) dX10_status_177 fX10_66 (shC hC sgC_0) rfl (rfC hC rfC_0_8 (nz (by decide))) ?_
        refine j_getv (Z.2.2.2.2 10) dX10_status_180 fX10_367 (shC hC sgC_105) rfl cv.2.2.2.2.2.2.2.2.1 ?_
        refine j_iret dX10_status_183 rfl ?_
        have hz : statS Z.1 Z.2.2.2.2 w = (Z.2.2.2.2 10) := by
          clear hQ
          clear cv hC hS
          grind [statS]
        exact hQ _ _ ⟨by rw [hz], cv⟩
      refine j_tableOut (tgt := 184) dX10_status_38 (by have q0 := lv_neT c16 (a := 0) (by decide); have q1 := lv_neT c17 (a := 1) (by decide); have q2 := lv_neT c18 (a := 2) (by decide); have q3 := lv_neT c19 (a := 3) (by decide); have q4 := lv_neT c20 (a := 4) (by decide); have q5 := lv_neT c21 (a := 5) (by decide); have q6 := lv_neT c22 (a := 6) (by decide); have q7 := lv_neT c23 (a := 7) (by decide); have q8 := lv_neT c24 (a := 8) (by decide); have q9 := lv_neT c25 (a := 9) (by decide); have q10 := lv_neT c26 (a := 10) (by decide); omega) rfl ?_
      refine j_iconst (-1) dX10_status_184 ic_n1 ?_
      refine j_iret dX10_status_185 rfl ?_
      have hz : statS Z.1 Z.2.2.2.2 w = (-1) := by
        clear hQ
        clear cv hC hS
        grind [statS]
      exact hQ _ _ ⟨by rw [hz], cv⟩
    · exact absurd (show 11 ≤ w ∧ w ≤ 17 by clear hQ; grind) h
theorem P_status {d : Nat} {M : jk_M} {Z : ZS} (cv : CV M Z) (ok : Zok Z) (w : Int32) : J Fr_X10_status d 0 0 0 [(0, .ref 0), (1, .int w)] [] M (jk_ex (some (.int (statZ Z w).1)) (fun M1 => CV M1 (statZ Z w).2)) := by
  by_cases h : 11 ≤ w ∧ w ≤ 17
  · have h0 : ¬ w < 0 := by grind
    obtain ⟨q, hq, rfl⟩ := nI_of h0
    have h1 := h.1
    have h2 := h.2
    rw [show (11 : Int32) = nI 11 by decide, nI_leI (by decide) hq] at h1
    rw [show (17 : Int32) = nI 17 by decide, nI_leI hq (by decide)] at h2
    obtain ⟨j, rfl⟩ : ∃ j, q = 10 + j := ⟨q - 10, by omega⟩
    rw [statZ, cif_t h, show (10 : Int32) = nI 10 by decide, pk_sub (by omega), show 10 + j - 10 = j by omega, nI_clamp (by omega)]
    exact P_statR cv ok j (by omega) (by omega)
  · rw [statZ, cif_f h]
    exact P_statS cv ok w h
