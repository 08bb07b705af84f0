/-! houses read, images -/
noncomputable def hsR (Z : ZS) (k : Nat) : Nat ⊕ (HS × Nat) := rdL (Z.2.2.1 k 1).toNatClampNeg (fun i => tlK Z k (nI i)) 160 Z.1 0 1
def fltZ (Z : ZS) (x : Int32) : ZS := (Z.1, Z.2.1, Z.2.2.1, Z.2.2.2.1, va_up Z.2.2.2.2 9 x)
noncomputable def houseR (Z : ZS) (r : Nat ⊕ (HS × Nat)) : Int32 × ZS := match r with
  | .inl x => (-6, refZ (fltZ Z (nI x)) (-6))
  | .inr (T, m) => (nI m, nowZ (fltZ Z (-1)) T)
noncomputable def houseK (Z : ZS) (k : Nat) : Int32 × ZS := cif (¬ rrK Z k = 0) (rrK Z k, refZ Z (rrK Z k)) (houseR Z (hsR Z k))
noncomputable def houseZ (Z : ZS) (s : Int32) : Int32 × ZS := inS Z s (-1) (-1) (houseK Z)
def imageZ (Z : ZS) : Int32 × ZS := (nI (nT Z.1), (Z.1, Z.1, Z.2.2.1, Z.2.2.2.1, va_up Z.2.2.2.2 8 1))
def clrS (n : Nat) (SH : Nat → Nat → Int32) (s : Nat) : Nat → Int32 := if nI n ≤ SH s 2 then g3 (-1) 0 (-1) else SH s
def clrN (n : Nat) (SH : Nat → Nat → Int32) (q s : Nat) : Nat → Int32 := if s < q then clrS n SH s else SH s
noncomputable def restoreZ (Z : ZS) : Int32 × ZS := cif (Z.2.2.2.2 8 = 0) (-6, refZ Z (-6)) (nI (nT Z.2.1), (Z.2.1, Z.2.1, clrN (nT Z.2.1) Z.2.2.1 8, Z.2.2.2))
theorem PRd.Sc : ∀ q, PRd q → PSc q := fun q e => by
  rcases e with e | e | e
  · have := HO55 e; exact ⟨by omega, by omega⟩
  all_goals exact ⟨by omega, by omega⟩
theorem HO55.Sc : ∀ q, HO 55 q → PSc q := fun q e => by have := HO55 e; exact ⟨by omega, by omega⟩
theorem CV.flt {M : jk_M} {Z : ZS} (h : CV M Z) (ok : Zok Z) (x : Int32) : CV (jk_wI M 0 12 x) (fltZ Z x) := by
  obtain ⟨h1, h2, h3, h4, h5, h6, h7, h8, h9, h10⟩ := h
  have s : Sm (fun q => q = 0) M (jk_wI M 0 12 x) := Sm.rf.w rfl
  refine ⟨s.C h1, s.hv h2 ok.1 (fun q hq z => by have := hq.1; have z : q = 0 := z; omega), s.hv h3 ok.2.1 (fun q hq z => by have := hq.1; have z : q = 0 := z; omega), fun t ht k hk => ?_, h5, fun i hi => ?_, ?_, ?_, ?_, fun i hi => ?_⟩
  · rw [rd_o (by omega)]; exact h4 t ht k hk
  · show _ = va_up Z.2.2.2.2 9 x i
    rw [rd_o (by omega), va_up_ne _ _ (by omega)]; exact h6 i hi
  · show _ = va_up Z.2.2.2.2 9 x 8
    rw [rd_k (by omega), va_up_ne _ _ (by omega)]; exact h7
  · show _ = va_up Z.2.2.2.2 9 x 9
    rw [rd_s, va_up_self]
  · show _ = va_up Z.2.2.2.2 9 x 10
    rw [rd_o (by omega), va_up_ne _ _ (by omega)]; exact h9
  · show _ = va_up Z.2.2.2.2 9 x (11 + i)
    rw [rd_o (by omega), va_up_ne _ _ (by omega)]; exact h10 i hi
theorem CV.img {M M1 : jk_M} {Z : ZS} (h : CV M Z) (ok : Zok Z) (s : Sm (HO 28) M M1) (hk : hv M1.2.1 28 = Z.1) : CV (jk_wI M1 0 11 1) (Z.1, Z.1, Z.2.2.1, Z.2.2.2.1, va_up Z.2.2.2.2 8 1) := by
  obtain ⟨h1, h2, h3, h4, h5, h6, h7, h8, h9, h10⟩ := h
  have e : ∀ q, q < 28 ∨ 54 < q → M1.2.1 q = M.2.1 q := fun q hq => s.2.2 q (fun z => by have := z.1; have := z.2; omega)
  have s2 : Sm (fun q => q = 0) M1 (jk_wI M1 0 11 1) := Sm.rf.w rfl
  have n0 : ∀ h q, HO h q → 0 < h → ¬ q = 0 := fun h q hq hp z => by have := hq.1; omega
  refine ⟨s2.C (s.C h1), s2.hv (s.hv h2 ok.1 (fun q hq z => by have := hq.2; have := z.1; omega)) ok.1 (fun q hq => n0 1 q hq (by decide)), s2.hv hk ok.1 (fun q hq => n0 28 q hq (by decide)), fun t ht k hk => ?_, fun t ht i hi => ?_, fun i hi => ?_, ?_, ?_, ?_, fun i hi => ?_⟩
  · rw [rd_o (by omega), e _ (by omega)]; exact h4 t ht k hk
  · show M1.2.2.1 _ i = _
    rw [s.2.1]; exact h5 t ht i hi
  · show _ = va_up Z.2.2.2.2 8 1 i
    rw [rd_o (by omega), e _ (by omega), va_up_ne _ _ (by omega)]; exact h6 i hi
  · show _ = va_up Z.2.2.2.2 8 1 8
    rw [rd_s, va_up_self]
  · show _ = va_up Z.2.2.2.2 8 1 9
    rw [rd_k (by omega), e _ (by omega), va_up_ne _ _ (by omega)]; exact h8
  · show _ = va_up Z.2.2.2.2 8 1 10
    rw [rd_o (by omega), e _ (by omega), va_up_ne _ _ (by omega)]; exact h9
  · show _ = va_up Z.2.2.2.2 8 1 (11 + i)
    rw [rd_o (by omega), e _ (by omega), va_up_ne _ _ (by omega)]; exact h10 i hi
/-- restored so far: the house, and the first shelves -/
def RsO (M M1 : jk_M) (Z : ZS) (q : Nat) : Prop := CV M1 (Z.2.1, Z.2.1, clrN (nT Z.2.1) Z.2.2.1 q, Z.2.2.2)
theorem Rs0 {M M1 : jk_M} {Z : ZS} (h : CV M Z) (ok : Zok Z) (s : Sm (HO 1) M M1) (hk : hv M1.2.1 1 = Z.2.1) : RsO M M1 Z 0 := by
  have e : clrN (nT Z.2.1) Z.2.2.1 0 = Z.2.2.1 := by funext s; simp [clrN]
  rw [RsO, e]
  exact CV.now h ok (Sg.mo (Sm.g s) (fun q z => Or.inl z) (fun q z => z)) hk
theorem clr_y {n q : Nat} {SH : Nat → Nat → Int32} (h : nI n ≤ SH q 2) : clrN n SH (q + 1) = va_up (clrN n SH q) q (g3 (-1) 0 (-1)) := by
  funext s
  by_cases e : s = q
  · subst e; rw [va_up_self, clrN, if_pos (by omega), clrS, if_pos h]
  · rw [va_up_ne _ _ e]
    simp only [clrN]
    by_cases hs : s < q
    · rw [if_pos (by omega), if_pos hs]
    · rw [if_neg (by omega), if_neg hs]
theorem clr_n {n q : Nat} {SH : Nat → Nat → Int32} (h : ¬ nI n ≤ SH q 2) : clrN n SH (q + 1) = clrN n SH q := by
  funext s
  simp only [clrN]
  by_cases e : s = q
  · subst e; rw [if_pos (by omega), if_neg (by omega), clrS, if_neg h]
  · by_cases hs : s < q
    · rw [if_pos (by omega), if_pos hs]
    · rw [if_neg (by omega), if_neg hs]
theorem clr_q {n q : Nat} {SH : Nat → Nat → Int32} : clrN n SH q q = SH q := by rw [clrN, if_neg (by omega)]
theorem CV.shc {M M1 : jk_M} {Z : ZS} {k : Nat} (h : CV M Z) (o1 : Sok Z.1) (o2 : Sok Z.2.1) (hk : k < 8) : CV (shClr M (109 + 2 * k)) (Z.1, Z.2.1, va_up Z.2.2.1 k (g3 (-1) 0 (-1)), Z.2.2.2) := by
  obtain ⟨h1, h2, h3, h4, h5, h6, h7, h8, h9, h10⟩ := h
  have s : Sm (fun q => q = 109 + 2 * k) M (shClr M (109 + 2 * k)) := Sm.w (Sm.w (Sm.w Sm.rf rfl) rfl) rfl
  have e : ∀ q, q ≠ 109 + 2 * k → (shClr M (109 + 2 * k)).2.1 q = M.2.1 q := fun q hq => s.2.2 q (fun z => hq z)
  refine ⟨s.C h1, s.hv h2 o1 (fun q hq z => by have := hq.2; have z : q = 109 + 2 * k := z; omega), s.hv h3 o2 (fun q hq z => by have := hq.2; have z : q = 109 + 2 * k := z; omega), fun t ht j hj => ?_, h5, fun i hi => ?_, ?_, ?_, ?_, fun i hi => ?_⟩
  · show _ = va_up Z.2.2.1 k (g3 (-1) 0 (-1)) t j
    by_cases ek : t = k
    · subst ek
      rw [va_up_self]
      have hj3 : j = 0 ∨ j = 1 ∨ j = 2 := by omega
      rcases hj3 with rfl | rfl | rfl
      · exact (rd_k (by decide)).trans ((rd_k (by decide)).trans rd_s)
      · exact (rd_k (by decide)).trans rd_s
      · exact rd_s
    · rw [va_up_ne _ _ ek, e _ (by omega)]; exact h4 t ht j hj
  · rw [e _ (by omega)]; exact h6 i hi
  · rw [e _ (by omega)]; exact h7
  · rw [e _ (by omega)]; exact h8
  · rw [e _ (by omega)]; exact h9
  · rw [e _ (by omega)]; exact h10 i hi
theorem K_readS {d : Nat} {M : jk_M} {Z : ZS} (cv : CV M Z) (ok : Zok Z) (hd : hv M.2.1 55 = Z.1) {k : Nat} (hk : k < 8) {T : HS} {m : Nat} (hR : hsR Z k = .inr (T, m)) : J Fr_X5_readAll (d + 7) 0 0 0 [(0, .ref 101), (1, .ref (109 + 2 * k))] [] M (jk_ex (some (.int (nI m))) (fun M1 => Sg PRd (fun _ => False) M M1 ∧ hv M1.2.1 55 = T ∧ Sok T ∧ M1.2.1 101 4 = -1)) := by
  obtain ⟨n, hn, e⟩ := ok.sz hk
  have e2 := tlK_e cv hk
  rw [hsR, e, nI_clamp (by omega), ← e2] at hR
  exact T_X5_readAllS cv.1 (isS.s hk) hn ((cv.sf hk (by decide)).trans e) hd ok.1 T m hR
theorem K_readN {d : Nat} {M : jk_M} {Z : ZS} (cv : CV M Z) (ok : Zok Z) (hd : hv M.2.1 55 = Z.1) {k : Nat} (hk : k < 8) {x : Nat} (hR : hsR Z k = .inl x) : J Fr_X5_readAll (d + 7) 0 0 0 [(0, .ref 101), (1, .ref (109 + 2 * k))] [] M (jk_ex (some (.int (-1))) (fun M1 => Sg PRd (fun _ => False) M M1 ∧ M1.2.1 101 4 = nI x)) := by
  obtain ⟨n, hn, e⟩ := ok.sz hk
  have e2 := tlK_e cv hk
  rw [hsR, e, nI_clamp (by omega), ← e2] at hR
  exact T_X5_readAllN cv.1 (isS.s hk) hn ((cv.sf hk (by decide)).trans e) hd ok.1 x hR
set_option maxRecDepth 20000 in
set_option maxHeartbeats 4000000 in
theorem P_houseS {d : Nat} {M : jk_M} {Z : ZS} (cv : CV M Z) (ok : Zok Z) (k : Nat) (hk : k < 8) (hrr : rrK Z k = 0) (T : HS) (m : Nat) (hR : hsR Z k = .inr (T, m)) (hm : m < 2 ^ 31) (ok3 : Zok (fltZ Z (-1))) : J Fr_X10_house (d + 8) 0 0 0 [(0, .ref 0), (1, .int (nI k))] [] M (jk_ex (some (.int (houseK Z k).1)) (fun M1 => CV M1 (houseK Z k).2)) := by
  refine j_post (fun Q hQ => ?_)
  have hC := cv.1
  have hS := cv.2.1
  have okS := ok.1
  have hnm := nI_n1 hm
  refine j_aload_n 0 dX10_house_0 rfl ?_
  refine j_iload_n 1 dX10_house_1 rfl ?_
  refine j_callV (kc := 0) (ks := 0) (a := 0) (b := 0) (d' := d) (As := [.int (nI k)]) dX10_house_2 kX10_89 rfl (shC hC sgC_0) (by omega) rfl rfl rfl (Nat.le_of_ble_eq_true rfl) (Nat.le_of_ble_eq_true rfl) (T_shelfAtY hC k (by omega)) (kk_p ?_)
  refine j_astore_n (L' := [(2, .ref (109 + 2 * k)), (0, .ref 0), (1, .int (nI k))]) dX10_house_5 (by decide) rfl ?_
  refine j_aload_n 0 dX10_house_6 rfl ?_
  refine j_callS (kc := 0) (ks := 0) (a := 0) (b := 0) (d' := (d + 1)) (As := [.ref (109 + 2 * k)]) dX10_house_7 kX10_101 rfl (by omega) rfl rfl rfl (Nat.le_of_ble_eq_true rfl) (Nat.le_of_ble_eq_true rfl) (K_rowRefusal cv (by omega)) (kk_p ?_)
  refine j_istore_n (L' := [(3, .int (rrK Z k)), (2, .ref (109 + 2 * k)), (0, .ref 0), (1, .int (nI k))]) dX10_house_10 (by decide) rfl ?_
  refine j_iload_n 0 dX10_house_11 rfl ?_
  refine j_if_ne (tgt := 19) dX10_house_12 rfl (fun c1 => ?_) (fun c1 => ?_)
  · exact absurd hrr c1
  · refine j_aload_n 1 dX10_house_15 rfl ?_
    refine j_ifnonnull (tgt := 25) dX10_house_16 rfl ?_
    refine j_aload_n 2 dX10_house_25 rfl ?_
    refine j_getr (q := 55) dX10_house_26 fX10_19 (shC hC sgC_0) rfl (rfC hC rfC_0_2 (nz (by decide))) ?_
    refine j_aload_n 2 dX10_house_29 rfl ?_
    refine j_getr (q := 1) dX10_house_30 fX10_10 (shC hC sgC_0) rfl (rfC hC rfC_0_0 (nz (by decide))) ?_
    refine j_callV (kc := 0) (ks := 0) (a := 0) (b := 0) (d' := (d + 1)) (As := [.ref 1]) dX10_house_33 kX10_245 rfl (shC hC (sgH (by simp [isH]))) (by omega) rfl rfl rfl (Nat.le_of_ble_eq_true rfl) (Nat.le_of_ble_eq_true rfl) (T_X2_become cv.1 (by simp [isH]) (by simp [isH]) (by decide) cv.2.1 okS) (kk_ev (fun M2 hM3 => ?_))
    obtain ⟨h0B, hd1⟩ := hM3
    have cv1 : CV M2 Z := CV.sc cv ok (Sg.mo (Sm.g h0B) HO55.Sc (fun q z => z))
    refine j_aload_n 2 dX10_house_36 rfl ?_
    refine j_getr (q := 101) dX10_house_37 fX10_59 (shC cv1.1 sgC_0) rfl (rfC cv1.1 rfC_0_7 (nz (by decide))) ?_
    refine j_aload_n 1 dX10_house_40 rfl ?_
    refine j_callV (kc := 0) (ks := 0) (a := 0) (b := 0) (d' := (d + 7)) (As := [.ref (109 + 2 * k)]) dX10_house_41 kX10_248 rfl (shC cv1.1 sgC_101) (by omega) rfl rfl rfl (Nat.le_of_ble_eq_true rfl) (Nat.le_of_ble_eq_true rfl) (K_readS cv1 ok hd1 hk hR) (kk_e (fun M4 hM5 => ?_))
    obtain ⟨g2, hd2, okT, h4⟩ := hM5
    have cv2 : CV M4 Z := CV.sc cv1 ok (Sg.mo g2 PRd.Sc (fun q z => z))
    refine j_istore (L' := [(4, .int (nI m)), (3, .int (rrK Z k)), (2, .ref (109 + 2 * k)), (0, .ref 0), (1, .int (nI k))]) dX10_house_44 (by decide) rfl ?_
    refine j_aload_n 3 dX10_house_46 rfl ?_
    refine j_aload_n 3 dX10_house_47 rfl ?_
    refine j_getr (q := 101) dX10_house_48 fX10_59 (shC cv2.1 sgC_0) rfl (rfC cv2.1 rfC_0_7 (nz (by decide))) ?_
    refine j_getv (-1) dX10_house_51 fX10_251 (shC cv2.1 sgC_101) rfl h4 ?_
    refine j_put dX10_house_54 fX10_84 (shC cv2.1 sgC_0) rfl ?_
    have cv3 := CV.flt cv2 ok (-1)
    have hd3 : hv (jk_wI M4 0 12 (-1)).2.1 55 = T := Sm.hv (P := fun q => q = 0) (Sm.rf.w rfl) hd2 okT (fun q hq z => by have := hq.1; have z : q = 0 := z; omega)
    refine j_iload 0 dX10_house_57 rfl ?_
    refine j_iconst (-1) dX10_house_59 ic_n1 ?_
    refine j_icmp_ne (tgt := 70) dX10_house_60 rfl (fun c6 => ?_) (fun c6 => ?_)
    · refine j_aload_n 3 dX10_house_70 rfl ?_
      refine j_getr (q := 1) dX10_house_71 fX10_10 (shC cv3.1 sgC_0) rfl (rfC cv3.1 rfC_0_0 (nz (by decide))) ?_
      refine j_aload_n 3 dX10_house_74 rfl ?_
      refine j_getr (q := 55) dX10_house_75 fX10_19 (shC cv3.1 sgC_0) rfl (rfC cv3.1 rfC_0_2 (nz (by decide))) ?_
      refine j_callV (kc := 0) (ks := 0) (a := 0) (b := 0) (d' := (d + 1)) (As := [.ref 55]) dX10_house_78 kX10_245 rfl (shC cv3.1 (sgH (by simp [isH]))) (by omega) rfl rfl rfl (Nat.le_of_ble_eq_true rfl) (Nat.le_of_ble_eq_true rfl) (T_X2_become (S := T) cv3.1 (by simp [isH]) (by simp [isH]) (by decide) hd3 okT) (kk_ev (fun M7 hM8 => ?_))
      obtain ⟨h0C, hn1⟩ := hM8
      refine j_iload 0 dX10_house_81 rfl ?_
      refine j_iret dX10_house_83 rfl ?_
      have hz : houseK Z k = (nI m, nowZ (fltZ Z (-1)) T) := by rw [houseK, cif_f (fun z => z hrr), hR]; rfl
      exact hQ _ _ ⟨by rw [hz], by rw [hz]; exact CV.now cv3 ok3 (Sm.g (Sm.mo h0C (fun q z => Or.inl z))) hn1⟩
    · exact absurd c6 hnm
set_option maxRecDepth 20000 in
set_option maxHeartbeats 4000000 in
theorem P_houseN {d : Nat} {M : jk_M} {Z : ZS} (cv : CV M Z) (ok : Zok Z) (k : Nat) (hk : k < 8) (hrr : rrK Z k = 0) (x : Nat) (hR : hsR Z k = .inl x) (ok3 : Zok (fltZ Z (nI x))) : J Fr_X10_house (d + 8) 0 0 0 [(0, .ref 0), (1, .int (nI k))] [] M (jk_ex (some (.int (houseK Z k).1)) (fun M1 => CV M1 (houseK Z k).2)) := by
  refine j_post (fun Q hQ => ?_)
  have hC := cv.1
  have hS := cv.2.1
  have okS := ok.1
  refine j_aload_n 0 dX10_house_0 rfl ?_
  refine j_iload_n 1 dX10_house_1 rfl ?_
  refine j_callV (kc := 0) (ks := 0) (a := 0) (b := 0) (d' := d) (As := [.int (nI k)]) dX10_house_2 kX10_89 rfl (shC hC sgC_0) (by omega) rfl rfl rfl (Nat.le_of_ble_eq_true rfl) (Nat.le_of_ble_eq_true rfl) (T_shelfAtY hC k (by omega)) (kk_p ?_)
  refine j_astore_n (L' := [(2, .ref (109 + 2 * k)), (0, .ref 0), (1, .int (nI k))]) dX10_house_5 (by decide) rfl ?_
  refine j_aload_n 0 dX10_house_6 rfl ?_
  refine j_callS (kc := 0) (ks := 0) (a := 0) (b := 0) (d' := (d + 1)) (As := [.ref (109 + 2 * k)]) dX10_house_7 kX10_101 rfl (by omega) rfl rfl rfl (Nat.le_of_ble_eq_true rfl) (Nat.le_of_ble_eq_true rfl) (K_rowRefusal cv (by omega)) (kk_p ?_)
  refine j_istore_n (L' := [(3, .int (rrK Z k)), (2, .ref (109 + 2 * k)), (0, .ref 0), (1, .int (nI k))]) dX10_house_10 (by decide) rfl ?_
  refine j_iload_n 0 dX10_house_11 rfl ?_
  refine j_if_ne (tgt := 19) dX10_house_12 rfl (fun c1 => ?_) (fun c1 => ?_)
  · exact absurd hrr c1
  · refine j_aload_n 1 dX10_house_15 rfl ?_
    refine j_ifnonnull (tgt := 25) dX10_house_16 rfl ?_
    refine j_aload_n 2 dX10_house_25 rfl ?_
    refine j_getr (q := 55) dX10_house_26 fX10_19 (shC hC sgC_0) rfl (rfC hC rfC_0_2 (nz (by decide))) ?_
    refine j_aload_n 2 dX10_house_29 rfl ?_
    refine j_getr (q := 1) dX10_house_30 fX10_10 (shC hC sgC_0) rfl (rfC hC rfC_0_0 (nz (by decide))) ?_
    refine j_callV (kc := 0) (ks := 0) (a := 0) (b := 0) (d' := (d + 1)) (As := [.ref 1]) dX10_house_33 kX10_245 rfl (shC hC (sgH (by simp [isH]))) (by omega) rfl rfl rfl (Nat.le_of_ble_eq_true rfl) (Nat.le_of_ble_eq_true rfl) (T_X2_become cv.1 (by simp [isH]) (by simp [isH]) (by decide) cv.2.1 okS) (kk_ev (fun M2 hM3 => ?_))
    obtain ⟨h0B, hd1⟩ := hM3
    have cv1 : CV M2 Z := CV.sc cv ok (Sg.mo (Sm.g h0B) HO55.Sc (fun q z => z))
    refine j_aload_n 2 dX10_house_36 rfl ?_
    refine j_getr (q := 101) dX10_house_37 fX10_59 (shC cv1.1 sgC_0) rfl (rfC cv1.1 rfC_0_7 (nz (by decide))) ?_
    refine j_aload_n 1 dX10_house_40 rfl ?_
    refine j_callV (kc := 0) (ks := 0) (a := 0) (b := 0) (d' := (d + 7)) (As := [.ref (109 + 2 * k)]) dX10_house_41 kX10_248 rfl (shC cv1.1 sgC_101) (by omega) rfl rfl rfl (Nat.le_of_ble_eq_true rfl) (Nat.le_of_ble_eq_true rfl) (K_readN cv1 ok hd1 hk hR) (kk_e (fun M4 hM5 => ?_))
    obtain ⟨g2, h4⟩ := hM5
    have cv2 : CV M4 Z := CV.sc cv1 ok (Sg.mo g2 PRd.Sc (fun q z => z))
    refine j_istore (L' := [(4, .int (-1)), (3, .int (rrK Z k)), (2, .ref (109 + 2 * k)), (0, .ref 0), (1, .int (nI k))]) dX10_house_44 (by decide) rfl ?_
    refine j_aload_n 3 dX10_house_46 rfl ?_
    refine j_aload_n 3 dX10_house_47 rfl ?_
    refine j_getr (q := 101) dX10_house_48 fX10_59 (shC cv2.1 sgC_0) rfl (rfC cv2.1 rfC_0_7 (nz (by decide))) ?_
    refine j_getv (nI x) dX10_house_51 fX10_251 (shC cv2.1 sgC_101) rfl h4 ?_
    refine j_put dX10_house_54 fX10_84 (shC cv2.1 sgC_0) rfl ?_
    have cv3 := CV.flt cv2 ok (nI x)
    refine j_iload 0 dX10_house_57 rfl ?_
    refine j_iconst (-1) dX10_house_59 ic_n1 ?_
    refine j_icmp_ne (tgt := 70) dX10_house_60 rfl (fun c6 => ?_) (fun c6 => ?_)
    · exact absurd c6 (by decide)
    · refine j_aload_n 3 dX10_house_63 rfl ?_
      refine j_bipush (-6) dX10_house_64 bp_n6 ?_
      refine j_callV (kc := 0) (ks := 0) (a := 0) (b := 0) (d' := d) (As := [.int (-6)]) dX10_house_66 kX10_93 rfl (shC cv3.1 sgC_0) (by omega) rfl rfl rfl (Nat.le_of_ble_eq_true rfl) (Nat.le_of_ble_eq_true rfl) (T_X10_refuse cv3.1 (-6)) (kk_p ?_)
      refine j_iret dX10_house_69 rfl ?_
      have hz : houseK Z k = (-6, refZ (fltZ Z (nI x)) (-6)) := by rw [houseK, cif_f (fun z => z hrr), hR]; rfl
      exact hQ _ _ ⟨by rw [hz], by rw [hz]; exact CV.rf cv3 ok3 (-6)⟩
set_option maxRecDepth 20000 in
set_option maxHeartbeats 4000000 in
theorem P_house0 {d : Nat} {M : jk_M} {Z : ZS} (cv : CV M Z) (ok : Zok Z) (k : Nat) (hk : k < 8) (hrr : ¬ rrK Z k = 0) : J Fr_X10_house (d + 8) 0 0 0 [(0, .ref 0), (1, .int (nI k))] [] M (jk_ex (some (.int (houseK Z k).1)) (fun M1 => CV M1 (houseK Z k).2)) := by
  refine j_post (fun Q hQ => ?_)
  have hC := cv.1
  have hS := cv.2.1
  have okS := ok.1
  refine j_aload_n 0 dX10_house_0 rfl ?_
  refine j_iload_n 1 dX10_house_1 rfl ?_
  refine j_callV (kc := 0) (ks := 0) (a := 0) (b := 0) (d' := d) (As := [.int (nI k)]) dX10_house_2 kX10_89 rfl (shC hC sgC_0) (by omega) rfl rfl rfl (Nat.le_of_ble_eq_true rfl) (Nat.le_of_ble_eq_true rfl) (T_shelfAtY hC k (by omega)) (kk_p ?_)
  refine j_astore_n (L' := [(2, .ref (109 + 2 * k)), (0, .ref 0), (1, .int (nI k))]) dX10_house_5 (by decide) rfl ?_
  refine j_aload_n 0 dX10_house_6 rfl ?_
  refine j_callS (kc := 0) (ks := 0) (a := 0) (b := 0) (d' := (d + 1)) (As := [.ref (109 + 2 * k)]) dX10_house_7 kX10_101 rfl (by omega) rfl rfl rfl (Nat.le_of_ble_eq_true rfl) (Nat.le_of_ble_eq_true rfl) (K_rowRefusal cv (by omega)) (kk_p ?_)
  refine j_istore_n (L' := [(3, .int (rrK Z k)), (2, .ref (109 + 2 * k)), (0, .ref 0), (1, .int (nI k))]) dX10_house_10 (by decide) rfl ?_
  refine j_iload_n 0 dX10_house_11 rfl ?_
  refine j_if_ne (tgt := 19) dX10_house_12 rfl (fun c1 => ?_) (fun c1 => ?_)
  · refine j_aload_n 2 dX10_house_19 rfl ?_
    refine j_iload_n 0 dX10_house_20 rfl ?_
    refine j_callV (kc := 0) (ks := 0) (a := 0) (b := 0) (d' := d) (As := [.int (rrK Z k)]) dX10_house_21 kX10_93 rfl (shC hC sgC_0) (by omega) rfl rfl rfl (Nat.le_of_ble_eq_true rfl) (Nat.le_of_ble_eq_true rfl) (T_X10_refuse hC (rrK Z k)) (kk_p ?_)
    refine j_iret dX10_house_24 rfl ?_
    have hz : houseK Z k = ((rrK Z k), (refZ Z (rrK Z k))) := by
      clear hQ
      clear cv hC hS
      grind [houseK, cif]
    exact hQ _ _ ⟨by rw [hz], by rw [hz]; exact CV.rf cv ok (rrK Z k)⟩
  · exact absurd c1 hrr
set_option maxRecDepth 20000 in
set_option maxHeartbeats 4000000 in
theorem P_houseNo {d : Nat} {M : jk_M} {Z : ZS} (cv : CV M Z) (ok : Zok Z) (s : Int32) (hs : ¬ (0 ≤ s ∧ s < 8)) : J Fr_X10_house (d + 8) 0 0 0 [(0, .ref 0), (1, .int s)] [] M (jk_ex (some (.int (((-1 : Int32), refZ Z (-1))).1)) (fun M1 => CV M1 (((-1 : Int32), refZ Z (-1))).2)) := by
  refine j_post (fun Q hQ => ?_)
  have hC := cv.1
  have hS := cv.2.1
  have okS := ok.1
  refine j_aload_n 0 dX10_house_0 rfl ?_
  refine j_iload_n 1 dX10_house_1 rfl ?_
  refine j_callV (kc := 0) (ks := 0) (a := 0) (b := 0) (d' := d) (As := [.int s]) dX10_house_2 kX10_89 rfl (shC hC sgC_0) (by omega) rfl rfl rfl (Nat.le_of_ble_eq_true rfl) (Nat.le_of_ble_eq_true rfl) (T_shelfAtN hC s (by assumption)) (kk_p ?_)
  refine j_astore_nN (L' := [(2, .null), (0, .ref 0), (1, .int s)]) dX10_house_5 (by decide) rfl ?_
  refine j_aload_nN 0 dX10_house_6 rfl ?_
  refine j_callS (kc := 0) (ks := 0) (a := 0) (b := 0) (d' := (d + 1)) (As := [.null]) dX10_house_7 kX10_101 rfl (by omega) rfl rfl rfl (Nat.le_of_ble_eq_true rfl) (Nat.le_of_ble_eq_true rfl) (T_rowRefusalN) (kk_p ?_)
  refine j_istore_n (L' := [(3, .int (-1)), (2, .null), (0, .ref 0), (1, .int s)]) dX10_house_10 (by decide) rfl ?_
  refine j_iload_n 0 dX10_house_11 rfl ?_
  refine j_if_ne (tgt := 19) dX10_house_12 rfl (fun c1 => ?_) (fun c1 => ?_)
  · refine j_aload_n 2 dX10_house_19 rfl ?_
    refine j_iload_n 0 dX10_house_20 rfl ?_
    refine j_callV (kc := 0) (ks := 0) (a := 0) (b := 0) (d' := d) (As := [.int (-1)]) dX10_house_21 kX10_93 rfl (shC hC sgC_0) (by omega) rfl rfl rfl (Nat.le_of_ble_eq_true rfl) (Nat.le_of_ble_eq_true rfl) (T_X10_refuse hC (-1)) (kk_p ?_)
    refine j_iret dX10_house_24 rfl ?_
    exact hQ _ _ ⟨rfl, CV.rf cv ok (-1)⟩
  · exact absurd c1 (by decide)
theorem rdL_m {n : Nat} {t : Nat → Int32} : ∀ (f : Nat) (S : HS) (p k : Nat) (T : HS) (m : Nat), rdL n t f S p k = .inr (T, m) → m ≤ k + f
  | 0, S, p, k, T, m, h => by simp [rdL] at h
  | f + 1, S, p, k, T, m, h => by
    simp only [rdL] at h
    cases e : itS S n t p with
    | inl x => rw [e] at h; cases h
    | inr y =>
      rw [e] at h
      obtain ⟨T2, q⟩ := y
      simp only at h
      by_cases h1 : q = n
      · rw [if_pos h1] at h; cases h; omega
      · rw [if_neg h1] at h
        by_cases h2 : q < n ∧ t q = 59
        · rw [if_pos h2] at h; have := rdL_m f _ _ _ _ _ h; omega
        · rw [if_neg h2] at h; cases h
theorem flt_ok {Z : ZS} (ok : Zok Z) (x : Int32) : Zok (fltZ Z x) := ⟨ok.1, ok.2.1, ok.2.2.1, by
  show inB (va_up Z.2.2.2.2 9 x 10) 0 100
  rw [va_up_ne _ _ (by omega)]; exact ok.2.2.2.1, by
  show va_up Z.2.2.2.2 9 x 8 = 0 ∨ va_up Z.2.2.2.2 9 x 8 = 1
  rw [va_up_ne _ _ (by omega)]; exact ok.2.2.2.2⟩
theorem P_house {d : Nat} {M : jk_M} {Z : ZS} (cv : CV M Z) (ok : Zok Z) (s : Int32) : J Fr_X10_house (d + 8) 0 0 0 [(0, .ref 0), (1, .int s)] [] M (jk_ex (some (.int (houseZ Z s).1)) (fun M1 => CV M1 (houseZ Z s).2)) := by
  by_cases h : 0 ≤ s ∧ s < 8
  · obtain ⟨k, hk, rfl⟩ := s_in h
    rw [houseZ, inS_y hk]
    by_cases hrr : rrK Z k = 0
    · cases hR : hsR Z k with
      | inl x => exact P_houseN cv ok k hk hrr x hR (flt_ok ok _)
      | inr y =>
        obtain ⟨T, m⟩ := y
        exact P_houseS cv ok k hk hrr T m hR (by have := rdL_m _ _ _ _ _ _ hR; omega) (flt_ok ok _)
    · exact P_house0 cv ok k hk hrr
  · rw [houseZ, inS_n h]; exact P_houseNo cv ok s h
set_option maxRecDepth 20000 in
set_option maxHeartbeats 4000000 in
theorem P_image {d : Nat} {M : jk_M} {Z : ZS} (cv : CV M Z) (ok : Zok Z)  : J Fr_X10_image (d + 2) 0 0 0 [(0, .ref 0)] [] M (jk_ex (some (.int (imageZ Z).1)) (fun M1 => CV M1 (imageZ Z).2)) := by
  refine j_post (fun Q hQ => ?_)
  have hC := cv.1
  have hS := cv.2.1
  have okS := ok.1
  refine j_aload_n 0 dX10_image_0 rfl ?_
  refine j_getr (q := 28) dX10_image_1 fX10_16 (shC hC sgC_0) rfl (rfC hC rfC_0_1 (nz (by decide))) ?_
  refine j_aload_n 0 dX10_image_4 rfl ?_
  refine j_getr (q := 1) dX10_image_5 fX10_10 (shC hC sgC_0) rfl (rfC hC rfC_0_0 (nz (by decide))) ?_
  refine j_callV (kc := 0) (ks := 0) (a := 0) (b := 0) (d' := (d + 1)) (As := [.ref 1]) dX10_image_8 kX10_245 rfl (shC hC (sgH (by simp [isH]))) (by omega) rfl rfl rfl (Nat.le_of_ble_eq_true rfl) (Nat.le_of_ble_eq_true rfl) (T_X2_become cv.1 (by simp [isH]) (by simp [isH]) (by decide) cv.2.1 okS) (kk_ev (fun M1 hM2 => ?_))
  obtain ⟨h0I, hk1⟩ := hM2
  refine j_aload_n 0 dX10_image_11 rfl ?_
  refine j_iconst 1 dX10_image_12 ic_1 ?_
  refine j_putz dX10_image_13 fX10_80 (shC (Sm.C h0I cv.1) sgC_0) rfl (by decide) ?_
  have cvI := CV.img cv ok h0I hk1
  refine j_aload_n 0 dX10_image_16 rfl ?_
  refine j_getr (q := 28) dX10_image_17 fX10_16 (shC cvI.1 sgC_0) rfl (rfC cvI.1 rfC_0_1 (nz (by decide))) ?_
  refine j_getv (nI (nT Z.1)) dX10_image_20 fX10_181 (shC cvI.1 (sgH (by simp [isH]))) rfl ((hvs (Sm.hv (P := fun q => q = 0) (Sm.rf.w rfl) hk1 okS (fun q hq z => by have := hq.1; have z : q = 0 := z; omega)) (by decide)).trans (Sok.T okS).1) ?_
  refine j_iret dX10_image_23 rfl ?_
  exact hQ _ _ ⟨rfl, cvI⟩
set_option maxRecDepth 20000 in
set_option maxHeartbeats 4000000 in
theorem P_restore {d : Nat} {M : jk_M} {Z : ZS} (cv : CV M Z) (ok : Zok Z)  : J Fr_X10_restore (d + 2) 0 0 0 [(0, .ref 0)] [] M (jk_ex (some (.int (restoreZ Z).1)) (fun M1 => CV M1 (restoreZ Z).2)) := by
  refine j_post (fun Q hQ => ?_)
  have hC := cv.1
  have hS := cv.2.1
  have okS := ok.1
  have okK := ok.2.1
  have hT := (Sok.T okK).2
  refine j_aload_n 0 dX10_restore_0 rfl ?_
  refine j_getv (Z.2.2.2.2 8) dX10_restore_1 fX10_80 (shC hC sgC_0) rfl cv.2.2.2.2.2.2.1 ?_
  refine j_if_ne (tgt := 14) dX10_restore_4 rfl (fun c1 => ?_) (fun c1 => ?_)
  · refine j_aload_n 0 dX10_restore_14 rfl ?_
    refine j_getr (q := 1) dX10_restore_15 fX10_10 (shC hC sgC_0) rfl (rfC hC rfC_0_0 (nz (by decide))) ?_
    refine j_aload_n 0 dX10_restore_18 rfl ?_
    refine j_getr (q := 28) dX10_restore_19 fX10_16 (shC hC sgC_0) rfl (rfC hC rfC_0_1 (nz (by decide))) ?_
    refine j_callV (kc := 0) (ks := 0) (a := 0) (b := 0) (d' := (d + 1)) (As := [.ref 28]) dX10_restore_22 kX10_245 rfl (shC hC (sgH (by simp [isH]))) (by omega) rfl rfl rfl (Nat.le_of_ble_eq_true rfl) (Nat.le_of_ble_eq_true rfl) (T_X2_become cv.1 (by simp [isH]) (by simp [isH]) (by decide) cv.2.2.1 okK) (kk_ev (fun M2 hM3 => ?_))
    obtain ⟨h0R, hn1⟩ := hM3
    have hr0 := Rs0 cv ok h0R hn1
    have cvr0 : CV M2 (Z.2.1, Z.2.1, clrN (nT Z.2.1) Z.2.2.1 0, Z.2.2.2) := hr0
    refine j_iconst 0 dX10_restore_25 ic_0 ?_
    refine j_istore_n (L' := [(1, .int 0), (0, .ref 0)]) dX10_restore_26 (by decide) rfl ?_
    have lp6 : ∀ (k4 : Nat) (i : Nat) (M1 : jk_M), 8 - i < k4 → (i ≤ 8) → (CV M1 (Z.2.1, Z.2.1, clrN (nT Z.2.1) Z.2.2.1 i, Z.2.2.2)) → J Fr_X10_restore (d + 2) 0 0 27 [(0, .ref 0), (1, .int (nI i))] [] M1 Q := by
      intro k4
      induction k4 with
      | zero => intro i M1 hk; exact absurd hk (Nat.not_lt_zero _)
      | succ k4 ih5 =>
        intro i M1 hk4 hi cvi
        refine j_iload_n 1 dX10_restore_27 rfl ?_
        refine j_aload_n 0 dX10_restore_28 rfl ?_
        refine j_getr (q := 107) dX10_restore_29 fX10_72 (shC cvi.1 sgC_0) rfl (rfC cvi.1 rfC_0_9 (nz (by decide))) ?_
        refine j_alen dX10_restore_32 (shC cvi.1 sgC_107) (by decide) ?_
        refine j_icmp_geN (tgt := 70) i 8 dX10_restore_33 rfl (by omega) (by omega) (fun c7 => ?_) (fun c7 => ?_)
        · refine j_aload_n 0 dX10_restore_70 rfl ?_
          refine j_getr (q := 1) dX10_restore_71 fX10_10 (shC cvi.1 sgC_0) rfl (rfC cvi.1 rfC_0_0 (nz (by decide))) ?_
          refine j_getv (nI (nT Z.2.1)) dX10_restore_74 fX10_181 (shC cvi.1 (sgH (by simp [isH]))) rfl ((hvs cvi.2.1 (by decide)).trans (Sok.T okK).1) ?_
          refine j_iret dX10_restore_77 rfl ?_
          have e : i = 8 := by omega
          subst e
          have hz : restoreZ Z = (nI (nT Z.2.1), (Z.2.1, Z.2.1, clrN (nT Z.2.1) Z.2.2.1 8, Z.2.2.2)) := by rw [restoreZ, cif_f (by assumption)]
          exact hQ _ _ ⟨by rw [hz], by rw [hz]; exact cvi⟩
        · refine j_aload_n 0 dX10_restore_36 rfl ?_
          refine j_iload_n 1 dX10_restore_37 rfl ?_
          refine j_callV (kc := 0) (ks := 0) (a := 0) (b := 0) (d' := d) (As := [.int (nI i)]) dX10_restore_38 kX10_89 rfl (shC cvi.1 sgC_0) (by omega) rfl rfl rfl (Nat.le_of_ble_eq_true rfl) (Nat.le_of_ble_eq_true rfl) (T_shelfAtY cvi.1 i (by omega)) (kk_p ?_)
          refine j_astore_n (L' := [(2, .ref (109 + 2 * i)), (0, .ref 0), (1, .int (nI i))]) dX10_restore_41 (by decide) rfl ?_
          refine j_aload_n 0 dX10_restore_42 rfl ?_
          refine j_ifnull dX10_restore_43 ?_
          refine j_aload_n 0 dX10_restore_46 rfl ?_
          refine j_getv (Z.2.2.1 i 2) dX10_restore_47 fX10_147 (shC cvi.1 (sgS (by omega))) rfl ((CV.sf cvi (by omega) (by decide)).trans (congrFun clr_q 2)) ?_
          refine j_aload_n 1 dX10_restore_50 rfl ?_
          refine j_getr (q := 1) dX10_restore_51 fX10_10 (shC cvi.1 sgC_0) rfl (rfC cvi.1 rfC_0_0 (nz (by decide))) ?_
          refine j_getv (nI (nT Z.2.1)) dX10_restore_54 fX10_181 (shC cvi.1 (sgH (by simp [isH]))) rfl ((hvs cvi.2.1 (by decide)).trans (Sok.T okK).1) ?_
          refine j_icmp_lt (tgt := 64) dX10_restore_57 rfl (fun c8 => ?_) (fun c8 => ?_)
          · refine j_iinc 2 (nI (i + 1)) (L' := [(1, .int (nI (i + 1))), (2, .ref (109 + 2 * i)), (0, .ref 0)]) dX10_restore_64 rfl (inc1 i) (by decide) rfl ?_
            refine j_goto (tgt := 27) dX10_restore_67 rfl ?_
            exact j_sub (jk_pick [2, 0] rfl) (ih5 (i + 1) M1 (by omega) (by omega) (by rw [clr_n (Int32.not_le.mpr c8)]; exact cvi))
          · refine j_aload_n 0 dX10_restore_60 rfl ?_
            refine j_callV (kc := 0) (ks := 0) (a := 0) (b := 0) (d' := d) (As := []) dX10_restore_61 kX10_133 rfl (shC cvi.1 (sgS (by omega))) (by omega) rfl rfl rfl (Nat.le_of_ble_eq_true rfl) (Nat.le_of_ble_eq_true rfl) (T_X8_clear cvi.1 (isS.s (by omega))) (kk_pv ?_)
            refine j_iinc 2 (nI (i + 1)) (L' := [(1, .int (nI (i + 1))), (2, .ref (109 + 2 * i)), (0, .ref 0)]) dX10_restore_64 rfl (inc1 i) (by decide) rfl ?_
            refine j_goto (tgt := 27) dX10_restore_67 rfl ?_
            exact j_sub (jk_pick [2, 0] rfl) (ih5 (i + 1) (shClr M1 (109 + 2 * i)) (by omega) (by omega) (by rw [clr_y (Int32.not_lt.mp c8)]; exact CV.shc (M1 := M1) cvi okK okK (by omega)))
    exact j_sub (jk_pick [1, 0] rfl) (lp6 _ 0 M2 (Nat.lt_succ_self _) (by omega) cvr0)
  · refine j_aload_n 0 dX10_restore_7 rfl ?_
    refine j_bipush (-6) dX10_restore_8 bp_n6 ?_
    refine j_callV (kc := 0) (ks := 0) (a := 0) (b := 0) (d' := d) (As := [.int (-6)]) dX10_restore_10 kX10_93 rfl (shC hC sgC_0) (by omega) rfl rfl rfl (Nat.le_of_ble_eq_true rfl) (Nat.le_of_ble_eq_true rfl) (T_X10_refuse hC (-6)) (kk_p ?_)
    refine j_iret dX10_restore_13 rfl ?_
    have hz : restoreZ Z = (-6, refZ Z (-6)) := by rw [restoreZ, cif_t (by assumption)]
    exact hQ _ _ ⟨by rw [hz], by rw [hz]; exact CV.rf cv ok (-6)⟩
