/-! calls of a shelf -/
theorem CV.sf {M : jk_M} {Z : ZS} (h : CV M Z) {k : Nat} (hk : k < 8) {j : Nat} (hj : j < 3) : M.2.1 (109 + 2 * k) j = Z.2.2.1 k j := h.2.2.2.1 k hk j hj
theorem CV.el {M : jk_M} {Z : ZS} (h : CV M Z) {k : Nat} (hk : k < 8) {i : Nat} (hi : i < 160) : M.2.2.1 (109 + 2 * k + 1) i = Z.2.2.2.1 k i := h.2.2.2.2.1 k hk i hi
def rrK (Z : ZS) (k : Nat) : Int32 := rrS (Z.2.2.1 k 0) (Z.2.2.1 k 2)
def hasK (Z : ZS) (k : Nat) (i : Int32) : Prop := 0 ≤ i ∧ i < Z.2.2.1 k 1 ∧ i < 160
noncomputable def rdK (Z : ZS) (k : Nat) (i : Int32) : Int64 := cif (hasK Z k i) (Z.2.2.2.1 k i.toNatClampNeg) 0
noncomputable def tlK (Z : ZS) (k : Nat) (i : Int32) : Int32 := Int64.toInt32 (rdK Z k i)
def runK (Z : ZS) (k : Nat) (i n : Int32) : Prop := 0 ≤ i ∧ 0 ≤ n ∧ ¬ Int32.toInt64 (Z.2.2.1 k 1) < Int32.toInt64 i + Int32.toInt64 n
def cpK (Z : ZS) (p q : Nat) : Int32 := cpS (rrK Z p) (rrK Z q) (Z.2.2.1 p 0) (Z.2.2.1 q 0)
def tdK (Z : ZS) (k : Nat) (n e : Int32) : Int32 := tdS (rrK Z k) n e (Z.2.2.1 k 1)
def shZ (Z : ZS) (k : Nat) (g : Nat → Int32) (f : Nat → Int64) : ZS := (Z.1, Z.2.1, va_up Z.2.2.1 k g, va_up Z.2.2.2.1 k f, Z.2.2.2.2)
def g3 (a z p : Int32) (j : Nat) : Int32 := if j = 0 then a else if j = 1 then z else p
theorem rrK_e {M : jk_M} {Z : ZS} (h : CV M Z) {k : Nat} (hk : k < 8) : rrM M (109 + 2 * k) = rrK Z k := by
  rw [rrM, rrK, h.sf hk (by decide), h.sf hk (by decide)]
theorem hasK_e {M : jk_M} {Z : ZS} (h : CV M Z) {k : Nat} (hk : k < 8) (i : Int32) : shHas M (109 + 2 * k) i = hasK Z k i := by
  rw [shHas, hasK, h.sf hk (by decide)]
theorem in160 {i : Int32} (h0 : 0 ≤ i) (h1 : i < 160) : i.toNatClampNeg < 160 := by
  obtain ⟨j, hj, rfl⟩ := i_in (n := 160) (by decide) ⟨h0, by rw [n160]; exact h1⟩
  rw [nI_clamp (by omega)]; exact hj
theorem rdK_e {M : jk_M} {Z : ZS} (h : CV M Z) {k : Nat} (hk : k < 8) (i : Int32) : shRd M (109 + 2 * k) i = rdK Z k i := by
  have e := hasK_e h hk i
  by_cases c : hasK Z k i
  · rw [rdK, cif_t c, shRd_t (by rw [e]; exact c), h.el hk (in160 c.1 c.2.2)]
  · rw [rdK, cif_f c, shRd_f (by rw [e]; exact c)]
theorem tlK_e {M : jk_M} {Z : ZS} (h : CV M Z) {k : Nat} (hk : k < 8) : shTl M (109 + 2 * k) = tlK Z k := by
  funext i
  rw [shTl, tlK, rdK_e h hk]
theorem runK_e {M : jk_M} {Z : ZS} (h : CV M Z) {k : Nat} (hk : k < 8) (i n : Int32) : shRun M (109 + 2 * k) i n = runK Z k i n := by
  rw [shRun, runK, h.sf hk (by decide)]
theorem tdK_e {M : jk_M} {Z : ZS} (h : CV M Z) {k : Nat} (hk : k < 8) (n e : Int32) : tdM M (109 + 2 * k) n e = tdK Z k n e := by
  rw [tdM, tdK, rrK_e h hk, h.sf hk (by decide)]
theorem cpK_e {M : jk_M} {Z : ZS} (h : CV M Z) {p q : Nat} (hp : p < 8) (hq : q < 8) : cpS (rrM M (109 + 2 * p)) (rrM M (109 + 2 * q)) (M.2.1 (109 + 2 * p) 0) (M.2.1 (109 + 2 * q) 0) = cpK Z p q := by
  rw [cpK, rrK_e h hp, rrK_e h hq, h.sf hp (by decide), h.sf hq (by decide)]
theorem Zok.sz {Z : ZS} (ok : Zok Z) {k : Nat} (hk : k < 8) : ∃ n, n ≤ 160 ∧ Z.2.2.1 k 1 = nI n := by
  rcases ok.2.2.1 k hk with ⟨-, ⟨n, -, hn, e⟩, -⟩ | ⟨-, e, -⟩
  · exact ⟨n, hn, e⟩
  · exact ⟨0, by omega, by rw [e, nI_0]⟩
theorem Zok.szI {Z : ZS} (ok : Zok Z) {k : Nat} (hk : k < 8) : (Z.2.2.1 k 1).toInt ≤ 160 := by
  obtain ⟨n, hn, e⟩ := ok.sz hk
  rw [e]
  have h : nI n ≤ nI 160 := (nI_leI (by omega) (by decide)).mpr hn
  have h2 := Int32.le_iff_toInt_le.mp h
  rw [show (nI 160).toInt = 160 by decide] at h2
  exact h2
theorem CV.sh {M M1 : jk_M} {Z : ZS} {k : Nat} {g : Nat → Int32} {f : Nat → Int64} (h : CV M Z) (ok : Zok Z) (hk : k < 8) (s : Sg (fun q => q = 109 + 2 * k) (fun q => q = 109 + 2 * k + 1) M M1) (hg : ∀ j, j < 3 → M1.2.1 (109 + 2 * k) j = g j) (hf : ∀ i, i < 160 → M1.2.2.1 (109 + 2 * k + 1) i = f i) : CV M1 (shZ Z k g f) := by
  obtain ⟨h1, h2, h3, h4, h5, h6, h7, h8, h9, h10⟩ := h
  have e : ∀ q, q ≠ 109 + 2 * k → M1.2.1 q = M.2.1 q := fun q hq => s.2.1 q (fun z => hq z)
  have el : ∀ q, q ≠ 109 + 2 * k + 1 → M1.2.2.1 q = M.2.2.1 q := fun q hq => s.2.2.1 q (fun z => hq z)
  refine ⟨s.C h1, s.hv h2 ok.1 (fun q hq z => by have := hq.2; have z : q = 109 + 2 * k := z; omega), s.hv h3 ok.2.1 (fun q hq z => by have := hq.2; have z : q = 109 + 2 * k := z; omega), fun t ht j hj => ?_, fun t ht i hi => ?_, fun i hi => ?_, ?_, ?_, ?_, fun i hi => ?_⟩
  · show _ = va_up Z.2.2.1 k g t j
    by_cases ek : t = k
    · subst ek; rw [va_up_self]; exact hg j hj
    · rw [va_up_ne _ _ ek, e _ (by omega)]; exact h4 t ht j hj
  · show _ = va_up Z.2.2.2.1 k f t i
    by_cases ek : t = k
    · subst ek; rw [va_up_self]; exact hf i hi
    · rw [va_up_ne _ _ ek, el _ (by omega)]; exact h5 t ht i hi
  · rw [e _ (by omega)]; exact h6 i hi
  · rw [e _ (by omega)]; exact h7
  · rw [e _ (by omega)]; exact h8
  · rw [e _ (by omega)]; exact h9
  · rw [e _ (by omega)]; exact h10 i hi
theorem vp_cpy_e {f f' g g' : Nat → Int64} {i j n : Nat} (hi : i + n ≤ 160) (hf : ∀ q, q < 160 → f q = f' q) (hg : ∀ q, q < 160 → g q = g' q) : ∀ q, q < 160 → va_cpy f g i j n q = va_cpy f' g' i j n q := by
  intro q hq
  simp only [va_cpy]
  split
  · exact hf _ (by omega)
  · exact hg _ hq
theorem vp_upd_e {f f' : Nat → Int64} {i : Nat} {x : Int64} (hf : ∀ q, q < 160 → f q = f' q) : ∀ q, q < 160 → vp_updL f i x q = vp_updL f' i x q := by
  intro q hq
  simp only [vp_updL]
  split
  · rfl
  · exact hf q hq
theorem K_rowRefusal {d : Nat} {M : jk_M} {Z : ZS} (cv : CV M Z) {k : Nat} (hk : k < 8) : J Fr_X10_rowRefusal (d + 1) 0 0 0 [(0, .ref (109 + 2 * k))] [] M (jk_is (some (.int (rrK Z k))) M) := by
  rw [← rrK_e cv hk]; exact T_X10_rowRefusal cv.1 (isS.s hk)
theorem K_copyRefusal {d : Nat} {M : jk_M} {Z : ZS} (cv : CV M Z) {p q : Nat} (hp : p < 8) (hq : q < 8) : J Fr_X10_copyRefusal (d + 2) 0 0 0 [(0, .ref (109 + 2 * p)), (1, .ref (109 + 2 * q))] [] M (jk_is (some (.int (cpK Z p q))) M) := by
  rw [← cpK_e cv hp hq]; exact T_X10_copyRefusal cv.1 (isS.s hp) (isS.s hq)
theorem K_toldRefusal {d : Nat} {M : jk_M} {Z : ZS} (cv : CV M Z) {k : Nat} (hk : k < 8) (n e : Int32) : J Fr_X10_toldRefusal (d + 2) 0 0 0 [(0, .ref (109 + 2 * k)), (1, .int n), (2, .int e)] [] M (jk_is (some (.int (tdK Z k n e))) M) := by
  rw [← tdK_e cv hk]; exact T_X10_toldRefusal cv.1 (isS.s hk) n e
theorem K_isRow {d : Nat} {M : jk_M} {Z : ZS} (cv : CV M Z) {k : Nat} (hk : k < 8) : J Fr_X8_isRow d 0 0 0 [(0, .ref (109 + 2 * k))] [] M (jk_is (some (.int (bI (¬ Z.2.2.1 k 0 = -1)))) M) := by
  rw [← cv.sf hk (j := 0) (by decide)]; exact T_X8_isRow cv.1 (isS.s hk)
theorem K_has {d : Nat} {M : jk_M} {Z : ZS} (cv : CV M Z) {k : Nat} (hk : k < 8) (i : Int32) : J Fr_X8_has d 0 0 0 [(0, .ref (109 + 2 * k)), (1, .int i)] [] M (jk_is (some (.int (bI (hasK Z k i)))) M) := by
  rw [← hasK_e cv hk]; exact T_X8_has cv.1 (isS.s hk) i
theorem K_hasRun {d : Nat} {M : jk_M} {Z : ZS} (cv : CV M Z) {k : Nat} (hk : k < 8) (i n : Int32) : J Fr_X8_hasRun d 0 0 0 [(0, .ref (109 + 2 * k)), (1, .int i), (2, .int n)] [] M (jk_is (some (.int (bI (runK Z k i n)))) M) := by
  rw [← runK_e cv hk]; exact T_X8_hasRun cv.1 (isS.s hk) i n
theorem K_read {d : Nat} {M : jk_M} {Z : ZS} (cv : CV M Z) {k : Nat} (hk : k < 8) (i : Int32) : J Fr_X8_read (d + 1) 0 0 0 [(0, .ref (109 + 2 * k)), (1, .int i)] [] M (jk_is (some (.long (rdK Z k i))) M) := by
  rw [← rdK_e cv hk]; exact T_X8_read cv.1 (isS.s hk) i
theorem shl_k {k : Nat} (hk : k < 8) : 0 ≤ nI k ∧ nI k < 8 := ⟨nI_pos' (by omega), by rw [show (8 : Int32) = nI 8 from rfl]; exact (nI_ltI (by omega) (by decide)).mpr hk⟩
noncomputable def inS (Z : ZS) (s c c2 : Int32) (f : Nat → Int32 × ZS) : Int32 × ZS := cif (0 ≤ s ∧ s < 8) (f s.toNatClampNeg) (c, refZ Z c2)
theorem inS_y {Z : ZS} {c c2 : Int32} {f : Nat → Int32 × ZS} {k : Nat} (hk : k < 8) : inS Z (nI k) c c2 f = f k := by
  rw [inS, cif_t (shl_k hk), nI_clamp (by omega)]
theorem inS_n {Z : ZS} {s c c2 : Int32} {f : Nat → Int32 × ZS} (h : ¬ (0 ≤ s ∧ s < 8)) : inS Z s c c2 f = (c, refZ Z c2) := by
  rw [inS, cif_f h]
noncomputable def rowK (Z : ZS) (a n : Int32) (k : Nat) : Int32 × ZS := cif (n < 0) (-4, refZ Z (-4)) (cif (¬ (0 ≤ a ∧ a ≤ 3)) (-6, refZ Z (-6)) (cif (160 < n) (-7, refZ Z (-7)) (1, shZ Z k (g3 a n (-1)) (fun _ => 0))))
noncomputable def setK (Z : ZS) (i : Int32) (v : Int64) (k : Nat) : Int32 × ZS := cif (¬ rrK Z k = 0) (rrK Z k, refZ Z (rrK Z k)) (cif (¬ hasK Z k i) (-5, refZ Z (-5)) (1, shZ Z k (Z.2.2.1 k) (vp_updL (Z.2.2.2.1 k) i.toNatClampNeg (shCut (Z.2.2.1 k 0) v))))
noncomputable def copyK (Z : ZS) (i j n : Int32) (p q : Nat) : Int32 × ZS := cif (¬ cpK Z p q = 0) (cpK Z p q, refZ Z (cpK Z p q)) (cif (n < 0) (-4, refZ Z (-4)) (cif (¬ (runK Z p i n ∧ runK Z q j n)) (-5, refZ Z (-5)) (1, shZ Z q (Z.2.2.1 q) (va_cpy (Z.2.2.2.1 p) (Z.2.2.2.1 q) i.toNatClampNeg j.toNatClampNeg n.toNatClampNeg))))
noncomputable def showK (Z : ZS) (t : Int32) (k : Nat) : Int32 × ZS := cif (t = -1) (0, shZ Z k (g3 (-1) 0 (-1)) (Z.2.2.2.1 k)) (cif (0 ≤ t ∧ t < nI (nT Z.1)) (1, shZ Z k (g3 (-1) 0 t) (Z.2.2.2.1 k)) (-1, refZ Z (-1)))
noncomputable def saysI (Z : ZS) (q : Int32) (i : Nat) : Int32 × ZS := cif (¬ oneK (Z.1 10 i) q) (-2, refZ Z (-2)) (if q = 0 then Z.1 12 i else if q = 2 then Z.1 13 i else if q = 4 ∨ q = 6 then humK (Z.1 10 i) (Z.1 11 i) (Z.1 3 0) 0 else lossT Z.1 i, Z)
noncomputable def saysK (Z : ZS) (q : Int32) (k : Nat) : Int32 × ZS := cif (¬ mayS Z.1 1 q) (-1, refZ Z (-1)) (cif (¬ Z.2.2.1 k 0 = -1) (-2, refZ Z (-2)) (inZ Z (Z.2.2.1 k 2) (nT Z.1) (-3) (saysI Z q)))
noncomputable def rowZ (Z : ZS) (s a n : Int32) : Int32 × ZS := inS Z s (-1) (-1) (rowK Z a n)
noncomputable def setZ (Z : ZS) (s i : Int32) (v : Int64) : Int32 × ZS := inS Z s (-1) (-1) (setK Z i v)
noncomputable def copyZ (Z : ZS) (s t i j n : Int32) : Int32 × ZS := inS Z s (-1) (-1) (fun p => inS Z t (-1) (-1) (copyK Z i j n p))
noncomputable def elemZ (Z : ZS) (s i : Int32) : Int64 × ZS := cif (0 ≤ s ∧ s < 8) (rdK Z s.toNatClampNeg i, Z) (0, Z)
noncomputable def showZ (Z : ZS) (s t : Int32) : Int32 × ZS := inS Z s (-1) (-1) (showK Z t)
noncomputable def holdsZ (Z : ZS) (s : Int32) : Int32 × ZS := cif (0 ≤ s ∧ s < 8) (cif (¬ Z.2.2.1 s.toNatClampNeg 0 = -1) (100 + Z.2.2.1 s.toNatClampNeg 0) (Z.2.2.1 s.toNatClampNeg 2), Z) (-1, Z)
noncomputable def saysZ (Z : ZS) (s q : Int32) : Int32 × ZS := inS Z s (-1) (-1) (saysK Z q)
set_option maxRecDepth 20000 in
set_option maxHeartbeats 4000000 in
theorem P_rowY {d : Nat} {M : jk_M} {Z : ZS} (cv : CV M Z) (ok : Zok Z) (k : Nat) (hk : k < 8) (a n : Int32) : J Fr_X10_row (d + 2) 0 0 0 [(0, .ref 0), (1, .int (nI k)), (2, .int a), (3, .int n)] [] M (jk_ex (some (.int (rowK Z a n k).1)) (fun M1 => CV M1 (rowK Z a n k).2)) := by
  refine j_post (fun Q hQ => ?_)
  have hC := cv.1
  have hS := cv.2.1
  have okS := ok.1
  refine j_aload_n 0 dX10_row_0 rfl ?_
  refine j_iload_n 1 dX10_row_1 rfl ?_
  refine j_callV (kc := 0) (ks := 0) (a := 0) (b := 0) (d' := d) (As := [.int (nI k)]) dX10_row_2 kX10_89 rfl (shC hC sgC_0) (by omega) rfl rfl rfl (Nat.le_of_ble_eq_true rfl) (Nat.le_of_ble_eq_true rfl) (T_shelfAtY hC k (by omega)) (kk_p ?_)
  refine j_astore (L' := [(4, .ref (109 + 2 * k)), (0, .ref 0), (1, .int (nI k)), (2, .int a), (3, .int n)]) dX10_row_5 (by decide) rfl ?_
  refine j_aload 0 dX10_row_7 rfl ?_
  refine j_ifnonnull (tgt := 18) dX10_row_9 rfl ?_
  refine j_iload_n 4 dX10_row_18 rfl ?_
  refine j_if_ge (tgt := 29) dX10_row_19 rfl (fun c1 => ?_) (fun c1 => ?_)
  · refine j_iload_n 3 dX10_row_29 rfl ?_
    refine j_if_lt (tgt := 38) dX10_row_30 rfl (fun c2 => ?_) (fun c2 => ?_)
    · refine j_aload_n 1 dX10_row_38 rfl ?_
      refine j_bipush (-6) dX10_row_39 bp_n6 ?_
      refine j_callV (kc := 0) (ks := 0) (a := 0) (b := 0) (d' := d) (As := [.int (-6)]) dX10_row_41 kX10_93 rfl (shC hC sgC_0) (by omega) rfl rfl rfl (Nat.le_of_ble_eq_true rfl) (Nat.le_of_ble_eq_true rfl) (T_X10_refuse hC (-6)) (kk_p ?_)
      refine j_iret dX10_row_44 rfl ?_
      have hz : rowK Z a n k = ((-6), (refZ Z (-6))) := by
        clear hQ
        clear cv hC hS
        grind [rowK, cif]
      exact hQ _ _ ⟨by rw [hz], by rw [hz]; exact CV.rf cv ok (-6)⟩
    · refine j_iload_n 3 dX10_row_33 rfl ?_
      refine j_iconst 3 dX10_row_34 ic_3 ?_
      refine j_icmp_le (tgt := 45) dX10_row_35 rfl (fun c3 => ?_) (fun c3 => ?_)
      · refine j_iload_n 4 dX10_row_45 rfl ?_
        refine j_sipush 160 dX10_row_46 sp_160 ?_
        refine j_icmp_le (tgt := 59) dX10_row_49 rfl (fun c4 => ?_) (fun c4 => ?_)
        · refine j_aload 0 dX10_row_59 rfl ?_
          refine j_iload_n 3 dX10_row_61 rfl ?_
          refine j_iload_n 4 dX10_row_62 rfl ?_
          refine j_callV (kc := 0) (ks := 0) (a := 0) (b := 0) (d' := (d + 1)) (As := [.int a, .int n]) dX10_row_63 kX10_97 rfl (shC hC (sgS (by omega))) (by omega) rfl rfl rfl (Nat.le_of_ble_eq_true rfl) (Nat.le_of_ble_eq_true rfl) (T_X8_layRow hC (isS.s (by omega)) a n (by clear hQ hC hS cv; grind) (by clear hQ hC hS cv; grind)) (kk_ev (fun M5 hM6 => ?_))
          obtain ⟨f9, hfe, hff⟩ := hM6
          refine j_iconst 1 dX10_row_66 ic_1 ?_
          refine j_iret dX10_row_67 rfl ?_
          have hz : rowK Z a n k = (1, (shZ Z k (g3 a n (-1)) (fun _ => 0))) := by
            clear hQ
            clear cv hC hS hfe hff
            grind [rowK, cif]
          refine hQ _ _ ⟨by rw [hz], ?_⟩
          rw [hz]
          subst hfe
          refine CV.sh cv ok hk (Sg.wc (Sg.w (Sg.w (Sg.w (Sg.w (Sg.w Sg.rf rfl) rfl) rfl) rfl) rfl) rfl) (fun j hj => ?_) (fun i hi => ?_)
          · have hj3 : j = 0 ∨ j = 1 ∨ j = 2 := by omega
            rcases hj3 with rfl | rfl | rfl
            · exact (rd_k (by decide)).trans rd_s
            · exact rd_s
            · exact (rd_k (by decide)).trans ((rd_k (by decide)).trans rd_s)
          · rw [wC_at]; exact hff i hi
        · refine j_aload_n 1 dX10_row_52 rfl ?_
          refine j_bipush (-7) dX10_row_53 bp_n7 ?_
          refine j_callV (kc := 0) (ks := 0) (a := 0) (b := 0) (d' := d) (As := [.int (-7)]) dX10_row_55 kX10_93 rfl (shC hC sgC_0) (by omega) rfl rfl rfl (Nat.le_of_ble_eq_true rfl) (Nat.le_of_ble_eq_true rfl) (T_X10_refuse hC (-7)) (kk_p ?_)
          refine j_iret dX10_row_58 rfl ?_
          have hz : rowK Z a n k = ((-7), (refZ Z (-7))) := by
            clear hQ
            clear cv hC hS
            grind [rowK, cif]
          exact hQ _ _ ⟨by rw [hz], by rw [hz]; exact CV.rf cv ok (-7)⟩
      · refine j_aload_n 1 dX10_row_38 rfl ?_
        refine j_bipush (-6) dX10_row_39 bp_n6 ?_
        refine j_callV (kc := 0) (ks := 0) (a := 0) (b := 0) (d' := d) (As := [.int (-6)]) dX10_row_41 kX10_93 rfl (shC hC sgC_0) (by omega) rfl rfl rfl (Nat.le_of_ble_eq_true rfl) (Nat.le_of_ble_eq_true rfl) (T_X10_refuse hC (-6)) (kk_p ?_)
        refine j_iret dX10_row_44 rfl ?_
        have hz : rowK Z a n k = ((-6), (refZ Z (-6))) := by
          clear hQ
          clear cv hC hS
          grind [rowK, cif]
        exact hQ _ _ ⟨by rw [hz], by rw [hz]; exact CV.rf cv ok (-6)⟩
  · refine j_aload_n 1 dX10_row_22 rfl ?_
    refine j_bipush (-4) dX10_row_23 bp_n4 ?_
    refine j_callV (kc := 0) (ks := 0) (a := 0) (b := 0) (d' := d) (As := [.int (-4)]) dX10_row_25 kX10_93 rfl (shC hC sgC_0) (by omega) rfl rfl rfl (Nat.le_of_ble_eq_true rfl) (Nat.le_of_ble_eq_true rfl) (T_X10_refuse hC (-4)) (kk_p ?_)
    refine j_iret dX10_row_28 rfl ?_
    have hz : rowK Z a n k = ((-4), (refZ Z (-4))) := by
      clear hQ
      clear cv hC hS
      grind [rowK, cif]
    exact hQ _ _ ⟨by rw [hz], by rw [hz]; exact CV.rf cv ok (-4)⟩
set_option maxRecDepth 20000 in
set_option maxHeartbeats 4000000 in
theorem P_rowN {d : Nat} {M : jk_M} {Z : ZS} (cv : CV M Z) (ok : Zok Z) (s a n : Int32) (hs : ¬ (0 ≤ s ∧ s < 8)) : J Fr_X10_row (d + 2) 0 0 0 [(0, .ref 0), (1, .int s), (2, .int a), (3, .int n)] [] M (jk_ex (some (.int (((-1 : Int32), refZ Z (-1))).1)) (fun M1 => CV M1 (((-1 : Int32), refZ Z (-1))).2)) := by
  refine j_post (fun Q hQ => ?_)
  have hC := cv.1
  have hS := cv.2.1
  have okS := ok.1
  refine j_aload_n 0 dX10_row_0 rfl ?_
  refine j_iload_n 1 dX10_row_1 rfl ?_
  refine j_callV (kc := 0) (ks := 0) (a := 0) (b := 0) (d' := d) (As := [.int s]) dX10_row_2 kX10_89 rfl (shC hC sgC_0) (by omega) rfl rfl rfl (Nat.le_of_ble_eq_true rfl) (Nat.le_of_ble_eq_true rfl) (T_shelfAtN hC s (by assumption)) (kk_p ?_)
  refine j_astoreN (L' := [(4, .null), (0, .ref 0), (1, .int s), (2, .int a), (3, .int n)]) dX10_row_5 (by decide) rfl ?_
  refine j_aloadN 0 dX10_row_7 rfl ?_
  refine j_ifnonnullN dX10_row_9 ?_
  refine j_aload_n 1 dX10_row_12 rfl ?_
  refine j_iconst (-1) dX10_row_13 ic_n1 ?_
  refine j_callV (kc := 0) (ks := 0) (a := 0) (b := 0) (d' := d) (As := [.int (-1)]) dX10_row_14 kX10_93 rfl (shC hC sgC_0) (by omega) rfl rfl rfl (Nat.le_of_ble_eq_true rfl) (Nat.le_of_ble_eq_true rfl) (T_X10_refuse hC (-1)) (kk_p ?_)
  refine j_iret dX10_row_17 rfl ?_
  exact hQ _ _ ⟨rfl, CV.rf cv ok (-1)⟩
theorem P_row {d : Nat} {M : jk_M} {Z : ZS} (cv : CV M Z) (ok : Zok Z) (s a n : Int32) : J Fr_X10_row (d + 2) 0 0 0 [(0, .ref 0), (1, .int s), (2, .int a), (3, .int n)] [] M (jk_ex (some (.int (rowZ Z s a n).1)) (fun M1 => CV M1 (rowZ Z s a n).2)) := by
  by_cases h : 0 ≤ s ∧ s < 8
  · obtain ⟨k, hk, rfl⟩ := s_in h
    rw [rowZ, inS_y hk]; exact P_rowY cv ok k hk a n
  · rw [rowZ, inS_n h]; exact P_rowN cv ok s a n h
set_option maxRecDepth 20000 in
set_option maxHeartbeats 4000000 in
theorem P_setY {d : Nat} {M : jk_M} {Z : ZS} (cv : CV M Z) (ok : Zok Z) (k : Nat) (hk : k < 8) (i : Int32) (v : Int64) : J Fr_X10_set (d + 2) 0 0 0 [(0, .ref 0), (1, .int (nI k)), (2, .int i), (3, .long v)] [] M (jk_ex (some (.int (setK Z i v k).1)) (fun M1 => CV M1 (setK Z i v k).2)) := by
  refine j_post (fun Q hQ => ?_)
  have hC := cv.1
  have hS := cv.2.1
  have okS := ok.1
  refine j_aload_n 0 dX10_set_0 rfl ?_
  refine j_iload_n 1 dX10_set_1 rfl ?_
  refine j_callV (kc := 0) (ks := 0) (a := 0) (b := 0) (d' := d) (As := [.int (nI k)]) dX10_set_2 kX10_89 rfl (shC hC sgC_0) (by omega) rfl rfl rfl (Nat.le_of_ble_eq_true rfl) (Nat.le_of_ble_eq_true rfl) (T_shelfAtY hC k (by omega)) (kk_p ?_)
  refine j_astore (L' := [(5, .ref (109 + 2 * k)), (0, .ref 0), (1, .int (nI k)), (2, .int i), (3, .long v)]) dX10_set_5 (by decide) rfl ?_
  refine j_aload 0 dX10_set_7 rfl ?_
  refine j_callS (kc := 0) (ks := 0) (a := 0) (b := 0) (d' := (d + 1)) (As := [.ref (109 + 2 * k)]) dX10_set_9 kX10_101 rfl (by omega) rfl rfl rfl (Nat.le_of_ble_eq_true rfl) (Nat.le_of_ble_eq_true rfl) (K_rowRefusal cv (by omega)) (kk_p ?_)
  refine j_istore (L' := [(6, .int (rrK Z k)), (5, .ref (109 + 2 * k)), (0, .ref 0), (1, .int (nI k)), (2, .int i), (3, .long v)]) dX10_set_12 (by decide) rfl ?_
  refine j_iload 0 dX10_set_14 rfl ?_
  refine j_if_ne (tgt := 37) dX10_set_16 rfl (fun c1 => ?_) (fun c1 => ?_)
  · refine j_iload 0 dX10_set_37 rfl ?_
    refine j_if_ne (tgt := 47) dX10_set_39 rfl (fun c2 => ?_) (fun c2 => ?_)
    · refine j_aload_n 2 dX10_set_47 rfl ?_
      refine j_iload 0 dX10_set_48 rfl ?_
      refine j_callV (kc := 0) (ks := 0) (a := 0) (b := 0) (d' := d) (As := [.int (rrK Z k)]) dX10_set_50 kX10_93 rfl (shC hC sgC_0) (by omega) rfl rfl rfl (Nat.le_of_ble_eq_true rfl) (Nat.le_of_ble_eq_true rfl) (T_X10_refuse hC (rrK Z k)) (kk_p ?_)
      refine j_iret dX10_set_53 rfl ?_
      have hz : setK Z i v k = ((rrK Z k), (refZ Z (rrK Z k))) := by
        clear hQ
        clear cv hC hS
        grind [setK, cif]
      exact hQ _ _ ⟨by rw [hz], by rw [hz]; exact CV.rf cv ok (rrK Z k)⟩
    · exact absurd c2 c1
  · refine j_aload 1 dX10_set_19 rfl ?_
    refine j_ifnull dX10_set_21 ?_
    refine j_aload 1 dX10_set_24 rfl ?_
    refine j_iload_n 4 dX10_set_26 rfl ?_
    refine j_callV (kc := 0) (ks := 0) (a := 0) (b := 0) (d' := d) (As := [.int i]) dX10_set_27 kX10_105 rfl (shC hC (sgS (by omega))) (by omega) rfl rfl rfl (Nat.le_of_ble_eq_true rfl) (Nat.le_of_ble_eq_true rfl) (K_has cv (by omega) i) (kk_p ?_)
    refine j_if_neB (p := (hasK Z k i)) (tgt := 37) dX10_set_30 rfl (fun c3 => ?_) (fun c3 => ?_)
    · refine j_iload 0 dX10_set_37 rfl ?_
      refine j_if_ne (tgt := 47) dX10_set_39 rfl (fun c4 => ?_) (fun c4 => ?_)
      · exact absurd c1 c4
      · refine j_aload 1 dX10_set_42 rfl ?_
        refine j_ifnonnull (tgt := 54) dX10_set_44 rfl ?_
        refine j_aload 1 dX10_set_54 rfl ?_
        refine j_iload_n 4 dX10_set_56 rfl ?_
        refine j_lload_n 5 dX10_set_57 rfl ?_
        refine j_callV (kc := 0) (ks := 0) (a := 0) (b := 0) (d' := (d + 1)) (As := [.int i, .long v]) dX10_set_58 kX10_109 rfl (shC hC (sgS (by omega))) (by omega) rfl rfl rfl (Nat.le_of_ble_eq_true rfl) (Nat.le_of_ble_eq_true rfl) ((by have x := T_X8_write (d := d) cv.1 (isS.s (by omega)) i v (by rw [hasK_e cv hk]; exact c3); rw [cv.sf hk (j := 0) (by decide)] at x; exact x)) (kk_pv ?_)
        refine j_iconst 1 dX10_set_61 ic_1 ?_
        refine j_iret dX10_set_62 rfl ?_
        have hz : setK Z i v k = (1, (shZ Z k (Z.2.2.1 k) (vp_updL (Z.2.2.2.1 k) i.toNatClampNeg (shCut (Z.2.2.1 k 0) v)))) := by
          clear hQ
          clear cv hC hS
          grind [setK, cif]
        exact hQ _ _ ⟨by rw [hz], by rw [hz]; exact CV.sh cv ok hk (Sg.wc Sg.rf rfl) (fun j hj => cv.sf hk hj) (fun q hq => by rw [wC_at]; exact vp_upd_e (fun q hq => cv.el hk hq) q hq)⟩
    · refine j_bipush (-5) dX10_set_33 bp_n5 ?_
      refine j_istore (L' := [(6, .int (-5)), (5, .ref (109 + 2 * k)), (0, .ref 0), (1, .int (nI k)), (2, .int i), (3, .long v)]) dX10_set_35 (by decide) rfl ?_
      refine j_iload 0 dX10_set_37 rfl ?_
      refine j_if_ne (tgt := 47) dX10_set_39 rfl (fun c5 => ?_) (fun c5 => ?_)
      · refine j_aload_n 2 dX10_set_47 rfl ?_
        refine j_iload 0 dX10_set_48 rfl ?_
        refine j_callV (kc := 0) (ks := 0) (a := 0) (b := 0) (d' := d) (As := [.int (-5)]) dX10_set_50 kX10_93 rfl (shC hC sgC_0) (by omega) rfl rfl rfl (Nat.le_of_ble_eq_true rfl) (Nat.le_of_ble_eq_true rfl) (T_X10_refuse hC (-5)) (kk_p ?_)
        refine j_iret dX10_set_53 rfl ?_
        have hz : setK Z i v k = ((-5), (refZ Z (-5))) := by
          clear hQ
          clear cv hC hS
          grind [setK, cif]
        exact hQ _ _ ⟨by rw [hz], by rw [hz]; exact CV.rf cv ok (-5)⟩
      · exact absurd c5 (by decide)
set_option maxRecDepth 20000 in
set_option maxHeartbeats 4000000 in
theorem P_setN {d : Nat} {M : jk_M} {Z : ZS} (cv : CV M Z) (ok : Zok Z) (s i : Int32) (v : Int64) (hs : ¬ (0 ≤ s ∧ s < 8)) : J Fr_X10_set (d + 2) 0 0 0 [(0, .ref 0), (1, .int s), (2, .int i), (3, .long v)] [] M (jk_ex (some (.int (((-1 : Int32), refZ Z (-1))).1)) (fun M1 => CV M1 (((-1 : Int32), refZ Z (-1))).2)) := by
  refine j_post (fun Q hQ => ?_)
  have hC := cv.1
  have hS := cv.2.1
  have okS := ok.1
  refine j_aload_n 0 dX10_set_0 rfl ?_
  refine j_iload_n 1 dX10_set_1 rfl ?_
  refine j_callV (kc := 0) (ks := 0) (a := 0) (b := 0) (d' := d) (As := [.int s]) dX10_set_2 kX10_89 rfl (shC hC sgC_0) (by omega) rfl rfl rfl (Nat.le_of_ble_eq_true rfl) (Nat.le_of_ble_eq_true rfl) (T_shelfAtN hC s (by assumption)) (kk_p ?_)
  refine j_astoreN (L' := [(5, .null), (0, .ref 0), (1, .int s), (2, .int i), (3, .long v)]) dX10_set_5 (by decide) rfl ?_
  refine j_aloadN 0 dX10_set_7 rfl ?_
  refine j_callS (kc := 0) (ks := 0) (a := 0) (b := 0) (d' := (d + 1)) (As := [.null]) dX10_set_9 kX10_101 rfl (by omega) rfl rfl rfl (Nat.le_of_ble_eq_true rfl) (Nat.le_of_ble_eq_true rfl) (T_rowRefusalN) (kk_p ?_)
  refine j_istore (L' := [(6, .int (-1)), (5, .null), (0, .ref 0), (1, .int s), (2, .int i), (3, .long v)]) dX10_set_12 (by decide) rfl ?_
  refine j_iload 0 dX10_set_14 rfl ?_
  refine j_if_ne (tgt := 37) dX10_set_16 rfl (fun c1 => ?_) (fun c1 => ?_)
  · refine j_iload 0 dX10_set_37 rfl ?_
    refine j_if_ne (tgt := 47) dX10_set_39 rfl (fun c2 => ?_) (fun c2 => ?_)
    · refine j_aload_n 2 dX10_set_47 rfl ?_
      refine j_iload 0 dX10_set_48 rfl ?_
      refine j_callV (kc := 0) (ks := 0) (a := 0) (b := 0) (d' := d) (As := [.int (-1)]) dX10_set_50 kX10_93 rfl (shC hC sgC_0) (by omega) rfl rfl rfl (Nat.le_of_ble_eq_true rfl) (Nat.le_of_ble_eq_true rfl) (T_X10_refuse hC (-1)) (kk_p ?_)
      refine j_iret dX10_set_53 rfl ?_
      exact hQ _ _ ⟨rfl, CV.rf cv ok (-1)⟩
    · exact absurd c2 (by decide)
  · exact absurd c1 (by decide)
theorem P_set {d : Nat} {M : jk_M} {Z : ZS} (cv : CV M Z) (ok : Zok Z) (s i : Int32) (v : Int64) : J Fr_X10_set (d + 2) 0 0 0 [(0, .ref 0), (1, .int s), (2, .int i), (3, .long v)] [] M (jk_ex (some (.int (setZ Z s i v).1)) (fun M1 => CV M1 (setZ Z s i v).2)) := by
  by_cases h : 0 ≤ s ∧ s < 8
  · obtain ⟨k, hk, rfl⟩ := s_in h
    rw [setZ, inS_y hk]; exact P_setY cv ok k hk i v
  · rw [setZ, inS_n h]; exact P_setN cv ok s i v h
set_option maxRecDepth 20000 in
set_option maxHeartbeats 4000000 in
theorem P_copyYY {d : Nat} {M : jk_M} {Z : ZS} (cv : CV M Z) (ok : Zok Z) (p q : Nat) (hp : p < 8) (hq : q < 8) (i j n : Int32) : J Fr_X10_copy (d + 3) 0 0 0 [(0, .ref 0), (1, .int (nI p)), (2, .int (nI q)), (3, .int i), (4, .int j), (5, .int n)] [] M (jk_ex (some (.int (copyK Z i j n p q).1)) (fun M1 => CV M1 (copyK Z i j n p q).2)) := by
  refine j_post (fun Q hQ => ?_)
  have hC := cv.1
  have hS := cv.2.1
  have okS := ok.1
  refine j_aload_n 0 dX10_copy_0 rfl ?_
  refine j_iload_n 1 dX10_copy_1 rfl ?_
  refine j_callV (kc := 0) (ks := 0) (a := 0) (b := 0) (d' := d) (As := [.int (nI p)]) dX10_copy_2 kX10_89 rfl (shC hC sgC_0) (by omega) rfl rfl rfl (Nat.le_of_ble_eq_true rfl) (Nat.le_of_ble_eq_true rfl) (T_shelfAtY hC p (by omega)) (kk_p ?_)
  refine j_astore (L' := [(6, .ref (109 + 2 * p)), (0, .ref 0), (1, .int (nI p)), (2, .int (nI q)), (3, .int i), (4, .int j), (5, .int n)]) dX10_copy_5 (by decide) rfl ?_
  refine j_aload_n 1 dX10_copy_7 rfl ?_
  refine j_iload_n 3 dX10_copy_8 rfl ?_
  refine j_callV (kc := 0) (ks := 0) (a := 0) (b := 0) (d' := d) (As := [.int (nI q)]) dX10_copy_9 kX10_89 rfl (shC hC sgC_0) (by omega) rfl rfl rfl (Nat.le_of_ble_eq_true rfl) (Nat.le_of_ble_eq_true rfl) (T_shelfAtY hC q (by omega)) (kk_p ?_)
  refine j_astore (L' := [(7, .ref (109 + 2 * q)), (6, .ref (109 + 2 * p)), (0, .ref 0), (1, .int (nI p)), (2, .int (nI q)), (3, .int i), (4, .int j), (5, .int n)]) dX10_copy_12 (by decide) rfl ?_
  refine j_aload 1 dX10_copy_14 rfl ?_
  refine j_aload 0 dX10_copy_16 rfl ?_
  refine j_callS (kc := 0) (ks := 0) (a := 0) (b := 0) (d' := (d + 2)) (As := [.ref (109 + 2 * p), .ref (109 + 2 * q)]) dX10_copy_18 kX10_113 rfl (by omega) rfl rfl rfl (Nat.le_of_ble_eq_true rfl) (Nat.le_of_ble_eq_true rfl) (K_copyRefusal cv (by omega) (by omega)) (kk_p ?_)
  refine j_istore (L' := [(8, .int (cpK Z p q)), (7, .ref (109 + 2 * q)), (6, .ref (109 + 2 * p)), (0, .ref 0), (1, .int (nI p)), (2, .int (nI q)), (3, .int i), (4, .int j), (5, .int n)]) dX10_copy_21 (by decide) rfl ?_
  refine j_iload 0 dX10_copy_23 rfl ?_
  refine j_if_ne (tgt := 37) dX10_copy_25 rfl (fun c1 => ?_) (fun c1 => ?_)
  · refine j_iload 0 dX10_copy_37 rfl ?_
    refine j_if_ne (tgt := 79) dX10_copy_39 rfl (fun c2 => ?_) (fun c2 => ?_)
    · refine j_iload 0 dX10_copy_79 rfl ?_
      refine j_if_ne (tgt := 94) dX10_copy_81 rfl (fun c3 => ?_) (fun c3 => ?_)
      · refine j_aload_n 3 dX10_copy_94 rfl ?_
        refine j_iload 0 dX10_copy_95 rfl ?_
        refine j_callV (kc := 0) (ks := 0) (a := 0) (b := 0) (d' := d) (As := [.int (cpK Z p q)]) dX10_copy_97 kX10_93 rfl (shC hC sgC_0) (by omega) rfl rfl rfl (Nat.le_of_ble_eq_true rfl) (Nat.le_of_ble_eq_true rfl) (T_X10_refuse hC (cpK Z p q)) (kk_p ?_)
        refine j_iret dX10_copy_100 rfl ?_
        have hz : copyK Z i j n p q = ((cpK Z p q), (refZ Z (cpK Z p q))) := by
          clear hQ
          clear cv hC hS
          grind [copyK, cif]
        exact hQ _ _ ⟨by rw [hz], by rw [hz]; exact CV.rf cv ok (cpK Z p q)⟩
      · exact absurd c3 c2
    · exact absurd c2 c1
  · refine j_iload 8 dX10_copy_28 rfl ?_
    refine j_if_ge (tgt := 37) dX10_copy_30 rfl (fun c4 => ?_) (fun c4 => ?_)
    · refine j_iload 0 dX10_copy_37 rfl ?_
      refine j_if_ne (tgt := 79) dX10_copy_39 rfl (fun c5 => ?_) (fun c5 => ?_)
      · exact absurd c1 c5
      · refine j_aload 2 dX10_copy_42 rfl ?_
        refine j_ifnull dX10_copy_44 ?_
        refine j_aload 1 dX10_copy_47 rfl ?_
        refine j_ifnull dX10_copy_49 ?_
        refine j_aload 2 dX10_copy_52 rfl ?_
        refine j_iload_n 6 dX10_copy_54 rfl ?_
        refine j_iload 8 dX10_copy_55 rfl ?_
        refine j_callV (kc := 0) (ks := 0) (a := 0) (b := 0) (d' := d) (As := [.int i, .int n]) dX10_copy_57 kX10_117 rfl (shC hC (sgS (by omega))) (by omega) rfl rfl rfl (Nat.le_of_ble_eq_true rfl) (Nat.le_of_ble_eq_true rfl) (K_hasRun cv (by omega) i n) (kk_p ?_)
        refine j_if_eqB (p := (runK Z p i n)) (tgt := 75) dX10_copy_60 rfl (fun c6 => ?_) (fun c6 => ?_)
        · refine j_bipush (-5) dX10_copy_75 bp_n5 ?_
          refine j_istore (L' := [(8, .int (-5)), (7, .ref (109 + 2 * q)), (6, .ref (109 + 2 * p)), (0, .ref 0), (1, .int (nI p)), (2, .int (nI q)), (3, .int i), (4, .int j), (5, .int n)]) dX10_copy_77 (by decide) rfl ?_
          refine j_iload 0 dX10_copy_79 rfl ?_
          refine j_if_ne (tgt := 94) dX10_copy_81 rfl (fun c7 => ?_) (fun c7 => ?_)
          · refine j_aload_n 3 dX10_copy_94 rfl ?_
            refine j_iload 0 dX10_copy_95 rfl ?_
            refine j_callV (kc := 0) (ks := 0) (a := 0) (b := 0) (d' := d) (As := [.int (-5)]) dX10_copy_97 kX10_93 rfl (shC hC sgC_0) (by omega) rfl rfl rfl (Nat.le_of_ble_eq_true rfl) (Nat.le_of_ble_eq_true rfl) (T_X10_refuse hC (-5)) (kk_p ?_)
            refine j_iret dX10_copy_100 rfl ?_
            have hz : copyK Z i j n p q = ((-5), (refZ Z (-5))) := by
              clear hQ
              clear cv hC hS
              grind [copyK, cif]
            exact hQ _ _ ⟨by rw [hz], by rw [hz]; exact CV.rf cv ok (-5)⟩
          · exact absurd c7 (by decide)
        · refine j_aload 1 dX10_copy_63 rfl ?_
          refine j_iload 7 dX10_copy_65 rfl ?_
          refine j_iload 8 dX10_copy_67 rfl ?_
          refine j_callV (kc := 0) (ks := 0) (a := 0) (b := 0) (d' := d) (As := [.int j, .int n]) dX10_copy_69 kX10_117 rfl (shC hC (sgS (by omega))) (by omega) rfl rfl rfl (Nat.le_of_ble_eq_true rfl) (Nat.le_of_ble_eq_true rfl) (K_hasRun cv (by omega) j n) (kk_p ?_)
          refine j_if_neB (p := (runK Z q j n)) (tgt := 79) dX10_copy_72 rfl (fun c8 => ?_) (fun c8 => ?_)
          · refine j_iload 0 dX10_copy_79 rfl ?_
            refine j_if_ne (tgt := 94) dX10_copy_81 rfl (fun c9 => ?_) (fun c9 => ?_)
            · exact absurd c5 c9
            · refine j_aload 2 dX10_copy_84 rfl ?_
              refine j_ifnull dX10_copy_86 ?_
              refine j_aload 1 dX10_copy_89 rfl ?_
              refine j_ifnonnull (tgt := 101) dX10_copy_91 rfl ?_
              have hrn := (shRun.n (by rw [runK_e cv hp]; exact c6) (by rw [cv.sf hp (by decide)]; exact ok.szI hp)).2.2
              refine j_aload 1 dX10_copy_101 rfl ?_
              refine j_aload 2 dX10_copy_103 rfl ?_
              refine j_iload_n 6 dX10_copy_105 rfl ?_
              refine j_iload 7 dX10_copy_106 rfl ?_
              refine j_iload 8 dX10_copy_108 rfl ?_
              refine j_callV (kc := 0) (ks := 0) (a := 0) (b := 0) (d' := (d + 1)) (As := [.ref (109 + 2 * p), .int i, .int j, .int n]) dX10_copy_110 kX10_121 rfl (shC hC (sgS (by omega))) (by omega) rfl rfl rfl (Nat.le_of_ble_eq_true rfl) (Nat.le_of_ble_eq_true rfl) (T_X8_takeRun cv.1 (isS.s (by omega)) (isS.s (by omega)) i j n (by rw [cv.sf hq (by decide)]; exact ok.szI hq) (by rw [cv.sf hp (by decide)]; exact ok.szI hp) (by rw [runK_e cv hp]; exact c6) (by rw [runK_e cv hq]; exact c8)) (kk_pv ?_)
              refine j_iconst 1 dX10_copy_113 ic_1 ?_
              refine j_iret dX10_copy_114 rfl ?_
              have hz : copyK Z i j n p q = (1, (shZ Z q (Z.2.2.1 q) (va_cpy (Z.2.2.2.1 p) (Z.2.2.2.1 q) i.toNatClampNeg j.toNatClampNeg n.toNatClampNeg))) := by
                clear hQ
                clear cv hC hS
                grind [copyK, cif]
              exact hQ _ _ ⟨by rw [hz], by rw [hz]; exact CV.sh cv ok hq (Sg.wc Sg.rf rfl) (fun j hj => cv.sf hq hj) (fun z hz => by rw [wC_at]; exact vp_cpy_e hrn (fun q hq => cv.el hp hq) (fun z hz => cv.el hq hz) z hz)⟩
          · refine j_bipush (-5) dX10_copy_75 bp_n5 ?_
            refine j_istore (L' := [(8, .int (-5)), (7, .ref (109 + 2 * q)), (6, .ref (109 + 2 * p)), (0, .ref 0), (1, .int (nI p)), (2, .int (nI q)), (3, .int i), (4, .int j), (5, .int n)]) dX10_copy_77 (by decide) rfl ?_
            refine j_iload 0 dX10_copy_79 rfl ?_
            refine j_if_ne (tgt := 94) dX10_copy_81 rfl (fun c10 => ?_) (fun c10 => ?_)
            · refine j_aload_n 3 dX10_copy_94 rfl ?_
              refine j_iload 0 dX10_copy_95 rfl ?_
              refine j_callV (kc := 0) (ks := 0) (a := 0) (b := 0) (d' := d) (As := [.int (-5)]) dX10_copy_97 kX10_93 rfl (shC hC sgC_0) (by omega) rfl rfl rfl (Nat.le_of_ble_eq_true rfl) (Nat.le_of_ble_eq_true rfl) (T_X10_refuse hC (-5)) (kk_p ?_)
              refine j_iret dX10_copy_100 rfl ?_
              have hz : copyK Z i j n p q = ((-5), (refZ Z (-5))) := by
                clear hQ
                clear cv hC hS
                grind [copyK, cif]
              exact hQ _ _ ⟨by rw [hz], by rw [hz]; exact CV.rf cv ok (-5)⟩
            · exact absurd c10 (by decide)
    · refine j_bipush (-4) dX10_copy_33 bp_n4 ?_
      refine j_istore (L' := [(8, .int (-4)), (7, .ref (109 + 2 * q)), (6, .ref (109 + 2 * p)), (0, .ref 0), (1, .int (nI p)), (2, .int (nI q)), (3, .int i), (4, .int j), (5, .int n)]) dX10_copy_35 (by decide) rfl ?_
      refine j_iload 0 dX10_copy_37 rfl ?_
      refine j_if_ne (tgt := 79) dX10_copy_39 rfl (fun c11 => ?_) (fun c11 => ?_)
      · refine j_iload 0 dX10_copy_79 rfl ?_
        refine j_if_ne (tgt := 94) dX10_copy_81 rfl (fun c12 => ?_) (fun c12 => ?_)
        · refine j_aload_n 3 dX10_copy_94 rfl ?_
          refine j_iload 0 dX10_copy_95 rfl ?_
          refine j_callV (kc := 0) (ks := 0) (a := 0) (b := 0) (d' := d) (As := [.int (-4)]) dX10_copy_97 kX10_93 rfl (shC hC sgC_0) (by omega) rfl rfl rfl (Nat.le_of_ble_eq_true rfl) (Nat.le_of_ble_eq_true rfl) (T_X10_refuse hC (-4)) (kk_p ?_)
          refine j_iret dX10_copy_100 rfl ?_
          have hz : copyK Z i j n p q = ((-4), (refZ Z (-4))) := by
            clear hQ
            clear cv hC hS
            grind [copyK, cif]
          exact hQ _ _ ⟨by rw [hz], by rw [hz]; exact CV.rf cv ok (-4)⟩
        · exact absurd c12 (by decide)
      · exact absurd c11 (by decide)
set_option maxRecDepth 20000 in
set_option maxHeartbeats 4000000 in
theorem P_copyYN {d : Nat} {M : jk_M} {Z : ZS} (cv : CV M Z) (ok : Zok Z) (p : Nat) (hp : p < 8) (t : Int32) (ht : ¬ (0 ≤ t ∧ t < 8)) (i j n : Int32) : J Fr_X10_copy (d + 3) 0 0 0 [(0, .ref 0), (1, .int (nI p)), (2, .int t), (3, .int i), (4, .int j), (5, .int n)] [] M (jk_ex (some (.int (((-1 : Int32), refZ Z (-1))).1)) (fun M1 => CV M1 (((-1 : Int32), refZ Z (-1))).2)) := by
  refine j_post (fun Q hQ => ?_)
  have hC := cv.1
  have hS := cv.2.1
  have okS := ok.1
  refine j_aload_n 0 dX10_copy_0 rfl ?_
  refine j_iload_n 1 dX10_copy_1 rfl ?_
  refine j_callV (kc := 0) (ks := 0) (a := 0) (b := 0) (d' := d) (As := [.int (nI p)]) dX10_copy_2 kX10_89 rfl (shC hC sgC_0) (by omega) rfl rfl rfl (Nat.le_of_ble_eq_true rfl) (Nat.le_of_ble_eq_true rfl) (T_shelfAtY hC p (by omega)) (kk_p ?_)
  refine j_astore (L' := [(6, .ref (109 + 2 * p)), (0, .ref 0), (1, .int (nI p)), (2, .int t), (3, .int i), (4, .int j), (5, .int n)]) dX10_copy_5 (by decide) rfl ?_
  refine j_aload_n 1 dX10_copy_7 rfl ?_
  refine j_iload_n 3 dX10_copy_8 rfl ?_
  refine j_callV (kc := 0) (ks := 0) (a := 0) (b := 0) (d' := d) (As := [.int t]) dX10_copy_9 kX10_89 rfl (shC hC sgC_0) (by omega) rfl rfl rfl (Nat.le_of_ble_eq_true rfl) (Nat.le_of_ble_eq_true rfl) (T_shelfAtN hC t (by assumption)) (kk_p ?_)
  refine j_astoreN (L' := [(7, .null), (6, .ref (109 + 2 * p)), (0, .ref 0), (1, .int (nI p)), (2, .int t), (3, .int i), (4, .int j), (5, .int n)]) dX10_copy_12 (by decide) rfl ?_
  refine j_aload 1 dX10_copy_14 rfl ?_
  refine j_aloadN 0 dX10_copy_16 rfl ?_
  refine j_callS (kc := 0) (ks := 0) (a := 0) (b := 0) (d' := (d + 2)) (As := [.ref (109 + 2 * p), .null]) dX10_copy_18 kX10_113 rfl (by omega) rfl rfl rfl (Nat.le_of_ble_eq_true rfl) (Nat.le_of_ble_eq_true rfl) (T_copyRefusalN2 hC (isS.s (by omega))) (kk_p ?_)
  refine j_istore (L' := [(8, .int (-1)), (7, .null), (6, .ref (109 + 2 * p)), (0, .ref 0), (1, .int (nI p)), (2, .int t), (3, .int i), (4, .int j), (5, .int n)]) dX10_copy_21 (by decide) rfl ?_
  refine j_iload 0 dX10_copy_23 rfl ?_
  refine j_if_ne (tgt := 37) dX10_copy_25 rfl (fun c1 => ?_) (fun c1 => ?_)
  · refine j_iload 0 dX10_copy_37 rfl ?_
    refine j_if_ne (tgt := 79) dX10_copy_39 rfl (fun c2 => ?_) (fun c2 => ?_)
    · refine j_iload 0 dX10_copy_79 rfl ?_
      refine j_if_ne (tgt := 94) dX10_copy_81 rfl (fun c3 => ?_) (fun c3 => ?_)
      · refine j_aload_n 3 dX10_copy_94 rfl ?_
        refine j_iload 0 dX10_copy_95 rfl ?_
        refine j_callV (kc := 0) (ks := 0) (a := 0) (b := 0) (d' := d) (As := [.int (-1)]) dX10_copy_97 kX10_93 rfl (shC hC sgC_0) (by omega) rfl rfl rfl (Nat.le_of_ble_eq_true rfl) (Nat.le_of_ble_eq_true rfl) (T_X10_refuse hC (-1)) (kk_p ?_)
        refine j_iret dX10_copy_100 rfl ?_
        exact hQ _ _ ⟨rfl, CV.rf cv ok (-1)⟩
      · exact absurd c3 (by decide)
    · exact absurd c2 (by decide)
  · exact absurd c1 (by decide)
set_option maxRecDepth 20000 in
set_option maxHeartbeats 4000000 in
theorem P_copyNY {d : Nat} {M : jk_M} {Z : ZS} (cv : CV M Z) (ok : Zok Z) (s : Int32) (q : Nat) (hq : q < 8) (hs : ¬ (0 ≤ s ∧ s < 8)) (i j n : Int32) : J Fr_X10_copy (d + 3) 0 0 0 [(0, .ref 0), (1, .int s), (2, .int (nI q)), (3, .int i), (4, .int j), (5, .int n)] [] M (jk_ex (some (.int (((-1 : Int32), refZ Z (-1))).1)) (fun M1 => CV M1 (((-1 : Int32), refZ Z (-1))).2)) := by
  refine j_post (fun Q hQ => ?_)
  have hC := cv.1
  have hS := cv.2.1
  have okS := ok.1
  refine j_aload_n 0 dX10_copy_0 rfl ?_
  refine j_iload_n 1 dX10_copy_1 rfl ?_
  refine j_callV (kc := 0) (ks := 0) (a := 0) (b := 0) (d' := d) (As := [.int s]) dX10_copy_2 kX10_89 rfl (shC hC sgC_0) (by omega) rfl rfl rfl (Nat.le_of_ble_eq_true rfl) (Nat.le_of_ble_eq_true rfl) (T_shelfAtN hC s (by assumption)) (kk_p ?_)
  refine j_astoreN (L' := [(6, .null), (0, .ref 0), (1, .int s), (2, .int (nI q)), (3, .int i), (4, .int j), (5, .int n)]) dX10_copy_5 (by decide) rfl ?_
  refine j_aload_n 1 dX10_copy_7 rfl ?_
  refine j_iload_n 3 dX10_copy_8 rfl ?_
  refine j_callV (kc := 0) (ks := 0) (a := 0) (b := 0) (d' := d) (As := [.int (nI q)]) dX10_copy_9 kX10_89 rfl (shC hC sgC_0) (by omega) rfl rfl rfl (Nat.le_of_ble_eq_true rfl) (Nat.le_of_ble_eq_true rfl) (T_shelfAtY hC q (by omega)) (kk_p ?_)
  refine j_astore (L' := [(7, .ref (109 + 2 * q)), (6, .null), (0, .ref 0), (1, .int s), (2, .int (nI q)), (3, .int i), (4, .int j), (5, .int n)]) dX10_copy_12 (by decide) rfl ?_
  refine j_aloadN 1 dX10_copy_14 rfl ?_
  refine j_aload 0 dX10_copy_16 rfl ?_
  refine j_callS (kc := 0) (ks := 0) (a := 0) (b := 0) (d' := (d + 2)) (As := [.null, .ref (109 + 2 * q)]) dX10_copy_18 kX10_113 rfl (by omega) rfl rfl rfl (Nat.le_of_ble_eq_true rfl) (Nat.le_of_ble_eq_true rfl) (T_copyRefusalN1 hC (isS.s (by omega))) (kk_p ?_)
  refine j_istore (L' := [(8, .int (-1)), (7, .ref (109 + 2 * q)), (6, .null), (0, .ref 0), (1, .int s), (2, .int (nI q)), (3, .int i), (4, .int j), (5, .int n)]) dX10_copy_21 (by decide) rfl ?_
  refine j_iload 0 dX10_copy_23 rfl ?_
  refine j_if_ne (tgt := 37) dX10_copy_25 rfl (fun c1 => ?_) (fun c1 => ?_)
  · refine j_iload 0 dX10_copy_37 rfl ?_
    refine j_if_ne (tgt := 79) dX10_copy_39 rfl (fun c2 => ?_) (fun c2 => ?_)
    · refine j_iload 0 dX10_copy_79 rfl ?_
      refine j_if_ne (tgt := 94) dX10_copy_81 rfl (fun c3 => ?_) (fun c3 => ?_)
      · refine j_aload_n 3 dX10_copy_94 rfl ?_
        refine j_iload 0 dX10_copy_95 rfl ?_
        refine j_callV (kc := 0) (ks := 0) (a := 0) (b := 0) (d' := d) (As := [.int (-1)]) dX10_copy_97 kX10_93 rfl (shC hC sgC_0) (by omega) rfl rfl rfl (Nat.le_of_ble_eq_true rfl) (Nat.le_of_ble_eq_true rfl) (T_X10_refuse hC (-1)) (kk_p ?_)
        refine j_iret dX10_copy_100 rfl ?_
        exact hQ _ _ ⟨rfl, CV.rf cv ok (-1)⟩
      · exact absurd c3 (by decide)
    · exact absurd c2 (by decide)
  · exact absurd c1 (by decide)
set_option maxRecDepth 20000 in
set_option maxHeartbeats 4000000 in
theorem P_copyNN {d : Nat} {M : jk_M} {Z : ZS} (cv : CV M Z) (ok : Zok Z) (s t : Int32) (hs : ¬ (0 ≤ s ∧ s < 8)) (ht : ¬ (0 ≤ t ∧ t < 8)) (i j n : Int32) : J Fr_X10_copy (d + 3) 0 0 0 [(0, .ref 0), (1, .int s), (2, .int t), (3, .int i), (4, .int j), (5, .int n)] [] M (jk_ex (some (.int (((-1 : Int32), refZ Z (-1))).1)) (fun M1 => CV M1 (((-1 : Int32), refZ Z (-1))).2)) := by
  refine j_post (fun Q hQ => ?_)
  have hC := cv.1
  have hS := cv.2.1
  have okS := ok.1
  refine j_aload_n 0 dX10_copy_0 rfl ?_
  refine j_iload_n 1 dX10_copy_1 rfl ?_
  refine j_callV (kc := 0) (ks := 0) (a := 0) (b := 0) (d' := d) (As := [.int s]) dX10_copy_2 kX10_89 rfl (shC hC sgC_0) (by omega) rfl rfl rfl (Nat.le_of_ble_eq_true rfl) (Nat.le_of_ble_eq_true rfl) (T_shelfAtN hC s (by assumption)) (kk_p ?_)
  refine j_astoreN (L' := [(6, .null), (0, .ref 0), (1, .int s), (2, .int t), (3, .int i), (4, .int j), (5, .int n)]) dX10_copy_5 (by decide) rfl ?_
  refine j_aload_n 1 dX10_copy_7 rfl ?_
  refine j_iload_n 3 dX10_copy_8 rfl ?_
  refine j_callV (kc := 0) (ks := 0) (a := 0) (b := 0) (d' := d) (As := [.int t]) dX10_copy_9 kX10_89 rfl (shC hC sgC_0) (by omega) rfl rfl rfl (Nat.le_of_ble_eq_true rfl) (Nat.le_of_ble_eq_true rfl) (T_shelfAtN hC t (by assumption)) (kk_p ?_)
  refine j_astoreN (L' := [(7, .null), (6, .null), (0, .ref 0), (1, .int s), (2, .int t), (3, .int i), (4, .int j), (5, .int n)]) dX10_copy_12 (by decide) rfl ?_
  refine j_aloadN 1 dX10_copy_14 rfl ?_
  refine j_aloadN 0 dX10_copy_16 rfl ?_
  refine j_callS (kc := 0) (ks := 0) (a := 0) (b := 0) (d' := (d + 2)) (As := [.null, .null]) dX10_copy_18 kX10_113 rfl (by omega) rfl rfl rfl (Nat.le_of_ble_eq_true rfl) (Nat.le_of_ble_eq_true rfl) (T_copyRefusalN3) (kk_p ?_)
  refine j_istore (L' := [(8, .int (-1)), (7, .null), (6, .null), (0, .ref 0), (1, .int s), (2, .int t), (3, .int i), (4, .int j), (5, .int n)]) dX10_copy_21 (by decide) rfl ?_
  refine j_iload 0 dX10_copy_23 rfl ?_
  refine j_if_ne (tgt := 37) dX10_copy_25 rfl (fun c1 => ?_) (fun c1 => ?_)
  · refine j_iload 0 dX10_copy_37 rfl ?_
    refine j_if_ne (tgt := 79) dX10_copy_39 rfl (fun c2 => ?_) (fun c2 => ?_)
    · refine j_iload 0 dX10_copy_79 rfl ?_
      refine j_if_ne (tgt := 94) dX10_copy_81 rfl (fun c3 => ?_) (fun c3 => ?_)
      · refine j_aload_n 3 dX10_copy_94 rfl ?_
        refine j_iload 0 dX10_copy_95 rfl ?_
        refine j_callV (kc := 0) (ks := 0) (a := 0) (b := 0) (d' := d) (As := [.int (-1)]) dX10_copy_97 kX10_93 rfl (shC hC sgC_0) (by omega) rfl rfl rfl (Nat.le_of_ble_eq_true rfl) (Nat.le_of_ble_eq_true rfl) (T_X10_refuse hC (-1)) (kk_p ?_)
        refine j_iret dX10_copy_100 rfl ?_
        exact hQ _ _ ⟨rfl, CV.rf cv ok (-1)⟩
      · exact absurd c3 (by decide)
    · exact absurd c2 (by decide)
  · exact absurd c1 (by decide)
theorem P_copy {d : Nat} {M : jk_M} {Z : ZS} (cv : CV M Z) (ok : Zok Z) (s t i j n : Int32) : J Fr_X10_copy (d + 3) 0 0 0 [(0, .ref 0), (1, .int s), (2, .int t), (3, .int i), (4, .int j), (5, .int n)] [] M (jk_ex (some (.int (copyZ Z s t i j n).1)) (fun M1 => CV M1 (copyZ Z s t i j n).2)) := by
  by_cases h : 0 ≤ s ∧ s < 8
  · obtain ⟨p, hp, rfl⟩ := s_in h
    by_cases h2 : 0 ≤ t ∧ t < 8
    · obtain ⟨q, hq, rfl⟩ := s_in h2
      rw [copyZ, inS_y hp, inS_y hq]; exact P_copyYY cv ok p q hp hq i j n
    · rw [copyZ, inS_y hp, inS_n h2]; exact P_copyYN cv ok p hp t h2 i j n
  · rw [copyZ, inS_n h]
    by_cases h2 : 0 ≤ t ∧ t < 8
    · obtain ⟨q, hq, rfl⟩ := s_in h2
      exact P_copyNY cv ok s q hq h i j n
    · exact P_copyNN cv ok s t h h2 i j n
set_option maxRecDepth 20000 in
set_option maxHeartbeats 4000000 in
theorem P_elementY {d : Nat} {M : jk_M} {Z : ZS} (cv : CV M Z) (ok : Zok Z) (k : Nat) (hk : k < 8) (i : Int32) : J Fr_X10_element (d + 2) 0 0 0 [(0, .ref 0), (1, .int (nI k)), (2, .int i)] [] M (jk_ex (some (.long ((rdK Z k i, Z)).1)) (fun M1 => CV M1 ((rdK Z k i, Z)).2)) := by
  refine j_post (fun Q hQ => ?_)
  have hC := cv.1
  have hS := cv.2.1
  have okS := ok.1
  refine j_aload_n 0 dX10_element_0 rfl ?_
  refine j_iload_n 1 dX10_element_1 rfl ?_
  refine j_callV (kc := 0) (ks := 0) (a := 0) (b := 0) (d' := d) (As := [.int (nI k)]) dX10_element_2 kX10_89 rfl (shC hC sgC_0) (by omega) rfl rfl rfl (Nat.le_of_ble_eq_true rfl) (Nat.le_of_ble_eq_true rfl) (T_shelfAtY hC k (by omega)) (kk_p ?_)
  refine j_astore_n (L' := [(3, .ref (109 + 2 * k)), (0, .ref 0), (1, .int (nI k)), (2, .int i)]) dX10_element_5 (by decide) rfl ?_
  refine j_aload_n 0 dX10_element_6 rfl ?_
  refine j_ifnonnull (tgt := 14) dX10_element_7 rfl ?_
  refine j_aload_n 0 dX10_element_14 rfl ?_
  refine j_iload_n 3 dX10_element_15 rfl ?_
  refine j_callV (kc := 0) (ks := 0) (a := 0) (b := 0) (d' := (d + 1)) (As := [.int i]) dX10_element_16 kX10_125 rfl (shC hC (sgS (by omega))) (by omega) rfl rfl rfl (Nat.le_of_ble_eq_true rfl) (Nat.le_of_ble_eq_true rfl) (K_read cv (by omega) i) (kk_p ?_)
  refine j_lret dX10_element_19 rfl ?_
  exact hQ _ _ ⟨rfl, cv⟩
set_option maxRecDepth 20000 in
set_option maxHeartbeats 4000000 in
theorem P_elementN {d : Nat} {M : jk_M} {Z : ZS} (cv : CV M Z) (ok : Zok Z) (s i : Int32) (hs : ¬ (0 ≤ s ∧ s < 8)) : J Fr_X10_element (d + 2) 0 0 0 [(0, .ref 0), (1, .int s), (2, .int i)] [] M (jk_ex (some (.long (((0 : Int64), Z)).1)) (fun M1 => CV M1 (((0 : Int64), Z)).2)) := by
  refine j_post (fun Q hQ => ?_)
  have hC := cv.1
  have hS := cv.2.1
  have okS := ok.1
  refine j_aload_n 0 dX10_element_0 rfl ?_
  refine j_iload_n 1 dX10_element_1 rfl ?_
  refine j_callV (kc := 0) (ks := 0) (a := 0) (b := 0) (d' := d) (As := [.int s]) dX10_element_2 kX10_89 rfl (shC hC sgC_0) (by omega) rfl rfl rfl (Nat.le_of_ble_eq_true rfl) (Nat.le_of_ble_eq_true rfl) (T_shelfAtN hC s (by assumption)) (kk_p ?_)
  refine j_astore_nN (L' := [(3, .null), (0, .ref 0), (1, .int s), (2, .int i)]) dX10_element_5 (by decide) rfl ?_
  refine j_aload_nN 0 dX10_element_6 rfl ?_
  refine j_ifnonnullN dX10_element_7 ?_
  refine j_lconst 0 dX10_element_10 (by decide) ?_
  refine j_goto (tgt := 19) dX10_element_11 rfl ?_
  refine j_lret dX10_element_19 rfl ?_
  exact hQ _ _ ⟨rfl, cv⟩
theorem P_element {d : Nat} {M : jk_M} {Z : ZS} (cv : CV M Z) (ok : Zok Z) (s i : Int32) : J Fr_X10_element (d + 2) 0 0 0 [(0, .ref 0), (1, .int s), (2, .int i)] [] M (jk_ex (some (.long (elemZ Z s i).1)) (fun M1 => CV M1 (elemZ Z s i).2)) := by
  by_cases h : 0 ≤ s ∧ s < 8
  · obtain ⟨k, hk, rfl⟩ := s_in h
    rw [elemZ, cif_t (shl_k hk), nI_clamp (by omega)]; exact P_elementY cv ok k hk i
  · rw [elemZ, cif_f h]; exact P_elementN cv ok s i h
set_option maxRecDepth 20000 in
set_option maxHeartbeats 4000000 in
theorem P_holdsY {d : Nat} {M : jk_M} {Z : ZS} (cv : CV M Z) (ok : Zok Z) (k : Nat) (hk : k < 8) : J Fr_X10_holds (d + 1) 0 0 0 [(0, .ref 0), (1, .int (nI k))] [] M (jk_ex (some (.int (((cif (¬ Z.2.2.1 k 0 = -1) (100 + Z.2.2.1 k 0) (Z.2.2.1 k 2) : Int32), Z)).1)) (fun M1 => CV M1 (((cif (¬ Z.2.2.1 k 0 = -1) (100 + Z.2.2.1 k 0) (Z.2.2.1 k 2) : Int32), Z)).2)) := by
  refine j_post (fun Q hQ => ?_)
  have hC := cv.1
  have hS := cv.2.1
  have okS := ok.1
  refine j_aload_n 0 dX10_holds_0 rfl ?_
  refine j_iload_n 1 dX10_holds_1 rfl ?_
  refine j_callV (kc := 0) (ks := 0) (a := 0) (b := 0) (d' := d) (As := [.int (nI k)]) dX10_holds_2 kX10_89 rfl (shC hC sgC_0) (by omega) rfl rfl rfl (Nat.le_of_ble_eq_true rfl) (Nat.le_of_ble_eq_true rfl) (T_shelfAtY hC k (by omega)) (kk_p ?_)
  refine j_astore_n (L' := [(2, .ref (109 + 2 * k)), (0, .ref 0), (1, .int (nI k))]) dX10_holds_5 (by decide) rfl ?_
  refine j_aload_n 0 dX10_holds_6 rfl ?_
  refine j_ifnonnull (tgt := 12) dX10_holds_7 rfl ?_
  refine j_aload_n 0 dX10_holds_12 rfl ?_
  refine j_callV (kc := 0) (ks := 0) (a := 0) (b := 0) (d' := d) (As := []) dX10_holds_13 kX10_140 rfl (shC hC (sgS (by omega))) (by omega) rfl rfl rfl (Nat.le_of_ble_eq_true rfl) (Nat.le_of_ble_eq_true rfl) (K_isRow cv (by omega)) (kk_p ?_)
  refine j_if_eqB (p := (¬ Z.2.2.1 k 0 = -1)) (tgt := 29) dX10_holds_16 rfl (fun c1 => ?_) (fun c1 => ?_)
  · refine j_aload_n 0 dX10_holds_29 rfl ?_
    refine j_getv (Z.2.2.1 k 2) dX10_holds_30 fX10_147 (shC hC (sgS (by omega))) rfl (CV.sf cv (by omega) (by decide)) ?_
    refine j_iret dX10_holds_33 rfl ?_
    exact hQ _ _ ⟨by rw [cif_f c1], cv⟩
  · refine j_bipush 100 dX10_holds_19 bp_100 ?_
    refine j_aload_n 0 dX10_holds_21 rfl ?_
    refine j_getv (Z.2.2.1 k 0) dX10_holds_22 fX10_144 (shC hC (sgS (by omega))) rfl (CV.sf cv (by omega) (by decide)) ?_
    refine j_iadd dX10_holds_25 ?_
    refine j_goto (tgt := 33) dX10_holds_26 rfl ?_
    refine j_iret dX10_holds_33 rfl ?_
    exact hQ _ _ ⟨by rw [cif_t c1], cv⟩
set_option maxRecDepth 20000 in
set_option maxHeartbeats 4000000 in
theorem P_holdsN {d : Nat} {M : jk_M} {Z : ZS} (cv : CV M Z) (ok : Zok Z) (s : Int32) (hs : ¬ (0 ≤ s ∧ s < 8)) : J Fr_X10_holds (d + 1) 0 0 0 [(0, .ref 0), (1, .int s)] [] M (jk_ex (some (.int (((-1 : Int32), Z)).1)) (fun M1 => CV M1 (((-1 : Int32), Z)).2)) := by
  refine j_post (fun Q hQ => ?_)
  have hC := cv.1
  have hS := cv.2.1
  have okS := ok.1
  refine j_aload_n 0 dX10_holds_0 rfl ?_
  refine j_iload_n 1 dX10_holds_1 rfl ?_
  refine j_callV (kc := 0) (ks := 0) (a := 0) (b := 0) (d' := d) (As := [.int s]) dX10_holds_2 kX10_89 rfl (shC hC sgC_0) (by omega) rfl rfl rfl (Nat.le_of_ble_eq_true rfl) (Nat.le_of_ble_eq_true rfl) (T_shelfAtN hC s (by assumption)) (kk_p ?_)
  refine j_astore_nN (L' := [(2, .null), (0, .ref 0), (1, .int s)]) dX10_holds_5 (by decide) rfl ?_
  refine j_aload_nN 0 dX10_holds_6 rfl ?_
  refine j_ifnonnullN dX10_holds_7 ?_
  refine j_iconst (-1) dX10_holds_10 ic_n1 ?_
  refine j_iret dX10_holds_11 rfl ?_
  exact hQ _ _ ⟨rfl, cv⟩
theorem P_holds {d : Nat} {M : jk_M} {Z : ZS} (cv : CV M Z) (ok : Zok Z) (s : Int32) : J Fr_X10_holds (d + 1) 0 0 0 [(0, .ref 0), (1, .int s)] [] M (jk_ex (some (.int (holdsZ Z s).1)) (fun M1 => CV M1 (holdsZ Z s).2)) := by
  by_cases h : 0 ≤ s ∧ s < 8
  · obtain ⟨k, hk, rfl⟩ := s_in h
    rw [holdsZ, cif_t (shl_k hk), nI_clamp (by omega)]; exact P_holdsY cv ok k hk
  · rw [holdsZ, cif_f h]; exact P_holdsN cv ok s h
set_option maxRecDepth 20000 in
set_option maxHeartbeats 4000000 in
theorem P_show0 {d : Nat} {M : jk_M} {Z : ZS} (cv : CV M Z) (ok : Zok Z) (k : Nat) (hk : k < 8) : J Fr_X10_show (d + 2) 0 0 0 [(0, .ref 0), (1, .int (nI k)), (2, .int (-1))] [] M (jk_ex (some (.int (showK Z (-1) k).1)) (fun M1 => CV M1 (showK Z (-1) k).2)) := by
  refine j_post (fun Q hQ => ?_)
  have hC := cv.1
  have hS := cv.2.1
  have okS := ok.1
  refine j_aload_n 0 dX10_show_0 rfl ?_
  refine j_iload_n 1 dX10_show_1 rfl ?_
  refine j_callV (kc := 0) (ks := 0) (a := 0) (b := 0) (d' := d) (As := [.int (nI k)]) dX10_show_2 kX10_89 rfl (shC hC sgC_0) (by omega) rfl rfl rfl (Nat.le_of_ble_eq_true rfl) (Nat.le_of_ble_eq_true rfl) (T_shelfAtY hC k (by omega)) (kk_p ?_)
  refine j_astore_n (L' := [(3, .ref (109 + 2 * k)), (0, .ref 0), (1, .int (nI k)), (2, .int (-1))]) dX10_show_5 (by decide) rfl ?_
  refine j_aload_n 0 dX10_show_6 rfl ?_
  refine j_ifnull dX10_show_7 ?_
  refine j_iload_n 3 dX10_show_10 rfl ?_
  refine j_iconst (-1) dX10_show_11 ic_n1 ?_
  refine j_icmp_eq (tgt := 32) dX10_show_12 rfl (fun c1 => ?_) (fun c1 => ?_)
  · refine j_iload_n 3 dX10_show_32 rfl ?_
    refine j_iconst (-1) dX10_show_33 ic_n1 ?_
    refine j_icmp_ne (tgt := 43) dX10_show_34 rfl (fun c2 => ?_) (fun c2 => ?_)
    · exact absurd c2 (by decide)
    · refine j_aload_n 0 dX10_show_37 rfl ?_
      refine j_callV (kc := 0) (ks := 0) (a := 0) (b := 0) (d' := d) (As := []) dX10_show_38 kX10_133 rfl (shC hC (sgS (by omega))) (by omega) rfl rfl rfl (Nat.le_of_ble_eq_true rfl) (Nat.le_of_ble_eq_true rfl) (T_X8_clear hC (isS.s (by omega))) (kk_pv ?_)
      refine j_iconst 0 dX10_show_41 ic_0 ?_
      refine j_iret dX10_show_42 rfl ?_
      have hz : showK Z (-1) k = (0, (shZ Z k (g3 (-1) 0 (-1)) (Z.2.2.2.1 k))) := by
        clear hQ
        clear cv hC hS
        grind [showK, cif]
      refine hQ _ _ ⟨by rw [hz], ?_⟩
      rw [hz]
      refine CV.sh cv ok hk (Sg.w (Sg.w (Sg.w Sg.rf rfl) rfl) rfl) (fun j hj => ?_) (fun i hi => cv.el hk hi)
      have hj3 : j = 0 ∨ j = 1 ∨ j = 2 := by omega
      rcases hj3 with rfl | rfl | rfl
      · exact (rd_k (by decide)).trans ((rd_k (by decide)).trans rd_s)
      · exact (rd_k (by decide)).trans rd_s
      · exact rd_s
  · exact absurd c1 (by decide)
set_option maxRecDepth 20000 in
set_option maxHeartbeats 4000000 in
theorem P_show1 {d : Nat} {M : jk_M} {Z : ZS} (cv : CV M Z) (ok : Zok Z) (k : Nat) (hk : k < 8) (i : Nat) (hi : i < nT Z.1) : J Fr_X10_show (d + 2) 0 0 0 [(0, .ref 0), (1, .int (nI k)), (2, .int (nI i))] [] M (jk_ex (some (.int (showK Z (nI i) k).1)) (fun M1 => CV M1 (showK Z (nI i) k).2)) := by
  refine j_post (fun Q hQ => ?_)
  have hC := cv.1
  have hS := cv.2.1
  have okS := ok.1
  have hT := (Sok.T okS).2
  have hin := i_ok hi (show nT Z.1 < 2 ^ 31 by omega)
  have hn1 : ¬ nI i = -1 := fun z => absurd (z ▸ hin.1) (by decide)
  refine j_aload_n 0 dX10_show_0 rfl ?_
  refine j_iload_n 1 dX10_show_1 rfl ?_
  refine j_callV (kc := 0) (ks := 0) (a := 0) (b := 0) (d' := d) (As := [.int (nI k)]) dX10_show_2 kX10_89 rfl (shC hC sgC_0) (by omega) rfl rfl rfl (Nat.le_of_ble_eq_true rfl) (Nat.le_of_ble_eq_true rfl) (T_shelfAtY hC k (by omega)) (kk_p ?_)
  refine j_astore_n (L' := [(3, .ref (109 + 2 * k)), (0, .ref 0), (1, .int (nI k)), (2, .int (nI i))]) dX10_show_5 (by decide) rfl ?_
  refine j_aload_n 0 dX10_show_6 rfl ?_
  refine j_ifnull dX10_show_7 ?_
  refine j_iload_n 3 dX10_show_10 rfl ?_
  refine j_iconst (-1) dX10_show_11 ic_n1 ?_
  refine j_icmp_eq (tgt := 32) dX10_show_12 rfl (fun c1 => ?_) (fun c1 => ?_)
  · exact absurd c1 hn1
  · refine j_aload_n 1 dX10_show_15 rfl ?_
    refine j_getr (q := 1) dX10_show_16 fX10_10 (shC hC sgC_0) rfl (rfC hC rfC_0_0 (nz (by decide))) ?_
    refine j_iload_n 3 dX10_show_19 rfl ?_
    refine j_callV (kc := 0) (ks := 0) (a := 0) (b := 0) (d' := d) (As := [.int (nI i)]) dX10_show_20 kX10_129 rfl (shC hC (sgH (by simp [isH]))) (by omega) rfl rfl rfl (Nat.le_of_ble_eq_true rfl) (Nat.le_of_ble_eq_true rfl) (T_X2_thingAt hC (by simp [isH]) hS okS i (by omega)) (kk_p ?_)
    refine j_ifnonnull (tgt := 32) dX10_show_23 rfl ?_
    refine j_iload_n 3 dX10_show_32 rfl ?_
    refine j_iconst (-1) dX10_show_33 ic_n1 ?_
    refine j_icmp_ne (tgt := 43) dX10_show_34 rfl (fun c2 => ?_) (fun c2 => ?_)
    · refine j_aload_n 0 dX10_show_43 rfl ?_
      refine j_iload_n 3 dX10_show_44 rfl ?_
      refine j_callV (kc := 0) (ks := 0) (a := 0) (b := 0) (d' := (d + 1)) (As := [.int (nI i)]) dX10_show_45 kX10_136 rfl (shC hC (sgS (by omega))) (by omega) rfl rfl rfl (Nat.le_of_ble_eq_true rfl) (Nat.le_of_ble_eq_true rfl) (T_X8_point hC (isS.s (by omega)) (nI i)) (kk_pv ?_)
      refine j_iconst 1 dX10_show_48 ic_1 ?_
      refine j_iret dX10_show_49 rfl ?_
      have hz : showK Z (nI i) k = (1, (shZ Z k (g3 (-1) 0 (nI i)) (Z.2.2.2.1 k))) := by
        clear hQ
        clear cv hC hS
        grind [showK, cif]
      refine hQ _ _ ⟨by rw [hz], ?_⟩
      rw [hz]
      refine CV.sh cv ok hk (Sg.w (Sg.w (Sg.w (Sg.w Sg.rf rfl) rfl) rfl) rfl) (fun j hj => ?_) (fun i hi => cv.el hk hi)
      have hj3 : j = 0 ∨ j = 1 ∨ j = 2 := by omega
      rcases hj3 with rfl | rfl | rfl
      · exact (rd_k (by decide)).trans ((rd_k (by decide)).trans ((rd_k (by decide)).trans rd_s))
      · exact (rd_k (by decide)).trans ((rd_k (by decide)).trans rd_s)
      · exact rd_s
    · exact absurd c2 hn1
set_option maxRecDepth 20000 in
set_option maxHeartbeats 4000000 in
theorem P_show2 {d : Nat} {M : jk_M} {Z : ZS} (cv : CV M Z) (ok : Zok Z) (k : Nat) (hk : k < 8) (t : Int32) (h1 : ¬ t = -1) (hx : ¬ (0 ≤ t ∧ t < nI (nT Z.1))) : J Fr_X10_show (d + 2) 0 0 0 [(0, .ref 0), (1, .int (nI k)), (2, .int t)] [] M (jk_ex (some (.int (showK Z t k).1)) (fun M1 => CV M1 (showK Z t k).2)) := by
  refine j_post (fun Q hQ => ?_)
  have hC := cv.1
  have hS := cv.2.1
  have okS := ok.1
  refine j_aload_n 0 dX10_show_0 rfl ?_
  refine j_iload_n 1 dX10_show_1 rfl ?_
  refine j_callV (kc := 0) (ks := 0) (a := 0) (b := 0) (d' := d) (As := [.int (nI k)]) dX10_show_2 kX10_89 rfl (shC hC sgC_0) (by omega) rfl rfl rfl (Nat.le_of_ble_eq_true rfl) (Nat.le_of_ble_eq_true rfl) (T_shelfAtY hC k (by omega)) (kk_p ?_)
  refine j_astore_n (L' := [(3, .ref (109 + 2 * k)), (0, .ref 0), (1, .int (nI k)), (2, .int t)]) dX10_show_5 (by decide) rfl ?_
  refine j_aload_n 0 dX10_show_6 rfl ?_
  refine j_ifnull dX10_show_7 ?_
  refine j_iload_n 3 dX10_show_10 rfl ?_
  refine j_iconst (-1) dX10_show_11 ic_n1 ?_
  refine j_icmp_eq (tgt := 32) dX10_show_12 rfl (fun c1 => ?_) (fun c1 => ?_)
  · exact absurd c1 h1
  · refine j_aload_n 1 dX10_show_15 rfl ?_
    refine j_getr (q := 1) dX10_show_16 fX10_10 (shC hC sgC_0) rfl (rfC hC rfC_0_0 (nz (by decide))) ?_
    refine j_iload_n 3 dX10_show_19 rfl ?_
    refine j_callV (kc := 0) (ks := 0) (a := 0) (b := 0) (d' := d) (As := [.int t]) dX10_show_20 kX10_129 rfl (shC hC (sgH (by simp [isH]))) (by omega) rfl rfl rfl (Nat.le_of_ble_eq_true rfl) (Nat.le_of_ble_eq_true rfl) (T_X2_thingAtN hC (by simp [isH]) hS okS t (by assumption)) (kk_p ?_)
    refine j_ifnonnullN dX10_show_23 ?_
    refine j_aload_n 1 dX10_show_26 rfl ?_
    refine j_iconst (-1) dX10_show_27 ic_n1 ?_
    refine j_callV (kc := 0) (ks := 0) (a := 0) (b := 0) (d' := d) (As := [.int (-1)]) dX10_show_28 kX10_93 rfl (shC hC sgC_0) (by omega) rfl rfl rfl (Nat.le_of_ble_eq_true rfl) (Nat.le_of_ble_eq_true rfl) (T_X10_refuse hC (-1)) (kk_p ?_)
    refine j_iret dX10_show_31 rfl ?_
    have hz : showK Z t k = ((-1), (refZ Z (-1))) := by
      clear hQ
      clear cv hC hS
      grind [showK, cif]
    exact hQ _ _ ⟨by rw [hz], by rw [hz]; exact CV.rf cv ok (-1)⟩
set_option maxRecDepth 20000 in
set_option maxHeartbeats 4000000 in
theorem P_showN {d : Nat} {M : jk_M} {Z : ZS} (cv : CV M Z) (ok : Zok Z) (s t : Int32) (hs : ¬ (0 ≤ s ∧ s < 8)) : J Fr_X10_show (d + 2) 0 0 0 [(0, .ref 0), (1, .int s), (2, .int t)] [] M (jk_ex (some (.int (((-1 : Int32), refZ Z (-1))).1)) (fun M1 => CV M1 (((-1 : Int32), refZ Z (-1))).2)) := by
  refine j_post (fun Q hQ => ?_)
  have hC := cv.1
  have hS := cv.2.1
  have okS := ok.1
  refine j_aload_n 0 dX10_show_0 rfl ?_
  refine j_iload_n 1 dX10_show_1 rfl ?_
  refine j_callV (kc := 0) (ks := 0) (a := 0) (b := 0) (d' := d) (As := [.int s]) dX10_show_2 kX10_89 rfl (shC hC sgC_0) (by omega) rfl rfl rfl (Nat.le_of_ble_eq_true rfl) (Nat.le_of_ble_eq_true rfl) (T_shelfAtN hC s (by assumption)) (kk_p ?_)
  refine j_astore_nN (L' := [(3, .null), (0, .ref 0), (1, .int s), (2, .int t)]) dX10_show_5 (by decide) rfl ?_
  refine j_aload_nN 0 dX10_show_6 rfl ?_
  refine j_ifnullN (tgt := 26) dX10_show_7 rfl ?_
  refine j_aload_n 1 dX10_show_26 rfl ?_
  refine j_iconst (-1) dX10_show_27 ic_n1 ?_
  refine j_callV (kc := 0) (ks := 0) (a := 0) (b := 0) (d' := d) (As := [.int (-1)]) dX10_show_28 kX10_93 rfl (shC hC sgC_0) (by omega) rfl rfl rfl (Nat.le_of_ble_eq_true rfl) (Nat.le_of_ble_eq_true rfl) (T_X10_refuse hC (-1)) (kk_p ?_)
  refine j_iret dX10_show_31 rfl ?_
  exact hQ _ _ ⟨rfl, CV.rf cv ok (-1)⟩
theorem P_show {d : Nat} {M : jk_M} {Z : ZS} (cv : CV M Z) (ok : Zok Z) (s t : Int32) : J Fr_X10_show (d + 2) 0 0 0 [(0, .ref 0), (1, .int s), (2, .int t)] [] M (jk_ex (some (.int (showZ Z s t).1)) (fun M1 => CV M1 (showZ Z s t).2)) := by
  by_cases h : 0 ≤ s ∧ s < 8
  · obtain ⟨k, hk, rfl⟩ := s_in h
    rw [showZ, inS_y hk]
    by_cases h1 : t = -1
    · subst h1; exact P_show0 cv ok k hk
    · by_cases h2 : 0 ≤ t ∧ t < nI (nT Z.1)
      · obtain ⟨i, hi, rfl⟩ := i_in (by have := (Sok.T ok.1).2; omega) h2
        exact P_show1 cv ok k hk i hi
      · exact P_show2 cv ok k hk t h1 h2
  · rw [showZ, inS_n h]; exact P_showN cv ok s t h
set_option maxRecDepth 20000 in
set_option maxHeartbeats 4000000 in
theorem P_says1 {d : Nat} {M : jk_M} {Z : ZS} (cv : CV M Z) (ok : Zok Z) (k : Nat) (hk : k < 8) (q : Int32) (i : Nat) (hi : i < nT Z.1) (hp : Z.2.2.1 k 2 = nI i) : J Fr_X10_says (d + 2) 0 0 0 [(0, .ref 0), (1, .int (nI k)), (2, .int q)] [] M (jk_ex (some (.int (saysK Z q k).1)) (fun M1 => CV M1 (saysK Z q k).2)) := by
  refine j_post (fun Q hQ => ?_)
  have hC := cv.1
  have hS := cv.2.1
  have okS := ok.1
  have hT := (Sok.T okS).2
  refine j_aload_n 0 dX10_says_0 rfl ?_
  refine j_iload_n 1 dX10_says_1 rfl ?_
  refine j_callV (kc := 0) (ks := 0) (a := 0) (b := 0) (d' := d) (As := [.int (nI k)]) dX10_says_2 kX10_89 rfl (shC hC sgC_0) (by omega) rfl rfl rfl (Nat.le_of_ble_eq_true rfl) (Nat.le_of_ble_eq_true rfl) (T_shelfAtY hC k (by omega)) (kk_p ?_)
  refine j_astore_n (L' := [(3, .ref (109 + 2 * k)), (0, .ref 0), (1, .int (nI k)), (2, .int q)]) dX10_says_5 (by decide) rfl ?_
  refine j_aload_n 0 dX10_says_6 rfl ?_
  refine j_ifnull dX10_says_7 ?_
  refine j_aload_n 1 dX10_says_10 rfl ?_
  refine j_getr (q := 1) dX10_says_11 fX10_10 (shC hC sgC_0) rfl (rfC hC rfC_0_0 (nz (by decide))) ?_
  refine j_iconst 1 dX10_says_14 ic_1 ?_
  refine j_iload_n 3 dX10_says_15 rfl ?_
  refine j_callV (kc := 0) (ks := 0) (a := 0) (b := 0) (d' := (d + 1)) (As := [.int 1, .int q]) dX10_says_16 kX10_150 rfl (shC hC (sgH (by simp [isH]))) (by omega) rfl rfl rfl (Nat.le_of_ble_eq_true rfl) (Nat.le_of_ble_eq_true rfl) (T_X2_may hC (by simp [isH]) hS okS 1 q) (kk_p ?_)
  refine j_if_neB (p := (mayS Z.1 1 q)) (tgt := 28) dX10_says_19 rfl (fun c1 => ?_) (fun c1 => ?_)
  · refine j_aload_n 0 dX10_says_28 rfl ?_
    refine j_callV (kc := 0) (ks := 0) (a := 0) (b := 0) (d' := d) (As := []) dX10_says_29 kX10_140 rfl (shC hC (sgS (by omega))) (by omega) rfl rfl rfl (Nat.le_of_ble_eq_true rfl) (Nat.le_of_ble_eq_true rfl) (K_isRow cv (by omega)) (kk_p ?_)
    refine j_if_eqB (p := (¬ Z.2.2.1 k 0 = -1)) (tgt := 42) dX10_says_32 rfl (fun c2 => ?_) (fun c2 => ?_)
    · refine j_aload_n 1 dX10_says_42 rfl ?_
      refine j_getr (q := 1) dX10_says_43 fX10_10 (shC hC sgC_0) rfl (rfC hC rfC_0_0 (nz (by decide))) ?_
      refine j_aload_n 0 dX10_says_46 rfl ?_
      refine j_getv (nI i) dX10_says_47 fX10_147 (shC hC (sgS (by omega))) rfl ((CV.sf cv hk (by decide)).trans hp) ?_
      refine j_callV (kc := 0) (ks := 0) (a := 0) (b := 0) (d' := d) (As := [.int (nI i)]) dX10_says_50 kX10_129 rfl (shC hC (sgH (by simp [isH]))) (by omega) rfl rfl rfl (Nat.le_of_ble_eq_true rfl) (Nat.le_of_ble_eq_true rfl) (T_X2_thingAt hC (by simp [isH]) hS okS i (by omega)) (kk_p ?_)
      refine j_astore (L' := [(4, .ref (1 + 5 + i)), (3, .ref (109 + 2 * k)), (0, .ref 0), (1, .int (nI k)), (2, .int q)]) dX10_says_53 (by decide) rfl ?_
      refine j_aload 0 dX10_says_55 rfl ?_
      refine j_ifnonnull (tgt := 67) dX10_says_57 rfl ?_
      refine j_aload 0 dX10_says_67 rfl ?_
      refine j_iload_n 4 dX10_says_69 rfl ?_
      refine j_callV (kc := 0) (ks := 0) (a := 0) (b := 0) (d' := (d + 1)) (As := [.int q]) dX10_says_70 kX10_153 rfl (shC hC (sgHT (by simp [isH]) (by have := (Sok.T okS).2; omega))) (by omega) rfl rfl rfl (Nat.le_of_ble_eq_true rfl) (Nat.le_of_ble_eq_true rfl) (T_X9_isOne hC (sgHT (by simp [isH]) (by have := (Sok.T okS).2; omega)) (hvT hS (by omega) (k := 0) (by decide)) (hvT hS (by omega) (k := 1) (by decide)) (hvT hS (by omega) (k := 3) (by decide)) q) (kk_p ?_)
      refine j_if_neB (p := (oneK (Z.1 10 i) q)) (tgt := 83) dX10_says_73 rfl (fun c3 => ?_) (fun c3 => ?_)
      · refine j_iload_n 4 dX10_says_83 rfl ?_
        by_cases c5 : q = 0
        · refine j_tableIn (tgt := 128) dX10_says_84 (by rw [c5]; decide) (by rw [c5]; decide) (off := 44) (by rw [c5]; decide) rfl ?_
          refine j_aload 0 dX10_says_128 rfl ?_
          refine j_getv (Z.1 12 i) dX10_says_130 fX10_158 (shC hC (sgHT (by simp [isH]) (by have := (Sok.T okS).2; omega))) rfl (hvT hS (by omega) (by decide)) ?_
          refine j_iret dX10_says_133 rfl ?_
          have hz : saysK Z q k = ((Z.1 12 i), Z) := by
            clear hQ
            clear cv hC hS
            have h01 := (okS.th hi).2.2.2
            have hcl := nI_clamp (show i < 2 ^ 31 by omega)
            have hin := i_ok hi (show nT Z.1 < 2 ^ 31 by omega)
            rw [← hp] at hin hcl
            grind [saysK, cif, saysI, inZ, lossT]
          exact hQ _ _ ⟨by rw [hz], by rw [hz]; exact cv⟩
        by_cases c6 : q = 1
        · refine j_tableIn (tgt := 162) dX10_says_84 (by rw [c6]; decide) (by rw [c6]; decide) (off := 78) (by rw [c6]; decide) rfl ?_
          refine j_aload 0 dX10_says_162 rfl ?_
          refine j_callV (kc := 0) (ks := 0) (a := 0) (b := 0) (d' := d) (As := []) dX10_says_164 kX10_171 rfl (shC hC (sgHT (by simp [isH]) (by have := (Sok.T okS).2; omega))) (by omega) rfl rfl rfl (Nat.le_of_ble_eq_true rfl) (Nat.le_of_ble_eq_true rfl) (T_X9_swallows hC (sgHT (by simp [isH]) (by have := (Sok.T okS).2; omega)) (hvT hS (by omega) (k := 0) (by decide)) (hvT hS (by omega) (k := 1) (by decide)) (hvT hS (by omega) (k := 3) (by decide))) (kk_p ?_)
          refine j_iret dX10_says_167 rfl ?_
          have hz : saysK Z q k = ((lossK (Z.1 10 i) (Z.1 11 i) (Z.1 13 i)), Z) := by
            clear hQ
            clear cv hC hS
            have h01 := (okS.th hi).2.2.2
            have hcl := nI_clamp (show i < 2 ^ 31 by omega)
            have hin := i_ok hi (show nT Z.1 < 2 ^ 31 by omega)
            rw [← hp] at hin hcl
            grind [saysK, cif, saysI, inZ, lossT]
          exact hQ _ _ ⟨by rw [hz], by rw [hz]; exact cv⟩
        by_cases c7 : q = 2
        · refine j_tableIn (tgt := 134) dX10_says_84 (by rw [c7]; decide) (by rw [c7]; decide) (off := 50) (by rw [c7]; decide) rfl ?_
          refine j_aload 0 dX10_says_134 rfl ?_
          refine j_getv (Z.1 13 i) dX10_says_136 fX10_161 (shC hC (sgHT (by simp [isH]) (by have := (Sok.T okS).2; omega))) rfl (hvT hS (by omega) (by decide)) ?_
          refine j_if_eq (tgt := 146) dX10_says_139 rfl (fun c8 => ?_) (fun c8 => ?_)
          · refine j_iconst 0 dX10_says_146 ic_0 ?_
            refine j_iret dX10_says_147 rfl ?_
            have hz : saysK Z q k = (0, Z) := by
              clear hQ
              clear cv hC hS
              have h01 := (okS.th hi).2.2.2
              have hcl := nI_clamp (show i < 2 ^ 31 by omega)
              have hin := i_ok hi (show nT Z.1 < 2 ^ 31 by omega)
              rw [← hp] at hin hcl
              grind [saysK, cif, saysI, inZ, lossT]
            exact hQ _ _ ⟨by rw [hz], by rw [hz]; exact cv⟩
          · refine j_iconst 1 dX10_says_142 ic_1 ?_
            refine j_goto (tgt := 147) dX10_says_143 rfl ?_
            refine j_iret dX10_says_147 rfl ?_
            have hz : saysK Z q k = (1, Z) := by
              clear hQ
              clear cv hC hS
              have h01 := (okS.th hi).2.2.2
              have hcl := nI_clamp (show i < 2 ^ 31 by omega)
              have hin := i_ok hi (show nT Z.1 < 2 ^ 31 by omega)
              rw [← hp] at hin hcl
              grind [saysK, cif, saysI, inZ, lossT]
            exact hQ _ _ ⟨by rw [hz], by rw [hz]; exact cv⟩
        by_cases c9 : q = 3
        · refine j_tableIn (tgt := 162) dX10_says_84 (by rw [c9]; decide) (by rw [c9]; decide) (off := 78) (by rw [c9]; decide) rfl ?_
          refine j_aload 0 dX10_says_162 rfl ?_
          refine j_callV (kc := 0) (ks := 0) (a := 0) (b := 0) (d' := d) (As := []) dX10_says_164 kX10_171 rfl (shC hC (sgHT (by simp [isH]) (by have := (Sok.T okS).2; omega))) (by omega) rfl rfl rfl (Nat.le_of_ble_eq_true rfl) (Nat.le_of_ble_eq_true rfl) (T_X9_swallows hC (sgHT (by simp [isH]) (by have := (Sok.T okS).2; omega)) (hvT hS (by omega) (k := 0) (by decide)) (hvT hS (by omega) (k := 1) (by decide)) (hvT hS (by omega) (k := 3) (by decide))) (kk_p ?_)
          refine j_iret dX10_says_167 rfl ?_
          have hz : saysK Z q k = ((lossK (Z.1 10 i) (Z.1 11 i) (Z.1 13 i)), Z) := by
            clear hQ
            clear cv hC hS
            have h01 := (okS.th hi).2.2.2
            have hcl := nI_clamp (show i < 2 ^ 31 by omega)
            have hin := i_ok hi (show nT Z.1 < 2 ^ 31 by omega)
            rw [← hp] at hin hcl
            grind [saysK, cif, saysI, inZ, lossT]
          exact hQ _ _ ⟨by rw [hz], by rw [hz]; exact cv⟩
        by_cases c10 : q = 4
        · refine j_tableIn (tgt := 148) dX10_says_84 (by rw [c10]; decide) (by rw [c10]; decide) (off := 64) (by rw [c10]; decide) rfl ?_
          refine j_aload 0 dX10_says_148 rfl ?_
          refine j_iconst 0 dX10_says_150 ic_0 ?_
          refine j_aload_n 2 dX10_says_151 rfl ?_
          refine j_getr (q := 1) dX10_says_152 fX10_10 (shC hC sgC_0) rfl (rfC hC rfC_0_0 (nz (by decide))) ?_
          refine j_getv (Z.1 3 0) dX10_says_155 fX10_164 (shC hC (sgH (by simp [isH]))) rfl (hvs hS (by decide)) ?_
          refine j_callV (kc := 0) (ks := 0) (a := 0) (b := 0) (d' := d) (As := [.int 0, .int (Z.1 3 0)]) dX10_says_158 kX10_167 rfl (shC hC (sgHT (by simp [isH]) (by have := (Sok.T okS).2; omega))) (by omega) rfl rfl rfl (Nat.le_of_ble_eq_true rfl) (Nat.le_of_ble_eq_true rfl) (T_X9_humsFar hC (sgHT (by simp [isH]) (by have := (Sok.T okS).2; omega)) (hvT hS (by omega) (k := 0) (by decide)) (hvT hS (by omega) (k := 1) (by decide)) (hvT hS (by omega) (k := 3) (by decide)) 0 (Z.1 3 0)) (kk_p ?_)
          refine j_iret dX10_says_161 rfl ?_
          have hz : saysK Z q k = ((humK (Z.1 10 i) (Z.1 11 i) (Z.1 3 0) 0), Z) := by
            clear hQ
            clear cv hC hS
            have h01 := (okS.th hi).2.2.2
            have hcl := nI_clamp (show i < 2 ^ 31 by omega)
            have hin := i_ok hi (show nT Z.1 < 2 ^ 31 by omega)
            rw [← hp] at hin hcl
            grind [saysK, cif, saysI, inZ, lossT]
          exact hQ _ _ ⟨by rw [hz], by rw [hz]; exact cv⟩
        by_cases c11 : q = 5
        · refine j_tableIn (tgt := 162) dX10_says_84 (by rw [c11]; decide) (by rw [c11]; decide) (off := 78) (by rw [c11]; decide) rfl ?_
          refine j_aload 0 dX10_says_162 rfl ?_
          refine j_callV (kc := 0) (ks := 0) (a := 0) (b := 0) (d' := d) (As := []) dX10_says_164 kX10_171 rfl (shC hC (sgHT (by simp [isH]) (by have := (Sok.T okS).2; omega))) (by omega) rfl rfl rfl (Nat.le_of_ble_eq_true rfl) (Nat.le_of_ble_eq_true rfl) (T_X9_swallows hC (sgHT (by simp [isH]) (by have := (Sok.T okS).2; omega)) (hvT hS (by omega) (k := 0) (by decide)) (hvT hS (by omega) (k := 1) (by decide)) (hvT hS (by omega) (k := 3) (by decide))) (kk_p ?_)
          refine j_iret dX10_says_167 rfl ?_
          have hz : saysK Z q k = ((lossK (Z.1 10 i) (Z.1 11 i) (Z.1 13 i)), Z) := by
            clear hQ
            clear cv hC hS
            have h01 := (okS.th hi).2.2.2
            have hcl := nI_clamp (show i < 2 ^ 31 by omega)
            have hin := i_ok hi (show nT Z.1 < 2 ^ 31 by omega)
            rw [← hp] at hin hcl
            grind [saysK, cif, saysI, inZ, lossT]
          exact hQ _ _ ⟨by rw [hz], by rw [hz]; exact cv⟩
        by_cases c12 : q = 6
        · refine j_tableIn (tgt := 148) dX10_says_84 (by rw [c12]; decide) (by rw [c12]; decide) (off := 64) (by rw [c12]; decide) rfl ?_
          refine j_aload 0 dX10_says_148 rfl ?_
          refine j_iconst 0 dX10_says_150 ic_0 ?_
          refine j_aload_n 2 dX10_says_151 rfl ?_
          refine j_getr (q := 1) dX10_says_152 fX10_10 (shC hC sgC_0) rfl (rfC hC rfC_0_0 (nz (by decide))) ?_
          refine j_getv (Z.1 3 0) dX10_says_155 fX10_164 (shC hC (sgH (by simp [isH]))) rfl (hvs hS (by decide)) ?_
          refine j_callV (kc := 0) (ks := 0) (a := 0) (b := 0) (d' := d) (As := [.int 0, .int (Z.1 3 0)]) dX10_says_158 kX10_167 rfl (shC hC (sgHT (by simp [isH]) (by have := (Sok.T okS).2; omega))) (by omega) rfl rfl rfl (Nat.le_of_ble_eq_true rfl) (Nat.le_of_ble_eq_true rfl) (T_X9_humsFar hC (sgHT (by simp [isH]) (by have := (Sok.T okS).2; omega)) (hvT hS (by omega) (k := 0) (by decide)) (hvT hS (by omega) (k := 1) (by decide)) (hvT hS (by omega) (k := 3) (by decide)) 0 (Z.1 3 0)) (kk_p ?_)
          refine j_iret dX10_says_161 rfl ?_
          have hz : saysK Z q k = ((humK (Z.1 10 i) (Z.1 11 i) (Z.1 3 0) 0), Z) := by
            clear hQ
            clear cv hC hS
            have h01 := (okS.th hi).2.2.2
            have hcl := nI_clamp (show i < 2 ^ 31 by omega)
            have hin := i_ok hi (show nT Z.1 < 2 ^ 31 by omega)
            rw [← hp] at hin hcl
            grind [saysK, cif, saysI, inZ, lossT]
          exact hQ _ _ ⟨by rw [hz], by rw [hz]; exact cv⟩
        refine j_tableOut (tgt := 162) dX10_says_84 (by have q0 := lv_neT c5 (a := 0) (by decide); have q1 := lv_neT c6 (a := 1) (by decide); have q2 := lv_neT c7 (a := 2) (by decide); have q3 := lv_neT c9 (a := 3) (by decide); have q4 := lv_neT c10 (a := 4) (by decide); have q5 := lv_neT c11 (a := 5) (by decide); have q6 := lv_neT c12 (a := 6) (by decide); omega) rfl ?_
        refine j_aload 0 dX10_says_162 rfl ?_
        refine j_callV (kc := 0) (ks := 0) (a := 0) (b := 0) (d' := d) (As := []) dX10_says_164 kX10_171 rfl (shC hC (sgHT (by simp [isH]) (by have := (Sok.T okS).2; omega))) (by omega) rfl rfl rfl (Nat.le_of_ble_eq_true rfl) (Nat.le_of_ble_eq_true rfl) (T_X9_swallows hC (sgHT (by simp [isH]) (by have := (Sok.T okS).2; omega)) (hvT hS (by omega) (k := 0) (by decide)) (hvT hS (by omega) (k := 1) (by decide)) (hvT hS (by omega) (k := 3) (by decide))) (kk_p ?_)
        refine j_iret dX10_says_167 rfl ?_
        have hz : saysK Z q k = ((lossK (Z.1 10 i) (Z.1 11 i) (Z.1 13 i)), Z) := by
          clear hQ
          clear cv hC hS
          have h01 := (okS.th hi).2.2.2
          have hcl := nI_clamp (show i < 2 ^ 31 by omega)
          have hin := i_ok hi (show nT Z.1 < 2 ^ 31 by omega)
          rw [← hp] at hin hcl
          grind [saysK, cif, saysI, inZ, lossT]
        exact hQ _ _ ⟨by rw [hz], by rw [hz]; exact cv⟩
      · refine j_aload_n 2 dX10_says_76 rfl ?_
        refine j_bipush (-2) dX10_says_77 bp_n2 ?_
        refine j_callV (kc := 0) (ks := 0) (a := 0) (b := 0) (d' := d) (As := [.int (-2)]) dX10_says_79 kX10_93 rfl (shC hC sgC_0) (by omega) rfl rfl rfl (Nat.le_of_ble_eq_true rfl) (Nat.le_of_ble_eq_true rfl) (T_X10_refuse hC (-2)) (kk_p ?_)
        refine j_iret dX10_says_82 rfl ?_
        have hz : saysK Z q k = ((-2), (refZ Z (-2))) := by
          clear hQ
          clear cv hC hS
          have h01 := (okS.th hi).2.2.2
          have hcl := nI_clamp (show i < 2 ^ 31 by omega)
          have hin := i_ok hi (show nT Z.1 < 2 ^ 31 by omega)
          rw [← hp] at hin hcl
          grind [saysK, cif, saysI, inZ, lossT]
        exact hQ _ _ ⟨by rw [hz], by rw [hz]; exact CV.rf cv ok (-2)⟩
    · refine j_aload_n 1 dX10_says_35 rfl ?_
      refine j_bipush (-2) dX10_says_36 bp_n2 ?_
      refine j_callV (kc := 0) (ks := 0) (a := 0) (b := 0) (d' := d) (As := [.int (-2)]) dX10_says_38 kX10_93 rfl (shC hC sgC_0) (by omega) rfl rfl rfl (Nat.le_of_ble_eq_true rfl) (Nat.le_of_ble_eq_true rfl) (T_X10_refuse hC (-2)) (kk_p ?_)
      refine j_iret dX10_says_41 rfl ?_
      have hz : saysK Z q k = ((-2), (refZ Z (-2))) := by
        clear hQ
        clear cv hC hS
        have h01 := (okS.th hi).2.2.2
        have hcl := nI_clamp (show i < 2 ^ 31 by omega)
        have hin := i_ok hi (show nT Z.1 < 2 ^ 31 by omega)
        rw [← hp] at hin hcl
        grind [saysK, cif, saysI, inZ, lossT]
      exact hQ _ _ ⟨by rw [hz], by rw [hz]; exact CV.rf cv ok (-2)⟩
  · refine j_aload_n 1 dX10_says_22 rfl ?_
    refine j_iconst (-1) dX10_says_23 ic_n1 ?_
    refine j_callV (kc := 0) (ks := 0) (a := 0) (b := 0) (d' := d) (As := [.int (-1)]) dX10_says_24 kX10_93 rfl (shC hC sgC_0) (by omega) rfl rfl rfl (Nat.le_of_ble_eq_true rfl) (Nat.le_of_ble_eq_true rfl) (T_X10_refuse hC (-1)) (kk_p ?_)
    refine j_iret dX10_says_27 rfl ?_
    have hz : saysK Z q k = ((-1), (refZ Z (-1))) := by
      clear hQ
      clear cv hC hS
      have h01 := (okS.th hi).2.2.2
      have hcl := nI_clamp (show i < 2 ^ 31 by omega)
      have hin := i_ok hi (show nT Z.1 < 2 ^ 31 by omega)
      rw [← hp] at hin hcl
      grind [saysK, cif, saysI, inZ, lossT]
    exact hQ _ _ ⟨by rw [hz], by rw [hz]; exact CV.rf cv ok (-1)⟩
set_option maxRecDepth 20000 in
set_option maxHeartbeats 4000000 in
theorem P_says2 {d : Nat} {M : jk_M} {Z : ZS} (cv : CV M Z) (ok : Zok Z) (k : Nat) (hk : k < 8) (q : Int32) (hx : ¬ (0 ≤ Z.2.2.1 k 2 ∧ Z.2.2.1 k 2 < nI (nT Z.1))) : J Fr_X10_says (d + 2) 0 0 0 [(0, .ref 0), (1, .int (nI k)), (2, .int q)] [] M (jk_ex (some (.int (saysK Z q k).1)) (fun M1 => CV M1 (saysK Z q k).2)) := by
  refine j_post (fun Q hQ => ?_)
  have hC := cv.1
  have hS := cv.2.1
  have okS := ok.1
  refine j_aload_n 0 dX10_says_0 rfl ?_
  refine j_iload_n 1 dX10_says_1 rfl ?_
  refine j_callV (kc := 0) (ks := 0) (a := 0) (b := 0) (d' := d) (As := [.int (nI k)]) dX10_says_2 kX10_89 rfl (shC hC sgC_0) (by omega) rfl rfl rfl (Nat.le_of_ble_eq_true rfl) (Nat.le_of_ble_eq_true rfl) (T_shelfAtY hC k (by omega)) (kk_p ?_)
  refine j_astore_n (L' := [(3, .ref (109 + 2 * k)), (0, .ref 0), (1, .int (nI k)), (2, .int q)]) dX10_says_5 (by decide) rfl ?_
  refine j_aload_n 0 dX10_says_6 rfl ?_
  refine j_ifnull dX10_says_7 ?_
  refine j_aload_n 1 dX10_says_10 rfl ?_
  refine j_getr (q := 1) dX10_says_11 fX10_10 (shC hC sgC_0) rfl (rfC hC rfC_0_0 (nz (by decide))) ?_
  refine j_iconst 1 dX10_says_14 ic_1 ?_
  refine j_iload_n 3 dX10_says_15 rfl ?_
  refine j_callV (kc := 0) (ks := 0) (a := 0) (b := 0) (d' := (d + 1)) (As := [.int 1, .int q]) dX10_says_16 kX10_150 rfl (shC hC (sgH (by simp [isH]))) (by omega) rfl rfl rfl (Nat.le_of_ble_eq_true rfl) (Nat.le_of_ble_eq_true rfl) (T_X2_may hC (by simp [isH]) hS okS 1 q) (kk_p ?_)
  refine j_if_neB (p := (mayS Z.1 1 q)) (tgt := 28) dX10_says_19 rfl (fun c1 => ?_) (fun c1 => ?_)
  · refine j_aload_n 0 dX10_says_28 rfl ?_
    refine j_callV (kc := 0) (ks := 0) (a := 0) (b := 0) (d' := d) (As := []) dX10_says_29 kX10_140 rfl (shC hC (sgS (by omega))) (by omega) rfl rfl rfl (Nat.le_of_ble_eq_true rfl) (Nat.le_of_ble_eq_true rfl) (K_isRow cv (by omega)) (kk_p ?_)
    refine j_if_eqB (p := (¬ Z.2.2.1 k 0 = -1)) (tgt := 42) dX10_says_32 rfl (fun c2 => ?_) (fun c2 => ?_)
    · refine j_aload_n 1 dX10_says_42 rfl ?_
      refine j_getr (q := 1) dX10_says_43 fX10_10 (shC hC sgC_0) rfl (rfC hC rfC_0_0 (nz (by decide))) ?_
      refine j_aload_n 0 dX10_says_46 rfl ?_
      refine j_getv (Z.2.2.1 k 2) dX10_says_47 fX10_147 (shC hC (sgS (by omega))) rfl (CV.sf cv (by omega) (by decide)) ?_
      refine j_callV (kc := 0) (ks := 0) (a := 0) (b := 0) (d' := d) (As := [.int (Z.2.2.1 k 2)]) dX10_says_50 kX10_129 rfl (shC hC (sgH (by simp [isH]))) (by omega) rfl rfl rfl (Nat.le_of_ble_eq_true rfl) (Nat.le_of_ble_eq_true rfl) (T_X2_thingAtN hC (by simp [isH]) hS okS (Z.2.2.1 k 2) (by assumption)) (kk_p ?_)
      refine j_astoreN (L' := [(4, .null), (3, .ref (109 + 2 * k)), (0, .ref 0), (1, .int (nI k)), (2, .int q)]) dX10_says_53 (by decide) rfl ?_
      refine j_aloadN 0 dX10_says_55 rfl ?_
      refine j_ifnonnullN dX10_says_57 ?_
      refine j_aload_n 2 dX10_says_60 rfl ?_
      refine j_bipush (-3) dX10_says_61 bp_n3 ?_
      refine j_callV (kc := 0) (ks := 0) (a := 0) (b := 0) (d' := d) (As := [.int (-3)]) dX10_says_63 kX10_93 rfl (shC hC sgC_0) (by omega) rfl rfl rfl (Nat.le_of_ble_eq_true rfl) (Nat.le_of_ble_eq_true rfl) (T_X10_refuse hC (-3)) (kk_p ?_)
      refine j_iret dX10_says_66 rfl ?_
      have hz : saysK Z q k = ((-3), (refZ Z (-3))) := by
        clear hQ
        clear cv hC hS
        grind [saysK, cif, inZ]
      exact hQ _ _ ⟨by rw [hz], by rw [hz]; exact CV.rf cv ok (-3)⟩
    · refine j_aload_n 1 dX10_says_35 rfl ?_
      refine j_bipush (-2) dX10_says_36 bp_n2 ?_
      refine j_callV (kc := 0) (ks := 0) (a := 0) (b := 0) (d' := d) (As := [.int (-2)]) dX10_says_38 kX10_93 rfl (shC hC sgC_0) (by omega) rfl rfl rfl (Nat.le_of_ble_eq_true rfl) (Nat.le_of_ble_eq_true rfl) (T_X10_refuse hC (-2)) (kk_p ?_)
      refine j_iret dX10_says_41 rfl ?_
      have hz : saysK Z q k = ((-2), (refZ Z (-2))) := by
        clear hQ
        clear cv hC hS
        grind [saysK, cif, inZ]
      exact hQ _ _ ⟨by rw [hz], by rw [hz]; exact CV.rf cv ok (-2)⟩
  · refine j_aload_n 1 dX10_says_22 rfl ?_
    refine j_iconst (-1) dX10_says_23 ic_n1 ?_
    refine j_callV (kc := 0) (ks := 0) (a := 0) (b := 0) (d' := d) (As := [.int (-1)]) dX10_says_24 kX10_93 rfl (shC hC sgC_0) (by omega) rfl rfl rfl (Nat.le_of_ble_eq_true rfl) (Nat.le_of_ble_eq_true rfl) (T_X10_refuse hC (-1)) (kk_p ?_)
    refine j_iret dX10_says_27 rfl ?_
    have hz : saysK Z q k = ((-1), (refZ Z (-1))) := by
      clear hQ
      clear cv hC hS
      grind [saysK, cif, inZ]
    exact hQ _ _ ⟨by rw [hz], by rw [hz]; exact CV.rf cv ok (-1)⟩
set_option maxRecDepth 20000 in
set_option maxHeartbeats 4000000 in
theorem P_saysN {d : Nat} {M : jk_M} {Z : ZS} (cv : CV M Z) (ok : Zok Z) (s q : Int32) (hs : ¬ (0 ≤ s ∧ s < 8)) : J Fr_X10_says (d + 2) 0 0 0 [(0, .ref 0), (1, .int s), (2, .int q)] [] M (jk_ex (some (.int (((-1 : Int32), refZ Z (-1))).1)) (fun M1 => CV M1 (((-1 : Int32), refZ Z (-1))).2)) := by
  refine j_post (fun Q hQ => ?_)
  have hC := cv.1
  have hS := cv.2.1
  have okS := ok.1
  refine j_aload_n 0 dX10_says_0 rfl ?_
  refine j_iload_n 1 dX10_says_1 rfl ?_
  refine j_callV (kc := 0) (ks := 0) (a := 0) (b := 0) (d' := d) (As := [.int s]) dX10_says_2 kX10_89 rfl (shC hC sgC_0) (by omega) rfl rfl rfl (Nat.le_of_ble_eq_true rfl) (Nat.le_of_ble_eq_true rfl) (T_shelfAtN hC s (by assumption)) (kk_p ?_)
  refine j_astore_nN (L' := [(3, .null), (0, .ref 0), (1, .int s), (2, .int q)]) dX10_says_5 (by decide) rfl ?_
  refine j_aload_nN 0 dX10_says_6 rfl ?_
  refine j_ifnullN (tgt := 22) dX10_says_7 rfl ?_
  refine j_aload_n 1 dX10_says_22 rfl ?_
  refine j_iconst (-1) dX10_says_23 ic_n1 ?_
  refine j_callV (kc := 0) (ks := 0) (a := 0) (b := 0) (d' := d) (As := [.int (-1)]) dX10_says_24 kX10_93 rfl (shC hC sgC_0) (by omega) rfl rfl rfl (Nat.le_of_ble_eq_true rfl) (Nat.le_of_ble_eq_true rfl) (T_X10_refuse hC (-1)) (kk_p ?_)
  refine j_iret dX10_says_27 rfl ?_
  exact hQ _ _ ⟨rfl, CV.rf cv ok (-1)⟩
theorem P_says {d : Nat} {M : jk_M} {Z : ZS} (cv : CV M Z) (ok : Zok Z) (s q : Int32) : J Fr_X10_says (d + 2) 0 0 0 [(0, .ref 0), (1, .int s), (2, .int q)] [] M (jk_ex (some (.int (saysZ Z s q).1)) (fun M1 => CV M1 (saysZ Z s q).2)) := by
  by_cases h : 0 ≤ s ∧ s < 8
  · obtain ⟨k, hk, rfl⟩ := s_in h
    rw [saysZ, inS_y hk]
    by_cases h2 : 0 ≤ Z.2.2.1 k 2 ∧ Z.2.2.1 k 2 < nI (nT Z.1)
    · obtain ⟨i, hi, e⟩ := i_in (by have := (Sok.T ok.1).2; omega) h2
      exact P_says1 cv ok k hk q i hi e
    · exact P_says2 cv ok k hk q h2
  · rw [saysZ, inS_n h]; exact P_saysN cv ok s q h
