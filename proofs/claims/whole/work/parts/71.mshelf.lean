/-! shelves of the model -/
theorem WM.wI {M : jk_M} {a k : Nat} {x : Int32} (h : WM M) : WM (jk_wI M a k x) := ⟨h.1, h.2⟩
theorem WM.wc {M : jk_M} {a : Nat} {f : Nat → Int64} (h : WM M) : WM (jk_wC M a f) := ⟨h.1, h.2⟩
theorem wC_o {M : jk_M} {a b : Nat} {f : Nat → Int64} (h : b ≠ a) : (jk_wC M a f).2.2.1 b = M.2.2.1 b := jk_up_n _ _ _ _ h
theorem MV.sh {M M1 : jk_M} {Z : ZS} {k : Nat} {g : Nat → Int32} {f : Nat → Int64} (h : MV M Z) (s1 : M1.1 = M.1) (s2 : M1.2.2.2 = M.2.2.2) (si : ∀ q j, ¬ (13 ≤ q ∧ q ≤ 16 ∧ j = k) → M1.2.1 q j = M.2.1 q j) (hsm : shm (M1.2.1 13 k) (M1.2.1 14 k) (M1.2.1 15 k) (M1.2.1 16 k) g) (hl : ∀ s, s < 8 → ∀ i, i < 160 → M1.2.2.1 17 (160 * s + i) = va_up Z.2.2.2.1 k f s i) : MV M1 (shZ Z k g f) := by
  obtain ⟨h1, h2, h3, h4, h5, h6, h7, h8, h9, h10, h11, h12, h13⟩ := h
  have en : ∀ q, ¬ (13 ≤ q ∧ q ≤ 16) → M1.2.1 q = M.2.1 q := fun q hq => by
    funext j; exact si q j (by omega)
  refine ⟨⟨s1.trans h1.1, s2.trans h1.2⟩, mv_same h2 (fun q j hq => si q j (by unfold PH at hq; omega)), fun h => by rw [en 23 (by omega)]; exact h3 h, fun t ht => ?_, hl, fun i hi => by rw [en 1 (by omega)]; exact h6 i hi, ?_, ?_, ?_, fun i hi => by rw [en 31 (by omega)]; exact h10 i hi, ?_, fun i hi => by rw [en 19 (by omega)]; exact h12 i hi, fun i hi => by rw [en 20 (by omega)]; exact h13 i hi⟩
  · show shm _ _ _ _ (va_up Z.2.2.1 k g t)
    by_cases e : t = k
    · subst e; rw [va_up_self]; exact hsm
    · rw [va_up_ne _ _ e, si 13 t (by omega), si 14 t (by omega), si 15 t (by omega), si 16 t (by omega)]; exact h4 t ht
  all_goals (rw [en 0 (by omega)]; assumption)
theorem MV.el {M : jk_M} {Z : ZS} (h : MV M Z) {k : Nat} (hk : k < 8) {i : Nat} (hi : i < 160) : M.2.2.1 17 (160 * k + i) = Z.2.2.2.1 k i := h.2.2.2.2.1 k hk i hi
theorem MV.same {M : jk_M} {Z : ZS} (h : MV M Z) {k : Nat} (hk : k < 8) : ∀ s, s < 8 → ∀ i, i < 160 → M.2.2.1 17 (160 * s + i) = va_up Z.2.2.2.1 k (Z.2.2.2.1 k) s i := fun s hs i hi => by
  by_cases e : s = k
  · subst e; rw [va_up_self]; exact h.el hs hi
  · rw [va_up_ne _ _ e]; exact h.el hs hi
theorem MV.set {M : jk_M} {Z : ZS} (cv : MV M Z) {k j : Nat} (hk : k < 8) (hj : j < 160) {x w : Int64} (hv : x = w) : MV (jk_wC M 17 (vp_updL (M.2.2.1 17) (nI (160 * k + j)).toNatClampNeg x)) (shZ Z k (Z.2.2.1 k) (vp_updL (Z.2.2.2.1 k) (nI j).toNatClampNeg w)) := by
  subst hv
  refine MV.sh cv rfl rfl (fun q j h => rfl) (cv.2.2.2.1 k hk) (fun s hs i hi => ?_)
  rw [wC_at]
  simp only [vp_updL]
  rw [nI_clamp (by omega), nI_clamp (by omega)]
  by_cases e : s = k
  · subst e
    rw [va_up_self]
    by_cases e2 : i = j
    · subst e2; rw [if_pos rfl]; simp [vp_updL]
    · rw [if_neg (by omega)]; simp only [vp_updL, e2, if_false]; exact cv.el hs hi
  · rw [va_up_ne _ _ e, if_neg (by omega)]; exact cv.el hs hi
theorem run_e {Z : ZS} (ok : Zok Z) {k : Nat} (hk : k < 8) {i n : Int32} (hn : ¬ n < 0) : runK Z k i n = (0 ≤ i ∧ ¬ Z.2.2.1 k 1 - n < i) := by
  obtain ⟨z, hz, e⟩ := ok.sz hk
  obtain ⟨m, hm, rfl⟩ := nI_of hn
  apply propext
  rw [runK, e]
  have ez : (nI z).toInt = z := nI_toInt (by omega)
  have em : (nI m).toInt = m := nI_toInt hm
  have es : (nI z - nI m).toInt = (z : Int) - m := by
    have := Jvm.Kit.i32_sub (x := nI z) (y := nI m) (by rw [ez, em]; omega) (by rw [ez, em]; omega)
    rw [this, ez, em]
  have z0 : (0 : Int32).toInt = 0 := by decide
  constructor
  · rintro ⟨h1, h2, h3⟩
    refine ⟨h1, fun z => h3 ?_⟩
    rw [Int64.lt_iff_toInt_lt, lg_i2l_add, Jvm.Kit.i64_of_i32, ez, em]
    have := Int32.lt_iff_toInt_lt.mp z
    rw [es] at this
    omega
  · rintro ⟨h1, h2⟩
    refine ⟨h1, Int32.not_lt.mp hn, fun z => h2 ?_⟩
    rw [Int64.lt_iff_toInt_lt, lg_i2l_add, Jvm.Kit.i64_of_i32, ez, em] at z
    rw [Int32.lt_iff_toInt_lt, es]
    omega
theorem one_all {k q : Int32} (h : inB k 0 6) : oneK k q ↔ (q = 0 ∨ q = k ∨ (q = 1 ∧ k = 3) ∨ (q = 2 ∧ k = 5) ∨ (q = 4 ∧ k = 6)) := by
  have hj7 : ∀ j, j < 7 → j = 0 ∨ j = 1 ∨ j = 2 ∨ j = 3 ∨ j = 4 ∨ j = 5 ∨ j = 6 := fun j h => by omega
  constructor
  · rintro ⟨j, hj, rfl⟩
    rcases kd7 h with rfl | rfl | rfl | rfl | rfl | rfl | rfl <;> rcases hj7 j hj with rfl | rfl | rfl | rfl | rfl | rfl | rfl <;> decide
  · rintro (rfl | rfl | ⟨rfl, rfl⟩ | ⟨rfl, rfl⟩ | ⟨rfl, rfl⟩)
    · rcases kd7 h with rfl | rfl | rfl | rfl | rfl | rfl | rfl <;> exact ⟨6, by decide, by decide⟩
    · exact ⟨0, by decide, rfl⟩
    · exact ⟨1, by decide, by decide⟩
    · exact ⟨1, by decide, by decide⟩
    · exact ⟨1, by decide, by decide⟩
theorem sfar_c {c : Int32} : sfar c c = 0 := by unfold sfar jabs; simp
theorem shm_g {h s z p : Int32} {g : Nat → Int32} (x : shm h s z p g) : (¬ g 0 = -1 ∧ h = 1 ∧ s = g 0 ∧ z = g 1) ∨ (g 0 = -1 ∧ g 2 = -1 ∧ h = 0) ∨ (g 0 = -1 ∧ ¬ g 2 = -1 ∧ h = 2 ∧ p = g 2) := x
theorem shok0 {n : Nat} {a z p : Int32} (h : Shok n a z p) : (a = -1 → z = 0) ∧ (¬ a = -1 → p = -1) := by
  rcases h with ⟨⟨m, -, hm, e⟩, -, e2⟩ | ⟨e, e2, -⟩
  · exact ⟨fun z => absurd (e.symm.trans z) (nI_n1 (by omega)), fun _ => e2⟩
  · exact ⟨fun _ => e2, fun z => absurd e z⟩
theorem Zok.sh {Z : ZS} (ok : Zok Z) {k : Nat} (hk : k < 8) : Shok (nT Z.1) (Z.2.2.1 k 0) (Z.2.2.1 k 1) (Z.2.2.1 k 2) := ok.2.2.1 k hk
set_option maxRecDepth 20000 in
set_option maxHeartbeats 4000000 in
theorem N_wantedY {d : Nat} {M : jk_M} {Z : ZS} (cv : MV M Z) (ok : Zok Z) (k : Nat) (hk : k < 8) : J Fr_X11_wanted (d + 1) 0 0 0 [(0, .ref 0), (1, .int (nI k))] [] M (jk_ex (some (.int ((rrK Z k, Z)).1)) (fun M1 => MV M1 ((rrK Z k, Z)).2)) := by
  refine j_post (fun Q hQ => ?_)
  have hM := cv.1
  have hS := cv.2.1
  have okS := ok.1
  have h40 := cv.2.2.2.2.2.2.2.2.2.2.1
  have hsk := shl_k hk
  have hsmk := shm_g (cv.2.2.2.1 k hk)
  have hzok := ok.sh hk
  have hzzk := shok0 hzok
  refine j_aload_n 0 dX11_wanted_0 rfl ?_
  refine j_iload_n 1 dX11_wanted_1 rfl ?_
  refine j_callV (kc := 0) (ks := 0) (a := 0) (b := 0) (d' := d) (As := [.int (nI k)]) dX11_wanted_2 kX11_126 rfl (shM hM sgM_0) (by omega) rfl rfl rfl (Nat.le_of_ble_eq_true rfl) (Nat.le_of_ble_eq_true rfl) (T_X11_isShelf (nI k)) (kk_p ?_)
  refine j_if_neB (p := (0 ≤ (nI k) ∧ (nI k) < 8)) (tgt := 12) dX11_wanted_5 rfl (fun c1 => ?_) (fun c1 => ?_)
  · refine j_aload_n 0 dX11_wanted_12 rfl ?_
    refine j_getr (q := 13) dX11_wanted_13 fX11_62 (shM hM sgM_0) rfl (rfM hM rfM_0_21) ?_
    refine j_iload_n 1 dX11_wanted_16 rfl ?_
    refine j_ialdN k dX11_wanted_17 (shM hM sgM_13) (by omega) (by omega) ?_
    refine j_iconst 2 dX11_wanted_18 ic_2 ?_
    refine j_icmp_ne (tgt := 27) dX11_wanted_19 rfl (fun c2 => ?_) (fun c2 => ?_)
    · refine j_aload_n 0 dX11_wanted_27 rfl ?_
      refine j_getr (q := 13) dX11_wanted_28 fX11_62 (shM hM sgM_0) rfl (rfM hM rfM_0_21) ?_
      refine j_iload_n 1 dX11_wanted_31 rfl ?_
      refine j_ialdN k dX11_wanted_32 (shM hM sgM_13) (by omega) (by omega) ?_
      refine j_if_ne (tgt := 41) dX11_wanted_33 rfl (fun c3 => ?_) (fun c3 => ?_)
      · refine j_iconst 0 dX11_wanted_41 ic_0 ?_
        refine j_iret dX11_wanted_42 rfl ?_
        have hz : rrK Z k = 0 := by
          clear hQ cv hM hS
          grind [rrK, rrS]
        exact hQ _ _ ⟨by rw [hz], cv⟩
      · refine j_bipush (-3) dX11_wanted_36 bp_n3 ?_
        refine j_goto (tgt := 42) dX11_wanted_38 rfl ?_
        refine j_iret dX11_wanted_42 rfl ?_
        have hz : rrK Z k = (-3) := by
          clear hQ cv hM hS
          grind [rrK, rrS]
        exact hQ _ _ ⟨by rw [hz], cv⟩
    · refine j_bipush (-2) dX11_wanted_22 bp_n2 ?_
      refine j_goto (tgt := 42) dX11_wanted_24 rfl ?_
      refine j_iret dX11_wanted_42 rfl ?_
      have hz : rrK Z k = (-2) := by
        clear hQ cv hM hS
        grind [rrK, rrS]
      exact hQ _ _ ⟨by rw [hz], cv⟩
  · exact absurd hsk c1
theorem N_wanted {d : Nat} {M : jk_M} {Z : ZS} (cv : MV M Z) (ok : Zok Z) (k : Nat) (hk : k < 8) : J Fr_X11_wanted (d + 1) 0 0 0 [(0, .ref 0), (1, .int (nI k))] [] M (jk_ex (some (.int (rrK Z k))) (fun M1 => MV M1 Z)) := N_wantedY cv ok k hk
set_option maxRecDepth 20000 in
set_option maxHeartbeats 4000000 in
theorem N_rowY {d : Nat} {M : jk_M} {Z : ZS} (cv : MV M Z) (ok : Zok Z) (k : Nat) (hk : k < 8) (a n : Int32) : J Fr_X11_row (d + 1) 0 0 0 [(0, .ref 0), (1, .int (nI k)), (2, .int a), (3, .int n)] [] M (jk_ex (some (.int (rowK Z a n k).1)) (fun M1 => MV M1 (rowK Z a n k).2)) := by
  refine j_post (fun Q hQ => ?_)
  have hM := cv.1
  have hS := cv.2.1
  have okS := ok.1
  have h40 := cv.2.2.2.2.2.2.2.2.2.2.1
  have hsk := shl_k hk
  have hsmk := shm_g (cv.2.2.2.1 k hk)
  have hzok := ok.sh hk
  have hzzk := shok0 hzok
  refine j_aload_n 0 dX11_row_0 rfl ?_
  refine j_iload_n 1 dX11_row_1 rfl ?_
  refine j_callV (kc := 0) (ks := 0) (a := 0) (b := 0) (d' := d) (As := [.int (nI k)]) dX11_row_2 kX11_126 rfl (shM hM sgM_0) (by omega) rfl rfl rfl (Nat.le_of_ble_eq_true rfl) (Nat.le_of_ble_eq_true rfl) (T_X11_isShelf (nI k)) (kk_p ?_)
  refine j_if_neB (p := (0 ≤ (nI k) ∧ (nI k) < 8)) (tgt := 14) dX11_row_5 rfl (fun c1 => ?_) (fun c1 => ?_)
  · refine j_iload_n 3 dX11_row_14 rfl ?_
    refine j_if_ge (tgt := 25) dX11_row_15 rfl (fun c2 => ?_) (fun c2 => ?_)
    · refine j_iload_n 2 dX11_row_25 rfl ?_
      refine j_if_lt (tgt := 34) dX11_row_26 rfl (fun c3 => ?_) (fun c3 => ?_)
      · refine j_aload_n 0 dX11_row_34 rfl ?_
        refine j_bipush (-6) dX11_row_35 bp_n6 ?_
        refine j_callV (kc := 0) (ks := 0) (a := 0) (b := 0) (d' := d) (As := [.int (-6)]) dX11_row_37 kX11_130 rfl (shM hM sgM_0) (by omega) rfl rfl rfl (Nat.le_of_ble_eq_true rfl) (Nat.le_of_ble_eq_true rfl) (T_X11_no hM (-6) (by decide)) (kk_p ?_)
        refine j_iret dX11_row_40 rfl ?_
        have hz : rowK Z a n k = ((-6), (refZ Z (-6))) := by
          clear hQ
          clear cv hM hS ok
          grind [rowK, cif]
        exact hQ _ _ ⟨by rw [hz], by rw [hz]; exact MV.rf cv (by decide)⟩
      · refine j_iload_n 2 dX11_row_29 rfl ?_
        refine j_iconst 3 dX11_row_30 ic_3 ?_
        refine j_icmp_le (tgt := 41) dX11_row_31 rfl (fun c4 => ?_) (fun c4 => ?_)
        · refine j_iload_n 3 dX11_row_41 rfl ?_
          refine j_sipush 160 dX11_row_42 sp_160 ?_
          refine j_icmp_le (tgt := 55) dX11_row_45 rfl (fun c5 => ?_) (fun c5 => ?_)
          · refine j_aload_n 0 dX11_row_55 rfl ?_
            refine j_getr (q := 13) dX11_row_56 fX11_62 (shM hM sgM_0) rfl (rfM hM rfM_0_21) ?_
            refine j_iload_n 1 dX11_row_59 rfl ?_
            refine j_iconst 1 dX11_row_60 ic_1 ?_
            refine j_iastN k dX11_row_61 (shM hM sgM_13) (by omega) (by omega) ?_
            refine j_aload_n 0 dX11_row_62 rfl ?_
            refine j_getr (q := 14) dX11_row_63 fX11_65 (shM (WM.wI hM) sgM_0) rfl (rfM (WM.wI hM) rfM_0_22) ?_
            refine j_iload_n 1 dX11_row_66 rfl ?_
            refine j_iload_n 2 dX11_row_67 rfl ?_
            refine j_iastN k dX11_row_68 (shM (WM.wI hM) sgM_14) (by omega) (by omega) ?_
            refine j_aload_n 0 dX11_row_69 rfl ?_
            refine j_getr (q := 15) dX11_row_70 fX11_68 (shM (WM.wI (WM.wI hM)) sgM_0) rfl (rfM (WM.wI (WM.wI hM)) rfM_0_23) ?_
            refine j_iload_n 1 dX11_row_73 rfl ?_
            refine j_iload_n 3 dX11_row_74 rfl ?_
            refine j_iastN k dX11_row_75 (shM (WM.wI (WM.wI hM)) sgM_15) (by omega) (by omega) ?_
            refine j_iconst 0 dX11_row_76 ic_0 ?_
            refine j_istore (L' := [(4, .int 0), (0, .ref 0), (1, .int (nI k)), (2, .int a), (3, .int n)]) dX11_row_77 (by decide) rfl ?_
            refine j_mem (jk_wC (jk_wI (jk_wI (jk_wI M 13 k 1) 14 k a) 15 k n) 17 (M.2.2.1 17)) (by simp only [jk_wC]; exact wC_self (M := jk_wI (jk_wI (jk_wI M 13 k 1) 14 k a) 15 k n)) ?_
            have lp8 : ∀ (k6 : Nat) (i : Nat) (f : Nat → Int64), 160 - i < k6 → (i ≤ 160) → (∀ j, j < i → f (160 * k + j) = 0) → (∀ q, q < 160 * k ∨ 160 * k + 160 ≤ q → f q = M.2.2.1 17 q) → J Fr_X11_row (d + 1) 0 0 79 [(0, .ref 0), (1, .int (nI k)), (2, .int a), (3, .int n), (4, .int (nI i))] [] (jk_wC (jk_wI (jk_wI (jk_wI M 13 k 1) 14 k a) 15 k n) 17 f) Q := by
              intro k6
              induction k6 with
              | zero => intro i f hk; exact absurd hk (Nat.not_lt_zero _)
              | succ k6 ih7 =>
                intro i f hk6 hi hz0 hk0
                refine j_iload 4 dX11_row_79 rfl ?_
                refine j_sipush 160 dX11_row_81 sp_160 ?_
                refine j_icmp_geN (tgt := 107) i 160 dX11_row_84 rfl (by omega) (by omega) (fun c9 => ?_) (fun c9 => ?_)
                · refine j_iconst 1 dX11_row_107 ic_1 ?_
                  refine j_iret dX11_row_108 rfl ?_
                  have hi160 : i = 160 := by omega
                  have hmv : MV (jk_wC (jk_wI (jk_wI (jk_wI M 13 k 1) 14 k a) 15 k n) 17 f) (shZ Z k (g3 a n (-1)) (fun _ => 0)) := by
                    refine MV.sh cv rfl rfl (fun q j h => ?_) ?_ (fun s hs j hj => ?_)
                    · show (jk_wI (jk_wI (jk_wI M 13 k 1) 14 k a) 15 k n).2.1 q j = _
                      rw [rd_p (by omega), rd_p (by omega), rd_p (by omega)]
                    · refine Or.inl ⟨?_, ?_, ?_, ?_⟩
                      · show ¬ a = -1
                        clear hQ; grind
                      · show (jk_wI (jk_wI (jk_wI M 13 k 1) 14 k a) 15 k n).2.1 13 k = _
                        rw [rd_o (by decide), rd_o (by decide), rd_s]
                      · show (jk_wI (jk_wI (jk_wI M 13 k 1) 14 k a) 15 k n).2.1 14 k = _
                        rw [rd_o (by decide), rd_s]; rfl
                      · show (jk_wI (jk_wI (jk_wI M 13 k 1) 14 k a) 15 k n).2.1 15 k = _
                        rw [rd_s]; rfl
                    · rw [wC_at]
                      by_cases e : s = k
                      · subst e; rw [va_up_self]; exact hz0 j (by omega)
                      · rw [va_up_ne _ _ e, hk0 _ (by omega)]; exact cv.el hs hj
                  have hz : rowK Z a n k = (1, (shZ Z k (g3 a n (-1)) (fun _ => 0))) := by
                    clear hQ
                    clear cv hM hS ok hmv hz0 hk0
                    grind [rowK, cif]
                  exact hQ _ _ ⟨by rw [hz], by rw [hz]; exact hmv⟩
                · refine j_aload_n 0 dX11_row_87 rfl ?_
                  refine j_getr (q := 17) dX11_row_88 fX11_74 (shM (WM.wc (WM.wI (WM.wI (WM.wI hM)))) sgM_0) rfl (rfM (WM.wc (WM.wI (WM.wI (WM.wI hM)))) rfM_0_25) ?_
                  refine j_sipush 160 dX11_row_91 sp_160 ?_
                  refine j_iload_n 1 dX11_row_94 rfl ?_
                  refine j_imulN 160 k dX11_row_95 ?_
                  refine j_iload 4 dX11_row_96 rfl ?_
                  refine j_iaddN (160 * k) i dX11_row_98 ?_
                  refine j_lconst 0 dX11_row_99 (by decide) ?_
                  refine j_last dX11_row_100 rfl (shM (WM.wc (WM.wI (WM.wI (WM.wI hM)))) sgM_17) (vp_in_nI (by omega) (by omega)) ?_
                  refine j_iinc 4 (nI (i + 1)) (L' := [(4, .int (nI (i + 1))), (0, .ref 0), (1, .int (nI k)), (2, .int a), (3, .int n)]) dX11_row_101 rfl (inc1 i) (by decide) rfl ?_
                  refine j_goto (tgt := 79) dX11_row_104 rfl ?_
                  refine j_mem (jk_wC (jk_wI (jk_wI (jk_wI M 13 k 1) 14 k a) 15 k n) 17 (vp_updL f (160 * k + i) 0)) (by rw [wC_at, wC_wC, nI_clamp (by omega)]) ?_
                  exact j_sub (jk_pick [1, 2, 3, 4, 0] rfl) (ih7 (i + 1) (vp_updL f (160 * k + i) 0) (by omega) (by omega) (fun j hj => by
          by_cases e : j = i
          · simp [vp_updL, e]
          · simp only [vp_updL]; rw [if_neg (by omega)]; exact hz0 j (by omega)) (fun q hq => by simp only [vp_updL]; rw [if_neg (by omega)]; exact hk0 q hq))
            exact j_sub (jk_pick [1, 2, 3, 4, 0] rfl) (lp8 _ 0 (M.2.2.1 17) (Nat.lt_succ_self _) (by omega) (fun j hj => absurd hj (Nat.not_lt_zero j)) (fun q _ => rfl))
          · refine j_aload_n 0 dX11_row_48 rfl ?_
            refine j_bipush (-7) dX11_row_49 bp_n7 ?_
            refine j_callV (kc := 0) (ks := 0) (a := 0) (b := 0) (d' := d) (As := [.int (-7)]) dX11_row_51 kX11_130 rfl (shM hM sgM_0) (by omega) rfl rfl rfl (Nat.le_of_ble_eq_true rfl) (Nat.le_of_ble_eq_true rfl) (T_X11_no hM (-7) (by decide)) (kk_p ?_)
            refine j_iret dX11_row_54 rfl ?_
            have hz : rowK Z a n k = ((-7), (refZ Z (-7))) := by
              clear hQ
              clear cv hM hS ok
              grind [rowK, cif]
            exact hQ _ _ ⟨by rw [hz], by rw [hz]; exact MV.rf cv (by decide)⟩
        · refine j_aload_n 0 dX11_row_34 rfl ?_
          refine j_bipush (-6) dX11_row_35 bp_n6 ?_
          refine j_callV (kc := 0) (ks := 0) (a := 0) (b := 0) (d' := d) (As := [.int (-6)]) dX11_row_37 kX11_130 rfl (shM hM sgM_0) (by omega) rfl rfl rfl (Nat.le_of_ble_eq_true rfl) (Nat.le_of_ble_eq_true rfl) (T_X11_no hM (-6) (by decide)) (kk_p ?_)
          refine j_iret dX11_row_40 rfl ?_
          have hz : rowK Z a n k = ((-6), (refZ Z (-6))) := by
            clear hQ
            clear cv hM hS ok
            grind [rowK, cif]
          exact hQ _ _ ⟨by rw [hz], by rw [hz]; exact MV.rf cv (by decide)⟩
    · refine j_aload_n 0 dX11_row_18 rfl ?_
      refine j_bipush (-4) dX11_row_19 bp_n4 ?_
      refine j_callV (kc := 0) (ks := 0) (a := 0) (b := 0) (d' := d) (As := [.int (-4)]) dX11_row_21 kX11_130 rfl (shM hM sgM_0) (by omega) rfl rfl rfl (Nat.le_of_ble_eq_true rfl) (Nat.le_of_ble_eq_true rfl) (T_X11_no hM (-4) (by decide)) (kk_p ?_)
      refine j_iret dX11_row_24 rfl ?_
      have hz : rowK Z a n k = ((-4), (refZ Z (-4))) := by
        clear hQ
        clear cv hM hS ok
        grind [rowK, cif]
      exact hQ _ _ ⟨by rw [hz], by rw [hz]; exact MV.rf cv (by decide)⟩
  · exact absurd hsk c1
set_option maxRecDepth 20000 in
set_option maxHeartbeats 4000000 in
theorem N_rowNo {d : Nat} {M : jk_M} {Z : ZS} (cv : MV M Z) (ok : Zok Z) (s : Int32) (a : Int32) (n : Int32) (hs : ¬ (0 ≤ s ∧ s < 8)) : J Fr_X11_row (d + 1) 0 0 0 [(0, .ref 0), (1, .int s), (2, .int a), (3, .int n)] [] M (jk_ex (some (.int ((((-1) : Int32), refZ Z (-1))).1)) (fun M1 => MV M1 ((((-1) : Int32), refZ Z (-1))).2)) := by
  refine j_post (fun Q hQ => ?_)
  have hM := cv.1
  have hS := cv.2.1
  have okS := ok.1
  have h40 := cv.2.2.2.2.2.2.2.2.2.2.1
  refine j_aload_n 0 dX11_row_0 rfl ?_
  refine j_iload_n 1 dX11_row_1 rfl ?_
  refine j_callV (kc := 0) (ks := 0) (a := 0) (b := 0) (d' := d) (As := [.int s]) dX11_row_2 kX11_126 rfl (shM hM sgM_0) (by omega) rfl rfl rfl (Nat.le_of_ble_eq_true rfl) (Nat.le_of_ble_eq_true rfl) (T_X11_isShelf s) (kk_p ?_)
  refine j_if_neB (p := (0 ≤ s ∧ s < 8)) (tgt := 14) dX11_row_5 rfl (fun c1 => ?_) (fun c1 => ?_)
  · exact absurd c1 hs
  · refine j_aload_n 0 dX11_row_8 rfl ?_
    refine j_iconst (-1) dX11_row_9 ic_n1 ?_
    refine j_callV (kc := 0) (ks := 0) (a := 0) (b := 0) (d' := d) (As := [.int (-1)]) dX11_row_10 kX11_130 rfl (shM hM sgM_0) (by omega) rfl rfl rfl (Nat.le_of_ble_eq_true rfl) (Nat.le_of_ble_eq_true rfl) (T_X11_no hM (-1) (by decide)) (kk_p ?_)
    refine j_iret dX11_row_13 rfl ?_
    exact hQ _ _ ⟨rfl, MV.rf cv (by decide)⟩
theorem N_row {d : Nat} {M : jk_M} {Z : ZS} (cv : MV M Z) (ok : Zok Z) (s a n : Int32) : J Fr_X11_row (d + 1) 0 0 0 [(0, .ref 0), (1, .int s), (2, .int a), (3, .int n)] [] M (jk_ex (some (.int (rowZ Z s a n).1)) (fun M1 => MV M1 (rowZ Z s a n).2)) := by
  by_cases h : 0 ≤ s ∧ s < 8
  · obtain ⟨k, hk, rfl⟩ := s_in h
    rw [rowZ, inS_y hk]; exact N_rowY cv ok k hk a n
  · rw [rowZ, inS_n h]; exact N_rowNo cv ok s a n h
theorem sz160 {n : Nat} {a z p i : Int32} (h : Shok n a z p) (hi : i < z) : i < 160 := by
  rcases h with ⟨-, ⟨m, -, hm, rfl⟩, -⟩ | ⟨-, rfl, -⟩
  · have : nI m ≤ nI 160 := nI_le hm (by decide)
    rw [n160] at this
    exact Int32.lt_of_lt_of_le hi this
  · grind
set_option maxRecDepth 20000 in
set_option maxHeartbeats 4000000 in
theorem N_set0 {d : Nat} {M : jk_M} {Z : ZS} (cv : MV M Z) (ok : Zok Z) (k : Nat) (hk : k < 8) (i : Int32) (v : Int64) (h0 : ¬ (rrK Z k = 0 ∧ hasK Z k i)) : J Fr_X11_set (d + 1) 0 0 0 [(0, .ref 0), (1, .int (nI k)), (2, .int i), (3, .long v)] [] M (jk_ex (some (.int (setK Z i v k).1)) (fun M1 => MV M1 (setK Z i v k).2)) := by
  refine j_post (fun Q hQ => ?_)
  have hM := cv.1
  have hS := cv.2.1
  have okS := ok.1
  have h40 := cv.2.2.2.2.2.2.2.2.2.2.1
  have hsk := shl_k hk
  have hsmk := shm_g (cv.2.2.2.1 k hk)
  have hzok := ok.sh hk
  have hzzk := shok0 hzok
  refine j_aload_n 0 dX11_set_0 rfl ?_
  refine j_iload_n 1 dX11_set_1 rfl ?_
  refine j_callV (kc := 0) (ks := 0) (a := 0) (b := 0) (d' := d) (As := [.int (nI k)]) dX11_set_2 kX11_126 rfl (shM hM sgM_0) (by omega) rfl rfl rfl (Nat.le_of_ble_eq_true rfl) (Nat.le_of_ble_eq_true rfl) (T_X11_isShelf (nI k)) (kk_p ?_)
  refine j_if_neB (p := (0 ≤ (nI k) ∧ (nI k) < 8)) (tgt := 14) dX11_set_5 rfl (fun c1 => ?_) (fun c1 => ?_)
  · refine j_aload_n 0 dX11_set_14 rfl ?_
    refine j_getr (q := 13) dX11_set_15 fX11_62 (shM hM sgM_0) rfl (rfM hM rfM_0_21) ?_
    refine j_iload_n 1 dX11_set_18 rfl ?_
    refine j_ialdN k dX11_set_19 (shM hM sgM_13) (by omega) (by omega) ?_
    refine j_iconst 2 dX11_set_20 ic_2 ?_
    refine j_icmp_ne (tgt := 31) dX11_set_21 rfl (fun c2 => ?_) (fun c2 => ?_)
    · refine j_aload_n 0 dX11_set_31 rfl ?_
      refine j_getr (q := 13) dX11_set_32 fX11_62 (shM hM sgM_0) rfl (rfM hM rfM_0_21) ?_
      refine j_iload_n 1 dX11_set_35 rfl ?_
      refine j_ialdN k dX11_set_36 (shM hM sgM_13) (by omega) (by omega) ?_
      refine j_if_ne (tgt := 47) dX11_set_37 rfl (fun c3 => ?_) (fun c3 => ?_)
      · refine j_iload_n 2 dX11_set_47 rfl ?_
        refine j_if_lt (tgt := 61) dX11_set_48 rfl (fun c4 => ?_) (fun c4 => ?_)
        · refine j_aload_n 0 dX11_set_61 rfl ?_
          refine j_bipush (-5) dX11_set_62 bp_n5 ?_
          refine j_callV (kc := 0) (ks := 0) (a := 0) (b := 0) (d' := d) (As := [.int (-5)]) dX11_set_64 kX11_130 rfl (shM hM sgM_0) (by omega) rfl rfl rfl (Nat.le_of_ble_eq_true rfl) (Nat.le_of_ble_eq_true rfl) (T_X11_no hM (-5) (by decide)) (kk_p ?_)
          refine j_iret dX11_set_67 rfl ?_
          have hz : setK Z i v k = ((-5), (refZ Z (-5))) := by
            clear hQ
            clear cv hM hS ok
            grind [setK, cif, rrK, rrS, hasK]
          exact hQ _ _ ⟨by rw [hz], by rw [hz]; exact MV.rf cv (by decide)⟩
        · refine j_iload_n 2 dX11_set_51 rfl ?_
          refine j_aload_n 0 dX11_set_52 rfl ?_
          refine j_getr (q := 15) dX11_set_53 fX11_68 (shM hM sgM_0) rfl (rfM hM rfM_0_23) ?_
          refine j_iload_n 1 dX11_set_56 rfl ?_
          refine j_ialdN k dX11_set_57 (shM hM sgM_15) (by omega) (by omega) ?_
          refine j_icmp_lt (tgt := 68) dX11_set_58 rfl (fun c5 => ?_) (fun c5 => ?_)
          · exact absurd (by have hsz := sz160 (i := i) hzok; clear hQ cv hM hS ok; grind [rrK, rrS, hasK]) h0
          · refine j_aload_n 0 dX11_set_61 rfl ?_
            refine j_bipush (-5) dX11_set_62 bp_n5 ?_
            refine j_callV (kc := 0) (ks := 0) (a := 0) (b := 0) (d' := d) (As := [.int (-5)]) dX11_set_64 kX11_130 rfl (shM hM sgM_0) (by omega) rfl rfl rfl (Nat.le_of_ble_eq_true rfl) (Nat.le_of_ble_eq_true rfl) (T_X11_no hM (-5) (by decide)) (kk_p ?_)
            refine j_iret dX11_set_67 rfl ?_
            have hz : setK Z i v k = ((-5), (refZ Z (-5))) := by
              clear hQ
              clear cv hM hS ok
              grind [setK, cif, rrK, rrS, hasK]
            exact hQ _ _ ⟨by rw [hz], by rw [hz]; exact MV.rf cv (by decide)⟩
      · refine j_aload_n 0 dX11_set_40 rfl ?_
        refine j_bipush (-3) dX11_set_41 bp_n3 ?_
        refine j_callV (kc := 0) (ks := 0) (a := 0) (b := 0) (d' := d) (As := [.int (-3)]) dX11_set_43 kX11_130 rfl (shM hM sgM_0) (by omega) rfl rfl rfl (Nat.le_of_ble_eq_true rfl) (Nat.le_of_ble_eq_true rfl) (T_X11_no hM (-3) (by decide)) (kk_p ?_)
        refine j_iret dX11_set_46 rfl ?_
        have hz : setK Z i v k = ((-3), (refZ Z (-3))) := by
          clear hQ
          clear cv hM hS ok
          grind [setK, cif, rrK, rrS, hasK]
        exact hQ _ _ ⟨by rw [hz], by rw [hz]; exact MV.rf cv (by decide)⟩
    · refine j_aload_n 0 dX11_set_24 rfl ?_
      refine j_bipush (-2) dX11_set_25 bp_n2 ?_
      refine j_callV (kc := 0) (ks := 0) (a := 0) (b := 0) (d' := d) (As := [.int (-2)]) dX11_set_27 kX11_130 rfl (shM hM sgM_0) (by omega) rfl rfl rfl (Nat.le_of_ble_eq_true rfl) (Nat.le_of_ble_eq_true rfl) (T_X11_no hM (-2) (by decide)) (kk_p ?_)
      refine j_iret dX11_set_30 rfl ?_
      have hz : setK Z i v k = ((-2), (refZ Z (-2))) := by
        clear hQ
        clear cv hM hS ok
        grind [setK, cif, rrK, rrS, hasK]
      exact hQ _ _ ⟨by rw [hz], by rw [hz]; exact MV.rf cv (by decide)⟩
  · exact absurd hsk c1
set_option maxRecDepth 20000 in
set_option maxHeartbeats 4000000 in
theorem N_set1 {d : Nat} {M : jk_M} {Z : ZS} (cv : MV M Z) (ok : Zok Z) (k : Nat) (hk : k < 8) (j : Nat) (hj : j < 160) (v : Int64) (h0 : rrK Z k = 0) (h1 : hasK Z k (nI j)) : J Fr_X11_set (d + 1) 0 0 0 [(0, .ref 0), (1, .int (nI k)), (2, .int (nI j)), (3, .long v)] [] M (jk_ex (some (.int (setK Z (nI j) v k).1)) (fun M1 => MV M1 (setK Z (nI j) v k).2)) := by
  refine j_post (fun Q hQ => ?_)
  have hM := cv.1
  have hS := cv.2.1
  have okS := ok.1
  have h40 := cv.2.2.2.2.2.2.2.2.2.2.1
  have hsk := shl_k hk
  have hsmk := shm_g (cv.2.2.2.1 k hk)
  have hzok := ok.sh hk
  have hzzk := shok0 hzok
  refine j_aload_n 0 dX11_set_0 rfl ?_
  refine j_iload_n 1 dX11_set_1 rfl ?_
  refine j_callV (kc := 0) (ks := 0) (a := 0) (b := 0) (d' := d) (As := [.int (nI k)]) dX11_set_2 kX11_126 rfl (shM hM sgM_0) (by omega) rfl rfl rfl (Nat.le_of_ble_eq_true rfl) (Nat.le_of_ble_eq_true rfl) (T_X11_isShelf (nI k)) (kk_p ?_)
  refine j_if_neB (p := (0 ≤ (nI k) ∧ (nI k) < 8)) (tgt := 14) dX11_set_5 rfl (fun c1 => ?_) (fun c1 => ?_)
  · refine j_aload_n 0 dX11_set_14 rfl ?_
    refine j_getr (q := 13) dX11_set_15 fX11_62 (shM hM sgM_0) rfl (rfM hM rfM_0_21) ?_
    refine j_iload_n 1 dX11_set_18 rfl ?_
    refine j_ialdN k dX11_set_19 (shM hM sgM_13) (by omega) (by omega) ?_
    refine j_iconst 2 dX11_set_20 ic_2 ?_
    refine j_icmp_ne (tgt := 31) dX11_set_21 rfl (fun c2 => ?_) (fun c2 => ?_)
    · refine j_aload_n 0 dX11_set_31 rfl ?_
      refine j_getr (q := 13) dX11_set_32 fX11_62 (shM hM sgM_0) rfl (rfM hM rfM_0_21) ?_
      refine j_iload_n 1 dX11_set_35 rfl ?_
      refine j_ialdN k dX11_set_36 (shM hM sgM_13) (by omega) (by omega) ?_
      refine j_if_ne (tgt := 47) dX11_set_37 rfl (fun c3 => ?_) (fun c3 => ?_)
      · refine j_iload_n 2 dX11_set_47 rfl ?_
        refine j_if_ltN (tgt := 61) j dX11_set_48 (by omega) rfl ?_
        refine j_iload_n 2 dX11_set_51 rfl ?_
        refine j_aload_n 0 dX11_set_52 rfl ?_
        refine j_getr (q := 15) dX11_set_53 fX11_68 (shM hM sgM_0) rfl (rfM hM rfM_0_23) ?_
        refine j_iload_n 1 dX11_set_56 rfl ?_
        refine j_ialdN k dX11_set_57 (shM hM sgM_15) (by omega) (by omega) ?_
        refine j_icmp_lt (tgt := 68) dX11_set_58 rfl (fun c5 => ?_) (fun c5 => ?_)
        · refine j_aload_n 0 dX11_set_68 rfl ?_
          refine j_getr (q := 17) dX11_set_69 fX11_74 (shM hM sgM_0) rfl (rfM hM rfM_0_25) ?_
          refine j_sipush 160 dX11_set_72 sp_160 ?_
          refine j_iload_n 1 dX11_set_75 rfl ?_
          refine j_imulN 160 k dX11_set_76 ?_
          refine j_iload_n 2 dX11_set_77 rfl ?_
          refine j_iaddN (160 * k) j dX11_set_78 ?_
          refine j_aload_n 0 dX11_set_79 rfl ?_
          refine j_getr (q := 14) dX11_set_80 fX11_65 (shM hM sgM_0) rfl (rfM hM rfM_0_22) ?_
          refine j_iload_n 1 dX11_set_83 rfl ?_
          refine j_ialdN k dX11_set_84 (shM hM sgM_14) (by omega) (by omega) ?_
          refine j_if_ne (tgt := 95) dX11_set_85 rfl (fun c6 => ?_) (fun c6 => ?_)
          · refine j_aload_n 0 dX11_set_95 rfl ?_
            refine j_getr (q := 14) dX11_set_96 fX11_65 (shM hM sgM_0) rfl (rfM hM rfM_0_22) ?_
            refine j_iload_n 1 dX11_set_99 rfl ?_
            refine j_ialdN k dX11_set_100 (shM hM sgM_14) (by omega) (by omega) ?_
            refine j_iconst 1 dX11_set_101 ic_1 ?_
            refine j_icmp_ne (tgt := 112) dX11_set_102 rfl (fun c7 => ?_) (fun c7 => ?_)
            · refine j_aload_n 0 dX11_set_112 rfl ?_
              refine j_getr (q := 14) dX11_set_113 fX11_65 (shM hM sgM_0) rfl (rfM hM rfM_0_22) ?_
              refine j_iload_n 1 dX11_set_116 rfl ?_
              refine j_ialdN k dX11_set_117 (shM hM sgM_14) (by omega) (by omega) ?_
              refine j_iconst 2 dX11_set_118 ic_2 ?_
              refine j_icmp_ne (tgt := 128) dX11_set_119 rfl (fun c8 => ?_) (fun c8 => ?_)
              · refine j_lload_n 3 dX11_set_128 rfl ?_
                refine j_last dX11_set_129 rfl (shM hM sgM_17) (vp_in_nI (by omega) (by omega)) ?_
                refine j_iconst 1 dX11_set_130 ic_1 ?_
                refine j_iret dX11_set_131 rfl ?_
                have hval : v = shCut (Z.2.2.1 k 0) v := by
                  clear hQ cv hM hS ok
                  grind [shCut]
                have hmv := MV.set cv hk hj hval
                have hz : setK Z (nI j) v k = (1, (shZ Z k (Z.2.2.1 k) (vp_updL (Z.2.2.2.1 k) (nI j).toNatClampNeg (shCut (Z.2.2.1 k 0) v)))) := by
                  clear hQ
                  clear cv hM hS ok hmv hval
                  grind [setK, cif, rrK, rrS]
                exact hQ _ _ ⟨by rw [hz], by rw [hz]; exact hmv⟩
              · refine j_lload_n 3 dX11_set_122 rfl ?_
                refine j_l2i dX11_set_123 ?_
                refine j_i2l dX11_set_124 ?_
                refine j_goto (tgt := 129) dX11_set_125 rfl ?_
                refine j_last dX11_set_129 rfl (shM hM sgM_17) (vp_in_nI (by omega) (by omega)) ?_
                refine j_iconst 1 dX11_set_130 ic_1 ?_
                refine j_iret dX11_set_131 rfl ?_
                have hval : (Int32.toInt64 (Int64.toInt32 v)) = shCut (Z.2.2.1 k 0) v := by
                  clear hQ cv hM hS ok
                  grind [shCut]
                have hmv := MV.set cv hk hj hval
                have hz : setK Z (nI j) v k = (1, (shZ Z k (Z.2.2.1 k) (vp_updL (Z.2.2.2.1 k) (nI j).toNatClampNeg (shCut (Z.2.2.1 k 0) v)))) := by
                  clear hQ
                  clear cv hM hS ok hmv hval
                  grind [setK, cif, rrK, rrS]
                exact hQ _ _ ⟨by rw [hz], by rw [hz]; exact hmv⟩
            · refine j_lload_n 3 dX11_set_105 rfl ?_
              refine j_l2i dX11_set_106 ?_
              refine j_i2s dX11_set_107 ?_
              refine j_i2l dX11_set_108 ?_
              refine j_goto (tgt := 129) dX11_set_109 rfl ?_
              refine j_last dX11_set_129 rfl (shM hM sgM_17) (vp_in_nI (by omega) (by omega)) ?_
              refine j_iconst 1 dX11_set_130 ic_1 ?_
              refine j_iret dX11_set_131 rfl ?_
              have hval : (Int32.toInt64 (Int16.toInt32 (Int32.toInt16 (Int64.toInt32 v)))) = shCut (Z.2.2.1 k 0) v := by
                clear hQ cv hM hS ok
                grind [shCut]
              have hmv := MV.set cv hk hj hval
              have hz : setK Z (nI j) v k = (1, (shZ Z k (Z.2.2.1 k) (vp_updL (Z.2.2.2.1 k) (nI j).toNatClampNeg (shCut (Z.2.2.1 k 0) v)))) := by
                clear hQ
                clear cv hM hS ok hmv hval
                grind [setK, cif, rrK, rrS]
              exact hQ _ _ ⟨by rw [hz], by rw [hz]; exact hmv⟩
          · refine j_lload_n 3 dX11_set_88 rfl ?_
            refine j_l2i dX11_set_89 ?_
            refine j_i2b dX11_set_90 ?_
            refine j_i2l dX11_set_91 ?_
            refine j_goto (tgt := 129) dX11_set_92 rfl ?_
            refine j_last dX11_set_129 rfl (shM hM sgM_17) (vp_in_nI (by omega) (by omega)) ?_
            refine j_iconst 1 dX11_set_130 ic_1 ?_
            refine j_iret dX11_set_131 rfl ?_
            have hval : (Int32.toInt64 (Int8.toInt32 (Int32.toInt8 (Int64.toInt32 v)))) = shCut (Z.2.2.1 k 0) v := by
              clear hQ cv hM hS ok
              grind [shCut]
            have hmv := MV.set cv hk hj hval
            have hz : setK Z (nI j) v k = (1, (shZ Z k (Z.2.2.1 k) (vp_updL (Z.2.2.2.1 k) (nI j).toNatClampNeg (shCut (Z.2.2.1 k 0) v)))) := by
              clear hQ
              clear cv hM hS ok hmv hval
              grind [setK, cif, rrK, rrS]
            exact hQ _ _ ⟨by rw [hz], by rw [hz]; exact hmv⟩
        · refine j_aload_n 0 dX11_set_61 rfl ?_
          refine j_bipush (-5) dX11_set_62 bp_n5 ?_
          refine j_callV (kc := 0) (ks := 0) (a := 0) (b := 0) (d' := d) (As := [.int (-5)]) dX11_set_64 kX11_130 rfl (shM hM sgM_0) (by omega) rfl rfl rfl (Nat.le_of_ble_eq_true rfl) (Nat.le_of_ble_eq_true rfl) (T_X11_no hM (-5) (by decide)) (kk_p ?_)
          refine j_iret dX11_set_67 rfl ?_
          exfalso; clear hQ cv hM hS; grind [rrK, rrS, hasK]
      · refine j_aload_n 0 dX11_set_40 rfl ?_
        refine j_bipush (-3) dX11_set_41 bp_n3 ?_
        refine j_callV (kc := 0) (ks := 0) (a := 0) (b := 0) (d' := d) (As := [.int (-3)]) dX11_set_43 kX11_130 rfl (shM hM sgM_0) (by omega) rfl rfl rfl (Nat.le_of_ble_eq_true rfl) (Nat.le_of_ble_eq_true rfl) (T_X11_no hM (-3) (by decide)) (kk_p ?_)
        refine j_iret dX11_set_46 rfl ?_
        exfalso; clear hQ cv hM hS; grind [rrK, rrS, hasK]
    · refine j_aload_n 0 dX11_set_24 rfl ?_
      refine j_bipush (-2) dX11_set_25 bp_n2 ?_
      refine j_callV (kc := 0) (ks := 0) (a := 0) (b := 0) (d' := d) (As := [.int (-2)]) dX11_set_27 kX11_130 rfl (shM hM sgM_0) (by omega) rfl rfl rfl (Nat.le_of_ble_eq_true rfl) (Nat.le_of_ble_eq_true rfl) (T_X11_no hM (-2) (by decide)) (kk_p ?_)
      refine j_iret dX11_set_30 rfl ?_
      exfalso; clear hQ cv hM hS; grind [rrK, rrS, hasK]
  · exact absurd hsk c1
theorem N_setY {d : Nat} {M : jk_M} {Z : ZS} (cv : MV M Z) (ok : Zok Z) (k : Nat) (hk : k < 8) (i : Int32) (v : Int64) : J Fr_X11_set (d + 1) 0 0 0 [(0, .ref 0), (1, .int (nI k)), (2, .int i), (3, .long v)] [] M (jk_ex (some (.int (setK Z i v k).1)) (fun M1 => MV M1 (setK Z i v k).2)) := by
  by_cases h : rrK Z k = 0 ∧ hasK Z k i
  · obtain ⟨j, hj, rfl⟩ := i_in (n := 160) (by decide) ⟨h.2.1, by rw [n160]; exact h.2.2.2⟩
    exact N_set1 cv ok k hk j hj v h.1 h.2
  · exact N_set0 cv ok k hk i v h
set_option maxRecDepth 20000 in
set_option maxHeartbeats 4000000 in
theorem N_setNo {d : Nat} {M : jk_M} {Z : ZS} (cv : MV M Z) (ok : Zok Z) (s : Int32) (i : Int32) (v : Int64) (hs : ¬ (0 ≤ s ∧ s < 8)) : J Fr_X11_set (d + 1) 0 0 0 [(0, .ref 0), (1, .int s), (2, .int i), (3, .long v)] [] M (jk_ex (some (.int ((((-1) : Int32), refZ Z (-1))).1)) (fun M1 => MV M1 ((((-1) : Int32), refZ Z (-1))).2)) := by
  refine j_post (fun Q hQ => ?_)
  have hM := cv.1
  have hS := cv.2.1
  have okS := ok.1
  have h40 := cv.2.2.2.2.2.2.2.2.2.2.1
  refine j_aload_n 0 dX11_set_0 rfl ?_
  refine j_iload_n 1 dX11_set_1 rfl ?_
  refine j_callV (kc := 0) (ks := 0) (a := 0) (b := 0) (d' := d) (As := [.int s]) dX11_set_2 kX11_126 rfl (shM hM sgM_0) (by omega) rfl rfl rfl (Nat.le_of_ble_eq_true rfl) (Nat.le_of_ble_eq_true rfl) (T_X11_isShelf s) (kk_p ?_)
  refine j_if_neB (p := (0 ≤ s ∧ s < 8)) (tgt := 14) dX11_set_5 rfl (fun c1 => ?_) (fun c1 => ?_)
  · exact absurd c1 hs
  · refine j_aload_n 0 dX11_set_8 rfl ?_
    refine j_iconst (-1) dX11_set_9 ic_n1 ?_
    refine j_callV (kc := 0) (ks := 0) (a := 0) (b := 0) (d' := d) (As := [.int (-1)]) dX11_set_10 kX11_130 rfl (shM hM sgM_0) (by omega) rfl rfl rfl (Nat.le_of_ble_eq_true rfl) (Nat.le_of_ble_eq_true rfl) (T_X11_no hM (-1) (by decide)) (kk_p ?_)
    refine j_iret dX11_set_13 rfl ?_
    exact hQ _ _ ⟨rfl, MV.rf cv (by decide)⟩
theorem N_set {d : Nat} {M : jk_M} {Z : ZS} (cv : MV M Z) (ok : Zok Z) (s i : Int32) (v : Int64) : J Fr_X11_set (d + 1) 0 0 0 [(0, .ref 0), (1, .int s), (2, .int i), (3, .long v)] [] M (jk_ex (some (.int (setZ Z s i v).1)) (fun M1 => MV M1 (setZ Z s i v).2)) := by
  by_cases h : 0 ≤ s ∧ s < 8
  · obtain ⟨k, hk, rfl⟩ := s_in h
    rw [setZ, inS_y hk]; exact N_setY cv ok k hk i v
  · rw [setZ, inS_n h]; exact N_setNo cv ok s i v h
set_option maxRecDepth 20000 in
set_option maxHeartbeats 4000000 in
theorem N_el1 {d : Nat} {M : jk_M} {Z : ZS} (cv : MV M Z) (ok : Zok Z) (k : Nat) (hk : k < 8) (j : Nat) (hj : j < 160) (h1 : hasK Z k (nI j)) : J Fr_X11_element (d + 1) 0 0 0 [(0, .ref 0), (1, .int (nI k)), (2, .int (nI j))] [] M (jk_ex (some (.long ((rdK Z k (nI j), Z)).1)) (fun M1 => MV M1 ((rdK Z k (nI j), Z)).2)) := by
  refine j_post (fun Q hQ => ?_)
  have hM := cv.1
  have hS := cv.2.1
  have okS := ok.1
  have h40 := cv.2.2.2.2.2.2.2.2.2.2.1
  have hsk := shl_k hk
  have hsmk := shm_g (cv.2.2.2.1 k hk)
  have hzok := ok.sh hk
  have hzzk := shok0 hzok
  refine j_aload_n 0 dX11_element_0 rfl ?_
  refine j_iload_n 1 dX11_element_1 rfl ?_
  refine j_callV (kc := 0) (ks := 0) (a := 0) (b := 0) (d' := d) (As := [.int (nI k)]) dX11_element_2 kX11_126 rfl (shM hM sgM_0) (by omega) rfl rfl rfl (Nat.le_of_ble_eq_true rfl) (Nat.le_of_ble_eq_true rfl) (T_X11_isShelf (nI k)) (kk_p ?_)
  refine j_if_eqB (p := (0 ≤ (nI k) ∧ (nI k) < 8)) (tgt := 47) dX11_element_5 rfl (fun c1 => ?_) (fun c1 => ?_)
  · exact absurd hsk c1
  · refine j_aload_n 0 dX11_element_8 rfl ?_
    refine j_getr (q := 13) dX11_element_9 fX11_62 (shM hM sgM_0) rfl (rfM hM rfM_0_21) ?_
    refine j_iload_n 1 dX11_element_12 rfl ?_
    refine j_ialdN k dX11_element_13 (shM hM sgM_13) (by omega) (by omega) ?_
    refine j_iconst 1 dX11_element_14 ic_1 ?_
    refine j_icmp_ne (tgt := 47) dX11_element_15 rfl (fun c2 => ?_) (fun c2 => ?_)
    · refine j_lconst 0 dX11_element_47 (by decide) ?_
      refine j_lret dX11_element_48 rfl ?_
      exfalso; clear hQ cv hM hS ok; grind [hasK, Shok]
    · refine j_iload_n 2 dX11_element_18 rfl ?_
      refine j_if_ltN (tgt := 47) j dX11_element_19 (by omega) rfl ?_
      refine j_iload_n 2 dX11_element_22 rfl ?_
      refine j_aload_n 0 dX11_element_23 rfl ?_
      refine j_getr (q := 15) dX11_element_24 fX11_68 (shM hM sgM_0) rfl (rfM hM rfM_0_23) ?_
      refine j_iload_n 1 dX11_element_27 rfl ?_
      refine j_ialdN k dX11_element_28 (shM hM sgM_15) (by omega) (by omega) ?_
      refine j_icmp_ge (tgt := 47) dX11_element_29 rfl (fun c4 => ?_) (fun c4 => ?_)
      · refine j_lconst 0 dX11_element_47 (by decide) ?_
        refine j_lret dX11_element_48 rfl ?_
        exfalso; clear hQ cv hM hS ok; grind [hasK, Shok]
      · refine j_aload_n 0 dX11_element_32 rfl ?_
        refine j_getr (q := 17) dX11_element_33 fX11_74 (shM hM sgM_0) rfl (rfM hM rfM_0_25) ?_
        refine j_sipush 160 dX11_element_36 sp_160 ?_
        refine j_iload_n 1 dX11_element_39 rfl ?_
        refine j_imulN 160 k dX11_element_40 ?_
        refine j_iload_n 2 dX11_element_41 rfl ?_
        refine j_iaddN (160 * k) j dX11_element_42 ?_
        refine j_laldN ((160 * k) + j) dX11_element_43 (shM hM sgM_17) (by omega) (by omega) ?_
        refine j_goto (tgt := 48) dX11_element_44 rfl ?_
        refine j_lret dX11_element_48 rfl ?_
        exact hQ _ _ ⟨by rw [rdK, cif_t h1, nI_clamp (by omega), cv.el hk hj], cv⟩
set_option maxRecDepth 20000 in
set_option maxHeartbeats 4000000 in
theorem N_el0 {d : Nat} {M : jk_M} {Z : ZS} (cv : MV M Z) (ok : Zok Z) (k : Nat) (hk : k < 8) (i : Int32) (h1 : ¬ hasK Z k i) : J Fr_X11_element (d + 1) 0 0 0 [(0, .ref 0), (1, .int (nI k)), (2, .int i)] [] M (jk_ex (some (.long ((rdK Z k i, Z)).1)) (fun M1 => MV M1 ((rdK Z k i, Z)).2)) := by
  refine j_post (fun Q hQ => ?_)
  have hM := cv.1
  have hS := cv.2.1
  have okS := ok.1
  have h40 := cv.2.2.2.2.2.2.2.2.2.2.1
  have hsk := shl_k hk
  have hsmk := shm_g (cv.2.2.2.1 k hk)
  have hzok := ok.sh hk
  have hzzk := shok0 hzok
  refine j_aload_n 0 dX11_element_0 rfl ?_
  refine j_iload_n 1 dX11_element_1 rfl ?_
  refine j_callV (kc := 0) (ks := 0) (a := 0) (b := 0) (d' := d) (As := [.int (nI k)]) dX11_element_2 kX11_126 rfl (shM hM sgM_0) (by omega) rfl rfl rfl (Nat.le_of_ble_eq_true rfl) (Nat.le_of_ble_eq_true rfl) (T_X11_isShelf (nI k)) (kk_p ?_)
  refine j_if_eqB (p := (0 ≤ (nI k) ∧ (nI k) < 8)) (tgt := 47) dX11_element_5 rfl (fun c1 => ?_) (fun c1 => ?_)
  · exact absurd hsk c1
  · refine j_aload_n 0 dX11_element_8 rfl ?_
    refine j_getr (q := 13) dX11_element_9 fX11_62 (shM hM sgM_0) rfl (rfM hM rfM_0_21) ?_
    refine j_iload_n 1 dX11_element_12 rfl ?_
    refine j_ialdN k dX11_element_13 (shM hM sgM_13) (by omega) (by omega) ?_
    refine j_iconst 1 dX11_element_14 ic_1 ?_
    refine j_icmp_ne (tgt := 47) dX11_element_15 rfl (fun c2 => ?_) (fun c2 => ?_)
    · refine j_lconst 0 dX11_element_47 (by decide) ?_
      refine j_lret dX11_element_48 rfl ?_
      exact hQ _ _ ⟨by rw [rdK, cif_f h1], cv⟩
    · refine j_iload_n 2 dX11_element_18 rfl ?_
      refine j_if_lt (tgt := 47) dX11_element_19 rfl (fun c3 => ?_) (fun c3 => ?_)
      · refine j_lconst 0 dX11_element_47 (by decide) ?_
        refine j_lret dX11_element_48 rfl ?_
        exact hQ _ _ ⟨by rw [rdK, cif_f h1], cv⟩
      · refine j_iload_n 2 dX11_element_22 rfl ?_
        refine j_aload_n 0 dX11_element_23 rfl ?_
        refine j_getr (q := 15) dX11_element_24 fX11_68 (shM hM sgM_0) rfl (rfM hM rfM_0_23) ?_
        refine j_iload_n 1 dX11_element_27 rfl ?_
        refine j_ialdN k dX11_element_28 (shM hM sgM_15) (by omega) (by omega) ?_
        refine j_icmp_ge (tgt := 47) dX11_element_29 rfl (fun c4 => ?_) (fun c4 => ?_)
        · refine j_lconst 0 dX11_element_47 (by decide) ?_
          refine j_lret dX11_element_48 rfl ?_
          exact hQ _ _ ⟨by rw [rdK, cif_f h1], cv⟩
        · exact absurd (by have hsz := sz160 (i := i) hzok; clear hQ cv hM hS ok; grind [hasK]) h1
set_option maxRecDepth 20000 in
set_option maxHeartbeats 4000000 in
theorem N_elN {d : Nat} {M : jk_M} {Z : ZS} (cv : MV M Z) (ok : Zok Z) (s i : Int32) (hs : ¬ (0 ≤ s ∧ s < 8)) : J Fr_X11_element (d + 1) 0 0 0 [(0, .ref 0), (1, .int s), (2, .int i)] [] M (jk_ex (some (.long (((0 : Int64), Z)).1)) (fun M1 => MV M1 (((0 : Int64), Z)).2)) := by
  refine j_post (fun Q hQ => ?_)
  have hM := cv.1
  have hS := cv.2.1
  have okS := ok.1
  have h40 := cv.2.2.2.2.2.2.2.2.2.2.1
  refine j_aload_n 0 dX11_element_0 rfl ?_
  refine j_iload_n 1 dX11_element_1 rfl ?_
  refine j_callV (kc := 0) (ks := 0) (a := 0) (b := 0) (d' := d) (As := [.int s]) dX11_element_2 kX11_126 rfl (shM hM sgM_0) (by omega) rfl rfl rfl (Nat.le_of_ble_eq_true rfl) (Nat.le_of_ble_eq_true rfl) (T_X11_isShelf s) (kk_p ?_)
  refine j_if_eqB (p := (0 ≤ s ∧ s < 8)) (tgt := 47) dX11_element_5 rfl (fun c1 => ?_) (fun c1 => ?_)
  · refine j_lconst 0 dX11_element_47 (by decide) ?_
    refine j_lret dX11_element_48 rfl ?_
    exact hQ _ _ ⟨rfl, cv⟩
  · exact absurd c1 hs
theorem N_element {d : Nat} {M : jk_M} {Z : ZS} (cv : MV M Z) (ok : Zok Z) (s i : Int32) : J Fr_X11_element (d + 1) 0 0 0 [(0, .ref 0), (1, .int s), (2, .int i)] [] M (jk_ex (some (.long (elemZ Z s i).1)) (fun M1 => MV M1 (elemZ Z s i).2)) := by
  by_cases h : 0 ≤ s ∧ s < 8
  · obtain ⟨k, hk, rfl⟩ := s_in h
    rw [elemZ, cif_t (shl_k hk), nI_clamp (by omega)]
    by_cases h1 : hasK Z k i
    · obtain ⟨j, hj, rfl⟩ := i_in (n := 160) (by decide) ⟨h1.1, by rw [n160]; exact h1.2.2⟩
      exact N_el1 cv ok k hk j hj h1
    · exact N_el0 cv ok k hk i h1
  · rw [elemZ, cif_f h]; exact N_elN cv ok s i h
