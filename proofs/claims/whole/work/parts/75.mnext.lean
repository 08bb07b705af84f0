/-! where to measure next, by the model -/
def PWa (q k : Nat) : Prop := q = 12 ∨ q = 30
theorem PWa_F : ∀ q k, PWa q k → PFf q k := fun q k h => by unfold PWa at h; unfold PFf; omega
theorem PWa_0 : ∀ q k, PWa q k → PFf0 q k := fun q k h => by unfold PWa at h; unfold PFf0; omega
theorem LkO.f0 {S : HS} {M M1 : jk_M} (l : LkO S M) (s : Fm PFf0 M M1) : LkO S M1 := l.fm s (fun k => by unfold PFf0; omega) (by unfold PFf0; omega)
theorem FtO.wa {M M1 : jk_M} {l : List Nat} (h : FtO M l) (s : Fm PWa M M1) : FtO M1 l := h.fm s (by unfold PWa; omega) (fun k => by unfold PWa; omega)
theorem ft_get {S : HS} {A : Nat → Prop} {i : Nat} (hi : i < (fitN S A 80).length) : isC S (nI ((fitN S A 80).getD i 0)) ∧ (fitN S A 80).getD i 0 < 80 := by
  have h : (fitN S A 80).getD i 0 ∈ fitN S A 80 := by
    simp only [List.getD, List.getElem?_eq_getElem hi, Option.getD_some]; exact List.getElem_mem hi
  have := fitN_mem 80 _ h
  exact ⟨this.2.1, this.1⟩
theorem ft_64 {S : HS} (ok : Sok S) {A : Nat → Prop} : (fitN S A 80).length ≤ 64 := by
  have := fit_len2 ok (A := A) 80 (Nat.le_refl _)
  omega
set_option maxRecDepth 20000 in
set_option maxHeartbeats 4000000 in
theorem T_X11_worstAt {d : Nat} {M : jk_M} {S : HS} {l : List Nat} (hM : WM M) (ok : Sok S) (hxx : ∃ x, mv M.2.1 = upS S 5 0 x) (lk : LkO S M) (hf : FtO M l) (hl : ∀ i, i < l.length → isC S (nI (l.getD i 0))) (hl64 : l.length ≤ 64) (c : Int32) (hc : isC S c) : J Fr_X11_worstAt (d + 4) 0 0 0 [(0, .ref 0), (1, .int c)] [] M (jk_ex (some (.int (wlS S c l l.length).2)) (fun M1 => Fm PWa M M1 ∧ ∃ x, mv M1.2.1 = upS S 5 0 x)) := by
  refine j_post (fun Q hQ => ?_)
  refine j_iconst 0 dX11_worstAt_0 ic_0 ?_
  refine j_istore_n (L' := [(2, .int 0), (0, .ref 0), (1, .int c)]) dX11_worstAt_1 (by decide) rfl ?_
  refine j_iconst 0 dX11_worstAt_2 ic_0 ?_
  refine j_istore_n (L' := [(3, .int 0), (2, .int 0), (0, .ref 0), (1, .int c)]) dX11_worstAt_3 (by decide) rfl ?_
  have lp3 : ∀ (k1 : Nat) (k : Nat) (M1 : jk_M), 6 - k < k1 → (k ≤ 6) → (Fm PWa M M1) → (∃ x, mv M1.2.1 = upS S 5 0 x) → (∀ j, j < k → M1.2.1 30 j = 0) → J Fr_X11_worstAt (d + 4) 0 0 4 [(0, .ref 0), (1, .int c), (2, .int 0), (3, .int (nI k))] [] M1 Q := by
    intro k1
    induction k1 with
    | zero => intro k M1 hk; exact absurd hk (Nat.not_lt_zero _)
    | succ k1 ih2 =>
      intro k M1 hk1 hk hs1 hx1 hl0
      refine j_iload_n 3 dX11_worstAt_4 rfl ?_
      refine j_bipush 6 dX11_worstAt_5 bp_6 ?_
      refine j_icmp_geN (tgt := 23) k 6 dX11_worstAt_7 rfl (by omega) (by omega) (fun c4 => ?_) (fun c4 => ?_)
      · refine j_iconst 0 dX11_worstAt_23 ic_0 ?_
        refine j_istore_n (L' := [(3, .int 0), (0, .ref 0), (1, .int c), (2, .int 0)]) dX11_worstAt_24 (by decide) rfl ?_
        have z1 : (0 : Int32) = (wlS S c l 0).2 := rfl
        refine j_L (congrArg (fun zz9 : Int32 => ([(3, .int 0), (0, .ref 0), (1, .int c), (2, .int zz9)] : List (Nat × Value))) z1) ?_
        have lp7 : ∀ (k5 : Nat) (i : Nat) (M2 : jk_M), l.length - i < k5 → (i ≤ l.length) → (Fm PWa M M2) → (∃ x, mv M2.2.1 = upS S 5 0 x) → (LfW M2 (wlS S c l i).1) → J Fr_X11_worstAt (d + 4) 0 0 25 [(0, .ref 0), (1, .int c), (2, .int (wlS S c l i).2), (3, .int (nI i))] [] M2 Q := by
          intro k5
          induction k5 with
          | zero => intro i M2 hk; exact absurd hk (Nat.not_lt_zero _)
          | succ k5 ih6 =>
            intro i M2 hk5 hi hs2 hx2 hlf
            refine j_iload_n 3 dX11_worstAt_25 rfl ?_
            refine j_aload_n 0 dX11_worstAt_26 rfl ?_
            obtain ⟨x, hx⟩ := hx2
            refine j_getv (nI l.length) dX11_worstAt_27 fX11_290 (shM (Fm.M hs2 hM) sgM_0) rfl (hf.wa hs2).1 ?_
            refine j_icmp_geN (tgt := 93) i l.length dX11_worstAt_30 rfl (by omega) (by omega) (fun c8 => ?_) (fun c8 => ?_)
            · refine j_iload_n 2 dX11_worstAt_93 rfl ?_
              refine j_iret dX11_worstAt_94 rfl ?_
              have e : i = l.length := by omega
              subst e
              exact hQ _ _ ⟨rfl, hs2, ⟨x, hx⟩⟩
            · refine j_aload_n 0 dX11_worstAt_33 rfl ?_
              refine j_getr (q := 12) dX11_worstAt_34 fX11_59 (shM (Fm.M hs2 hM) sgM_0) rfl (rfM (Fm.M hs2 hM) rfM_0_20) ?_
              refine j_iconst 0 dX11_worstAt_37 ic_0 ?_
              refine j_aload_n 0 dX11_worstAt_38 rfl ?_
              refine j_getr (q := 29) dX11_worstAt_39 fX11_114 (shM (Fm.M hs2 hM) sgM_0) rfl (rfM (Fm.M hs2 hM) rfM_0_45) ?_
              refine j_iload_n 3 dX11_worstAt_42 rfl ?_
              refine j_ialdN i dX11_worstAt_43 (shM (Fm.M hs2 hM) sgM_29) (by omega) (by omega) ?_
              refine j_topi (nI (l.getD i 0)) ((hf.wa hs2).2 _ (by omega)) ?_
              refine j_iastN 0 dX11_worstAt_44 (shM (Fm.M hs2 hM) sgM_12) (by omega) (by omega) ?_
              have sm9 : Fm PWa M (jk_wI M2 12 0 (nI (l.getD i 0))) := Fm.w hs2 (by unfold PWa; omega)
              have hT : mv (jk_wI M2 12 0 (nI (l.getD i 0))).2.1 = upS S 5 0 (nI (l.getD i 0)) := by
                have q := mv_sc (a := 5) (x := nI (l.getD i 0)) hx (by decide) (by decide) (by decide) (by decide)
                rw [upS_up] at q; exact q
              refine j_aload_n 0 dX11_worstAt_45 rfl ?_
              refine j_iconst 0 dX11_worstAt_46 ic_0 ?_
              refine j_iload_n 1 dX11_worstAt_47 rfl ?_
              refine j_callV (kc := 0) (ks := 0) (a := 0) (b := 0) (d' := (d + 3)) (As := [.int 0, .int c]) dX11_worstAt_48 kX11_257 rfl (shM (Fm.M sm9 hM) sgM_0) (by omega) rfl rfl rfl (Nat.le_of_ble_eq_true rfl) (Nat.le_of_ble_eq_true rfl) (T_bars5 (Fm.M sm9 hM) hT ok (hl _ (by omega)) (lk.f0 (Fm.mo sm9 PWa_0)) hc) (kk_p ?_)
              obtain ⟨kb, hkb, ekb⟩ := bars_n (S := S) (f := nI (l.getD i 0)) (c := c)
              refine j_topi (nI kb) ekb ?_
              refine j_istore (L' := [(4, .int (nI kb)), (0, .ref 0), (1, .int c), (2, .int (wlS S c l i).2), (3, .int (nI i))]) dX11_worstAt_51 (by decide) rfl ?_
              refine j_aload_n 1 dX11_worstAt_53 rfl ?_
              refine j_getr (q := 30) dX11_worstAt_54 fX11_117 (shM (Fm.M sm9 hM) sgM_0) rfl (rfM (Fm.M sm9 hM) rfM_0_46) ?_
              refine j_iload 0 dX11_worstAt_57 rfl ?_
              refine j_dup2 dX11_worstAt_59 rfl rfl ?_
              refine j_ialdN kb dX11_worstAt_60 (shM (Fm.M sm9 hM) sgM_30) (by omega) (by omega) ?_
              refine j_topi ((wlS S c l i).1 kb) ((rd_o (by decide)).trans (hlf kb (by omega))) ?_
              refine j_iconst 1 dX11_worstAt_61 ic_1 ?_
              refine j_iadd dX11_worstAt_62 ?_
              refine j_iastN kb dX11_worstAt_63 (shM (Fm.M sm9 hM) sgM_30) (by omega) (by omega) ?_
              have sm10 : Fm PWa M (jk_wI (jk_wI M2 12 0 (nI (l.getD i 0))) 30 kb (((wlS S c l i).1 kb) + 1)) := Fm.w sm9 (by unfold PWa; omega)
              refine j_aload_n 1 dX11_worstAt_64 rfl ?_
              refine j_getr (q := 30) dX11_worstAt_65 fX11_117 (shM (Fm.M sm10 hM) sgM_0) rfl (rfM (Fm.M sm10 hM) rfM_0_46) ?_
              refine j_iload 0 dX11_worstAt_68 rfl ?_
              refine j_ialdN kb dX11_worstAt_70 (shM (Fm.M sm10 hM) sgM_30) (by omega) (by omega) ?_
              refine j_topi ((wlS S c l i).1 kb + 1) rd_s ?_
              refine j_iload_n 3 dX11_worstAt_71 rfl ?_
              refine j_icmp_le (tgt := 85) dX11_worstAt_72 rfl (fun c11 => ?_) (fun c11 => ?_)
              · refine j_iload_n 3 dX11_worstAt_85 rfl ?_
                refine j_istore_n (L' := [(2, .int (wlS S c l i).2), (4, .int (nI kb)), (0, .ref 0), (1, .int c), (3, .int (nI i))]) dX11_worstAt_86 (by decide) rfl ?_
                refine j_iinc 4 (nI (i + 1)) (L' := [(3, .int (nI (i + 1))), (2, .int (wlS S c l i).2), (4, .int (nI kb)), (0, .ref 0), (1, .int c)]) dX11_worstAt_87 rfl (inc1 i) (by decide) rfl ?_
                refine j_goto (tgt := 25) dX11_worstAt_90 rfl ?_
                have hb1 : (wlS S c l i).2 = (wlS S c l (i + 1)).2 := by
                  rw [wl_s hkb ekb]
                  exact (if_neg (Int32.not_lt.mpr c11)).symm
                refine j_L (congrArg (fun zz9 : Int32 => ([(3, .int (nI (i + 1))), (2, .int zz9), (4, .int (nI kb)), (0, .ref 0), (1, .int c)] : List (Nat × Value))) hb1) ?_
                exact j_sub (jk_pick [3, 4, 1, 0] rfl) (ih6 (i + 1) (jk_wI (jk_wI M2 12 0 (nI (l.getD i 0))) 30 kb (((wlS S c l i).1 kb) + 1)) (by omega) (by omega) sm10 ⟨_, Fm.mv (P := PS) (Fm.w Fm.rf (by unfold PS; omega)) hT PS_H⟩ (fun j hj => by
          rw [wl_s hkb ekb]
          show _ = va_up _ _ _ j
          by_cases e : j = kb
          · subst e; rw [rd_s, va_up_self]
          · rw [rd_k e, va_up_ne _ _ e, rd_o (by decide)]; exact hlf j hj))
              · refine j_aload_n 1 dX11_worstAt_75 rfl ?_
                refine j_getr (q := 30) dX11_worstAt_76 fX11_117 (shM (Fm.M sm10 hM) sgM_0) rfl (rfM (Fm.M sm10 hM) rfM_0_46) ?_
                refine j_iload 0 dX11_worstAt_79 rfl ?_
                refine j_ialdN kb dX11_worstAt_81 (shM (Fm.M sm10 hM) sgM_30) (by omega) (by omega) ?_
                refine j_topi ((wlS S c l i).1 kb + 1) rd_s ?_
                refine j_goto (tgt := 86) dX11_worstAt_82 rfl ?_
                refine j_istore_n (L' := [(2, .int ((wlS S c l i).1 kb + 1)), (4, .int (nI kb)), (0, .ref 0), (1, .int c), (3, .int (nI i))]) dX11_worstAt_86 (by decide) rfl ?_
                refine j_iinc 4 (nI (i + 1)) (L' := [(3, .int (nI (i + 1))), (2, .int ((wlS S c l i).1 kb + 1)), (4, .int (nI kb)), (0, .ref 0), (1, .int c)]) dX11_worstAt_87 rfl (inc1 i) (by decide) rfl ?_
                refine j_goto (tgt := 25) dX11_worstAt_90 rfl ?_
                have hb1 : ((wlS S c l i).1 kb + 1) = (wlS S c l (i + 1)).2 := by
                  rw [wl_s hkb ekb]
                  exact (if_pos (Int32.not_le.mp c11)).symm
                refine j_L (congrArg (fun zz9 : Int32 => ([(3, .int (nI (i + 1))), (2, .int zz9), (4, .int (nI kb)), (0, .ref 0), (1, .int c)] : List (Nat × Value))) hb1) ?_
                exact j_sub (jk_pick [3, 4, 1, 0] rfl) (ih6 (i + 1) (jk_wI (jk_wI M2 12 0 (nI (l.getD i 0))) 30 kb (((wlS S c l i).1 kb) + 1)) (by omega) (by omega) sm10 ⟨_, Fm.mv (P := PS) (Fm.w Fm.rf (by unfold PS; omega)) hT PS_H⟩ (fun j hj => by
          rw [wl_s hkb ekb]
          show _ = va_up _ _ _ j
          by_cases e : j = kb
          · subst e; rw [rd_s, va_up_self]
          · rw [rd_k e, va_up_ne _ _ e, rd_o (by decide)]; exact hlf j hj))
        exact j_sub (jk_pick [1, 2, 3, 0] rfl) (lp7 _ 0 M1 (Nat.lt_succ_self _) (by omega) hs1 hx1 (fun j hj => hl0 j (by omega)))
      · refine j_aload_n 0 dX11_worstAt_10 rfl ?_
        refine j_getr (q := 30) dX11_worstAt_11 fX11_117 (shM (Fm.M hs1 hM) sgM_0) rfl (rfM (Fm.M hs1 hM) rfM_0_46) ?_
        refine j_iload_n 3 dX11_worstAt_14 rfl ?_
        refine j_iconst 0 dX11_worstAt_15 ic_0 ?_
        refine j_iastN k dX11_worstAt_16 (shM (Fm.M hs1 hM) sgM_30) (by omega) (by omega) ?_
        have sm12 : Fm PWa M (jk_wI M1 30 k 0) := Fm.w hs1 (by unfold PWa; omega)
        refine j_iinc 3 (nI (k + 1)) (L' := [(3, .int (nI (k + 1))), (0, .ref 0), (1, .int c), (2, .int 0)]) dX11_worstAt_17 rfl (inc1 k) (by decide) rfl ?_
        refine j_goto (tgt := 4) dX11_worstAt_20 rfl ?_
        exact j_sub (jk_pick [1, 2, 3, 0] rfl) (ih2 (k + 1) (jk_wI M1 30 k 0) (by omega) (by omega) sm12 (hx1.imp fun x h => Fm.mv (P := PS) (Fm.w Fm.rf (by unfold PS; omega)) h PS_H) (fun j hj => by
          by_cases e : j = k
          · rw [e, rd_s]
          · rw [rd_k e]; exact hl0 j (by omega)))
  exact j_sub (jk_pick [2, 3, 1, 0] rfl) (lp3 _ 0 M (Nat.lt_succ_self _) (by omega) Fm.rf hxx (fun j hj => absurd hj (Nat.not_lt_zero j)))
theorem td_hc {Z : ZS} {k : Nat} {n e : Int32} (h : ¬ tdK Z k n e = 0) : 0 < 0 - tdK Z k n e ∧ 0 - tdK Z k n e < 8 := by
  simp only [tdK, tdS] at h ⊢
  by_cases c : rrK Z k = 0
  · rw [if_neg (not_not_intro c)] at h ⊢
    split
    · decide
    · split
      · decide
      · split
        · decide
        · rename_i a b d; rw [if_neg a, if_neg b, if_neg d] at h; exact absurd rfl h
  · rw [if_pos c]; exact rr_hc c
set_option maxRecDepth 20000 in
set_option maxHeartbeats 4000000 in
theorem N_fits0 {d : Nat} {M : jk_M} {Z : ZS} (cv : MV M Z) (ok : Zok Z) (k : Nat) (hk : k < 8) (n i : Int32) (h0 : ¬ tdK Z k n 2 = 0) : J Fr_X11_fits (d + 5) 0 0 0 [(0, .ref 0), (1, .int (nI k)), (2, .int n), (3, .int i)] [] M (jk_ex (some (.int (fitsK Z n i k).1)) (fun M1 => MV M1 (fitsK Z n i k).2)) := by
  refine j_post (fun Q hQ => ?_)
  have hM := cv.1
  have hS := cv.2.1
  have okS := ok.1
  have h40 := cv.2.2.2.2.2.2.2.2.2.2.1
  have hsk := shl_k hk
  have hsmk := shm_g (cv.2.2.2.1 k hk)
  have hzok := ok.sh hk
  have hzzk := shok0 hzok
  have hc9 : 0 < 0 - tdK Z k n 2 ∧ 0 - tdK Z k n 2 < 8 := td_hc h0
  refine j_aload_n 0 dX11_fits_0 rfl ?_
  refine j_iload_n 1 dX11_fits_1 rfl ?_
  refine j_iload_n 2 dX11_fits_2 rfl ?_
  refine j_callV (kc := 0) (ks := 0) (a := 0) (b := 0) (d' := (d + 2)) (As := [.int (nI k), .int n]) dX11_fits_3 kX11_293 rfl (shM hM sgM_0) (by omega) rfl rfl rfl (Nat.le_of_ble_eq_true rfl) (Nat.le_of_ble_eq_true rfl) (T_barsF0 cv ok k hk n h0) (kk_p ?_)
  refine j_istore (L' := [(4, .int (tdK Z k n 2)), (0, .ref 0), (1, .int (nI k)), (2, .int n), (3, .int i)]) dX11_fits_6 (by decide) rfl ?_
  refine j_iload 0 dX11_fits_8 rfl ?_
  refine j_if_eq (tgt := 20) dX11_fits_10 rfl (fun c1 => ?_) (fun c1 => ?_)
  · exact absurd c1 h0
  · refine j_aload_n 1 dX11_fits_13 rfl ?_
    refine j_iload 0 dX11_fits_14 rfl ?_
    refine j_callV (kc := 0) (ks := 0) (a := 0) (b := 0) (d' := d) (As := [.int (tdK Z k n 2)]) dX11_fits_16 kX11_130 rfl (shM hM sgM_0) (by omega) rfl rfl rfl (Nat.le_of_ble_eq_true rfl) (Nat.le_of_ble_eq_true rfl) (T_X11_no hM (tdK Z k n 2) hc9) (kk_p ?_)
    refine j_iret dX11_fits_19 rfl ?_
    have hz : fitsK Z n i k = ((tdK Z k n 2), refZ Z (tdK Z k n 2)) := by
      clear hQ
      clear cv hM hS
      grind [fitsK, cif, ftK]
    exact hQ _ _ ⟨by rw [hz], by rw [hz]; exact MV.rf cv hc9⟩
set_option maxRecDepth 20000 in
set_option maxHeartbeats 4000000 in
theorem N_fits1 {d : Nat} {M : jk_M} {Z : ZS} (cv : MV M Z) (ok : Zok Z) (k : Nat) (hk : k < 8) (m : Nat) (hm : m ≤ 40) (z : Nat) (hz9 : z ≤ 160) (ez9 : Z.2.2.1 k 1 = nI z) (hmz : 2 * m ≤ z) (hr0 : rrK Z k = 0) (h0 : tdK Z k (nI m) 2 = 0) : J Fr_X11_fits (d + 5) 0 0 0 [(0, .ref 0), (1, .int (nI k)), (2, .int (nI m)), (3, .int (-1))] [] M (jk_ex (some (.int (fitsK Z (nI m) (-1) k).1)) (fun M1 => MV M1 (fitsK Z (nI m) (-1) k).2)) := by
  refine j_post (fun Q hQ => ?_)
  have hM := cv.1
  have hS := cv.2.1
  have okS := ok.1
  have h40 := cv.2.2.2.2.2.2.2.2.2.2.1
  have hsk := shl_k hk
  have hsmk := shm_g (cv.2.2.2.1 k hk)
  have hzok := ok.sh hk
  have hzzk := shok0 hzok
  have hl64 := ft_64 okS (A := fun c => agS Z.1 (tlK Z k) (nI c) m)
  refine j_aload_n 0 dX11_fits_0 rfl ?_
  refine j_iload_n 1 dX11_fits_1 rfl ?_
  refine j_iload_n 2 dX11_fits_2 rfl ?_
  refine j_callV (kc := 0) (ks := 0) (a := 0) (b := 0) (d' := (d + 2)) (As := [.int (nI k), .int (nI m)]) dX11_fits_3 kX11_293 rfl (shM hM sgM_0) (by omega) rfl rfl rfl (Nat.le_of_ble_eq_true rfl) (Nat.le_of_ble_eq_true rfl) (T_barsF1 cv ok k hk m hm z hz9 ez9 hmz hr0) (kk_p ?_)
  refine j_istore (L' := [(4, .int (prS Z.1 (tlK Z k) m)), (0, .ref 0), (1, .int (nI k)), (2, .int (nI m)), (3, .int (-1))]) dX11_fits_6 (by decide) rfl ?_
  refine j_iload 0 dX11_fits_8 rfl ?_
  refine j_if_eq (tgt := 20) dX11_fits_10 rfl (fun c1 => ?_) (fun c1 => ?_)
  · refine j_aload_n 1 dX11_fits_20 rfl ?_
    refine j_iload_n 2 dX11_fits_21 rfl ?_
    refine j_iload_n 3 dX11_fits_22 rfl ?_
    refine j_callV (kc := 0) (ks := 0) (a := 0) (b := 0) (d' := (d + 4)) (As := [.int (nI k), .int (nI m)]) dX11_fits_23 kX11_296 rfl (shM hM sgM_0) (by omega) rfl rfl rfl (Nat.le_of_ble_eq_true rfl) (Nat.le_of_ble_eq_true rfl) (T_X11_findsFits cv ok k hk m hm z hz9 ez9 hmz hr0 (by assumption)) (kk_ev (fun M2 hM3 => ?_))
    obtain ⟨smF, hmvF, lkF, hft⟩ := hM3
    refine j_iload_n 4 dX11_fits_26 rfl ?_
    refine j_iconst (-1) dX11_fits_27 ic_n1 ?_
    refine j_icmp_ne (tgt := 36) dX11_fits_28 rfl (fun c4 => ?_) (fun c4 => ?_)
    · exact absurd c4 (by decide)
    · refine j_aload_n 1 dX11_fits_31 rfl ?_
      refine j_getv (nI (fitN Z.1 (fun c => agS Z.1 (tlK Z k) (nI c) m) 80).length) dX11_fits_32 fX11_290 (shM (Fm.M smF hM) sgM_0) rfl hft.1 ?_
      refine j_iret dX11_fits_35 rfl ?_
      have hz : fitsK Z (nI m) (-1) k = ((nI (fitN Z.1 (fun c => agS Z.1 (tlK Z k) (nI c) m) 80).length), Z) := by
        clear hQ
        clear cv hM hS
        have hcl := nI_clamp (show m < 2 ^ 31 by omega)
        grind [fitsK, cif, ftK]
      exact hQ _ _ ⟨by rw [hz], by rw [hz]; exact MV.ba cv (Fm.mo smF PFf_O) hmvF⟩
  · refine j_aload_n 1 dX11_fits_13 rfl ?_
    refine j_iload 0 dX11_fits_14 rfl ?_
    refine j_topi (-6) (prS_01.resolve_left c1) ?_
    refine j_callV (kc := 0) (ks := 0) (a := 0) (b := 0) (d' := d) (As := [.int (-6)]) dX11_fits_16 kX11_130 rfl (shM hM sgM_0) (by omega) rfl rfl rfl (Nat.le_of_ble_eq_true rfl) (Nat.le_of_ble_eq_true rfl) (T_X11_no hM (-6) (by decide)) (kk_p ?_)
    refine j_iret dX11_fits_19 rfl ?_
    have hz : fitsK Z (nI m) (-1) k = ((-6), refZ Z (-6)) := by
      clear hQ
      clear cv hM hS
      have hcl := nI_clamp (show m < 2 ^ 31 by omega)
      grind [fitsK, cif, ftK]
    exact hQ _ _ ⟨by rw [hz], by rw [hz]; exact MV.rf cv (by decide)⟩
set_option maxRecDepth 20000 in
set_option maxHeartbeats 4000000 in
theorem N_fits2 {d : Nat} {M : jk_M} {Z : ZS} (cv : MV M Z) (ok : Zok Z) (k : Nat) (hk : k < 8) (m : Nat) (hm : m ≤ 40) (z : Nat) (hz9 : z ≤ 160) (ez9 : Z.2.2.1 k 1 = nI z) (hmz : 2 * m ≤ z) (hr0 : rrK Z k = 0) (h0 : tdK Z k (nI m) 2 = 0) (i : Nat) (hi : i < (fitN Z.1 (fun c => agS Z.1 (tlK Z k) (nI c) m) 80).length) : J Fr_X11_fits (d + 5) 0 0 0 [(0, .ref 0), (1, .int (nI k)), (2, .int (nI m)), (3, .int (nI i))] [] M (jk_ex (some (.int (fitsK Z (nI m) (nI i) k).1)) (fun M1 => MV M1 (fitsK Z (nI m) (nI i) k).2)) := by
  refine j_post (fun Q hQ => ?_)
  have hM := cv.1
  have hS := cv.2.1
  have okS := ok.1
  have h40 := cv.2.2.2.2.2.2.2.2.2.2.1
  have hsk := shl_k hk
  have hsmk := shm_g (cv.2.2.2.1 k hk)
  have hzok := ok.sh hk
  have hzzk := shok0 hzok
  have hl64 := ft_64 okS (A := fun c => agS Z.1 (tlK Z k) (nI c) m)
  have hn1 := nI_n1 (show i < 2 ^ 31 by omega)
  refine j_aload_n 0 dX11_fits_0 rfl ?_
  refine j_iload_n 1 dX11_fits_1 rfl ?_
  refine j_iload_n 2 dX11_fits_2 rfl ?_
  refine j_callV (kc := 0) (ks := 0) (a := 0) (b := 0) (d' := (d + 2)) (As := [.int (nI k), .int (nI m)]) dX11_fits_3 kX11_293 rfl (shM hM sgM_0) (by omega) rfl rfl rfl (Nat.le_of_ble_eq_true rfl) (Nat.le_of_ble_eq_true rfl) (T_barsF1 cv ok k hk m hm z hz9 ez9 hmz hr0) (kk_p ?_)
  refine j_istore (L' := [(4, .int (prS Z.1 (tlK Z k) m)), (0, .ref 0), (1, .int (nI k)), (2, .int (nI m)), (3, .int (nI i))]) dX11_fits_6 (by decide) rfl ?_
  refine j_iload 0 dX11_fits_8 rfl ?_
  refine j_if_eq (tgt := 20) dX11_fits_10 rfl (fun c1 => ?_) (fun c1 => ?_)
  · refine j_aload_n 1 dX11_fits_20 rfl ?_
    refine j_iload_n 2 dX11_fits_21 rfl ?_
    refine j_iload_n 3 dX11_fits_22 rfl ?_
    refine j_callV (kc := 0) (ks := 0) (a := 0) (b := 0) (d' := (d + 4)) (As := [.int (nI k), .int (nI m)]) dX11_fits_23 kX11_296 rfl (shM hM sgM_0) (by omega) rfl rfl rfl (Nat.le_of_ble_eq_true rfl) (Nat.le_of_ble_eq_true rfl) (T_X11_findsFits cv ok k hk m hm z hz9 ez9 hmz hr0 (by assumption)) (kk_ev (fun M2 hM3 => ?_))
    obtain ⟨smF, hmvF, lkF, hft⟩ := hM3
    refine j_iload_n 4 dX11_fits_26 rfl ?_
    refine j_iconst (-1) dX11_fits_27 ic_n1 ?_
    refine j_icmp_ne (tgt := 36) dX11_fits_28 rfl (fun c4 => ?_) (fun c4 => ?_)
    · refine j_iload_n 4 dX11_fits_36 rfl ?_
      refine j_if_ltN (tgt := 48) i dX11_fits_37 (by omega) rfl ?_
      refine j_iload_n 4 dX11_fits_40 rfl ?_
      refine j_aload_n 1 dX11_fits_41 rfl ?_
      refine j_getv (nI (fitN Z.1 (fun c => agS Z.1 (tlK Z k) (nI c) m) 80).length) dX11_fits_42 fX11_290 (shM (Fm.M smF hM) sgM_0) rfl hft.1 ?_
      refine j_icmp_ltN (tgt := 57) i ((fitN Z.1 (fun c => agS Z.1 (tlK Z k) (nI c) m) 80).length) dX11_fits_45 rfl (by omega) (by omega) (fun c6 => ?_) (fun c6 => ?_)
      · refine j_aload_n 1 dX11_fits_57 rfl ?_
        refine j_getr (q := 29) dX11_fits_58 fX11_114 (shM (Fm.M smF hM) sgM_0) rfl (rfM (Fm.M smF hM) rfM_0_45) ?_
        refine j_iload_n 4 dX11_fits_61 rfl ?_
        refine j_ialdN i dX11_fits_62 (shM (Fm.M smF hM) sgM_29) (by omega) (by omega) ?_
        refine j_topi (nI ((fitN Z.1 (fun c => agS Z.1 (tlK Z k) (nI c) m) 80).getD i 0)) (hft.2 _ (by omega)) ?_
        refine j_iret dX11_fits_63 rfl ?_
        have hz : fitsK Z (nI m) (nI i) k = ((nI ((fitN Z.1 (fun c => agS Z.1 (tlK Z k) (nI c) m) 80).getD i 0)), Z) := by
          clear hQ
          clear cv hM hS
          have hcl := nI_clamp (show m < 2 ^ 31 by omega)
          have hi2 := i_ok hi (show (fitN Z.1 (fun c => agS Z.1 (tlK Z k) (nI c) m) 80).length < 2 ^ 31 by omega)
          have hcl2 := nI_clamp (show i < 2 ^ 31 by omega)
          grind [fitsK, cif, ftK]
        exact hQ _ _ ⟨by rw [hz], by rw [hz]; exact MV.ba cv (Fm.mo smF PFf_O) hmvF⟩
      · exact absurd c6 (by omega)
    · exact absurd c4 hn1
  · refine j_aload_n 1 dX11_fits_13 rfl ?_
    refine j_iload 0 dX11_fits_14 rfl ?_
    refine j_topi (-6) (prS_01.resolve_left c1) ?_
    refine j_callV (kc := 0) (ks := 0) (a := 0) (b := 0) (d' := d) (As := [.int (-6)]) dX11_fits_16 kX11_130 rfl (shM hM sgM_0) (by omega) rfl rfl rfl (Nat.le_of_ble_eq_true rfl) (Nat.le_of_ble_eq_true rfl) (T_X11_no hM (-6) (by decide)) (kk_p ?_)
    refine j_iret dX11_fits_19 rfl ?_
    have hz : fitsK Z (nI m) (nI i) k = ((-6), refZ Z (-6)) := by
      clear hQ
      clear cv hM hS
      have hcl := nI_clamp (show m < 2 ^ 31 by omega)
      have hi2 := i_ok hi (show (fitN Z.1 (fun c => agS Z.1 (tlK Z k) (nI c) m) 80).length < 2 ^ 31 by omega)
      have hcl2 := nI_clamp (show i < 2 ^ 31 by omega)
      grind [fitsK, cif, ftK]
    exact hQ _ _ ⟨by rw [hz], by rw [hz]; exact MV.rf cv (by decide)⟩
set_option maxRecDepth 20000 in
set_option maxHeartbeats 4000000 in
theorem N_fits3 {d : Nat} {M : jk_M} {Z : ZS} (cv : MV M Z) (ok : Zok Z) (k : Nat) (hk : k < 8) (m : Nat) (hm : m ≤ 40) (z : Nat) (hz9 : z ≤ 160) (ez9 : Z.2.2.1 k 1 = nI z) (hmz : 2 * m ≤ z) (hr0 : rrK Z k = 0) (h0 : tdK Z k (nI m) 2 = 0) (i : Int32) (h1 : ¬ i = -1) (hx : ¬ (0 ≤ i ∧ i < nI (fitN Z.1 (fun c => agS Z.1 (tlK Z k) (nI c) m) 80).length)) : J Fr_X11_fits (d + 5) 0 0 0 [(0, .ref 0), (1, .int (nI k)), (2, .int (nI m)), (3, .int i)] [] M (jk_ex (some (.int (fitsK Z (nI m) i k).1)) (fun M1 => MV M1 (fitsK Z (nI m) i k).2)) := by
  refine j_post (fun Q hQ => ?_)
  have hM := cv.1
  have hS := cv.2.1
  have okS := ok.1
  have h40 := cv.2.2.2.2.2.2.2.2.2.2.1
  have hsk := shl_k hk
  have hsmk := shm_g (cv.2.2.2.1 k hk)
  have hzok := ok.sh hk
  have hzzk := shok0 hzok
  have hl64 := ft_64 okS (A := fun c => agS Z.1 (tlK Z k) (nI c) m)
  refine j_aload_n 0 dX11_fits_0 rfl ?_
  refine j_iload_n 1 dX11_fits_1 rfl ?_
  refine j_iload_n 2 dX11_fits_2 rfl ?_
  refine j_callV (kc := 0) (ks := 0) (a := 0) (b := 0) (d' := (d + 2)) (As := [.int (nI k), .int (nI m)]) dX11_fits_3 kX11_293 rfl (shM hM sgM_0) (by omega) rfl rfl rfl (Nat.le_of_ble_eq_true rfl) (Nat.le_of_ble_eq_true rfl) (T_barsF1 cv ok k hk m hm z hz9 ez9 hmz hr0) (kk_p ?_)
  refine j_istore (L' := [(4, .int (prS Z.1 (tlK Z k) m)), (0, .ref 0), (1, .int (nI k)), (2, .int (nI m)), (3, .int i)]) dX11_fits_6 (by decide) rfl ?_
  refine j_iload 0 dX11_fits_8 rfl ?_
  refine j_if_eq (tgt := 20) dX11_fits_10 rfl (fun c1 => ?_) (fun c1 => ?_)
  · refine j_aload_n 1 dX11_fits_20 rfl ?_
    refine j_iload_n 2 dX11_fits_21 rfl ?_
    refine j_iload_n 3 dX11_fits_22 rfl ?_
    refine j_callV (kc := 0) (ks := 0) (a := 0) (b := 0) (d' := (d + 4)) (As := [.int (nI k), .int (nI m)]) dX11_fits_23 kX11_296 rfl (shM hM sgM_0) (by omega) rfl rfl rfl (Nat.le_of_ble_eq_true rfl) (Nat.le_of_ble_eq_true rfl) (T_X11_findsFits cv ok k hk m hm z hz9 ez9 hmz hr0 (by assumption)) (kk_ev (fun M2 hM3 => ?_))
    obtain ⟨smF, hmvF, lkF, hft⟩ := hM3
    refine j_iload_n 4 dX11_fits_26 rfl ?_
    refine j_iconst (-1) dX11_fits_27 ic_n1 ?_
    refine j_icmp_ne (tgt := 36) dX11_fits_28 rfl (fun c4 => ?_) (fun c4 => ?_)
    · refine j_iload_n 4 dX11_fits_36 rfl ?_
      refine j_if_lt (tgt := 48) dX11_fits_37 rfl (fun c5 => ?_) (fun c5 => ?_)
      · refine j_aload_n 1 dX11_fits_48 rfl ?_
        refine j_bipush (-5) dX11_fits_49 bp_n5 ?_
        refine j_callV (kc := 0) (ks := 0) (a := 0) (b := 0) (d' := d) (As := [.int (-5)]) dX11_fits_51 kX11_130 rfl (shM (Fm.M smF hM) sgM_0) (by omega) rfl rfl rfl (Nat.le_of_ble_eq_true rfl) (Nat.le_of_ble_eq_true rfl) (T_X11_no (Fm.M smF hM) (-5) (by decide)) (kk_p ?_)
        refine j_goto (tgt := 63) dX11_fits_54 rfl ?_
        refine j_iret dX11_fits_63 rfl ?_
        have hz : fitsK Z (nI m) i k = ((-5), refZ Z (-5)) := by
          clear hQ
          clear cv hM hS
          have hcl := nI_clamp (show m < 2 ^ 31 by omega)
          grind [fitsK, cif, ftK]
        exact hQ _ _ ⟨by rw [hz], by rw [hz]; exact MV.rf (MV.ba cv (Fm.mo smF PFf_O) hmvF) (by decide)⟩
      · refine j_iload_n 4 dX11_fits_40 rfl ?_
        refine j_aload_n 1 dX11_fits_41 rfl ?_
        refine j_getv (nI (fitN Z.1 (fun c => agS Z.1 (tlK Z k) (nI c) m) 80).length) dX11_fits_42 fX11_290 (shM (Fm.M smF hM) sgM_0) rfl hft.1 ?_
        refine j_icmp_lt (tgt := 57) dX11_fits_45 rfl (fun c6 => ?_) (fun c6 => ?_)
        · exact absurd (show 0 ≤ i ∧ i < nI (fitN Z.1 (fun c => agS Z.1 (tlK Z k) (nI c) m) 80).length by clear hQ; grind) hx
        · refine j_aload_n 1 dX11_fits_48 rfl ?_
          refine j_bipush (-5) dX11_fits_49 bp_n5 ?_
          refine j_callV (kc := 0) (ks := 0) (a := 0) (b := 0) (d' := d) (As := [.int (-5)]) dX11_fits_51 kX11_130 rfl (shM (Fm.M smF hM) sgM_0) (by omega) rfl rfl rfl (Nat.le_of_ble_eq_true rfl) (Nat.le_of_ble_eq_true rfl) (T_X11_no (Fm.M smF hM) (-5) (by decide)) (kk_p ?_)
          refine j_goto (tgt := 63) dX11_fits_54 rfl ?_
          refine j_iret dX11_fits_63 rfl ?_
          have hz : fitsK Z (nI m) i k = ((-5), refZ Z (-5)) := by
            clear hQ
            clear cv hM hS
            have hcl := nI_clamp (show m < 2 ^ 31 by omega)
            grind [fitsK, cif, ftK]
          exact hQ _ _ ⟨by rw [hz], by rw [hz]; exact MV.rf (MV.ba cv (Fm.mo smF PFf_O) hmvF) (by decide)⟩
    · exact absurd c4 h1
  · refine j_aload_n 1 dX11_fits_13 rfl ?_
    refine j_iload 0 dX11_fits_14 rfl ?_
    refine j_topi (-6) (prS_01.resolve_left c1) ?_
    refine j_callV (kc := 0) (ks := 0) (a := 0) (b := 0) (d' := d) (As := [.int (-6)]) dX11_fits_16 kX11_130 rfl (shM hM sgM_0) (by omega) rfl rfl rfl (Nat.le_of_ble_eq_true rfl) (Nat.le_of_ble_eq_true rfl) (T_X11_no hM (-6) (by decide)) (kk_p ?_)
    refine j_iret dX11_fits_19 rfl ?_
    have hz : fitsK Z (nI m) i k = ((-6), refZ Z (-6)) := by
      clear hQ
      clear cv hM hS
      have hcl := nI_clamp (show m < 2 ^ 31 by omega)
      grind [fitsK, cif, ftK]
    exact hQ _ _ ⟨by rw [hz], by rw [hz]; exact MV.rf cv (by decide)⟩
set_option maxRecDepth 20000 in
set_option maxHeartbeats 4000000 in
theorem N_fitsNo {d : Nat} {M : jk_M} {Z : ZS} (cv : MV M Z) (ok : Zok Z) (s n i : Int32) (hs : ¬ (0 ≤ s ∧ s < 8)) : J Fr_X11_fits (d + 5) 0 0 0 [(0, .ref 0), (1, .int s), (2, .int n), (3, .int i)] [] M (jk_ex (some (.int (((-1 : Int32), refZ Z (-1))).1)) (fun M1 => MV M1 (((-1 : Int32), refZ Z (-1))).2)) := by
  refine j_post (fun Q hQ => ?_)
  have hM := cv.1
  have hS := cv.2.1
  have okS := ok.1
  have h40 := cv.2.2.2.2.2.2.2.2.2.2.1
  refine j_aload_n 0 dX11_fits_0 rfl ?_
  refine j_iload_n 1 dX11_fits_1 rfl ?_
  refine j_iload_n 2 dX11_fits_2 rfl ?_
  refine j_callV (kc := 0) (ks := 0) (a := 0) (b := 0) (d' := (d + 2)) (As := [.int s, .int n]) dX11_fits_3 kX11_293 rfl (shM hM sgM_0) (by omega) rfl rfl rfl (Nat.le_of_ble_eq_true rfl) (Nat.le_of_ble_eq_true rfl) (T_barsFN hM s n hs) (kk_p ?_)
  refine j_istore (L' := [(4, .int (-1)), (0, .ref 0), (1, .int s), (2, .int n), (3, .int i)]) dX11_fits_6 (by decide) rfl ?_
  refine j_iload 0 dX11_fits_8 rfl ?_
  refine j_if_eq (tgt := 20) dX11_fits_10 rfl (fun c1 => ?_) (fun c1 => ?_)
  · exact absurd c1 (by decide)
  · refine j_aload_n 1 dX11_fits_13 rfl ?_
    refine j_iload 0 dX11_fits_14 rfl ?_
    refine j_callV (kc := 0) (ks := 0) (a := 0) (b := 0) (d' := d) (As := [.int (-1)]) dX11_fits_16 kX11_130 rfl (shM hM sgM_0) (by omega) rfl rfl rfl (Nat.le_of_ble_eq_true rfl) (Nat.le_of_ble_eq_true rfl) (T_X11_no hM (-1) (by decide)) (kk_p ?_)
    refine j_iret dX11_fits_19 rfl ?_
    exact hQ _ _ ⟨rfl, MV.rf cv (by decide)⟩
theorem N_fits {d : Nat} {M : jk_M} {Z : ZS} (cv : MV M Z) (ok : Zok Z) (s n i : Int32) : J Fr_X11_fits (d + 5) 0 0 0 [(0, .ref 0), (1, .int s), (2, .int n), (3, .int i)] [] M (jk_ex (some (.int (fitsZ Z s n i).1)) (fun M1 => MV M1 (fitsZ Z s n i).2)) := by
  by_cases h : 0 ≤ s ∧ s < 8
  · obtain ⟨k, hk, rfl⟩ := s_in h
    rw [fitsZ, inS_y hk]
    by_cases h0 : tdK Z k n 2 = 0
    · obtain ⟨m, hm, rfl⟩ := td_n h0
      obtain ⟨z, hz9, ez9, hmz, hr0⟩ := td_z2 ok hk hm h0
      have hl64 := ft_64 ok.1 (A := fun c => agS Z.1 (tlK Z k) (nI c) m)
      by_cases h1 : i = -1
      · subst h1; exact N_fits1 cv ok k hk m hm z hz9 ez9 hmz hr0 h0
      · by_cases h2 : 0 ≤ i ∧ i < nI (fitN Z.1 (fun c => agS Z.1 (tlK Z k) (nI c) m) 80).length
        · obtain ⟨j, hj, rfl⟩ := i_in (by omega) h2
          exact N_fits2 cv ok k hk m hm z hz9 ez9 hmz hr0 h0 j hj
        · exact N_fits3 cv ok k hk m hm z hz9 ez9 hmz hr0 h0 i h1 h2
    · exact N_fits0 cv ok k hk n i h0
  · rw [fitsZ, inS_n h]; exact N_fitsNo cv ok s n i h
set_option maxRecDepth 20000 in
set_option maxHeartbeats 4000000 in
theorem N_next0 {d : Nat} {M : jk_M} {Z : ZS} (cv : MV M Z) (ok : Zok Z) (k : Nat) (hk : k < 8) (n : Int32) (h0 : ¬ tdK Z k n 2 = 0) : J Fr_X11_next (d + 5) 0 0 0 [(0, .ref 0), (1, .int (nI k)), (2, .int n)] [] M (jk_ex (some (.int (nextK Z n k).1)) (fun M1 => MV M1 (nextK Z n k).2)) := by
  refine j_post (fun Q hQ => ?_)
  have hM := cv.1
  have hS := cv.2.1
  have okS := ok.1
  have h40 := cv.2.2.2.2.2.2.2.2.2.2.1
  have hsk := shl_k hk
  have hsmk := shm_g (cv.2.2.2.1 k hk)
  have hzok := ok.sh hk
  have hzzk := shok0 hzok
  have hc9 : 0 < 0 - tdK Z k n 2 ∧ 0 - tdK Z k n 2 < 8 := td_hc h0
  refine j_aload_n 0 dX11_next_0 rfl ?_
  refine j_iload_n 1 dX11_next_1 rfl ?_
  refine j_iload_n 2 dX11_next_2 rfl ?_
  refine j_callV (kc := 0) (ks := 0) (a := 0) (b := 0) (d' := (d + 2)) (As := [.int (nI k), .int n]) dX11_next_3 kX11_293 rfl (shM hM sgM_0) (by omega) rfl rfl rfl (Nat.le_of_ble_eq_true rfl) (Nat.le_of_ble_eq_true rfl) (T_barsF0 cv ok k hk n h0) (kk_p ?_)
  refine j_istore_n (L' := [(3, .int (tdK Z k n 2)), (0, .ref 0), (1, .int (nI k)), (2, .int n)]) dX11_next_6 (by decide) rfl ?_
  refine j_iload_n 0 dX11_next_7 rfl ?_
  refine j_if_eq (tgt := 17) dX11_next_8 rfl (fun c1 => ?_) (fun c1 => ?_)
  · exact absurd c1 h0
  · refine j_aload_n 1 dX11_next_11 rfl ?_
    refine j_iload_n 0 dX11_next_12 rfl ?_
    refine j_callV (kc := 0) (ks := 0) (a := 0) (b := 0) (d' := d) (As := [.int (tdK Z k n 2)]) dX11_next_13 kX11_167 rfl (shM hM sgM_0) (by omega) rfl rfl rfl (Nat.le_of_ble_eq_true rfl) (Nat.le_of_ble_eq_true rfl) (T_X11_noTen hM (tdK Z k n 2) hc9) (kk_p ?_)
    refine j_iret dX11_next_16 rfl ?_
    have hz : nextK Z n k = (((tdK Z k n 2) - 10), refZ Z (tdK Z k n 2)) := by rw [nextK, cif_t h0, Int32.sub_eq_add_neg]
    exact hQ _ _ ⟨by rw [hz], by rw [hz]; exact MV.rf cv hc9⟩
set_option maxRecDepth 20000 in
set_option maxHeartbeats 4000000 in
theorem N_next1 {d : Nat} {M : jk_M} {Z : ZS} (cv : MV M Z) (ok : Zok Z) (k : Nat) (hk : k < 8) (m : Nat) (hm : m ≤ 40) (z : Nat) (hz9 : z ≤ 160) (ez9 : Z.2.2.1 k 1 = nI z) (hmz : 2 * m ≤ z) (hr0 : rrK Z k = 0) (h0 : tdK Z k (nI m) 2 = 0) : J Fr_X11_next (d + 5) 0 0 0 [(0, .ref 0), (1, .int (nI k)), (2, .int (nI m))] [] M (jk_ex (some (.int (nextK Z (nI m) k).1)) (fun M1 => MV M1 (nextK Z (nI m) k).2)) := by
  refine j_post (fun Q hQ => ?_)
  have hM := cv.1
  have hS := cv.2.1
  have okS := ok.1
  have h40 := cv.2.2.2.2.2.2.2.2.2.2.1
  have hsk := shl_k hk
  have hsmk := shm_g (cv.2.2.2.1 k hk)
  have hzok := ok.sh hk
  have hzzk := shok0 hzok
  have hl64 := ft_64 okS (A := fun c => agS Z.1 (tlK Z k) (nI c) m)
  have h8 := (Sok.S okS).2.2
  refine j_aload_n 0 dX11_next_0 rfl ?_
  refine j_iload_n 1 dX11_next_1 rfl ?_
  refine j_iload_n 2 dX11_next_2 rfl ?_
  refine j_callV (kc := 0) (ks := 0) (a := 0) (b := 0) (d' := (d + 2)) (As := [.int (nI k), .int (nI m)]) dX11_next_3 kX11_293 rfl (shM hM sgM_0) (by omega) rfl rfl rfl (Nat.le_of_ble_eq_true rfl) (Nat.le_of_ble_eq_true rfl) (T_barsF1 cv ok k hk m hm z hz9 ez9 hmz hr0) (kk_p ?_)
  refine j_istore_n (L' := [(3, .int (prS Z.1 (tlK Z k) m)), (0, .ref 0), (1, .int (nI k)), (2, .int (nI m))]) dX11_next_6 (by decide) rfl ?_
  refine j_iload_n 0 dX11_next_7 rfl ?_
  refine j_if_eq (tgt := 17) dX11_next_8 rfl (fun c1 => ?_) (fun c1 => ?_)
  · refine j_aload_n 1 dX11_next_17 rfl ?_
    refine j_iload_n 2 dX11_next_18 rfl ?_
    refine j_iload_n 3 dX11_next_19 rfl ?_
    refine j_callV (kc := 0) (ks := 0) (a := 0) (b := 0) (d' := (d + 4)) (As := [.int (nI k), .int (nI m)]) dX11_next_20 kX11_296 rfl (shM hM sgM_0) (by omega) rfl rfl rfl (Nat.le_of_ble_eq_true rfl) (Nat.le_of_ble_eq_true rfl) (T_X11_findsFits cv ok k hk m hm z hz9 ez9 hmz hr0 (by assumption)) (kk_ev (fun M2 hM3 => ?_))
    obtain ⟨smF, hmvF, lkF, hft⟩ := hM3
    refine j_aload_n 1 dX11_next_23 rfl ?_
    refine j_getv (nI (fitN Z.1 (fun c => agS Z.1 (tlK Z k) (nI c) m) 80).length) dX11_next_24 fX11_290 (shM (Fm.M smF hM) sgM_0) rfl hft.1 ?_
    refine j_iconst 2 dX11_next_27 ic_2 ?_
    refine j_icmp_geN (tgt := 33) ((fitN Z.1 (fun c => agS Z.1 (tlK Z k) (nI c) m) 80).length) 2 dX11_next_28 rfl (by omega) (by omega) (fun c4 => ?_) (fun c4 => ?_)
    · refine j_aload_n 1 dX11_next_33 rfl ?_
      refine j_getr (q := 12) dX11_next_34 fX11_59 (shM (Fm.M smF hM) sgM_0) rfl (rfM (Fm.M smF hM) rfM_0_20) ?_
      refine j_iconst 0 dX11_next_37 ic_0 ?_
      refine j_ialdN 0 dX11_next_38 (shM (Fm.M smF hM) sgM_12) (by omega) (by omega) ?_
      refine j_topi (Z.1 5 0) (mr_b0 hmvF) ?_
      refine j_istore (L' := [(4, .int (Z.1 5 0)), (3, .int (prS Z.1 (tlK Z k) m)), (0, .ref 0), (1, .int (nI k)), (2, .int (nI m))]) dX11_next_39 (by decide) rfl ?_
      refine j_iconst (-1) dX11_next_41 ic_n1 ?_
      refine j_istore (L' := [(5, .int (-1)), (4, .int (Z.1 5 0)), (3, .int (prS Z.1 (tlK Z k) m)), (0, .ref 0), (1, .int (nI k)), (2, .int (nI m))]) dX11_next_42 (by decide) rfl ?_
      refine j_iconst 0 dX11_next_44 ic_0 ?_
      refine j_istore (L' := [(6, .int 0), (5, .int (-1)), (4, .int (Z.1 5 0)), (3, .int (prS Z.1 (tlK Z k) m)), (0, .ref 0), (1, .int (nI k)), (2, .int (nI m))]) dX11_next_45 (by decide) rfl ?_
      refine j_iconst 0 dX11_next_47 ic_0 ?_
      refine j_istore (L' := [(7, .int 0), (6, .int 0), (5, .int (-1)), (4, .int (Z.1 5 0)), (3, .int (prS Z.1 (tlK Z k) m)), (0, .ref 0), (1, .int (nI k)), (2, .int (nI m))]) dX11_next_48 (by decide) rfl ?_
      have z1 : (-1 : Int32) = (bmI Z.1 (fitN Z.1 (fun c => agS Z.1 (tlK Z k) (nI c) m) 80) (10 * 0)).1 := rfl
      have z2 : (0 : Int32) = (bmI Z.1 (fitN Z.1 (fun c => agS Z.1 (tlK Z k) (nI c) m) 80) (10 * 0)).2 := rfl
      refine j_L (congrArg (fun zz9 : Int32 => ([(7, .int 0), (6, .int 0), (5, .int zz9), (4, .int (Z.1 5 0)), (3, .int (prS Z.1 (tlK Z k) m)), (0, .ref 0), (1, .int (nI k)), (2, .int (nI m))] : List (Nat × Value))) z1) ?_
      refine j_L (congrArg (fun zz9 : Int32 => ([(7, .int 0), (6, .int zz9), (5, .int (bmI Z.1 (fitN Z.1 (fun c => agS Z.1 (tlK Z k) (nI c) m) 80) (10 * 0)).1), (4, .int (Z.1 5 0)), (3, .int (prS Z.1 (tlK Z k) m)), (0, .ref 0), (1, .int (nI k)), (2, .int (nI m))] : List (Nat × Value))) z2) ?_
      have lp7 : ∀ (k5 : Nat) (r : Nat) (M1 : jk_M), nS Z.1 - r < k5 → (r ≤ nS Z.1) → (Fm PFf M M1) → (∃ x, mv M1.2.1 = upS Z.1 5 0 x) → (LkO Z.1 M1) → (FtO M1 (fitN Z.1 (fun c => agS Z.1 (tlK Z k) (nI c) m) 80)) → J Fr_X11_next (d + 5) 0 0 50 [(0, .ref 0), (1, .int (nI k)), (2, .int (nI m)), (3, .int (prS Z.1 (tlK Z k) m)), (4, .int (Z.1 5 0)), (5, .int (bmI Z.1 (fitN Z.1 (fun c => agS Z.1 (tlK Z k) (nI c) m) 80) (10 * r)).1), (6, .int (bmI Z.1 (fitN Z.1 (fun c => agS Z.1 (tlK Z k) (nI c) m) 80) (10 * r)).2), (7, .int (nI r))] [] M1 Q := by
        intro k5
        induction k5 with
        | zero => intro r M1 hk; exact absurd hk (Nat.not_lt_zero _)
        | succ k5 ih6 =>
          intro r M1 hk5 hr hs1 hxx lk1 hf1
          refine j_iload 7 dX11_next_50 rfl ?_
          obtain ⟨x, hx⟩ := hxx
          refine j_aload_n 0 dX11_next_52 rfl ?_
          refine j_getv (nI (nS Z.1)) dX11_next_53 fX11_7 (shM (Fm.M hs1 hM) sgM_0) rfl (((mr_side hx).trans (upS_n (by omega))).trans (Sok.S okS).1) ?_
          refine j_icmp_geN (tgt := 127) r (nS Z.1) dX11_next_56 rfl (by omega) (by omega) (fun c8 => ?_) (fun c8 => ?_)
          · have hend : (bmI Z.1 (fitN Z.1 (fun c => agS Z.1 (tlK Z k) (nI c) m) 80) (10 * r)) = (bmI Z.1 (fitN Z.1 (fun c => agS Z.1 (tlK Z k) (nI c) m) 80) 80) := by
              rw [show r = nS Z.1 by omega]; exact sk_end okS (g := fun n_ => (bmI Z.1 (fitN Z.1 (fun c => agS Z.1 (tlK Z k) (nI c) m) 80) n_)) (bmI_k okS)
            refine j_aload_n 0 dX11_next_127 rfl ?_
            refine j_getr (q := 12) dX11_next_128 fX11_59 (shM (Fm.M hs1 hM) sgM_0) rfl (rfM (Fm.M hs1 hM) rfM_0_20) ?_
            refine j_iconst 0 dX11_next_131 ic_0 ?_
            refine j_iload 4 dX11_next_132 rfl ?_
            refine j_iastN 0 dX11_next_134 (shM (Fm.M hs1 hM) sgM_12) (by omega) (by omega) ?_
            have sm9 : Fm PFf M (jk_wI M1 12 0 (Z.1 5 0)) := Fm.w hs1 (by unfold PFf PLk; omega)
            refine j_iload 5 dX11_next_135 rfl ?_
            refine j_iret dX11_next_137 rfl ?_
            have hbm : (bmS Z.1 (ftK Z m k) 80).1 = (bmI Z.1 (fitN Z.1 (fun c => agS Z.1 (tlK Z k) (nI c) m) 80) (10 * r)).1 := by rw [hend]; rfl
            have hz : nextK Z (nI m) k = ((bmI Z.1 (fitN Z.1 (fun c => agS Z.1 (tlK Z k) (nI c) m) 80) (10 * r)).1, Z) := by
              rw [nextK, cif_f (fun z => z h0), nI_clamp (by omega), cif_f (fun z => z (by assumption)), cif_f (by unfold ftK; omega), hbm]
            have hmvE : mv (jk_wI M1 12 0 (Z.1 5 0)).2.1 = Z.1 := by
              have q := mv_sc (a := 5) (x := Z.1 5 0) hx (by decide) (by decide) (by decide) (by decide)
              rw [upS_up, upS_id] at q; exact q
            exact hQ _ _ ⟨by rw [hz], by rw [hz]; exact MV.ba cv (Fm.mo sm9 PFf_O) hmvE⟩
          · refine j_iconst 0 dX11_next_59 ic_0 ?_
            refine j_istore (L' := [(8, .int 0), (0, .ref 0), (1, .int (nI k)), (2, .int (nI m)), (3, .int (prS Z.1 (tlK Z k) m)), (4, .int (Z.1 5 0)), (5, .int (bmI Z.1 (fitN Z.1 (fun c => agS Z.1 (tlK Z k) (nI c) m) 80) (10 * r)).1), (6, .int (bmI Z.1 (fitN Z.1 (fun c => agS Z.1 (tlK Z k) (nI c) m) 80) (10 * r)).2), (7, .int (nI r))]) dX11_next_60 (by decide) rfl ?_
            have w1 : (bmI Z.1 (fitN Z.1 (fun c => agS Z.1 (tlK Z k) (nI c) m) 80) (10 * r)).1 = (bmI Z.1 (fitN Z.1 (fun c => agS Z.1 (tlK Z k) (nI c) m) 80) (10 * r + 0)).1 := rfl
            have w2 : (bmI Z.1 (fitN Z.1 (fun c => agS Z.1 (tlK Z k) (nI c) m) 80) (10 * r)).2 = (bmI Z.1 (fitN Z.1 (fun c => agS Z.1 (tlK Z k) (nI c) m) 80) (10 * r + 0)).2 := rfl
            refine j_L (congrArg (fun zz9 : Int32 => ([(8, .int 0), (0, .ref 0), (1, .int (nI k)), (2, .int (nI m)), (3, .int (prS Z.1 (tlK Z k) m)), (4, .int (Z.1 5 0)), (5, .int zz9), (6, .int (bmI Z.1 (fitN Z.1 (fun c => agS Z.1 (tlK Z k) (nI c) m) 80) (10 * r)).2), (7, .int (nI r))] : List (Nat × Value))) w1) ?_
            refine j_L (congrArg (fun zz9 : Int32 => ([(8, .int 0), (0, .ref 0), (1, .int (nI k)), (2, .int (nI m)), (3, .int (prS Z.1 (tlK Z k) m)), (4, .int (Z.1 5 0)), (5, .int (bmI Z.1 (fitN Z.1 (fun c => agS Z.1 (tlK Z k) (nI c) m) 80) (10 * r + 0)).1), (6, .int zz9), (7, .int (nI r))] : List (Nat × Value))) w2) ?_
            have lp12 : ∀ (k10 : Nat) (c : Nat) (M2 : jk_M), nS Z.1 - c < k10 → (c ≤ nS Z.1) → (Fm PFf M M2) → (∃ x, mv M2.2.1 = upS Z.1 5 0 x) → (LkO Z.1 M2) → (FtO M2 (fitN Z.1 (fun c => agS Z.1 (tlK Z k) (nI c) m) 80)) → J Fr_X11_next (d + 5) 0 0 62 [(0, .ref 0), (1, .int (nI k)), (2, .int (nI m)), (3, .int (prS Z.1 (tlK Z k) m)), (4, .int (Z.1 5 0)), (5, .int (bmI Z.1 (fitN Z.1 (fun c => agS Z.1 (tlK Z k) (nI c) m) 80) (10 * r + c)).1), (6, .int (bmI Z.1 (fitN Z.1 (fun c => agS Z.1 (tlK Z k) (nI c) m) 80) (10 * r + c)).2), (7, .int (nI r)), (8, .int (nI c))] [] M2 Q := by
              intro k10
              induction k10 with
              | zero => intro c M2 hk; exact absurd hk (Nat.not_lt_zero _)
              | succ k10 ih11 =>
                intro c M2 hk10 hc hs2 hyy lk2 hf2
                refine j_iload 8 dX11_next_62 rfl ?_
                obtain ⟨x, hx⟩ := hyy
                refine j_aload_n 0 dX11_next_64 rfl ?_
                refine j_getv (nI (nS Z.1)) dX11_next_65 fX11_7 (shM (Fm.M hs2 hM) sgM_0) rfl (((mr_side hx).trans (upS_n (by omega))).trans (Sok.S okS).1) ?_
                refine j_icmp_geN (tgt := 121) c (nS Z.1) dX11_next_68 rfl (by omega) (by omega) (fun c13 => ?_) (fun c13 => ?_)
                · refine j_iinc 7 (nI (r + 1)) (L' := [(7, .int (nI (r + 1))), (0, .ref 0), (1, .int (nI k)), (2, .int (nI m)), (3, .int (prS Z.1 (tlK Z k) m)), (4, .int (Z.1 5 0)), (5, .int (bmI Z.1 (fitN Z.1 (fun c => agS Z.1 (tlK Z k) (nI c) m) 80) (10 * r + c)).1), (6, .int (bmI Z.1 (fitN Z.1 (fun c => agS Z.1 (tlK Z k) (nI c) m) 80) (10 * r + c)).2), (8, .int (nI c))]) dX11_next_121 rfl (inc1 r) (by decide) rfl ?_
                  refine j_goto (tgt := 50) dX11_next_124 rfl ?_
                  have hrow : (bmI Z.1 (fitN Z.1 (fun c => agS Z.1 (tlK Z k) (nI c) m) 80) (10 * r + c)) = (bmI Z.1 (fitN Z.1 (fun c => agS Z.1 (tlK Z k) (nI c) m) 80) (10 * (r + 1))) := by
                    rw [show c = nS Z.1 by omega]; exact sk_row okS (g := fun n_ => (bmI Z.1 (fitN Z.1 (fun c => agS Z.1 (tlK Z k) (nI c) m) 80) n_)) (bmI_k okS) (by omega)
                  have hr1 := congrArg Prod.fst hrow
                  have hr2 := congrArg Prod.snd hrow
                  refine j_L (congrArg (fun zz9 : Int32 => ([(7, .int (nI (r + 1))), (0, .ref 0), (1, .int (nI k)), (2, .int (nI m)), (3, .int (prS Z.1 (tlK Z k) m)), (4, .int (Z.1 5 0)), (5, .int zz9), (6, .int (bmI Z.1 (fitN Z.1 (fun c => agS Z.1 (tlK Z k) (nI c) m) 80) (10 * r + c)).2), (8, .int (nI c))] : List (Nat × Value))) hr1) ?_
                  refine j_L (congrArg (fun zz9 : Int32 => ([(7, .int (nI (r + 1))), (0, .ref 0), (1, .int (nI k)), (2, .int (nI m)), (3, .int (prS Z.1 (tlK Z k) m)), (4, .int (Z.1 5 0)), (5, .int (bmI Z.1 (fitN Z.1 (fun c => agS Z.1 (tlK Z k) (nI c) m) 80) (10 * (r + 1))).1), (6, .int zz9), (8, .int (nI c))] : List (Nat × Value))) hr2) ?_
                  exact j_sub (jk_pick [1, 2, 3, 4, 5, 6, 7, 0] rfl) (ih6 (r + 1) M2 (by omega) (by omega) hs2 ⟨x, hx⟩ lk2 hf2)
                · have hcell := isC_of (n := 10 * r + c) okS (show 10 * r + c < 80 by omega) (by omega) (by omega)
                  refine j_aload_n 0 dX11_next_71 rfl ?_
                  refine j_bipush 10 dX11_next_72 bp_10 ?_
                  refine j_iload 7 dX11_next_74 rfl ?_
                  refine j_imulN 10 r dX11_next_76 ?_
                  refine j_iload 8 dX11_next_77 rfl ?_
                  refine j_iaddN (10 * r) c dX11_next_79 ?_
                  refine j_callV (kc := 0) (ks := 0) (a := 0) (b := 0) (d' := (d + 4)) (As := [.int (nI ((10 * r) + c))]) dX11_next_80 kX11_299 rfl (shM (Fm.M hs2 hM) sgM_0) (by omega) rfl rfl rfl (Nat.le_of_ble_eq_true rfl) (Nat.le_of_ble_eq_true rfl) (T_X11_worstAt (Fm.M hs2 hM) okS ⟨x, hx⟩ lk2 hf2 (fun i hi => (ft_get hi).1) hl64 (nI ((10 * r) + c)) hcell) (kk_e (fun M14 hM15 => ?_))
                  obtain ⟨h0W, hxW⟩ := hM15
                  have sm16 := Fm.tr hs2 (Fm.mo h0W PWa_F)
                  refine j_istore (L' := [(9, .int (wlS Z.1 (nI (10 * r + c)) (fitN Z.1 (fun c => agS Z.1 (tlK Z k) (nI c) m) 80) (fitN Z.1 (fun c => agS Z.1 (tlK Z k) (nI c) m) 80).length).2), (0, .ref 0), (1, .int (nI k)), (2, .int (nI m)), (3, .int (prS Z.1 (tlK Z k) m)), (4, .int (Z.1 5 0)), (5, .int (bmI Z.1 (fitN Z.1 (fun c => agS Z.1 (tlK Z k) (nI c) m) 80) (10 * r + c)).1), (6, .int (bmI Z.1 (fitN Z.1 (fun c => agS Z.1 (tlK Z k) (nI c) m) 80) (10 * r + c)).2), (7, .int (nI r)), (8, .int (nI c))]) dX11_next_83 (by decide) rfl ?_
                  refine j_iload 6 dX11_next_85 rfl ?_
                  refine j_iconst (-1) dX11_next_87 ic_n1 ?_
                  refine j_icmp_eq (tgt := 101) dX11_next_88 rfl (fun c17 => ?_) (fun c17 => ?_)
                  · refine j_bipush 10 dX11_next_101 bp_10 ?_
                    refine j_iload 8 dX11_next_103 rfl ?_
                    refine j_imulN 10 r dX11_next_105 ?_
                    refine j_iload 9 dX11_next_106 rfl ?_
                    refine j_iaddN (10 * r) c dX11_next_108 ?_
                    refine j_istore (L' := [(5, .int (nI ((10 * r) + c))), (9, .int (wlS Z.1 (nI (10 * r + c)) (fitN Z.1 (fun c => agS Z.1 (tlK Z k) (nI c) m) 80) (fitN Z.1 (fun c => agS Z.1 (tlK Z k) (nI c) m) 80).length).2), (0, .ref 0), (1, .int (nI k)), (2, .int (nI m)), (3, .int (prS Z.1 (tlK Z k) m)), (4, .int (Z.1 5 0)), (6, .int (bmI Z.1 (fitN Z.1 (fun c => agS Z.1 (tlK Z k) (nI c) m) 80) (10 * r + c)).2), (7, .int (nI r)), (8, .int (nI c))]) dX11_next_109 (by decide) rfl ?_
                    refine j_iload 1 dX11_next_111 rfl ?_
                    refine j_istore (L' := [(6, .int (wlS Z.1 (nI (10 * r + c)) (fitN Z.1 (fun c => agS Z.1 (tlK Z k) (nI c) m) 80) (fitN Z.1 (fun c => agS Z.1 (tlK Z k) (nI c) m) 80).length).2), (5, .int (nI ((10 * r) + c))), (9, .int (wlS Z.1 (nI (10 * r + c)) (fitN Z.1 (fun c => agS Z.1 (tlK Z k) (nI c) m) 80) (fitN Z.1 (fun c => agS Z.1 (tlK Z k) (nI c) m) 80).length).2), (0, .ref 0), (1, .int (nI k)), (2, .int (nI m)), (3, .int (prS Z.1 (tlK Z k) m)), (4, .int (Z.1 5 0)), (7, .int (nI r)), (8, .int (nI c))]) dX11_next_113 (by decide) rfl ?_
                    refine j_iinc 9 (nI (c + 1)) (L' := [(8, .int (nI (c + 1))), (6, .int (wlS Z.1 (nI (10 * r + c)) (fitN Z.1 (fun c => agS Z.1 (tlK Z k) (nI c) m) 80) (fitN Z.1 (fun c => agS Z.1 (tlK Z k) (nI c) m) 80).length).2), (5, .int (nI ((10 * r) + c))), (9, .int (wlS Z.1 (nI (10 * r + c)) (fitN Z.1 (fun c => agS Z.1 (tlK Z k) (nI c) m) 80) (fitN Z.1 (fun c => agS Z.1 (tlK Z k) (nI c) m) 80).length).2), (0, .ref 0), (1, .int (nI k)), (2, .int (nI m)), (3, .int (prS Z.1 (tlK Z k) m)), (4, .int (Z.1 5 0)), (7, .int (nI r))]) dX11_next_115 rfl (inc1 c) (by decide) rfl ?_
                    refine j_goto (tgt := 62) dX11_next_118 rfl ?_
                    have hb1 : (bmI Z.1 (fitN Z.1 (fun c => agS Z.1 (tlK Z k) (nI c) m) 80) (10 * r + (c + 1))) = ((nI ((10 * r) + c)), (wlS Z.1 (nI (10 * r + c)) (fitN Z.1 (fun c => agS Z.1 (tlK Z k) (nI c) m) 80) (fitN Z.1 (fun c => agS Z.1 (tlK Z k) (nI c) m) 80).length).2) := (bmI_s okS (by omega) (n := 10 * r + c) (by omega) hcell).trans (if_pos (Or.inl c17))
                    have hb2 : (nI ((10 * r) + c)) = (bmI Z.1 (fitN Z.1 (fun c => agS Z.1 (tlK Z k) (nI c) m) 80) (10 * r + (c + 1))).1 := by rw [hb1]
                    have hb3 : (wlS Z.1 (nI (10 * r + c)) (fitN Z.1 (fun c => agS Z.1 (tlK Z k) (nI c) m) 80) (fitN Z.1 (fun c => agS Z.1 (tlK Z k) (nI c) m) 80).length).2 = (bmI Z.1 (fitN Z.1 (fun c => agS Z.1 (tlK Z k) (nI c) m) 80) (10 * r + (c + 1))).2 := by rw [hb1]
                    refine j_L (congrArg (fun zz9 : Int32 => ([(8, .int (nI (c + 1))), (6, .int (wlS Z.1 (nI (10 * r + c)) (fitN Z.1 (fun c => agS Z.1 (tlK Z k) (nI c) m) 80) (fitN Z.1 (fun c => agS Z.1 (tlK Z k) (nI c) m) 80).length).2), (5, .int zz9), (9, .int (wlS Z.1 (nI (10 * r + c)) (fitN Z.1 (fun c => agS Z.1 (tlK Z k) (nI c) m) 80) (fitN Z.1 (fun c => agS Z.1 (tlK Z k) (nI c) m) 80).length).2), (0, .ref 0), (1, .int (nI k)), (2, .int (nI m)), (3, .int (prS Z.1 (tlK Z k) m)), (4, .int (Z.1 5 0)), (7, .int (nI r))] : List (Nat × Value))) hb2) ?_
                    refine j_L (congrArg (fun zz9 : Int32 => ([(8, .int (nI (c + 1))), (6, .int zz9), (5, .int (bmI Z.1 (fitN Z.1 (fun c => agS Z.1 (tlK Z k) (nI c) m) 80) (10 * r + (c + 1))).1), (9, .int (wlS Z.1 (nI (10 * r + c)) (fitN Z.1 (fun c => agS Z.1 (tlK Z k) (nI c) m) 80) (fitN Z.1 (fun c => agS Z.1 (tlK Z k) (nI c) m) 80).length).2), (0, .ref 0), (1, .int (nI k)), (2, .int (nI m)), (3, .int (prS Z.1 (tlK Z k) m)), (4, .int (Z.1 5 0)), (7, .int (nI r))] : List (Nat × Value))) hb3) ?_
                    exact j_sub (jk_pick [4, 5, 6, 7, 8, 2, 1, 9, 0] rfl) (ih11 (c + 1) M14 (by omega) (by omega) sm16 hxW (lk2.f0 (Fm.mo h0W PWa_0)) (hf2.wa h0W))
                  · refine j_iload 0 dX11_next_91 rfl ?_
                    refine j_iload 7 dX11_next_93 rfl ?_
                    refine j_icmp_lt (tgt := 101) dX11_next_95 rfl (fun c18 => ?_) (fun c18 => ?_)
                    · refine j_bipush 10 dX11_next_101 bp_10 ?_
                      refine j_iload 8 dX11_next_103 rfl ?_
                      refine j_imulN 10 r dX11_next_105 ?_
                      refine j_iload 9 dX11_next_106 rfl ?_
                      refine j_iaddN (10 * r) c dX11_next_108 ?_
                      refine j_istore (L' := [(5, .int (nI ((10 * r) + c))), (9, .int (wlS Z.1 (nI (10 * r + c)) (fitN Z.1 (fun c => agS Z.1 (tlK Z k) (nI c) m) 80) (fitN Z.1 (fun c => agS Z.1 (tlK Z k) (nI c) m) 80).length).2), (0, .ref 0), (1, .int (nI k)), (2, .int (nI m)), (3, .int (prS Z.1 (tlK Z k) m)), (4, .int (Z.1 5 0)), (6, .int (bmI Z.1 (fitN Z.1 (fun c => agS Z.1 (tlK Z k) (nI c) m) 80) (10 * r + c)).2), (7, .int (nI r)), (8, .int (nI c))]) dX11_next_109 (by decide) rfl ?_
                      refine j_iload 1 dX11_next_111 rfl ?_
                      refine j_istore (L' := [(6, .int (wlS Z.1 (nI (10 * r + c)) (fitN Z.1 (fun c => agS Z.1 (tlK Z k) (nI c) m) 80) (fitN Z.1 (fun c => agS Z.1 (tlK Z k) (nI c) m) 80).length).2), (5, .int (nI ((10 * r) + c))), (9, .int (wlS Z.1 (nI (10 * r + c)) (fitN Z.1 (fun c => agS Z.1 (tlK Z k) (nI c) m) 80) (fitN Z.1 (fun c => agS Z.1 (tlK Z k) (nI c) m) 80).length).2), (0, .ref 0), (1, .int (nI k)), (2, .int (nI m)), (3, .int (prS Z.1 (tlK Z k) m)), (4, .int (Z.1 5 0)), (7, .int (nI r)), (8, .int (nI c))]) dX11_next_113 (by decide) rfl ?_
                      refine j_iinc 9 (nI (c + 1)) (L' := [(8, .int (nI (c + 1))), (6, .int (wlS Z.1 (nI (10 * r + c)) (fitN Z.1 (fun c => agS Z.1 (tlK Z k) (nI c) m) 80) (fitN Z.1 (fun c => agS Z.1 (tlK Z k) (nI c) m) 80).length).2), (5, .int (nI ((10 * r) + c))), (9, .int (wlS Z.1 (nI (10 * r + c)) (fitN Z.1 (fun c => agS Z.1 (tlK Z k) (nI c) m) 80) (fitN Z.1 (fun c => agS Z.1 (tlK Z k) (nI c) m) 80).length).2), (0, .ref 0), (1, .int (nI k)), (2, .int (nI m)), (3, .int (prS Z.1 (tlK Z k) m)), (4, .int (Z.1 5 0)), (7, .int (nI r))]) dX11_next_115 rfl (inc1 c) (by decide) rfl ?_
                      refine j_goto (tgt := 62) dX11_next_118 rfl ?_
                      have hb1 : (bmI Z.1 (fitN Z.1 (fun c => agS Z.1 (tlK Z k) (nI c) m) 80) (10 * r + (c + 1))) = ((nI ((10 * r) + c)), (wlS Z.1 (nI (10 * r + c)) (fitN Z.1 (fun c => agS Z.1 (tlK Z k) (nI c) m) 80) (fitN Z.1 (fun c => agS Z.1 (tlK Z k) (nI c) m) 80).length).2) := (bmI_s okS (by omega) (n := 10 * r + c) (by omega) hcell).trans (if_pos (Or.inr (c18)))
                      have hb2 : (nI ((10 * r) + c)) = (bmI Z.1 (fitN Z.1 (fun c => agS Z.1 (tlK Z k) (nI c) m) 80) (10 * r + (c + 1))).1 := by rw [hb1]
                      have hb3 : (wlS Z.1 (nI (10 * r + c)) (fitN Z.1 (fun c => agS Z.1 (tlK Z k) (nI c) m) 80) (fitN Z.1 (fun c => agS Z.1 (tlK Z k) (nI c) m) 80).length).2 = (bmI Z.1 (fitN Z.1 (fun c => agS Z.1 (tlK Z k) (nI c) m) 80) (10 * r + (c + 1))).2 := by rw [hb1]
                      refine j_L (congrArg (fun zz9 : Int32 => ([(8, .int (nI (c + 1))), (6, .int (wlS Z.1 (nI (10 * r + c)) (fitN Z.1 (fun c => agS Z.1 (tlK Z k) (nI c) m) 80) (fitN Z.1 (fun c => agS Z.1 (tlK Z k) (nI c) m) 80).length).2), (5, .int zz9), (9, .int (wlS Z.1 (nI (10 * r + c)) (fitN Z.1 (fun c => agS Z.1 (tlK Z k) (nI c) m) 80) (fitN Z.1 (fun c => agS Z.1 (tlK Z k) (nI c) m) 80).length).2), (0, .ref 0), (1, .int (nI k)), (2, .int (nI m)), (3, .int (prS Z.1 (tlK Z k) m)), (4, .int (Z.1 5 0)), (7, .int (nI r))] : List (Nat × Value))) hb2) ?_
                      refine j_L (congrArg (fun zz9 : Int32 => ([(8, .int (nI (c + 1))), (6, .int zz9), (5, .int (bmI Z.1 (fitN Z.1 (fun c => agS Z.1 (tlK Z k) (nI c) m) 80) (10 * r + (c + 1))).1), (9, .int (wlS Z.1 (nI (10 * r + c)) (fitN Z.1 (fun c => agS Z.1 (tlK Z k) (nI c) m) 80) (fitN Z.1 (fun c => agS Z.1 (tlK Z k) (nI c) m) 80).length).2), (0, .ref 0), (1, .int (nI k)), (2, .int (nI m)), (3, .int (prS Z.1 (tlK Z k) m)), (4, .int (Z.1 5 0)), (7, .int (nI r))] : List (Nat × Value))) hb3) ?_
                      exact j_sub (jk_pick [4, 5, 6, 7, 8, 2, 1, 9, 0] rfl) (ih11 (c + 1) M14 (by omega) (by omega) sm16 hxW (lk2.f0 (Fm.mo h0W PWa_0)) (hf2.wa h0W))
                    · refine j_goto (tgt := 115) dX11_next_98 rfl ?_
                      refine j_iinc 9 (nI (c + 1)) (L' := [(8, .int (nI (c + 1))), (9, .int (wlS Z.1 (nI (10 * r + c)) (fitN Z.1 (fun c => agS Z.1 (tlK Z k) (nI c) m) 80) (fitN Z.1 (fun c => agS Z.1 (tlK Z k) (nI c) m) 80).length).2), (0, .ref 0), (1, .int (nI k)), (2, .int (nI m)), (3, .int (prS Z.1 (tlK Z k) m)), (4, .int (Z.1 5 0)), (5, .int (bmI Z.1 (fitN Z.1 (fun c => agS Z.1 (tlK Z k) (nI c) m) 80) (10 * r + c)).1), (6, .int (bmI Z.1 (fitN Z.1 (fun c => agS Z.1 (tlK Z k) (nI c) m) 80) (10 * r + c)).2), (7, .int (nI r))]) dX11_next_115 rfl (inc1 c) (by decide) rfl ?_
                      refine j_goto (tgt := 62) dX11_next_118 rfl ?_
                      have hb1 : (bmI Z.1 (fitN Z.1 (fun c => agS Z.1 (tlK Z k) (nI c) m) 80) (10 * r + (c + 1))) = ((bmI Z.1 (fitN Z.1 (fun c => agS Z.1 (tlK Z k) (nI c) m) 80) (10 * r + c)).1, (bmI Z.1 (fitN Z.1 (fun c => agS Z.1 (tlK Z k) (nI c) m) 80) (10 * r + c)).2) := (bmI_s okS (by omega) (n := 10 * r + c) (by omega) hcell).trans (if_neg (fun z => z.elim c17 (fun y => c18 y)))
                      have hb2 : (bmI Z.1 (fitN Z.1 (fun c => agS Z.1 (tlK Z k) (nI c) m) 80) (10 * r + c)).1 = (bmI Z.1 (fitN Z.1 (fun c => agS Z.1 (tlK Z k) (nI c) m) 80) (10 * r + (c + 1))).1 := by rw [hb1]
                      have hb3 : (bmI Z.1 (fitN Z.1 (fun c => agS Z.1 (tlK Z k) (nI c) m) 80) (10 * r + c)).2 = (bmI Z.1 (fitN Z.1 (fun c => agS Z.1 (tlK Z k) (nI c) m) 80) (10 * r + (c + 1))).2 := by rw [hb1]
                      refine j_L (congrArg (fun zz9 : Int32 => ([(8, .int (nI (c + 1))), (9, .int (wlS Z.1 (nI (10 * r + c)) (fitN Z.1 (fun c => agS Z.1 (tlK Z k) (nI c) m) 80) (fitN Z.1 (fun c => agS Z.1 (tlK Z k) (nI c) m) 80).length).2), (0, .ref 0), (1, .int (nI k)), (2, .int (nI m)), (3, .int (prS Z.1 (tlK Z k) m)), (4, .int (Z.1 5 0)), (5, .int zz9), (6, .int (bmI Z.1 (fitN Z.1 (fun c => agS Z.1 (tlK Z k) (nI c) m) 80) (10 * r + c)).2), (7, .int (nI r))] : List (Nat × Value))) hb2) ?_
                      refine j_L (congrArg (fun zz9 : Int32 => ([(8, .int (nI (c + 1))), (9, .int (wlS Z.1 (nI (10 * r + c)) (fitN Z.1 (fun c => agS Z.1 (tlK Z k) (nI c) m) 80) (fitN Z.1 (fun c => agS Z.1 (tlK Z k) (nI c) m) 80).length).2), (0, .ref 0), (1, .int (nI k)), (2, .int (nI m)), (3, .int (prS Z.1 (tlK Z k) m)), (4, .int (Z.1 5 0)), (5, .int (bmI Z.1 (fitN Z.1 (fun c => agS Z.1 (tlK Z k) (nI c) m) 80) (10 * r + (c + 1))).1), (6, .int zz9), (7, .int (nI r))] : List (Nat × Value))) hb3) ?_
                      exact j_sub (jk_pick [2, 3, 4, 5, 6, 7, 8, 9, 0] rfl) (ih11 (c + 1) M14 (by omega) (by omega) sm16 hxW (lk2.f0 (Fm.mo h0W PWa_0)) (hf2.wa h0W))
            exact j_sub (jk_pick [1, 2, 3, 4, 5, 6, 7, 8, 0] rfl) (lp12 _ 0 M1 (Nat.lt_succ_self _) (by omega) hs1 ⟨x, hx⟩ lk1 hf1)
      exact j_sub (jk_pick [5, 6, 7, 4, 3, 2, 1, 0] rfl) (lp7 _ 0 M2 (Nat.lt_succ_self _) (by omega) smF ⟨Z.1 5 0, hmvF.trans upS_id.symm⟩ lkF hft)
    · refine j_iconst (-1) dX11_next_31 ic_n1 ?_
      refine j_iret dX11_next_32 rfl ?_
      have hz : nextK Z (nI m) k = ((-1), Z) := by
        clear hQ
        clear cv hM hS
        have hcl := nI_clamp (show m < 2 ^ 31 by omega)
        grind [nextK, cif, ftK]
      exact hQ _ _ ⟨by rw [hz], by rw [hz]; exact MV.ba cv (Fm.mo smF PFf_O) hmvF⟩
  · refine j_aload_n 1 dX11_next_11 rfl ?_
    refine j_iload_n 0 dX11_next_12 rfl ?_
    refine j_topi (-6) (prS_01.resolve_left c1) ?_
    refine j_callV (kc := 0) (ks := 0) (a := 0) (b := 0) (d' := d) (As := [.int (-6)]) dX11_next_13 kX11_167 rfl (shM hM sgM_0) (by omega) rfl rfl rfl (Nat.le_of_ble_eq_true rfl) (Nat.le_of_ble_eq_true rfl) (T_X11_noTen hM (-6) (by decide)) (kk_p ?_)
    refine j_iret dX11_next_16 rfl ?_
    have hz : nextK Z (nI m) k = (((-6) - 10), refZ Z (-6)) := by
      clear hQ
      clear cv hM hS
      have hcl := nI_clamp (show m < 2 ^ 31 by omega)
      grind [nextK, cif, ftK]
    exact hQ _ _ ⟨by rw [hz], by rw [hz]; exact MV.rf cv (by decide)⟩
set_option maxRecDepth 20000 in
set_option maxHeartbeats 4000000 in
theorem N_nextNo {d : Nat} {M : jk_M} {Z : ZS} (cv : MV M Z) (ok : Zok Z) (s n : Int32) (hs : ¬ (0 ≤ s ∧ s < 8)) : J Fr_X11_next (d + 5) 0 0 0 [(0, .ref 0), (1, .int s), (2, .int n)] [] M (jk_ex (some (.int (((-11 : Int32), refZ Z (-1))).1)) (fun M1 => MV M1 (((-11 : Int32), refZ Z (-1))).2)) := by
  refine j_post (fun Q hQ => ?_)
  have hM := cv.1
  have hS := cv.2.1
  have okS := ok.1
  have h40 := cv.2.2.2.2.2.2.2.2.2.2.1
  refine j_aload_n 0 dX11_next_0 rfl ?_
  refine j_iload_n 1 dX11_next_1 rfl ?_
  refine j_iload_n 2 dX11_next_2 rfl ?_
  refine j_callV (kc := 0) (ks := 0) (a := 0) (b := 0) (d' := (d + 2)) (As := [.int s, .int n]) dX11_next_3 kX11_293 rfl (shM hM sgM_0) (by omega) rfl rfl rfl (Nat.le_of_ble_eq_true rfl) (Nat.le_of_ble_eq_true rfl) (T_barsFN hM s n hs) (kk_p ?_)
  refine j_istore_n (L' := [(3, .int (-1)), (0, .ref 0), (1, .int s), (2, .int n)]) dX11_next_6 (by decide) rfl ?_
  refine j_iload_n 0 dX11_next_7 rfl ?_
  refine j_if_eq (tgt := 17) dX11_next_8 rfl (fun c1 => ?_) (fun c1 => ?_)
  · exact absurd c1 (by decide)
  · refine j_aload_n 1 dX11_next_11 rfl ?_
    refine j_iload_n 0 dX11_next_12 rfl ?_
    refine j_callV (kc := 0) (ks := 0) (a := 0) (b := 0) (d' := d) (As := [.int (-1)]) dX11_next_13 kX11_167 rfl (shM hM sgM_0) (by omega) rfl rfl rfl (Nat.le_of_ble_eq_true rfl) (Nat.le_of_ble_eq_true rfl) (T_X11_noTen hM (-1) (by decide)) (kk_p ?_)
    refine j_iret dX11_next_16 rfl ?_
    exact hQ _ _ ⟨congrArg (fun x => some (Value.int x)) (show (-1 - 10 : Int32) = -11 by decide), MV.rf cv (by decide)⟩
theorem N_next {d : Nat} {M : jk_M} {Z : ZS} (cv : MV M Z) (ok : Zok Z) (s n : Int32) : J Fr_X11_next (d + 5) 0 0 0 [(0, .ref 0), (1, .int s), (2, .int n)] [] M (jk_ex (some (.int (nextZ Z s n).1)) (fun M1 => MV M1 (nextZ Z s n).2)) := by
  by_cases h : 0 ≤ s ∧ s < 8
  · obtain ⟨k, hk, rfl⟩ := s_in h
    rw [nextZ, inS_y hk]
    by_cases h0 : tdK Z k n 2 = 0
    · obtain ⟨m, hm, rfl⟩ := td_n h0
      obtain ⟨z, hz9, ez9, hmz, hr0⟩ := td_z2 ok hk hm h0
      exact N_next1 cv ok k hk m hm z hz9 ez9 hmz hr0 h0
    · exact N_next0 cv ok k hk n h0
  · rw [nextZ, inS_n h]; exact N_nextNo cv ok s n h
