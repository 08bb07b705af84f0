/-! minutes, evenings and weeks, by the model -/
theorem PLk_O : ∀ q k, PLk q k → PO q k := fun q k h => PS_O q k (PLk_S q k h)
theorem upS_idi {S : HS} {a i : Nat} : upS S a i (S a i) = S := by
  funext b j
  by_cases h : b = a ∧ j = i
  · obtain ⟨rfl, rfl⟩ := h; exact upS_s
  · exact upS_n h
theorem LkO.u19 {T : HS} {M : jk_M} {i : Nat} {x : Int32} (l : LkO T M) : LkO (upS T 19 i x) M := by
  have e : ∀ b j, b < 16 → upS T 19 i x b j = T b j := fun b j hb => upS_n (by omega)
  have h7 : nT (upS T 19 i x) = nT T := by simp only [nT]; rw [e 7 0 (by omega)]
  have h8 : nN (upS T 19 i x) = nN T := by simp only [nN]; rw [e 8 0 (by omega)]
  refine ⟨fun c hc => ?_, fun c hc => ?_, ?_⟩
  · rw [loss_min (T := upS T 19 i x) (S := T) h7 (fun b i h1 h2 => e b i (by omega))]; exact l.1 c hc
  · have hc2 : isC T c := by simp only [isC] at hc ⊢; rw [e 0 0 (by omega)] at hc; exact hc
    rw [hum_eq (T := upS T 19 i x) h7 (fun b i h1 h2 => e b i (by omega)) (e 3 0 (by omega))]; exact l.2.1 c hc2
  · rw [e 2 0 (by omega), l.2.2]; exact (din_eq h8 (fun b i h1 h2 => e b i (by omega))).symm
theorem pm_t {S : HS} {r : Int32} {i : Nat} (h : barS (pmT S r i) (pmT S r i 19 i) (pmT S r i 16 i) ≤ r ∧ barS (pmT S r i) (pmT S r i 19 i) (pmT S r i 16 i) < barS (pmT S r i) (1 - pmT S r i 19 i) (pmT S r i 16 i)) : pmT S r (i + 1) = upS (pmT S r i) 19 i (1 - pmT S r i 19 i) := by
  show upS (pmT S r i) 19 i (clgS (pmT S r i) (pmT S r i 19 i) (pmT S r i 16 i) r) = _
  exact congrArg (upS (pmT S r i) 19 i) (if_pos h)
theorem pm_f {S : HS} {r : Int32} {i : Nat} (h : ¬ (barS (pmT S r i) (pmT S r i 19 i) (pmT S r i 16 i) ≤ r ∧ barS (pmT S r i) (pmT S r i 19 i) (pmT S r i 16 i) < barS (pmT S r i) (1 - pmT S r i 19 i) (pmT S r i 16 i))) : pmT S r (i + 1) = pmT S r i := by
  show upS (pmT S r i) 19 i (clgS (pmT S r i) (pmT S r i 19 i) (pmT S r i 16 i) r) = _
  exact (congrArg (upS (pmT S r i) 19 i) (if_neg h)).trans upS_idi
theorem lk_pm {S : HS} {r : Int32} {i : Nat} {M : jk_M} (l : LkO (pmT S r i) M) : LkO (pmT S r (i + 1)) M := l.u19
noncomputable def evV (S : HS) (r : Int32) : Nat → Int32
  | 0 => 0
  | k + 1 => fillS (evS S r (k + 1))
theorem evV_p {S : HS} {r : Int32} : ∀ {m : Nat}, 1 ≤ m → evV S r m = fillS (evS S r m)
  | 0, h => absurd h (by decide)
  | _ + 1, _ => rfl
theorem side_p {S : HS} (ok : Sok S) : 0 < S 0 0 := by
  obtain ⟨e, h2, h8⟩ := ok.S
  rw [e]; exact nI_lt (a := 0) (by omega) (by omega)
theorem flip01 {b : Int32} (h : b = 0 ∨ b = 1) : 1 - b = if b = 0 then 1 else 0 := by rcases h with rfl | rfl <;> decide
theorem wk_s {S : HS} {k : Nat} : wkS S (k + 1) = (wk1 (wkS S k).1, (wkS S k).2 + fillS (wk1 (wkS S k).1)) := rfl
set_option maxRecDepth 20000 in
set_option maxHeartbeats 4000000 in
theorem T_X11_draw {d : Nat} {M : jk_M} {S : HS} (hM : WM M) (hS : mv M.2.1 = S) (ok : Sok S) (n : Int32) (hn : 0 < n) : J Fr_X11_draw d 0 0 0 [(0, .ref 0), (1, .int n)] [] M (jk_ex (some (.int (dv S n))) (fun M1 => Fm PO M M1 ∧ mv M1.2.1 = ds S)) := by
  refine j_post (fun Q hQ => ?_)
  refine j_aload_n 0 dX11_draw_0 rfl ?_
  refine j_aload_n 0 dX11_draw_1 rfl ?_
  refine j_getv (S 4 0) dX11_draw_2 fX11_19 (shM hM sgM_0) rfl (mr_seed hS) ?_
  refine j_ldcw dX11_draw_5 ckX11_314 ?_
  refine j_imul dX11_draw_8 ?_
  refine j_sipush 12345 dX11_draw_9 sp_12345 ?_
  refine j_iadd dX11_draw_12 ?_
  refine j_put dX11_draw_13 fX11_19 (shM hM sgM_0) rfl ?_
  have sm1 : Fm PO M (jk_wI M 0 7 (((S 4 0) * 1103515245) + 12345)) := Fm.w Fm.rf (by unfold PO PH PS; omega)
  refine j_aload_n 0 dX11_draw_16 rfl ?_
  refine j_getv (drawS S) dX11_draw_17 fX11_19 (shM (Fm.M sm1 hM) sgM_0) rfl rd_s ?_
  refine j_bipush 16 dX11_draw_20 bp_16 ?_
  refine j_iushr dX11_draw_22 ?_
  refine j_iload_n 1 dX11_draw_23 rfl ?_
  refine j_irem dX11_draw_24 (by clear hQ; grind) ?_
  refine j_iret dX11_draw_25 rfl ?_
  exact hQ _ _ ⟨by rw [dv, drawN, if_pos hn], sm1, mv_sc (a := 4) hS (by decide) (by decide) (by decide) (by decide)⟩
set_option maxRecDepth 20000 in
set_option maxHeartbeats 4000000 in
theorem T_X11_passes {d : Nat} {M : jk_M} {S : HS} (hM : WM M) (hS : mv M.2.1 = S) (ok : Sok S) (h40 : M.2.1 0 40 = -1) (r : Int32) : J Fr_X11_passes (d + 6) 0 0 0 [(0, .ref 0), (1, .int r)] [] M (jk_ex (some (.int (fillS (pmT S r (nD S))))) (fun M1 => Fm PO M M1 ∧ mv M1.2.1 = pmT S r (nD S))) := by
  refine j_post (fun Q hQ => ?_)
  have hm59 := (mr_minN hS ok).2
  have hD6 := (Sok.D ok).2
  refine j_aload_n 0 dX11_passes_0 rfl ?_
  refine j_aload_n 0 dX11_passes_1 rfl ?_
  refine j_getv (nI (S 3 0).toNatClampNeg) dX11_passes_2 fX11_170 (shM hM sgM_0) rfl (mr_minN hS ok).1 ?_
  refine j_iconst 1 dX11_passes_5 ic_1 ?_
  refine j_iaddN ((S 3 0).toNatClampNeg) 1 dX11_passes_6 ?_
  refine j_bipush 60 dX11_passes_7 bp_60 ?_
  refine j_iremN ((S 3 0).toNatClampNeg + 1) 60 dX11_passes_9 (by omega) (by omega) (by omega) ?_
  refine j_put dX11_passes_10 fX11_170 (shM hM sgM_0) rfl ?_
  have sm1 : Fm PO M (jk_wI M 0 6 (nI (((S 3 0).toNatClampNeg + 1) % 60))) := Fm.w Fm.rf (by unfold PO PH PS; omega)
  have hT : mv (jk_wI M 0 6 (nI (((S 3 0).toNatClampNeg + 1) % 60))).2.1 = pmT S r 0 := mv_sc (a := 3) hS (by decide) (by decide) (by decide) (by decide)
  refine j_aload_n 0 dX11_passes_13 rfl ?_
  refine j_callV (kc := 0) (ks := 0) (a := 0) (b := 0) (d' := (d + 3)) (As := []) dX11_passes_14 kX11_181 rfl (shM (Fm.M sm1 hM) sgM_0) (by omega) rfl rfl rfl (Nat.le_of_ble_eq_true rfl) (Nat.le_of_ble_eq_true rfl) (T_X11_looks (Fm.M sm1 hM) hT (pm_ok ok r 0 (by omega)) ((rd_p (by omega)).trans h40) (GT.no (pm_ok ok r 0 (by omega))) (pm_ok ok r 0 (by omega))) (kk_ev (fun M2 hM3 => ?_))
  obtain ⟨h0L, lk0⟩ := hM3
  have smL : Fm PO M M2 := Fm.tr sm1 (Fm.mo h0L PLk_O)
  have hT0 : mv M2.2.1 = pmT S r 0 := Fm.mv h0L hT PLk_H
  refine j_iconst 0 dX11_passes_17 ic_0 ?_
  refine j_istore_n (L' := [(2, .int 0), (0, .ref 0), (1, .int r)]) dX11_passes_18 (by decide) rfl ?_
  have lp6 : ∀ (k4 : Nat) (i : Nat) (M1 : jk_M), nD S - i < k4 → (i ≤ nD S) → (Fm PO M M1) → (mv M1.2.1 = pmT S r i) → (Sok (pmT S r i)) → (LkO (pmT S r i) M1) → J Fr_X11_passes (d + 6) 0 0 19 [(0, .ref 0), (1, .int r), (2, .int (nI i))] [] M1 Q := by
    intro k4
    induction k4 with
    | zero => intro i M1 hk; exact absurd hk (Nat.not_lt_zero _)
    | succ k4 ih5 =>
      intro i M1 hk4 hi hs1 hd1 okT lk1
      refine j_iload_n 2 dX11_passes_19 rfl ?_
      refine j_aload_n 0 dX11_passes_20 rfl ?_
      refine j_getv (nI (nD S)) dX11_passes_21 fX11_147 (shM (Fm.M hs1 hM) sgM_0) rfl ((mr_D hd1).trans ((Sok.D okT).1.trans (congrArg nI (pm_n i)))) ?_
      refine j_icmp_geN (tgt := 67) i (nD S) dX11_passes_24 rfl (by omega) (by omega) (fun c7 => ?_) (fun c7 => ?_)
      · refine j_aload_n 0 dX11_passes_67 rfl ?_
        refine j_callV (kc := 0) (ks := 0) (a := 0) (b := 0) (d' := (d + 5)) (As := []) dX11_passes_68 kX11_260 rfl (shM (Fm.M hs1 hM) sgM_0) (by omega) rfl rfl rfl (Nat.le_of_ble_eq_true rfl) (Nat.le_of_ble_eq_true rfl) (T_X11_filledNow (Fm.M hs1 hM) (MEq.of hd1) okT lk1) (kk_p ?_)
        refine j_iret dX11_passes_71 rfl ?_
        have e : i = nD S := by omega
        exact hQ _ _ ⟨by rw [e], hs1, by rw [← e]; exact hd1⟩
      · have hnD := pm_n (S := S) (r := r) i
        refine j_aload_n 0 dX11_passes_27 rfl ?_
        refine j_aload_n 0 dX11_passes_28 rfl ?_
        refine j_getr (q := 11) dX11_passes_29 fX11_56 (shM (Fm.M hs1 hM) sgM_0) rfl (rfM (Fm.M hs1 hM) rfM_0_19) ?_
        refine j_iload_n 2 dX11_passes_32 rfl ?_
        refine j_ialdN i dX11_passes_33 (shM (Fm.M hs1 hM) sgM_11) (by omega) (by omega) ?_
        refine j_topi ((pmT S r i) 19 i) (mr_arD hd1 (k := 3) (by omega) (by decide)) ?_
        refine j_aload_n 0 dX11_passes_34 rfl ?_
        refine j_getr (q := 8) dX11_passes_35 fX11_47 (shM (Fm.M hs1 hM) sgM_0) rfl (rfM (Fm.M hs1 hM) rfM_0_16) ?_
        refine j_iload_n 2 dX11_passes_38 rfl ?_
        refine j_ialdN i dX11_passes_39 (shM (Fm.M hs1 hM) sgM_8) (by omega) (by omega) ?_
        refine j_topi ((pmT S r i) 16 i) (mr_arD hd1 (k := 0) (by omega) (by decide)) ?_
        refine j_iload_n 1 dX11_passes_40 rfl ?_
        refine j_callV (kc := 0) (ks := 0) (a := 0) (b := 0) (d' := (d + 4)) (As := [.int ((pmT S r i) 19 i), .int ((pmT S r i) 16 i), .int r]) dX11_passes_41 kX11_305 rfl (shM (Fm.M hs1 hM) sgM_0) (by omega) rfl rfl rfl (Nat.le_of_ble_eq_true rfl) (Nat.le_of_ble_eq_true rfl) (T_X11_letsGo (Fm.M hs1 hM) (MEq.of hd1) okT lk1 ((pmT S r i) 19 i) ((pmT S r i) 16 i) r (okT.de (by omega)).2.2.2 (okT.de (by omega)).1) (kk_p ?_)
        refine j_if_eqB (p := (barS (pmT S r i) ((pmT S r i) 19 i) ((pmT S r i) 16 i) ≤ r ∧ barS (pmT S r i) ((pmT S r i) 19 i) ((pmT S r i) 16 i) < barS (pmT S r i) (1 - ((pmT S r i) 19 i)) ((pmT S r i) 16 i))) (tgt := 61) dX11_passes_44 rfl (fun c8 => ?_) (fun c8 => ?_)
        · refine j_iinc 2 (nI (i + 1)) (L' := [(2, .int (nI (i + 1))), (0, .ref 0), (1, .int r)]) dX11_passes_61 rfl (inc1 i) (by decide) rfl ?_
          refine j_goto (tgt := 19) dX11_passes_64 rfl ?_
          exact j_sub (jk_pick [1, 2, 0] rfl) (ih5 (i + 1) M1 (by omega) (by omega) hs1 (hd1.trans (pm_f c8).symm) (pm_ok ok r (i + 1) (by omega)) (lk_pm lk1))
        · refine j_aload_n 0 dX11_passes_47 rfl ?_
          refine j_getr (q := 11) dX11_passes_48 fX11_56 (shM (Fm.M hs1 hM) sgM_0) rfl (rfM (Fm.M hs1 hM) rfM_0_19) ?_
          refine j_iload_n 2 dX11_passes_51 rfl ?_
          refine j_iconst 1 dX11_passes_52 ic_1 ?_
          refine j_aload_n 0 dX11_passes_53 rfl ?_
          refine j_getr (q := 11) dX11_passes_54 fX11_56 (shM (Fm.M hs1 hM) sgM_0) rfl (rfM (Fm.M hs1 hM) rfM_0_19) ?_
          refine j_iload_n 2 dX11_passes_57 rfl ?_
          refine j_ialdN i dX11_passes_58 (shM (Fm.M hs1 hM) sgM_11) (by omega) (by omega) ?_
          refine j_topi ((pmT S r i) 19 i) (mr_arD hd1 (k := 3) (by omega) (by decide)) ?_
          refine j_isub dX11_passes_59 ?_
          refine j_iastN i dX11_passes_60 (shM (Fm.M hs1 hM) sgM_11) (by omega) (by omega) ?_
          have sm9 : Fm PO M (jk_wI M1 11 i (1 - ((pmT S r i) 19 i))) := Fm.w hs1 (by unfold PO PH PS; omega)
          refine j_iinc 2 (nI (i + 1)) (L' := [(2, .int (nI (i + 1))), (0, .ref 0), (1, .int r)]) dX11_passes_61 rfl (inc1 i) (by decide) rfl ?_
          refine j_goto (tgt := 19) dX11_passes_64 rfl ?_
          exact j_sub (jk_pick [1, 2, 0] rfl) (ih5 (i + 1) (jk_wI M1 11 i (1 - ((pmT S r i) 19 i))) (by omega) (by omega) sm9 ((mv_ar (a := 19) hd1 (by omega)).trans (pm_t c8).symm) (pm_ok ok r (i + 1) (by omega)) (lk_pm (lk1.fm (P := fun q k => q = 11) (Fm.w Fm.rf rfl) (fun k => by omega) (by omega))))
  exact j_sub (jk_pick [1, 2, 0] rfl) (lp6 _ 0 M2 (Nat.lt_succ_self _) (by omega) smL hT0 (pm_ok ok r 0 (by omega)) lk0)
set_option maxRecDepth 20000 in
set_option maxHeartbeats 4000000 in
theorem N_even0 {d : Nat} {M : jk_M} {Z : ZS} (cv : MV M Z) (ok : Zok Z) (n r : Int32) (h1 : ¬ (1 ≤ n ∧ n ≤ 60 ∧ (0 ≤ r ∧ r ≤ 4))) : J Fr_X11_evening (d + 7) 0 0 0 [(0, .ref 0), (1, .int n), (2, .int r)] [] M (jk_ex (some (.int (((-6 : Int32), refZ Z (-6))).1)) (fun M1 => MV M1 (((-6 : Int32), refZ Z (-6))).2)) := by
  refine j_post (fun Q hQ => ?_)
  have hM := cv.1
  have hS := cv.2.1
  have okS := ok.1
  have h40 := cv.2.2.2.2.2.2.2.2.2.2.1
  refine j_aload_n 0 dX11_evening_0 rfl ?_
  refine j_iload_n 1 dX11_evening_1 rfl ?_
  refine j_iconst 1 dX11_evening_2 ic_1 ?_
  refine j_bipush 60 dX11_evening_3 bp_60 ?_
  refine j_callV (kc := 0) (ks := 0) (a := 0) (b := 0) (d' := d) (As := [.int n, .int 1, .int 60]) dX11_evening_5 kX11_150 rfl (shM hM sgM_0) (by omega) rfl rfl rfl (Nat.le_of_ble_eq_true rfl) (Nat.le_of_ble_eq_true rfl) (T_X11_isFrom n 1 60) (kk_p ?_)
  refine j_if_eqB (p := (1 ≤ n ∧ n ≤ 60)) (tgt := 21) dX11_evening_8 rfl (fun c1 => ?_) (fun c1 => ?_)
  · refine j_aload_n 0 dX11_evening_21 rfl ?_
    refine j_bipush (-6) dX11_evening_22 bp_n6 ?_
    refine j_callV (kc := 0) (ks := 0) (a := 0) (b := 0) (d' := d) (As := [.int (-6)]) dX11_evening_24 kX11_130 rfl (shM hM sgM_0) (by omega) rfl rfl rfl (Nat.le_of_ble_eq_true rfl) (Nat.le_of_ble_eq_true rfl) (T_X11_no hM (-6) (by decide)) (kk_p ?_)
    refine j_iret dX11_evening_27 rfl ?_
    exact hQ _ _ ⟨rfl, MV.rf cv (by decide)⟩
  · refine j_aload_n 0 dX11_evening_11 rfl ?_
    refine j_iload_n 2 dX11_evening_12 rfl ?_
    refine j_iconst 0 dX11_evening_13 ic_0 ?_
    refine j_iconst 4 dX11_evening_14 ic_4 ?_
    refine j_callV (kc := 0) (ks := 0) (a := 0) (b := 0) (d' := d) (As := [.int r, .int 0, .int 4]) dX11_evening_15 kX11_150 rfl (shM hM sgM_0) (by omega) rfl rfl rfl (Nat.le_of_ble_eq_true rfl) (Nat.le_of_ble_eq_true rfl) (T_X11_isFrom r 0 4) (kk_p ?_)
    refine j_if_neB (p := (0 ≤ r ∧ r ≤ 4)) (tgt := 28) dX11_evening_18 rfl (fun c2 => ?_) (fun c2 => ?_)
    · exact absurd (show 1 ≤ n ∧ n ≤ 60 ∧ (0 ≤ r ∧ r ≤ 4) by clear hQ; grind) h1
    · refine j_aload_n 0 dX11_evening_21 rfl ?_
      refine j_bipush (-6) dX11_evening_22 bp_n6 ?_
      refine j_callV (kc := 0) (ks := 0) (a := 0) (b := 0) (d' := d) (As := [.int (-6)]) dX11_evening_24 kX11_130 rfl (shM hM sgM_0) (by omega) rfl rfl rfl (Nat.le_of_ble_eq_true rfl) (Nat.le_of_ble_eq_true rfl) (T_X11_no hM (-6) (by decide)) (kk_p ?_)
      refine j_iret dX11_evening_27 rfl ?_
      exact hQ _ _ ⟨rfl, MV.rf cv (by decide)⟩
set_option maxRecDepth 20000 in
set_option maxHeartbeats 4000000 in
theorem N_even1 {d : Nat} {M : jk_M} {Z : ZS} (cv : MV M Z) (ok : Zok Z) (m : Nat) (hm1 : 1 ≤ m) (hm : m ≤ 60) (r : Int32) (hr : 0 ≤ r ∧ r ≤ 4) : J Fr_X11_evening (d + 7) 0 0 0 [(0, .ref 0), (1, .int (nI m)), (2, .int r)] [] M (jk_ex (some (.int (evenK Z r m).1)) (fun M1 => MV M1 (evenK Z r m).2)) := by
  refine j_post (fun Q hQ => ?_)
  have hM := cv.1
  have hS := cv.2.1
  have okS := ok.1
  have h40 := cv.2.2.2.2.2.2.2.2.2.2.1
  refine j_aload_n 0 dX11_evening_0 rfl ?_
  refine j_iload_n 1 dX11_evening_1 rfl ?_
  refine j_iconst 1 dX11_evening_2 ic_1 ?_
  refine j_bipush 60 dX11_evening_3 bp_60 ?_
  refine j_callV (kc := 0) (ks := 0) (a := 0) (b := 0) (d' := d) (As := [.int (nI m), .int 1, .int 60]) dX11_evening_5 kX11_150 rfl (shM hM sgM_0) (by omega) rfl rfl rfl (Nat.le_of_ble_eq_true rfl) (Nat.le_of_ble_eq_true rfl) (T_X11_isFrom (nI m) 1 60) (kk_p ?_)
  refine j_if_eqB (p := (1 ≤ (nI m) ∧ (nI m) ≤ 60)) (tgt := 21) dX11_evening_8 rfl (fun c1 => ?_) (fun c1 => ?_)
  · exact absurd (n60_ok hm1 hm) c1
  · refine j_aload_n 0 dX11_evening_11 rfl ?_
    refine j_iload_n 2 dX11_evening_12 rfl ?_
    refine j_iconst 0 dX11_evening_13 ic_0 ?_
    refine j_iconst 4 dX11_evening_14 ic_4 ?_
    refine j_callV (kc := 0) (ks := 0) (a := 0) (b := 0) (d' := d) (As := [.int r, .int 0, .int 4]) dX11_evening_15 kX11_150 rfl (shM hM sgM_0) (by omega) rfl rfl rfl (Nat.le_of_ble_eq_true rfl) (Nat.le_of_ble_eq_true rfl) (T_X11_isFrom r 0 4) (kk_p ?_)
    refine j_if_neB (p := (0 ≤ r ∧ r ≤ 4)) (tgt := 28) dX11_evening_18 rfl (fun c2 => ?_) (fun c2 => ?_)
    · refine j_iconst 0 dX11_evening_28 ic_0 ?_
      refine j_istore_n (L' := [(3, .int 0), (0, .ref 0), (1, .int (nI m)), (2, .int r)]) dX11_evening_29 (by decide) rfl ?_
      refine j_iconst 0 dX11_evening_30 ic_0 ?_
      refine j_istore (L' := [(4, .int 0), (3, .int 0), (0, .ref 0), (1, .int (nI m)), (2, .int r)]) dX11_evening_31 (by decide) rfl ?_
      have z1 : (0 : Int32) = evV Z.1 r 0 := rfl
      refine j_L (congrArg (fun zz9 : Int32 => ([(4, .int 0), (3, .int zz9), (0, .ref 0), (1, .int (nI m)), (2, .int r)] : List (Nat × Value))) z1) ?_
      have lp5 : ∀ (k3 : Nat) (i : Nat) (M1 : jk_M), m - i < k3 → (i ≤ m) → (Fm PO M M1) → (mv M1.2.1 = evS Z.1 r i) → J Fr_X11_evening (d + 7) 0 0 33 [(0, .ref 0), (1, .int (nI m)), (2, .int r), (3, .int (evV Z.1 r i)), (4, .int (nI i))] [] M1 Q := by
        intro k3
        induction k3 with
        | zero => intro i M1 hk; exact absurd hk (Nat.not_lt_zero _)
        | succ k3 ih4 =>
          intro i M1 hk3 hi hs1 hd1
          refine j_iload 4 dX11_evening_33 rfl ?_
          refine j_iload_n 1 dX11_evening_35 rfl ?_
          refine j_icmp_geN (tgt := 51) i m dX11_evening_36 rfl (by omega) (by omega) (fun c6 => ?_) (fun c6 => ?_)
          · refine j_iload_n 3 dX11_evening_51 rfl ?_
            refine j_iret dX11_evening_52 rfl ?_
            have e : i = m := by omega
            subst e
            exact hQ _ _ ⟨by rw [evV_p hm1]; rfl, MV.now cv hs1 hd1⟩
          · refine j_aload_n 0 dX11_evening_39 rfl ?_
            refine j_iload_n 2 dX11_evening_40 rfl ?_
            refine j_callV (kc := 0) (ks := 0) (a := 0) (b := 0) (d' := (d + 6)) (As := [.int r]) dX11_evening_41 kX11_311 rfl (shM (Fm.M hs1 hM) sgM_0) (by omega) rfl rfl rfl (Nat.le_of_ble_eq_true rfl) (Nat.le_of_ble_eq_true rfl) (T_X11_passes (Fm.M hs1 hM) hd1 (ev_ok okS r i) ((Fm.rd hs1 (q := 0) (k := 40) (by unfold PO PH PS; omega)).trans h40) r) (kk_e (fun M7 hM8 => ?_))
            obtain ⟨h09, hv11⟩ := hM8
            have sm10 := Fm.tr hs1 h09
            refine j_istore_n (L' := [(3, .int (evV Z.1 r (i + 1))), (0, .ref 0), (1, .int (nI m)), (2, .int r), (4, .int (nI i))]) dX11_evening_44 (by decide) rfl ?_
            refine j_iinc 4 (nI (i + 1)) (L' := [(4, .int (nI (i + 1))), (3, .int (evV Z.1 r (i + 1))), (0, .ref 0), (1, .int (nI m)), (2, .int r)]) dX11_evening_45 rfl (inc1 i) (by decide) rfl ?_
            refine j_goto (tgt := 33) dX11_evening_48 rfl ?_
            exact j_sub (jk_pick [2, 3, 4, 1, 0] rfl) (ih4 (i + 1) M7 (by omega) (by omega) sm10 hv11)
      exact j_sub (jk_pick [2, 3, 4, 1, 0] rfl) (lp5 _ 0 M (Nat.lt_succ_self _) (by omega) Fm.rf hS)
    · exact absurd hr c2
theorem N_evening {d : Nat} {M : jk_M} {Z : ZS} (cv : MV M Z) (ok : Zok Z) (n r : Int32) : J Fr_X11_evening (d + 7) 0 0 0 [(0, .ref 0), (1, .int n), (2, .int r)] [] M (jk_ex (some (.int (evenZ Z n r).1)) (fun M1 => MV M1 (evenZ Z n r).2)) := by
  by_cases h : 1 ≤ n ∧ n ≤ 60 ∧ mayS Z.1 13 r
  · obtain ⟨m, h1, h2, rfl⟩ := n60 ⟨h.1, h.2.1⟩
    rw [evenZ, cif_f (fun z => z h), nI_clamp (by omega)]
    have h3 := h.2.2
    rw [may_13] at h3
    exact N_even1 cv ok m h1 h2 r h3
  · rw [evenZ, cif_t h]
    rw [may_13] at h
    exact N_even0 cv ok n r h
set_option maxRecDepth 20000 in
set_option maxHeartbeats 4000000 in
theorem N_week0 {d : Nat} {M : jk_M} {Z : ZS} (cv : MV M Z) (ok : Zok Z) (n : Int32) (h1 : ¬ (1 ≤ n ∧ n ≤ 60)) : J Fr_X11_weeks (d + 7) 0 0 0 [(0, .ref 0), (1, .int n)] [] M (jk_ex (some (.int (((-6 : Int32), refZ Z (-6))).1)) (fun M1 => MV M1 (((-6 : Int32), refZ Z (-6))).2)) := by
  refine j_post (fun Q hQ => ?_)
  have hM := cv.1
  have hS := cv.2.1
  have okS := ok.1
  have h40 := cv.2.2.2.2.2.2.2.2.2.2.1
  refine j_aload_n 0 dX11_weeks_0 rfl ?_
  refine j_iload_n 1 dX11_weeks_1 rfl ?_
  refine j_iconst 1 dX11_weeks_2 ic_1 ?_
  refine j_bipush 60 dX11_weeks_3 bp_60 ?_
  refine j_callV (kc := 0) (ks := 0) (a := 0) (b := 0) (d' := d) (As := [.int n, .int 1, .int 60]) dX11_weeks_5 kX11_150 rfl (shM hM sgM_0) (by omega) rfl rfl rfl (Nat.le_of_ble_eq_true rfl) (Nat.le_of_ble_eq_true rfl) (T_X11_isFrom n 1 60) (kk_p ?_)
  refine j_if_neB (p := (1 ≤ n ∧ n ≤ 60)) (tgt := 18) dX11_weeks_8 rfl (fun c1 => ?_) (fun c1 => ?_)
  · exact absurd (show 1 ≤ n ∧ n ≤ 60 by assumption) h1
  · refine j_aload_n 0 dX11_weeks_11 rfl ?_
    refine j_bipush (-6) dX11_weeks_12 bp_n6 ?_
    refine j_callV (kc := 0) (ks := 0) (a := 0) (b := 0) (d' := d) (As := [.int (-6)]) dX11_weeks_14 kX11_130 rfl (shM hM sgM_0) (by omega) rfl rfl rfl (Nat.le_of_ble_eq_true rfl) (Nat.le_of_ble_eq_true rfl) (T_X11_no hM (-6) (by decide)) (kk_p ?_)
    refine j_iret dX11_weeks_17 rfl ?_
    exact hQ _ _ ⟨rfl, MV.rf cv (by decide)⟩
set_option maxRecDepth 20000 in
set_option maxHeartbeats 4000000 in
theorem N_week1 {d : Nat} {M : jk_M} {Z : ZS} (cv : MV M Z) (ok : Zok Z) (m : Nat) (hm1 : 1 ≤ m) (hm : m ≤ 60) : J Fr_X11_weeks (d + 7) 0 0 0 [(0, .ref 0), (1, .int (nI m))] [] M (jk_ex (some (.int (weekK Z m).1)) (fun M1 => MV M1 (weekK Z m).2)) := by
  refine j_post (fun Q hQ => ?_)
  have hM := cv.1
  have hS := cv.2.1
  have okS := ok.1
  have h40 := cv.2.2.2.2.2.2.2.2.2.2.1
  refine j_aload_n 0 dX11_weeks_0 rfl ?_
  refine j_iload_n 1 dX11_weeks_1 rfl ?_
  refine j_iconst 1 dX11_weeks_2 ic_1 ?_
  refine j_bipush 60 dX11_weeks_3 bp_60 ?_
  refine j_callV (kc := 0) (ks := 0) (a := 0) (b := 0) (d' := d) (As := [.int (nI m), .int 1, .int 60]) dX11_weeks_5 kX11_150 rfl (shM hM sgM_0) (by omega) rfl rfl rfl (Nat.le_of_ble_eq_true rfl) (Nat.le_of_ble_eq_true rfl) (T_X11_isFrom (nI m) 1 60) (kk_p ?_)
  refine j_if_neB (p := (1 ≤ (nI m) ∧ (nI m) ≤ 60)) (tgt := 18) dX11_weeks_8 rfl (fun c1 => ?_) (fun c1 => ?_)
  · refine j_iconst 0 dX11_weeks_18 ic_0 ?_
    refine j_istore_n (L' := [(2, .int 0), (0, .ref 0), (1, .int (nI m))]) dX11_weeks_19 (by decide) rfl ?_
    refine j_iconst 0 dX11_weeks_20 ic_0 ?_
    refine j_istore_n (L' := [(3, .int 0), (2, .int 0), (0, .ref 0), (1, .int (nI m))]) dX11_weeks_21 (by decide) rfl ?_
    have z1 : (0 : Int32) = (wkS Z.1 0).2 := rfl
    refine j_L (congrArg (fun zz9 : Int32 => ([(3, .int 0), (2, .int zz9), (0, .ref 0), (1, .int (nI m))] : List (Nat × Value))) z1) ?_
    have lp4 : ∀ (k2 : Nat) (i : Nat) (M1 : jk_M), m - i < k2 → (i ≤ m) → (Fm PO M M1) → (mv M1.2.1 = (wkS Z.1 i).1) → J Fr_X11_weeks (d + 7) 0 0 22 [(0, .ref 0), (1, .int (nI m)), (2, .int (wkS Z.1 i).2), (3, .int (nI i))] [] M1 Q := by
      intro k2
      induction k2 with
      | zero => intro i M1 hk; exact absurd hk (Nat.not_lt_zero _)
      | succ k2 ih3 =>
        intro i M1 hk2 hi hs1 hd1
        refine j_iload_n 3 dX11_weeks_22 rfl ?_
        refine j_iload_n 1 dX11_weeks_23 rfl ?_
        refine j_icmp_geN (tgt := 184) i m dX11_weeks_24 rfl (by omega) (by omega) (fun c5 => ?_) (fun c5 => ?_)
        · refine j_iload_n 2 dX11_weeks_184 rfl ?_
          refine j_iret dX11_weeks_185 rfl ?_
          have e : i = m := by omega
          subst e
          exact hQ _ _ ⟨rfl, MV.now cv hs1 hd1⟩
        · obtain ⟨T, hTe⟩ : ∃ T, (wkS Z.1 i).1 = T := ⟨_, rfl⟩
          have okT : Sok T := hTe ▸ wk_ok okS i
          have hdT : mv M1.2.1 = T := hd1.trans hTe
          obtain ⟨q1, q2, q3⟩ := okT.cn
          refine j_aload_n 0 dX11_weeks_27 rfl ?_
          refine j_iconst 4 dX11_weeks_28 ic_4 ?_
          refine j_callV (kc := 0) (ks := 0) (a := 0) (b := 0) (d' := d) (As := [.int 4]) dX11_weeks_29 kX11_315 rfl (shM (Fm.M hs1 hM) sgM_0) (by omega) rfl rfl rfl (Nat.le_of_ble_eq_true rfl) (Nat.le_of_ble_eq_true rfl) (T_X11_draw (Fm.M hs1 hM) hdT okT 4 (by decide)) (kk_e (fun M6 hM7 => ?_))
          obtain ⟨h08, hv10x⟩ := hM7
          have hv10 : mv M6.2.1 = ds T := hv10x
          have sm9 : Fm PO M M6 := Fm.tr hs1 h08
          have hv10n : nD (ds T) = nD T ∧ nT (ds T) = nT T ∧ nN (ds T) = nN T := ds_n
          refine j_istore (L' := [(4, .int (dv T 4)), (0, .ref 0), (1, .int (nI m)), (2, .int (wkS Z.1 i).2), (3, .int (nI i))]) dX11_weeks_32 (by decide) rfl ?_
          refine j_iload 0 dX11_weeks_34 rfl ?_
          refine j_if_ne (tgt := 90) dX11_weeks_36 rfl (fun c11 => ?_) (fun c11 => ?_)
          · refine j_iload 0 dX11_weeks_90 rfl ?_
            refine j_iconst 1 dX11_weeks_92 ic_1 ?_
            refine j_icmp_ne (tgt := 132) dX11_weeks_93 rfl (fun c12 => ?_) (fun c12 => ?_)
            · refine j_iload 0 dX11_weeks_132 rfl ?_
              refine j_iconst 2 dX11_weeks_134 ic_2 ?_
              refine j_icmp_ne (tgt := 170) dX11_weeks_135 rfl (fun c13 => ?_) (fun c13 => ?_)
              · have hch : mv M6.2.1 = chS T := hv10.trans (ch_3 (fun z => by first | exact absurd z.1 c1 | exact absurd z.1 hi | exact absurd z.1 hs1 | exact absurd z.1 hd1 | exact absurd z.1 c5 | exact absurd z.1 c11 | exact absurd z.1 c12 | exact absurd z.1 c13 | exact absurd (c1.symm.trans z.1) (by decide) | exact absurd (hi.symm.trans z.1) (by decide) | exact absurd (hs1.symm.trans z.1) (by decide) | exact absurd (hd1.symm.trans z.1) (by decide) | exact absurd (c5.symm.trans z.1) (by decide) | exact absurd (c11.symm.trans z.1) (by decide) | exact absurd (c12.symm.trans z.1) (by decide) | exact absurd (c13.symm.trans z.1) (by decide) | (have := z.2; omega)) (fun z => by first | exact absurd z.1 c1 | exact absurd z.1 hi | exact absurd z.1 hs1 | exact absurd z.1 hd1 | exact absurd z.1 c5 | exact absurd z.1 c11 | exact absurd z.1 c12 | exact absurd z.1 c13 | exact absurd (c1.symm.trans z.1) (by decide) | exact absurd (hi.symm.trans z.1) (by decide) | exact absurd (hs1.symm.trans z.1) (by decide) | exact absurd (hd1.symm.trans z.1) (by decide) | exact absurd (c5.symm.trans z.1) (by decide) | exact absurd (c11.symm.trans z.1) (by decide) | exact absurd (c12.symm.trans z.1) (by decide) | exact absurd (c13.symm.trans z.1) (by decide) | (have := z.2; omega)) (fun z => by first | exact absurd z.1 c1 | exact absurd z.1 hi | exact absurd z.1 hs1 | exact absurd z.1 hd1 | exact absurd z.1 c5 | exact absurd z.1 c11 | exact absurd z.1 c12 | exact absurd z.1 c13 | exact absurd (c1.symm.trans z.1) (by decide) | exact absurd (hi.symm.trans z.1) (by decide) | exact absurd (hs1.symm.trans z.1) (by decide) | exact absurd (hd1.symm.trans z.1) (by decide) | exact absurd (c5.symm.trans z.1) (by decide) | exact absurd (c11.symm.trans z.1) (by decide) | exact absurd (c12.symm.trans z.1) (by decide) | exact absurd (c13.symm.trans z.1) (by decide) | (have := z.2; omega))).symm
                refine j_iload_n 3 dX11_weeks_170 rfl ?_
                refine j_aload_n 1 dX11_weeks_171 rfl ?_
                refine j_iconst 1 dX11_weeks_172 ic_1 ?_
                refine j_callV (kc := 0) (ks := 0) (a := 0) (b := 0) (d' := (d + 6)) (As := [.int 1]) dX11_weeks_173 kX11_311 rfl (shM (Fm.M sm9 hM) sgM_0) (by omega) rfl rfl rfl (Nat.le_of_ble_eq_true rfl) (Nat.le_of_ble_eq_true rfl) (T_X11_passes (Fm.M sm9 hM) hch (ch_ok okT) ((Fm.rd sm9 (q := 0) (k := 40) (by unfold PO PH PS; omega)).trans h40) 1) (kk_e (fun M14 hM15 => ?_))
                obtain ⟨h016, hv18⟩ := hM15
                have sm17 := Fm.tr sm9 h016
                refine j_iadd dX11_weeks_176 ?_
                refine j_istore_n (L' := [(2, .int ((wkS Z.1 i).2 + (fillS (wk1 T)))), (4, .int (dv T 4)), (0, .ref 0), (1, .int (nI m)), (3, .int (nI i))]) dX11_weeks_177 (by decide) rfl ?_
                refine j_iinc 4 (nI (i + 1)) (L' := [(3, .int (nI (i + 1))), (2, .int ((wkS Z.1 i).2 + (fillS (wk1 T)))), (4, .int (dv T 4)), (0, .ref 0), (1, .int (nI m))]) dX11_weeks_178 rfl (inc1 i) (by decide) rfl ?_
                refine j_goto (tgt := 22) dX11_weeks_181 rfl ?_
                have hw1 : ((wkS Z.1 i).2 + (fillS (wk1 T))) = (wkS Z.1 (i + 1)).2 := by rw [wk_s, hTe]
                refine j_L (congrArg (fun zz9 : Int32 => ([(3, .int (nI (i + 1))), (2, .int zz9), (4, .int (dv T 4)), (0, .ref 0), (1, .int (nI m))] : List (Nat × Value))) hw1) ?_
                exact j_sub (jk_pick [3, 4, 1, 0] rfl) (ih3 (i + 1) M14 (by omega) (by omega) sm17 (by rw [wk_s, hTe]; exact hv18))
              · refine j_aload_n 1 dX11_weeks_138 rfl ?_
                refine j_getv (nI (nN (ds T))) dX11_weeks_139 fX11_144 (shM (Fm.M sm9 hM) sgM_0) rfl ((mr_N hv10).trans (Sok.N (ds_ok okT)).1) ?_
                refine j_if_leN (tgt := 170) (nN (ds T)) dX11_weeks_142 (by omega) rfl (fun c19 => ?_) (fun c19 => ?_)
                · have hch : mv M6.2.1 = chS T := hv10.trans (ch_3 (fun z => by first | exact absurd z.1 c1 | exact absurd z.1 hi | exact absurd z.1 hs1 | exact absurd z.1 hd1 | exact absurd z.1 c5 | exact absurd z.1 c11 | exact absurd z.1 c12 | exact absurd z.1 c13 | exact absurd z.1 c19 | exact absurd (c1.symm.trans z.1) (by decide) | exact absurd (hi.symm.trans z.1) (by decide) | exact absurd (hs1.symm.trans z.1) (by decide) | exact absurd (hd1.symm.trans z.1) (by decide) | exact absurd (c5.symm.trans z.1) (by decide) | exact absurd (c11.symm.trans z.1) (by decide) | exact absurd (c12.symm.trans z.1) (by decide) | exact absurd (c13.symm.trans z.1) (by decide) | exact absurd (c19.symm.trans z.1) (by decide) | (have := z.2; omega)) (fun z => by first | exact absurd z.1 c1 | exact absurd z.1 hi | exact absurd z.1 hs1 | exact absurd z.1 hd1 | exact absurd z.1 c5 | exact absurd z.1 c11 | exact absurd z.1 c12 | exact absurd z.1 c13 | exact absurd z.1 c19 | exact absurd (c1.symm.trans z.1) (by decide) | exact absurd (hi.symm.trans z.1) (by decide) | exact absurd (hs1.symm.trans z.1) (by decide) | exact absurd (hd1.symm.trans z.1) (by decide) | exact absurd (c5.symm.trans z.1) (by decide) | exact absurd (c11.symm.trans z.1) (by decide) | exact absurd (c12.symm.trans z.1) (by decide) | exact absurd (c13.symm.trans z.1) (by decide) | exact absurd (c19.symm.trans z.1) (by decide) | (have := z.2; omega)) (fun z => by first | exact absurd z.1 c1 | exact absurd z.1 hi | exact absurd z.1 hs1 | exact absurd z.1 hd1 | exact absurd z.1 c5 | exact absurd z.1 c11 | exact absurd z.1 c12 | exact absurd z.1 c13 | exact absurd z.1 c19 | exact absurd (c1.symm.trans z.1) (by decide) | exact absurd (hi.symm.trans z.1) (by decide) | exact absurd (hs1.symm.trans z.1) (by decide) | exact absurd (hd1.symm.trans z.1) (by decide) | exact absurd (c5.symm.trans z.1) (by decide) | exact absurd (c11.symm.trans z.1) (by decide) | exact absurd (c12.symm.trans z.1) (by decide) | exact absurd (c13.symm.trans z.1) (by decide) | exact absurd (c19.symm.trans z.1) (by decide) | (have := z.2; omega))).symm
                  refine j_iload_n 3 dX11_weeks_170 rfl ?_
                  refine j_aload_n 1 dX11_weeks_171 rfl ?_
                  refine j_iconst 1 dX11_weeks_172 ic_1 ?_
                  refine j_callV (kc := 0) (ks := 0) (a := 0) (b := 0) (d' := (d + 6)) (As := [.int 1]) dX11_weeks_173 kX11_311 rfl (shM (Fm.M sm9 hM) sgM_0) (by omega) rfl rfl rfl (Nat.le_of_ble_eq_true rfl) (Nat.le_of_ble_eq_true rfl) (T_X11_passes (Fm.M sm9 hM) hch (ch_ok okT) ((Fm.rd sm9 (q := 0) (k := 40) (by unfold PO PH PS; omega)).trans h40) 1) (kk_e (fun M20 hM21 => ?_))
                  obtain ⟨h022, hv24⟩ := hM21
                  have sm23 := Fm.tr sm9 h022
                  refine j_iadd dX11_weeks_176 ?_
                  refine j_istore_n (L' := [(2, .int ((wkS Z.1 i).2 + (fillS (wk1 T)))), (4, .int (dv T 4)), (0, .ref 0), (1, .int (nI m)), (3, .int (nI i))]) dX11_weeks_177 (by decide) rfl ?_
                  refine j_iinc 4 (nI (i + 1)) (L' := [(3, .int (nI (i + 1))), (2, .int ((wkS Z.1 i).2 + (fillS (wk1 T)))), (4, .int (dv T 4)), (0, .ref 0), (1, .int (nI m))]) dX11_weeks_178 rfl (inc1 i) (by decide) rfl ?_
                  refine j_goto (tgt := 22) dX11_weeks_181 rfl ?_
                  have hw1 : ((wkS Z.1 i).2 + (fillS (wk1 T))) = (wkS Z.1 (i + 1)).2 := by rw [wk_s, hTe]
                  refine j_L (congrArg (fun zz9 : Int32 => ([(3, .int (nI (i + 1))), (2, .int zz9), (4, .int (dv T 4)), (0, .ref 0), (1, .int (nI m))] : List (Nat × Value))) hw1) ?_
                  exact j_sub (jk_pick [3, 4, 1, 0] rfl) (ih3 (i + 1) M20 (by omega) (by omega) sm23 (by rw [wk_s, hTe]; exact hv24))
                · refine j_aload_n 1 dX11_weeks_145 rfl ?_
                  refine j_aload_n 1 dX11_weeks_146 rfl ?_
                  refine j_getv (nI (nN (ds T))) dX11_weeks_147 fX11_144 (shM (Fm.M sm9 hM) sgM_0) rfl ((mr_N hv10).trans (Sok.N (ds_ok okT)).1) ?_
                  refine j_callV (kc := 0) (ks := 0) (a := 0) (b := 0) (d' := d) (As := [.int (nI (nN (ds T)))]) dX11_weeks_150 kX11_315 rfl (shM (Fm.M sm9 hM) sgM_0) (by omega) rfl rfl rfl (Nat.le_of_ble_eq_true rfl) (Nat.le_of_ble_eq_true rfl) (T_X11_draw (Fm.M sm9 hM) hv10 (ds_ok okT) (nI (nN (ds T))) (nI_lt (a := 0) (by omega) (by omega))) (kk_e (fun M25 hM26 => ?_))
                  obtain ⟨h027, hv29x⟩ := hM26
                  have hv29 : mv M25.2.1 = ds (ds T) := hv29x
                  have sm28 : Fm PO M M25 := Fm.tr sm9 h027
                  have hv29n : nD (ds (ds T)) = nD (ds T) ∧ nT (ds (ds T)) = nT (ds T) ∧ nN (ds (ds T)) = nN (ds T) := ds_n
                  obtain ⟨k, hk, ek⟩ := drawN_in (s := drawS (ds T)) (n := nN (ds T)) (by omega) (by omega)
                  refine j_topi (nI k) ek ?_
                  refine j_istore (L' := [(5, .int (nI k)), (4, .int (dv T 4)), (0, .ref 0), (1, .int (nI m)), (2, .int (wkS Z.1 i).2), (3, .int (nI i))]) dX11_weeks_153 (by decide) rfl ?_
                  refine j_aload_n 2 dX11_weeks_155 rfl ?_
                  refine j_getr (q := 6) dX11_weeks_156 fX11_41 (shM (Fm.M sm28 hM) sgM_0) rfl (rfM (Fm.M sm28 hM) rfM_0_14) ?_
                  refine j_iload 0 dX11_weeks_159 rfl ?_
                  refine j_iconst 1 dX11_weeks_161 ic_1 ?_
                  refine j_aload_n 2 dX11_weeks_162 rfl ?_
                  refine j_bipush 13 dX11_weeks_163 bp_13 ?_
                  refine j_callV (kc := 0) (ks := 0) (a := 0) (b := 0) (d' := d) (As := [.int 13]) dX11_weeks_165 kX11_315 rfl (shM (Fm.M sm28 hM) sgM_0) (by omega) rfl rfl rfl (Nat.le_of_ble_eq_true rfl) (Nat.le_of_ble_eq_true rfl) (T_X11_draw (Fm.M sm28 hM) hv29 (ds_ok (ds_ok okT)) 13 (by decide)) (kk_e (fun M30 hM31 => ?_))
                  obtain ⟨h032, hv34x⟩ := hM31
                  have hv34 : mv M30.2.1 = ds (ds (ds T)) := hv34x
                  have sm33 : Fm PO M M30 := Fm.tr sm28 h032
                  have hv34n : nD (ds (ds (ds T))) = nD (ds (ds T)) ∧ nT (ds (ds (ds T))) = nT (ds (ds T)) ∧ nN (ds (ds (ds T))) = nN (ds (ds T)) := ds_n
                  refine j_iadd dX11_weeks_168 ?_
                  refine j_iastN k dX11_weeks_169 (shM (Fm.M sm33 hM) sgM_6) (by omega) (by omega) ?_
                  have sm35 : Fm PO M (jk_wI M30 6 k (1 + (dv (ds (ds T)) 13))) := Fm.w sm33 (by unfold PO PH PS; omega)
                  have hch : mv (jk_wI M30 6 k (1 + (dv (ds (ds T)) 13))).2.1 = chS T := (mv_ar (a := 14) hv34 (by omega)).trans (ch_2 c13 (by omega) (by omega) ek).symm
                  refine j_iload_n 4 dX11_weeks_170 rfl ?_
                  refine j_aload_n 2 dX11_weeks_171 rfl ?_
                  refine j_iconst 1 dX11_weeks_172 ic_1 ?_
                  refine j_callV (kc := 0) (ks := 0) (a := 0) (b := 0) (d' := (d + 6)) (As := [.int 1]) dX11_weeks_173 kX11_311 rfl (shM (Fm.M sm35 hM) sgM_0) (by omega) rfl rfl rfl (Nat.le_of_ble_eq_true rfl) (Nat.le_of_ble_eq_true rfl) (T_X11_passes (Fm.M sm35 hM) hch (ch_ok okT) ((Fm.rd sm35 (q := 0) (k := 40) (by unfold PO PH PS; omega)).trans h40) 1) (kk_e (fun M36 hM37 => ?_))
                  obtain ⟨h038, hv40⟩ := hM37
                  have sm39 := Fm.tr sm35 h038
                  refine j_iadd dX11_weeks_176 ?_
                  refine j_istore_n (L' := [(2, .int ((wkS Z.1 i).2 + (fillS (wk1 T)))), (5, .int (nI k)), (4, .int (dv T 4)), (0, .ref 0), (1, .int (nI m)), (3, .int (nI i))]) dX11_weeks_177 (by decide) rfl ?_
                  refine j_iinc 5 (nI (i + 1)) (L' := [(3, .int (nI (i + 1))), (2, .int ((wkS Z.1 i).2 + (fillS (wk1 T)))), (5, .int (nI k)), (4, .int (dv T 4)), (0, .ref 0), (1, .int (nI m))]) dX11_weeks_178 rfl (inc1 i) (by decide) rfl ?_
                  refine j_goto (tgt := 22) dX11_weeks_181 rfl ?_
                  have hw1 : ((wkS Z.1 i).2 + (fillS (wk1 T))) = (wkS Z.1 (i + 1)).2 := by rw [wk_s, hTe]
                  refine j_L (congrArg (fun zz9 : Int32 => ([(3, .int (nI (i + 1))), (2, .int zz9), (5, .int (nI k)), (4, .int (dv T 4)), (0, .ref 0), (1, .int (nI m))] : List (Nat × Value))) hw1) ?_
                  exact j_sub (jk_pick [4, 5, 1, 0] rfl) (ih3 (i + 1) M36 (by omega) (by omega) sm39 (by rw [wk_s, hTe]; exact hv40))
            · refine j_aload_n 1 dX11_weeks_96 rfl ?_
              refine j_getv (nI (nT (ds T))) dX11_weeks_97 fX11_123 (shM (Fm.M sm9 hM) sgM_0) rfl ((mr_T hv10).trans (Sok.T (ds_ok okT)).1) ?_
              refine j_if_leN (tgt := 132) (nT (ds T)) dX11_weeks_100 (by omega) rfl (fun c41 => ?_) (fun c41 => ?_)
              · refine j_iload 0 dX11_weeks_132 rfl ?_
                refine j_iconst 2 dX11_weeks_134 ic_2 ?_
                refine j_icmp_ne (tgt := 170) dX11_weeks_135 rfl (fun c42 => ?_) (fun c42 => ?_)
                · have hch : mv M6.2.1 = chS T := hv10.trans (ch_3 (fun z => by first | exact absurd z.1 c1 | exact absurd z.1 hi | exact absurd z.1 hs1 | exact absurd z.1 hd1 | exact absurd z.1 c5 | exact absurd z.1 c11 | exact absurd z.1 c12 | exact absurd z.1 c41 | exact absurd z.1 c42 | exact absurd (c1.symm.trans z.1) (by decide) | exact absurd (hi.symm.trans z.1) (by decide) | exact absurd (hs1.symm.trans z.1) (by decide) | exact absurd (hd1.symm.trans z.1) (by decide) | exact absurd (c5.symm.trans z.1) (by decide) | exact absurd (c11.symm.trans z.1) (by decide) | exact absurd (c12.symm.trans z.1) (by decide) | exact absurd (c41.symm.trans z.1) (by decide) | exact absurd (c42.symm.trans z.1) (by decide) | (have := z.2; omega)) (fun z => by first | exact absurd z.1 c1 | exact absurd z.1 hi | exact absurd z.1 hs1 | exact absurd z.1 hd1 | exact absurd z.1 c5 | exact absurd z.1 c11 | exact absurd z.1 c12 | exact absurd z.1 c41 | exact absurd z.1 c42 | exact absurd (c1.symm.trans z.1) (by decide) | exact absurd (hi.symm.trans z.1) (by decide) | exact absurd (hs1.symm.trans z.1) (by decide) | exact absurd (hd1.symm.trans z.1) (by decide) | exact absurd (c5.symm.trans z.1) (by decide) | exact absurd (c11.symm.trans z.1) (by decide) | exact absurd (c12.symm.trans z.1) (by decide) | exact absurd (c41.symm.trans z.1) (by decide) | exact absurd (c42.symm.trans z.1) (by decide) | (have := z.2; omega)) (fun z => by first | exact absurd z.1 c1 | exact absurd z.1 hi | exact absurd z.1 hs1 | exact absurd z.1 hd1 | exact absurd z.1 c5 | exact absurd z.1 c11 | exact absurd z.1 c12 | exact absurd z.1 c41 | exact absurd z.1 c42 | exact absurd (c1.symm.trans z.1) (by decide) | exact absurd (hi.symm.trans z.1) (by decide) | exact absurd (hs1.symm.trans z.1) (by decide) | exact absurd (hd1.symm.trans z.1) (by decide) | exact absurd (c5.symm.trans z.1) (by decide) | exact absurd (c11.symm.trans z.1) (by decide) | exact absurd (c12.symm.trans z.1) (by decide) | exact absurd (c41.symm.trans z.1) (by decide) | exact absurd (c42.symm.trans z.1) (by decide) | (have := z.2; omega))).symm
                  refine j_iload_n 3 dX11_weeks_170 rfl ?_
                  refine j_aload_n 1 dX11_weeks_171 rfl ?_
                  refine j_iconst 1 dX11_weeks_172 ic_1 ?_
                  refine j_callV (kc := 0) (ks := 0) (a := 0) (b := 0) (d' := (d + 6)) (As := [.int 1]) dX11_weeks_173 kX11_311 rfl (shM (Fm.M sm9 hM) sgM_0) (by omega) rfl rfl rfl (Nat.le_of_ble_eq_true rfl) (Nat.le_of_ble_eq_true rfl) (T_X11_passes (Fm.M sm9 hM) hch (ch_ok okT) ((Fm.rd sm9 (q := 0) (k := 40) (by unfold PO PH PS; omega)).trans h40) 1) (kk_e (fun M43 hM44 => ?_))
                  obtain ⟨h045, hv47⟩ := hM44
                  have sm46 := Fm.tr sm9 h045
                  refine j_iadd dX11_weeks_176 ?_
                  refine j_istore_n (L' := [(2, .int ((wkS Z.1 i).2 + (fillS (wk1 T)))), (4, .int (dv T 4)), (0, .ref 0), (1, .int (nI m)), (3, .int (nI i))]) dX11_weeks_177 (by decide) rfl ?_
                  refine j_iinc 4 (nI (i + 1)) (L' := [(3, .int (nI (i + 1))), (2, .int ((wkS Z.1 i).2 + (fillS (wk1 T)))), (4, .int (dv T 4)), (0, .ref 0), (1, .int (nI m))]) dX11_weeks_178 rfl (inc1 i) (by decide) rfl ?_
                  refine j_goto (tgt := 22) dX11_weeks_181 rfl ?_
                  have hw1 : ((wkS Z.1 i).2 + (fillS (wk1 T))) = (wkS Z.1 (i + 1)).2 := by rw [wk_s, hTe]
                  refine j_L (congrArg (fun zz9 : Int32 => ([(3, .int (nI (i + 1))), (2, .int zz9), (4, .int (dv T 4)), (0, .ref 0), (1, .int (nI m))] : List (Nat × Value))) hw1) ?_
                  exact j_sub (jk_pick [3, 4, 1, 0] rfl) (ih3 (i + 1) M43 (by omega) (by omega) sm46 (by rw [wk_s, hTe]; exact hv47))
                · refine j_aload_n 1 dX11_weeks_138 rfl ?_
                  refine j_getv (nI (nN (ds T))) dX11_weeks_139 fX11_144 (shM (Fm.M sm9 hM) sgM_0) rfl ((mr_N hv10).trans (Sok.N (ds_ok okT)).1) ?_
                  refine j_if_leN (tgt := 170) (nN (ds T)) dX11_weeks_142 (by omega) rfl (fun c48 => ?_) (fun c48 => ?_)
                  · have hch : mv M6.2.1 = chS T := hv10.trans (ch_3 (fun z => by first | exact absurd z.1 c1 | exact absurd z.1 hi | exact absurd z.1 hs1 | exact absurd z.1 hd1 | exact absurd z.1 c5 | exact absurd z.1 c11 | exact absurd z.1 c12 | exact absurd z.1 c41 | exact absurd z.1 c42 | exact absurd z.1 c48 | exact absurd (c1.symm.trans z.1) (by decide) | exact absurd (hi.symm.trans z.1) (by decide) | exact absurd (hs1.symm.trans z.1) (by decide) | exact absurd (hd1.symm.trans z.1) (by decide) | exact absurd (c5.symm.trans z.1) (by decide) | exact absurd (c11.symm.trans z.1) (by decide) | exact absurd (c12.symm.trans z.1) (by decide) | exact absurd (c41.symm.trans z.1) (by decide) | exact absurd (c42.symm.trans z.1) (by decide) | exact absurd (c48.symm.trans z.1) (by decide) | (have := z.2; omega)) (fun z => by first | exact absurd z.1 c1 | exact absurd z.1 hi | exact absurd z.1 hs1 | exact absurd z.1 hd1 | exact absurd z.1 c5 | exact absurd z.1 c11 | exact absurd z.1 c12 | exact absurd z.1 c41 | exact absurd z.1 c42 | exact absurd z.1 c48 | exact absurd (c1.symm.trans z.1) (by decide) | exact absurd (hi.symm.trans z.1) (by decide) | exact absurd (hs1.symm.trans z.1) (by decide) | exact absurd (hd1.symm.trans z.1) (by decide) | exact absurd (c5.symm.trans z.1) (by decide) | exact absurd (c11.symm.trans z.1) (by decide) | exact absurd (c12.symm.trans z.1) (by decide) | exact absurd (c41.symm.trans z.1) (by decide) | exact absurd (c42.symm.trans z.1) (by decide) | exact absurd (c48.symm.trans z.1) (by decide) | (have := z.2; omega)) (fun z => by first | exact absurd z.1 c1 | exact absurd z.1 hi | exact absurd z.1 hs1 | exact absurd z.1 hd1 | exact absurd z.1 c5 | exact absurd z.1 c11 | exact absurd z.1 c12 | exact absurd z.1 c41 | exact absurd z.1 c42 | exact absurd z.1 c48 | exact absurd (c1.symm.trans z.1) (by decide) | exact absurd (hi.symm.trans z.1) (by decide) | exact absurd (hs1.symm.trans z.1) (by decide) | exact absurd (hd1.symm.trans z.1) (by decide) | exact absurd (c5.symm.trans z.1) (by decide) | exact absurd (c11.symm.trans z.1) (by decide) | exact absurd (c12.symm.trans z.1) (by decide) | exact absurd (c41.symm.trans z.1) (by decide) | exact absurd (c42.symm.trans z.1) (by decide) | exact absurd (c48.symm.trans z.1) (by decide) | (have := z.2; omega))).symm
                    refine j_iload_n 3 dX11_weeks_170 rfl ?_
                    refine j_aload_n 1 dX11_weeks_171 rfl ?_
                    refine j_iconst 1 dX11_weeks_172 ic_1 ?_
                    refine j_callV (kc := 0) (ks := 0) (a := 0) (b := 0) (d' := (d + 6)) (As := [.int 1]) dX11_weeks_173 kX11_311 rfl (shM (Fm.M sm9 hM) sgM_0) (by omega) rfl rfl rfl (Nat.le_of_ble_eq_true rfl) (Nat.le_of_ble_eq_true rfl) (T_X11_passes (Fm.M sm9 hM) hch (ch_ok okT) ((Fm.rd sm9 (q := 0) (k := 40) (by unfold PO PH PS; omega)).trans h40) 1) (kk_e (fun M49 hM50 => ?_))
                    obtain ⟨h051, hv53⟩ := hM50
                    have sm52 := Fm.tr sm9 h051
                    refine j_iadd dX11_weeks_176 ?_
                    refine j_istore_n (L' := [(2, .int ((wkS Z.1 i).2 + (fillS (wk1 T)))), (4, .int (dv T 4)), (0, .ref 0), (1, .int (nI m)), (3, .int (nI i))]) dX11_weeks_177 (by decide) rfl ?_
                    refine j_iinc 4 (nI (i + 1)) (L' := [(3, .int (nI (i + 1))), (2, .int ((wkS Z.1 i).2 + (fillS (wk1 T)))), (4, .int (dv T 4)), (0, .ref 0), (1, .int (nI m))]) dX11_weeks_178 rfl (inc1 i) (by decide) rfl ?_
                    refine j_goto (tgt := 22) dX11_weeks_181 rfl ?_
                    have hw1 : ((wkS Z.1 i).2 + (fillS (wk1 T))) = (wkS Z.1 (i + 1)).2 := by rw [wk_s, hTe]
                    refine j_L (congrArg (fun zz9 : Int32 => ([(3, .int (nI (i + 1))), (2, .int zz9), (4, .int (dv T 4)), (0, .ref 0), (1, .int (nI m))] : List (Nat × Value))) hw1) ?_
                    exact j_sub (jk_pick [3, 4, 1, 0] rfl) (ih3 (i + 1) M49 (by omega) (by omega) sm52 (by rw [wk_s, hTe]; exact hv53))
                  · refine j_aload_n 1 dX11_weeks_145 rfl ?_
                    refine j_aload_n 1 dX11_weeks_146 rfl ?_
                    refine j_getv (nI (nN (ds T))) dX11_weeks_147 fX11_144 (shM (Fm.M sm9 hM) sgM_0) rfl ((mr_N hv10).trans (Sok.N (ds_ok okT)).1) ?_
                    refine j_callV (kc := 0) (ks := 0) (a := 0) (b := 0) (d' := d) (As := [.int (nI (nN (ds T)))]) dX11_weeks_150 kX11_315 rfl (shM (Fm.M sm9 hM) sgM_0) (by omega) rfl rfl rfl (Nat.le_of_ble_eq_true rfl) (Nat.le_of_ble_eq_true rfl) (T_X11_draw (Fm.M sm9 hM) hv10 (ds_ok okT) (nI (nN (ds T))) (nI_lt (a := 0) (by omega) (by omega))) (kk_e (fun M54 hM55 => ?_))
                    obtain ⟨h056, hv58x⟩ := hM55
                    have hv58 : mv M54.2.1 = ds (ds T) := hv58x
                    have sm57 : Fm PO M M54 := Fm.tr sm9 h056
                    have hv58n : nD (ds (ds T)) = nD (ds T) ∧ nT (ds (ds T)) = nT (ds T) ∧ nN (ds (ds T)) = nN (ds T) := ds_n
                    obtain ⟨k, hk, ek⟩ := drawN_in (s := drawS (ds T)) (n := nN (ds T)) (by omega) (by omega)
                    refine j_topi (nI k) ek ?_
                    refine j_istore (L' := [(5, .int (nI k)), (4, .int (dv T 4)), (0, .ref 0), (1, .int (nI m)), (2, .int (wkS Z.1 i).2), (3, .int (nI i))]) dX11_weeks_153 (by decide) rfl ?_
                    refine j_aload_n 2 dX11_weeks_155 rfl ?_
                    refine j_getr (q := 6) dX11_weeks_156 fX11_41 (shM (Fm.M sm57 hM) sgM_0) rfl (rfM (Fm.M sm57 hM) rfM_0_14) ?_
                    refine j_iload 0 dX11_weeks_159 rfl ?_
                    refine j_iconst 1 dX11_weeks_161 ic_1 ?_
                    refine j_aload_n 2 dX11_weeks_162 rfl ?_
                    refine j_bipush 13 dX11_weeks_163 bp_13 ?_
                    refine j_callV (kc := 0) (ks := 0) (a := 0) (b := 0) (d' := d) (As := [.int 13]) dX11_weeks_165 kX11_315 rfl (shM (Fm.M sm57 hM) sgM_0) (by omega) rfl rfl rfl (Nat.le_of_ble_eq_true rfl) (Nat.le_of_ble_eq_true rfl) (T_X11_draw (Fm.M sm57 hM) hv58 (ds_ok (ds_ok okT)) 13 (by decide)) (kk_e (fun M59 hM60 => ?_))
                    obtain ⟨h061, hv63x⟩ := hM60
                    have hv63 : mv M59.2.1 = ds (ds (ds T)) := hv63x
                    have sm62 : Fm PO M M59 := Fm.tr sm57 h061
                    have hv63n : nD (ds (ds (ds T))) = nD (ds (ds T)) ∧ nT (ds (ds (ds T))) = nT (ds (ds T)) ∧ nN (ds (ds (ds T))) = nN (ds (ds T)) := ds_n
                    refine j_iadd dX11_weeks_168 ?_
                    refine j_iastN k dX11_weeks_169 (shM (Fm.M sm62 hM) sgM_6) (by omega) (by omega) ?_
                    have sm64 : Fm PO M (jk_wI M59 6 k (1 + (dv (ds (ds T)) 13))) := Fm.w sm62 (by unfold PO PH PS; omega)
                    have hch : mv (jk_wI M59 6 k (1 + (dv (ds (ds T)) 13))).2.1 = chS T := (mv_ar (a := 14) hv63 (by omega)).trans (ch_2 c42 (by omega) (by omega) ek).symm
                    refine j_iload_n 4 dX11_weeks_170 rfl ?_
                    refine j_aload_n 2 dX11_weeks_171 rfl ?_
                    refine j_iconst 1 dX11_weeks_172 ic_1 ?_
                    refine j_callV (kc := 0) (ks := 0) (a := 0) (b := 0) (d' := (d + 6)) (As := [.int 1]) dX11_weeks_173 kX11_311 rfl (shM (Fm.M sm64 hM) sgM_0) (by omega) rfl rfl rfl (Nat.le_of_ble_eq_true rfl) (Nat.le_of_ble_eq_true rfl) (T_X11_passes (Fm.M sm64 hM) hch (ch_ok okT) ((Fm.rd sm64 (q := 0) (k := 40) (by unfold PO PH PS; omega)).trans h40) 1) (kk_e (fun M65 hM66 => ?_))
                    obtain ⟨h067, hv69⟩ := hM66
                    have sm68 := Fm.tr sm64 h067
                    refine j_iadd dX11_weeks_176 ?_
                    refine j_istore_n (L' := [(2, .int ((wkS Z.1 i).2 + (fillS (wk1 T)))), (5, .int (nI k)), (4, .int (dv T 4)), (0, .ref 0), (1, .int (nI m)), (3, .int (nI i))]) dX11_weeks_177 (by decide) rfl ?_
                    refine j_iinc 5 (nI (i + 1)) (L' := [(3, .int (nI (i + 1))), (2, .int ((wkS Z.1 i).2 + (fillS (wk1 T)))), (5, .int (nI k)), (4, .int (dv T 4)), (0, .ref 0), (1, .int (nI m))]) dX11_weeks_178 rfl (inc1 i) (by decide) rfl ?_
                    refine j_goto (tgt := 22) dX11_weeks_181 rfl ?_
                    have hw1 : ((wkS Z.1 i).2 + (fillS (wk1 T))) = (wkS Z.1 (i + 1)).2 := by rw [wk_s, hTe]
                    refine j_L (congrArg (fun zz9 : Int32 => ([(3, .int (nI (i + 1))), (2, .int zz9), (5, .int (nI k)), (4, .int (dv T 4)), (0, .ref 0), (1, .int (nI m))] : List (Nat × Value))) hw1) ?_
                    exact j_sub (jk_pick [4, 5, 1, 0] rfl) (ih3 (i + 1) M65 (by omega) (by omega) sm68 (by rw [wk_s, hTe]; exact hv69))
              · refine j_aload_n 1 dX11_weeks_103 rfl ?_
                refine j_aload_n 1 dX11_weeks_104 rfl ?_
                refine j_getv (nI (nT (ds T))) dX11_weeks_105 fX11_123 (shM (Fm.M sm9 hM) sgM_0) rfl ((mr_T hv10).trans (Sok.T (ds_ok okT)).1) ?_
                refine j_callV (kc := 0) (ks := 0) (a := 0) (b := 0) (d' := d) (As := [.int (nI (nT (ds T)))]) dX11_weeks_108 kX11_315 rfl (shM (Fm.M sm9 hM) sgM_0) (by omega) rfl rfl rfl (Nat.le_of_ble_eq_true rfl) (Nat.le_of_ble_eq_true rfl) (T_X11_draw (Fm.M sm9 hM) hv10 (ds_ok okT) (nI (nT (ds T))) (nI_lt (a := 0) (by omega) (by omega))) (kk_e (fun M70 hM71 => ?_))
                obtain ⟨h072, hv74x⟩ := hM71
                have hv74 : mv M70.2.1 = ds (ds T) := hv74x
                have sm73 : Fm PO M M70 := Fm.tr sm9 h072
                have hv74n : nD (ds (ds T)) = nD (ds T) ∧ nT (ds (ds T)) = nT (ds T) ∧ nN (ds (ds T)) = nN (ds T) := ds_n
                obtain ⟨k, hk, ek⟩ := drawN_in (s := drawS (ds T)) (n := nT (ds T)) (by omega) (by omega)
                refine j_topi (nI k) ek ?_
                refine j_istore (L' := [(5, .int (nI k)), (4, .int (dv T 4)), (0, .ref 0), (1, .int (nI m)), (2, .int (wkS Z.1 i).2), (3, .int (nI i))]) dX11_weeks_111 (by decide) rfl ?_
                refine j_aload_n 2 dX11_weeks_113 rfl ?_
                refine j_getr (q := 5) dX11_weeks_114 fX11_38 (shM (Fm.M sm73 hM) sgM_0) rfl (rfM (Fm.M sm73 hM) rfM_0_13) ?_
                refine j_iload 0 dX11_weeks_117 rfl ?_
                refine j_iconst 1 dX11_weeks_119 ic_1 ?_
                refine j_aload_n 2 dX11_weeks_120 rfl ?_
                refine j_getr (q := 5) dX11_weeks_121 fX11_38 (shM (Fm.M sm73 hM) sgM_0) rfl (rfM (Fm.M sm73 hM) rfM_0_13) ?_
                refine j_iload 0 dX11_weeks_124 rfl ?_
                refine j_ialdN k dX11_weeks_126 (shM (Fm.M sm73 hM) sgM_5) (by omega) (by omega) ?_
                refine j_topi ((ds (ds T)) 13 k) (mr_arT hv74 (k := 3) (by omega) (by decide)) ?_
                refine j_isub dX11_weeks_127 ?_
                refine j_iastN k dX11_weeks_128 (shM (Fm.M sm73 hM) sgM_5) (by omega) (by omega) ?_
                have sm75 : Fm PO M (jk_wI M70 5 k (1 - ((ds (ds T)) 13 k))) := Fm.w sm73 (by unfold PO PH PS; omega)
                refine j_goto (tgt := 170) dX11_weeks_129 rfl ?_
                have hch : mv (jk_wI M70 5 k (1 - ((ds (ds T)) 13 k))).2.1 = chS T := (mv_ar (a := 13) hv74 (by omega)).trans ((congrArg (upS (ds (ds T)) 13 k) (flip01 ((ds_ok (ds_ok okT)).th (by omega)).2.2.2)).trans (ch_1 c12 (by omega) (by omega) ek).symm)
                refine j_iload_n 4 dX11_weeks_170 rfl ?_
                refine j_aload_n 2 dX11_weeks_171 rfl ?_
                refine j_iconst 1 dX11_weeks_172 ic_1 ?_
                refine j_callV (kc := 0) (ks := 0) (a := 0) (b := 0) (d' := (d + 6)) (As := [.int 1]) dX11_weeks_173 kX11_311 rfl (shM (Fm.M sm75 hM) sgM_0) (by omega) rfl rfl rfl (Nat.le_of_ble_eq_true rfl) (Nat.le_of_ble_eq_true rfl) (T_X11_passes (Fm.M sm75 hM) hch (ch_ok okT) ((Fm.rd sm75 (q := 0) (k := 40) (by unfold PO PH PS; omega)).trans h40) 1) (kk_e (fun M76 hM77 => ?_))
                obtain ⟨h078, hv80⟩ := hM77
                have sm79 := Fm.tr sm75 h078
                refine j_iadd dX11_weeks_176 ?_
                refine j_istore_n (L' := [(2, .int ((wkS Z.1 i).2 + (fillS (wk1 T)))), (5, .int (nI k)), (4, .int (dv T 4)), (0, .ref 0), (1, .int (nI m)), (3, .int (nI i))]) dX11_weeks_177 (by decide) rfl ?_
                refine j_iinc 5 (nI (i + 1)) (L' := [(3, .int (nI (i + 1))), (2, .int ((wkS Z.1 i).2 + (fillS (wk1 T)))), (5, .int (nI k)), (4, .int (dv T 4)), (0, .ref 0), (1, .int (nI m))]) dX11_weeks_178 rfl (inc1 i) (by decide) rfl ?_
                refine j_goto (tgt := 22) dX11_weeks_181 rfl ?_
                have hw1 : ((wkS Z.1 i).2 + (fillS (wk1 T))) = (wkS Z.1 (i + 1)).2 := by rw [wk_s, hTe]
                refine j_L (congrArg (fun zz9 : Int32 => ([(3, .int (nI (i + 1))), (2, .int zz9), (5, .int (nI k)), (4, .int (dv T 4)), (0, .ref 0), (1, .int (nI m))] : List (Nat × Value))) hw1) ?_
                exact j_sub (jk_pick [4, 5, 1, 0] rfl) (ih3 (i + 1) M76 (by omega) (by omega) sm79 (by rw [wk_s, hTe]; exact hv80))
          · refine j_aload_n 1 dX11_weeks_39 rfl ?_
            refine j_getv (nI (nD (ds T))) dX11_weeks_40 fX11_147 (shM (Fm.M sm9 hM) sgM_0) rfl ((mr_D hv10).trans (Sok.D (ds_ok okT)).1) ?_
            refine j_if_leN (tgt := 90) (nD (ds T)) dX11_weeks_43 (by omega) rfl (fun c81 => ?_) (fun c81 => ?_)
            · refine j_iload 0 dX11_weeks_90 rfl ?_
              refine j_iconst 1 dX11_weeks_92 ic_1 ?_
              refine j_icmp_ne (tgt := 132) dX11_weeks_93 rfl (fun c82 => ?_) (fun c82 => ?_)
              · refine j_iload 0 dX11_weeks_132 rfl ?_
                refine j_iconst 2 dX11_weeks_134 ic_2 ?_
                refine j_icmp_ne (tgt := 170) dX11_weeks_135 rfl (fun c83 => ?_) (fun c83 => ?_)
                · have hch : mv M6.2.1 = chS T := hv10.trans (ch_3 (fun z => by first | exact absurd z.1 c1 | exact absurd z.1 hi | exact absurd z.1 hs1 | exact absurd z.1 hd1 | exact absurd z.1 c5 | exact absurd z.1 c11 | exact absurd z.1 c81 | exact absurd z.1 c82 | exact absurd z.1 c83 | exact absurd (c1.symm.trans z.1) (by decide) | exact absurd (hi.symm.trans z.1) (by decide) | exact absurd (hs1.symm.trans z.1) (by decide) | exact absurd (hd1.symm.trans z.1) (by decide) | exact absurd (c5.symm.trans z.1) (by decide) | exact absurd (c11.symm.trans z.1) (by decide) | exact absurd (c81.symm.trans z.1) (by decide) | exact absurd (c82.symm.trans z.1) (by decide) | exact absurd (c83.symm.trans z.1) (by decide) | (have := z.2; omega)) (fun z => by first | exact absurd z.1 c1 | exact absurd z.1 hi | exact absurd z.1 hs1 | exact absurd z.1 hd1 | exact absurd z.1 c5 | exact absurd z.1 c11 | exact absurd z.1 c81 | exact absurd z.1 c82 | exact absurd z.1 c83 | exact absurd (c1.symm.trans z.1) (by decide) | exact absurd (hi.symm.trans z.1) (by decide) | exact absurd (hs1.symm.trans z.1) (by decide) | exact absurd (hd1.symm.trans z.1) (by decide) | exact absurd (c5.symm.trans z.1) (by decide) | exact absurd (c11.symm.trans z.1) (by decide) | exact absurd (c81.symm.trans z.1) (by decide) | exact absurd (c82.symm.trans z.1) (by decide) | exact absurd (c83.symm.trans z.1) (by decide) | (have := z.2; omega)) (fun z => by first | exact absurd z.1 c1 | exact absurd z.1 hi | exact absurd z.1 hs1 | exact absurd z.1 hd1 | exact absurd z.1 c5 | exact absurd z.1 c11 | exact absurd z.1 c81 | exact absurd z.1 c82 | exact absurd z.1 c83 | exact absurd (c1.symm.trans z.1) (by decide) | exact absurd (hi.symm.trans z.1) (by decide) | exact absurd (hs1.symm.trans z.1) (by decide) | exact absurd (hd1.symm.trans z.1) (by decide) | exact absurd (c5.symm.trans z.1) (by decide) | exact absurd (c11.symm.trans z.1) (by decide) | exact absurd (c81.symm.trans z.1) (by decide) | exact absurd (c82.symm.trans z.1) (by decide) | exact absurd (c83.symm.trans z.1) (by decide) | (have := z.2; omega))).symm
                  refine j_iload_n 3 dX11_weeks_170 rfl ?_
                  refine j_aload_n 1 dX11_weeks_171 rfl ?_
                  refine j_iconst 1 dX11_weeks_172 ic_1 ?_
                  refine j_callV (kc := 0) (ks := 0) (a := 0) (b := 0) (d' := (d + 6)) (As := [.int 1]) dX11_weeks_173 kX11_311 rfl (shM (Fm.M sm9 hM) sgM_0) (by omega) rfl rfl rfl (Nat.le_of_ble_eq_true rfl) (Nat.le_of_ble_eq_true rfl) (T_X11_passes (Fm.M sm9 hM) hch (ch_ok okT) ((Fm.rd sm9 (q := 0) (k := 40) (by unfold PO PH PS; omega)).trans h40) 1) (kk_e (fun M84 hM85 => ?_))
                  obtain ⟨h086, hv88⟩ := hM85
                  have sm87 := Fm.tr sm9 h086
                  refine j_iadd dX11_weeks_176 ?_
                  refine j_istore_n (L' := [(2, .int ((wkS Z.1 i).2 + (fillS (wk1 T)))), (4, .int (dv T 4)), (0, .ref 0), (1, .int (nI m)), (3, .int (nI i))]) dX11_weeks_177 (by decide) rfl ?_
                  refine j_iinc 4 (nI (i + 1)) (L' := [(3, .int (nI (i + 1))), (2, .int ((wkS Z.1 i).2 + (fillS (wk1 T)))), (4, .int (dv T 4)), (0, .ref 0), (1, .int (nI m))]) dX11_weeks_178 rfl (inc1 i) (by decide) rfl ?_
                  refine j_goto (tgt := 22) dX11_weeks_181 rfl ?_
                  have hw1 : ((wkS Z.1 i).2 + (fillS (wk1 T))) = (wkS Z.1 (i + 1)).2 := by rw [wk_s, hTe]
                  refine j_L (congrArg (fun zz9 : Int32 => ([(3, .int (nI (i + 1))), (2, .int zz9), (4, .int (dv T 4)), (0, .ref 0), (1, .int (nI m))] : List (Nat × Value))) hw1) ?_
                  exact j_sub (jk_pick [3, 4, 1, 0] rfl) (ih3 (i + 1) M84 (by omega) (by omega) sm87 (by rw [wk_s, hTe]; exact hv88))
                · refine j_aload_n 1 dX11_weeks_138 rfl ?_
                  refine j_getv (nI (nN (ds T))) dX11_weeks_139 fX11_144 (shM (Fm.M sm9 hM) sgM_0) rfl ((mr_N hv10).trans (Sok.N (ds_ok okT)).1) ?_
                  refine j_if_leN (tgt := 170) (nN (ds T)) dX11_weeks_142 (by omega) rfl (fun c89 => ?_) (fun c89 => ?_)
                  · have hch : mv M6.2.1 = chS T := hv10.trans (ch_3 (fun z => by first | exact absurd z.1 c1 | exact absurd z.1 hi | exact absurd z.1 hs1 | exact absurd z.1 hd1 | exact absurd z.1 c5 | exact absurd z.1 c11 | exact absurd z.1 c81 | exact absurd z.1 c82 | exact absurd z.1 c83 | exact absurd z.1 c89 | exact absurd (c1.symm.trans z.1) (by decide) | exact absurd (hi.symm.trans z.1) (by decide) | exact absurd (hs1.symm.trans z.1) (by decide) | exact absurd (hd1.symm.trans z.1) (by decide) | exact absurd (c5.symm.trans z.1) (by decide) | exact absurd (c11.symm.trans z.1) (by decide) | exact absurd (c81.symm.trans z.1) (by decide) | exact absurd (c82.symm.trans z.1) (by decide) | exact absurd (c83.symm.trans z.1) (by decide) | exact absurd (c89.symm.trans z.1) (by decide) | (have := z.2; omega)) (fun z => by first | exact absurd z.1 c1 | exact absurd z.1 hi | exact absurd z.1 hs1 | exact absurd z.1 hd1 | exact absurd z.1 c5 | exact absurd z.1 c11 | exact absurd z.1 c81 | exact absurd z.1 c82 | exact absurd z.1 c83 | exact absurd z.1 c89 | exact absurd (c1.symm.trans z.1) (by decide) | exact absurd (hi.symm.trans z.1) (by decide) | exact absurd (hs1.symm.trans z.1) (by decide) | exact absurd (hd1.symm.trans z.1) (by decide) | exact absurd (c5.symm.trans z.1) (by decide) | exact absurd (c11.symm.trans z.1) (by decide) | exact absurd (c81.symm.trans z.1) (by decide) | exact absurd (c82.symm.trans z.1) (by decide) | exact absurd (c83.symm.trans z.1) (by decide) | exact absurd (c89.symm.trans z.1) (by decide) | (have := z.2; omega)) (fun z => by first | exact absurd z.1 c1 | exact absurd z.1 hi | exact absurd z.1 hs1 | exact absurd z.1 hd1 | exact absurd z.1 c5 | exact absurd z.1 c11 | exact absurd z.1 c81 | exact absurd z.1 c82 | exact absurd z.1 c83 | exact absurd z.1 c89 | exact absurd (c1.symm.trans z.1) (by decide) | exact absurd (hi.symm.trans z.1) (by decide) | exact absurd (hs1.symm.trans z.1) (by decide) | exact absurd (hd1.symm.trans z.1) (by decide) | exact absurd (c5.symm.trans z.1) (by decide) | exact absurd (c11.symm.trans z.1) (by decide) | exact absurd (c81.symm.trans z.1) (by decide) | exact absurd (c82.symm.trans z.1) (by decide) | exact absurd (c83.symm.trans z.1) (by decide) | exact absurd (c89.symm.trans z.1) (by decide) | (have := z.2; omega))).symm
                    refine j_iload_n 3 dX11_weeks_170 rfl ?_
                    refine j_aload_n 1 dX11_weeks_171 rfl ?_
                    refine j_iconst 1 dX11_weeks_172 ic_1 ?_
                    refine j_callV (kc := 0) (ks := 0) (a := 0) (b := 0) (d' := (d + 6)) (As := [.int 1]) dX11_weeks_173 kX11_311 rfl (shM (Fm.M sm9 hM) sgM_0) (by omega) rfl rfl rfl (Nat.le_of_ble_eq_true rfl) (Nat.le_of_ble_eq_true rfl) (T_X11_passes (Fm.M sm9 hM) hch (ch_ok okT) ((Fm.rd sm9 (q := 0) (k := 40) (by unfold PO PH PS; omega)).trans h40) 1) (kk_e (fun M90 hM91 => ?_))
                    obtain ⟨h092, hv94⟩ := hM91
                    have sm93 := Fm.tr sm9 h092
                    refine j_iadd dX11_weeks_176 ?_
                    refine j_istore_n (L' := [(2, .int ((wkS Z.1 i).2 + (fillS (wk1 T)))), (4, .int (dv T 4)), (0, .ref 0), (1, .int (nI m)), (3, .int (nI i))]) dX11_weeks_177 (by decide) rfl ?_
                    refine j_iinc 4 (nI (i + 1)) (L' := [(3, .int (nI (i + 1))), (2, .int ((wkS Z.1 i).2 + (fillS (wk1 T)))), (4, .int (dv T 4)), (0, .ref 0), (1, .int (nI m))]) dX11_weeks_178 rfl (inc1 i) (by decide) rfl ?_
                    refine j_goto (tgt := 22) dX11_weeks_181 rfl ?_
                    have hw1 : ((wkS Z.1 i).2 + (fillS (wk1 T))) = (wkS Z.1 (i + 1)).2 := by rw [wk_s, hTe]
                    refine j_L (congrArg (fun zz9 : Int32 => ([(3, .int (nI (i + 1))), (2, .int zz9), (4, .int (dv T 4)), (0, .ref 0), (1, .int (nI m))] : List (Nat × Value))) hw1) ?_
                    exact j_sub (jk_pick [3, 4, 1, 0] rfl) (ih3 (i + 1) M90 (by omega) (by omega) sm93 (by rw [wk_s, hTe]; exact hv94))
                  · refine j_aload_n 1 dX11_weeks_145 rfl ?_
                    refine j_aload_n 1 dX11_weeks_146 rfl ?_
                    refine j_getv (nI (nN (ds T))) dX11_weeks_147 fX11_144 (shM (Fm.M sm9 hM) sgM_0) rfl ((mr_N hv10).trans (Sok.N (ds_ok okT)).1) ?_
                    refine j_callV (kc := 0) (ks := 0) (a := 0) (b := 0) (d' := d) (As := [.int (nI (nN (ds T)))]) dX11_weeks_150 kX11_315 rfl (shM (Fm.M sm9 hM) sgM_0) (by omega) rfl rfl rfl (Nat.le_of_ble_eq_true rfl) (Nat.le_of_ble_eq_true rfl) (T_X11_draw (Fm.M sm9 hM) hv10 (ds_ok okT) (nI (nN (ds T))) (nI_lt (a := 0) (by omega) (by omega))) (kk_e (fun M95 hM96 => ?_))
                    obtain ⟨h097, hv99x⟩ := hM96
                    have hv99 : mv M95.2.1 = ds (ds T) := hv99x
                    have sm98 : Fm PO M M95 := Fm.tr sm9 h097
                    have hv99n : nD (ds (ds T)) = nD (ds T) ∧ nT (ds (ds T)) = nT (ds T) ∧ nN (ds (ds T)) = nN (ds T) := ds_n
                    obtain ⟨k, hk, ek⟩ := drawN_in (s := drawS (ds T)) (n := nN (ds T)) (by omega) (by omega)
                    refine j_topi (nI k) ek ?_
                    refine j_istore (L' := [(5, .int (nI k)), (4, .int (dv T 4)), (0, .ref 0), (1, .int (nI m)), (2, .int (wkS Z.1 i).2), (3, .int (nI i))]) dX11_weeks_153 (by decide) rfl ?_
                    refine j_aload_n 2 dX11_weeks_155 rfl ?_
                    refine j_getr (q := 6) dX11_weeks_156 fX11_41 (shM (Fm.M sm98 hM) sgM_0) rfl (rfM (Fm.M sm98 hM) rfM_0_14) ?_
                    refine j_iload 0 dX11_weeks_159 rfl ?_
                    refine j_iconst 1 dX11_weeks_161 ic_1 ?_
                    refine j_aload_n 2 dX11_weeks_162 rfl ?_
                    refine j_bipush 13 dX11_weeks_163 bp_13 ?_
                    refine j_callV (kc := 0) (ks := 0) (a := 0) (b := 0) (d' := d) (As := [.int 13]) dX11_weeks_165 kX11_315 rfl (shM (Fm.M sm98 hM) sgM_0) (by omega) rfl rfl rfl (Nat.le_of_ble_eq_true rfl) (Nat.le_of_ble_eq_true rfl) (T_X11_draw (Fm.M sm98 hM) hv99 (ds_ok (ds_ok okT)) 13 (by decide)) (kk_e (fun M100 hM101 => ?_))
                    obtain ⟨h0102, hv104x⟩ := hM101
                    have hv104 : mv M100.2.1 = ds (ds (ds T)) := hv104x
                    have sm103 : Fm PO M M100 := Fm.tr sm98 h0102
                    have hv104n : nD (ds (ds (ds T))) = nD (ds (ds T)) ∧ nT (ds (ds (ds T))) = nT (ds (ds T)) ∧ nN (ds (ds (ds T))) = nN (ds (ds T)) := ds_n
                    refine j_iadd dX11_weeks_168 ?_
                    refine j_iastN k dX11_weeks_169 (shM (Fm.M sm103 hM) sgM_6) (by omega) (by omega) ?_
                    have sm105 : Fm PO M (jk_wI M100 6 k (1 + (dv (ds (ds T)) 13))) := Fm.w sm103 (by unfold PO PH PS; omega)
                    have hch : mv (jk_wI M100 6 k (1 + (dv (ds (ds T)) 13))).2.1 = chS T := (mv_ar (a := 14) hv104 (by omega)).trans (ch_2 c83 (by omega) (by omega) ek).symm
                    refine j_iload_n 4 dX11_weeks_170 rfl ?_
                    refine j_aload_n 2 dX11_weeks_171 rfl ?_
                    refine j_iconst 1 dX11_weeks_172 ic_1 ?_
                    refine j_callV (kc := 0) (ks := 0) (a := 0) (b := 0) (d' := (d + 6)) (As := [.int 1]) dX11_weeks_173 kX11_311 rfl (shM (Fm.M sm105 hM) sgM_0) (by omega) rfl rfl rfl (Nat.le_of_ble_eq_true rfl) (Nat.le_of_ble_eq_true rfl) (T_X11_passes (Fm.M sm105 hM) hch (ch_ok okT) ((Fm.rd sm105 (q := 0) (k := 40) (by unfold PO PH PS; omega)).trans h40) 1) (kk_e (fun M106 hM107 => ?_))
                    obtain ⟨h0108, hv110⟩ := hM107
                    have sm109 := Fm.tr sm105 h0108
                    refine j_iadd dX11_weeks_176 ?_
                    refine j_istore_n (L' := [(2, .int ((wkS Z.1 i).2 + (fillS (wk1 T)))), (5, .int (nI k)), (4, .int (dv T 4)), (0, .ref 0), (1, .int (nI m)), (3, .int (nI i))]) dX11_weeks_177 (by decide) rfl ?_
                    refine j_iinc 5 (nI (i + 1)) (L' := [(3, .int (nI (i + 1))), (2, .int ((wkS Z.1 i).2 + (fillS (wk1 T)))), (5, .int (nI k)), (4, .int (dv T 4)), (0, .ref 0), (1, .int (nI m))]) dX11_weeks_178 rfl (inc1 i) (by decide) rfl ?_
                    refine j_goto (tgt := 22) dX11_weeks_181 rfl ?_
                    have hw1 : ((wkS Z.1 i).2 + (fillS (wk1 T))) = (wkS Z.1 (i + 1)).2 := by rw [wk_s, hTe]
                    refine j_L (congrArg (fun zz9 : Int32 => ([(3, .int (nI (i + 1))), (2, .int zz9), (5, .int (nI k)), (4, .int (dv T 4)), (0, .ref 0), (1, .int (nI m))] : List (Nat × Value))) hw1) ?_
                    exact j_sub (jk_pick [4, 5, 1, 0] rfl) (ih3 (i + 1) M106 (by omega) (by omega) sm109 (by rw [wk_s, hTe]; exact hv110))
              · refine j_aload_n 1 dX11_weeks_96 rfl ?_
                refine j_getv (nI (nT (ds T))) dX11_weeks_97 fX11_123 (shM (Fm.M sm9 hM) sgM_0) rfl ((mr_T hv10).trans (Sok.T (ds_ok okT)).1) ?_
                refine j_if_leN (tgt := 132) (nT (ds T)) dX11_weeks_100 (by omega) rfl (fun c111 => ?_) (fun c111 => ?_)
                · refine j_iload 0 dX11_weeks_132 rfl ?_
                  refine j_iconst 2 dX11_weeks_134 ic_2 ?_
                  refine j_icmp_ne (tgt := 170) dX11_weeks_135 rfl (fun c112 => ?_) (fun c112 => ?_)
                  · have hch : mv M6.2.1 = chS T := hv10.trans (ch_3 (fun z => by first | exact absurd z.1 c1 | exact absurd z.1 hi | exact absurd z.1 hs1 | exact absurd z.1 hd1 | exact absurd z.1 c5 | exact absurd z.1 c11 | exact absurd z.1 c81 | exact absurd z.1 c82 | exact absurd z.1 c111 | exact absurd z.1 c112 | exact absurd (c1.symm.trans z.1) (by decide) | exact absurd (hi.symm.trans z.1) (by decide) | exact absurd (hs1.symm.trans z.1) (by decide) | exact absurd (hd1.symm.trans z.1) (by decide) | exact absurd (c5.symm.trans z.1) (by decide) | exact absurd (c11.symm.trans z.1) (by decide) | exact absurd (c81.symm.trans z.1) (by decide) | exact absurd (c82.symm.trans z.1) (by decide) | exact absurd (c111.symm.trans z.1) (by decide) | exact absurd (c112.symm.trans z.1) (by decide) | (have := z.2; omega)) (fun z => by first | exact absurd z.1 c1 | exact absurd z.1 hi | exact absurd z.1 hs1 | exact absurd z.1 hd1 | exact absurd z.1 c5 | exact absurd z.1 c11 | exact absurd z.1 c81 | exact absurd z.1 c82 | exact absurd z.1 c111 | exact absurd z.1 c112 | exact absurd (c1.symm.trans z.1) (by decide) | exact absurd (hi.symm.trans z.1) (by decide) | exact absurd (hs1.symm.trans z.1) (by decide) | exact absurd (hd1.symm.trans z.1) (by decide) | exact absurd (c5.symm.trans z.1) (by decide) | exact absurd (c11.symm.trans z.1) (by decide) | exact absurd (c81.symm.trans z.1) (by decide) | exact absurd (c82.symm.trans z.1) (by decide) | exact absurd (c111.symm.trans z.1) (by decide) | exact absurd (c112.symm.trans z.1) (by decide) | (have := z.2; omega)) (fun z => by first | exact absurd z.1 c1 | exact absurd z.1 hi | exact absurd z.1 hs1 | exact absurd z.1 hd1 | exact absurd z.1 c5 | exact absurd z.1 c11 | exact absurd z.1 c81 | exact absurd z.1 c82 | exact absurd z.1 c111 | exact absurd z.1 c112 | exact absurd (c1.symm.trans z.1) (by decide) | exact absurd (hi.symm.trans z.1) (by decide) | exact absurd (hs1.symm.trans z.1) (by decide) | exact absurd (hd1.symm.trans z.1) (by decide) | exact absurd (c5.symm.trans z.1) (by decide) | exact absurd (c11.symm.trans z.1) (by decide) | exact absurd (c81.symm.trans z.1) (by decide) | exact absurd (c82.symm.trans z.1) (by decide) | exact absurd (c111.symm.trans z.1) (by decide) | exact absurd (c112.symm.trans z.1) (by decide) | (have := z.2; omega))).symm
                    refine j_iload_n 3 dX11_weeks_170 rfl ?_
                    refine j_aload_n 1 dX11_weeks_171 rfl ?_
                    refine j_iconst 1 dX11_weeks_172 ic_1 ?_
                    refine j_callV (kc := 0) (ks := 0) (a := 0) (b := 0) (d' := (d + 6)) (As := [.int 1]) dX11_weeks_173 kX11_311 rfl (shM (Fm.M sm9 hM) sgM_0) (by omega) rfl rfl rfl (Nat.le_of_ble_eq_true rfl) (Nat.le_of_ble_eq_true rfl) (T_X11_passes (Fm.M sm9 hM) hch (ch_ok okT) ((Fm.rd sm9 (q := 0) (k := 40) (by unfold PO PH PS; omega)).trans h40) 1) (kk_e (fun M113 hM114 => ?_))
                    obtain ⟨h0115, hv117⟩ := hM114
                    have sm116 := Fm.tr sm9 h0115
                    refine j_iadd dX11_weeks_176 ?_
                    refine j_istore_n (L' := [(2, .int ((wkS Z.1 i).2 + (fillS (wk1 T)))), (4, .int (dv T 4)), (0, .ref 0), (1, .int (nI m)), (3, .int (nI i))]) dX11_weeks_177 (by decide) rfl ?_
                    refine j_iinc 4 (nI (i + 1)) (L' := [(3, .int (nI (i + 1))), (2, .int ((wkS Z.1 i).2 + (fillS (wk1 T)))), (4, .int (dv T 4)), (0, .ref 0), (1, .int (nI m))]) dX11_weeks_178 rfl (inc1 i) (by decide) rfl ?_
                    refine j_goto (tgt := 22) dX11_weeks_181 rfl ?_
                    have hw1 : ((wkS Z.1 i).2 + (fillS (wk1 T))) = (wkS Z.1 (i + 1)).2 := by rw [wk_s, hTe]
                    refine j_L (congrArg (fun zz9 : Int32 => ([(3, .int (nI (i + 1))), (2, .int zz9), (4, .int (dv T 4)), (0, .ref 0), (1, .int (nI m))] : List (Nat × Value))) hw1) ?_
                    exact j_sub (jk_pick [3, 4, 1, 0] rfl) (ih3 (i + 1) M113 (by omega) (by omega) sm116 (by rw [wk_s, hTe]; exact hv117))
                  · refine j_aload_n 1 dX11_weeks_138 rfl ?_
                    refine j_getv (nI (nN (ds T))) dX11_weeks_139 fX11_144 (shM (Fm.M sm9 hM) sgM_0) rfl ((mr_N hv10).trans (Sok.N (ds_ok okT)).1) ?_
                    refine j_if_leN (tgt := 170) (nN (ds T)) dX11_weeks_142 (by omega) rfl (fun c118 => ?_) (fun c118 => ?_)
                    · have hch : mv M6.2.1 = chS T := hv10.trans (ch_3 (fun z => by first | exact absurd z.1 c1 | exact absurd z.1 hi | exact absurd z.1 hs1 | exact absurd z.1 hd1 | exact absurd z.1 c5 | exact absurd z.1 c11 | exact absurd z.1 c81 | exact absurd z.1 c82 | exact absurd z.1 c111 | exact absurd z.1 c112 | exact absurd z.1 c118 | exact absurd (c1.symm.trans z.1) (by decide) | exact absurd (hi.symm.trans z.1) (by decide) | exact absurd (hs1.symm.trans z.1) (by decide) | exact absurd (hd1.symm.trans z.1) (by decide) | exact absurd (c5.symm.trans z.1) (by decide) | exact absurd (c11.symm.trans z.1) (by decide) | exact absurd (c81.symm.trans z.1) (by decide) | exact absurd (c82.symm.trans z.1) (by decide) | exact absurd (c111.symm.trans z.1) (by decide) | exact absurd (c112.symm.trans z.1) (by decide) | exact absurd (c118.symm.trans z.1) (by decide) | (have := z.2; omega)) (fun z => by first | exact absurd z.1 c1 | exact absurd z.1 hi | exact absurd z.1 hs1 | exact absurd z.1 hd1 | exact absurd z.1 c5 | exact absurd z.1 c11 | exact absurd z.1 c81 | exact absurd z.1 c82 | exact absurd z.1 c111 | exact absurd z.1 c112 | exact absurd z.1 c118 | exact absurd (c1.symm.trans z.1) (by decide) | exact absurd (hi.symm.trans z.1) (by decide) | exact absurd (hs1.symm.trans z.1) (by decide) | exact absurd (hd1.symm.trans z.1) (by decide) | exact absurd (c5.symm.trans z.1) (by decide) | exact absurd (c11.symm.trans z.1) (by decide) | exact absurd (c81.symm.trans z.1) (by decide) | exact absurd (c82.symm.trans z.1) (by decide) | exact absurd (c111.symm.trans z.1) (by decide) | exact absurd (c112.symm.trans z.1) (by decide) | exact absurd (c118.symm.trans z.1) (by decide) | (have := z.2; omega)) (fun z => by first | exact absurd z.1 c1 | exact absurd z.1 hi | exact absurd z.1 hs1 | exact absurd z.1 hd1 | exact absurd z.1 c5 | exact absurd z.1 c11 | exact absurd z.1 c81 | exact absurd z.1 c82 | exact absurd z.1 c111 | exact absurd z.1 c112 | exact absurd z.1 c118 | exact absurd (c1.symm.trans z.1) (by decide) | exact absurd (hi.symm.trans z.1) (by decide) | exact absurd (hs1.symm.trans z.1) (by decide) | exact absurd (hd1.symm.trans z.1) (by decide) | exact absurd (c5.symm.trans z.1) (by decide) | exact absurd (c11.symm.trans z.1) (by decide) | exact absurd (c81.symm.trans z.1) (by decide) | exact absurd (c82.symm.trans z.1) (by decide) | exact absurd (c111.symm.trans z.1) (by decide) | exact absurd (c112.symm.trans z.1) (by decide) | exact absurd (c118.symm.trans z.1) (by decide) | (have := z.2; omega))).symm
                      refine j_iload_n 3 dX11_weeks_170 rfl ?_
                      refine j_aload_n 1 dX11_weeks_171 rfl ?_
                      refine j_iconst 1 dX11_weeks_172 ic_1 ?_
                      refine j_callV (kc := 0) (ks := 0) (a := 0) (b := 0) (d' := (d + 6)) (As := [.int 1]) dX11_weeks_173 kX11_311 rfl (shM (Fm.M sm9 hM) sgM_0) (by omega) rfl rfl rfl (Nat.le_of_ble_eq_true rfl) (Nat.le_of_ble_eq_true rfl) (T_X11_passes (Fm.M sm9 hM) hch (ch_ok okT) ((Fm.rd sm9 (q := 0) (k := 40) (by unfold PO PH PS; omega)).trans h40) 1) (kk_e (fun M119 hM120 => ?_))
                      obtain ⟨h0121, hv123⟩ := hM120
                      have sm122 := Fm.tr sm9 h0121
                      refine j_iadd dX11_weeks_176 ?_
                      refine j_istore_n (L' := [(2, .int ((wkS Z.1 i).2 + (fillS (wk1 T)))), (4, .int (dv T 4)), (0, .ref 0), (1, .int (nI m)), (3, .int (nI i))]) dX11_weeks_177 (by decide) rfl ?_
                      refine j_iinc 4 (nI (i + 1)) (L' := [(3, .int (nI (i + 1))), (2, .int ((wkS Z.1 i).2 + (fillS (wk1 T)))), (4, .int (dv T 4)), (0, .ref 0), (1, .int (nI m))]) dX11_weeks_178 rfl (inc1 i) (by decide) rfl ?_
                      refine j_goto (tgt := 22) dX11_weeks_181 rfl ?_
                      have hw1 : ((wkS Z.1 i).2 + (fillS (wk1 T))) = (wkS Z.1 (i + 1)).2 := by rw [wk_s, hTe]
                      refine j_L (congrArg (fun zz9 : Int32 => ([(3, .int (nI (i + 1))), (2, .int zz9), (4, .int (dv T 4)), (0, .ref 0), (1, .int (nI m))] : List (Nat × Value))) hw1) ?_
                      exact j_sub (jk_pick [3, 4, 1, 0] rfl) (ih3 (i + 1) M119 (by omega) (by omega) sm122 (by rw [wk_s, hTe]; exact hv123))
                    · refine j_aload_n 1 dX11_weeks_145 rfl ?_
                      refine j_aload_n 1 dX11_weeks_146 rfl ?_
                      refine j_getv (nI (nN (ds T))) dX11_weeks_147 fX11_144 (shM (Fm.M sm9 hM) sgM_0) rfl ((mr_N hv10).trans (Sok.N (ds_ok okT)).1) ?_
                      refine j_callV (kc := 0) (ks := 0) (a := 0) (b := 0) (d' := d) (As := [.int (nI (nN (ds T)))]) dX11_weeks_150 kX11_315 rfl (shM (Fm.M sm9 hM) sgM_0) (by omega) rfl rfl rfl (Nat.le_of_ble_eq_true rfl) (Nat.le_of_ble_eq_true rfl) (T_X11_draw (Fm.M sm9 hM) hv10 (ds_ok okT) (nI (nN (ds T))) (nI_lt (a := 0) (by omega) (by omega))) (kk_e (fun M124 hM125 => ?_))
                      obtain ⟨h0126, hv128x⟩ := hM125
                      have hv128 : mv M124.2.1 = ds (ds T) := hv128x
                      have sm127 : Fm PO M M124 := Fm.tr sm9 h0126
                      have hv128n : nD (ds (ds T)) = nD (ds T) ∧ nT (ds (ds T)) = nT (ds T) ∧ nN (ds (ds T)) = nN (ds T) := ds_n
                      obtain ⟨k, hk, ek⟩ := drawN_in (s := drawS (ds T)) (n := nN (ds T)) (by omega) (by omega)
                      refine j_topi (nI k) ek ?_
                      refine j_istore (L' := [(5, .int (nI k)), (4, .int (dv T 4)), (0, .ref 0), (1, .int (nI m)), (2, .int (wkS Z.1 i).2), (3, .int (nI i))]) dX11_weeks_153 (by decide) rfl ?_
                      refine j_aload_n 2 dX11_weeks_155 rfl ?_
                      refine j_getr (q := 6) dX11_weeks_156 fX11_41 (shM (Fm.M sm127 hM) sgM_0) rfl (rfM (Fm.M sm127 hM) rfM_0_14) ?_
                      refine j_iload 0 dX11_weeks_159 rfl ?_
                      refine j_iconst 1 dX11_weeks_161 ic_1 ?_
                      refine j_aload_n 2 dX11_weeks_162 rfl ?_
                      refine j_bipush 13 dX11_weeks_163 bp_13 ?_
                      refine j_callV (kc := 0) (ks := 0) (a := 0) (b := 0) (d' := d) (As := [.int 13]) dX11_weeks_165 kX11_315 rfl (shM (Fm.M sm127 hM) sgM_0) (by omega) rfl rfl rfl (Nat.le_of_ble_eq_true rfl) (Nat.le_of_ble_eq_true rfl) (T_X11_draw (Fm.M sm127 hM) hv128 (ds_ok (ds_ok okT)) 13 (by decide)) (kk_e (fun M129 hM130 => ?_))
                      obtain ⟨h0131, hv133x⟩ := hM130
                      have hv133 : mv M129.2.1 = ds (ds (ds T)) := hv133x
                      have sm132 : Fm PO M M129 := Fm.tr sm127 h0131
                      have hv133n : nD (ds (ds (ds T))) = nD (ds (ds T)) ∧ nT (ds (ds (ds T))) = nT (ds (ds T)) ∧ nN (ds (ds (ds T))) = nN (ds (ds T)) := ds_n
                      refine j_iadd dX11_weeks_168 ?_
                      refine j_iastN k dX11_weeks_169 (shM (Fm.M sm132 hM) sgM_6) (by omega) (by omega) ?_
                      have sm134 : Fm PO M (jk_wI M129 6 k (1 + (dv (ds (ds T)) 13))) := Fm.w sm132 (by unfold PO PH PS; omega)
                      have hch : mv (jk_wI M129 6 k (1 + (dv (ds (ds T)) 13))).2.1 = chS T := (mv_ar (a := 14) hv133 (by omega)).trans (ch_2 c112 (by omega) (by omega) ek).symm
                      refine j_iload_n 4 dX11_weeks_170 rfl ?_
                      refine j_aload_n 2 dX11_weeks_171 rfl ?_
                      refine j_iconst 1 dX11_weeks_172 ic_1 ?_
                      refine j_callV (kc := 0) (ks := 0) (a := 0) (b := 0) (d' := (d + 6)) (As := [.int 1]) dX11_weeks_173 kX11_311 rfl (shM (Fm.M sm134 hM) sgM_0) (by omega) rfl rfl rfl (Nat.le_of_ble_eq_true rfl) (Nat.le_of_ble_eq_true rfl) (T_X11_passes (Fm.M sm134 hM) hch (ch_ok okT) ((Fm.rd sm134 (q := 0) (k := 40) (by unfold PO PH PS; omega)).trans h40) 1) (kk_e (fun M135 hM136 => ?_))
                      obtain ⟨h0137, hv139⟩ := hM136
                      have sm138 := Fm.tr sm134 h0137
                      refine j_iadd dX11_weeks_176 ?_
                      refine j_istore_n (L' := [(2, .int ((wkS Z.1 i).2 + (fillS (wk1 T)))), (5, .int (nI k)), (4, .int (dv T 4)), (0, .ref 0), (1, .int (nI m)), (3, .int (nI i))]) dX11_weeks_177 (by decide) rfl ?_
                      refine j_iinc 5 (nI (i + 1)) (L' := [(3, .int (nI (i + 1))), (2, .int ((wkS Z.1 i).2 + (fillS (wk1 T)))), (5, .int (nI k)), (4, .int (dv T 4)), (0, .ref 0), (1, .int (nI m))]) dX11_weeks_178 rfl (inc1 i) (by decide) rfl ?_
                      refine j_goto (tgt := 22) dX11_weeks_181 rfl ?_
                      have hw1 : ((wkS Z.1 i).2 + (fillS (wk1 T))) = (wkS Z.1 (i + 1)).2 := by rw [wk_s, hTe]
                      refine j_L (congrArg (fun zz9 : Int32 => ([(3, .int (nI (i + 1))), (2, .int zz9), (5, .int (nI k)), (4, .int (dv T 4)), (0, .ref 0), (1, .int (nI m))] : List (Nat × Value))) hw1) ?_
                      exact j_sub (jk_pick [4, 5, 1, 0] rfl) (ih3 (i + 1) M135 (by omega) (by omega) sm138 (by rw [wk_s, hTe]; exact hv139))
                · refine j_aload_n 1 dX11_weeks_103 rfl ?_
                  refine j_aload_n 1 dX11_weeks_104 rfl ?_
                  refine j_getv (nI (nT (ds T))) dX11_weeks_105 fX11_123 (shM (Fm.M sm9 hM) sgM_0) rfl ((mr_T hv10).trans (Sok.T (ds_ok okT)).1) ?_
                  refine j_callV (kc := 0) (ks := 0) (a := 0) (b := 0) (d' := d) (As := [.int (nI (nT (ds T)))]) dX11_weeks_108 kX11_315 rfl (shM (Fm.M sm9 hM) sgM_0) (by omega) rfl rfl rfl (Nat.le_of_ble_eq_true rfl) (Nat.le_of_ble_eq_true rfl) (T_X11_draw (Fm.M sm9 hM) hv10 (ds_ok okT) (nI (nT (ds T))) (nI_lt (a := 0) (by omega) (by omega))) (kk_e (fun M140 hM141 => ?_))
                  obtain ⟨h0142, hv144x⟩ := hM141
                  have hv144 : mv M140.2.1 = ds (ds T) := hv144x
                  have sm143 : Fm PO M M140 := Fm.tr sm9 h0142
                  have hv144n : nD (ds (ds T)) = nD (ds T) ∧ nT (ds (ds T)) = nT (ds T) ∧ nN (ds (ds T)) = nN (ds T) := ds_n
                  obtain ⟨k, hk, ek⟩ := drawN_in (s := drawS (ds T)) (n := nT (ds T)) (by omega) (by omega)
                  refine j_topi (nI k) ek ?_
                  refine j_istore (L' := [(5, .int (nI k)), (4, .int (dv T 4)), (0, .ref 0), (1, .int (nI m)), (2, .int (wkS Z.1 i).2), (3, .int (nI i))]) dX11_weeks_111 (by decide) rfl ?_
                  refine j_aload_n 2 dX11_weeks_113 rfl ?_
                  refine j_getr (q := 5) dX11_weeks_114 fX11_38 (shM (Fm.M sm143 hM) sgM_0) rfl (rfM (Fm.M sm143 hM) rfM_0_13) ?_
                  refine j_iload 0 dX11_weeks_117 rfl ?_
                  refine j_iconst 1 dX11_weeks_119 ic_1 ?_
                  refine j_aload_n 2 dX11_weeks_120 rfl ?_
                  refine j_getr (q := 5) dX11_weeks_121 fX11_38 (shM (Fm.M sm143 hM) sgM_0) rfl (rfM (Fm.M sm143 hM) rfM_0_13) ?_
                  refine j_iload 0 dX11_weeks_124 rfl ?_
                  refine j_ialdN k dX11_weeks_126 (shM (Fm.M sm143 hM) sgM_5) (by omega) (by omega) ?_
                  refine j_topi ((ds (ds T)) 13 k) (mr_arT hv144 (k := 3) (by omega) (by decide)) ?_
                  refine j_isub dX11_weeks_127 ?_
                  refine j_iastN k dX11_weeks_128 (shM (Fm.M sm143 hM) sgM_5) (by omega) (by omega) ?_
                  have sm145 : Fm PO M (jk_wI M140 5 k (1 - ((ds (ds T)) 13 k))) := Fm.w sm143 (by unfold PO PH PS; omega)
                  refine j_goto (tgt := 170) dX11_weeks_129 rfl ?_
                  have hch : mv (jk_wI M140 5 k (1 - ((ds (ds T)) 13 k))).2.1 = chS T := (mv_ar (a := 13) hv144 (by omega)).trans ((congrArg (upS (ds (ds T)) 13 k) (flip01 ((ds_ok (ds_ok okT)).th (by omega)).2.2.2)).trans (ch_1 c82 (by omega) (by omega) ek).symm)
                  refine j_iload_n 4 dX11_weeks_170 rfl ?_
                  refine j_aload_n 2 dX11_weeks_171 rfl ?_
                  refine j_iconst 1 dX11_weeks_172 ic_1 ?_
                  refine j_callV (kc := 0) (ks := 0) (a := 0) (b := 0) (d' := (d + 6)) (As := [.int 1]) dX11_weeks_173 kX11_311 rfl (shM (Fm.M sm145 hM) sgM_0) (by omega) rfl rfl rfl (Nat.le_of_ble_eq_true rfl) (Nat.le_of_ble_eq_true rfl) (T_X11_passes (Fm.M sm145 hM) hch (ch_ok okT) ((Fm.rd sm145 (q := 0) (k := 40) (by unfold PO PH PS; omega)).trans h40) 1) (kk_e (fun M146 hM147 => ?_))
                  obtain ⟨h0148, hv150⟩ := hM147
                  have sm149 := Fm.tr sm145 h0148
                  refine j_iadd dX11_weeks_176 ?_
                  refine j_istore_n (L' := [(2, .int ((wkS Z.1 i).2 + (fillS (wk1 T)))), (5, .int (nI k)), (4, .int (dv T 4)), (0, .ref 0), (1, .int (nI m)), (3, .int (nI i))]) dX11_weeks_177 (by decide) rfl ?_
                  refine j_iinc 5 (nI (i + 1)) (L' := [(3, .int (nI (i + 1))), (2, .int ((wkS Z.1 i).2 + (fillS (wk1 T)))), (5, .int (nI k)), (4, .int (dv T 4)), (0, .ref 0), (1, .int (nI m))]) dX11_weeks_178 rfl (inc1 i) (by decide) rfl ?_
                  refine j_goto (tgt := 22) dX11_weeks_181 rfl ?_
                  have hw1 : ((wkS Z.1 i).2 + (fillS (wk1 T))) = (wkS Z.1 (i + 1)).2 := by rw [wk_s, hTe]
                  refine j_L (congrArg (fun zz9 : Int32 => ([(3, .int (nI (i + 1))), (2, .int zz9), (5, .int (nI k)), (4, .int (dv T 4)), (0, .ref 0), (1, .int (nI m))] : List (Nat × Value))) hw1) ?_
                  exact j_sub (jk_pick [4, 5, 1, 0] rfl) (ih3 (i + 1) M146 (by omega) (by omega) sm149 (by rw [wk_s, hTe]; exact hv150))
            · refine j_aload_n 1 dX11_weeks_46 rfl ?_
              refine j_aload_n 1 dX11_weeks_47 rfl ?_
              refine j_getv (nI (nD (ds T))) dX11_weeks_48 fX11_147 (shM (Fm.M sm9 hM) sgM_0) rfl ((mr_D hv10).trans (Sok.D (ds_ok okT)).1) ?_
              refine j_callV (kc := 0) (ks := 0) (a := 0) (b := 0) (d' := d) (As := [.int (nI (nD (ds T)))]) dX11_weeks_51 kX11_315 rfl (shM (Fm.M sm9 hM) sgM_0) (by omega) rfl rfl rfl (Nat.le_of_ble_eq_true rfl) (Nat.le_of_ble_eq_true rfl) (T_X11_draw (Fm.M sm9 hM) hv10 (ds_ok okT) (nI (nD (ds T))) (nI_lt (a := 0) (by omega) (by omega))) (kk_e (fun M151 hM152 => ?_))
              obtain ⟨h0153, hv155x⟩ := hM152
              have hv155 : mv M151.2.1 = ds (ds T) := hv155x
              have sm154 : Fm PO M M151 := Fm.tr sm9 h0153
              have hv155n : nD (ds (ds T)) = nD (ds T) ∧ nT (ds (ds T)) = nT (ds T) ∧ nN (ds (ds T)) = nN (ds T) := ds_n
              obtain ⟨k, hk, ek⟩ := drawN_in (s := drawS (ds T)) (n := nD (ds T)) (by omega) (by omega)
              refine j_topi (nI k) ek ?_
              refine j_istore (L' := [(5, .int (nI k)), (4, .int (dv T 4)), (0, .ref 0), (1, .int (nI m)), (2, .int (wkS Z.1 i).2), (3, .int (nI i))]) dX11_weeks_54 (by decide) rfl ?_
              refine j_aload_n 2 dX11_weeks_56 rfl ?_
              refine j_aload_n 2 dX11_weeks_57 rfl ?_
              refine j_getv ((ds (ds T)) 0 0) dX11_weeks_58 fX11_7 (shM (Fm.M sm154 hM) sgM_0) rfl (mr_side hv155) ?_
              refine j_callV (kc := 0) (ks := 0) (a := 0) (b := 0) (d' := d) (As := [.int ((ds (ds T)) 0 0)]) dX11_weeks_61 kX11_315 rfl (shM (Fm.M sm154 hM) sgM_0) (by omega) rfl rfl rfl (Nat.le_of_ble_eq_true rfl) (Nat.le_of_ble_eq_true rfl) (T_X11_draw (Fm.M sm154 hM) hv155 (ds_ok (ds_ok okT)) ((ds (ds T)) 0 0) (side_p (ds_ok (ds_ok okT)))) (kk_e (fun M156 hM157 => ?_))
              obtain ⟨h0158, hv160x⟩ := hM157
              have hv160 : mv M156.2.1 = ds (ds (ds T)) := hv160x
              have sm159 : Fm PO M M156 := Fm.tr sm154 h0158
              have hv160n : nD (ds (ds (ds T))) = nD (ds (ds T)) ∧ nT (ds (ds (ds T))) = nT (ds (ds T)) ∧ nN (ds (ds (ds T))) = nN (ds (ds T)) := ds_n
              refine j_istore (L' := [(6, .int (dv (ds (ds T)) ((ds (ds T)) 0 0))), (5, .int (nI k)), (4, .int (dv T 4)), (0, .ref 0), (1, .int (nI m)), (2, .int (wkS Z.1 i).2), (3, .int (nI i))]) dX11_weeks_64 (by decide) rfl ?_
              refine j_aload_n 3 dX11_weeks_66 rfl ?_
              refine j_getr (q := 8) dX11_weeks_67 fX11_47 (shM (Fm.M sm159 hM) sgM_0) rfl (rfM (Fm.M sm159 hM) rfM_0_16) ?_
              refine j_iload 1 dX11_weeks_70 rfl ?_
              refine j_bipush 10 dX11_weeks_72 bp_10 ?_
              refine j_iload 0 dX11_weeks_74 rfl ?_
              refine j_imul dX11_weeks_76 ?_
              refine j_aload_n 3 dX11_weeks_77 rfl ?_
              refine j_aload_n 3 dX11_weeks_78 rfl ?_
              refine j_getv ((ds (ds (ds T))) 0 0) dX11_weeks_79 fX11_7 (shM (Fm.M sm159 hM) sgM_0) rfl (mr_side hv160) ?_
              refine j_callV (kc := 0) (ks := 0) (a := 0) (b := 0) (d' := d) (As := [.int ((ds (ds (ds T))) 0 0)]) dX11_weeks_82 kX11_315 rfl (shM (Fm.M sm159 hM) sgM_0) (by omega) rfl rfl rfl (Nat.le_of_ble_eq_true rfl) (Nat.le_of_ble_eq_true rfl) (T_X11_draw (Fm.M sm159 hM) hv160 (ds_ok (ds_ok (ds_ok okT))) ((ds (ds (ds T))) 0 0) (side_p (ds_ok (ds_ok (ds_ok okT))))) (kk_e (fun M161 hM162 => ?_))
              obtain ⟨h0163, hv165x⟩ := hM162
              have hv165 : mv M161.2.1 = ds (ds (ds (ds T))) := hv165x
              have sm164 : Fm PO M M161 := Fm.tr sm159 h0163
              have hv165n : nD (ds (ds (ds (ds T)))) = nD (ds (ds (ds T))) ∧ nT (ds (ds (ds (ds T)))) = nT (ds (ds (ds T))) ∧ nN (ds (ds (ds (ds T)))) = nN (ds (ds (ds T))) := ds_n
              refine j_iadd dX11_weeks_85 ?_
              refine j_iastN k dX11_weeks_86 (shM (Fm.M sm164 hM) sgM_8) (by omega) (by omega) ?_
              have sm166 : Fm PO M (jk_wI M161 8 k ((10 * (dv (ds (ds T)) ((ds (ds T)) 0 0))) + (dv (ds (ds (ds T))) ((ds (ds (ds T))) 0 0)))) := Fm.w sm164 (by unfold PO PH PS; omega)
              refine j_goto (tgt := 170) dX11_weeks_87 rfl ?_
              have hch : mv (jk_wI M161 8 k ((10 * (dv (ds (ds T)) ((ds (ds T)) 0 0))) + (dv (ds (ds (ds T))) ((ds (ds (ds T))) 0 0)))).2.1 = chS T := (mv_ar (a := 16) hv165 (by omega)).trans (ch_0 c11 (by omega) (by omega) ek).symm
              refine j_iload_n 5 dX11_weeks_170 rfl ?_
              refine j_aload_n 3 dX11_weeks_171 rfl ?_
              refine j_iconst 1 dX11_weeks_172 ic_1 ?_
              refine j_callV (kc := 0) (ks := 0) (a := 0) (b := 0) (d' := (d + 6)) (As := [.int 1]) dX11_weeks_173 kX11_311 rfl (shM (Fm.M sm166 hM) sgM_0) (by omega) rfl rfl rfl (Nat.le_of_ble_eq_true rfl) (Nat.le_of_ble_eq_true rfl) (T_X11_passes (Fm.M sm166 hM) hch (ch_ok okT) ((Fm.rd sm166 (q := 0) (k := 40) (by unfold PO PH PS; omega)).trans h40) 1) (kk_e (fun M167 hM168 => ?_))
              obtain ⟨h0169, hv171⟩ := hM168
              have sm170 := Fm.tr sm166 h0169
              refine j_iadd dX11_weeks_176 ?_
              refine j_istore_n (L' := [(2, .int ((wkS Z.1 i).2 + (fillS (wk1 T)))), (6, .int (dv (ds (ds T)) ((ds (ds T)) 0 0))), (5, .int (nI k)), (4, .int (dv T 4)), (0, .ref 0), (1, .int (nI m)), (3, .int (nI i))]) dX11_weeks_177 (by decide) rfl ?_
              refine j_iinc 6 (nI (i + 1)) (L' := [(3, .int (nI (i + 1))), (2, .int ((wkS Z.1 i).2 + (fillS (wk1 T)))), (6, .int (dv (ds (ds T)) ((ds (ds T)) 0 0))), (5, .int (nI k)), (4, .int (dv T 4)), (0, .ref 0), (1, .int (nI m))]) dX11_weeks_178 rfl (inc1 i) (by decide) rfl ?_
              refine j_goto (tgt := 22) dX11_weeks_181 rfl ?_
              have hw1 : ((wkS Z.1 i).2 + (fillS (wk1 T))) = (wkS Z.1 (i + 1)).2 := by rw [wk_s, hTe]
              refine j_L (congrArg (fun zz9 : Int32 => ([(3, .int (nI (i + 1))), (2, .int zz9), (6, .int (dv (ds (ds T)) ((ds (ds T)) 0 0))), (5, .int (nI k)), (4, .int (dv T 4)), (0, .ref 0), (1, .int (nI m))] : List (Nat × Value))) hw1) ?_
              exact j_sub (jk_pick [5, 6, 1, 0] rfl) (ih3 (i + 1) M167 (by omega) (by omega) sm170 (by rw [wk_s, hTe]; exact hv171))
    exact j_sub (jk_pick [2, 3, 1, 0] rfl) (lp4 _ 0 M (Nat.lt_succ_self _) (by omega) Fm.rf hS)
  · exact absurd (n60_ok hm1 hm) c1
theorem N_weeks {d : Nat} {M : jk_M} {Z : ZS} (cv : MV M Z) (ok : Zok Z) (n : Int32) : J Fr_X11_weeks (d + 7) 0 0 0 [(0, .ref 0), (1, .int n)] [] M (jk_ex (some (.int (weekZ Z n).1)) (fun M1 => MV M1 (weekZ Z n).2)) := by
  by_cases h : 1 ≤ n ∧ n ≤ 60
  · obtain ⟨m, h1, h2, rfl⟩ := n60 h
    rw [weekZ, cif_f (fun z => z h), nI_clamp (by omega)]
    exact N_week1 cv ok m h1 h2
  · rw [weekZ, cif_t h]
    exact N_week0 cv ok n h
