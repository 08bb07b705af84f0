/-! houses read, by the model -/
set_option maxRecDepth 20000 in
set_option maxHeartbeats 4000000 in
theorem N_houseY {d : Nat} {M : jk_M} {Z : ZS} (cv : MV M Z) (ok : Zok Z) (k : Nat) (hk : k < 8) (hrr : rrK Z k = 0) (z : Nat) (hz9 : z ≤ 160) (ez9 : Z.2.2.1 k 1 = nI z) : J Fr_X11_house (d + 4) 0 0 0 [(0, .ref 0), (1, .int (nI k))] [] M (jk_ex (some (.int (houseK Z k).1)) (fun M1 => MV M1 (houseK Z k).2)) := by
  refine j_post (fun Q hQ => ?_)
  have hM := cv.1
  have hS := cv.2.1
  have okS := ok.1
  have h40 := cv.2.2.2.2.2.2.2.2.2.2.1
  have hsk := shl_k hk
  have hsmk := shm_g (cv.2.2.2.1 k hk)
  have hzok := ok.sh hk
  have hzzk := shok0 hzok
  have hszk : M.2.1 15 k = nI z := by rw [← ez9]; clear hQ; grind [rrK, rrS]
  refine j_aload_n 0 dX11_house_0 rfl ?_
  refine j_iload_n 1 dX11_house_1 rfl ?_
  refine j_callV (kc := 0) (ks := 0) (a := 0) (b := 0) (d' := (d + 1)) (As := [.int (nI k)]) dX11_house_2 kX11_229 rfl (shM hM sgM_0) (by omega) rfl rfl rfl (Nat.le_of_ble_eq_true rfl) (Nat.le_of_ble_eq_true rfl) (T_wanted cv ok k hk) (kk_p ?_)
  refine j_istore_n (L' := [(2, .int (rrK Z k)), (0, .ref 0), (1, .int (nI k))]) dX11_house_5 (by decide) rfl ?_
  refine j_iload_n 0 dX11_house_6 rfl ?_
  refine j_if_eq (tgt := 16) dX11_house_7 rfl (fun c1 => ?_) (fun c1 => ?_)
  · refine j_aload_n 1 dX11_house_16 rfl ?_
    refine j_aload_n 1 dX11_house_17 rfl ?_
    refine j_getr (q := 22) dX11_house_18 fX11_90 (shM hM sgM_0) rfl (rfM hM rfM_0_35) ?_
    refine j_iconst 0 dX11_house_21 ic_0 ?_
    refine j_callV (kc := 0) (ks := 0) (a := 0) (b := 0) (d' := (d + 1)) (As := [.ref 22, .int 0]) dX11_house_22 kX11_232 rfl (shM hM sgM_0) (by omega) rfl rfl rfl (Nat.le_of_ble_eq_true rfl) (Nat.le_of_ble_eq_true rfl) (T_all0 hM (f := 22) (Or.inl rfl) okS hS) (kk_ev (fun M2 hM3 => ?_))
    obtain ⟨h0A, hk22⟩ := hM3
    have smA : Fm PHo M M2 := Fm.mo h0A (fun q k z => by unfold PHo PO PS; omega)
    have hvA : mv M2.2.1 = Z.1 := Fm.mv h0A hS (fun q k h z => by unfold PH at h; omega)
    have hw0 : ∀ q j, q ≠ 22 → M2.2.1 q j = M.2.1 q j := fun q j h => h0A.2.2 q j h
    refine j_aload_n 1 dX11_house_25 rfl ?_
    refine j_sipush 160 dX11_house_26 sp_160 ?_
    refine j_iload_n 2 dX11_house_29 rfl ?_
    refine j_imulN 160 k dX11_house_30 ?_
    refine j_put dX11_house_31 fX11_199 (shM (Fm.M smA hM) sgM_0) rfl ?_
    have sm4 : Fm PHo M (jk_wI M2 0 30 (nI (160 * k))) := Fm.w smA (by unfold PHo PO PH PS; omega)
    refine j_aload_n 1 dX11_house_34 rfl ?_
    refine j_iconst 0 dX11_house_35 ic_0 ?_
    refine j_put dX11_house_36 fX11_193 (shM (Fm.M sm4 hM) sgM_0) rfl ?_
    have sm5 : Fm PHo M (jk_wI (jk_wI M2 0 30 (nI (160 * k))) 0 31 0) := Fm.w sm4 (by unfold PHo PO PH PS; omega)
    refine j_aload_n 1 dX11_house_39 rfl ?_
    refine j_aload_n 1 dX11_house_40 rfl ?_
    refine j_getr (q := 15) dX11_house_41 fX11_68 (shM (Fm.M sm5 hM) sgM_0) rfl (rfM (Fm.M sm5 hM) rfM_0_23) ?_
    refine j_iload_n 2 dX11_house_44 rfl ?_
    refine j_ialdN k dX11_house_45 (shM (Fm.M sm5 hM) sgM_15) (by omega) (by omega) ?_
    refine j_topi (nI z) ((hw0 15 k (by omega)).trans hszk) ?_
    refine j_put dX11_house_46 fX11_196 (shM (Fm.M sm5 hM) sgM_0) rfl ?_
    have sm6 : Fm PHo M (jk_wI (jk_wI (jk_wI M2 0 30 (nI (160 * k))) 0 31 0) 0 32 (nI z)) := Fm.w sm5 (by unfold PHo PO PH PS; omega)
    refine j_aload_n 1 dX11_house_49 rfl ?_
    refine j_iconst (-1) dX11_house_50 ic_n1 ?_
    refine j_put dX11_house_51 fX11_22 (shM (Fm.M sm6 hM) sgM_0) rfl ?_
    have sm7 : Fm PHo M (jk_wI (jk_wI (jk_wI (jk_wI M2 0 30 (nI (160 * k))) 0 31 0) 0 32 (nI z)) 0 8 (-1)) := Fm.w sm6 (by unfold PHo PO PH PS; omega)
    have hfr : ∀ q j, q ≠ 0 → (jk_wI (jk_wI (jk_wI (jk_wI M2 0 30 (nI (160 * k))) 0 31 0) 0 32 (nI z)) 0 8 (-1)).2.1 q j = M2.2.1 q j := fun q j h => by rw [rd_o h, rd_o h, rd_o h, rd_o h]
    have rx0 : RX (jk_wI (jk_wI (jk_wI (jk_wI M2 0 30 (nI (160 * k))) 0 31 0) 0 32 (nI z)) 0 8 (-1)) (160 * k) z (fun i => tlK Z k (nI i)) := ⟨by omega, hz9, ((rd_k (by decide)).trans ((rd_k (by decide)).trans ((rd_k (by decide)).trans rd_s))), ((rd_k (by decide)).trans rd_s), fun i hi => by
      show Int64.toInt32 (_ : Int64) = tlK Z k (nI i)
      have hq : (jk_wI (jk_wI (jk_wI (jk_wI M2 0 30 (nI (160 * k))) 0 31 0) 0 32 (nI z)) 0 8 (-1)).2.2 = M.2.2 := h0A.2.1
      rw [hq, cv.el hk (by omega), tlK, rdK, cif_t (has_z hz9 ez9 hi), nI_clamp (by omega)], fun i hi => (hfr 19 i (by omega)).trans ((hw0 19 i (by omega)).trans (cv.2.2.2.2.2.2.2.2.2.2.2.1 i hi)), fun i hi => (hfr 20 i (by omega)).trans ((hw0 20 i (by omega)).trans (cv.2.2.2.2.2.2.2.2.2.2.2.2 i hi))⟩
    have hv0 : mv (jk_wI (jk_wI (jk_wI (jk_wI M2 0 30 (nI (160 * k))) 0 31 0) 0 32 (nI z)) 0 8 (-1)).2.1 = Z.1 := mv_same hvA (fun q j h => by rw [rd_p (by unfold PH at h; omega), rd_p (by unfold PH at h; omega), rd_p (by unfold PH at h; omega), rd_p (by unfold PH at h; omega)])
    have hk0 : kv ((jk_wI (jk_wI (jk_wI (jk_wI M2 0 30 (nI (160 * k))) 0 31 0) 0 32 (nI z)) 0 8 (-1)).2.1 22) = Z.1 := (congrArg kv (funext fun j => hfr 22 j (by omega))).trans hk22
    have hf0 : (jk_wI (jk_wI (jk_wI (jk_wI M2 0 30 (nI (160 * k))) 0 31 0) 0 32 (nI z)) 0 8 (-1)).2.1 0 8 = -1 := rd_s
    refine j_iconst 1 dX11_house_54 ic_1 ?_
    refine j_istore_n (L' := [(3, .int 1), (2, .int (rrK Z k)), (0, .ref 0), (1, .int (nI k))]) dX11_house_55 (by decide) rfl ?_
    refine j_aload_n 2 dX11_house_56 rfl ?_
    refine j_callV (kc := 0) (ks := 0) (a := 0) (b := 0) (d' := (d + 3)) (As := []) dX11_house_57 kX11_236 rfl (shM (Fm.M sm7 hM) sgM_0) (by omega) rfl rfl rfl (Nat.le_of_ble_eq_true rfl) (Nat.le_of_ble_eq_true rfl) (T_X11_item (Fm.M sm7 hM) hv0 okS rx0 (p := 0) ((rd_k (by decide)).trans ((rd_k (by decide)).trans rd_s)) (by omega)) (kk_o (fun M8 hM9 => ?_) (fun M10 hM11 => ?_))
    · obtain ⟨T2, q2, hit, h0I, hvI, h31⟩ := hM9
      have sm12 : Fm PHo M M8 := Fm.tr sm7 (Fm.mo h0I PIt_Ho)
      have rx13 : RX M8 (160 * k) z (fun i => tlK Z k (nI i)) := RX.it rx0 h0I
      have hk14 : kv (M8.2.1 22) = Z.1 := kv_fm h0I (fun j => by unfold PIt PH PQr; omega) hk0
      refine j_istore (L' := [(4, .int 1), (3, .int 1), (2, .int (rrK Z k)), (0, .ref 0), (1, .int (nI k))]) dX11_house_60 (by decide) rfl ?_
      have lp17 : ∀ (k15 : Nat) (T : HS) (q : Nat) (f : Nat) (m : Nat) (M1 : jk_M), f < k15 → (rdL z (fun i => tlK Z k (nI i)) 160 Z.1 0 1 = if q = z then .inr (T, m) else if q < z ∧ tlK Z k (nI q) = 59 then rdL z (fun i => tlK Z k (nI i)) f T (q + 1) (m + 1) else .inl q) → (mv M1.2.1 = T) → (Sok T) → (M1.2.1 0 31 = nI q) → (q ≤ z) → (160 ≤ q + f) → (Fm PHo M M1) → (RX M1 (160 * k) z (fun i => tlK Z k (nI i))) → (kv (M1.2.1 22) = Z.1) → (M1.2.1 0 8 = -1) → J Fr_X11_house (d + 4) 0 0 62 [(0, .ref 0), (1, .int (nI k)), (2, .int (rrK Z k)), (3, .int (nI m)), (4, .int 1)] [] M1 Q := by
        intro k15
        induction k15 with
        | zero => intro T q f m M1 hk; exact absurd hk (Nat.not_lt_zero _)
        | succ k15 ih16 =>
          intro T q f m M1 hk15 hr hv1 okT h31b hqz hfu hs1 rx1 hk1 hf1
          refine j_iload 4 dX11_house_62 rfl ?_
          refine j_if_eq (tgt := 133) dX11_house_64 rfl (fun c18 => ?_) (fun c18 => ?_)
          · exact absurd c18 (by decide)
          · refine j_aload_n 0 dX11_house_67 rfl ?_
            refine j_getv (nI q) dX11_house_68 fX11_193 (shM (Fm.M hs1 hM) sgM_0) rfl h31b ?_
            refine j_aload_n 0 dX11_house_71 rfl ?_
            refine j_getv (nI z) dX11_house_72 fX11_196 (shM (Fm.M hs1 hM) sgM_0) rfl rx1.2.2.2.1 ?_
            refine j_icmp_geN (tgt := 133) q z dX11_house_75 rfl (by omega) (by omega) (fun c19 => ?_) (fun c19 => ?_)
            · refine j_iload 4 dX11_house_133 rfl ?_
              refine j_if_eq (tgt := 140) dX11_house_135 rfl (fun c20 => ?_) (fun c20 => ?_)
              · exact absurd c20 (by decide)
              · refine j_iload_n 3 dX11_house_138 rfl ?_
                refine j_iret dX11_house_139 rfl ?_
                have hRe : hsR Z k = rdL z (fun i => tlK Z k (nI i)) 160 Z.1 0 1 := by rw [hsR, ez9, nI_clamp (by omega)]
                have hq : q = z := by omega
                rw [if_pos hq] at hr
                have hz : houseK Z k = (nI m, nowZ (fltZ Z (-1)) T) := by rw [houseK, cif_f (fun z => z hrr), hRe, hr]; rfl
                exact hQ _ _ ⟨by rw [hz], by rw [hz]; exact MV.flt cv hs1 hv1 hf1⟩
            · refine j_aload_n 0 dX11_house_78 rfl ?_
              refine j_getr (q := 17) dX11_house_79 fX11_74 (shM (Fm.M hs1 hM) sgM_0) rfl (rfM (Fm.M hs1 hM) rfM_0_25) ?_
              refine j_aload_n 0 dX11_house_82 rfl ?_
              refine j_getv (nI (160 * k)) dX11_house_83 fX11_199 (shM (Fm.M hs1 hM) sgM_0) rfl rx1.2.2.1 ?_
              refine j_aload_n 0 dX11_house_86 rfl ?_
              refine j_getv (nI q) dX11_house_87 fX11_193 (shM (Fm.M hs1 hM) sgM_0) rfl h31b ?_
              refine j_iaddN (160 * k) q dX11_house_90 ?_
              refine j_laldN ((160 * k) + q) dX11_house_91 (shM (Fm.M hs1 hM) sgM_17) (by omega) (by omega) ?_
              refine j_l2i dX11_house_92 ?_
              refine j_topi (tlK Z k (nI q)) (rx1.2.2.2.2.1 _ (by omega)) ?_
              refine j_bipush 59 dX11_house_93 bp_59 ?_
              refine j_icmp_eq (tgt := 111) dX11_house_95 rfl (fun c21 => ?_) (fun c21 => ?_)
              · refine j_aload_n 0 dX11_house_111 rfl ?_
                refine j_dup dX11_house_112 rfl ?_
                refine j_getv (nI q) dX11_house_113 fX11_193 (shM (Fm.M hs1 hM) sgM_0) rfl h31b ?_
                refine j_iconst 1 dX11_house_116 ic_1 ?_
                refine j_iaddN q 1 dX11_house_117 ?_
                refine j_put dX11_house_118 fX11_193 (shM (Fm.M hs1 hM) sgM_0) rfl ?_
                have sm22 : Fm PHo M (jk_wI M1 0 31 (nI (q + 1))) := Fm.w hs1 (by unfold PHo PO PH PS; omega)
                refine j_iinc 3 (nI (m + 1)) (L' := [(3, .int (nI (m + 1))), (0, .ref 0), (1, .int (nI k)), (2, .int (rrK Z k)), (4, .int 1)]) dX11_house_121 rfl (inc1 m) (by decide) rfl ?_
                have h1w : Fm PQr M1 (jk_wI M1 0 31 (nI (q + 1))) := Fm.w Fm.rf (by unfold PQr; omega)
                have rxw : RX (jk_wI M1 0 31 (nI (q + 1))) (160 * k) z (fun i => tlK Z k (nI i)) := RX.q rx1 h1w
                have hvw : mv (jk_wI M1 0 31 (nI (q + 1))).2.1 = T := Fm.mv h1w hv1 (fun q k h => by unfold PH at h; unfold PQr; omega)
                have hkw : kv ((jk_wI M1 0 31 (nI (q + 1))).2.1 22) = Z.1 := kv_fm h1w (fun j => by unfold PQr; omega) hk1
                have hr2 := hr
                rw [if_neg (by omega), if_pos ⟨by omega, by assumption⟩] at hr2
                obtain ⟨g, rfl⟩ : ∃ g, f = g + 1 := ⟨f - 1, by omega⟩
                refine j_aload_n 1 dX11_house_124 rfl ?_
                refine j_callV (kc := 0) (ks := 0) (a := 0) (b := 0) (d' := (d + 3)) (As := []) dX11_house_125 kX11_236 rfl (shM (Fm.M sm22 hM) sgM_0) (by omega) rfl rfl rfl (Nat.le_of_ble_eq_true rfl) (Nat.le_of_ble_eq_true rfl) (T_X11_item (Fm.M sm22 hM) hvw okT rxw (p := (q + 1)) rd_s (by omega)) (kk_o (fun M23 hM24 => ?_) (fun M25 hM26 => ?_))
                · obtain ⟨T2, q2, hit, h0I, hvI, h31⟩ := hM24
                  have sm27 : Fm PHo M M23 := Fm.tr sm22 (Fm.mo h0I PIt_Ho)
                  have rx28 : RX M23 (160 * k) z (fun i => tlK Z k (nI i)) := RX.it rxw h0I
                  have hk29 : kv (M23.2.1 22) = Z.1 := kv_fm h0I (fun j => by unfold PIt PH PQr; omega) hkw
                  refine j_istore (L' := [(4, .int 1), (3, .int (nI (m + 1))), (0, .ref 0), (1, .int (nI k)), (2, .int (rrK Z k))]) dX11_house_128 (by decide) rfl ?_
                  refine j_goto (tgt := 62) dX11_house_130 rfl ?_
                  exact j_sub (jk_pick [2, 3, 4, 1, 0] rfl) (ih16 T2 q2 g (m + 1) M23 (by omega) (hr2.trans (rdL_nx hit)) hvI (itS_in okT (by omega) hit).1 h31 (itS_in okT (by omega) hit).2.2 (by have := (itS_in okT (by omega) hit).2.1; omega) sm27 rx28 hk29 (Fm.rd h0I (by unfold PIt PH PQr; omega) |>.trans ((rd_p (by omega)).trans hf1)))
                · obtain ⟨x, hit, h0I, h34⟩ := hM26
                  have sm30 : Fm PHo M M25 := Fm.tr sm22 (Fm.mo h0I PIt_Ho)
                  have rx31 : RX M25 (160 * k) z (fun i => tlK Z k (nI i)) := RX.it rxw h0I
                  have hk32 : kv (M25.2.1 22) = Z.1 := kv_fm h0I (fun j => by unfold PIt PH PQr; omega) hkw
                  refine j_istore (L' := [(4, .int 0), (3, .int (nI (m + 1))), (0, .ref 0), (1, .int (nI k)), (2, .int (rrK Z k))]) dX11_house_128 (by decide) rfl ?_
                  refine j_goto (tgt := 62) dX11_house_130 rfl ?_
                  refine j_iload 0 dX11_house_62 rfl ?_
                  refine j_if_eq (tgt := 133) dX11_house_64 rfl (fun c33 => ?_) (fun c33 => ?_)
                  · refine j_iload 0 dX11_house_133 rfl ?_
                    refine j_if_eq (tgt := 140) dX11_house_135 rfl (fun c34 => ?_) (fun c34 => ?_)
                    · refine j_aload_n 2 dX11_house_140 rfl ?_
                      refine j_aload_n 2 dX11_house_141 rfl ?_
                      refine j_getr (q := 22) dX11_house_142 fX11_90 (shM (Fm.M sm30 hM) sgM_0) rfl (rfM (Fm.M sm30 hM) rfM_0_35) ?_
                      refine j_iconst 1 dX11_house_145 ic_1 ?_
                      refine j_callV (kc := 0) (ks := 0) (a := 0) (b := 0) (d' := (d + 1)) (As := [.ref 22, .int 1]) dX11_house_146 kX11_232 rfl (shM (Fm.M sm30 hM) sgM_0) (by omega) rfl rfl rfl (Nat.le_of_ble_eq_true rfl) (Nat.le_of_ble_eq_true rfl) (T_all1 (Fm.M sm30 hM) (f := 22) (Or.inl rfl) okS hk32) (kk_ev (fun M35 hM36 => ?_))
                      obtain ⟨h0B, hvB⟩ := hM36
                      have smB : Fm PHo M M35 := Fm.tr sm30 (Fm.mo h0B (fun q k z => Or.inl (Or.inl z)))
                      refine j_aload_n 2 dX11_house_149 rfl ?_
                      refine j_aload_n 2 dX11_house_150 rfl ?_
                      refine j_getv (nI x) dX11_house_151 fX11_190 (shM (Fm.M smB hM) sgM_0) rfl ((Fm.rd h0B (by unfold PH; omega)).trans h34) ?_
                      refine j_put dX11_house_154 fX11_22 (shM (Fm.M smB hM) sgM_0) rfl ?_
                      have sm37 : Fm PHo M (jk_wI M35 0 8 (nI x)) := Fm.w smB (by unfold PHo PO PH PS; omega)
                      refine j_aload_n 2 dX11_house_157 rfl ?_
                      refine j_bipush (-6) dX11_house_158 bp_n6 ?_
                      refine j_callV (kc := 0) (ks := 0) (a := 0) (b := 0) (d' := d) (As := [.int (-6)]) dX11_house_160 kX11_130 rfl (shM (Fm.M sm37 hM) sgM_0) (by omega) rfl rfl rfl (Nat.le_of_ble_eq_true rfl) (Nat.le_of_ble_eq_true rfl) (T_X11_no (Fm.M sm37 hM) (-6) (by decide)) (kk_p ?_)
                      refine j_iret dX11_house_163 rfl ?_
                      have hRe : hsR Z k = rdL z (fun i => tlK Z k (nI i)) 160 Z.1 0 1 := by rw [hsR, ez9, nI_clamp (by omega)]
                      have hrx := hr2.trans (rdL_0 hit)
                      have hz : houseK Z k = (-6, refZ (fltZ Z (nI x)) (-6)) := by rw [houseK, cif_f (fun z => z hrr), hRe, hrx]; rfl
                      have hm8 : mv (jk_wI M35 0 8 (nI x)).2.1 = Z.1 := mv_same hvB (fun q j h => rd_p (by unfold PH at h; omega))
                      have cvf : MV (jk_wI M35 0 8 (nI x)) (fltZ Z (nI x)) := MV.flt cv sm37 hm8 rd_s
                      exact hQ _ _ ⟨by rw [hz], by rw [hz]; exact MV.rf cvf (by decide)⟩
                    · exact absurd c34 (by decide)
                  · exact absurd c33 (by decide)
              · refine j_aload_n 0 dX11_house_98 rfl ?_
                refine j_aload_n 0 dX11_house_99 rfl ?_
                refine j_getv (nI q) dX11_house_100 fX11_193 (shM (Fm.M hs1 hM) sgM_0) rfl h31b ?_
                refine j_callV (kc := 0) (ks := 0) (a := 0) (b := 0) (d' := d) (As := [.int (nI q)]) dX11_house_103 kX11_209 rfl (shM (Fm.M hs1 hM) sgM_0) (by omega) rfl rfl rfl (Nat.le_of_ble_eq_true rfl) (Nat.le_of_ble_eq_true rfl) (T_X11_wrong (Fm.M hs1 hM) (nI q)) (kk_p ?_)
                have sm38 : Fm PHo M (jk_wI M1 0 34 (nI q)) := Fm.w hs1 (by unfold PHo PO PH PS; omega)
                have hkx : kv ((jk_wI M1 0 34 (nI q)).2.1 22) = Z.1 := kv_fm (P := PQr) (Fm.w Fm.rf (by unfold PQr; omega)) (fun j => by unfold PQr; omega) hk1
                refine j_istore (L' := [(4, .int 0), (0, .ref 0), (1, .int (nI k)), (2, .int (rrK Z k)), (3, .int (nI m))]) dX11_house_106 (by decide) rfl ?_
                refine j_goto (tgt := 62) dX11_house_108 rfl ?_
                refine j_iload 0 dX11_house_62 rfl ?_
                refine j_if_eq (tgt := 133) dX11_house_64 rfl (fun c39 => ?_) (fun c39 => ?_)
                · refine j_iload 0 dX11_house_133 rfl ?_
                  refine j_if_eq (tgt := 140) dX11_house_135 rfl (fun c40 => ?_) (fun c40 => ?_)
                  · refine j_aload_n 1 dX11_house_140 rfl ?_
                    refine j_aload_n 1 dX11_house_141 rfl ?_
                    refine j_getr (q := 22) dX11_house_142 fX11_90 (shM (Fm.M sm38 hM) sgM_0) rfl (rfM (Fm.M sm38 hM) rfM_0_35) ?_
                    refine j_iconst 1 dX11_house_145 ic_1 ?_
                    refine j_callV (kc := 0) (ks := 0) (a := 0) (b := 0) (d' := (d + 1)) (As := [.ref 22, .int 1]) dX11_house_146 kX11_232 rfl (shM (Fm.M sm38 hM) sgM_0) (by omega) rfl rfl rfl (Nat.le_of_ble_eq_true rfl) (Nat.le_of_ble_eq_true rfl) (T_all1 (Fm.M sm38 hM) (f := 22) (Or.inl rfl) okS hkx) (kk_ev (fun M41 hM42 => ?_))
                    obtain ⟨h0B, hvB⟩ := hM42
                    have smB : Fm PHo M M41 := Fm.tr sm38 (Fm.mo h0B (fun q k z => Or.inl (Or.inl z)))
                    refine j_aload_n 1 dX11_house_149 rfl ?_
                    refine j_aload_n 1 dX11_house_150 rfl ?_
                    refine j_getv (nI q) dX11_house_151 fX11_190 (shM (Fm.M smB hM) sgM_0) rfl ((Fm.rd h0B (by unfold PH; omega)).trans rd_s) ?_
                    refine j_put dX11_house_154 fX11_22 (shM (Fm.M smB hM) sgM_0) rfl ?_
                    have sm43 : Fm PHo M (jk_wI M41 0 8 (nI q)) := Fm.w smB (by unfold PHo PO PH PS; omega)
                    refine j_aload_n 1 dX11_house_157 rfl ?_
                    refine j_bipush (-6) dX11_house_158 bp_n6 ?_
                    refine j_callV (kc := 0) (ks := 0) (a := 0) (b := 0) (d' := d) (As := [.int (-6)]) dX11_house_160 kX11_130 rfl (shM (Fm.M sm43 hM) sgM_0) (by omega) rfl rfl rfl (Nat.le_of_ble_eq_true rfl) (Nat.le_of_ble_eq_true rfl) (T_X11_no (Fm.M sm43 hM) (-6) (by decide)) (kk_p ?_)
                    refine j_iret dX11_house_163 rfl ?_
                    have hRe : hsR Z k = rdL z (fun i => tlK Z k (nI i)) 160 Z.1 0 1 := by rw [hsR, ez9, nI_clamp (by omega)]
                    have hrx := hr
                    rw [if_neg (by omega), if_neg (fun y => by have y2 := y.2; first | exact absurd y2 (by assumption) | omega)] at hrx
                    have hz : houseK Z k = (-6, refZ (fltZ Z (nI q)) (-6)) := by rw [houseK, cif_f (fun z => z hrr), hRe, hrx]; rfl
                    have hm8 : mv (jk_wI M41 0 8 (nI q)).2.1 = Z.1 := mv_same hvB (fun q j h => rd_p (by unfold PH at h; omega))
                    have cvf : MV (jk_wI M41 0 8 (nI q)) (fltZ Z (nI q)) := MV.flt cv sm43 hm8 rd_s
                    exact hQ _ _ ⟨by rw [hz], by rw [hz]; exact MV.rf cvf (by decide)⟩
                  · exact absurd c40 (by decide)
                · exact absurd c39 (by decide)
      exact j_sub (jk_pick [3, 4, 2, 1, 0] rfl) (lp17 _ T2 q2 159 1 M8 (Nat.lt_succ_self _) (rdL_nx (f := 159) hit) hvI (itS_in okS (Nat.zero_le _) hit).1 h31 (itS_in okS (Nat.zero_le _) hit).2.2 (by have := (itS_in okS (Nat.zero_le _) hit).2.1; omega) sm12 rx13 hk14 (Fm.rd h0I (by unfold PIt PH PQr; omega) |>.trans hf0))
    · obtain ⟨x, hit, h0I, h34⟩ := hM11
      have sm44 : Fm PHo M M10 := Fm.tr sm7 (Fm.mo h0I PIt_Ho)
      have rx45 : RX M10 (160 * k) z (fun i => tlK Z k (nI i)) := RX.it rx0 h0I
      have hk46 : kv (M10.2.1 22) = Z.1 := kv_fm h0I (fun j => by unfold PIt PH PQr; omega) hk0
      refine j_istore (L' := [(4, .int 0), (3, .int 1), (2, .int (rrK Z k)), (0, .ref 0), (1, .int (nI k))]) dX11_house_60 (by decide) rfl ?_
      refine j_iload 0 dX11_house_62 rfl ?_
      refine j_if_eq (tgt := 133) dX11_house_64 rfl (fun c47 => ?_) (fun c47 => ?_)
      · refine j_iload 0 dX11_house_133 rfl ?_
        refine j_if_eq (tgt := 140) dX11_house_135 rfl (fun c48 => ?_) (fun c48 => ?_)
        · refine j_aload_n 3 dX11_house_140 rfl ?_
          refine j_aload_n 3 dX11_house_141 rfl ?_
          refine j_getr (q := 22) dX11_house_142 fX11_90 (shM (Fm.M sm44 hM) sgM_0) rfl (rfM (Fm.M sm44 hM) rfM_0_35) ?_
          refine j_iconst 1 dX11_house_145 ic_1 ?_
          refine j_callV (kc := 0) (ks := 0) (a := 0) (b := 0) (d' := (d + 1)) (As := [.ref 22, .int 1]) dX11_house_146 kX11_232 rfl (shM (Fm.M sm44 hM) sgM_0) (by omega) rfl rfl rfl (Nat.le_of_ble_eq_true rfl) (Nat.le_of_ble_eq_true rfl) (T_all1 (Fm.M sm44 hM) (f := 22) (Or.inl rfl) okS hk46) (kk_ev (fun M49 hM50 => ?_))
          obtain ⟨h0B, hvB⟩ := hM50
          have smB : Fm PHo M M49 := Fm.tr sm44 (Fm.mo h0B (fun q k z => Or.inl (Or.inl z)))
          refine j_aload_n 3 dX11_house_149 rfl ?_
          refine j_aload_n 3 dX11_house_150 rfl ?_
          refine j_getv (nI x) dX11_house_151 fX11_190 (shM (Fm.M smB hM) sgM_0) rfl ((Fm.rd h0B (by unfold PH; omega)).trans h34) ?_
          refine j_put dX11_house_154 fX11_22 (shM (Fm.M smB hM) sgM_0) rfl ?_
          have sm51 : Fm PHo M (jk_wI M49 0 8 (nI x)) := Fm.w smB (by unfold PHo PO PH PS; omega)
          refine j_aload_n 3 dX11_house_157 rfl ?_
          refine j_bipush (-6) dX11_house_158 bp_n6 ?_
          refine j_callV (kc := 0) (ks := 0) (a := 0) (b := 0) (d' := d) (As := [.int (-6)]) dX11_house_160 kX11_130 rfl (shM (Fm.M sm51 hM) sgM_0) (by omega) rfl rfl rfl (Nat.le_of_ble_eq_true rfl) (Nat.le_of_ble_eq_true rfl) (T_X11_no (Fm.M sm51 hM) (-6) (by decide)) (kk_p ?_)
          refine j_iret dX11_house_163 rfl ?_
          have hRe : hsR Z k = rdL z (fun i => tlK Z k (nI i)) 160 Z.1 0 1 := by rw [hsR, ez9, nI_clamp (by omega)]
          have hrx := rdL_0 (n := z) (t := (fun i => tlK Z k (nI i))) (f := 159) (k := 1) hit
          have hz : houseK Z k = (-6, refZ (fltZ Z (nI x)) (-6)) := by rw [houseK, cif_f (fun z => z hrr), hRe, hrx]; rfl
          have hm8 : mv (jk_wI M49 0 8 (nI x)).2.1 = Z.1 := mv_same hvB (fun q j h => rd_p (by unfold PH at h; omega))
          have cvf : MV (jk_wI M49 0 8 (nI x)) (fltZ Z (nI x)) := MV.flt cv sm51 hm8 rd_s
          exact hQ _ _ ⟨by rw [hz], by rw [hz]; exact MV.rf cvf (by decide)⟩
        · exact absurd c48 (by decide)
      · exact absurd c47 (by decide)
  · exact absurd hrr c1
set_option maxRecDepth 20000 in
set_option maxHeartbeats 4000000 in
theorem N_houseN {d : Nat} {M : jk_M} {Z : ZS} (cv : MV M Z) (ok : Zok Z) (k : Nat) (hk : k < 8) (hrr : ¬ rrK Z k = 0) : J Fr_X11_house (d + 4) 0 0 0 [(0, .ref 0), (1, .int (nI k))] [] M (jk_ex (some (.int (houseK Z k).1)) (fun M1 => MV M1 (houseK Z k).2)) := by
  refine j_post (fun Q hQ => ?_)
  have hM := cv.1
  have hS := cv.2.1
  have okS := ok.1
  have h40 := cv.2.2.2.2.2.2.2.2.2.2.1
  have hsk := shl_k hk
  have hsmk := shm_g (cv.2.2.2.1 k hk)
  have hzok := ok.sh hk
  have hzzk := shok0 hzok
  have hc9 := rr_hc hrr
  refine j_aload_n 0 dX11_house_0 rfl ?_
  refine j_iload_n 1 dX11_house_1 rfl ?_
  refine j_callV (kc := 0) (ks := 0) (a := 0) (b := 0) (d' := (d + 1)) (As := [.int (nI k)]) dX11_house_2 kX11_229 rfl (shM hM sgM_0) (by omega) rfl rfl rfl (Nat.le_of_ble_eq_true rfl) (Nat.le_of_ble_eq_true rfl) (T_wanted cv ok k hk) (kk_p ?_)
  refine j_istore_n (L' := [(2, .int (rrK Z k)), (0, .ref 0), (1, .int (nI k))]) dX11_house_5 (by decide) rfl ?_
  refine j_iload_n 0 dX11_house_6 rfl ?_
  refine j_if_eq (tgt := 16) dX11_house_7 rfl (fun c1 => ?_) (fun c1 => ?_)
  · exact absurd c1 hrr
  · refine j_aload_n 1 dX11_house_10 rfl ?_
    refine j_iload_n 0 dX11_house_11 rfl ?_
    refine j_callV (kc := 0) (ks := 0) (a := 0) (b := 0) (d' := d) (As := [.int (rrK Z k)]) dX11_house_12 kX11_130 rfl (shM hM sgM_0) (by omega) rfl rfl rfl (Nat.le_of_ble_eq_true rfl) (Nat.le_of_ble_eq_true rfl) (T_X11_no hM (rrK Z k) hc9) (kk_p ?_)
    refine j_iret dX11_house_15 rfl ?_
    have hz : houseK Z k = (rrK Z k, refZ Z (rrK Z k)) := by rw [houseK, cif_t hrr]
    exact hQ _ _ ⟨by rw [hz], by rw [hz]; exact MV.rf cv hc9⟩
set_option maxRecDepth 20000 in
set_option maxHeartbeats 4000000 in
theorem N_houseNo {d : Nat} {M : jk_M} {Z : ZS} (cv : MV M Z) (ok : Zok Z) (s : Int32) (hs : ¬ (0 ≤ s ∧ s < 8)) : J Fr_X11_house (d + 4) 0 0 0 [(0, .ref 0), (1, .int s)] [] M (jk_ex (some (.int (((-1 : Int32), refZ Z (-1))).1)) (fun M1 => MV M1 (((-1 : Int32), refZ Z (-1))).2)) := by
  refine j_post (fun Q hQ => ?_)
  have hM := cv.1
  have hS := cv.2.1
  have okS := ok.1
  have h40 := cv.2.2.2.2.2.2.2.2.2.2.1
  refine j_aload_n 0 dX11_house_0 rfl ?_
  refine j_iload_n 1 dX11_house_1 rfl ?_
  refine j_callV (kc := 0) (ks := 0) (a := 0) (b := 0) (d' := (d + 1)) (As := [.int s]) dX11_house_2 kX11_229 rfl (shM hM sgM_0) (by omega) rfl rfl rfl (Nat.le_of_ble_eq_true rfl) (Nat.le_of_ble_eq_true rfl) (T_wantedN hM s hs) (kk_p ?_)
  refine j_istore_n (L' := [(2, .int (-1)), (0, .ref 0), (1, .int s)]) dX11_house_5 (by decide) rfl ?_
  refine j_iload_n 0 dX11_house_6 rfl ?_
  refine j_if_eq (tgt := 16) dX11_house_7 rfl (fun c1 => ?_) (fun c1 => ?_)
  · exact absurd c1 (by decide)
  · refine j_aload_n 1 dX11_house_10 rfl ?_
    refine j_iload_n 0 dX11_house_11 rfl ?_
    refine j_callV (kc := 0) (ks := 0) (a := 0) (b := 0) (d' := d) (As := [.int (-1)]) dX11_house_12 kX11_130 rfl (shM hM sgM_0) (by omega) rfl rfl rfl (Nat.le_of_ble_eq_true rfl) (Nat.le_of_ble_eq_true rfl) (T_X11_no hM (-1) (by decide)) (kk_p ?_)
    refine j_iret dX11_house_15 rfl ?_
    exact hQ _ _ ⟨rfl, MV.rf cv (by decide)⟩
theorem N_house {d : Nat} {M : jk_M} {Z : ZS} (cv : MV M Z) (ok : Zok Z) (s : Int32) : J Fr_X11_house (d + 4) 0 0 0 [(0, .ref 0), (1, .int s)] [] M (jk_ex (some (.int (houseZ Z s).1)) (fun M1 => MV M1 (houseZ Z s).2)) := by
  by_cases h : 0 ≤ s ∧ s < 8
  · obtain ⟨k, hk, rfl⟩ := s_in h
    rw [houseZ, inS_y hk]
    by_cases hrr : rrK Z k = 0
    · obtain ⟨z, hz, e⟩ := ok.sz hk
      exact N_houseY cv ok k hk hrr z hz e
    · exact N_houseN cv ok k hk hrr
  · rw [houseZ, inS_n h]; exact N_houseNo cv ok s h
