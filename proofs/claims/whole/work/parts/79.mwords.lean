/-! words read, by the model -/
theorem zc_le : ∀ i, i < 74 → zcW i ≤ 10 := by decide +kernel
set_option maxRecDepth 20000 in
set_option maxHeartbeats 4000000 in
theorem T_X11_stands {d : Nat} {M : jk_M} (hM : WM M) {b n : Nat} {t : Nat → Int32} (rx : RX M b n t) {p : Nat} (hp : M.2.1 0 31 = nI p) (hpn : p ≤ 1000) {w : Nat} (hw : w < 10) : J Fr_X11_stands d 0 0 0 [(0, .ref 0), (1, .int (nI w))] [] M (jk_is (some (.int (bI (mt n t p w = jk_sL.getD w 0)))) M) := by
  refine j_post (fun Q hQ => ?_)
  have hb := rx.1
  have hn := rx.2.1
  have hst := st_b w hw
  have h9 := sL9 w hw
  refine j_iconst 0 dX11_stands_0 ic_0 ?_
  refine j_istore_n (L' := [(2, .int 0), (0, .ref 0), (1, .int (nI w))]) dX11_stands_1 (by decide) rfl ?_
  refine j_iconst 0 dX11_stands_2 ic_0 ?_
  refine j_istore_n (L' := [(3, .int 0), (2, .int 0), (0, .ref 0), (1, .int (nI w))]) dX11_stands_3 (by decide) rfl ?_
  refine j_L (congrArg (fun zz9 : Int32 => ([(3, .int zz9), (2, .int 0), (0, .ref 0), (1, .int (nI w))] : List (Nat × Value))) (show (0 : Int32) = nI (zcW 0) from rfl)) ?_
  have lp3 : ∀ (k1 : Nat) (i : Nat), stW.getD w 0 - i < k1 → (i ≤ stW.getD w 0) → (zcW i ≤ 10) → J Fr_X11_stands d 0 0 4 [(0, .ref 0), (1, .int (nI w)), (2, .int (nI i)), (3, .int (nI (zcW i)))] [] M Q := by
    intro k1
    induction k1 with
    | zero => intro i hk; exact absurd hk (Nat.not_lt_zero _)
    | succ k1 ih2 =>
      intro i hk1 hi hzc
      refine j_iload_n 3 dX11_stands_4 rfl ?_
      refine j_iload_n 1 dX11_stands_5 rfl ?_
      refine j_icmp_geN (tgt := 32) (zcW i) w dX11_stands_6 rfl (by omega) (by omega) (fun c4 => ?_) (fun c4 => ?_)
      · refine j_aload_n 0 dX11_stands_32 rfl ?_
        refine j_getv (nI p) dX11_stands_33 fX11_193 (shM hM sgM_0) rfl hp ?_
        refine j_istore_n (L' := [(3, .int (nI p)), (0, .ref 0), (1, .int (nI w)), (2, .int (nI i))]) dX11_stands_36 (by decide) rfl ?_
        have ei := zc_ge hw hi (by assumption)
        have ei2 : nI i = nI (stW.getD w 0 + 0) := congrArg nI ei
        refine j_L (congrArg (fun zz9 : Int32 => ([(3, .int (nI p)), (0, .ref 0), (1, .int (nI w)), (2, .int zz9)] : List (Nat × Value))) ei2) ?_
        refine j_L (congrArg (fun zz9 : Int32 => ([(3, .int zz9), (0, .ref 0), (1, .int (nI w)), (2, .int (nI (stW.getD w 0 + 0)))] : List (Nat × Value))) (show nI p = nI (p + 0) from rfl)) ?_
        have lp7 : ∀ (k5 : Nat) (s : Nat), jk_sL.getD w 0 - s < k5 → (s ≤ jk_sL.getD w 0) → (mtf n t p w (10 - s) s = mt n t p w) → J Fr_X11_stands d 0 0 37 [(0, .ref 0), (1, .int (nI w)), (2, .int (nI (stW.getD w 0 + s))), (3, .int (nI (p + s)))] [] M Q := by
          intro k5
          induction k5 with
          | zero => intro s hk; exact absurd hk (Nat.not_lt_zero _)
          | succ k5 ih6 =>
            intro s hk5 hs hm
            refine j_aload_n 0 dX11_stands_37 rfl ?_
            refine j_getr (q := 19) dX11_stands_38 fX11_81 (shM hM sgM_0) rfl (rfM hM rfM_0_27) ?_
            refine j_iload_n 2 dX11_stands_41 rfl ?_
            refine j_ialdN (stW.getD w 0 + s) dX11_stands_42 (shM hM sgM_19) (by omega) (by omega) ?_
            refine j_topi (lw w s) (rx.2.2.2.2.2.1 _ (by omega)) ?_
            refine j_bipush 32 dX11_stands_43 bp_32 ?_
            refine j_icmp_le (tgt := 86) dX11_stands_45 rfl (fun c8 => ?_) (fun c8 => ?_)
            · refine j_aload_n 0 dX11_stands_86 rfl ?_
              refine j_getr (q := 19) dX11_stands_87 fX11_81 (shM hM sgM_0) rfl (rfM hM rfM_0_27) ?_
              refine j_iload_n 2 dX11_stands_90 rfl ?_
              refine j_ialdN (stW.getD w 0 + s) dX11_stands_91 (shM hM sgM_19) (by omega) (by omega) ?_
              refine j_topi (lw w s) (rx.2.2.2.2.2.1 _ (by omega)) ?_
              refine j_bipush 32 dX11_stands_92 bp_32 ?_
              refine j_icmp_gt (tgt := 101) dX11_stands_94 rfl (fun c9 => ?_) (fun c9 => ?_)
              · refine j_iconst 0 dX11_stands_101 ic_0 ?_
                refine j_zret dX11_stands_102 rfl rfl ?_
                exfalso
                clear hQ
                grind
              · refine j_iconst 1 dX11_stands_97 ic_1 ?_
                refine j_goto (tgt := 102) dX11_stands_98 rfl ?_
                refine j_zret dX11_stands_102 rfl rfl ?_
                have e := lw_le hw hs (by assumption)
                have em : mt n t p w = jk_sL.getD w 0 := by rw [← hm, mtf_f (Or.inl (by omega))]; exact e
                exact hQ _ _ ⟨by rw [bI_t em], rfl⟩
            · refine j_iload_n 3 dX11_stands_48 rfl ?_
              refine j_aload_n 0 dX11_stands_49 rfl ?_
              refine j_getv (nI n) dX11_stands_50 fX11_196 (shM hM sgM_0) rfl rx.2.2.2.1 ?_
              refine j_icmp_geN (tgt := 86) (p + s) n dX11_stands_53 rfl (by omega) (by omega) (fun c10 => ?_) (fun c10 => ?_)
              · refine j_aload_n 0 dX11_stands_86 rfl ?_
                refine j_getr (q := 19) dX11_stands_87 fX11_81 (shM hM sgM_0) rfl (rfM hM rfM_0_27) ?_
                refine j_iload_n 2 dX11_stands_90 rfl ?_
                refine j_ialdN (stW.getD w 0 + s) dX11_stands_91 (shM hM sgM_19) (by omega) (by omega) ?_
                refine j_topi (lw w s) (rx.2.2.2.2.2.1 _ (by omega)) ?_
                refine j_bipush 32 dX11_stands_92 bp_32 ?_
                refine j_icmp_gt (tgt := 101) dX11_stands_94 rfl (fun c11 => ?_) (fun c11 => ?_)
                · refine j_iconst 0 dX11_stands_101 ic_0 ?_
                  refine j_zret dX11_stands_102 rfl rfl ?_
                  have l := lw_gt hw hs (by assumption)
                  have ec := (lw_l0 w hw s l).1
                  have em : mt n t p w = s := hm.symm.trans (mtf_f (Or.inr (fun z => by have z2 := z.2; rw [← ec] at z2; have z1 := z.1; first | omega | exact absurd z2 (by assumption))))
                  exact hQ _ _ ⟨by rw [bI_f (fun z => by omega)], rfl⟩
                · refine j_iconst 1 dX11_stands_97 ic_1 ?_
                  refine j_goto (tgt := 102) dX11_stands_98 rfl ?_
                  refine j_zret dX11_stands_102 rfl rfl ?_
                  exfalso
                  clear hQ
                  grind
              · refine j_aload_n 0 dX11_stands_56 rfl ?_
                refine j_getr (q := 17) dX11_stands_57 fX11_74 (shM hM sgM_0) rfl (rfM hM rfM_0_25) ?_
                refine j_aload_n 0 dX11_stands_60 rfl ?_
                refine j_getv (nI b) dX11_stands_61 fX11_199 (shM hM sgM_0) rfl rx.2.2.1 ?_
                refine j_iload_n 3 dX11_stands_64 rfl ?_
                refine j_iaddN b (p + s) dX11_stands_65 ?_
                refine j_laldN (b + (p + s)) dX11_stands_66 (shM hM sgM_17) (by omega) (by omega) ?_
                refine j_l2i dX11_stands_67 ?_
                refine j_topi (t (p + s)) (rx.2.2.2.2.1 _ (by omega)) ?_
                refine j_aload_n 0 dX11_stands_68 rfl ?_
                refine j_getr (q := 19) dX11_stands_69 fX11_81 (shM hM sgM_0) rfl (rfM hM rfM_0_27) ?_
                refine j_iload_n 2 dX11_stands_72 rfl ?_
                refine j_ialdN (stW.getD w 0 + s) dX11_stands_73 (shM hM sgM_19) (by omega) (by omega) ?_
                refine j_topi (lw w s) (rx.2.2.2.2.2.1 _ (by omega)) ?_
                refine j_icmp_ne (tgt := 86) dX11_stands_74 rfl (fun c12 => ?_) (fun c12 => ?_)
                · refine j_aload_n 0 dX11_stands_86 rfl ?_
                  refine j_getr (q := 19) dX11_stands_87 fX11_81 (shM hM sgM_0) rfl (rfM hM rfM_0_27) ?_
                  refine j_iload_n 2 dX11_stands_90 rfl ?_
                  refine j_ialdN (stW.getD w 0 + s) dX11_stands_91 (shM hM sgM_19) (by omega) (by omega) ?_
                  refine j_topi (lw w s) (rx.2.2.2.2.2.1 _ (by omega)) ?_
                  refine j_bipush 32 dX11_stands_92 bp_32 ?_
                  refine j_icmp_gt (tgt := 101) dX11_stands_94 rfl (fun c13 => ?_) (fun c13 => ?_)
                  · refine j_iconst 0 dX11_stands_101 ic_0 ?_
                    refine j_zret dX11_stands_102 rfl rfl ?_
                    have l := lw_gt hw hs (by assumption)
                    have ec := (lw_l0 w hw s l).1
                    have em : mt n t p w = s := hm.symm.trans (mtf_f (Or.inr (fun z => by have z2 := z.2; rw [← ec] at z2; have z1 := z.1; first | omega | exact absurd z2 (by assumption))))
                    exact hQ _ _ ⟨by rw [bI_f (fun z => by omega)], rfl⟩
                  · refine j_iconst 1 dX11_stands_97 ic_1 ?_
                    refine j_goto (tgt := 102) dX11_stands_98 rfl ?_
                    refine j_zret dX11_stands_102 rfl rfl ?_
                    exfalso
                    clear hQ
                    grind
                · refine j_iinc 3 (nI ((p + s) + 1)) (L' := [(3, .int (nI ((p + s) + 1))), (0, .ref 0), (1, .int (nI w)), (2, .int (nI (stW.getD w 0 + s)))]) dX11_stands_77 rfl (inc1 (p + s)) (by decide) rfl ?_
                  refine j_iinc 3 (nI ((stW.getD w 0 + s) + 1)) (L' := [(2, .int (nI ((stW.getD w 0 + s) + 1))), (3, .int (nI ((p + s) + 1))), (0, .ref 0), (1, .int (nI w))]) dX11_stands_80 rfl (inc1 (stW.getD w 0 + s)) (by decide) rfl ?_
                  refine j_goto (tgt := 37) dX11_stands_83 rfl ?_
                  exact j_sub (jk_pick [2, 3, 0, 1] rfl) (ih6 (s + 1) (by have := lw_gt hw hs (by assumption); omega) (lw_gt hw hs (by assumption)) ((mtf_t (by omega) (lw_gt hw hs (by assumption)) ⟨by omega, by rw [← (lw_l0 w hw s (lw_gt hw hs (by assumption))).1]; assumption⟩).symm.trans hm))
        exact j_sub (jk_pick [1, 2, 3, 0] rfl) (lp7 _ 0 (Nat.lt_succ_self _) (Nat.zero_le _) rfl)
      · refine j_iload_n 3 dX11_stands_9 rfl ?_
        refine j_aload_n 0 dX11_stands_10 rfl ?_
        refine j_getr (q := 19) dX11_stands_11 fX11_81 (shM hM sgM_0) rfl (rfM hM rfM_0_27) ?_
        refine j_iload_n 2 dX11_stands_14 rfl ?_
        refine j_ialdN i dX11_stands_15 (shM hM sgM_19) (by omega) (by omega) ?_
        refine j_topi (wdT.getD i 0) (rx.2.2.2.2.2.1 _ (by omega)) ?_
        refine j_if_ne (tgt := 23) dX11_stands_16 rfl (fun c14 => ?_) (fun c14 => ?_)
        · refine j_iconst 0 dX11_stands_23 ic_0 ?_
          refine j_iaddN (zcW i) 0 dX11_stands_24 ?_
          refine j_istore_n (L' := [(3, .int (nI ((zcW i) + 0))), (0, .ref 0), (1, .int (nI w)), (2, .int (nI i))]) dX11_stands_25 (by decide) rfl ?_
          refine j_iinc 3 (nI (i + 1)) (L' := [(2, .int (nI (i + 1))), (3, .int (nI ((zcW i) + 0))), (0, .ref 0), (1, .int (nI w))]) dX11_stands_26 rfl (inc1 i) (by decide) rfl ?_
          refine j_goto (tgt := 4) dX11_stands_29 rfl ?_
          have hz1 : (nI ((zcW i) + 0)) = nI (zcW (i + 1)) := by
            rw [zc_s i (by omega), if_neg c14]
          refine j_L (congrArg (fun zz9 : Int32 => ([(2, .int (nI (i + 1))), (3, .int zz9), (0, .ref 0), (1, .int (nI w))] : List (Nat × Value))) hz1) ?_
          exact j_sub (jk_pick [2, 3, 0, 1] rfl) (ih2 (i + 1) (by have := zc_lt hw hi (by assumption); omega) (zc_lt hw hi (by assumption)) (zc_le _ (by omega)))
        · refine j_iconst 1 dX11_stands_19 ic_1 ?_
          refine j_goto (tgt := 24) dX11_stands_20 rfl ?_
          refine j_iaddN (zcW i) 1 dX11_stands_24 ?_
          refine j_istore_n (L' := [(3, .int (nI ((zcW i) + 1))), (0, .ref 0), (1, .int (nI w)), (2, .int (nI i))]) dX11_stands_25 (by decide) rfl ?_
          refine j_iinc 3 (nI (i + 1)) (L' := [(2, .int (nI (i + 1))), (3, .int (nI ((zcW i) + 1))), (0, .ref 0), (1, .int (nI w))]) dX11_stands_26 rfl (inc1 i) (by decide) rfl ?_
          refine j_goto (tgt := 4) dX11_stands_29 rfl ?_
          have hz1 : (nI ((zcW i) + 1)) = nI (zcW (i + 1)) := by
            rw [zc_s i (by omega), if_pos c14]
          refine j_L (congrArg (fun zz9 : Int32 => ([(2, .int (nI (i + 1))), (3, .int zz9), (0, .ref 0), (1, .int (nI w))] : List (Nat × Value))) hz1) ?_
          exact j_sub (jk_pick [2, 3, 0, 1] rfl) (ih2 (i + 1) (by have := zc_lt hw hi (by assumption); omega) (zc_lt hw hi (by assumption)) (zc_le _ (by omega)))
  exact j_sub (jk_pick [2, 3, 1, 0] rfl) (lp3 _ 0 (Nat.lt_succ_self _) (Nat.zero_le _) (by decide))
set_option maxRecDepth 20000 in
set_option maxHeartbeats 4000000 in
theorem T_wordS {d : Nat} {M : jk_M} (hM : WM M) {b n : Nat} {t : Nat → Int32} (rx : RX M b n t) {p : Nat} (hp : M.2.1 0 31 = nI p) (hpn : p ≤ 1000) (v : Nat) (hv : wmN n t p 10 = some v) : J Fr_X11_word d 0 0 0 [(0, .ref 0)] [] M (jk_is (some (.int (nI v))) (jk_wI M 0 31 (nI (p + jk_sL.getD v 0 + 1)))) := by
  refine j_post (fun Q hQ => ?_)
  have hb := rx.1
  have hn := rx.2.1
  have hm10 := mx10 (n := n) (t := t) (p := p) 10 (by omega)
  refine j_iconst 0 dX11_word_0 ic_0 ?_
  refine j_istore_n (L' := [(1, .int 0), (0, .ref 0)]) dX11_word_1 (by decide) rfl ?_
  refine j_aload_n 1 dX11_word_2 rfl ?_
  refine j_getv (nI p) dX11_word_3 fX11_193 (shM hM sgM_0) rfl hp ?_
  refine j_istore_n (L' := [(2, .int (nI p)), (1, .int 0), (0, .ref 0)]) dX11_word_6 (by decide) rfl ?_
  refine j_iconst 0 dX11_word_7 ic_0 ?_
  refine j_istore_n (L' := [(3, .int 0), (2, .int (nI p)), (1, .int 0), (0, .ref 0)]) dX11_word_8 (by decide) rfl ?_
  refine j_L (congrArg (fun zz9 : Int32 => ([(3, .int 0), (2, .int (nI p)), (1, .int zz9), (0, .ref 0)] : List (Nat × Value))) (show (0 : Int32) = nI (stW.getD 0 0) from rfl)) ?_
  refine j_L (congrArg (fun zz9 : Int32 => ([(3, .int 0), (2, .int zz9), (1, .int (nI (stW.getD 0 0))), (0, .ref 0)] : List (Nat × Value))) (show nI p = nI (p + mxN n t p 0) from rfl)) ?_
  have lp3 : ∀ (k1 : Nat) (w : Nat), 10 - w < k1 → (w ≤ 10) → (wmN n t p w = none) → J Fr_X11_word d 0 0 9 [(0, .ref 0), (1, .int (nI (stW.getD w 0))), (2, .int (nI (p + mxN n t p w))), (3, .int (nI w))] [] M Q := by
    intro k1
    induction k1 with
    | zero => intro w hk; exact absurd hk (Nat.not_lt_zero _)
    | succ k1 ih2 =>
      intro w hk1 hi hnone
      refine j_iload_n 3 dX11_word_9 rfl ?_
      refine j_bipush 10 dX11_word_10 bp_10 ?_
      refine j_icmp_geN (tgt := 130) w 10 dX11_word_12 rfl (by omega) (by omega) (fun c4 => ?_) (fun c4 => ?_)
      · refine j_aload_n 0 dX11_word_130 rfl ?_
        refine j_iload_n 2 dX11_word_131 rfl ?_
        refine j_put dX11_word_132 fX11_190 (shM hM sgM_0) rfl ?_
        refine j_iconst (-1) dX11_word_135 ic_n1 ?_
        refine j_iret dX11_word_136 rfl ?_
        have e : w = 10 := by omega
        subst e
        rw [hv] at hnone
        cases hnone
      · refine j_aload_n 0 dX11_word_15 rfl ?_
        refine j_getv (nI p) dX11_word_16 fX11_193 (shM hM sgM_0) rfl hp ?_
        refine j_istore (L' := [(4, .int (nI p)), (0, .ref 0), (1, .int (nI (stW.getD w 0))), (2, .int (nI (p + mxN n t p w))), (3, .int (nI w))]) dX11_word_19 (by decide) rfl ?_
        refine j_iload_n 2 dX11_word_21 rfl ?_
        refine j_istore (L' := [(5, .int (nI (stW.getD w 0))), (4, .int (nI p)), (0, .ref 0), (1, .int (nI (stW.getD w 0))), (2, .int (nI (p + mxN n t p w))), (3, .int (nI w))]) dX11_word_22 (by decide) rfl ?_
        have hw9 : w < 10 := by omega
        have hst := st_b w hw9
        have h9 := sL9 w hw9
        have hmw := mx10 (n := n) (t := t) (p := p) w (by omega)
        refine j_L (congrArg (fun zz9 : Int32 => ([(5, .int (nI (stW.getD w 0))), (4, .int zz9), (0, .ref 0), (1, .int (nI (stW.getD w 0))), (2, .int (nI (p + mxN n t p w))), (3, .int (nI w))] : List (Nat × Value))) (show nI p = nI (p + 0) from rfl)) ?_
        refine j_L (congrArg (fun zz9 : Int32 => ([(5, .int zz9), (4, .int (nI (p + 0))), (0, .ref 0), (1, .int (nI (stW.getD w 0))), (2, .int (nI (p + mxN n t p w))), (3, .int (nI w))] : List (Nat × Value))) (show nI (stW.getD w 0) = nI (stW.getD w 0 + 0) from rfl)) ?_
        have lp7 : ∀ (k5 : Nat) (s : Nat), jk_sL.getD w 0 + 1 - s < k5 → (s ≤ jk_sL.getD w 0 + 1) → (mmf n t p w (11 - s) s = mm n t p w) → J Fr_X11_word d 0 0 24 [(0, .ref 0), (1, .int (nI (stW.getD w 0))), (2, .int (nI (p + mxN n t p w))), (3, .int (nI w)), (4, .int (nI (p + s))), (5, .int (nI (stW.getD w 0 + s)))] [] M Q := by
          intro k5
          induction k5 with
          | zero => intro s hk; exact absurd hk (Nat.not_lt_zero _)
          | succ k5 ih6 =>
            intro s hk5 hs hm
            refine j_aload_n 0 dX11_word_24 rfl ?_
            refine j_getr (q := 19) dX11_word_25 fX11_81 (shM hM sgM_0) rfl (rfM hM rfM_0_27) ?_
            refine j_iload 5 dX11_word_28 rfl ?_
            refine j_ialdN (stW.getD w 0 + s) dX11_word_30 (shM hM sgM_19) (by omega) (by omega) ?_
            refine j_topi (lw w s) (rx.2.2.2.2.2.1 _ (by omega)) ?_
            refine j_if_eq (tgt := 75) dX11_word_31 rfl (fun c8 => ?_) (fun c8 => ?_)
            · have es : mm n t p w = s := hm.symm.trans (mmf_f (Or.inl (by assumption)))
              refine j_aload_n 0 dX11_word_75 rfl ?_
              refine j_getr (q := 19) dX11_word_76 fX11_81 (shM hM sgM_0) rfl (rfM hM rfM_0_27) ?_
              refine j_iload 5 dX11_word_79 rfl ?_
              refine j_ialdN (stW.getD w 0 + s) dX11_word_81 (shM hM sgM_19) (by omega) (by omega) ?_
              refine j_topi (lw w s) (rx.2.2.2.2.2.1 _ (by omega)) ?_
              refine j_if_ne (tgt := 93) dX11_word_82 rfl (fun c9 => ?_) (fun c9 => ?_)
              · exact absurd c8 c9
              · refine j_aload_n 0 dX11_word_85 rfl ?_
                refine j_iload 4 dX11_word_86 rfl ?_
                refine j_put dX11_word_88 fX11_193 (shM hM sgM_0) rfl ?_
                refine j_iload_n 3 dX11_word_91 rfl ?_
                refine j_iret dX11_word_92 rfl ?_
                have el := lw_0 hw9 hs (by assumption)
                have hy := wm_st (wm_y hnone (es.trans el)) (10 - (w + 1))
                rw [show w + 1 + (10 - (w + 1)) = 10 by omega, hv] at hy
                have ew : v = w := by simpa using hy
                subst ew
                subst el
                exact hQ _ _ ⟨rfl, rfl⟩
            · refine j_iload 4 dX11_word_34 rfl ?_
              refine j_aload_n 0 dX11_word_36 rfl ?_
              refine j_getv (nI n) dX11_word_37 fX11_196 (shM hM sgM_0) rfl rx.2.2.2.1 ?_
              refine j_icmp_geN (tgt := 75) (p + s) n dX11_word_40 rfl (by omega) (by omega) (fun c10 => ?_) (fun c10 => ?_)
              · have es : mm n t p w = s := hm.symm.trans (mmf_f (Or.inr (fun z => by have z1 := z.1; have z2 := z.2; first | omega | exact absurd z2 (by assumption))))
                refine j_aload_n 0 dX11_word_75 rfl ?_
                refine j_getr (q := 19) dX11_word_76 fX11_81 (shM hM sgM_0) rfl (rfM hM rfM_0_27) ?_
                refine j_iload 5 dX11_word_79 rfl ?_
                refine j_ialdN (stW.getD w 0 + s) dX11_word_81 (shM hM sgM_19) (by omega) (by omega) ?_
                refine j_topi (lw w s) (rx.2.2.2.2.2.1 _ (by omega)) ?_
                refine j_if_ne (tgt := 93) dX11_word_82 rfl (fun c11 => ?_) (fun c11 => ?_)
                · refine j_iload 4 dX11_word_93 rfl ?_
                  refine j_iload_n 2 dX11_word_95 rfl ?_
                  refine j_icmp_leN (tgt := 104) (p + s) (p + mxN n t p w) dX11_word_96 rfl (by omega) (by omega) (fun c12 => ?_) (fun c12 => ?_)
                  · refine j_iload_n 2 dX11_word_104 rfl ?_
                    refine j_istore_n (L' := [(2, .int (nI (p + mxN n t p w))), (0, .ref 0), (1, .int (nI (stW.getD w 0))), (3, .int (nI w)), (4, .int (nI (p + s))), (5, .int (nI (stW.getD w 0 + s)))]) dX11_word_105 (by decide) rfl ?_
                    refine j_L (congrArg (fun zz9 : Int32 => ([(2, .int (nI (p + mxN n t p w))), (0, .ref 0), (1, .int zz9), (3, .int (nI w)), (4, .int (nI (p + s))), (5, .int (nI (stW.getD w 0 + s)))] : List (Nat × Value))) (show nI (stW.getD w 0) = nI (stW.getD w 0 + 0) from rfl)) ?_
                    have lp15 : ∀ (k13 : Nat) (r : Nat), jk_sL.getD w 0 + 1 - r < k13 → (r ≤ jk_sL.getD w 0 + 1) → J Fr_X11_word d 0 0 106 [(0, .ref 0), (1, .int (nI (stW.getD w 0 + r))), (2, .int (nI (p + mxN n t p w))), (3, .int (nI w)), (4, .int (nI (p + s))), (5, .int (nI (stW.getD w 0 + s)))] [] M Q := by
                      intro k13
                      induction k13 with
                      | zero => intro r hk; exact absurd hk (Nat.not_lt_zero _)
                      | succ k13 ih14 =>
                        intro r hk13 hr
                        refine j_aload_n 0 dX11_word_106 rfl ?_
                        refine j_getr (q := 19) dX11_word_107 fX11_81 (shM hM sgM_0) rfl (rfM hM rfM_0_27) ?_
                        refine j_iload_n 1 dX11_word_110 rfl ?_
                        refine j_ialdN (stW.getD w 0 + r) dX11_word_111 (shM hM sgM_19) (by omega) (by omega) ?_
                        refine j_topi (lw w r) (rx.2.2.2.2.2.1 _ (by omega)) ?_
                        refine j_if_eq (tgt := 121) dX11_word_112 rfl (fun c16 => ?_) (fun c16 => ?_)
                        · refine j_iinc 1 (nI ((stW.getD w 0 + r) + 1)) (L' := [(1, .int (nI ((stW.getD w 0 + r) + 1))), (0, .ref 0), (2, .int (nI (p + mxN n t p w))), (3, .int (nI w)), (4, .int (nI (p + s))), (5, .int (nI (stW.getD w 0 + s)))]) dX11_word_121 rfl (inc1 (stW.getD w 0 + r)) (by decide) rfl ?_
                          refine j_iinc 3 (nI (w + 1)) (L' := [(3, .int (nI (w + 1))), (1, .int (nI ((stW.getD w 0 + r) + 1))), (0, .ref 0), (2, .int (nI (p + mxN n t p w))), (4, .int (nI (p + s))), (5, .int (nI (stW.getD w 0 + s)))]) dX11_word_124 rfl (inc1 w) (by decide) rfl ?_
                          refine j_goto (tgt := 9) dX11_word_127 rfl ?_
                          have er := lw_0 hw9 hr (by assumption)
                          have hz1 : (nI ((stW.getD w 0 + r) + 1)) = nI (stW.getD (w + 1) 0) := congrArg nI (by rw [← st_s w hw9]; omega)
                          refine j_L (congrArg (fun zz9 : Int32 => ([(3, .int (nI (w + 1))), (1, .int zz9), (0, .ref 0), (2, .int (nI (p + mxN n t p w))), (4, .int (nI (p + s))), (5, .int (nI (stW.getD w 0 + s)))] : List (Nat × Value))) hz1) ?_
                          have hz2 : (nI (p + mxN n t p w)) = nI (p + mxN n t p (w + 1)) := congrArg nI (by rw [mx_s, es, if_neg (by omega)])
                          refine j_L (congrArg (fun zz9 : Int32 => ([(3, .int (nI (w + 1))), (1, .int (nI (stW.getD (w + 1) 0))), (0, .ref 0), (2, .int zz9), (4, .int (nI (p + s))), (5, .int (nI (stW.getD w 0 + s)))] : List (Nat × Value))) hz2) ?_
                          exact j_sub (jk_pick [2, 1, 3, 0] rfl) (ih2 (w + 1) (by omega) (by omega) (wm_n hnone (fun z => absurd ((lw_e w hw9).2) (by rw [← z, es]; assumption))))
                        · refine j_iinc 1 (nI ((stW.getD w 0 + r) + 1)) (L' := [(1, .int (nI ((stW.getD w 0 + r) + 1))), (0, .ref 0), (2, .int (nI (p + mxN n t p w))), (3, .int (nI w)), (4, .int (nI (p + s))), (5, .int (nI (stW.getD w 0 + s)))]) dX11_word_115 rfl (inc1 (stW.getD w 0 + r)) (by decide) rfl ?_
                          refine j_goto (tgt := 106) dX11_word_118 rfl ?_
                          exact j_sub (jk_pick [1, 0, 2, 3, 4, 5] rfl) (ih14 (r + 1) (by have := lw_n0 hw9 hr (by assumption); omega) (by have := lw_n0 hw9 hr (by assumption); omega))
                    exact j_sub (jk_pick [1, 2, 0, 3, 4, 5] rfl) (lp15 _ 0 (Nat.lt_succ_self _) (Nat.zero_le _))
                  · refine j_iload 4 dX11_word_99 rfl ?_
                    refine j_goto (tgt := 105) dX11_word_101 rfl ?_
                    refine j_istore_n (L' := [(2, .int (nI (p + s))), (0, .ref 0), (1, .int (nI (stW.getD w 0))), (3, .int (nI w)), (4, .int (nI (p + s))), (5, .int (nI (stW.getD w 0 + s)))]) dX11_word_105 (by decide) rfl ?_
                    refine j_L (congrArg (fun zz9 : Int32 => ([(2, .int (nI (p + s))), (0, .ref 0), (1, .int zz9), (3, .int (nI w)), (4, .int (nI (p + s))), (5, .int (nI (stW.getD w 0 + s)))] : List (Nat × Value))) (show nI (stW.getD w 0) = nI (stW.getD w 0 + 0) from rfl)) ?_
                    have lp19 : ∀ (k17 : Nat) (r : Nat), jk_sL.getD w 0 + 1 - r < k17 → (r ≤ jk_sL.getD w 0 + 1) → J Fr_X11_word d 0 0 106 [(0, .ref 0), (1, .int (nI (stW.getD w 0 + r))), (2, .int (nI (p + s))), (3, .int (nI w)), (4, .int (nI (p + s))), (5, .int (nI (stW.getD w 0 + s)))] [] M Q := by
                      intro k17
                      induction k17 with
                      | zero => intro r hk; exact absurd hk (Nat.not_lt_zero _)
                      | succ k17 ih18 =>
                        intro r hk17 hr
                        refine j_aload_n 0 dX11_word_106 rfl ?_
                        refine j_getr (q := 19) dX11_word_107 fX11_81 (shM hM sgM_0) rfl (rfM hM rfM_0_27) ?_
                        refine j_iload_n 1 dX11_word_110 rfl ?_
                        refine j_ialdN (stW.getD w 0 + r) dX11_word_111 (shM hM sgM_19) (by omega) (by omega) ?_
                        refine j_topi (lw w r) (rx.2.2.2.2.2.1 _ (by omega)) ?_
                        refine j_if_eq (tgt := 121) dX11_word_112 rfl (fun c20 => ?_) (fun c20 => ?_)
                        · refine j_iinc 1 (nI ((stW.getD w 0 + r) + 1)) (L' := [(1, .int (nI ((stW.getD w 0 + r) + 1))), (0, .ref 0), (2, .int (nI (p + s))), (3, .int (nI w)), (4, .int (nI (p + s))), (5, .int (nI (stW.getD w 0 + s)))]) dX11_word_121 rfl (inc1 (stW.getD w 0 + r)) (by decide) rfl ?_
                          refine j_iinc 3 (nI (w + 1)) (L' := [(3, .int (nI (w + 1))), (1, .int (nI ((stW.getD w 0 + r) + 1))), (0, .ref 0), (2, .int (nI (p + s))), (4, .int (nI (p + s))), (5, .int (nI (stW.getD w 0 + s)))]) dX11_word_124 rfl (inc1 w) (by decide) rfl ?_
                          refine j_goto (tgt := 9) dX11_word_127 rfl ?_
                          have er := lw_0 hw9 hr (by assumption)
                          have hz1 : (nI ((stW.getD w 0 + r) + 1)) = nI (stW.getD (w + 1) 0) := congrArg nI (by rw [← st_s w hw9]; omega)
                          refine j_L (congrArg (fun zz9 : Int32 => ([(3, .int (nI (w + 1))), (1, .int zz9), (0, .ref 0), (2, .int (nI (p + s))), (4, .int (nI (p + s))), (5, .int (nI (stW.getD w 0 + s)))] : List (Nat × Value))) hz1) ?_
                          have hz2 : (nI (p + s)) = nI (p + mxN n t p (w + 1)) := congrArg nI (by rw [mx_s, es, if_pos (by omega)])
                          refine j_L (congrArg (fun zz9 : Int32 => ([(3, .int (nI (w + 1))), (1, .int (nI (stW.getD (w + 1) 0))), (0, .ref 0), (2, .int zz9), (4, .int (nI (p + s))), (5, .int (nI (stW.getD w 0 + s)))] : List (Nat × Value))) hz2) ?_
                          exact j_sub (jk_pick [2, 1, 3, 0] rfl) (ih2 (w + 1) (by omega) (by omega) (wm_n hnone (fun z => absurd ((lw_e w hw9).2) (by rw [← z, es]; assumption))))
                        · refine j_iinc 1 (nI ((stW.getD w 0 + r) + 1)) (L' := [(1, .int (nI ((stW.getD w 0 + r) + 1))), (0, .ref 0), (2, .int (nI (p + s))), (3, .int (nI w)), (4, .int (nI (p + s))), (5, .int (nI (stW.getD w 0 + s)))]) dX11_word_115 rfl (inc1 (stW.getD w 0 + r)) (by decide) rfl ?_
                          refine j_goto (tgt := 106) dX11_word_118 rfl ?_
                          exact j_sub (jk_pick [1, 0, 2, 3, 4, 5] rfl) (ih18 (r + 1) (by have := lw_n0 hw9 hr (by assumption); omega) (by have := lw_n0 hw9 hr (by assumption); omega))
                    exact j_sub (jk_pick [1, 2, 0, 3, 4, 5] rfl) (lp19 _ 0 (Nat.lt_succ_self _) (Nat.zero_le _))
                · exact absurd c11 c8
              · refine j_aload_n 0 dX11_word_43 rfl ?_
                refine j_getr (q := 17) dX11_word_44 fX11_74 (shM hM sgM_0) rfl (rfM hM rfM_0_25) ?_
                refine j_aload_n 0 dX11_word_47 rfl ?_
                refine j_getv (nI b) dX11_word_48 fX11_199 (shM hM sgM_0) rfl rx.2.2.1 ?_
                refine j_iload 4 dX11_word_51 rfl ?_
                refine j_iaddN b (p + s) dX11_word_53 ?_
                refine j_laldN (b + (p + s)) dX11_word_54 (shM hM sgM_17) (by omega) (by omega) ?_
                refine j_l2i dX11_word_55 ?_
                refine j_topi (t (p + s)) (rx.2.2.2.2.1 _ (by omega)) ?_
                refine j_aload_n 0 dX11_word_56 rfl ?_
                refine j_getr (q := 19) dX11_word_57 fX11_81 (shM hM sgM_0) rfl (rfM hM rfM_0_27) ?_
                refine j_iload 5 dX11_word_60 rfl ?_
                refine j_ialdN (stW.getD w 0 + s) dX11_word_62 (shM hM sgM_19) (by omega) (by omega) ?_
                refine j_topi (lw w s) (rx.2.2.2.2.2.1 _ (by omega)) ?_
                refine j_icmp_ne (tgt := 75) dX11_word_63 rfl (fun c21 => ?_) (fun c21 => ?_)
                · have es : mm n t p w = s := hm.symm.trans (mmf_f (Or.inr (fun z => by have z1 := z.1; have z2 := z.2; first | omega | exact absurd z2 (by assumption))))
                  refine j_aload_n 0 dX11_word_75 rfl ?_
                  refine j_getr (q := 19) dX11_word_76 fX11_81 (shM hM sgM_0) rfl (rfM hM rfM_0_27) ?_
                  refine j_iload 5 dX11_word_79 rfl ?_
                  refine j_ialdN (stW.getD w 0 + s) dX11_word_81 (shM hM sgM_19) (by omega) (by omega) ?_
                  refine j_topi (lw w s) (rx.2.2.2.2.2.1 _ (by omega)) ?_
                  refine j_if_ne (tgt := 93) dX11_word_82 rfl (fun c22 => ?_) (fun c22 => ?_)
                  · refine j_iload 4 dX11_word_93 rfl ?_
                    refine j_iload_n 2 dX11_word_95 rfl ?_
                    refine j_icmp_leN (tgt := 104) (p + s) (p + mxN n t p w) dX11_word_96 rfl (by omega) (by omega) (fun c23 => ?_) (fun c23 => ?_)
                    · refine j_iload_n 2 dX11_word_104 rfl ?_
                      refine j_istore_n (L' := [(2, .int (nI (p + mxN n t p w))), (0, .ref 0), (1, .int (nI (stW.getD w 0))), (3, .int (nI w)), (4, .int (nI (p + s))), (5, .int (nI (stW.getD w 0 + s)))]) dX11_word_105 (by decide) rfl ?_
                      refine j_L (congrArg (fun zz9 : Int32 => ([(2, .int (nI (p + mxN n t p w))), (0, .ref 0), (1, .int zz9), (3, .int (nI w)), (4, .int (nI (p + s))), (5, .int (nI (stW.getD w 0 + s)))] : List (Nat × Value))) (show nI (stW.getD w 0) = nI (stW.getD w 0 + 0) from rfl)) ?_
                      have lp26 : ∀ (k24 : Nat) (r : Nat), jk_sL.getD w 0 + 1 - r < k24 → (r ≤ jk_sL.getD w 0 + 1) → J Fr_X11_word d 0 0 106 [(0, .ref 0), (1, .int (nI (stW.getD w 0 + r))), (2, .int (nI (p + mxN n t p w))), (3, .int (nI w)), (4, .int (nI (p + s))), (5, .int (nI (stW.getD w 0 + s)))] [] M Q := by
                        intro k24
                        induction k24 with
                        | zero => intro r hk; exact absurd hk (Nat.not_lt_zero _)
                        | succ k24 ih25 =>
                          intro r hk24 hr
                          refine j_aload_n 0 dX11_word_106 rfl ?_
                          refine j_getr (q := 19) dX11_word_107 fX11_81 (shM hM sgM_0) rfl (rfM hM rfM_0_27) ?_
                          refine j_iload_n 1 dX11_word_110 rfl ?_
                          refine j_ialdN (stW.getD w 0 + r) dX11_word_111 (shM hM sgM_19) (by omega) (by omega) ?_
                          refine j_topi (lw w r) (rx.2.2.2.2.2.1 _ (by omega)) ?_
                          refine j_if_eq (tgt := 121) dX11_word_112 rfl (fun c27 => ?_) (fun c27 => ?_)
                          · refine j_iinc 1 (nI ((stW.getD w 0 + r) + 1)) (L' := [(1, .int (nI ((stW.getD w 0 + r) + 1))), (0, .ref 0), (2, .int (nI (p + mxN n t p w))), (3, .int (nI w)), (4, .int (nI (p + s))), (5, .int (nI (stW.getD w 0 + s)))]) dX11_word_121 rfl (inc1 (stW.getD w 0 + r)) (by decide) rfl ?_
                            refine j_iinc 3 (nI (w + 1)) (L' := [(3, .int (nI (w + 1))), (1, .int (nI ((stW.getD w 0 + r) + 1))), (0, .ref 0), (2, .int (nI (p + mxN n t p w))), (4, .int (nI (p + s))), (5, .int (nI (stW.getD w 0 + s)))]) dX11_word_124 rfl (inc1 w) (by decide) rfl ?_
                            refine j_goto (tgt := 9) dX11_word_127 rfl ?_
                            have er := lw_0 hw9 hr (by assumption)
                            have hz1 : (nI ((stW.getD w 0 + r) + 1)) = nI (stW.getD (w + 1) 0) := congrArg nI (by rw [← st_s w hw9]; omega)
                            refine j_L (congrArg (fun zz9 : Int32 => ([(3, .int (nI (w + 1))), (1, .int zz9), (0, .ref 0), (2, .int (nI (p + mxN n t p w))), (4, .int (nI (p + s))), (5, .int (nI (stW.getD w 0 + s)))] : List (Nat × Value))) hz1) ?_
                            have hz2 : (nI (p + mxN n t p w)) = nI (p + mxN n t p (w + 1)) := congrArg nI (by rw [mx_s, es, if_neg (by omega)])
                            refine j_L (congrArg (fun zz9 : Int32 => ([(3, .int (nI (w + 1))), (1, .int (nI (stW.getD (w + 1) 0))), (0, .ref 0), (2, .int zz9), (4, .int (nI (p + s))), (5, .int (nI (stW.getD w 0 + s)))] : List (Nat × Value))) hz2) ?_
                            exact j_sub (jk_pick [2, 1, 3, 0] rfl) (ih2 (w + 1) (by omega) (by omega) (wm_n hnone (fun z => absurd ((lw_e w hw9).2) (by rw [← z, es]; assumption))))
                          · refine j_iinc 1 (nI ((stW.getD w 0 + r) + 1)) (L' := [(1, .int (nI ((stW.getD w 0 + r) + 1))), (0, .ref 0), (2, .int (nI (p + mxN n t p w))), (3, .int (nI w)), (4, .int (nI (p + s))), (5, .int (nI (stW.getD w 0 + s)))]) dX11_word_115 rfl (inc1 (stW.getD w 0 + r)) (by decide) rfl ?_
                            refine j_goto (tgt := 106) dX11_word_118 rfl ?_
                            exact j_sub (jk_pick [1, 0, 2, 3, 4, 5] rfl) (ih25 (r + 1) (by have := lw_n0 hw9 hr (by assumption); omega) (by have := lw_n0 hw9 hr (by assumption); omega))
                      exact j_sub (jk_pick [1, 2, 0, 3, 4, 5] rfl) (lp26 _ 0 (Nat.lt_succ_self _) (Nat.zero_le _))
                    · refine j_iload 4 dX11_word_99 rfl ?_
                      refine j_goto (tgt := 105) dX11_word_101 rfl ?_
                      refine j_istore_n (L' := [(2, .int (nI (p + s))), (0, .ref 0), (1, .int (nI (stW.getD w 0))), (3, .int (nI w)), (4, .int (nI (p + s))), (5, .int (nI (stW.getD w 0 + s)))]) dX11_word_105 (by decide) rfl ?_
                      refine j_L (congrArg (fun zz9 : Int32 => ([(2, .int (nI (p + s))), (0, .ref 0), (1, .int zz9), (3, .int (nI w)), (4, .int (nI (p + s))), (5, .int (nI (stW.getD w 0 + s)))] : List (Nat × Value))) (show nI (stW.getD w 0) = nI (stW.getD w 0 + 0) from rfl)) ?_
                      have lp30 : ∀ (k28 : Nat) (r : Nat), jk_sL.getD w 0 + 1 - r < k28 → (r ≤ jk_sL.getD w 0 + 1) → J Fr_X11_word d 0 0 106 [(0, .ref 0), (1, .int (nI (stW.getD w 0 + r))), (2, .int (nI (p + s))), (3, .int (nI w)), (4, .int (nI (p + s))), (5, .int (nI (stW.getD w 0 + s)))] [] M Q := by
                        intro k28
                        induction k28 with
                        | zero => intro r hk; exact absurd hk (Nat.not_lt_zero _)
                        | succ k28 ih29 =>
                          intro r hk28 hr
                          refine j_aload_n 0 dX11_word_106 rfl ?_
                          refine j_getr (q := 19) dX11_word_107 fX11_81 (shM hM sgM_0) rfl (rfM hM rfM_0_27) ?_
                          refine j_iload_n 1 dX11_word_110 rfl ?_
                          refine j_ialdN (stW.getD w 0 + r) dX11_word_111 (shM hM sgM_19) (by omega) (by omega) ?_
                          refine j_topi (lw w r) (rx.2.2.2.2.2.1 _ (by omega)) ?_
                          refine j_if_eq (tgt := 121) dX11_word_112 rfl (fun c31 => ?_) (fun c31 => ?_)
                          · refine j_iinc 1 (nI ((stW.getD w 0 + r) + 1)) (L' := [(1, .int (nI ((stW.getD w 0 + r) + 1))), (0, .ref 0), (2, .int (nI (p + s))), (3, .int (nI w)), (4, .int (nI (p + s))), (5, .int (nI (stW.getD w 0 + s)))]) dX11_word_121 rfl (inc1 (stW.getD w 0 + r)) (by decide) rfl ?_
                            refine j_iinc 3 (nI (w + 1)) (L' := [(3, .int (nI (w + 1))), (1, .int (nI ((stW.getD w 0 + r) + 1))), (0, .ref 0), (2, .int (nI (p + s))), (4, .int (nI (p + s))), (5, .int (nI (stW.getD w 0 + s)))]) dX11_word_124 rfl (inc1 w) (by decide) rfl ?_
                            refine j_goto (tgt := 9) dX11_word_127 rfl ?_
                            have er := lw_0 hw9 hr (by assumption)
                            have hz1 : (nI ((stW.getD w 0 + r) + 1)) = nI (stW.getD (w + 1) 0) := congrArg nI (by rw [← st_s w hw9]; omega)
                            refine j_L (congrArg (fun zz9 : Int32 => ([(3, .int (nI (w + 1))), (1, .int zz9), (0, .ref 0), (2, .int (nI (p + s))), (4, .int (nI (p + s))), (5, .int (nI (stW.getD w 0 + s)))] : List (Nat × Value))) hz1) ?_
                            have hz2 : (nI (p + s)) = nI (p + mxN n t p (w + 1)) := congrArg nI (by rw [mx_s, es, if_pos (by omega)])
                            refine j_L (congrArg (fun zz9 : Int32 => ([(3, .int (nI (w + 1))), (1, .int (nI (stW.getD (w + 1) 0))), (0, .ref 0), (2, .int zz9), (4, .int (nI (p + s))), (5, .int (nI (stW.getD w 0 + s)))] : List (Nat × Value))) hz2) ?_
                            exact j_sub (jk_pick [2, 1, 3, 0] rfl) (ih2 (w + 1) (by omega) (by omega) (wm_n hnone (fun z => absurd ((lw_e w hw9).2) (by rw [← z, es]; assumption))))
                          · refine j_iinc 1 (nI ((stW.getD w 0 + r) + 1)) (L' := [(1, .int (nI ((stW.getD w 0 + r) + 1))), (0, .ref 0), (2, .int (nI (p + s))), (3, .int (nI w)), (4, .int (nI (p + s))), (5, .int (nI (stW.getD w 0 + s)))]) dX11_word_115 rfl (inc1 (stW.getD w 0 + r)) (by decide) rfl ?_
                            refine j_goto (tgt := 106) dX11_word_118 rfl ?_
                            exact j_sub (jk_pick [1, 0, 2, 3, 4, 5] rfl) (ih29 (r + 1) (by have := lw_n0 hw9 hr (by assumption); omega) (by have := lw_n0 hw9 hr (by assumption); omega))
                      exact j_sub (jk_pick [1, 2, 0, 3, 4, 5] rfl) (lp30 _ 0 (Nat.lt_succ_self _) (Nat.zero_le _))
                  · exact absurd c22 c8
                · refine j_iinc 4 (nI ((p + s) + 1)) (L' := [(4, .int (nI ((p + s) + 1))), (0, .ref 0), (1, .int (nI (stW.getD w 0))), (2, .int (nI (p + mxN n t p w))), (3, .int (nI w)), (5, .int (nI (stW.getD w 0 + s)))]) dX11_word_66 rfl (inc1 (p + s)) (by decide) rfl ?_
                  refine j_iinc 5 (nI ((stW.getD w 0 + s) + 1)) (L' := [(5, .int (nI ((stW.getD w 0 + s) + 1))), (4, .int (nI ((p + s) + 1))), (0, .ref 0), (1, .int (nI (stW.getD w 0))), (2, .int (nI (p + mxN n t p w))), (3, .int (nI w))]) dX11_word_69 rfl (inc1 (stW.getD w 0 + s)) (by decide) rfl ?_
                  refine j_goto (tgt := 24) dX11_word_72 rfl ?_
                  exact j_sub (jk_pick [2, 3, 4, 5, 1, 0] rfl) (ih6 (s + 1) (by have := lw_n0 hw9 hs (by assumption); omega) (by have := lw_n0 hw9 hs (by assumption); omega) ((mmf_t (by have := lw_n0 hw9 hs (by assumption); omega) (by assumption) ⟨by omega, by assumption⟩).symm.trans hm))
        exact j_sub (jk_pick [2, 3, 4, 5, 1, 0] rfl) (lp7 _ 0 (Nat.lt_succ_self _) (Nat.zero_le _) rfl)
  exact j_sub (jk_pick [3, 2, 1, 0] rfl) (lp3 _ 0 (Nat.lt_succ_self _) (by omega) rfl)
set_option maxRecDepth 20000 in
set_option maxHeartbeats 4000000 in
theorem T_wordN {d : Nat} {M : jk_M} (hM : WM M) {b n : Nat} {t : Nat → Int32} (rx : RX M b n t) {p : Nat} (hp : M.2.1 0 31 = nI p) (hpn : p ≤ 1000) (hv : wmN n t p 10 = none) : J Fr_X11_word d 0 0 0 [(0, .ref 0)] [] M (jk_is (some (.int (-1))) (jk_wI M 0 34 (nI (p + mxN n t p 10)))) := by
  refine j_post (fun Q hQ => ?_)
  have hb := rx.1
  have hn := rx.2.1
  have hm10 := mx10 (n := n) (t := t) (p := p) 10 (by omega)
  refine j_iconst 0 dX11_word_0 ic_0 ?_
  refine j_istore_n (L' := [(1, .int 0), (0, .ref 0)]) dX11_word_1 (by decide) rfl ?_
  refine j_aload_n 1 dX11_word_2 rfl ?_
  refine j_getv (nI p) dX11_word_3 fX11_193 (shM hM sgM_0) rfl hp ?_
  refine j_istore_n (L' := [(2, .int (nI p)), (1, .int 0), (0, .ref 0)]) dX11_word_6 (by decide) rfl ?_
  refine j_iconst 0 dX11_word_7 ic_0 ?_
  refine j_istore_n (L' := [(3, .int 0), (2, .int (nI p)), (1, .int 0), (0, .ref 0)]) dX11_word_8 (by decide) rfl ?_
  refine j_L (congrArg (fun zz9 : Int32 => ([(3, .int 0), (2, .int (nI p)), (1, .int zz9), (0, .ref 0)] : List (Nat × Value))) (show (0 : Int32) = nI (stW.getD 0 0) from rfl)) ?_
  refine j_L (congrArg (fun zz9 : Int32 => ([(3, .int 0), (2, .int zz9), (1, .int (nI (stW.getD 0 0))), (0, .ref 0)] : List (Nat × Value))) (show nI p = nI (p + mxN n t p 0) from rfl)) ?_
  have lp3 : ∀ (k1 : Nat) (w : Nat), 10 - w < k1 → (w ≤ 10) → (wmN n t p w = none) → J Fr_X11_word d 0 0 9 [(0, .ref 0), (1, .int (nI (stW.getD w 0))), (2, .int (nI (p + mxN n t p w))), (3, .int (nI w))] [] M Q := by
    intro k1
    induction k1 with
    | zero => intro w hk; exact absurd hk (Nat.not_lt_zero _)
    | succ k1 ih2 =>
      intro w hk1 hi hnone
      refine j_iload_n 3 dX11_word_9 rfl ?_
      refine j_bipush 10 dX11_word_10 bp_10 ?_
      refine j_icmp_geN (tgt := 130) w 10 dX11_word_12 rfl (by omega) (by omega) (fun c4 => ?_) (fun c4 => ?_)
      · refine j_aload_n 0 dX11_word_130 rfl ?_
        refine j_iload_n 2 dX11_word_131 rfl ?_
        refine j_put dX11_word_132 fX11_190 (shM hM sgM_0) rfl ?_
        refine j_iconst (-1) dX11_word_135 ic_n1 ?_
        refine j_iret dX11_word_136 rfl ?_
        have e : w = 10 := by omega
        subst e
        exact hQ _ _ ⟨rfl, rfl⟩
      · refine j_aload_n 0 dX11_word_15 rfl ?_
        refine j_getv (nI p) dX11_word_16 fX11_193 (shM hM sgM_0) rfl hp ?_
        refine j_istore (L' := [(4, .int (nI p)), (0, .ref 0), (1, .int (nI (stW.getD w 0))), (2, .int (nI (p + mxN n t p w))), (3, .int (nI w))]) dX11_word_19 (by decide) rfl ?_
        refine j_iload_n 2 dX11_word_21 rfl ?_
        refine j_istore (L' := [(5, .int (nI (stW.getD w 0))), (4, .int (nI p)), (0, .ref 0), (1, .int (nI (stW.getD w 0))), (2, .int (nI (p + mxN n t p w))), (3, .int (nI w))]) dX11_word_22 (by decide) rfl ?_
        have hw9 : w < 10 := by omega
        have hst := st_b w hw9
        have h9 := sL9 w hw9
        have hmw := mx10 (n := n) (t := t) (p := p) w (by omega)
        refine j_L (congrArg (fun zz9 : Int32 => ([(5, .int (nI (stW.getD w 0))), (4, .int zz9), (0, .ref 0), (1, .int (nI (stW.getD w 0))), (2, .int (nI (p + mxN n t p w))), (3, .int (nI w))] : List (Nat × Value))) (show nI p = nI (p + 0) from rfl)) ?_
        refine j_L (congrArg (fun zz9 : Int32 => ([(5, .int zz9), (4, .int (nI (p + 0))), (0, .ref 0), (1, .int (nI (stW.getD w 0))), (2, .int (nI (p + mxN n t p w))), (3, .int (nI w))] : List (Nat × Value))) (show nI (stW.getD w 0) = nI (stW.getD w 0 + 0) from rfl)) ?_
        have lp7 : ∀ (k5 : Nat) (s : Nat), jk_sL.getD w 0 + 1 - s < k5 → (s ≤ jk_sL.getD w 0 + 1) → (mmf n t p w (11 - s) s = mm n t p w) → J Fr_X11_word d 0 0 24 [(0, .ref 0), (1, .int (nI (stW.getD w 0))), (2, .int (nI (p + mxN n t p w))), (3, .int (nI w)), (4, .int (nI (p + s))), (5, .int (nI (stW.getD w 0 + s)))] [] M Q := by
          intro k5
          induction k5 with
          | zero => intro s hk; exact absurd hk (Nat.not_lt_zero _)
          | succ k5 ih6 =>
            intro s hk5 hs hm
            refine j_aload_n 0 dX11_word_24 rfl ?_
            refine j_getr (q := 19) dX11_word_25 fX11_81 (shM hM sgM_0) rfl (rfM hM rfM_0_27) ?_
            refine j_iload 5 dX11_word_28 rfl ?_
            refine j_ialdN (stW.getD w 0 + s) dX11_word_30 (shM hM sgM_19) (by omega) (by omega) ?_
            refine j_topi (lw w s) (rx.2.2.2.2.2.1 _ (by omega)) ?_
            refine j_if_eq (tgt := 75) dX11_word_31 rfl (fun c8 => ?_) (fun c8 => ?_)
            · have es : mm n t p w = s := hm.symm.trans (mmf_f (Or.inl (by assumption)))
              refine j_aload_n 0 dX11_word_75 rfl ?_
              refine j_getr (q := 19) dX11_word_76 fX11_81 (shM hM sgM_0) rfl (rfM hM rfM_0_27) ?_
              refine j_iload 5 dX11_word_79 rfl ?_
              refine j_ialdN (stW.getD w 0 + s) dX11_word_81 (shM hM sgM_19) (by omega) (by omega) ?_
              refine j_topi (lw w s) (rx.2.2.2.2.2.1 _ (by omega)) ?_
              refine j_if_ne (tgt := 93) dX11_word_82 rfl (fun c9 => ?_) (fun c9 => ?_)
              · exact absurd c8 c9
              · refine j_aload_n 0 dX11_word_85 rfl ?_
                refine j_iload 4 dX11_word_86 rfl ?_
                refine j_put dX11_word_88 fX11_193 (shM hM sgM_0) rfl ?_
                refine j_iload_n 3 dX11_word_91 rfl ?_
                refine j_iret dX11_word_92 rfl ?_
                have el := lw_0 hw9 hs (by assumption)
                have hy := wm_st (wm_y hnone (es.trans el)) (10 - (w + 1))
                rw [show w + 1 + (10 - (w + 1)) = 10 by omega, hv] at hy
                cases hy
            · refine j_iload 4 dX11_word_34 rfl ?_
              refine j_aload_n 0 dX11_word_36 rfl ?_
              refine j_getv (nI n) dX11_word_37 fX11_196 (shM hM sgM_0) rfl rx.2.2.2.1 ?_
              refine j_icmp_geN (tgt := 75) (p + s) n dX11_word_40 rfl (by omega) (by omega) (fun c10 => ?_) (fun c10 => ?_)
              · have es : mm n t p w = s := hm.symm.trans (mmf_f (Or.inr (fun z => by have z1 := z.1; have z2 := z.2; first | omega | exact absurd z2 (by assumption))))
                refine j_aload_n 0 dX11_word_75 rfl ?_
                refine j_getr (q := 19) dX11_word_76 fX11_81 (shM hM sgM_0) rfl (rfM hM rfM_0_27) ?_
                refine j_iload 5 dX11_word_79 rfl ?_
                refine j_ialdN (stW.getD w 0 + s) dX11_word_81 (shM hM sgM_19) (by omega) (by omega) ?_
                refine j_topi (lw w s) (rx.2.2.2.2.2.1 _ (by omega)) ?_
                refine j_if_ne (tgt := 93) dX11_word_82 rfl (fun c11 => ?_) (fun c11 => ?_)
                · refine j_iload 4 dX11_word_93 rfl ?_
                  refine j_iload_n 2 dX11_word_95 rfl ?_
                  refine j_icmp_leN (tgt := 104) (p + s) (p + mxN n t p w) dX11_word_96 rfl (by omega) (by omega) (fun c12 => ?_) (fun c12 => ?_)
                  · refine j_iload_n 2 dX11_word_104 rfl ?_
                    refine j_istore_n (L' := [(2, .int (nI (p + mxN n t p w))), (0, .ref 0), (1, .int (nI (stW.getD w 0))), (3, .int (nI w)), (4, .int (nI (p + s))), (5, .int (nI (stW.getD w 0 + s)))]) dX11_word_105 (by decide) rfl ?_
                    refine j_L (congrArg (fun zz9 : Int32 => ([(2, .int (nI (p + mxN n t p w))), (0, .ref 0), (1, .int zz9), (3, .int (nI w)), (4, .int (nI (p + s))), (5, .int (nI (stW.getD w 0 + s)))] : List (Nat × Value))) (show nI (stW.getD w 0) = nI (stW.getD w 0 + 0) from rfl)) ?_
                    have lp15 : ∀ (k13 : Nat) (r : Nat), jk_sL.getD w 0 + 1 - r < k13 → (r ≤ jk_sL.getD w 0 + 1) → J Fr_X11_word d 0 0 106 [(0, .ref 0), (1, .int (nI (stW.getD w 0 + r))), (2, .int (nI (p + mxN n t p w))), (3, .int (nI w)), (4, .int (nI (p + s))), (5, .int (nI (stW.getD w 0 + s)))] [] M Q := by
                      intro k13
                      induction k13 with
                      | zero => intro r hk; exact absurd hk (Nat.not_lt_zero _)
                      | succ k13 ih14 =>
                        intro r hk13 hr
                        refine j_aload_n 0 dX11_word_106 rfl ?_
                        refine j_getr (q := 19) dX11_word_107 fX11_81 (shM hM sgM_0) rfl (rfM hM rfM_0_27) ?_
                        refine j_iload_n 1 dX11_word_110 rfl ?_
                        refine j_ialdN (stW.getD w 0 + r) dX11_word_111 (shM hM sgM_19) (by omega) (by omega) ?_
                        refine j_topi (lw w r) (rx.2.2.2.2.2.1 _ (by omega)) ?_
                        refine j_if_eq (tgt := 121) dX11_word_112 rfl (fun c16 => ?_) (fun c16 => ?_)
                        · refine j_iinc 1 (nI ((stW.getD w 0 + r) + 1)) (L' := [(1, .int (nI ((stW.getD w 0 + r) + 1))), (0, .ref 0), (2, .int (nI (p + mxN n t p w))), (3, .int (nI w)), (4, .int (nI (p + s))), (5, .int (nI (stW.getD w 0 + s)))]) dX11_word_121 rfl (inc1 (stW.getD w 0 + r)) (by decide) rfl ?_
                          refine j_iinc 3 (nI (w + 1)) (L' := [(3, .int (nI (w + 1))), (1, .int (nI ((stW.getD w 0 + r) + 1))), (0, .ref 0), (2, .int (nI (p + mxN n t p w))), (4, .int (nI (p + s))), (5, .int (nI (stW.getD w 0 + s)))]) dX11_word_124 rfl (inc1 w) (by decide) rfl ?_
                          refine j_goto (tgt := 9) dX11_word_127 rfl ?_
                          have er := lw_0 hw9 hr (by assumption)
                          have hz1 : (nI ((stW.getD w 0 + r) + 1)) = nI (stW.getD (w + 1) 0) := congrArg nI (by rw [← st_s w hw9]; omega)
                          refine j_L (congrArg (fun zz9 : Int32 => ([(3, .int (nI (w + 1))), (1, .int zz9), (0, .ref 0), (2, .int (nI (p + mxN n t p w))), (4, .int (nI (p + s))), (5, .int (nI (stW.getD w 0 + s)))] : List (Nat × Value))) hz1) ?_
                          have hz2 : (nI (p + mxN n t p w)) = nI (p + mxN n t p (w + 1)) := congrArg nI (by rw [mx_s, es, if_neg (by omega)])
                          refine j_L (congrArg (fun zz9 : Int32 => ([(3, .int (nI (w + 1))), (1, .int (nI (stW.getD (w + 1) 0))), (0, .ref 0), (2, .int zz9), (4, .int (nI (p + s))), (5, .int (nI (stW.getD w 0 + s)))] : List (Nat × Value))) hz2) ?_
                          exact j_sub (jk_pick [2, 1, 3, 0] rfl) (ih2 (w + 1) (by omega) (by omega) (wm_n hnone (fun z => absurd ((lw_e w hw9).2) (by rw [← z, es]; assumption))))
                        · refine j_iinc 1 (nI ((stW.getD w 0 + r) + 1)) (L' := [(1, .int (nI ((stW.getD w 0 + r) + 1))), (0, .ref 0), (2, .int (nI (p + mxN n t p w))), (3, .int (nI w)), (4, .int (nI (p + s))), (5, .int (nI (stW.getD w 0 + s)))]) dX11_word_115 rfl (inc1 (stW.getD w 0 + r)) (by decide) rfl ?_
                          refine j_goto (tgt := 106) dX11_word_118 rfl ?_
                          exact j_sub (jk_pick [1, 0, 2, 3, 4, 5] rfl) (ih14 (r + 1) (by have := lw_n0 hw9 hr (by assumption); omega) (by have := lw_n0 hw9 hr (by assumption); omega))
                    exact j_sub (jk_pick [1, 2, 0, 3, 4, 5] rfl) (lp15 _ 0 (Nat.lt_succ_self _) (Nat.zero_le _))
                  · refine j_iload 4 dX11_word_99 rfl ?_
                    refine j_goto (tgt := 105) dX11_word_101 rfl ?_
                    refine j_istore_n (L' := [(2, .int (nI (p + s))), (0, .ref 0), (1, .int (nI (stW.getD w 0))), (3, .int (nI w)), (4, .int (nI (p + s))), (5, .int (nI (stW.getD w 0 + s)))]) dX11_word_105 (by decide) rfl ?_
                    refine j_L (congrArg (fun zz9 : Int32 => ([(2, .int (nI (p + s))), (0, .ref 0), (1, .int zz9), (3, .int (nI w)), (4, .int (nI (p + s))), (5, .int (nI (stW.getD w 0 + s)))] : List (Nat × Value))) (show nI (stW.getD w 0) = nI (stW.getD w 0 + 0) from rfl)) ?_
                    have lp19 : ∀ (k17 : Nat) (r : Nat), jk_sL.getD w 0 + 1 - r < k17 → (r ≤ jk_sL.getD w 0 + 1) → J Fr_X11_word d 0 0 106 [(0, .ref 0), (1, .int (nI (stW.getD w 0 + r))), (2, .int (nI (p + s))), (3, .int (nI w)), (4, .int (nI (p + s))), (5, .int (nI (stW.getD w 0 + s)))] [] M Q := by
                      intro k17
                      induction k17 with
                      | zero => intro r hk; exact absurd hk (Nat.not_lt_zero _)
                      | succ k17 ih18 =>
                        intro r hk17 hr
                        refine j_aload_n 0 dX11_word_106 rfl ?_
                        refine j_getr (q := 19) dX11_word_107 fX11_81 (shM hM sgM_0) rfl (rfM hM rfM_0_27) ?_
                        refine j_iload_n 1 dX11_word_110 rfl ?_
                        refine j_ialdN (stW.getD w 0 + r) dX11_word_111 (shM hM sgM_19) (by omega) (by omega) ?_
                        refine j_topi (lw w r) (rx.2.2.2.2.2.1 _ (by omega)) ?_
                        refine j_if_eq (tgt := 121) dX11_word_112 rfl (fun c20 => ?_) (fun c20 => ?_)
                        · refine j_iinc 1 (nI ((stW.getD w 0 + r) + 1)) (L' := [(1, .int (nI ((stW.getD w 0 + r) + 1))), (0, .ref 0), (2, .int (nI (p + s))), (3, .int (nI w)), (4, .int (nI (p + s))), (5, .int (nI (stW.getD w 0 + s)))]) dX11_word_121 rfl (inc1 (stW.getD w 0 + r)) (by decide) rfl ?_
                          refine j_iinc 3 (nI (w + 1)) (L' := [(3, .int (nI (w + 1))), (1, .int (nI ((stW.getD w 0 + r) + 1))), (0, .ref 0), (2, .int (nI (p + s))), (4, .int (nI (p + s))), (5, .int (nI (stW.getD w 0 + s)))]) dX11_word_124 rfl (inc1 w) (by decide) rfl ?_
                          refine j_goto (tgt := 9) dX11_word_127 rfl ?_
                          have er := lw_0 hw9 hr (by assumption)
                          have hz1 : (nI ((stW.getD w 0 + r) + 1)) = nI (stW.getD (w + 1) 0) := congrArg nI (by rw [← st_s w hw9]; omega)
                          refine j_L (congrArg (fun zz9 : Int32 => ([(3, .int (nI (w + 1))), (1, .int zz9), (0, .ref 0), (2, .int (nI (p + s))), (4, .int (nI (p + s))), (5, .int (nI (stW.getD w 0 + s)))] : List (Nat × Value))) hz1) ?_
                          have hz2 : (nI (p + s)) = nI (p + mxN n t p (w + 1)) := congrArg nI (by rw [mx_s, es, if_pos (by omega)])
                          refine j_L (congrArg (fun zz9 : Int32 => ([(3, .int (nI (w + 1))), (1, .int (nI (stW.getD (w + 1) 0))), (0, .ref 0), (2, .int zz9), (4, .int (nI (p + s))), (5, .int (nI (stW.getD w 0 + s)))] : List (Nat × Value))) hz2) ?_
                          exact j_sub (jk_pick [2, 1, 3, 0] rfl) (ih2 (w + 1) (by omega) (by omega) (wm_n hnone (fun z => absurd ((lw_e w hw9).2) (by rw [← z, es]; assumption))))
                        · refine j_iinc 1 (nI ((stW.getD w 0 + r) + 1)) (L' := [(1, .int (nI ((stW.getD w 0 + r) + 1))), (0, .ref 0), (2, .int (nI (p + s))), (3, .int (nI w)), (4, .int (nI (p + s))), (5, .int (nI (stW.getD w 0 + s)))]) dX11_word_115 rfl (inc1 (stW.getD w 0 + r)) (by decide) rfl ?_
                          refine j_goto (tgt := 106) dX11_word_118 rfl ?_
                          exact j_sub (jk_pick [1, 0, 2, 3, 4, 5] rfl) (ih18 (r + 1) (by have := lw_n0 hw9 hr (by assumption); omega) (by have := lw_n0 hw9 hr (by assumption); omega))
                    exact j_sub (jk_pick [1, 2, 0, 3, 4, 5] rfl) (lp19 _ 0 (Nat.lt_succ_self _) (Nat.zero_le _))
                · exact absurd c11 c8
              · refine j_aload_n 0 dX11_word_43 rfl ?_
                refine j_getr (q := 17) dX11_word_44 fX11_74 (shM hM sgM_0) rfl (rfM hM rfM_0_25) ?_
                refine j_aload_n 0 dX11_word_47 rfl ?_
                refine j_getv (nI b) dX11_word_48 fX11_199 (shM hM sgM_0) rfl rx.2.2.1 ?_
                refine j_iload 4 dX11_word_51 rfl ?_
                refine j_iaddN b (p + s) dX11_word_53 ?_
                refine j_laldN (b + (p + s)) dX11_word_54 (shM hM sgM_17) (by omega) (by omega) ?_
                refine j_l2i dX11_word_55 ?_
                refine j_topi (t (p + s)) (rx.2.2.2.2.1 _ (by omega)) ?_
                refine j_aload_n 0 dX11_word_56 rfl ?_
                refine j_getr (q := 19) dX11_word_57 fX11_81 (shM hM sgM_0) rfl (rfM hM rfM_0_27) ?_
                refine j_iload 5 dX11_word_60 rfl ?_
                refine j_ialdN (stW.getD w 0 + s) dX11_word_62 (shM hM sgM_19) (by omega) (by omega) ?_
                refine j_topi (lw w s) (rx.2.2.2.2.2.1 _ (by omega)) ?_
                refine j_icmp_ne (tgt := 75) dX11_word_63 rfl (fun c21 => ?_) (fun c21 => ?_)
                · have es : mm n t p w = s := hm.symm.trans (mmf_f (Or.inr (fun z => by have z1 := z.1; have z2 := z.2; first | omega | exact absurd z2 (by assumption))))
                  refine j_aload_n 0 dX11_word_75 rfl ?_
                  refine j_getr (q := 19) dX11_word_76 fX11_81 (shM hM sgM_0) rfl (rfM hM rfM_0_27) ?_
                  refine j_iload 5 dX11_word_79 rfl ?_
                  refine j_ialdN (stW.getD w 0 + s) dX11_word_81 (shM hM sgM_19) (by omega) (by omega) ?_
                  refine j_topi (lw w s) (rx.2.2.2.2.2.1 _ (by omega)) ?_
                  refine j_if_ne (tgt := 93) dX11_word_82 rfl (fun c22 => ?_) (fun c22 => ?_)
                  · refine j_iload 4 dX11_word_93 rfl ?_
                    refine j_iload_n 2 dX11_word_95 rfl ?_
                    refine j_icmp_leN (tgt := 104) (p + s) (p + mxN n t p w) dX11_word_96 rfl (by omega) (by omega) (fun c23 => ?_) (fun c23 => ?_)
                    · refine j_iload_n 2 dX11_word_104 rfl ?_
                      refine j_istore_n (L' := [(2, .int (nI (p + mxN n t p w))), (0, .ref 0), (1, .int (nI (stW.getD w 0))), (3, .int (nI w)), (4, .int (nI (p + s))), (5, .int (nI (stW.getD w 0 + s)))]) dX11_word_105 (by decide) rfl ?_
                      refine j_L (congrArg (fun zz9 : Int32 => ([(2, .int (nI (p + mxN n t p w))), (0, .ref 0), (1, .int zz9), (3, .int (nI w)), (4, .int (nI (p + s))), (5, .int (nI (stW.getD w 0 + s)))] : List (Nat × Value))) (show nI (stW.getD w 0) = nI (stW.getD w 0 + 0) from rfl)) ?_
                      have lp26 : ∀ (k24 : Nat) (r : Nat), jk_sL.getD w 0 + 1 - r < k24 → (r ≤ jk_sL.getD w 0 + 1) → J Fr_X11_word d 0 0 106 [(0, .ref 0), (1, .int (nI (stW.getD w 0 + r))), (2, .int (nI (p + mxN n t p w))), (3, .int (nI w)), (4, .int (nI (p + s))), (5, .int (nI (stW.getD w 0 + s)))] [] M Q := by
                        intro k24
                        induction k24 with
                        | zero => intro r hk; exact absurd hk (Nat.not_lt_zero _)
                        | succ k24 ih25 =>
                          intro r hk24 hr
                          refine j_aload_n 0 dX11_word_106 rfl ?_
                          refine j_getr (q := 19) dX11_word_107 fX11_81 (shM hM sgM_0) rfl (rfM hM rfM_0_27) ?_
                          refine j_iload_n 1 dX11_word_110 rfl ?_
                          refine j_ialdN (stW.getD w 0 + r) dX11_word_111 (shM hM sgM_19) (by omega) (by omega) ?_
                          refine j_topi (lw w r) (rx.2.2.2.2.2.1 _ (by omega)) ?_
                          refine j_if_eq (tgt := 121) dX11_word_112 rfl (fun c27 => ?_) (fun c27 => ?_)
                          · refine j_iinc 1 (nI ((stW.getD w 0 + r) + 1)) (L' := [(1, .int (nI ((stW.getD w 0 + r) + 1))), (0, .ref 0), (2, .int (nI (p + mxN n t p w))), (3, .int (nI w)), (4, .int (nI (p + s))), (5, .int (nI (stW.getD w 0 + s)))]) dX11_word_121 rfl (inc1 (stW.getD w 0 + r)) (by decide) rfl ?_
                            refine j_iinc 3 (nI (w + 1)) (L' := [(3, .int (nI (w + 1))), (1, .int (nI ((stW.getD w 0 + r) + 1))), (0, .ref 0), (2, .int (nI (p + mxN n t p w))), (4, .int (nI (p + s))), (5, .int (nI (stW.getD w 0 + s)))]) dX11_word_124 rfl (inc1 w) (by decide) rfl ?_
                            refine j_goto (tgt := 9) dX11_word_127 rfl ?_
                            have er := lw_0 hw9 hr (by assumption)
                            have hz1 : (nI ((stW.getD w 0 + r) + 1)) = nI (stW.getD (w + 1) 0) := congrArg nI (by rw [← st_s w hw9]; omega)
                            refine j_L (congrArg (fun zz9 : Int32 => ([(3, .int (nI (w + 1))), (1, .int zz9), (0, .ref 0), (2, .int (nI (p + mxN n t p w))), (4, .int (nI (p + s))), (5, .int (nI (stW.getD w 0 + s)))] : List (Nat × Value))) hz1) ?_
                            have hz2 : (nI (p + mxN n t p w)) = nI (p + mxN n t p (w + 1)) := congrArg nI (by rw [mx_s, es, if_neg (by omega)])
                            refine j_L (congrArg (fun zz9 : Int32 => ([(3, .int (nI (w + 1))), (1, .int (nI (stW.getD (w + 1) 0))), (0, .ref 0), (2, .int zz9), (4, .int (nI (p + s))), (5, .int (nI (stW.getD w 0 + s)))] : List (Nat × Value))) hz2) ?_
                            exact j_sub (jk_pick [2, 1, 3, 0] rfl) (ih2 (w + 1) (by omega) (by omega) (wm_n hnone (fun z => absurd ((lw_e w hw9).2) (by rw [← z, es]; assumption))))
                          · refine j_iinc 1 (nI ((stW.getD w 0 + r) + 1)) (L' := [(1, .int (nI ((stW.getD w 0 + r) + 1))), (0, .ref 0), (2, .int (nI (p + mxN n t p w))), (3, .int (nI w)), (4, .int (nI (p + s))), (5, .int (nI (stW.getD w 0 + s)))]) dX11_word_115 rfl (inc1 (stW.getD w 0 + r)) (by decide) rfl ?_
                            refine j_goto (tgt := 106) dX11_word_118 rfl ?_
                            exact j_sub (jk_pick [1, 0, 2, 3, 4, 5] rfl) (ih25 (r + 1) (by have := lw_n0 hw9 hr (by assumption); omega) (by have := lw_n0 hw9 hr (by assumption); omega))
                      exact j_sub (jk_pick [1, 2, 0, 3, 4, 5] rfl) (lp26 _ 0 (Nat.lt_succ_self _) (Nat.zero_le _))
                    · refine j_iload 4 dX11_word_99 rfl ?_
                      refine j_goto (tgt := 105) dX11_word_101 rfl ?_
                      refine j_istore_n (L' := [(2, .int (nI (p + s))), (0, .ref 0), (1, .int (nI (stW.getD w 0))), (3, .int (nI w)), (4, .int (nI (p + s))), (5, .int (nI (stW.getD w 0 + s)))]) dX11_word_105 (by decide) rfl ?_
                      refine j_L (congrArg (fun zz9 : Int32 => ([(2, .int (nI (p + s))), (0, .ref 0), (1, .int zz9), (3, .int (nI w)), (4, .int (nI (p + s))), (5, .int (nI (stW.getD w 0 + s)))] : List (Nat × Value))) (show nI (stW.getD w 0) = nI (stW.getD w 0 + 0) from rfl)) ?_
                      have lp30 : ∀ (k28 : Nat) (r : Nat), jk_sL.getD w 0 + 1 - r < k28 → (r ≤ jk_sL.getD w 0 + 1) → J Fr_X11_word d 0 0 106 [(0, .ref 0), (1, .int (nI (stW.getD w 0 + r))), (2, .int (nI (p + s))), (3, .int (nI w)), (4, .int (nI (p + s))), (5, .int (nI (stW.getD w 0 + s)))] [] M Q := by
                        intro k28
                        induction k28 with
                        | zero => intro r hk; exact absurd hk (Nat.not_lt_zero _)
                        | succ k28 ih29 =>
                          intro r hk28 hr
                          refine j_aload_n 0 dX11_word_106 rfl ?_
                          refine j_getr (q := 19) dX11_word_107 fX11_81 (shM hM sgM_0) rfl (rfM hM rfM_0_27) ?_
                          refine j_iload_n 1 dX11_word_110 rfl ?_
                          refine j_ialdN (stW.getD w 0 + r) dX11_word_111 (shM hM sgM_19) (by omega) (by omega) ?_
                          refine j_topi (lw w r) (rx.2.2.2.2.2.1 _ (by omega)) ?_
                          refine j_if_eq (tgt := 121) dX11_word_112 rfl (fun c31 => ?_) (fun c31 => ?_)
                          · refine j_iinc 1 (nI ((stW.getD w 0 + r) + 1)) (L' := [(1, .int (nI ((stW.getD w 0 + r) + 1))), (0, .ref 0), (2, .int (nI (p + s))), (3, .int (nI w)), (4, .int (nI (p + s))), (5, .int (nI (stW.getD w 0 + s)))]) dX11_word_121 rfl (inc1 (stW.getD w 0 + r)) (by decide) rfl ?_
                            refine j_iinc 3 (nI (w + 1)) (L' := [(3, .int (nI (w + 1))), (1, .int (nI ((stW.getD w 0 + r) + 1))), (0, .ref 0), (2, .int (nI (p + s))), (4, .int (nI (p + s))), (5, .int (nI (stW.getD w 0 + s)))]) dX11_word_124 rfl (inc1 w) (by decide) rfl ?_
                            refine j_goto (tgt := 9) dX11_word_127 rfl ?_
                            have er := lw_0 hw9 hr (by assumption)
                            have hz1 : (nI ((stW.getD w 0 + r) + 1)) = nI (stW.getD (w + 1) 0) := congrArg nI (by rw [← st_s w hw9]; omega)
                            refine j_L (congrArg (fun zz9 : Int32 => ([(3, .int (nI (w + 1))), (1, .int zz9), (0, .ref 0), (2, .int (nI (p + s))), (4, .int (nI (p + s))), (5, .int (nI (stW.getD w 0 + s)))] : List (Nat × Value))) hz1) ?_
                            have hz2 : (nI (p + s)) = nI (p + mxN n t p (w + 1)) := congrArg nI (by rw [mx_s, es, if_pos (by omega)])
                            refine j_L (congrArg (fun zz9 : Int32 => ([(3, .int (nI (w + 1))), (1, .int (nI (stW.getD (w + 1) 0))), (0, .ref 0), (2, .int zz9), (4, .int (nI (p + s))), (5, .int (nI (stW.getD w 0 + s)))] : List (Nat × Value))) hz2) ?_
                            exact j_sub (jk_pick [2, 1, 3, 0] rfl) (ih2 (w + 1) (by omega) (by omega) (wm_n hnone (fun z => absurd ((lw_e w hw9).2) (by rw [← z, es]; assumption))))
                          · refine j_iinc 1 (nI ((stW.getD w 0 + r) + 1)) (L' := [(1, .int (nI ((stW.getD w 0 + r) + 1))), (0, .ref 0), (2, .int (nI (p + s))), (3, .int (nI w)), (4, .int (nI (p + s))), (5, .int (nI (stW.getD w 0 + s)))]) dX11_word_115 rfl (inc1 (stW.getD w 0 + r)) (by decide) rfl ?_
                            refine j_goto (tgt := 106) dX11_word_118 rfl ?_
                            exact j_sub (jk_pick [1, 0, 2, 3, 4, 5] rfl) (ih29 (r + 1) (by have := lw_n0 hw9 hr (by assumption); omega) (by have := lw_n0 hw9 hr (by assumption); omega))
                      exact j_sub (jk_pick [1, 2, 0, 3, 4, 5] rfl) (lp30 _ 0 (Nat.lt_succ_self _) (Nat.zero_le _))
                  · exact absurd c22 c8
                · refine j_iinc 4 (nI ((p + s) + 1)) (L' := [(4, .int (nI ((p + s) + 1))), (0, .ref 0), (1, .int (nI (stW.getD w 0))), (2, .int (nI (p + mxN n t p w))), (3, .int (nI w)), (5, .int (nI (stW.getD w 0 + s)))]) dX11_word_66 rfl (inc1 (p + s)) (by decide) rfl ?_
                  refine j_iinc 5 (nI ((stW.getD w 0 + s) + 1)) (L' := [(5, .int (nI ((stW.getD w 0 + s) + 1))), (4, .int (nI ((p + s) + 1))), (0, .ref 0), (1, .int (nI (stW.getD w 0))), (2, .int (nI (p + mxN n t p w))), (3, .int (nI w))]) dX11_word_69 rfl (inc1 (stW.getD w 0 + s)) (by decide) rfl ?_
                  refine j_goto (tgt := 24) dX11_word_72 rfl ?_
                  exact j_sub (jk_pick [2, 3, 4, 5, 1, 0] rfl) (ih6 (s + 1) (by have := lw_n0 hw9 hs (by assumption); omega) (by have := lw_n0 hw9 hs (by assumption); omega) ((mmf_t (by have := lw_n0 hw9 hs (by assumption); omega) (by assumption) ⟨by omega, by assumption⟩).symm.trans hm))
        exact j_sub (jk_pick [2, 3, 4, 5, 1, 0] rfl) (lp7 _ 0 (Nat.lt_succ_self _) (Nat.zero_le _) rfl)
  exact j_sub (jk_pick [3, 2, 1, 0] rfl) (lp3 _ 0 (Nat.lt_succ_self _) (by omega) rfl)
