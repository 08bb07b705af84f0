/-! readAll -/
def M0R (M : jk_M) (b : Nat) : jk_M := jk_wI (jk_wI (jk_wR M 101 2 (some b)) 101 3 0) 101 4 (-1)
theorem M0R_g {M : jk_M} {b : Nat} : Sg PRd (fun _ => False) M (M0R M b) := ((Sg.rf.wr).w (Or.inr (Or.inl rfl))).w (Or.inr (Or.inl rfl))
theorem Sg.tl {P PL : Nat → Prop} {M M' : jk_M} {b : Nat} (h : Sg P PL M M') (hb : ¬ P b) (hl : ¬ PL (b + 1)) (i : Int32) : shTl M' b i = shTl M b i ∧ (shHas M' b i ↔ shHas M b i) ∧ shRd M' b i = shRd M b i := by
  have e1 : M'.2.1 b = M.2.1 b := h.2.1 b hb
  have e2 : M'.2.2.1 (b + 1) = M.2.2.1 (b + 1) := h.2.2.1 _ hl
  have hh : shHas M' b i ↔ shHas M b i := by simp only [shHas, e1]
  by_cases z : shHas M b i
  · exact ⟨by rw [shTl_t z, shTl_t (hh.mpr z), e2], hh, by rw [shRd_t z, shRd_t (hh.mpr z), e2]⟩
  · exact ⟨by rw [shTl_f z, shTl_f (fun y => z (hh.mp y))], hh, by rw [shRd_f z, shRd_f (fun y => z (hh.mp y))]⟩
theorem PRdS {b : Nat} (hb : isS b) : ¬ PRd b := PRdP b hb.2.2.2 (fun e => hb.n102 e.symm)
theorem M0R_tx {M : jk_M} {b n : Nat} (hb : isS b) (hn : n ≤ 160) (hz : M.2.1 b 1 = nI n) : TX (M0R M b) b n (fun i => shTl M b (nI i)) := by
  refine ⟨hb, ?_, hn, ?_, fun i => (Sg.tl M0R_g (PRdS hb) (fun e => e) _).1⟩
  · simp [M0R, jk_wI, jk_wR, va_up]
  · rw [(M0R_g (M := M) (b := b)).2.1 b (PRdS hb)]; exact hz
theorem RdA1 {M : jk_M} {b : Nat} : M0R M b = jk_wI (jk_wI (jk_wR M 101 2 (some b)) 101 3 0) 101 4 (-1) := rfl
theorem P101H : ∀ q, HO 55 q → ¬ (q = 101) := fun q h e => by have := HO55 h; omega
theorem M0R_hv {M : jk_M} {b : Nat} {S : HS} (hd : hv M.2.1 55 = S) (ok : Sok S) : hv (M0R M b).2.1 55 = S := by
  have g : Sg (fun q => q = 101) (fun _ => False) M (M0R M b) := Sg.w (P := fun q => q = 101) (Sg.w (P := fun q => q = 101) (Sg.wr Sg.rf) (show (101 : Nat) = 101 from rfl)) (show (101 : Nat) = 101 from rfl)
  exact g.hv hd ok P101H
set_option maxRecDepth 20000 in
set_option maxHeartbeats 4000000 in
theorem T_X5_readAllS {d : Nat} {M : jk_M} {b n : Nat} {S : HS} (hC : WC M) (hb : isS b) (hn : n ≤ 160) (hz : M.2.1 b 1 = nI n) (hd : hv M.2.1 55 = S) (ok : Sok S) (T : HS) (m : Nat) (hR : rdL n (fun i => shTl M b (nI i)) 160 S 0 1 = .inr (T, m)) : J Fr_X5_readAll (d + 7) 0 0 0 [(0, .ref 101), (1, .ref b)] [] M (jk_ex (some (.int (nI m))) (fun M1 => Sg PRd (fun _ => False) M M1 ∧ hv M1.2.1 55 = T ∧ Sok T ∧ M1.2.1 101 4 = -1)) := by
  refine j_post (fun Q hQ => ?_)
  refine j_aload_n 1 dX5_readAll_0 rfl ?_
  refine j_ifnonnull (tgt := 6) dX5_readAll_1 rfl ?_
  refine j_aload_n 0 dX5_readAll_6 rfl ?_
  refine j_aload_n 1 dX5_readAll_7 rfl ?_
  refine j_putr dX5_readAll_8 fX5_18 (shC hC sgC_101) rfl ?_
  refine j_aload_n 0 dX5_readAll_11 rfl ?_
  refine j_iconst 0 dX5_readAll_12 ic_0 ?_
  refine j_put dX5_readAll_13 fX5_22 (shC ((Sg.wr (P := PRd) (PL := fun _ => False) Sg.rf).C hC) sgC_101) rfl ?_
  refine j_aload_n 0 dX5_readAll_16 rfl ?_
  refine j_iconst (-1) dX5_readAll_17 ic_n1 ?_
  refine j_put dX5_readAll_18 fX5_26 (shC (((Sg.wr (P := PRd) (PL := fun _ => False) Sg.rf).w (Or.inr (Or.inl rfl))).C hC) sgC_101) rfl ?_
  refine j_mem (M0R M b) rfl ?_
  refine j_iconst 1 dX5_readAll_21 ic_1 ?_
  refine j_istore_n (L' := [(2, .int 1), (0, .ref 101), (1, .ref b)]) dX5_readAll_22 (by decide) rfl ?_
  have hTX := M0R_tx hb hn hz
  have lp3 : ∀ (k1 : Nat) (k : Nat) (T1 : HS) (p : Nat) (M1 : jk_M), 161 - k < k1 → (1 ≤ k) → (k ≤ 161) → (rdL n (fun i => shTl M b (nI i)) (161 - k) T1 p k = rdL n (fun i => shTl M b (nI i)) 160 S 0 1) → (Sok T1) → (hv M1.2.1 55 = T1) → (M1.2.1 101 3 = nI p) → (p ≤ n) → (4 * (k - 1) ≤ p) → (M1.2.1 101 4 = -1) → (Sm PRd (M0R M b) M1) → J Fr_X5_readAll (d + 7) 0 0 23 [(0, .ref 101), (1, .ref b), (2, .int (nI k))] [] M1 Q := by
    intro k1
    induction k1 with
    | zero => intro k T1 p M1 hk; exact absurd hk (Nat.not_lt_zero _)
    | succ k1 ih2 =>
      intro k T1 p M1 hk1 hk1 hk hr ok1 hd1 hp1 hpn hk4 hfl hs1
      refine j_iload_n 2 dX5_readAll_23 rfl ?_
      refine j_sipush 160 dX5_readAll_24 sp_160 ?_
      refine j_icmp_gtN (tgt := 90) k 160 dX5_readAll_27 rfl (by omega) (by omega) (fun c4 => ?_) (fun c4 => ?_)
      · refine j_iconst (-1) dX5_readAll_90 ic_n1 ?_
        refine j_iret dX5_readAll_91 rfl ?_
        exfalso
        omega
      · refine j_aload_n 0 dX5_readAll_30 rfl ?_
        refine j_callV (kc := 0) (ks := 0) (a := 0) (b := 0) (d' := (d + 6)) (As := []) dX5_readAll_31 kX5_33 rfl (shC (Sm.C hs1 (M0R_g.C hC)) sgC_101) (by omega) rfl rfl rfl (Nat.le_of_ble_eq_true rfl) (Nat.le_of_ble_eq_true rfl) (T_X5_readItem (Sm.C hs1 (M0R_g.C hC)) (hTX.sm hs1 PRdP hTX.1.n102) hd1 ok1 p hp1 (by omega)) (kk_o (fun M5 hM6 => ?_) (fun M7 hM8 => ?_))
        · obtain ⟨z9T, z9q, z9e, z9s, z9d, z9p, z9f⟩ := hM6
          have z9s2 := Sm.tr hs1 z9s
          obtain ⟨z9o, z9l, z9n⟩ := itS_in ok1 hpn z9e
          obtain ⟨f, hf⟩ : ∃ f, 161 - k = f + 1 := ⟨160 - k, by omega⟩
          rw [hf] at hr
          refine j_if_ne (tgt := 39) dX5_readAll_34 rfl (fun c10 => ?_) (fun c10 => ?_)
          · refine j_aload_n 0 dX5_readAll_39 rfl ?_
            refine j_getv (nI z9q) dX5_readAll_40 fX5_22 (shC (Sm.C z9s2 (M0R_g.C hC)) sgC_101) rfl z9p ?_
            refine j_aload_n 0 dX5_readAll_43 rfl ?_
            have hrefs := (hTX.sm z9s2 PRdP hTX.1.n102).2.1
            refine j_getr (q := b) dX5_readAll_44 fX5_18 (shC (Sm.C z9s2 (M0R_g.C hC)) sgC_101) rfl hrefs ?_
            refine j_getv (nI n) dX5_readAll_47 fX5_37 (shC (Sm.C z9s2 (M0R_g.C hC)) (sgG hb)) rfl (hTX.sm z9s2 PRdP hTX.1.n102).2.2.2.1 ?_
            refine j_icmp_neN (tgt := 55) z9q n dX5_readAll_50 rfl (by omega) (by omega) (fun c11 => ?_) (fun c11 => ?_)
            · refine j_aload_n 0 dX5_readAll_55 rfl ?_
              refine j_bipush 59 dX5_readAll_56 bp_59 ?_
              refine j_callV (kc := 0) (ks := 0) (a := 0) (b := 0) (d' := (d + 3)) (As := [.int 59]) dX5_readAll_58 kX5_40 rfl (shC (Sm.C z9s2 (M0R_g.C hC)) sgC_101) (by omega) rfl rfl rfl (Nat.le_of_ble_eq_true rfl) (Nat.le_of_ble_eq_true rfl) (T_X5_isHere (Sm.C z9s2 (M0R_g.C hC)) (hTX.sm z9s2 PRdP hTX.1.n102) z9q z9p (by omega) 59) (kk_p ?_)
              refine j_if_neB (p := (z9q < n ∧ shTl M b (nI z9q) = 59)) (tgt := 74) dX5_readAll_61 rfl (fun c12 => ?_) (fun c12 => ?_)
              · refine j_aload_n 0 dX5_readAll_74 rfl ?_
                refine j_dup dX5_readAll_75 rfl ?_
                refine j_getv (nI z9q) dX5_readAll_76 fX5_22 (shC (Sm.C z9s2 (M0R_g.C hC)) sgC_101) rfl z9p ?_
                refine j_iconst 1 dX5_readAll_79 ic_1 ?_
                refine j_iaddN z9q 1 dX5_readAll_80 ?_
                refine j_put dX5_readAll_81 fX5_22 (shC (Sm.C z9s2 (M0R_g.C hC)) sgC_101) rfl ?_
                have sm13 : Sm PRd (M0R M b) (jk_wI M5 101 3 (nI (z9q + 1))) := Sm.w z9s2 (Or.inr (Or.inl rfl))
                refine j_iinc 2 (nI (k + 1)) (L' := [(2, .int (nI (k + 1))), (0, .ref 101), (1, .ref b)]) dX5_readAll_84 rfl (inc1 k) (by decide) rfl ?_
                refine j_goto (tgt := 23) dX5_readAll_87 rfl ?_
                exact j_sub (jk_pick [1, 2, 0] rfl) (ih2 (k + 1) z9T (z9q + 1) (jk_wI M5 101 3 (nI (z9q + 1))) (by omega) (by omega) (by omega) (by rw [show 161 - (k + 1) = f by omega, ← rdL_2 z9e c11 c12]; exact hr) z9o (Sm.hv (P := PRn) (Sm.rf.w (Or.inl rfl)) z9d z9o PRnH) rd_s (by have := (c12).1; omega) (by omega) ((rd_k (by decide)).trans (z9f.trans hfl)) sm13)
              · refine j_aload_n 0 dX5_readAll_64 rfl ?_
                refine j_aload_n 0 dX5_readAll_65 rfl ?_
                refine j_getv (nI z9q) dX5_readAll_66 fX5_22 (shC (Sm.C z9s2 (M0R_g.C hC)) sgC_101) rfl z9p ?_
                refine j_put dX5_readAll_69 fX5_26 (shC (Sm.C z9s2 (M0R_g.C hC)) sgC_101) rfl ?_
                have sm14 : Sm PRd (M0R M b) (jk_wI M5 101 4 (nI z9q)) := Sm.w z9s2 (Or.inr (Or.inl rfl))
                refine j_iconst (-1) dX5_readAll_72 ic_n1 ?_
                refine j_iret dX5_readAll_73 rfl ?_
                rw [rdL_3 z9e c11 c12, hR] at hr
                cases hr
            · refine j_iload_n 2 dX5_readAll_53 rfl ?_
              refine j_iret dX5_readAll_54 rfl ?_
              rw [rdL_1 z9e c11, hR] at hr
              have e2 : (z9T, k) = (T, m) := by simpa using hr
              obtain ⟨e3, e4⟩ := Prod.mk.inj e2
              subst e4
              exact hQ _ _ ⟨rfl, (Sg.tr M0R_g (Sm.g z9s2)), z9d.trans e3, e3 ▸ z9o, z9f.trans hfl⟩
          · exact absurd c10 (by decide)
        · obtain ⟨z15f, z15e, z15s, z15p⟩ := hM8
          have z15s2 := Sm.tr hs1 z15s
          obtain ⟨f, hf⟩ : ∃ f, 161 - k = f + 1 := ⟨160 - k, by omega⟩
          rw [hf] at hr
          refine j_if_ne (tgt := 39) dX5_readAll_34 rfl (fun c16 => ?_) (fun c16 => ?_)
          · exact absurd c16 (by decide)
          · refine j_iconst (-1) dX5_readAll_37 ic_n1 ?_
            refine j_iret dX5_readAll_38 rfl ?_
            rw [rdL_0 z15e, hR] at hr
            cases hr
  exact j_sub (jk_pick [1, 2, 0] rfl) (lp3 _ 1 S 0 (M0R M b) (Nat.lt_succ_self _) (by omega) (by omega) rfl ok (M0R_hv hd ok) rfl (by omega) (by omega) rfl Sm.rf)
set_option maxRecDepth 20000 in
set_option maxHeartbeats 4000000 in
theorem T_X5_readAllN {d : Nat} {M : jk_M} {b n : Nat} {S : HS} (hC : WC M) (hb : isS b) (hn : n ≤ 160) (hz : M.2.1 b 1 = nI n) (hd : hv M.2.1 55 = S) (ok : Sok S) (x : Nat) (hR : rdL n (fun i => shTl M b (nI i)) 160 S 0 1 = .inl x) : J Fr_X5_readAll (d + 7) 0 0 0 [(0, .ref 101), (1, .ref b)] [] M (jk_ex (some (.int (-1))) (fun M1 => Sg PRd (fun _ => False) M M1 ∧ M1.2.1 101 4 = nI x)) := by
  refine j_post (fun Q hQ => ?_)
  refine j_aload_n 1 dX5_readAll_0 rfl ?_
  refine j_ifnonnull (tgt := 6) dX5_readAll_1 rfl ?_
  refine j_aload_n 0 dX5_readAll_6 rfl ?_
  refine j_aload_n 1 dX5_readAll_7 rfl ?_
  refine j_putr dX5_readAll_8 fX5_18 (shC hC sgC_101) rfl ?_
  refine j_aload_n 0 dX5_readAll_11 rfl ?_
  refine j_iconst 0 dX5_readAll_12 ic_0 ?_
  refine j_put dX5_readAll_13 fX5_22 (shC ((Sg.wr (P := PRd) (PL := fun _ => False) Sg.rf).C hC) sgC_101) rfl ?_
  refine j_aload_n 0 dX5_readAll_16 rfl ?_
  refine j_iconst (-1) dX5_readAll_17 ic_n1 ?_
  refine j_put dX5_readAll_18 fX5_26 (shC (((Sg.wr (P := PRd) (PL := fun _ => False) Sg.rf).w (Or.inr (Or.inl rfl))).C hC) sgC_101) rfl ?_
  refine j_mem (M0R M b) rfl ?_
  refine j_iconst 1 dX5_readAll_21 ic_1 ?_
  refine j_istore_n (L' := [(2, .int 1), (0, .ref 101), (1, .ref b)]) dX5_readAll_22 (by decide) rfl ?_
  have hTX := M0R_tx hb hn hz
  have lp3 : ∀ (k1 : Nat) (k : Nat) (T1 : HS) (p : Nat) (M1 : jk_M), 161 - k < k1 → (1 ≤ k) → (k ≤ 161) → (rdL n (fun i => shTl M b (nI i)) (161 - k) T1 p k = rdL n (fun i => shTl M b (nI i)) 160 S 0 1) → (Sok T1) → (hv M1.2.1 55 = T1) → (M1.2.1 101 3 = nI p) → (p ≤ n) → (4 * (k - 1) ≤ p) → (M1.2.1 101 4 = -1) → (Sm PRd (M0R M b) M1) → J Fr_X5_readAll (d + 7) 0 0 23 [(0, .ref 101), (1, .ref b), (2, .int (nI k))] [] M1 Q := by
    intro k1
    induction k1 with
    | zero => intro k T1 p M1 hk; exact absurd hk (Nat.not_lt_zero _)
    | succ k1 ih2 =>
      intro k T1 p M1 hk1 hk1 hk hr ok1 hd1 hp1 hpn hk4 hfl hs1
      refine j_iload_n 2 dX5_readAll_23 rfl ?_
      refine j_sipush 160 dX5_readAll_24 sp_160 ?_
      refine j_icmp_gtN (tgt := 90) k 160 dX5_readAll_27 rfl (by omega) (by omega) (fun c4 => ?_) (fun c4 => ?_)
      · refine j_iconst (-1) dX5_readAll_90 ic_n1 ?_
        refine j_iret dX5_readAll_91 rfl ?_
        exfalso
        omega
      · refine j_aload_n 0 dX5_readAll_30 rfl ?_
        refine j_callV (kc := 0) (ks := 0) (a := 0) (b := 0) (d' := (d + 6)) (As := []) dX5_readAll_31 kX5_33 rfl (shC (Sm.C hs1 (M0R_g.C hC)) sgC_101) (by omega) rfl rfl rfl (Nat.le_of_ble_eq_true rfl) (Nat.le_of_ble_eq_true rfl) (T_X5_readItem (Sm.C hs1 (M0R_g.C hC)) (hTX.sm hs1 PRdP hTX.1.n102) hd1 ok1 p hp1 (by omega)) (kk_o (fun M5 hM6 => ?_) (fun M7 hM8 => ?_))
        · obtain ⟨z9T, z9q, z9e, z9s, z9d, z9p, z9f⟩ := hM6
          have z9s2 := Sm.tr hs1 z9s
          obtain ⟨z9o, z9l, z9n⟩ := itS_in ok1 hpn z9e
          obtain ⟨f, hf⟩ : ∃ f, 161 - k = f + 1 := ⟨160 - k, by omega⟩
          rw [hf] at hr
          refine j_if_ne (tgt := 39) dX5_readAll_34 rfl (fun c10 => ?_) (fun c10 => ?_)
          · refine j_aload_n 0 dX5_readAll_39 rfl ?_
            refine j_getv (nI z9q) dX5_readAll_40 fX5_22 (shC (Sm.C z9s2 (M0R_g.C hC)) sgC_101) rfl z9p ?_
            refine j_aload_n 0 dX5_readAll_43 rfl ?_
            have hrefs := (hTX.sm z9s2 PRdP hTX.1.n102).2.1
            refine j_getr (q := b) dX5_readAll_44 fX5_18 (shC (Sm.C z9s2 (M0R_g.C hC)) sgC_101) rfl hrefs ?_
            refine j_getv (nI n) dX5_readAll_47 fX5_37 (shC (Sm.C z9s2 (M0R_g.C hC)) (sgG hb)) rfl (hTX.sm z9s2 PRdP hTX.1.n102).2.2.2.1 ?_
            refine j_icmp_neN (tgt := 55) z9q n dX5_readAll_50 rfl (by omega) (by omega) (fun c11 => ?_) (fun c11 => ?_)
            · refine j_aload_n 0 dX5_readAll_55 rfl ?_
              refine j_bipush 59 dX5_readAll_56 bp_59 ?_
              refine j_callV (kc := 0) (ks := 0) (a := 0) (b := 0) (d' := (d + 3)) (As := [.int 59]) dX5_readAll_58 kX5_40 rfl (shC (Sm.C z9s2 (M0R_g.C hC)) sgC_101) (by omega) rfl rfl rfl (Nat.le_of_ble_eq_true rfl) (Nat.le_of_ble_eq_true rfl) (T_X5_isHere (Sm.C z9s2 (M0R_g.C hC)) (hTX.sm z9s2 PRdP hTX.1.n102) z9q z9p (by omega) 59) (kk_p ?_)
              refine j_if_neB (p := (z9q < n ∧ shTl M b (nI z9q) = 59)) (tgt := 74) dX5_readAll_61 rfl (fun c12 => ?_) (fun c12 => ?_)
              · refine j_aload_n 0 dX5_readAll_74 rfl ?_
                refine j_dup dX5_readAll_75 rfl ?_
                refine j_getv (nI z9q) dX5_readAll_76 fX5_22 (shC (Sm.C z9s2 (M0R_g.C hC)) sgC_101) rfl z9p ?_
                refine j_iconst 1 dX5_readAll_79 ic_1 ?_
                refine j_iaddN z9q 1 dX5_readAll_80 ?_
                refine j_put dX5_readAll_81 fX5_22 (shC (Sm.C z9s2 (M0R_g.C hC)) sgC_101) rfl ?_
                have sm13 : Sm PRd (M0R M b) (jk_wI M5 101 3 (nI (z9q + 1))) := Sm.w z9s2 (Or.inr (Or.inl rfl))
                refine j_iinc 2 (nI (k + 1)) (L' := [(2, .int (nI (k + 1))), (0, .ref 101), (1, .ref b)]) dX5_readAll_84 rfl (inc1 k) (by decide) rfl ?_
                refine j_goto (tgt := 23) dX5_readAll_87 rfl ?_
                exact j_sub (jk_pick [1, 2, 0] rfl) (ih2 (k + 1) z9T (z9q + 1) (jk_wI M5 101 3 (nI (z9q + 1))) (by omega) (by omega) (by omega) (by rw [show 161 - (k + 1) = f by omega, ← rdL_2 z9e c11 c12]; exact hr) z9o (Sm.hv (P := PRn) (Sm.rf.w (Or.inl rfl)) z9d z9o PRnH) rd_s (by have := (c12).1; omega) (by omega) ((rd_k (by decide)).trans (z9f.trans hfl)) sm13)
              · refine j_aload_n 0 dX5_readAll_64 rfl ?_
                refine j_aload_n 0 dX5_readAll_65 rfl ?_
                refine j_getv (nI z9q) dX5_readAll_66 fX5_22 (shC (Sm.C z9s2 (M0R_g.C hC)) sgC_101) rfl z9p ?_
                refine j_put dX5_readAll_69 fX5_26 (shC (Sm.C z9s2 (M0R_g.C hC)) sgC_101) rfl ?_
                have sm14 : Sm PRd (M0R M b) (jk_wI M5 101 4 (nI z9q)) := Sm.w z9s2 (Or.inr (Or.inl rfl))
                refine j_iconst (-1) dX5_readAll_72 ic_n1 ?_
                refine j_iret dX5_readAll_73 rfl ?_
                rw [rdL_3 z9e c11 c12, hR] at hr
                have e2 : z9q = x := by simpa using hr
                subst e2
                exact hQ _ _ ⟨rfl, (Sg.tr M0R_g (Sm.g sm14)), rd_s⟩
            · refine j_iload_n 2 dX5_readAll_53 rfl ?_
              refine j_iret dX5_readAll_54 rfl ?_
              rw [rdL_1 z9e c11, hR] at hr
              cases hr
          · exact absurd c10 (by decide)
        · obtain ⟨z15f, z15e, z15s, z15p⟩ := hM8
          have z15s2 := Sm.tr hs1 z15s
          obtain ⟨f, hf⟩ : ∃ f, 161 - k = f + 1 := ⟨160 - k, by omega⟩
          rw [hf] at hr
          refine j_if_ne (tgt := 39) dX5_readAll_34 rfl (fun c16 => ?_) (fun c16 => ?_)
          · exact absurd c16 (by decide)
          · refine j_iconst (-1) dX5_readAll_37 ic_n1 ?_
            refine j_iret dX5_readAll_38 rfl ?_
            rw [rdL_0 z15e, hR] at hr
            have e2 : z15f = x := by simpa using hr
            subst e2
            exact hQ _ _ ⟨rfl, (Sg.tr M0R_g (Sm.g z15s2)), z15p⟩
  exact j_sub (jk_pick [1, 2, 0] rfl) (lp3 _ 1 S 0 (M0R M b) (Nat.lt_succ_self _) (by omega) (by omega) rfl ok (M0R_hv hd ok) rfl (by omega) (by omega) rfl Sm.rf)
