theorem AirOK.rch {a k : Nat} {S : HS} {M : jk_M} {v : Int32} (ha : AirOK a S M) : AirOK a S (jk_wI M (a + 5) k v) := by
  obtain ⟨h1, h2, h3⟩ := ha
  refine ⟨fun c hc => ?_, fun c hc => ?_, ?_⟩
  · rw [rd_o (by omega), rd_o (by omega), rd_o (by omega)]; exact h1 c hc
  · rw [rd_o (by omega)]; exact h2 c hc
  · rw [rd_o (by omega)]; exact h3
def RO (a : Nat) (S : HS) (M : jk_M) (c : Int32) : Prop := isP c → ∀ i, i < nD S → M.2.1 (a + 5) (i * 80 + c.toNatClampNeg) = barsBy (strS S c (S 16 i))
theorem RO.sm {a : Nat} {S : HS} {M M1 : jk_M} {c : Int32} (h : RO a S M c) (hs : Sm (fun q => q = a + 4) M M1) : RO a S M1 c := fun hc i hi => by
  rw [hs.2.2 _ (by omega)]; exact h hc i hi
theorem RO_none {a : Nat} {S : HS} {M : jk_M} {c : Int32} (h : ¬ isP c) : RO a S M c := fun z => absurd z h
theorem nP_m1 : ¬ isP (-1) := fun h => absurd h.1 (by decide)
theorem H4R {a : Nat} : ∀ q, q = a + 4 → PR a q := fun _ h => Or.inl h
theorem PR5 {a : Nat} : PR a (a + 5) := Or.inr rfl
theorem reach_new {a n i : Nat} {S : HS} {M2 M3 : jk_M} (hn : n < 80) (hs : Sm (fun q => q = a + 4) M2 M3) (hr : ∀ j, j < i → M2.2.1 (a + 5) (j * 80 + n) = barsBy (strS S (nI n) (S 16 j))) : ∀ j, j < i + 1 → (jk_wI M3 (a + 5) (i * 80 + n) (barsBy (strS S (nI n) (S 16 i)))).2.1 (a + 5) (j * 80 + n) = barsBy (strS S (nI n) (S 16 j)) := by
  intro j hj
  by_cases e : j = i
  · subst e; rw [rd_s]
  · rw [rd_k (by omega), hs.2.2 _ (by omega)]; exact hr j (by omega)
theorem reach_old {a n i : Nat} {S : HS} {M M2 M3 : jk_M} (hn : n < 80) (hi : i < nD S) (hs : Sm (fun q => q = a + 4) M2 M3) (hk : ∀ e, RO a S M e → RO a S M2 e) : ∀ e, RO a S M e → RO a S (jk_wI M3 (a + 5) (i * 80 + n) (barsBy (strS S (nI n) (S 16 i)))) e := by
  intro e he hp j hj
  have h2 := hk e he hp j hj
  obtain ⟨e1, e2⟩ := isP_nat hp
  by_cases hh : j * 80 + e.toNatClampNeg = i * 80 + n
  · have ej : j = i := by omega
    have en : e.toNatClampNeg = n := by omega
    rw [hh, rd_s, e1, en, ej]
  · rw [rd_k hh, hs.2.2 _ (by omega)]; exact h2
set_option maxRecDepth 20000 in
set_option maxHeartbeats 4000000 in
theorem T_X0_reachFromN {d : Nat} {M : jk_M} {a h : Nat} {S : HS} (hC : WC M) (x : isA a h) (hS : hv M.2.1 h = S) (ok : Sok S) (ha : AirOK a S M) (n : Nat) (hn : n < 80) : J Fr_X0_reachFrom (d + 4) 0 0 0 [(0, .ref a), (1, .int (nI n))] [] M (jk_ex none (fun M1 => Sm (PR a) M M1 ∧ AirOK a S M1 ∧ RO a S M1 (nI n) ∧ ∀ e, RO a S M e → RO a S M1 e)) := by
  refine j_post (fun Q hQ => ?_)
  have hT := (Sok.D ok).2
  refine j_iconst 0 dX0_reachFrom_0 ic_0 ?_
  refine j_istore_n (L' := [(2, .int 0), (0, .ref a), (1, .int (nI n))]) dX0_reachFrom_1 (by decide) rfl ?_
  have lp3 : ∀ (k1 : Nat) (i : Nat) (M2 : jk_M), nD S - i < k1 → (i ≤ nD S) → (Sm (PR a) M M2) → (AirOK a S M2) → (∀ j, j < i → M2.2.1 (a + 5) (j * 80 + n) = barsBy (strS S (nI n) (S 16 j))) → (∀ e, RO a S M e → RO a S M2 e) → J Fr_X0_reachFrom (d + 4) 0 0 2 [(0, .ref a), (1, .int (nI n)), (2, .int (nI i))] [] M2 Q := by
    intro k1
    induction k1 with
    | zero => intro i M2 hk; exact absurd hk (Nat.not_lt_zero _)
    | succ k1 ih2 =>
      intro i M2 hk1 hi hs2 ha2 hr2 hk2
      refine j_iload_n 2 dX0_reachFrom_2 rfl ?_
      refine j_aload_n 0 dX0_reachFrom_3 rfl ?_
      refine j_getr (q := h) dX0_reachFrom_4 fX0_31 (shC (Sm.C hs2 hC) (sgA x)) rfl (rfC (Sm.C hs2 hC) (rfA0 x) (nzA x)) ?_
      refine j_getv (nI (nD S)) dX0_reachFrom_7 fX0_122 (shC (Sm.C hs2 hC) (sgH (isA.H x))) rfl ((hvs (Sm.hv hs2 hS ok (PRH x)) (by decide)).trans (Sok.D ok).1) ?_
      refine j_icmp_geN (tgt := 68) i (nD S) dX0_reachFrom_10 rfl (by omega) (by omega) (fun c4 => ?_) (fun c4 => ?_)
      · refine j_vret dX0_reachFrom_68 rfl ?_
        have e : i = nD S := by omega
        subst e
        exact hQ _ _ ⟨rfl, hs2, ha2, fun hp j hj => by rw [nI_clamp (by omega)]; exact hr2 j hj, hk2⟩
      · refine j_aload_n 0 dX0_reachFrom_13 rfl ?_
        refine j_getr (q := h) dX0_reachFrom_14 fX0_31 (shC (Sm.C hs2 hC) (sgA x)) rfl (rfC (Sm.C hs2 hC) (rfA0 x) (nzA x)) ?_
        refine j_iload_n 2 dX0_reachFrom_17 rfl ?_
        refine j_callV (kc := 0) (ks := 0) (a := 0) (b := 0) (d' := d) (As := [.int (nI i)]) dX0_reachFrom_18 kX0_125 rfl (shC (Sm.C hs2 hC) (sgH (isA.H x))) (by omega) rfl rfl rfl (Nat.le_of_ble_eq_true rfl) (Nat.le_of_ble_eq_true rfl) (T_X2_deviceAt (Sm.C hs2 hC) (isA.H x) (Sm.hv hs2 hS ok (PRH x)) ok i (by omega)) (kk_p ?_)
        refine j_astore_n (L' := [(3, .ref (h + 21 + i)), (0, .ref a), (1, .int (nI n)), (2, .int (nI i))]) dX0_reachFrom_21 (by decide) rfl ?_
        refine j_aload_n 0 dX0_reachFrom_22 rfl ?_
        refine j_ifnull dX0_reachFrom_23 ?_
        refine j_iload_n 2 dX0_reachFrom_26 rfl ?_
        refine j_callSN (kc := 0) (ks := 0) (a := 0) (b := 0) (d' := d) (As := [.int (nI n)]) dX0_reachFrom_27 kX0_68 rfl (by omega) rfl rfl rfl (Nat.le_of_ble_eq_true rfl) (Nat.le_of_ble_eq_true rfl) (T_X10_isPlace (nI n)) (kk_p ?_)
        refine j_if_eqB (p := (isP (nI n))) (tgt := 62) dX0_reachFrom_30 rfl (fun c5 => ?_) (fun c5 => ?_)
        · exact absurd (isP_of hn) c5
        · refine j_iload_n 3 dX0_reachFrom_33 rfl ?_
          refine j_bipush 6 dX0_reachFrom_34 bp_6 ?_
          refine j_icmp_geN (tgt := 62) i 6 dX0_reachFrom_36 rfl (by omega) (by omega) (fun c6 => ?_) (fun c6 => ?_)
          · exact absurd c6 (by omega)
          · refine j_aload_n 1 dX0_reachFrom_39 rfl ?_
            refine j_getr (q := (a + 5)) dX0_reachFrom_40 fX0_24 (shC (Sm.C hs2 hC) (sgA x)) rfl (rfC (Sm.C hs2 hC) (rfA5 x) (nzA x)) ?_
            refine j_iload_n 3 dX0_reachFrom_43 rfl ?_
            refine j_bipush 80 dX0_reachFrom_44 bp_80 ?_
            refine j_imulN i 80 dX0_reachFrom_46 ?_
            refine j_iload_n 2 dX0_reachFrom_47 rfl ?_
            refine j_iaddN (i * 80) n dX0_reachFrom_48 ?_
            refine j_aload_n 1 dX0_reachFrom_49 rfl ?_
            refine j_iload_n 2 dX0_reachFrom_50 rfl ?_
            refine j_aload_n 0 dX0_reachFrom_51 rfl ?_
            refine j_getv (S 16 i) dX0_reachFrom_52 fX0_134 (shC (Sm.C hs2 hC) (sgHD (isA.H x) (by have := (Sok.D ok).2; omega))) rfl (hvD (Sm.hv hs2 hS ok (PRH x)) (by omega) (by decide)) ?_
            refine j_callV (kc := 0) (ks := 0) (a := 0) (b := 0) (d' := (d + 3)) (As := [.int (nI n), .int (S 16 i)]) dX0_reachFrom_55 kX0_110 rfl (shC (Sm.C hs2 hC) (sgA x)) (by omega) rfl rfl rfl (Nat.le_of_ble_eq_true rfl) (Nat.le_of_ble_eq_true rfl) (T_X0_strengthFrom (Sm.C hs2 hC) x (Sm.hv hs2 hS ok (PRH x)) ok ha2 (nI n) (S 16 i)) (kk_e (fun M7 hM8 => ?_))
            obtain ⟨sm9, ha10⟩ := hM8
            have raw3 := sm9
            replace sm9 := Sm.tr hs2 (sm9.mo H4R)
            refine j_callSN (kc := 0) (ks := 0) (a := 0) (b := 0) (d' := d) (As := [.int (strS S (nI n) (S 16 i))]) dX0_reachFrom_58 kX0_113 rfl (by omega) rfl rfl rfl (Nat.le_of_ble_eq_true rfl) (Nat.le_of_ble_eq_true rfl) (T_X10_barsBy (strS S (nI n) (S 16 i))) (kk_p ?_)
            refine j_iastN ((i * 80) + n) dX0_reachFrom_61 (shC (Sm.C sm9 hC) (sgA5 x)) (by omega) (by omega) ?_
            have sm11 : Sm (PR a) M (jk_wI M7 (a + 5) ((i * 80) + n) (barsBy (strS S (nI n) (S 16 i)))) := Sm.w sm9 PR5
            refine j_iinc 3 (nI (i + 1)) (L' := [(2, .int (nI (i + 1))), (3, .ref (h + 21 + i)), (0, .ref a), (1, .int (nI n))]) dX0_reachFrom_62 rfl (inc1 i) (by decide) rfl ?_
            refine j_goto (tgt := 2) dX0_reachFrom_65 rfl ?_
            exact j_sub (jk_pick [2, 3, 0] rfl) (ih2 (i + 1) (jk_wI M7 (a + 5) ((i * 80) + n) (barsBy (strS S (nI n) (S 16 i)))) (by omega) (by omega) sm11 ha10.rch (reach_new hn raw3 hr2) (reach_old hn (by omega) raw3 hk2))
  exact j_sub (jk_pick [1, 2, 0] rfl) (lp3 _ 0 M (Nat.lt_succ_self _) (Nat.zero_le _) Sm.rf ha (fun j hj => absurd hj (Nat.not_lt_zero j)) (fun _ h => h))
set_option maxRecDepth 20000 in
set_option maxHeartbeats 4000000 in
theorem T_X0_reachFromX {d : Nat} {M : jk_M} {a h : Nat} {S : HS} (hC : WC M) (x : isA a h) (hS : hv M.2.1 h = S) (ok : Sok S) (ha : AirOK a S M) (c : Int32) (hc : ¬ isP c) : J Fr_X0_reachFrom (d + 4) 0 0 0 [(0, .ref a), (1, .int c)] [] M (jk_is none M) := by
  refine j_post (fun Q hQ => ?_)
  have hT := (Sok.D ok).2
  refine j_iconst 0 dX0_reachFrom_0 ic_0 ?_
  refine j_istore_n (L' := [(2, .int 0), (0, .ref a), (1, .int c)]) dX0_reachFrom_1 (by decide) rfl ?_
  have lp3 : ∀ (k1 : Nat) (i : Nat), nD S - i < k1 → (i ≤ nD S) → J Fr_X0_reachFrom (d + 4) 0 0 2 [(0, .ref a), (1, .int c), (2, .int (nI i))] [] M Q := by
    intro k1
    induction k1 with
    | zero => intro i hk; exact absurd hk (Nat.not_lt_zero _)
    | succ k1 ih2 =>
      intro i hk1 hi
      refine j_iload_n 2 dX0_reachFrom_2 rfl ?_
      refine j_aload_n 0 dX0_reachFrom_3 rfl ?_
      refine j_getr (q := h) dX0_reachFrom_4 fX0_31 (shC hC (sgA x)) rfl (rfC hC (rfA0 x) (nzA x)) ?_
      refine j_getv (nI (nD S)) dX0_reachFrom_7 fX0_122 (shC hC (sgH (isA.H x))) rfl ((hvs hS (by decide)).trans (Sok.D ok).1) ?_
      refine j_icmp_geN (tgt := 68) i (nD S) dX0_reachFrom_10 rfl (by omega) (by omega) (fun c4 => ?_) (fun c4 => ?_)
      · refine j_vret dX0_reachFrom_68 rfl ?_
        exact hQ _ _ ⟨rfl, rfl⟩
      · refine j_aload_n 0 dX0_reachFrom_13 rfl ?_
        refine j_getr (q := h) dX0_reachFrom_14 fX0_31 (shC hC (sgA x)) rfl (rfC hC (rfA0 x) (nzA x)) ?_
        refine j_iload_n 2 dX0_reachFrom_17 rfl ?_
        refine j_callV (kc := 0) (ks := 0) (a := 0) (b := 0) (d' := d) (As := [.int (nI i)]) dX0_reachFrom_18 kX0_125 rfl (shC hC (sgH (isA.H x))) (by omega) rfl rfl rfl (Nat.le_of_ble_eq_true rfl) (Nat.le_of_ble_eq_true rfl) (T_X2_deviceAt hC (isA.H x) hS ok i (by omega)) (kk_p ?_)
        refine j_astore_n (L' := [(3, .ref (h + 21 + i)), (0, .ref a), (1, .int c), (2, .int (nI i))]) dX0_reachFrom_21 (by decide) rfl ?_
        refine j_aload_n 0 dX0_reachFrom_22 rfl ?_
        refine j_ifnull dX0_reachFrom_23 ?_
        refine j_iload_n 2 dX0_reachFrom_26 rfl ?_
        refine j_callSN (kc := 0) (ks := 0) (a := 0) (b := 0) (d' := d) (As := [.int c]) dX0_reachFrom_27 kX0_68 rfl (by omega) rfl rfl rfl (Nat.le_of_ble_eq_true rfl) (Nat.le_of_ble_eq_true rfl) (T_X10_isPlace c) (kk_p ?_)
        refine j_if_eqB (p := (isP c)) (tgt := 62) dX0_reachFrom_30 rfl (fun c5 => ?_) (fun c5 => ?_)
        · refine j_iinc 3 (nI (i + 1)) (L' := [(2, .int (nI (i + 1))), (3, .ref (h + 21 + i)), (0, .ref a), (1, .int c)]) dX0_reachFrom_62 rfl (inc1 i) (by decide) rfl ?_
          refine j_goto (tgt := 2) dX0_reachFrom_65 rfl ?_
          exact j_sub (jk_pick [2, 3, 0] rfl) (ih2 (i + 1) (by omega) (by omega))
        · exact absurd c5 hc
  exact j_sub (jk_pick [1, 2, 0] rfl) (lp3 _ 0 (Nat.lt_succ_self _) (Nat.zero_le _))
theorem T_X0_reachFrom {d : Nat} {M : jk_M} {a h : Nat} {S : HS} (hC : WC M) (x : isA a h) (hS : hv M.2.1 h = S) (ok : Sok S) (ha : AirOK a S M) (c : Int32) : J Fr_X0_reachFrom (d + 4) 0 0 0 [(0, .ref a), (1, .int c)] [] M (jk_ex none (fun M1 => Sm (PR a) M M1 ∧ AirOK a S M1 ∧ RO a S M1 c ∧ ∀ e, RO a S M e → RO a S M1 e)) := by
  by_cases hc : isP c
  · obtain ⟨e, hl⟩ := isP_nat hc
    rw [e]
    exact T_X0_reachFromN hC x hS ok ha _ hl
  · refine j_conseq (T_X0_reachFromX hC x hS ok ha c hc) ?_
    rintro r M' ⟨rfl, rfl⟩
    exact ⟨rfl, Sm.rf, ha, RO_none hc, fun _ h => h⟩
set_option maxRecDepth 20000 in
set_option maxHeartbeats 4000000 in
theorem T_X0_reachOfN {d : Nat} {M : jk_M} {a h : Nat} {S : HS} (hC : WC M) (x : isA a h) (hS : hv M.2.1 h = S) (ok : Sok S) (ha : AirOK a S M) (i n : Nat) (hi : i < nD S) (hn : n < 80) (hr : RO a S M (nI n)) : J Fr_X0_reachOf (d + 1) 0 0 0 [(0, .ref a), (1, .int (nI i)), (2, .int (nI n))] [] M (jk_is (some (.int (rchS S i (nI n)))) M) := by
  refine j_post (fun Q hQ => ?_)
  have hT := (Sok.D ok).2
  refine j_iload_n 1 dX0_reachOf_0 rfl ?_
  refine j_if_ltN (tgt := 31) i dX0_reachOf_1 (by omega) rfl ?_
  refine j_iload_n 1 dX0_reachOf_4 rfl ?_
  refine j_bipush 6 dX0_reachOf_5 bp_6 ?_
  refine j_icmp_geN (tgt := 31) i 6 dX0_reachOf_7 rfl (by omega) (by omega) (fun c2 => ?_) (fun c2 => ?_)
  · exact absurd c2 (by omega)
  · refine j_iload_n 2 dX0_reachOf_10 rfl ?_
    refine j_callSN (kc := 0) (ks := 0) (a := 0) (b := 0) (d' := d) (As := [.int (nI n)]) dX0_reachOf_11 kX0_68 rfl (by omega) rfl rfl rfl (Nat.le_of_ble_eq_true rfl) (Nat.le_of_ble_eq_true rfl) (T_X10_isPlace (nI n)) (kk_p ?_)
    refine j_if_eqB (p := (isP (nI n))) (tgt := 31) dX0_reachOf_14 rfl (fun c3 => ?_) (fun c3 => ?_)
    · exact absurd (isP_of hn) c3
    · refine j_aload_n 0 dX0_reachOf_17 rfl ?_
      refine j_getr (q := (a + 5)) dX0_reachOf_18 fX0_24 (shC hC (sgA x)) rfl (rfC hC (rfA5 x) (nzA x)) ?_
      refine j_iload_n 1 dX0_reachOf_21 rfl ?_
      refine j_bipush 80 dX0_reachOf_22 bp_80 ?_
      refine j_imulN i 80 dX0_reachOf_24 ?_
      refine j_iload_n 2 dX0_reachOf_25 rfl ?_
      refine j_iaddN (i * 80) n dX0_reachOf_26 ?_
      refine j_ialdN ((i * 80) + n) dX0_reachOf_27 (shC hC (sgA5 x)) (by omega) (by omega) ?_
      refine j_goto (tgt := 32) dX0_reachOf_28 rfl ?_
      refine j_iret dX0_reachOf_32 rfl ?_
      have e := hr (isP_of hn) i hi
      rw [nI_clamp (by omega)] at e
      exact hQ _ _ ⟨by rw [e, rchS_p (isP_of hn)], rfl⟩
set_option maxRecDepth 20000 in
set_option maxHeartbeats 4000000 in
theorem T_X0_reachOfX {d : Nat} {M : jk_M} {a h : Nat} {S : HS} (hC : WC M) (x : isA a h) (hS : hv M.2.1 h = S) (ok : Sok S) (ha : AirOK a S M) (i : Nat) (c : Int32) (hi : i < nD S) (hc : ¬ isP c) : J Fr_X0_reachOf (d + 1) 0 0 0 [(0, .ref a), (1, .int (nI i)), (2, .int c)] [] M (jk_is (some (.int (rchS S i c))) M) := by
  refine j_post (fun Q hQ => ?_)
  have hT := (Sok.D ok).2
  refine j_iload_n 1 dX0_reachOf_0 rfl ?_
  refine j_if_ltN (tgt := 31) i dX0_reachOf_1 (by omega) rfl ?_
  refine j_iload_n 1 dX0_reachOf_4 rfl ?_
  refine j_bipush 6 dX0_reachOf_5 bp_6 ?_
  refine j_icmp_geN (tgt := 31) i 6 dX0_reachOf_7 rfl (by omega) (by omega) (fun c2 => ?_) (fun c2 => ?_)
  · exact absurd c2 (by omega)
  · refine j_iload_n 2 dX0_reachOf_10 rfl ?_
    refine j_callSN (kc := 0) (ks := 0) (a := 0) (b := 0) (d' := d) (As := [.int c]) dX0_reachOf_11 kX0_68 rfl (by omega) rfl rfl rfl (Nat.le_of_ble_eq_true rfl) (Nat.le_of_ble_eq_true rfl) (T_X10_isPlace c) (kk_p ?_)
    refine j_if_eqB (p := (isP c)) (tgt := 31) dX0_reachOf_14 rfl (fun c3 => ?_) (fun c3 => ?_)
    · refine j_iconst 0 dX0_reachOf_31 ic_0 ?_
      refine j_iret dX0_reachOf_32 rfl ?_
      exact hQ _ _ ⟨by rw [rchS_n hc], rfl⟩
    · exact absurd c3 hc
theorem T_X0_reachOf {d : Nat} {M : jk_M} {a h : Nat} {S : HS} (hC : WC M) (x : isA a h) (hS : hv M.2.1 h = S) (ok : Sok S) (ha : AirOK a S M) (i : Nat) (c : Int32) (hi : i < nD S) (hr : RO a S M c) : J Fr_X0_reachOf (d + 1) 0 0 0 [(0, .ref a), (1, .int (nI i)), (2, .int c)] [] M (jk_is (some (.int (rchS S i c))) M) := by
  by_cases hc : isP c
  · obtain ⟨e, hl⟩ := isP_nat hc
    rw [e] at hr ⊢
    exact T_X0_reachOfN hC x hS ok ha i _ hi hl hr
  · exact T_X0_reachOfX hC x hS ok ha i c hi hc
set_option maxRecDepth 20000 in
set_option maxHeartbeats 4000000 in
theorem T_X0_servedBy {d : Nat} {M : jk_M} {a h : Nat} {S : HS} (hC : WC M) (x : isA a h) (hS : hv M.2.1 h = S) (ok : Sok S) (ha : AirOK a S M) (c e : Int32) (hc : RO a S M c) (he : RO a S M e) : J Fr_X0_servedBy (d + 4) 0 0 0 [(0, .ref a), (1, .int c), (2, .int e)] [] M (jk_ex (some (.int (servBy S c e))) (fun M1 => Sm (fun q => q = a + 4) M M1 ∧ AirOK a S M1)) := by
  refine j_post (fun Q hQ => ?_)
  have hT := (Sok.D ok).2
  refine j_aload_n 0 dX0_servedBy_0 rfl ?_
  refine j_iload_n 1 dX0_servedBy_1 rfl ?_
  refine j_iload_n 2 dX0_servedBy_2 rfl ?_
  refine j_callV (kc := 0) (ks := 0) (a := 0) (b := 0) (d' := (d + 3)) (As := [.int c, .int e]) dX0_servedBy_3 kX0_110 rfl (shC hC (sgA x)) (by omega) rfl rfl rfl (Nat.le_of_ble_eq_true rfl) (Nat.le_of_ble_eq_true rfl) (T_X0_strengthFrom hC x hS ok ha c e) (kk_e (fun M1 hM2 => ?_))
  obtain ⟨sm3, ha4⟩ := hM2
  refine j_callSN (kc := 0) (ks := 0) (a := 0) (b := 0) (d' := d) (As := [.int (strS S c e)]) dX0_servedBy_6 kX0_113 rfl (by omega) rfl rfl rfl (Nat.le_of_ble_eq_true rfl) (Nat.le_of_ble_eq_true rfl) (T_X10_barsBy (strS S c e)) (kk_p ?_)
  refine j_istore_n (L' := [(3, .int (barsBy (strS S c e))), (0, .ref a), (1, .int c), (2, .int e)]) dX0_servedBy_9 (by decide) rfl ?_
  refine j_iconst 0 dX0_servedBy_10 ic_0 ?_
  refine j_istore (L' := [(4, .int 0), (3, .int (barsBy (strS S c e))), (0, .ref a), (1, .int c), (2, .int e)]) dX0_servedBy_11 (by decide) rfl ?_
  refine j_iconst 0 dX0_servedBy_13 ic_0 ?_
  refine j_istore (L' := [(5, .int 0), (4, .int 0), (3, .int (barsBy (strS S c e))), (0, .ref a), (1, .int c), (2, .int e)]) dX0_servedBy_14 (by decide) rfl ?_
  have lp7 : ∀ (k5 : Nat) (i : Nat), nD S - i < k5 → (i ≤ nD S) → J Fr_X0_servedBy (d + 4) 0 0 16 [(0, .ref a), (1, .int c), (2, .int e), (3, .int (barsBy (strS S c e))), (4, .int (sm (fun j => if S 17 j ≤ jmax (rchS S j c) (jmin (rchS S j e / 2) (barsBy (strS S c e))) then S 18 j else 0) i)), (5, .int (nI i))] [] M1 Q := by
    intro k5
    induction k5 with
    | zero => intro i hk; exact absurd hk (Nat.not_lt_zero _)
    | succ k5 ih6 =>
      intro i hk5 hi
      refine j_iload 5 dX0_servedBy_16 rfl ?_
      refine j_aload_n 0 dX0_servedBy_18 rfl ?_
      refine j_getr (q := h) dX0_servedBy_19 fX0_31 (shC (Sm.C sm3 hC) (sgA x)) rfl (rfC (Sm.C sm3 hC) (rfA0 x) (nzA x)) ?_
      refine j_getv (nI (nD S)) dX0_servedBy_22 fX0_122 (shC (Sm.C sm3 hC) (sgH (isA.H x))) rfl ((hvs (Sm.hv sm3 hS ok (PHH x)) (by decide)).trans (Sok.D ok).1) ?_
      refine j_icmp_geN (tgt := 99) i (nD S) dX0_servedBy_25 rfl (by omega) (by omega) (fun c8 => ?_) (fun c8 => ?_)
      · refine j_iload 4 dX0_servedBy_99 rfl ?_
        refine j_iret dX0_servedBy_101 rfl ?_
        have e : i = nD S := by omega
        subst e
        exact hQ _ _ ⟨rfl, sm3, ha4⟩
      · refine j_aload_n 0 dX0_servedBy_28 rfl ?_
        refine j_getr (q := h) dX0_servedBy_29 fX0_31 (shC (Sm.C sm3 hC) (sgA x)) rfl (rfC (Sm.C sm3 hC) (rfA0 x) (nzA x)) ?_
        refine j_iload 5 dX0_servedBy_32 rfl ?_
        refine j_callV (kc := 0) (ks := 0) (a := 0) (b := 0) (d' := d) (As := [.int (nI i)]) dX0_servedBy_34 kX0_125 rfl (shC (Sm.C sm3 hC) (sgH (isA.H x))) (by omega) rfl rfl rfl (Nat.le_of_ble_eq_true rfl) (Nat.le_of_ble_eq_true rfl) (T_X2_deviceAt (Sm.C sm3 hC) (isA.H x) (Sm.hv sm3 hS ok (PHH x)) ok i (by omega)) (kk_p ?_)
        refine j_astore (L' := [(6, .ref (h + 21 + i)), (0, .ref a), (1, .int c), (2, .int e), (3, .int (barsBy (strS S c e))), (4, .int (sm (fun j => if S 17 j ≤ jmax (rchS S j c) (jmin (rchS S j e / 2) (barsBy (strS S c e))) then S 18 j else 0) i)), (5, .int (nI i))]) dX0_servedBy_37 (by decide) rfl ?_
        refine j_aload 0 dX0_servedBy_39 rfl ?_
        refine j_ifnull dX0_servedBy_41 ?_
        refine j_aload_n 1 dX0_servedBy_44 rfl ?_
        refine j_iload 6 dX0_servedBy_45 rfl ?_
        refine j_iload_n 2 dX0_servedBy_47 rfl ?_
        refine j_callV (kc := 0) (ks := 0) (a := 0) (b := 0) (d' := (d + 1)) (As := [.int (nI i), .int c]) dX0_servedBy_48 kX0_154 rfl (shC (Sm.C sm3 hC) (sgA x)) (by omega) rfl rfl rfl (Nat.le_of_ble_eq_true rfl) (Nat.le_of_ble_eq_true rfl) (T_X0_reachOf (Sm.C sm3 hC) x (Sm.hv sm3 hS ok (PHH x)) ok ha4 i c (by omega) (RO.sm hc sm3)) (kk_p ?_)
        refine j_aload_n 1 dX0_servedBy_51 rfl ?_
        refine j_iload 6 dX0_servedBy_52 rfl ?_
        refine j_iload_n 3 dX0_servedBy_54 rfl ?_
        refine j_callV (kc := 0) (ks := 0) (a := 0) (b := 0) (d' := (d + 1)) (As := [.int (nI i), .int e]) dX0_servedBy_55 kX0_154 rfl (shC (Sm.C sm3 hC) (sgA x)) (by omega) rfl rfl rfl (Nat.le_of_ble_eq_true rfl) (Nat.le_of_ble_eq_true rfl) (T_X0_reachOf (Sm.C sm3 hC) x (Sm.hv sm3 hS ok (PHH x)) ok ha4 i e (by omega) (RO.sm he sm3)) (kk_p ?_)
        refine j_iconst 2 dX0_servedBy_58 ic_2 ?_
        refine j_idiv dX0_servedBy_59 (by decide) ?_
        refine j_iload_n 4 dX0_servedBy_60 rfl ?_
        refine j_min dX0_servedBy_61 mX0_90 mt_min.1 mt_min.2.1 mt_min.2.2 (Nat.le_of_ble_eq_true rfl) ?_
        refine j_max dX0_servedBy_64 mX0_104 mt_max.1 mt_max.2.1 mt_max.2.2 (Nat.le_of_ble_eq_true rfl) ?_
        refine j_istore (L' := [(7, .int (if (rchS S i c) < (if (barsBy (strS S c e)) < ((rchS S i e) / 2) then (barsBy (strS S c e)) else ((rchS S i e) / 2)) then (if (barsBy (strS S c e)) < ((rchS S i e) / 2) then (barsBy (strS S c e)) else ((rchS S i e) / 2)) else (rchS S i c))), (6, .ref (h + 21 + i)), (0, .ref a), (1, .int c), (2, .int e), (3, .int (barsBy (strS S c e))), (4, .int (sm (fun j => if S 17 j ≤ jmax (rchS S j c) (jmin (rchS S j e / 2) (barsBy (strS S c e))) then S 18 j else 0) i)), (5, .int (nI i))]) dX0_servedBy_67 (by decide) rfl ?_
        refine j_iload 6 dX0_servedBy_69 rfl ?_
        refine j_iload 0 dX0_servedBy_71 rfl ?_
        refine j_aload 1 dX0_servedBy_73 rfl ?_
        refine j_getv (S 17 i) dX0_servedBy_75 fX0_138 (shC (Sm.C sm3 hC) (sgHD (isA.H x) (by have := (Sok.D ok).2; omega))) rfl (hvD (Sm.hv sm3 hS ok (PHH x)) (by omega) (by decide)) ?_
        refine j_icmp_lt (tgt := 89) dX0_servedBy_78 rfl (fun c9 => ?_) (fun c9 => ?_)
        · refine j_iconst 0 dX0_servedBy_89 ic_0 ?_
          refine j_iadd dX0_servedBy_90 ?_
          refine j_istore (L' := [(4, .int ((sm (fun j => if S 17 j ≤ jmax (rchS S j c) (jmin (rchS S j e / 2) (barsBy (strS S c e))) then S 18 j else 0) i) + 0)), (7, .int (if (rchS S i c) < (if (barsBy (strS S c e)) < ((rchS S i e) / 2) then (barsBy (strS S c e)) else ((rchS S i e) / 2)) then (if (barsBy (strS S c e)) < ((rchS S i e) / 2) then (barsBy (strS S c e)) else ((rchS S i e) / 2)) else (rchS S i c))), (6, .ref (h + 21 + i)), (0, .ref a), (1, .int c), (2, .int e), (3, .int (barsBy (strS S c e))), (5, .int (nI i))]) dX0_servedBy_91 (by decide) rfl ?_
          refine j_iinc 7 (nI (i + 1)) (L' := [(5, .int (nI (i + 1))), (4, .int ((sm (fun j => if S 17 j ≤ jmax (rchS S j c) (jmin (rchS S j e / 2) (barsBy (strS S c e))) then S 18 j else 0) i) + 0)), (7, .int (if (rchS S i c) < (if (barsBy (strS S c e)) < ((rchS S i e) / 2) then (barsBy (strS S c e)) else ((rchS S i e) / 2)) then (if (barsBy (strS S c e)) < ((rchS S i e) / 2) then (barsBy (strS S c e)) else ((rchS S i e) / 2)) else (rchS S i c))), (6, .ref (h + 21 + i)), (0, .ref a), (1, .int c), (2, .int e), (3, .int (barsBy (strS S c e)))]) dX0_servedBy_93 rfl (inc1 i) (by decide) rfl ?_
          refine j_goto (tgt := 16) dX0_servedBy_96 rfl ?_
          have hst : ((sm (fun j => if S 17 j ≤ jmax (rchS S j c) (jmin (rchS S j e / 2) (barsBy (strS S c e))) then S 18 j else 0) i) + 0) = sm (fun j => if S 17 j ≤ jmax (rchS S j c) (jmin (rchS S j e / 2) (barsBy (strS S c e))) then S 18 j else 0) (i + 1) := by
            show _ = sm (fun j => if S 17 j ≤ jmax (rchS S j c) (jmin (rchS S j e / 2) (barsBy (strS S c e))) then S 18 j else 0) i + (fun j => if S 17 j ≤ jmax (rchS S j c) (jmin (rchS S j e / 2) (barsBy (strS S c e))) then S 18 j else 0) i
            clear hQ; unfold jmax jmin; grind
          refine j_sub (L' := [(0, .ref a), (1, .int c), (2, .int e), (3, .int (barsBy (strS S c e))), (4, .int ((sm (fun j => if S 17 j ≤ jmax (rchS S j c) (jmin (rchS S j e / 2) (barsBy (strS S c e))) then S 18 j else 0) i) + 0)), (5, .int (nI (i + 1)))]) (jk_pick [4, 5, 6, 7, 1, 0] rfl) ?_
          rw [hst]
          exact j_sub (jk_pick [0, 1, 2, 3, 4, 5] rfl) (ih6 (i + 1) (by omega) (by omega))
        · refine j_aload 1 dX0_servedBy_81 rfl ?_
          refine j_getv (S 18 i) dX0_servedBy_83 fX0_141 (shC (Sm.C sm3 hC) (sgHD (isA.H x) (by have := (Sok.D ok).2; omega))) rfl (hvD (Sm.hv sm3 hS ok (PHH x)) (by omega) (by decide)) ?_
          refine j_goto (tgt := 90) dX0_servedBy_86 rfl ?_
          refine j_iadd dX0_servedBy_90 ?_
          refine j_istore (L' := [(4, .int ((sm (fun j => if S 17 j ≤ jmax (rchS S j c) (jmin (rchS S j e / 2) (barsBy (strS S c e))) then S 18 j else 0) i) + (S 18 i))), (7, .int (if (rchS S i c) < (if (barsBy (strS S c e)) < ((rchS S i e) / 2) then (barsBy (strS S c e)) else ((rchS S i e) / 2)) then (if (barsBy (strS S c e)) < ((rchS S i e) / 2) then (barsBy (strS S c e)) else ((rchS S i e) / 2)) else (rchS S i c))), (6, .ref (h + 21 + i)), (0, .ref a), (1, .int c), (2, .int e), (3, .int (barsBy (strS S c e))), (5, .int (nI i))]) dX0_servedBy_91 (by decide) rfl ?_
          refine j_iinc 7 (nI (i + 1)) (L' := [(5, .int (nI (i + 1))), (4, .int ((sm (fun j => if S 17 j ≤ jmax (rchS S j c) (jmin (rchS S j e / 2) (barsBy (strS S c e))) then S 18 j else 0) i) + (S 18 i))), (7, .int (if (rchS S i c) < (if (barsBy (strS S c e)) < ((rchS S i e) / 2) then (barsBy (strS S c e)) else ((rchS S i e) / 2)) then (if (barsBy (strS S c e)) < ((rchS S i e) / 2) then (barsBy (strS S c e)) else ((rchS S i e) / 2)) else (rchS S i c))), (6, .ref (h + 21 + i)), (0, .ref a), (1, .int c), (2, .int e), (3, .int (barsBy (strS S c e)))]) dX0_servedBy_93 rfl (inc1 i) (by decide) rfl ?_
          refine j_goto (tgt := 16) dX0_servedBy_96 rfl ?_
          have hst : ((sm (fun j => if S 17 j ≤ jmax (rchS S j c) (jmin (rchS S j e / 2) (barsBy (strS S c e))) then S 18 j else 0) i) + (S 18 i)) = sm (fun j => if S 17 j ≤ jmax (rchS S j c) (jmin (rchS S j e / 2) (barsBy (strS S c e))) then S 18 j else 0) (i + 1) := by
            show _ = sm (fun j => if S 17 j ≤ jmax (rchS S j c) (jmin (rchS S j e / 2) (barsBy (strS S c e))) then S 18 j else 0) i + (fun j => if S 17 j ≤ jmax (rchS S j c) (jmin (rchS S j e / 2) (barsBy (strS S c e))) then S 18 j else 0) i
            clear hQ; unfold jmax jmin; grind
          refine j_sub (L' := [(0, .ref a), (1, .int c), (2, .int e), (3, .int (barsBy (strS S c e))), (4, .int ((sm (fun j => if S 17 j ≤ jmax (rchS S j c) (jmin (rchS S j e / 2) (barsBy (strS S c e))) then S 18 j else 0) i) + (S 18 i))), (5, .int (nI (i + 1)))]) (jk_pick [4, 5, 6, 7, 1, 0] rfl) ?_
          rw [hst]
          exact j_sub (jk_pick [0, 1, 2, 3, 4, 5] rfl) (ih6 (i + 1) (by omega) (by omega))
  exact j_sub (jk_pick [3, 4, 5, 2, 1, 0] rfl) (lp7 _ 0 (Nat.lt_succ_self _) (Nat.zero_le _))
set_option maxRecDepth 20000 in
set_option maxHeartbeats 4000000 in
theorem T_X0_servedNow {d : Nat} {M : jk_M} {a h : Nat} {S : HS} (hC : WC M) (x : isA a h) (hS : hv M.2.1 h = S) (ok : Sok S) (ha : AirOK a S M) : J Fr_X0_servedNow (d + 5) 0 0 0 [(0, .ref a)] [] M (jk_ex (some (.int (servS S))) (fun M1 => Sm (PR a) M M1 ∧ AirOK a S M1)) := by
  refine j_post (fun Q hQ => ?_)
  refine j_aload_n 0 dX0_servedNow_0 rfl ?_
  refine j_aload_n 0 dX0_servedNow_1 rfl ?_
  refine j_getr (q := h) dX0_servedNow_2 fX0_31 (shC hC (sgA x)) rfl (rfC hC (rfA0 x) (nzA x)) ?_
  refine j_getv (S 5 0) dX0_servedNow_5 fX0_144 (shC hC (sgH (isA.H x))) rfl (hvs hS (by decide)) ?_
  refine j_callV (kc := 0) (ks := 0) (a := 0) (b := 0) (d' := (d + 4)) (As := [.int (S 5 0)]) dX0_servedNow_8 kX0_147 rfl (shC hC (sgA x)) (by omega) rfl rfl rfl (Nat.le_of_ble_eq_true rfl) (Nat.le_of_ble_eq_true rfl) (T_X0_reachFrom hC x hS ok ha (S 5 0)) (kk_ev (fun M1 hM2 => ?_))
  obtain ⟨sm3, ha4, hr5, hk6⟩ := hM2
  refine j_aload_n 0 dX0_servedNow_11 rfl ?_
  refine j_aload_n 0 dX0_servedNow_12 rfl ?_
  refine j_getr (q := h) dX0_servedNow_13 fX0_31 (shC (Sm.C sm3 hC) (sgA x)) rfl (rfC (Sm.C sm3 hC) (rfA0 x) (nzA x)) ?_
  refine j_getv (S 6 0) dX0_servedNow_16 fX0_119 (shC (Sm.C sm3 hC) (sgH (isA.H x))) rfl (hvs (Sm.hv sm3 hS ok (PRH x)) (by decide)) ?_
  refine j_callV (kc := 0) (ks := 0) (a := 0) (b := 0) (d' := (d + 4)) (As := [.int (S 6 0)]) dX0_servedNow_19 kX0_147 rfl (shC (Sm.C sm3 hC) (sgA x)) (by omega) rfl rfl rfl (Nat.le_of_ble_eq_true rfl) (Nat.le_of_ble_eq_true rfl) (T_X0_reachFrom (Sm.C sm3 hC) x (Sm.hv sm3 hS ok (PRH x)) ok ha4 (S 6 0)) (kk_ev (fun M7 hM8 => ?_))
  obtain ⟨sm9, ha10, hr11, hk12⟩ := hM8
  replace sm9 := Sm.tr sm3 sm9
  refine j_aload_n 0 dX0_servedNow_22 rfl ?_
  refine j_aload_n 0 dX0_servedNow_23 rfl ?_
  refine j_getr (q := h) dX0_servedNow_24 fX0_31 (shC (Sm.C sm9 hC) (sgA x)) rfl (rfC (Sm.C sm9 hC) (rfA0 x) (nzA x)) ?_
  refine j_getv (S 5 0) dX0_servedNow_27 fX0_144 (shC (Sm.C sm9 hC) (sgH (isA.H x))) rfl (hvs (Sm.hv sm9 hS ok (PRH x)) (by decide)) ?_
  refine j_aload_n 0 dX0_servedNow_30 rfl ?_
  refine j_getr (q := h) dX0_servedNow_31 fX0_31 (shC (Sm.C sm9 hC) (sgA x)) rfl (rfC (Sm.C sm9 hC) (rfA0 x) (nzA x)) ?_
  refine j_getv (S 6 0) dX0_servedNow_34 fX0_119 (shC (Sm.C sm9 hC) (sgH (isA.H x))) rfl (hvs (Sm.hv sm9 hS ok (PRH x)) (by decide)) ?_
  refine j_callV (kc := 0) (ks := 0) (a := 0) (b := 0) (d' := (d + 4)) (As := [.int (S 5 0), .int (S 6 0)]) dX0_servedNow_37 kX0_151 rfl (shC (Sm.C sm9 hC) (sgA x)) (by omega) rfl rfl rfl (Nat.le_of_ble_eq_true rfl) (Nat.le_of_ble_eq_true rfl) (T_X0_servedBy (Sm.C sm9 hC) x (Sm.hv sm9 hS ok (PRH x)) ok ha10 (S 5 0) (S 6 0) (hk12 _ hr5) hr11) (kk_e (fun M13 hM14 => ?_))
  obtain ⟨sm15, ha16⟩ := hM14
  replace sm15 := Sm.tr sm9 (sm15.mo H4R)
  refine j_iret dX0_servedNow_40 rfl ?_
  exact hQ _ _ ⟨rfl, sm15, ha16⟩
