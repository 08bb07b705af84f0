/-! reading -/
def jk_or (v1 : Value) (P1 : jk_M → Prop) (v2 : Value) (P2 : jk_M → Prop) : Option Value → jk_M → Prop := fun r M' => (r = some v1 ∧ P1 M') ∨ (r = some v2 ∧ P2 M')
theorem kk_o {F : jk_F} {d kc ks pc : Nat} {L : List (Nat × Value)} {rest : List Value} {v1 v2 : Value} {P1 P2 : jk_M → Prop} {Q : Option Value → jk_M → Prop} (k1 : ∀ M', P1 M' → J F d kc ks pc L (v1 :: rest) M' Q) (k2 : ∀ M', P2 M' → J F d kc ks pc L (v2 :: rest) M' Q) : ∀ r M', jk_or v1 P1 v2 P2 r M' → J F d kc ks pc L (r.toList ++ rest) M' Q := by
  rintro r M' (⟨rfl, h⟩ | ⟨rfl, h⟩)
  · exact k1 M' h
  · exact k2 M' h
def TX (M : jk_M) (b n : Nat) (t : Nat → Int32) : Prop := isS b ∧ M.2.2.2 101 2 = some b ∧ n ≤ 160 ∧ M.2.1 b 1 = nI n ∧ ∀ i, shTl M b (nI i) = t i
theorem TX.sm {P : Nat → Prop} {M M1 : jk_M} {b n : Nat} {t : Nat → Int32} (h : TX M b n t) (s : Sm P M M1) (hp : ∀ q, 101 < q → ¬ 102 = q → ¬ P q) (h2 : b ≠ 102) : TX M1 b n t := by
  have hb : ¬ P b := hp b h.1.2.2.2 (fun e => h2 e.symm)
  exact ⟨h.1, by rw [s.2.1]; exact h.2.1, h.2.2.1, (Sm.rd s hb).trans h.2.2.2.1, fun i => (s.tl hb _).trans (h.2.2.2.2 i)⟩
theorem isS.n102 {b : Nat} (h : isS b) : b ≠ 102 := fun e => by
  have := h.1
  rw [e] at this
  exact absurd this (by decide)
def PRd (q : Nat) : Prop := HO 55 q ∨ q = 101 ∨ q = 102
theorem PRdP : ∀ q, 101 < q → ¬ 102 = q → ¬ PRd q := fun q h1 h2 e => by
  rcases e with e | e | e
  · have := HO55 e; omega
  all_goals omega
theorem PRdH : ∀ q, HO 1 q → ¬ PRd q := fun q hq e => by
  obtain ⟨h1, h2⟩ := hq
  rcases e with e | e | e
  · have := HO55 e; omega
  all_goals omega
/-- reader and its numbers -/
def PRn (q : Nat) : Prop := q = 101 ∨ q = 102
theorem PRnP : ∀ q, 101 < q → ¬ 102 = q → ¬ PRn q := fun q h1 h2 e => by rcases e with e | e <;> omega
theorem PRnH : ∀ q, HO 55 q → ¬ PRn q := fun q h e => by have := HO55 h; rcases e with e | e <;> omega
theorem PRnR : ∀ q, PRn q → PRd q := fun q e => Or.inr e
theorem shHas_n {M : jk_M} {b n : Nat} {t : Nat → Int32} (h : TX M b n t) {i : Nat} (hi : i < 1000) : shHas M b (nI i) ↔ i < n := by
  have e160 : (160 : Int32) = nI 160 := by decide
  unfold shHas
  rw [h.2.2.2.1, e160, nI_ltI (by omega) (by have := h.2.2.1; omega), nI_ltI (by omega) (by decide)]
  have := h.2.2.1
  exact ⟨fun z => z.2.1, fun z => ⟨nI_pos' (by omega), z, by omega⟩⟩
def dgS (n : Nat) (t : Nat → Int32) (p : Nat) : Int32 := if p < n ∧ 48 ≤ t p ∧ t p ≤ 57 then t p - 48 else -1
set_option maxRecDepth 20000 in
set_option maxHeartbeats 4000000 in
theorem T_X5_isAt {d : Nat} {M : jk_M} {b n : Nat} {t : Nat → Int32} (hC : WC M) (tx : TX M b n t) (i : Nat) (hi : i < 1000) (c : Int32) : J Fr_X5_isAt (d + 2) 0 0 0 [(0, .ref 101), (1, .int (nI i)), (2, .int c)] [] M (jk_is (some (.int (bI (i < n ∧ t i = c)))) M) := by
  refine j_post (fun Q hQ => ?_)
  refine j_aload_n 0 dX5_isAt_0 rfl ?_
  refine j_getr (q := b) dX5_isAt_1 fX5_18 (shC hC sgC_101) rfl tx.2.1 ?_
  refine j_iload_n 1 dX5_isAt_4 rfl ?_
  refine j_callV (kc := 0) (ks := 0) (a := 0) (b := 0) (d' := d) (As := [.int (nI i)]) dX5_isAt_5 kX5_94 rfl (shC hC (sgG tx.1)) (by omega) rfl rfl rfl (Nat.le_of_ble_eq_true rfl) (Nat.le_of_ble_eq_true rfl) (T_X8_has hC tx.1 (nI i)) (kk_p ?_)
  refine j_if_eqB (p := (shHas M b (nI i))) (tgt := 27) dX5_isAt_8 rfl (fun c1 => ?_) (fun c1 => ?_)
  · refine j_iconst 0 dX5_isAt_27 ic_0 ?_
    refine j_zret dX5_isAt_28 rfl rfl ?_
    exact hQ _ _ ⟨by rw [bI_f (fun z => (fun z => c1 ((shHas_n tx (by omega)).mpr z)) z.1)], rfl⟩
  · refine j_aload_n 0 dX5_isAt_11 rfl ?_
    refine j_getr (q := b) dX5_isAt_12 fX5_18 (shC hC sgC_101) rfl tx.2.1 ?_
    refine j_iload_n 1 dX5_isAt_15 rfl ?_
    refine j_callV (kc := 0) (ks := 0) (a := 0) (b := 0) (d' := (d + 1)) (As := [.int (nI i)]) dX5_isAt_16 kX5_97 rfl (shC hC (sgG tx.1)) (by omega) rfl rfl rfl (Nat.le_of_ble_eq_true rfl) (Nat.le_of_ble_eq_true rfl) (T_X8_tells hC tx.1 (nI i)) (kk_p ?_)
    refine j_topi (t i) (tx.2.2.2.2 i) ?_
    refine j_iload_n 2 dX5_isAt_19 rfl ?_
    refine j_icmp_ne (tgt := 27) dX5_isAt_20 rfl (fun c2 => ?_) (fun c2 => ?_)
    · refine j_iconst 0 dX5_isAt_27 ic_0 ?_
      refine j_zret dX5_isAt_28 rfl rfl ?_
      exact hQ _ _ ⟨by rw [bI_f (fun z => c2 z.2)], rfl⟩
    · refine j_iconst 1 dX5_isAt_23 ic_1 ?_
      refine j_goto (tgt := 28) dX5_isAt_24 rfl ?_
      refine j_zret dX5_isAt_28 rfl rfl ?_
      exact hQ _ _ ⟨by rw [bI_t (p := i < n ∧ t i = c) ⟨((shHas_n tx (by omega)).mp c1), c2⟩], rfl⟩
set_option maxRecDepth 20000 in
set_option maxHeartbeats 4000000 in
theorem T_X5_digitHere {d : Nat} {M : jk_M} {b n : Nat} {t : Nat → Int32} (hC : WC M) (tx : TX M b n t) (p : Nat) (hp : M.2.1 101 3 = nI p) (h9 : p < 900) : J Fr_X5_digitHere (d + 2) 0 0 0 [(0, .ref 101)] [] M (jk_is (some (.int (dgS n t p))) M) := by
  refine j_post (fun Q hQ => ?_)
  refine j_aload_n 0 dX5_digitHere_0 rfl ?_
  refine j_getr (q := b) dX5_digitHere_1 fX5_18 (shC hC sgC_101) rfl tx.2.1 ?_
  refine j_aload_n 0 dX5_digitHere_4 rfl ?_
  refine j_getv (nI p) dX5_digitHere_5 fX5_22 (shC hC sgC_101) rfl hp ?_
  refine j_callV (kc := 0) (ks := 0) (a := 0) (b := 0) (d' := (d + 1)) (As := [.int (nI p)]) dX5_digitHere_8 kX5_97 rfl (shC hC (sgG tx.1)) (by omega) rfl rfl rfl (Nat.le_of_ble_eq_true rfl) (Nat.le_of_ble_eq_true rfl) (T_X8_tells hC tx.1 (nI p)) (kk_p ?_)
  refine j_topi (t p) (tx.2.2.2.2 p) ?_
  refine j_istore_n (L' := [(1, .int (t p)), (0, .ref 101)]) dX5_digitHere_11 (by decide) rfl ?_
  refine j_aload_n 1 dX5_digitHere_12 rfl ?_
  refine j_getr (q := b) dX5_digitHere_13 fX5_18 (shC hC sgC_101) rfl tx.2.1 ?_
  refine j_aload_n 1 dX5_digitHere_16 rfl ?_
  refine j_getv (nI p) dX5_digitHere_17 fX5_22 (shC hC sgC_101) rfl hp ?_
  refine j_callV (kc := 0) (ks := 0) (a := 0) (b := 0) (d' := d) (As := [.int (nI p)]) dX5_digitHere_20 kX5_94 rfl (shC hC (sgG tx.1)) (by omega) rfl rfl rfl (Nat.le_of_ble_eq_true rfl) (Nat.le_of_ble_eq_true rfl) (T_X8_has hC tx.1 (nI p)) (kk_p ?_)
  refine j_if_eqB (p := (shHas M b (nI p))) (tgt := 45) dX5_digitHere_23 rfl (fun c1 => ?_) (fun c1 => ?_)
  · refine j_iconst (-1) dX5_digitHere_45 ic_n1 ?_
    refine j_iret dX5_digitHere_46 rfl ?_
    have hk : ¬ (p < n ∧ 48 ≤ t p ∧ t p ≤ 57) := by
      exact fun z => (fun z => c1 ((shHas_n tx (by omega)).mpr z)) z.1
    exact hQ _ _ ⟨by rw [dgS, if_neg hk], rfl⟩
  · refine j_iload_n 0 dX5_digitHere_26 rfl ?_
    refine j_bipush 48 dX5_digitHere_27 bp_48 ?_
    refine j_icmp_lt (tgt := 45) dX5_digitHere_29 rfl (fun c2 => ?_) (fun c2 => ?_)
    · refine j_iconst (-1) dX5_digitHere_45 ic_n1 ?_
      refine j_iret dX5_digitHere_46 rfl ?_
      have hk : ¬ (p < n ∧ 48 ≤ t p ∧ t p ≤ 57) := by
        clear hQ; grind
      exact hQ _ _ ⟨by rw [dgS, if_neg hk], rfl⟩
    · refine j_iload_n 0 dX5_digitHere_32 rfl ?_
      refine j_bipush 57 dX5_digitHere_33 bp_57 ?_
      refine j_icmp_gt (tgt := 45) dX5_digitHere_35 rfl (fun c3 => ?_) (fun c3 => ?_)
      · refine j_iconst (-1) dX5_digitHere_45 ic_n1 ?_
        refine j_iret dX5_digitHere_46 rfl ?_
        have hk : ¬ (p < n ∧ 48 ≤ t p ∧ t p ≤ 57) := by
          clear hQ; grind
        exact hQ _ _ ⟨by rw [dgS, if_neg hk], rfl⟩
      · refine j_iload_n 0 dX5_digitHere_38 rfl ?_
        refine j_bipush 48 dX5_digitHere_39 bp_48 ?_
        refine j_isub dX5_digitHere_41 ?_
        refine j_goto (tgt := 46) dX5_digitHere_42 rfl ?_
        refine j_iret dX5_digitHere_46 rfl ?_
        have hz := ((shHas_n tx (by omega)).mp c1)
        have hk : p < n ∧ 48 ≤ t p ∧ t p ≤ 57 := by clear hQ; grind
        exact hQ _ _ ⟨by rw [dgS, if_pos hk], rfl⟩
set_option maxRecDepth 20000 in
set_option maxHeartbeats 4000000 in
theorem T_X5_isHere {d : Nat} {M : jk_M} {b n : Nat} {t : Nat → Int32} (hC : WC M) (tx : TX M b n t) (p : Nat) (hp : M.2.1 101 3 = nI p) (h9 : p < 900) (c : Int32) : J Fr_X5_isHere (d + 3) 0 0 0 [(0, .ref 101), (1, .int c)] [] M (jk_is (some (.int (bI (p < n ∧ t p = c)))) M) := by
  refine j_post (fun Q hQ => ?_)
  refine j_aload_n 0 dX5_isHere_0 rfl ?_
  refine j_aload_n 0 dX5_isHere_1 rfl ?_
  refine j_getv (nI p) dX5_isHere_2 fX5_22 (shC hC sgC_101) rfl hp ?_
  refine j_iload_n 1 dX5_isHere_5 rfl ?_
  refine j_callV (kc := 0) (ks := 0) (a := 0) (b := 0) (d' := (d + 2)) (As := [.int (nI p), .int c]) dX5_isHere_6 kX5_77 rfl (shC hC sgC_101) (by omega) rfl rfl rfl (Nat.le_of_ble_eq_true rfl) (Nat.le_of_ble_eq_true rfl) (T_X5_isAt hC tx p (by omega) c) (kk_p ?_)
  refine j_zret dX5_isHere_9 rfl bI_nar ?_
  exact hQ _ _ ⟨rfl, rfl⟩
