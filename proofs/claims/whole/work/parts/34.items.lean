/-! items -/
theorem thing_in {x : Int32} {n : Nat} (hn : n ≤ 16) (h : 0 ≤ x ∧ x < nI n) : ∃ i, i < n ∧ x = nI i := by
  obtain ⟨j, hj, e⟩ := nI_of (Int32.not_lt.mpr h.1)
  have h2 := h.2
  rw [e, nI_ltI hj (by omega)] at h2
  exact ⟨j, h2, e⟩
noncomputable def nuL (S : HS) (n : Nat) (t : Nat → Int32) (w p : Nat) : Nat → Nat ⊕ (Nat × (Nat → Int32))
  | 0 => .inr (p, fun _ => 0)
  | i + 1 => match nuL S n t w p i with
    | .inl f => .inl f
    | .inr (q, v) => if soN w i = -1 then .inr (q, v) else match nuS S n t (soN w i) q with
      | .inl f => .inl f
      | .inr (x, q2) => .inr (q2, va_up v i x)
section NL
variable {S : HS} {n : Nat} {t : Nat → Int32} {w p i q : Nat} {v : Nat → Int32}
theorem nuL_f {f : Nat} (h : nuL S n t w p i = .inl f) : ∀ k, nuL S n t w p (i + k) = .inl f
  | 0 => h
  | k + 1 => by
    show (match nuL S n t w p (i + k) with | .inl f => _ | .inr (q, v) => _) = _
    rw [nuL_f h k]
theorem nuL_k (h : nuL S n t w p i = .inr (q, v)) (e : soN w i = -1) : nuL S n t w p (i + 1) = .inr (q, v) := by simp only [nuL, h, e, if_true]
theorem nuL_n {f : Nat} (h : nuL S n t w p i = .inr (q, v)) (e : ¬ soN w i = -1) (h2 : nuS S n t (soN w i) q = .inl f) : nuL S n t w p (i + 1) = .inl f := by simp only [nuL, h, e, if_false, h2]
theorem nuL_y {x : Int32} {q2 : Nat} (h : nuL S n t w p i = .inr (q, v)) (e : ¬ soN w i = -1) (h2 : nuS S n t (soN w i) q = .inr (x, q2)) : nuL S n t w p (i + 1) = .inr (q2, va_up v i x) := by simp only [nuL, h, e, if_false, h2]
end NL
theorem dg_lt {n : Nat} {t : Nat → Int32} {p : Nat} (h : ¬ dgS n t p = -1) : p < n := by
  unfold dgS at h
  by_cases c : p < n ∧ 48 ≤ t p ∧ t p ≤ 57
  · exact c.1
  · rw [if_neg c] at h; exact absurd rfl h
theorem nuS_in {S : HS} {n : Nat} {t : Nat → Int32} {z x : Int32} {p q : Nat} (h : nuS S n t z p = .inr (x, q)) : mayS S z x ∧ p + 2 ≤ q ∧ q ≤ p + 4 ∧ q ≤ n := by
  by_cases h1 : p < n ∧ t p = 32
  · by_cases h2 : dgS n t (p + 1) = -1
    · rw [nuS_1 h1 h2] at h; cases h
    · by_cases h3 : mayS S z (nuV n t (p + 1)).1
      · rw [nuS_3 h1 h2 h3] at h
        have e : nuV n t (p + 1) = (x, q) := by simpa using h
        rw [e] at h3
        refine ⟨h3, ?_⟩
        have l1 := dg_lt h2
        by_cases h4 : dgS n t (p + 1 + 1) = -1
        · rw [nuV_1 h4] at e
          have := congrArg Prod.snd e
          simp only at this; omega
        · rw [nuV_2 h4] at e
          have l2 := dg_lt h4
          have := congrArg Prod.snd e
          simp only at this; omega
      · rw [nuS_2 h1 h2 h3] at h; cases h
  · rw [nuS_0 h1] at h; cases h
theorem nuL_may {S : HS} {n : Nat} {t : Nat → Int32} {w p : Nat} : ∀ i q v, nuL S n t w p i = .inr (q, v) → (∀ k, k < i → soN w k ≠ -1 → mayS S (soN w k) (v k)) ∧ p ≤ q ∧ q ≤ p + 4 * i ∧ (p ≤ n → q ≤ n)
  | 0, q, v, h => by
    have e : (p, fun _ => (0 : Int32)) = (q, v) := by simpa [nuL] using h
    have := congrArg Prod.fst e
    simp only at this
    exact ⟨fun k hk => absurd hk (Nat.not_lt_zero k), by omega, by omega, by omega⟩
  | i + 1, q, v, h => by
    cases hi : nuL S n t w p i with
    | inl f => have := nuL_f hi 1; rw [this] at h; cases h
    | inr qv =>
      obtain ⟨q0, v0⟩ := qv
      have ih := nuL_may i q0 v0 hi
      by_cases e : soN w i = -1
      · rw [nuL_k hi e] at h
        have e2 : (q0, v0) = (q, v) := by simpa using h
        obtain ⟨rfl, rfl⟩ := Prod.mk.inj e2
        refine ⟨fun k hk hs => ?_, ih.2.1, by omega, ih.2.2.2⟩
        rcases Nat.lt_succ_iff_lt_or_eq.mp hk with hk | hk
        · exact ih.1 k hk hs
        · subst hk; exact absurd e hs
      · cases h2 : nuS S n t (soN w i) q0 with
        | inl f => rw [nuL_n hi e h2] at h; cases h
        | inr xq =>
          obtain ⟨x, q2⟩ := xq
          rw [nuL_y hi e h2] at h
          have e2 : (q2, va_up v0 i x) = (q, v) := by simpa using h
          obtain ⟨rfl, rfl⟩ := Prod.mk.inj e2
          obtain ⟨m1, m2, m3, m4⟩ := nuS_in h2
          refine ⟨fun k hk hs => ?_, by omega, by omega, fun _ => m4⟩
          by_cases ek : k = i
          · subst ek; rw [va_up_self]; exact m1
          · rw [va_up_ne _ _ ek]; exact ih.1 k (by omega) hs
noncomputable def itS (S : HS) (n : Nat) (t : Nat → Int32) (p : Nat) : Nat ⊕ (HS × Nat) := match wdN n t p 10 with
  | none => .inl (p + msN n t p 10)
  | some w => @ite _ (roomS S w) (Classical.propDecidable _) (match nuL S n t w (p + jk_sL.getD w 0) 3 with
    | .inl f => .inl f
    | .inr (q, v) => .inr (apS S w (v 0) (v 1) (v 2), q)) (.inl p)
section IT
variable {S : HS} {n : Nat} {t : Nat → Int32} {w p q : Nat} {v : Nat → Int32}
theorem itS_0 (h : wdN n t p 10 = none) : itS S n t p = .inl (p + msN n t p 10) := by simp only [itS, h]
theorem itS_1 (h : wdN n t p 10 = some w) (hr : ¬ roomS S w) : itS S n t p = .inl p := by simp only [itS, h]; exact @if_neg _ (Classical.propDecidable _) hr _ _ _
theorem itS_2 {f : Nat} (h : wdN n t p 10 = some w) (hr : roomS S w) (h2 : nuL S n t w (p + jk_sL.getD w 0) 3 = .inl f) : itS S n t p = .inl f := by simp only [itS, h]; exact (@if_pos _ (Classical.propDecidable _) hr _ _ _).trans (by rw [h2])
theorem itS_3 (h : wdN n t p 10 = some w) (hr : roomS S w) (h2 : nuL S n t w (p + jk_sL.getD w 0) 3 = .inr (q, v)) : itS S n t p = .inr (apS S w (v 0) (v 1) (v 2), q) := by simp only [itS, h]; exact (@if_pos _ (Classical.propDecidable _) hr _ _ _).trans (by rw [h2])
end IT
theorem apS_eq {S : HS} {w : Nat} (hw : w < 10) {x v : Nat → Int32} (h : ∀ k, k < 3 → soN w k ≠ -1 → x k = v k) : apS S w (x 0) (x 1) (x 2) = apS S w (v 0) (v 1) (v 2) := by
  have hw10 : w = 0 ∨ w = 1 ∨ w = 2 ∨ w = 3 ∨ w = 4 ∨ w = 5 ∨ w = 6 ∨ w = 7 ∨ w = 8 ∨ w = 9 := by omega
  have h0 := h 0 (by decide)
  have h1 := h 1 (by decide)
  have h2 := h 2 (by decide)
  rcases hw10 with rfl | rfl | rfl | rfl | rfl | rfl | rfl | rfl | rfl | rfl
  · rw [h0 (by decide)]; rfl
  · rw [h0 (by decide), h1 (by decide), h2 (by decide)]
  · rw [h0 (by decide), h1 (by decide)]; rfl
  · rw [h0 (by decide)]; rfl
  · rw [h0 (by decide)]; rfl
  · rw [h0 (by decide), h1 (by decide)]; rfl
  · rw [h0 (by decide), h1 (by decide), h2 (by decide)]
  · rw [h0 (by decide)]; rfl
  · rw [h0 (by decide)]; rfl
  · rw [h0 (by decide)]; rfl
theorem may10 {S : HS} {x : Int32} (ok : Sok S) (h : mayS S 10 x) : ∃ i, i < nT S ∧ x = nI i := by
  have h1 : ¬ (10 : Int32) = 3 := by decide
  unfold mayS at h
  rw [if_neg h1] at h
  obtain ⟨-, -, -, h4, h5, -⟩ := h
  have h5 : (0 : Int32) ≤ x := h5
  refine thing_in (Sok.T ok).2 ⟨h5, Int32.not_le.mp (fun z => h4 ⟨rfl, z⟩)⟩
set_option maxRecDepth 20000 in
set_option maxHeartbeats 4000000 in
theorem T_ap_0I {d : Nat} {M : jk_M} {S : HS} (hC : WC M) (hd : hv M.2.1 55 = S) (ok : Sok S) (x1 x2 : Int32) (i : Nat) (hi : i < nT S) (e0 : M.2.1 102 0 = nI i) (e1 : M.2.1 102 1 = x1) (e2 : M.2.1 102 2 = x2) (hr : roomS S 0) : J Fr_X5_apply (d + 2) 0 0 0 [(0, .ref 101), (1, .int 0)] [] M (jk_ex none (fun M1 => Sm (HO 55) M M1 ∧ hv M1.2.1 55 = apS S 0 (nI i) x1 x2)) := by
  refine j_post (fun Q hQ => ?_)
  obtain ⟨q1, q2, q3⟩ := ok.cn
  obtain ⟨r1, r2, r3⟩ := hr
  refine j_aload_n 0 dX5_apply_0 rfl ?_
  refine j_getr (q := 102) dX5_apply_1 fX5_11 (shC hC sgC_101) rfl (rfC hC rfC_101_1 (fun x => absurd x.2 (by decide))) ?_
  refine j_iconst 0 dX5_apply_4 ic_0 ?_
  refine j_ialdN 0 dX5_apply_5 (shC hC sgC_102) (by omega) (by omega) ?_
  refine j_topi (nI i) e0 ?_
  refine j_istore_n (L' := [(2, .int (nI i)), (0, .ref 101), (1, .int 0)]) dX5_apply_6 (by decide) rfl ?_
  refine j_aload_n 1 dX5_apply_7 rfl ?_
  refine j_getr (q := 102) dX5_apply_8 fX5_11 (shC hC sgC_101) rfl (rfC hC rfC_101_1 (fun x => absurd x.2 (by decide))) ?_
  refine j_iconst 1 dX5_apply_11 ic_1 ?_
  refine j_ialdN 1 dX5_apply_12 (shC hC sgC_102) (by omega) (by omega) ?_
  refine j_topi x1 e1 ?_
  refine j_istore_n (L' := [(3, .int x1), (2, .int (nI i)), (0, .ref 101), (1, .int 0)]) dX5_apply_13 (by decide) rfl ?_
  refine j_aload_n 2 dX5_apply_14 rfl ?_
  refine j_getr (q := 102) dX5_apply_15 fX5_11 (shC hC sgC_101) rfl (rfC hC rfC_101_1 (fun x => absurd x.2 (by decide))) ?_
  refine j_iconst 2 dX5_apply_18 ic_2 ?_
  refine j_ialdN 2 dX5_apply_19 (shC hC sgC_102) (by omega) (by omega) ?_
  refine j_topi x2 e2 ?_
  refine j_istore (L' := [(4, .int x2), (3, .int x1), (2, .int (nI i)), (0, .ref 101), (1, .int 0)]) dX5_apply_20 (by decide) rfl ?_
  refine j_aload_n 3 dX5_apply_22 rfl ?_
  refine j_getr (q := 55) dX5_apply_23 fX5_29 (shC hC sgC_101) rfl (rfC hC rfC_101_0 (fun x => absurd x.2 (by decide))) ?_
  refine j_iload_n 2 dX5_apply_26 rfl ?_
  refine j_callV (kc := 0) (ks := 0) (a := 0) (b := 0) (d' := d) (As := [.int (nI i)]) dX5_apply_27 kX5_110 rfl (shC hC (sgH (by simp [isH]))) (by omega) rfl rfl rfl (Nat.le_of_ble_eq_true rfl) (Nat.le_of_ble_eq_true rfl) (T_X2_thingAt hC (by simp [isH]) hd ok i (by omega)) (kk_p ?_)
  refine j_astore (L' := [(5, .ref (55 + 5 + i)), (4, .int x2), (3, .int x1), (2, .int (nI i)), (0, .ref 101), (1, .int 0)]) dX5_apply_30 (by decide) rfl ?_
  refine j_iload_n 5 dX5_apply_32 rfl ?_
  refine j_tableIn (tgt := 88) dX5_apply_33 (by decide) (by decide) (off := 55) (by decide) rfl ?_
  refine j_aload_n 4 dX5_apply_88 rfl ?_
  refine j_getr (q := 55) dX5_apply_89 fX5_29 (shC hC sgC_101) rfl (rfC hC rfC_101_0 (fun x => absurd x.2 (by decide))) ?_
  refine j_iload_n 3 dX5_apply_92 rfl ?_
  refine j_put dX5_apply_93 fX5_114 (shC hC (sgH (by simp [isH]))) rfl ?_
  have sm1 : Sm (HO 55) M (jk_wI M 55 0 (nI i)) := Sm.w Sm.rf HOz
  refine j_goto (tgt := 208) dX5_apply_96 rfl ?_
  refine j_vret dX5_apply_208 rfl ?_
  exact hQ _ _ ⟨rfl, sm1, hv_sc hd ok (by decide) (by decide) (by decide) (by decide)⟩
set_option maxRecDepth 20000 in
set_option maxHeartbeats 4000000 in
theorem T_ap_0O {d : Nat} {M : jk_M} {S : HS} (hC : WC M) (hd : hv M.2.1 55 = S) (ok : Sok S) (x1 x2 : Int32) (x0 : Int32) (hx : ¬ (0 ≤ x0 ∧ x0 < nI (nT S))) (e0 : M.2.1 102 0 = x0) (e1 : M.2.1 102 1 = x1) (e2 : M.2.1 102 2 = x2) (hr : roomS S 0) : J Fr_X5_apply (d + 2) 0 0 0 [(0, .ref 101), (1, .int 0)] [] M (jk_ex none (fun M1 => Sm (HO 55) M M1 ∧ hv M1.2.1 55 = apS S 0 x0 x1 x2)) := by
  refine j_post (fun Q hQ => ?_)
  obtain ⟨q1, q2, q3⟩ := ok.cn
  obtain ⟨r1, r2, r3⟩ := hr
  refine j_aload_n 0 dX5_apply_0 rfl ?_
  refine j_getr (q := 102) dX5_apply_1 fX5_11 (shC hC sgC_101) rfl (rfC hC rfC_101_1 (fun x => absurd x.2 (by decide))) ?_
  refine j_iconst 0 dX5_apply_4 ic_0 ?_
  refine j_ialdN 0 dX5_apply_5 (shC hC sgC_102) (by omega) (by omega) ?_
  refine j_topi x0 e0 ?_
  refine j_istore_n (L' := [(2, .int x0), (0, .ref 101), (1, .int 0)]) dX5_apply_6 (by decide) rfl ?_
  refine j_aload_n 1 dX5_apply_7 rfl ?_
  refine j_getr (q := 102) dX5_apply_8 fX5_11 (shC hC sgC_101) rfl (rfC hC rfC_101_1 (fun x => absurd x.2 (by decide))) ?_
  refine j_iconst 1 dX5_apply_11 ic_1 ?_
  refine j_ialdN 1 dX5_apply_12 (shC hC sgC_102) (by omega) (by omega) ?_
  refine j_topi x1 e1 ?_
  refine j_istore_n (L' := [(3, .int x1), (2, .int x0), (0, .ref 101), (1, .int 0)]) dX5_apply_13 (by decide) rfl ?_
  refine j_aload_n 2 dX5_apply_14 rfl ?_
  refine j_getr (q := 102) dX5_apply_15 fX5_11 (shC hC sgC_101) rfl (rfC hC rfC_101_1 (fun x => absurd x.2 (by decide))) ?_
  refine j_iconst 2 dX5_apply_18 ic_2 ?_
  refine j_ialdN 2 dX5_apply_19 (shC hC sgC_102) (by omega) (by omega) ?_
  refine j_topi x2 e2 ?_
  refine j_istore (L' := [(4, .int x2), (3, .int x1), (2, .int x0), (0, .ref 101), (1, .int 0)]) dX5_apply_20 (by decide) rfl ?_
  refine j_aload_n 3 dX5_apply_22 rfl ?_
  refine j_getr (q := 55) dX5_apply_23 fX5_29 (shC hC sgC_101) rfl (rfC hC rfC_101_0 (fun x => absurd x.2 (by decide))) ?_
  refine j_iload_n 2 dX5_apply_26 rfl ?_
  refine j_callV (kc := 0) (ks := 0) (a := 0) (b := 0) (d' := d) (As := [.int x0]) dX5_apply_27 kX5_110 rfl (shC hC (sgH (by simp [isH]))) (by omega) rfl rfl rfl (Nat.le_of_ble_eq_true rfl) (Nat.le_of_ble_eq_true rfl) (T_X2_thingAtN hC (by simp [isH]) hd ok x0 hx) (kk_p ?_)
  refine j_astoreN (L' := [(5, .null), (4, .int x2), (3, .int x1), (2, .int x0), (0, .ref 101), (1, .int 0)]) dX5_apply_30 (by decide) rfl ?_
  refine j_iload_n 5 dX5_apply_32 rfl ?_
  refine j_tableIn (tgt := 88) dX5_apply_33 (by decide) (by decide) (off := 55) (by decide) rfl ?_
  refine j_aload_n 4 dX5_apply_88 rfl ?_
  refine j_getr (q := 55) dX5_apply_89 fX5_29 (shC hC sgC_101) rfl (rfC hC rfC_101_0 (fun x => absurd x.2 (by decide))) ?_
  refine j_iload_n 3 dX5_apply_92 rfl ?_
  refine j_put dX5_apply_93 fX5_114 (shC hC (sgH (by simp [isH]))) rfl ?_
  have sm1 : Sm (HO 55) M (jk_wI M 55 0 x0) := Sm.w Sm.rf HOz
  refine j_goto (tgt := 208) dX5_apply_96 rfl ?_
  refine j_vret dX5_apply_208 rfl ?_
  exact hQ _ _ ⟨rfl, sm1, hv_sc hd ok (by decide) (by decide) (by decide) (by decide)⟩
set_option maxRecDepth 20000 in
set_option maxHeartbeats 4000000 in
theorem T_ap_1I {d : Nat} {M : jk_M} {S : HS} (hC : WC M) (hd : hv M.2.1 55 = S) (ok : Sok S) (x1 x2 : Int32) (i : Nat) (hi : i < nT S) (e0 : M.2.1 102 0 = nI i) (e1 : M.2.1 102 1 = x1) (e2 : M.2.1 102 2 = x2) (hr : roomS S 1) : J Fr_X5_apply (d + 2) 0 0 0 [(0, .ref 101), (1, .int 1)] [] M (jk_ex none (fun M1 => Sm (HO 55) M M1 ∧ hv M1.2.1 55 = apS S 1 (nI i) x1 x2)) := by
  refine j_post (fun Q hQ => ?_)
  obtain ⟨q1, q2, q3⟩ := ok.cn
  obtain ⟨r1, r2, r3⟩ := hr
  refine j_aload_n 0 dX5_apply_0 rfl ?_
  refine j_getr (q := 102) dX5_apply_1 fX5_11 (shC hC sgC_101) rfl (rfC hC rfC_101_1 (fun x => absurd x.2 (by decide))) ?_
  refine j_iconst 0 dX5_apply_4 ic_0 ?_
  refine j_ialdN 0 dX5_apply_5 (shC hC sgC_102) (by omega) (by omega) ?_
  refine j_topi (nI i) e0 ?_
  refine j_istore_n (L' := [(2, .int (nI i)), (0, .ref 101), (1, .int 1)]) dX5_apply_6 (by decide) rfl ?_
  refine j_aload_n 1 dX5_apply_7 rfl ?_
  refine j_getr (q := 102) dX5_apply_8 fX5_11 (shC hC sgC_101) rfl (rfC hC rfC_101_1 (fun x => absurd x.2 (by decide))) ?_
  refine j_iconst 1 dX5_apply_11 ic_1 ?_
  refine j_ialdN 1 dX5_apply_12 (shC hC sgC_102) (by omega) (by omega) ?_
  refine j_topi x1 e1 ?_
  refine j_istore_n (L' := [(3, .int x1), (2, .int (nI i)), (0, .ref 101), (1, .int 1)]) dX5_apply_13 (by decide) rfl ?_
  refine j_aload_n 2 dX5_apply_14 rfl ?_
  refine j_getr (q := 102) dX5_apply_15 fX5_11 (shC hC sgC_101) rfl (rfC hC rfC_101_1 (fun x => absurd x.2 (by decide))) ?_
  refine j_iconst 2 dX5_apply_18 ic_2 ?_
  refine j_ialdN 2 dX5_apply_19 (shC hC sgC_102) (by omega) (by omega) ?_
  refine j_topi x2 e2 ?_
  refine j_istore (L' := [(4, .int x2), (3, .int x1), (2, .int (nI i)), (0, .ref 101), (1, .int 1)]) dX5_apply_20 (by decide) rfl ?_
  refine j_aload_n 3 dX5_apply_22 rfl ?_
  refine j_getr (q := 55) dX5_apply_23 fX5_29 (shC hC sgC_101) rfl (rfC hC rfC_101_0 (fun x => absurd x.2 (by decide))) ?_
  refine j_iload_n 2 dX5_apply_26 rfl ?_
  refine j_callV (kc := 0) (ks := 0) (a := 0) (b := 0) (d' := d) (As := [.int (nI i)]) dX5_apply_27 kX5_110 rfl (shC hC (sgH (by simp [isH]))) (by omega) rfl rfl rfl (Nat.le_of_ble_eq_true rfl) (Nat.le_of_ble_eq_true rfl) (T_X2_thingAt hC (by simp [isH]) hd ok i (by omega)) (kk_p ?_)
  refine j_astore (L' := [(5, .ref (55 + 5 + i)), (4, .int x2), (3, .int x1), (2, .int (nI i)), (0, .ref 101), (1, .int 1)]) dX5_apply_30 (by decide) rfl ?_
  refine j_iload_n 5 dX5_apply_32 rfl ?_
  refine j_tableIn (tgt := 99) dX5_apply_33 (by decide) (by decide) (off := 66) (by decide) rfl ?_
  refine j_aload_n 4 dX5_apply_99 rfl ?_
  refine j_getr (q := 55) dX5_apply_100 fX5_29 (shC hC sgC_101) rfl (rfC hC rfC_101_0 (fun x => absurd x.2 (by decide))) ?_
  refine j_iload_n 3 dX5_apply_103 rfl ?_
  refine j_iload_n 2 dX5_apply_104 rfl ?_
  refine j_iload 1 dX5_apply_105 rfl ?_
  refine j_callV (kc := 0) (ks := 0) (a := 0) (b := 0) (d' := (d + 1)) (As := [.int (nI i), .int x1, .int x2]) dX5_apply_107 kX5_117 rfl (shC hC (sgH (by simp [isH]))) (by omega) rfl rfl rfl (Nat.le_of_ble_eq_true rfl) (Nat.le_of_ble_eq_true rfl) (T_X2_addThing hC (by simp [isH]) hd ok (nI i) x1 x2 (by have := (Sok.T ok).2; omega)) (kk_e (fun M1 hM2 => ?_))
  obtain ⟨sm3, hv4⟩ := hM2
  refine j_pop dX5_apply_110 rfl ?_
  refine j_goto (tgt := 208) dX5_apply_111 rfl ?_
  refine j_vret dX5_apply_208 rfl ?_
  exact hQ _ _ ⟨rfl, sm3, hv4⟩
set_option maxRecDepth 20000 in
set_option maxHeartbeats 4000000 in
theorem T_ap_1O {d : Nat} {M : jk_M} {S : HS} (hC : WC M) (hd : hv M.2.1 55 = S) (ok : Sok S) (x1 x2 : Int32) (x0 : Int32) (hx : ¬ (0 ≤ x0 ∧ x0 < nI (nT S))) (e0 : M.2.1 102 0 = x0) (e1 : M.2.1 102 1 = x1) (e2 : M.2.1 102 2 = x2) (hr : roomS S 1) : J Fr_X5_apply (d + 2) 0 0 0 [(0, .ref 101), (1, .int 1)] [] M (jk_ex none (fun M1 => Sm (HO 55) M M1 ∧ hv M1.2.1 55 = apS S 1 x0 x1 x2)) := by
  refine j_post (fun Q hQ => ?_)
  obtain ⟨q1, q2, q3⟩ := ok.cn
  obtain ⟨r1, r2, r3⟩ := hr
  refine j_aload_n 0 dX5_apply_0 rfl ?_
  refine j_getr (q := 102) dX5_apply_1 fX5_11 (shC hC sgC_101) rfl (rfC hC rfC_101_1 (fun x => absurd x.2 (by decide))) ?_
  refine j_iconst 0 dX5_apply_4 ic_0 ?_
  refine j_ialdN 0 dX5_apply_5 (shC hC sgC_102) (by omega) (by omega) ?_
  refine j_topi x0 e0 ?_
  refine j_istore_n (L' := [(2, .int x0), (0, .ref 101), (1, .int 1)]) dX5_apply_6 (by decide) rfl ?_
  refine j_aload_n 1 dX5_apply_7 rfl ?_
  refine j_getr (q := 102) dX5_apply_8 fX5_11 (shC hC sgC_101) rfl (rfC hC rfC_101_1 (fun x => absurd x.2 (by decide))) ?_
  refine j_iconst 1 dX5_apply_11 ic_1 ?_
  refine j_ialdN 1 dX5_apply_12 (shC hC sgC_102) (by omega) (by omega) ?_
  refine j_topi x1 e1 ?_
  refine j_istore_n (L' := [(3, .int x1), (2, .int x0), (0, .ref 101), (1, .int 1)]) dX5_apply_13 (by decide) rfl ?_
  refine j_aload_n 2 dX5_apply_14 rfl ?_
  refine j_getr (q := 102) dX5_apply_15 fX5_11 (shC hC sgC_101) rfl (rfC hC rfC_101_1 (fun x => absurd x.2 (by decide))) ?_
  refine j_iconst 2 dX5_apply_18 ic_2 ?_
  refine j_ialdN 2 dX5_apply_19 (shC hC sgC_102) (by omega) (by omega) ?_
  refine j_topi x2 e2 ?_
  refine j_istore (L' := [(4, .int x2), (3, .int x1), (2, .int x0), (0, .ref 101), (1, .int 1)]) dX5_apply_20 (by decide) rfl ?_
  refine j_aload_n 3 dX5_apply_22 rfl ?_
  refine j_getr (q := 55) dX5_apply_23 fX5_29 (shC hC sgC_101) rfl (rfC hC rfC_101_0 (fun x => absurd x.2 (by decide))) ?_
  refine j_iload_n 2 dX5_apply_26 rfl ?_
  refine j_callV (kc := 0) (ks := 0) (a := 0) (b := 0) (d' := d) (As := [.int x0]) dX5_apply_27 kX5_110 rfl (shC hC (sgH (by simp [isH]))) (by omega) rfl rfl rfl (Nat.le_of_ble_eq_true rfl) (Nat.le_of_ble_eq_true rfl) (T_X2_thingAtN hC (by simp [isH]) hd ok x0 hx) (kk_p ?_)
  refine j_astoreN (L' := [(5, .null), (4, .int x2), (3, .int x1), (2, .int x0), (0, .ref 101), (1, .int 1)]) dX5_apply_30 (by decide) rfl ?_
  refine j_iload_n 5 dX5_apply_32 rfl ?_
  refine j_tableIn (tgt := 99) dX5_apply_33 (by decide) (by decide) (off := 66) (by decide) rfl ?_
  refine j_aload_n 4 dX5_apply_99 rfl ?_
  refine j_getr (q := 55) dX5_apply_100 fX5_29 (shC hC sgC_101) rfl (rfC hC rfC_101_0 (fun x => absurd x.2 (by decide))) ?_
  refine j_iload_n 3 dX5_apply_103 rfl ?_
  refine j_iload_n 2 dX5_apply_104 rfl ?_
  refine j_iload 1 dX5_apply_105 rfl ?_
  refine j_callV (kc := 0) (ks := 0) (a := 0) (b := 0) (d' := (d + 1)) (As := [.int x0, .int x1, .int x2]) dX5_apply_107 kX5_117 rfl (shC hC (sgH (by simp [isH]))) (by omega) rfl rfl rfl (Nat.le_of_ble_eq_true rfl) (Nat.le_of_ble_eq_true rfl) (T_X2_addThing hC (by simp [isH]) hd ok x0 x1 x2 (by have := (Sok.T ok).2; omega)) (kk_e (fun M1 hM2 => ?_))
  obtain ⟨sm3, hv4⟩ := hM2
  refine j_pop dX5_apply_110 rfl ?_
  refine j_goto (tgt := 208) dX5_apply_111 rfl ?_
  refine j_vret dX5_apply_208 rfl ?_
  exact hQ _ _ ⟨rfl, sm3, hv4⟩
set_option maxRecDepth 20000 in
set_option maxHeartbeats 4000000 in
theorem T_ap_2I {d : Nat} {M : jk_M} {S : HS} (hC : WC M) (hd : hv M.2.1 55 = S) (ok : Sok S) (x1 x2 : Int32) (i : Nat) (hi : i < nT S) (e0 : M.2.1 102 0 = nI i) (e1 : M.2.1 102 1 = x1) (e2 : M.2.1 102 2 = x2) (hr : roomS S 2) : J Fr_X5_apply (d + 2) 0 0 0 [(0, .ref 101), (1, .int 2)] [] M (jk_ex none (fun M1 => Sm (HO 55) M M1 ∧ hv M1.2.1 55 = apS S 2 (nI i) x1 x2)) := by
  refine j_post (fun Q hQ => ?_)
  obtain ⟨q1, q2, q3⟩ := ok.cn
  obtain ⟨r1, r2, r3⟩ := hr
  refine j_aload_n 0 dX5_apply_0 rfl ?_
  refine j_getr (q := 102) dX5_apply_1 fX5_11 (shC hC sgC_101) rfl (rfC hC rfC_101_1 (fun x => absurd x.2 (by decide))) ?_
  refine j_iconst 0 dX5_apply_4 ic_0 ?_
  refine j_ialdN 0 dX5_apply_5 (shC hC sgC_102) (by omega) (by omega) ?_
  refine j_topi (nI i) e0 ?_
  refine j_istore_n (L' := [(2, .int (nI i)), (0, .ref 101), (1, .int 2)]) dX5_apply_6 (by decide) rfl ?_
  refine j_aload_n 1 dX5_apply_7 rfl ?_
  refine j_getr (q := 102) dX5_apply_8 fX5_11 (shC hC sgC_101) rfl (rfC hC rfC_101_1 (fun x => absurd x.2 (by decide))) ?_
  refine j_iconst 1 dX5_apply_11 ic_1 ?_
  refine j_ialdN 1 dX5_apply_12 (shC hC sgC_102) (by omega) (by omega) ?_
  refine j_topi x1 e1 ?_
  refine j_istore_n (L' := [(3, .int x1), (2, .int (nI i)), (0, .ref 101), (1, .int 2)]) dX5_apply_13 (by decide) rfl ?_
  refine j_aload_n 2 dX5_apply_14 rfl ?_
  refine j_getr (q := 102) dX5_apply_15 fX5_11 (shC hC sgC_101) rfl (rfC hC rfC_101_1 (fun x => absurd x.2 (by decide))) ?_
  refine j_iconst 2 dX5_apply_18 ic_2 ?_
  refine j_ialdN 2 dX5_apply_19 (shC hC sgC_102) (by omega) (by omega) ?_
  refine j_topi x2 e2 ?_
  refine j_istore (L' := [(4, .int x2), (3, .int x1), (2, .int (nI i)), (0, .ref 101), (1, .int 2)]) dX5_apply_20 (by decide) rfl ?_
  refine j_aload_n 3 dX5_apply_22 rfl ?_
  refine j_getr (q := 55) dX5_apply_23 fX5_29 (shC hC sgC_101) rfl (rfC hC rfC_101_0 (fun x => absurd x.2 (by decide))) ?_
  refine j_iload_n 2 dX5_apply_26 rfl ?_
  refine j_callV (kc := 0) (ks := 0) (a := 0) (b := 0) (d' := d) (As := [.int (nI i)]) dX5_apply_27 kX5_110 rfl (shC hC (sgH (by simp [isH]))) (by omega) rfl rfl rfl (Nat.le_of_ble_eq_true rfl) (Nat.le_of_ble_eq_true rfl) (T_X2_thingAt hC (by simp [isH]) hd ok i (by omega)) (kk_p ?_)
  refine j_astore (L' := [(5, .ref (55 + 5 + i)), (4, .int x2), (3, .int x1), (2, .int (nI i)), (0, .ref 101), (1, .int 2)]) dX5_apply_30 (by decide) rfl ?_
  refine j_iload_n 5 dX5_apply_32 rfl ?_
  refine j_tableIn (tgt := 114) dX5_apply_33 (by decide) (by decide) (off := 81) (by decide) rfl ?_
  refine j_aload_n 4 dX5_apply_114 rfl ?_
  refine j_getr (q := 55) dX5_apply_115 fX5_29 (shC hC sgC_101) rfl (rfC hC rfC_101_0 (fun x => absurd x.2 (by decide))) ?_
  refine j_iload_n 3 dX5_apply_118 rfl ?_
  refine j_iload_n 2 dX5_apply_119 rfl ?_
  refine j_callV (kc := 0) (ks := 0) (a := 0) (b := 0) (d' := d) (As := [.int (nI i), .int x1]) dX5_apply_120 kX5_121 rfl (shC hC (sgH (by simp [isH]))) (by omega) rfl rfl rfl (Nat.le_of_ble_eq_true rfl) (Nat.le_of_ble_eq_true rfl) (T_X2_place hC (by simp [isH]) hd ok (nI i) x1) (kk_ev (fun M1 hM2 => ?_))
  obtain ⟨sm3, hv4⟩ := hM2
  refine j_goto (tgt := 208) dX5_apply_123 rfl ?_
  refine j_vret dX5_apply_208 rfl ?_
  exact hQ _ _ ⟨rfl, sm3, hv4⟩
set_option maxRecDepth 20000 in
set_option maxHeartbeats 4000000 in
theorem T_ap_2O {d : Nat} {M : jk_M} {S : HS} (hC : WC M) (hd : hv M.2.1 55 = S) (ok : Sok S) (x1 x2 : Int32) (x0 : Int32) (hx : ¬ (0 ≤ x0 ∧ x0 < nI (nT S))) (e0 : M.2.1 102 0 = x0) (e1 : M.2.1 102 1 = x1) (e2 : M.2.1 102 2 = x2) (hr : roomS S 2) : J Fr_X5_apply (d + 2) 0 0 0 [(0, .ref 101), (1, .int 2)] [] M (jk_ex none (fun M1 => Sm (HO 55) M M1 ∧ hv M1.2.1 55 = apS S 2 x0 x1 x2)) := by
  refine j_post (fun Q hQ => ?_)
  obtain ⟨q1, q2, q3⟩ := ok.cn
  obtain ⟨r1, r2, r3⟩ := hr
  refine j_aload_n 0 dX5_apply_0 rfl ?_
  refine j_getr (q := 102) dX5_apply_1 fX5_11 (shC hC sgC_101) rfl (rfC hC rfC_101_1 (fun x => absurd x.2 (by decide))) ?_
  refine j_iconst 0 dX5_apply_4 ic_0 ?_
  refine j_ialdN 0 dX5_apply_5 (shC hC sgC_102) (by omega) (by omega) ?_
  refine j_topi x0 e0 ?_
  refine j_istore_n (L' := [(2, .int x0), (0, .ref 101), (1, .int 2)]) dX5_apply_6 (by decide) rfl ?_
  refine j_aload_n 1 dX5_apply_7 rfl ?_
  refine j_getr (q := 102) dX5_apply_8 fX5_11 (shC hC sgC_101) rfl (rfC hC rfC_101_1 (fun x => absurd x.2 (by decide))) ?_
  refine j_iconst 1 dX5_apply_11 ic_1 ?_
  refine j_ialdN 1 dX5_apply_12 (shC hC sgC_102) (by omega) (by omega) ?_
  refine j_topi x1 e1 ?_
  refine j_istore_n (L' := [(3, .int x1), (2, .int x0), (0, .ref 101), (1, .int 2)]) dX5_apply_13 (by decide) rfl ?_
  refine j_aload_n 2 dX5_apply_14 rfl ?_
  refine j_getr (q := 102) dX5_apply_15 fX5_11 (shC hC sgC_101) rfl (rfC hC rfC_101_1 (fun x => absurd x.2 (by decide))) ?_
  refine j_iconst 2 dX5_apply_18 ic_2 ?_
  refine j_ialdN 2 dX5_apply_19 (shC hC sgC_102) (by omega) (by omega) ?_
  refine j_topi x2 e2 ?_
  refine j_istore (L' := [(4, .int x2), (3, .int x1), (2, .int x0), (0, .ref 101), (1, .int 2)]) dX5_apply_20 (by decide) rfl ?_
  refine j_aload_n 3 dX5_apply_22 rfl ?_
  refine j_getr (q := 55) dX5_apply_23 fX5_29 (shC hC sgC_101) rfl (rfC hC rfC_101_0 (fun x => absurd x.2 (by decide))) ?_
  refine j_iload_n 2 dX5_apply_26 rfl ?_
  refine j_callV (kc := 0) (ks := 0) (a := 0) (b := 0) (d' := d) (As := [.int x0]) dX5_apply_27 kX5_110 rfl (shC hC (sgH (by simp [isH]))) (by omega) rfl rfl rfl (Nat.le_of_ble_eq_true rfl) (Nat.le_of_ble_eq_true rfl) (T_X2_thingAtN hC (by simp [isH]) hd ok x0 hx) (kk_p ?_)
  refine j_astoreN (L' := [(5, .null), (4, .int x2), (3, .int x1), (2, .int x0), (0, .ref 101), (1, .int 2)]) dX5_apply_30 (by decide) rfl ?_
  refine j_iload_n 5 dX5_apply_32 rfl ?_
  refine j_tableIn (tgt := 114) dX5_apply_33 (by decide) (by decide) (off := 81) (by decide) rfl ?_
  refine j_aload_n 4 dX5_apply_114 rfl ?_
  refine j_getr (q := 55) dX5_apply_115 fX5_29 (shC hC sgC_101) rfl (rfC hC rfC_101_0 (fun x => absurd x.2 (by decide))) ?_
  refine j_iload_n 3 dX5_apply_118 rfl ?_
  refine j_iload_n 2 dX5_apply_119 rfl ?_
  refine j_callV (kc := 0) (ks := 0) (a := 0) (b := 0) (d' := d) (As := [.int x0, .int x1]) dX5_apply_120 kX5_121 rfl (shC hC (sgH (by simp [isH]))) (by omega) rfl rfl rfl (Nat.le_of_ble_eq_true rfl) (Nat.le_of_ble_eq_true rfl) (T_X2_place hC (by simp [isH]) hd ok x0 x1) (kk_ev (fun M1 hM2 => ?_))
  obtain ⟨sm3, hv4⟩ := hM2
  refine j_goto (tgt := 208) dX5_apply_123 rfl ?_
  refine j_vret dX5_apply_208 rfl ?_
  exact hQ _ _ ⟨rfl, sm3, hv4⟩
set_option maxRecDepth 20000 in
set_option maxHeartbeats 4000000 in
theorem T_ap_3I {d : Nat} {M : jk_M} {S : HS} (hC : WC M) (hd : hv M.2.1 55 = S) (ok : Sok S) (x1 x2 : Int32) (i : Nat) (hi : i < nT S) (e0 : M.2.1 102 0 = nI i) (e1 : M.2.1 102 1 = x1) (e2 : M.2.1 102 2 = x2) (hr : roomS S 3) : J Fr_X5_apply (d + 2) 0 0 0 [(0, .ref 101), (1, .int 3)] [] M (jk_ex none (fun M1 => Sm (HO 55) M M1 ∧ hv M1.2.1 55 = apS S 3 (nI i) x1 x2)) := by
  refine j_post (fun Q hQ => ?_)
  obtain ⟨q1, q2, q3⟩ := ok.cn
  obtain ⟨r1, r2, r3⟩ := hr
  refine j_aload_n 0 dX5_apply_0 rfl ?_
  refine j_getr (q := 102) dX5_apply_1 fX5_11 (shC hC sgC_101) rfl (rfC hC rfC_101_1 (fun x => absurd x.2 (by decide))) ?_
  refine j_iconst 0 dX5_apply_4 ic_0 ?_
  refine j_ialdN 0 dX5_apply_5 (shC hC sgC_102) (by omega) (by omega) ?_
  refine j_topi (nI i) e0 ?_
  refine j_istore_n (L' := [(2, .int (nI i)), (0, .ref 101), (1, .int 3)]) dX5_apply_6 (by decide) rfl ?_
  refine j_aload_n 1 dX5_apply_7 rfl ?_
  refine j_getr (q := 102) dX5_apply_8 fX5_11 (shC hC sgC_101) rfl (rfC hC rfC_101_1 (fun x => absurd x.2 (by decide))) ?_
  refine j_iconst 1 dX5_apply_11 ic_1 ?_
  refine j_ialdN 1 dX5_apply_12 (shC hC sgC_102) (by omega) (by omega) ?_
  refine j_topi x1 e1 ?_
  refine j_istore_n (L' := [(3, .int x1), (2, .int (nI i)), (0, .ref 101), (1, .int 3)]) dX5_apply_13 (by decide) rfl ?_
  refine j_aload_n 2 dX5_apply_14 rfl ?_
  refine j_getr (q := 102) dX5_apply_15 fX5_11 (shC hC sgC_101) rfl (rfC hC rfC_101_1 (fun x => absurd x.2 (by decide))) ?_
  refine j_iconst 2 dX5_apply_18 ic_2 ?_
  refine j_ialdN 2 dX5_apply_19 (shC hC sgC_102) (by omega) (by omega) ?_
  refine j_topi x2 e2 ?_
  refine j_istore (L' := [(4, .int x2), (3, .int x1), (2, .int (nI i)), (0, .ref 101), (1, .int 3)]) dX5_apply_20 (by decide) rfl ?_
  refine j_aload_n 3 dX5_apply_22 rfl ?_
  refine j_getr (q := 55) dX5_apply_23 fX5_29 (shC hC sgC_101) rfl (rfC hC rfC_101_0 (fun x => absurd x.2 (by decide))) ?_
  refine j_iload_n 2 dX5_apply_26 rfl ?_
  refine j_callV (kc := 0) (ks := 0) (a := 0) (b := 0) (d' := d) (As := [.int (nI i)]) dX5_apply_27 kX5_110 rfl (shC hC (sgH (by simp [isH]))) (by omega) rfl rfl rfl (Nat.le_of_ble_eq_true rfl) (Nat.le_of_ble_eq_true rfl) (T_X2_thingAt hC (by simp [isH]) hd ok i (by omega)) (kk_p ?_)
  refine j_astore (L' := [(5, .ref (55 + 5 + i)), (4, .int x2), (3, .int x1), (2, .int (nI i)), (0, .ref 101), (1, .int 3)]) dX5_apply_30 (by decide) rfl ?_
  refine j_iload_n 5 dX5_apply_32 rfl ?_
  refine j_tableIn (tgt := 126) dX5_apply_33 (by decide) (by decide) (off := 93) (by decide) rfl ?_
  refine j_aload_n 4 dX5_apply_126 rfl ?_
  refine j_getr (q := 55) dX5_apply_127 fX5_29 (shC hC sgC_101) rfl (rfC hC rfC_101_0 (fun x => absurd x.2 (by decide))) ?_
  refine j_iload_n 3 dX5_apply_130 rfl ?_
  refine j_put dX5_apply_131 fX5_125 (shC hC (sgH (by simp [isH]))) rfl ?_
  have sm1 : Sm (HO 55) M (jk_wI M 55 1 (nI i)) := Sm.w Sm.rf HOz
  refine j_goto (tgt := 208) dX5_apply_134 rfl ?_
  refine j_vret dX5_apply_208 rfl ?_
  exact hQ _ _ ⟨rfl, sm1, hv_sc hd ok (by decide) (by decide) (by decide) (by decide)⟩
set_option maxRecDepth 20000 in
set_option maxHeartbeats 4000000 in
theorem T_ap_3O {d : Nat} {M : jk_M} {S : HS} (hC : WC M) (hd : hv M.2.1 55 = S) (ok : Sok S) (x1 x2 : Int32) (x0 : Int32) (hx : ¬ (0 ≤ x0 ∧ x0 < nI (nT S))) (e0 : M.2.1 102 0 = x0) (e1 : M.2.1 102 1 = x1) (e2 : M.2.1 102 2 = x2) (hr : roomS S 3) : J Fr_X5_apply (d + 2) 0 0 0 [(0, .ref 101), (1, .int 3)] [] M (jk_ex none (fun M1 => Sm (HO 55) M M1 ∧ hv M1.2.1 55 = apS S 3 x0 x1 x2)) := by
  refine j_post (fun Q hQ => ?_)
  obtain ⟨q1, q2, q3⟩ := ok.cn
  obtain ⟨r1, r2, r3⟩ := hr
  refine j_aload_n 0 dX5_apply_0 rfl ?_
  refine j_getr (q := 102) dX5_apply_1 fX5_11 (shC hC sgC_101) rfl (rfC hC rfC_101_1 (fun x => absurd x.2 (by decide))) ?_
  refine j_iconst 0 dX5_apply_4 ic_0 ?_
  refine j_ialdN 0 dX5_apply_5 (shC hC sgC_102) (by omega) (by omega) ?_
  refine j_topi x0 e0 ?_
  refine j_istore_n (L' := [(2, .int x0), (0, .ref 101), (1, .int 3)]) dX5_apply_6 (by decide) rfl ?_
  refine j_aload_n 1 dX5_apply_7 rfl ?_
  refine j_getr (q := 102) dX5_apply_8 fX5_11 (shC hC sgC_101) rfl (rfC hC rfC_101_1 (fun x => absurd x.2 (by decide))) ?_
  refine j_iconst 1 dX5_apply_11 ic_1 ?_
  refine j_ialdN 1 dX5_apply_12 (shC hC sgC_102) (by omega) (by omega) ?_
  refine j_topi x1 e1 ?_
  refine j_istore_n (L' := [(3, .int x1), (2, .int x0), (0, .ref 101), (1, .int 3)]) dX5_apply_13 (by decide) rfl ?_
  refine j_aload_n 2 dX5_apply_14 rfl ?_
  refine j_getr (q := 102) dX5_apply_15 fX5_11 (shC hC sgC_101) rfl (rfC hC rfC_101_1 (fun x => absurd x.2 (by decide))) ?_
  refine j_iconst 2 dX5_apply_18 ic_2 ?_
  refine j_ialdN 2 dX5_apply_19 (shC hC sgC_102) (by omega) (by omega) ?_
  refine j_topi x2 e2 ?_
  refine j_istore (L' := [(4, .int x2), (3, .int x1), (2, .int x0), (0, .ref 101), (1, .int 3)]) dX5_apply_20 (by decide) rfl ?_
  refine j_aload_n 3 dX5_apply_22 rfl ?_
  refine j_getr (q := 55) dX5_apply_23 fX5_29 (shC hC sgC_101) rfl (rfC hC rfC_101_0 (fun x => absurd x.2 (by decide))) ?_
  refine j_iload_n 2 dX5_apply_26 rfl ?_
  refine j_callV (kc := 0) (ks := 0) (a := 0) (b := 0) (d' := d) (As := [.int x0]) dX5_apply_27 kX5_110 rfl (shC hC (sgH (by simp [isH]))) (by omega) rfl rfl rfl (Nat.le_of_ble_eq_true rfl) (Nat.le_of_ble_eq_true rfl) (T_X2_thingAtN hC (by simp [isH]) hd ok x0 hx) (kk_p ?_)
  refine j_astoreN (L' := [(5, .null), (4, .int x2), (3, .int x1), (2, .int x0), (0, .ref 101), (1, .int 3)]) dX5_apply_30 (by decide) rfl ?_
  refine j_iload_n 5 dX5_apply_32 rfl ?_
  refine j_tableIn (tgt := 126) dX5_apply_33 (by decide) (by decide) (off := 93) (by decide) rfl ?_
  refine j_aload_n 4 dX5_apply_126 rfl ?_
  refine j_getr (q := 55) dX5_apply_127 fX5_29 (shC hC sgC_101) rfl (rfC hC rfC_101_0 (fun x => absurd x.2 (by decide))) ?_
  refine j_iload_n 3 dX5_apply_130 rfl ?_
  refine j_put dX5_apply_131 fX5_125 (shC hC (sgH (by simp [isH]))) rfl ?_
  have sm1 : Sm (HO 55) M (jk_wI M 55 1 x0) := Sm.w Sm.rf HOz
  refine j_goto (tgt := 208) dX5_apply_134 rfl ?_
  refine j_vret dX5_apply_208 rfl ?_
  exact hQ _ _ ⟨rfl, sm1, hv_sc hd ok (by decide) (by decide) (by decide) (by decide)⟩
set_option maxRecDepth 20000 in
set_option maxHeartbeats 4000000 in
theorem T_ap_4I {d : Nat} {M : jk_M} {S : HS} (hC : WC M) (hd : hv M.2.1 55 = S) (ok : Sok S) (x1 x2 : Int32) (i : Nat) (hi : i < nT S) (e0 : M.2.1 102 0 = nI i) (e1 : M.2.1 102 1 = x1) (e2 : M.2.1 102 2 = x2) (hr : roomS S 4) : J Fr_X5_apply (d + 2) 0 0 0 [(0, .ref 101), (1, .int 4)] [] M (jk_ex none (fun M1 => Sm (HO 55) M M1 ∧ hv M1.2.1 55 = apS S 4 (nI i) x1 x2)) := by
  refine j_post (fun Q hQ => ?_)
  obtain ⟨q1, q2, q3⟩ := ok.cn
  obtain ⟨r1, r2, r3⟩ := hr
  refine j_aload_n 0 dX5_apply_0 rfl ?_
  refine j_getr (q := 102) dX5_apply_1 fX5_11 (shC hC sgC_101) rfl (rfC hC rfC_101_1 (fun x => absurd x.2 (by decide))) ?_
  refine j_iconst 0 dX5_apply_4 ic_0 ?_
  refine j_ialdN 0 dX5_apply_5 (shC hC sgC_102) (by omega) (by omega) ?_
  refine j_topi (nI i) e0 ?_
  refine j_istore_n (L' := [(2, .int (nI i)), (0, .ref 101), (1, .int 4)]) dX5_apply_6 (by decide) rfl ?_
  refine j_aload_n 1 dX5_apply_7 rfl ?_
  refine j_getr (q := 102) dX5_apply_8 fX5_11 (shC hC sgC_101) rfl (rfC hC rfC_101_1 (fun x => absurd x.2 (by decide))) ?_
  refine j_iconst 1 dX5_apply_11 ic_1 ?_
  refine j_ialdN 1 dX5_apply_12 (shC hC sgC_102) (by omega) (by omega) ?_
  refine j_topi x1 e1 ?_
  refine j_istore_n (L' := [(3, .int x1), (2, .int (nI i)), (0, .ref 101), (1, .int 4)]) dX5_apply_13 (by decide) rfl ?_
  refine j_aload_n 2 dX5_apply_14 rfl ?_
  refine j_getr (q := 102) dX5_apply_15 fX5_11 (shC hC sgC_101) rfl (rfC hC rfC_101_1 (fun x => absurd x.2 (by decide))) ?_
  refine j_iconst 2 dX5_apply_18 ic_2 ?_
  refine j_ialdN 2 dX5_apply_19 (shC hC sgC_102) (by omega) (by omega) ?_
  refine j_topi x2 e2 ?_
  refine j_istore (L' := [(4, .int x2), (3, .int x1), (2, .int (nI i)), (0, .ref 101), (1, .int 4)]) dX5_apply_20 (by decide) rfl ?_
  refine j_aload_n 3 dX5_apply_22 rfl ?_
  refine j_getr (q := 55) dX5_apply_23 fX5_29 (shC hC sgC_101) rfl (rfC hC rfC_101_0 (fun x => absurd x.2 (by decide))) ?_
  refine j_iload_n 2 dX5_apply_26 rfl ?_
  refine j_callV (kc := 0) (ks := 0) (a := 0) (b := 0) (d' := d) (As := [.int (nI i)]) dX5_apply_27 kX5_110 rfl (shC hC (sgH (by simp [isH]))) (by omega) rfl rfl rfl (Nat.le_of_ble_eq_true rfl) (Nat.le_of_ble_eq_true rfl) (T_X2_thingAt hC (by simp [isH]) hd ok i (by omega)) (kk_p ?_)
  refine j_astore (L' := [(5, .ref (55 + 5 + i)), (4, .int x2), (3, .int x1), (2, .int (nI i)), (0, .ref 101), (1, .int 4)]) dX5_apply_30 (by decide) rfl ?_
  refine j_iload_n 5 dX5_apply_32 rfl ?_
  refine j_tableIn (tgt := 137) dX5_apply_33 (by decide) (by decide) (off := 104) (by decide) rfl ?_
  refine j_aload_n 4 dX5_apply_137 rfl ?_
  refine j_getr (q := 55) dX5_apply_138 fX5_29 (shC hC sgC_101) rfl (rfC hC rfC_101_0 (fun x => absurd x.2 (by decide))) ?_
  refine j_iload_n 3 dX5_apply_141 rfl ?_
  refine j_put dX5_apply_142 fX5_128 (shC hC (sgH (by simp [isH]))) rfl ?_
  have sm1 : Sm (HO 55) M (jk_wI M 55 2 (nI i)) := Sm.w Sm.rf HOz
  refine j_goto (tgt := 208) dX5_apply_145 rfl ?_
  refine j_vret dX5_apply_208 rfl ?_
  exact hQ _ _ ⟨rfl, sm1, hv_sc hd ok (by decide) (by decide) (by decide) (by decide)⟩
set_option maxRecDepth 20000 in
set_option maxHeartbeats 4000000 in
theorem T_ap_4O {d : Nat} {M : jk_M} {S : HS} (hC : WC M) (hd : hv M.2.1 55 = S) (ok : Sok S) (x1 x2 : Int32) (x0 : Int32) (hx : ¬ (0 ≤ x0 ∧ x0 < nI (nT S))) (e0 : M.2.1 102 0 = x0) (e1 : M.2.1 102 1 = x1) (e2 : M.2.1 102 2 = x2) (hr : roomS S 4) : J Fr_X5_apply (d + 2) 0 0 0 [(0, .ref 101), (1, .int 4)] [] M (jk_ex none (fun M1 => Sm (HO 55) M M1 ∧ hv M1.2.1 55 = apS S 4 x0 x1 x2)) := by
  refine j_post (fun Q hQ => ?_)
  obtain ⟨q1, q2, q3⟩ := ok.cn
  obtain ⟨r1, r2, r3⟩ := hr
  refine j_aload_n 0 dX5_apply_0 rfl ?_
  refine j_getr (q := 102) dX5_apply_1 fX5_11 (shC hC sgC_101) rfl (rfC hC rfC_101_1 (fun x => absurd x.2 (by decide))) ?_
  refine j_iconst 0 dX5_apply_4 ic_0 ?_
  refine j_ialdN 0 dX5_apply_5 (shC hC sgC_102) (by omega) (by omega) ?_
  refine j_topi x0 e0 ?_
  refine j_istore_n (L' := [(2, .int x0), (0, .ref 101), (1, .int 4)]) dX5_apply_6 (by decide) rfl ?_
  refine j_aload_n 1 dX5_apply_7 rfl ?_
  refine j_getr (q := 102) dX5_apply_8 fX5_11 (shC hC sgC_101) rfl (rfC hC rfC_101_1 (fun x => absurd x.2 (by decide))) ?_
  refine j_iconst 1 dX5_apply_11 ic_1 ?_
  refine j_ialdN 1 dX5_apply_12 (shC hC sgC_102) (by omega) (by omega) ?_
  refine j_topi x1 e1 ?_
  refine j_istore_n (L' := [(3, .int x1), (2, .int x0), (0, .ref 101), (1, .int 4)]) dX5_apply_13 (by decide) rfl ?_
  refine j_aload_n 2 dX5_apply_14 rfl ?_
  refine j_getr (q := 102) dX5_apply_15 fX5_11 (shC hC sgC_101) rfl (rfC hC rfC_101_1 (fun x => absurd x.2 (by decide))) ?_
  refine j_iconst 2 dX5_apply_18 ic_2 ?_
  refine j_ialdN 2 dX5_apply_19 (shC hC sgC_102) (by omega) (by omega) ?_
  refine j_topi x2 e2 ?_
  refine j_istore (L' := [(4, .int x2), (3, .int x1), (2, .int x0), (0, .ref 101), (1, .int 4)]) dX5_apply_20 (by decide) rfl ?_
  refine j_aload_n 3 dX5_apply_22 rfl ?_
  refine j_getr (q := 55) dX5_apply_23 fX5_29 (shC hC sgC_101) rfl (rfC hC rfC_101_0 (fun x => absurd x.2 (by decide))) ?_
  refine j_iload_n 2 dX5_apply_26 rfl ?_
  refine j_callV (kc := 0) (ks := 0) (a := 0) (b := 0) (d' := d) (As := [.int x0]) dX5_apply_27 kX5_110 rfl (shC hC (sgH (by simp [isH]))) (by omega) rfl rfl rfl (Nat.le_of_ble_eq_true rfl) (Nat.le_of_ble_eq_true rfl) (T_X2_thingAtN hC (by simp [isH]) hd ok x0 hx) (kk_p ?_)
  refine j_astoreN (L' := [(5, .null), (4, .int x2), (3, .int x1), (2, .int x0), (0, .ref 101), (1, .int 4)]) dX5_apply_30 (by decide) rfl ?_
  refine j_iload_n 5 dX5_apply_32 rfl ?_
  refine j_tableIn (tgt := 137) dX5_apply_33 (by decide) (by decide) (off := 104) (by decide) rfl ?_
  refine j_aload_n 4 dX5_apply_137 rfl ?_
  refine j_getr (q := 55) dX5_apply_138 fX5_29 (shC hC sgC_101) rfl (rfC hC rfC_101_0 (fun x => absurd x.2 (by decide))) ?_
  refine j_iload_n 3 dX5_apply_141 rfl ?_
  refine j_put dX5_apply_142 fX5_128 (shC hC (sgH (by simp [isH]))) rfl ?_
  have sm1 : Sm (HO 55) M (jk_wI M 55 2 x0) := Sm.w Sm.rf HOz
  refine j_goto (tgt := 208) dX5_apply_145 rfl ?_
  refine j_vret dX5_apply_208 rfl ?_
  exact hQ _ _ ⟨rfl, sm1, hv_sc hd ok (by decide) (by decide) (by decide) (by decide)⟩
set_option maxRecDepth 20000 in
set_option maxHeartbeats 4000000 in
theorem T_ap_5I {d : Nat} {M : jk_M} {S : HS} (hC : WC M) (hd : hv M.2.1 55 = S) (ok : Sok S) (x1 x2 : Int32) (i : Nat) (hi : i < nT S) (e0 : M.2.1 102 0 = nI i) (e1 : M.2.1 102 1 = x1) (e2 : M.2.1 102 2 = x2) (hr : roomS S 5) : J Fr_X5_apply (d + 2) 0 0 0 [(0, .ref 101), (1, .int 5)] [] M (jk_ex none (fun M1 => Sm (HO 55) M M1 ∧ hv M1.2.1 55 = apS S 5 (nI i) x1 x2)) := by
  refine j_post (fun Q hQ => ?_)
  obtain ⟨q1, q2, q3⟩ := ok.cn
  obtain ⟨r1, r2, r3⟩ := hr
  refine j_aload_n 0 dX5_apply_0 rfl ?_
  refine j_getr (q := 102) dX5_apply_1 fX5_11 (shC hC sgC_101) rfl (rfC hC rfC_101_1 (fun x => absurd x.2 (by decide))) ?_
  refine j_iconst 0 dX5_apply_4 ic_0 ?_
  refine j_ialdN 0 dX5_apply_5 (shC hC sgC_102) (by omega) (by omega) ?_
  refine j_topi (nI i) e0 ?_
  refine j_istore_n (L' := [(2, .int (nI i)), (0, .ref 101), (1, .int 5)]) dX5_apply_6 (by decide) rfl ?_
  refine j_aload_n 1 dX5_apply_7 rfl ?_
  refine j_getr (q := 102) dX5_apply_8 fX5_11 (shC hC sgC_101) rfl (rfC hC rfC_101_1 (fun x => absurd x.2 (by decide))) ?_
  refine j_iconst 1 dX5_apply_11 ic_1 ?_
  refine j_ialdN 1 dX5_apply_12 (shC hC sgC_102) (by omega) (by omega) ?_
  refine j_topi x1 e1 ?_
  refine j_istore_n (L' := [(3, .int x1), (2, .int (nI i)), (0, .ref 101), (1, .int 5)]) dX5_apply_13 (by decide) rfl ?_
  refine j_aload_n 2 dX5_apply_14 rfl ?_
  refine j_getr (q := 102) dX5_apply_15 fX5_11 (shC hC sgC_101) rfl (rfC hC rfC_101_1 (fun x => absurd x.2 (by decide))) ?_
  refine j_iconst 2 dX5_apply_18 ic_2 ?_
  refine j_ialdN 2 dX5_apply_19 (shC hC sgC_102) (by omega) (by omega) ?_
  refine j_topi x2 e2 ?_
  refine j_istore (L' := [(4, .int x2), (3, .int x1), (2, .int (nI i)), (0, .ref 101), (1, .int 5)]) dX5_apply_20 (by decide) rfl ?_
  refine j_aload_n 3 dX5_apply_22 rfl ?_
  refine j_getr (q := 55) dX5_apply_23 fX5_29 (shC hC sgC_101) rfl (rfC hC rfC_101_0 (fun x => absurd x.2 (by decide))) ?_
  refine j_iload_n 2 dX5_apply_26 rfl ?_
  refine j_callV (kc := 0) (ks := 0) (a := 0) (b := 0) (d' := d) (As := [.int (nI i)]) dX5_apply_27 kX5_110 rfl (shC hC (sgH (by simp [isH]))) (by omega) rfl rfl rfl (Nat.le_of_ble_eq_true rfl) (Nat.le_of_ble_eq_true rfl) (T_X2_thingAt hC (by simp [isH]) hd ok i (by omega)) (kk_p ?_)
  refine j_astore (L' := [(5, .ref (55 + 5 + i)), (4, .int x2), (3, .int x1), (2, .int (nI i)), (0, .ref 101), (1, .int 5)]) dX5_apply_30 (by decide) rfl ?_
  refine j_iload_n 5 dX5_apply_32 rfl ?_
  refine j_tableIn (tgt := 148) dX5_apply_33 (by decide) (by decide) (off := 115) (by decide) rfl ?_
  refine j_aload_n 4 dX5_apply_148 rfl ?_
  refine j_getr (q := 55) dX5_apply_149 fX5_29 (shC hC sgC_101) rfl (rfC hC rfC_101_0 (fun x => absurd x.2 (by decide))) ?_
  refine j_iload_n 3 dX5_apply_152 rfl ?_
  refine j_iload_n 2 dX5_apply_153 rfl ?_
  refine j_callV (kc := 0) (ks := 0) (a := 0) (b := 0) (d' := d) (As := [.int (nI i), .int x1]) dX5_apply_154 kX5_131 rfl (shC hC (sgH (by simp [isH]))) (by omega) rfl rfl rfl (Nat.le_of_ble_eq_true rfl) (Nat.le_of_ble_eq_true rfl) (T_X2_addNeighbour hC (by simp [isH]) hd ok (nI i) x1 (by omega)) (kk_e (fun M1 hM2 => ?_))
  obtain ⟨sm3, hv4⟩ := hM2
  refine j_pop dX5_apply_157 rfl ?_
  refine j_goto (tgt := 208) dX5_apply_158 rfl ?_
  refine j_vret dX5_apply_208 rfl ?_
  exact hQ _ _ ⟨rfl, sm3, hv4⟩
set_option maxRecDepth 20000 in
set_option maxHeartbeats 4000000 in
theorem T_ap_5O {d : Nat} {M : jk_M} {S : HS} (hC : WC M) (hd : hv M.2.1 55 = S) (ok : Sok S) (x1 x2 : Int32) (x0 : Int32) (hx : ¬ (0 ≤ x0 ∧ x0 < nI (nT S))) (e0 : M.2.1 102 0 = x0) (e1 : M.2.1 102 1 = x1) (e2 : M.2.1 102 2 = x2) (hr : roomS S 5) : J Fr_X5_apply (d + 2) 0 0 0 [(0, .ref 101), (1, .int 5)] [] M (jk_ex none (fun M1 => Sm (HO 55) M M1 ∧ hv M1.2.1 55 = apS S 5 x0 x1 x2)) := by
  refine j_post (fun Q hQ => ?_)
  obtain ⟨q1, q2, q3⟩ := ok.cn
  obtain ⟨r1, r2, r3⟩ := hr
  refine j_aload_n 0 dX5_apply_0 rfl ?_
  refine j_getr (q := 102) dX5_apply_1 fX5_11 (shC hC sgC_101) rfl (rfC hC rfC_101_1 (fun x => absurd x.2 (by decide))) ?_
  refine j_iconst 0 dX5_apply_4 ic_0 ?_
  refine j_ialdN 0 dX5_apply_5 (shC hC sgC_102) (by omega) (by omega) ?_
  refine j_topi x0 e0 ?_
  refine j_istore_n (L' := [(2, .int x0), (0, .ref 101), (1, .int 5)]) dX5_apply_6 (by decide) rfl ?_
  refine j_aload_n 1 dX5_apply_7 rfl ?_
  refine j_getr (q := 102) dX5_apply_8 fX5_11 (shC hC sgC_101) rfl (rfC hC rfC_101_1 (fun x => absurd x.2 (by decide))) ?_
  refine j_iconst 1 dX5_apply_11 ic_1 ?_
  refine j_ialdN 1 dX5_apply_12 (shC hC sgC_102) (by omega) (by omega) ?_
  refine j_topi x1 e1 ?_
  refine j_istore_n (L' := [(3, .int x1), (2, .int x0), (0, .ref 101), (1, .int 5)]) dX5_apply_13 (by decide) rfl ?_
  refine j_aload_n 2 dX5_apply_14 rfl ?_
  refine j_getr (q := 102) dX5_apply_15 fX5_11 (shC hC sgC_101) rfl (rfC hC rfC_101_1 (fun x => absurd x.2 (by decide))) ?_
  refine j_iconst 2 dX5_apply_18 ic_2 ?_
  refine j_ialdN 2 dX5_apply_19 (shC hC sgC_102) (by omega) (by omega) ?_
  refine j_topi x2 e2 ?_
  refine j_istore (L' := [(4, .int x2), (3, .int x1), (2, .int x0), (0, .ref 101), (1, .int 5)]) dX5_apply_20 (by decide) rfl ?_
  refine j_aload_n 3 dX5_apply_22 rfl ?_
  refine j_getr (q := 55) dX5_apply_23 fX5_29 (shC hC sgC_101) rfl (rfC hC rfC_101_0 (fun x => absurd x.2 (by decide))) ?_
  refine j_iload_n 2 dX5_apply_26 rfl ?_
  refine j_callV (kc := 0) (ks := 0) (a := 0) (b := 0) (d' := d) (As := [.int x0]) dX5_apply_27 kX5_110 rfl (shC hC (sgH (by simp [isH]))) (by omega) rfl rfl rfl (Nat.le_of_ble_eq_true rfl) (Nat.le_of_ble_eq_true rfl) (T_X2_thingAtN hC (by simp [isH]) hd ok x0 hx) (kk_p ?_)
  refine j_astoreN (L' := [(5, .null), (4, .int x2), (3, .int x1), (2, .int x0), (0, .ref 101), (1, .int 5)]) dX5_apply_30 (by decide) rfl ?_
  refine j_iload_n 5 dX5_apply_32 rfl ?_
  refine j_tableIn (tgt := 148) dX5_apply_33 (by decide) (by decide) (off := 115) (by decide) rfl ?_
  refine j_aload_n 4 dX5_apply_148 rfl ?_
  refine j_getr (q := 55) dX5_apply_149 fX5_29 (shC hC sgC_101) rfl (rfC hC rfC_101_0 (fun x => absurd x.2 (by decide))) ?_
  refine j_iload_n 3 dX5_apply_152 rfl ?_
  refine j_iload_n 2 dX5_apply_153 rfl ?_
  refine j_callV (kc := 0) (ks := 0) (a := 0) (b := 0) (d' := d) (As := [.int x0, .int x1]) dX5_apply_154 kX5_131 rfl (shC hC (sgH (by simp [isH]))) (by omega) rfl rfl rfl (Nat.le_of_ble_eq_true rfl) (Nat.le_of_ble_eq_true rfl) (T_X2_addNeighbour hC (by simp [isH]) hd ok x0 x1 (by omega)) (kk_e (fun M1 hM2 => ?_))
  obtain ⟨sm3, hv4⟩ := hM2
  refine j_pop dX5_apply_157 rfl ?_
  refine j_goto (tgt := 208) dX5_apply_158 rfl ?_
  refine j_vret dX5_apply_208 rfl ?_
  exact hQ _ _ ⟨rfl, sm3, hv4⟩
set_option maxRecDepth 20000 in
set_option maxHeartbeats 4000000 in
theorem T_ap_6I {d : Nat} {M : jk_M} {S : HS} (hC : WC M) (hd : hv M.2.1 55 = S) (ok : Sok S) (x1 x2 : Int32) (i : Nat) (hi : i < nT S) (e0 : M.2.1 102 0 = nI i) (e1 : M.2.1 102 1 = x1) (e2 : M.2.1 102 2 = x2) (hr : roomS S 6) : J Fr_X5_apply (d + 2) 0 0 0 [(0, .ref 101), (1, .int 6)] [] M (jk_ex none (fun M1 => Sm (HO 55) M M1 ∧ hv M1.2.1 55 = apS S 6 (nI i) x1 x2)) := by
  refine j_post (fun Q hQ => ?_)
  obtain ⟨q1, q2, q3⟩ := ok.cn
  obtain ⟨r1, r2, r3⟩ := hr
  refine j_aload_n 0 dX5_apply_0 rfl ?_
  refine j_getr (q := 102) dX5_apply_1 fX5_11 (shC hC sgC_101) rfl (rfC hC rfC_101_1 (fun x => absurd x.2 (by decide))) ?_
  refine j_iconst 0 dX5_apply_4 ic_0 ?_
  refine j_ialdN 0 dX5_apply_5 (shC hC sgC_102) (by omega) (by omega) ?_
  refine j_topi (nI i) e0 ?_
  refine j_istore_n (L' := [(2, .int (nI i)), (0, .ref 101), (1, .int 6)]) dX5_apply_6 (by decide) rfl ?_
  refine j_aload_n 1 dX5_apply_7 rfl ?_
  refine j_getr (q := 102) dX5_apply_8 fX5_11 (shC hC sgC_101) rfl (rfC hC rfC_101_1 (fun x => absurd x.2 (by decide))) ?_
  refine j_iconst 1 dX5_apply_11 ic_1 ?_
  refine j_ialdN 1 dX5_apply_12 (shC hC sgC_102) (by omega) (by omega) ?_
  refine j_topi x1 e1 ?_
  refine j_istore_n (L' := [(3, .int x1), (2, .int (nI i)), (0, .ref 101), (1, .int 6)]) dX5_apply_13 (by decide) rfl ?_
  refine j_aload_n 2 dX5_apply_14 rfl ?_
  refine j_getr (q := 102) dX5_apply_15 fX5_11 (shC hC sgC_101) rfl (rfC hC rfC_101_1 (fun x => absurd x.2 (by decide))) ?_
  refine j_iconst 2 dX5_apply_18 ic_2 ?_
  refine j_ialdN 2 dX5_apply_19 (shC hC sgC_102) (by omega) (by omega) ?_
  refine j_topi x2 e2 ?_
  refine j_istore (L' := [(4, .int x2), (3, .int x1), (2, .int (nI i)), (0, .ref 101), (1, .int 6)]) dX5_apply_20 (by decide) rfl ?_
  refine j_aload_n 3 dX5_apply_22 rfl ?_
  refine j_getr (q := 55) dX5_apply_23 fX5_29 (shC hC sgC_101) rfl (rfC hC rfC_101_0 (fun x => absurd x.2 (by decide))) ?_
  refine j_iload_n 2 dX5_apply_26 rfl ?_
  refine j_callV (kc := 0) (ks := 0) (a := 0) (b := 0) (d' := d) (As := [.int (nI i)]) dX5_apply_27 kX5_110 rfl (shC hC (sgH (by simp [isH]))) (by omega) rfl rfl rfl (Nat.le_of_ble_eq_true rfl) (Nat.le_of_ble_eq_true rfl) (T_X2_thingAt hC (by simp [isH]) hd ok i (by omega)) (kk_p ?_)
  refine j_astore (L' := [(5, .ref (55 + 5 + i)), (4, .int x2), (3, .int x1), (2, .int (nI i)), (0, .ref 101), (1, .int 6)]) dX5_apply_30 (by decide) rfl ?_
  refine j_iload_n 5 dX5_apply_32 rfl ?_
  refine j_tableIn (tgt := 161) dX5_apply_33 (by decide) (by decide) (off := 128) (by decide) rfl ?_
  refine j_aload_n 4 dX5_apply_161 rfl ?_
  refine j_getr (q := 55) dX5_apply_162 fX5_29 (shC hC sgC_101) rfl (rfC hC rfC_101_0 (fun x => absurd x.2 (by decide))) ?_
  refine j_iload_n 3 dX5_apply_165 rfl ?_
  refine j_iload_n 2 dX5_apply_166 rfl ?_
  refine j_iload 1 dX5_apply_167 rfl ?_
  refine j_callV (kc := 0) (ks := 0) (a := 0) (b := 0) (d' := (d + 1)) (As := [.int (nI i), .int x1, .int x2]) dX5_apply_169 kX5_134 rfl (shC hC (sgH (by simp [isH]))) (by omega) rfl rfl rfl (Nat.le_of_ble_eq_true rfl) (Nat.le_of_ble_eq_true rfl) (T_X2_addDevice hC (by simp [isH]) hd ok (nI i) x1 x2 (by omega)) (kk_e (fun M1 hM2 => ?_))
  obtain ⟨sm3, hv4⟩ := hM2
  refine j_pop dX5_apply_172 rfl ?_
  refine j_goto (tgt := 208) dX5_apply_173 rfl ?_
  refine j_vret dX5_apply_208 rfl ?_
  exact hQ _ _ ⟨rfl, sm3, hv4⟩
set_option maxRecDepth 20000 in
set_option maxHeartbeats 4000000 in
theorem T_ap_6O {d : Nat} {M : jk_M} {S : HS} (hC : WC M) (hd : hv M.2.1 55 = S) (ok : Sok S) (x1 x2 : Int32) (x0 : Int32) (hx : ¬ (0 ≤ x0 ∧ x0 < nI (nT S))) (e0 : M.2.1 102 0 = x0) (e1 : M.2.1 102 1 = x1) (e2 : M.2.1 102 2 = x2) (hr : roomS S 6) : J Fr_X5_apply (d + 2) 0 0 0 [(0, .ref 101), (1, .int 6)] [] M (jk_ex none (fun M1 => Sm (HO 55) M M1 ∧ hv M1.2.1 55 = apS S 6 x0 x1 x2)) := by
  refine j_post (fun Q hQ => ?_)
  obtain ⟨q1, q2, q3⟩ := ok.cn
  obtain ⟨r1, r2, r3⟩ := hr
  refine j_aload_n 0 dX5_apply_0 rfl ?_
  refine j_getr (q := 102) dX5_apply_1 fX5_11 (shC hC sgC_101) rfl (rfC hC rfC_101_1 (fun x => absurd x.2 (by decide))) ?_
  refine j_iconst 0 dX5_apply_4 ic_0 ?_
  refine j_ialdN 0 dX5_apply_5 (shC hC sgC_102) (by omega) (by omega) ?_
  refine j_topi x0 e0 ?_
  refine j_istore_n (L' := [(2, .int x0), (0, .ref 101), (1, .int 6)]) dX5_apply_6 (by decide) rfl ?_
  refine j_aload_n 1 dX5_apply_7 rfl ?_
  refine j_getr (q := 102) dX5_apply_8 fX5_11 (shC hC sgC_101) rfl (rfC hC rfC_101_1 (fun x => absurd x.2 (by decide))) ?_
  refine j_iconst 1 dX5_apply_11 ic_1 ?_
  refine j_ialdN 1 dX5_apply_12 (shC hC sgC_102) (by omega) (by omega) ?_
  refine j_topi x1 e1 ?_
  refine j_istore_n (L' := [(3, .int x1), (2, .int x0), (0, .ref 101), (1, .int 6)]) dX5_apply_13 (by decide) rfl ?_
  refine j_aload_n 2 dX5_apply_14 rfl ?_
  refine j_getr (q := 102) dX5_apply_15 fX5_11 (shC hC sgC_101) rfl (rfC hC rfC_101_1 (fun x => absurd x.2 (by decide))) ?_
  refine j_iconst 2 dX5_apply_18 ic_2 ?_
  refine j_ialdN 2 dX5_apply_19 (shC hC sgC_102) (by omega) (by omega) ?_
  refine j_topi x2 e2 ?_
  refine j_istore (L' := [(4, .int x2), (3, .int x1), (2, .int x0), (0, .ref 101), (1, .int 6)]) dX5_apply_20 (by decide) rfl ?_
  refine j_aload_n 3 dX5_apply_22 rfl ?_
  refine j_getr (q := 55) dX5_apply_23 fX5_29 (shC hC sgC_101) rfl (rfC hC rfC_101_0 (fun x => absurd x.2 (by decide))) ?_
  refine j_iload_n 2 dX5_apply_26 rfl ?_
  refine j_callV (kc := 0) (ks := 0) (a := 0) (b := 0) (d' := d) (As := [.int x0]) dX5_apply_27 kX5_110 rfl (shC hC (sgH (by simp [isH]))) (by omega) rfl rfl rfl (Nat.le_of_ble_eq_true rfl) (Nat.le_of_ble_eq_true rfl) (T_X2_thingAtN hC (by simp [isH]) hd ok x0 hx) (kk_p ?_)
  refine j_astoreN (L' := [(5, .null), (4, .int x2), (3, .int x1), (2, .int x0), (0, .ref 101), (1, .int 6)]) dX5_apply_30 (by decide) rfl ?_
  refine j_iload_n 5 dX5_apply_32 rfl ?_
  refine j_tableIn (tgt := 161) dX5_apply_33 (by decide) (by decide) (off := 128) (by decide) rfl ?_
  refine j_aload_n 4 dX5_apply_161 rfl ?_
  refine j_getr (q := 55) dX5_apply_162 fX5_29 (shC hC sgC_101) rfl (rfC hC rfC_101_0 (fun x => absurd x.2 (by decide))) ?_
  refine j_iload_n 3 dX5_apply_165 rfl ?_
  refine j_iload_n 2 dX5_apply_166 rfl ?_
  refine j_iload 1 dX5_apply_167 rfl ?_
  refine j_callV (kc := 0) (ks := 0) (a := 0) (b := 0) (d' := (d + 1)) (As := [.int x0, .int x1, .int x2]) dX5_apply_169 kX5_134 rfl (shC hC (sgH (by simp [isH]))) (by omega) rfl rfl rfl (Nat.le_of_ble_eq_true rfl) (Nat.le_of_ble_eq_true rfl) (T_X2_addDevice hC (by simp [isH]) hd ok x0 x1 x2 (by omega)) (kk_e (fun M1 hM2 => ?_))
  obtain ⟨sm3, hv4⟩ := hM2
  refine j_pop dX5_apply_172 rfl ?_
  refine j_goto (tgt := 208) dX5_apply_173 rfl ?_
  refine j_vret dX5_apply_208 rfl ?_
  exact hQ _ _ ⟨rfl, sm3, hv4⟩
set_option maxRecDepth 20000 in
set_option maxHeartbeats 4000000 in
theorem T_ap_7I {d : Nat} {M : jk_M} {S : HS} (hC : WC M) (hd : hv M.2.1 55 = S) (ok : Sok S) (x1 x2 : Int32) (i : Nat) (hi : i < nT S) (e0 : M.2.1 102 0 = nI i) (e1 : M.2.1 102 1 = x1) (e2 : M.2.1 102 2 = x2) (hr : roomS S 7) : J Fr_X5_apply (d + 2) 0 0 0 [(0, .ref 101), (1, .int 7)] [] M (jk_ex none (fun M1 => Sm (HO 55) M M1 ∧ hv M1.2.1 55 = apS S 7 (nI i) x1 x2)) := by
  refine j_post (fun Q hQ => ?_)
  obtain ⟨q1, q2, q3⟩ := ok.cn
  obtain ⟨r1, r2, r3⟩ := hr
  refine j_aload_n 0 dX5_apply_0 rfl ?_
  refine j_getr (q := 102) dX5_apply_1 fX5_11 (shC hC sgC_101) rfl (rfC hC rfC_101_1 (fun x => absurd x.2 (by decide))) ?_
  refine j_iconst 0 dX5_apply_4 ic_0 ?_
  refine j_ialdN 0 dX5_apply_5 (shC hC sgC_102) (by omega) (by omega) ?_
  refine j_topi (nI i) e0 ?_
  refine j_istore_n (L' := [(2, .int (nI i)), (0, .ref 101), (1, .int 7)]) dX5_apply_6 (by decide) rfl ?_
  refine j_aload_n 1 dX5_apply_7 rfl ?_
  refine j_getr (q := 102) dX5_apply_8 fX5_11 (shC hC sgC_101) rfl (rfC hC rfC_101_1 (fun x => absurd x.2 (by decide))) ?_
  refine j_iconst 1 dX5_apply_11 ic_1 ?_
  refine j_ialdN 1 dX5_apply_12 (shC hC sgC_102) (by omega) (by omega) ?_
  refine j_topi x1 e1 ?_
  refine j_istore_n (L' := [(3, .int x1), (2, .int (nI i)), (0, .ref 101), (1, .int 7)]) dX5_apply_13 (by decide) rfl ?_
  refine j_aload_n 2 dX5_apply_14 rfl ?_
  refine j_getr (q := 102) dX5_apply_15 fX5_11 (shC hC sgC_101) rfl (rfC hC rfC_101_1 (fun x => absurd x.2 (by decide))) ?_
  refine j_iconst 2 dX5_apply_18 ic_2 ?_
  refine j_ialdN 2 dX5_apply_19 (shC hC sgC_102) (by omega) (by omega) ?_
  refine j_topi x2 e2 ?_
  refine j_istore (L' := [(4, .int x2), (3, .int x1), (2, .int (nI i)), (0, .ref 101), (1, .int 7)]) dX5_apply_20 (by decide) rfl ?_
  refine j_aload_n 3 dX5_apply_22 rfl ?_
  refine j_getr (q := 55) dX5_apply_23 fX5_29 (shC hC sgC_101) rfl (rfC hC rfC_101_0 (fun x => absurd x.2 (by decide))) ?_
  refine j_iload_n 2 dX5_apply_26 rfl ?_
  refine j_callV (kc := 0) (ks := 0) (a := 0) (b := 0) (d' := d) (As := [.int (nI i)]) dX5_apply_27 kX5_110 rfl (shC hC (sgH (by simp [isH]))) (by omega) rfl rfl rfl (Nat.le_of_ble_eq_true rfl) (Nat.le_of_ble_eq_true rfl) (T_X2_thingAt hC (by simp [isH]) hd ok i (by omega)) (kk_p ?_)
  refine j_astore (L' := [(5, .ref (55 + 5 + i)), (4, .int x2), (3, .int x1), (2, .int (nI i)), (0, .ref 101), (1, .int 7)]) dX5_apply_30 (by decide) rfl ?_
  refine j_iload_n 5 dX5_apply_32 rfl ?_
  refine j_tableIn (tgt := 187) dX5_apply_33 (by decide) (by decide) (off := 154) (by decide) rfl ?_
  refine j_aload 0 dX5_apply_187 rfl ?_
  refine j_ifnull dX5_apply_189 ?_
  refine j_aload 0 dX5_apply_192 rfl ?_
  refine j_iload_n 5 dX5_apply_194 rfl ?_
  refine j_bipush 8 dX5_apply_195 bp_8 ?_
  refine j_icmp_ne (tgt := 204) dX5_apply_197 rfl (fun c1 => ?_) (fun c1 => ?_)
  · refine j_iconst 0 dX5_apply_204 ic_0 ?_
    refine j_putz dX5_apply_205 fX5_140 (shC hC (sgHT (by simp [isH]) (by have := (Sok.T ok).2; omega))) rfl (by decide) ?_
    have sm2 : Sm (HO 55) M (jk_wI M (55 + 5 + i) 3 0) := Sm.w Sm.rf (HOT (by omega))
    refine j_vret dX5_apply_208 rfl ?_
    have hu := hv_th (k := 3) (x := 0) hd ok hi (by decide)
    have ea : apS S 7 (nI i) x1 x2 = upS S 13 i 0 := by
      show upS S 13 (nI i).toNatClampNeg 0 = _
      rw [nI_clamp (by have := (Sok.T ok).2; omega)]
    exact hQ _ _ ⟨rfl, sm2, hu.trans ea.symm⟩
  · exact absurd c1 (by decide)
set_option maxRecDepth 20000 in
set_option maxHeartbeats 4000000 in
theorem T_ap_8I {d : Nat} {M : jk_M} {S : HS} (hC : WC M) (hd : hv M.2.1 55 = S) (ok : Sok S) (x1 x2 : Int32) (i : Nat) (hi : i < nT S) (e0 : M.2.1 102 0 = nI i) (e1 : M.2.1 102 1 = x1) (e2 : M.2.1 102 2 = x2) (hr : roomS S 8) : J Fr_X5_apply (d + 2) 0 0 0 [(0, .ref 101), (1, .int 8)] [] M (jk_ex none (fun M1 => Sm (HO 55) M M1 ∧ hv M1.2.1 55 = apS S 8 (nI i) x1 x2)) := by
  refine j_post (fun Q hQ => ?_)
  obtain ⟨q1, q2, q3⟩ := ok.cn
  obtain ⟨r1, r2, r3⟩ := hr
  refine j_aload_n 0 dX5_apply_0 rfl ?_
  refine j_getr (q := 102) dX5_apply_1 fX5_11 (shC hC sgC_101) rfl (rfC hC rfC_101_1 (fun x => absurd x.2 (by decide))) ?_
  refine j_iconst 0 dX5_apply_4 ic_0 ?_
  refine j_ialdN 0 dX5_apply_5 (shC hC sgC_102) (by omega) (by omega) ?_
  refine j_topi (nI i) e0 ?_
  refine j_istore_n (L' := [(2, .int (nI i)), (0, .ref 101), (1, .int 8)]) dX5_apply_6 (by decide) rfl ?_
  refine j_aload_n 1 dX5_apply_7 rfl ?_
  refine j_getr (q := 102) dX5_apply_8 fX5_11 (shC hC sgC_101) rfl (rfC hC rfC_101_1 (fun x => absurd x.2 (by decide))) ?_
  refine j_iconst 1 dX5_apply_11 ic_1 ?_
  refine j_ialdN 1 dX5_apply_12 (shC hC sgC_102) (by omega) (by omega) ?_
  refine j_topi x1 e1 ?_
  refine j_istore_n (L' := [(3, .int x1), (2, .int (nI i)), (0, .ref 101), (1, .int 8)]) dX5_apply_13 (by decide) rfl ?_
  refine j_aload_n 2 dX5_apply_14 rfl ?_
  refine j_getr (q := 102) dX5_apply_15 fX5_11 (shC hC sgC_101) rfl (rfC hC rfC_101_1 (fun x => absurd x.2 (by decide))) ?_
  refine j_iconst 2 dX5_apply_18 ic_2 ?_
  refine j_ialdN 2 dX5_apply_19 (shC hC sgC_102) (by omega) (by omega) ?_
  refine j_topi x2 e2 ?_
  refine j_istore (L' := [(4, .int x2), (3, .int x1), (2, .int (nI i)), (0, .ref 101), (1, .int 8)]) dX5_apply_20 (by decide) rfl ?_
  refine j_aload_n 3 dX5_apply_22 rfl ?_
  refine j_getr (q := 55) dX5_apply_23 fX5_29 (shC hC sgC_101) rfl (rfC hC rfC_101_0 (fun x => absurd x.2 (by decide))) ?_
  refine j_iload_n 2 dX5_apply_26 rfl ?_
  refine j_callV (kc := 0) (ks := 0) (a := 0) (b := 0) (d' := d) (As := [.int (nI i)]) dX5_apply_27 kX5_110 rfl (shC hC (sgH (by simp [isH]))) (by omega) rfl rfl rfl (Nat.le_of_ble_eq_true rfl) (Nat.le_of_ble_eq_true rfl) (T_X2_thingAt hC (by simp [isH]) hd ok i (by omega)) (kk_p ?_)
  refine j_astore (L' := [(5, .ref (55 + 5 + i)), (4, .int x2), (3, .int x1), (2, .int (nI i)), (0, .ref 101), (1, .int 8)]) dX5_apply_30 (by decide) rfl ?_
  refine j_iload_n 5 dX5_apply_32 rfl ?_
  refine j_tableIn (tgt := 187) dX5_apply_33 (by decide) (by decide) (off := 154) (by decide) rfl ?_
  refine j_aload 0 dX5_apply_187 rfl ?_
  refine j_ifnull dX5_apply_189 ?_
  refine j_aload 0 dX5_apply_192 rfl ?_
  refine j_iload_n 5 dX5_apply_194 rfl ?_
  refine j_bipush 8 dX5_apply_195 bp_8 ?_
  refine j_icmp_ne (tgt := 204) dX5_apply_197 rfl (fun c1 => ?_) (fun c1 => ?_)
  · exact absurd c1 (by decide)
  · refine j_iconst 1 dX5_apply_200 ic_1 ?_
    refine j_goto (tgt := 205) dX5_apply_201 rfl ?_
    refine j_putz dX5_apply_205 fX5_140 (shC hC (sgHT (by simp [isH]) (by have := (Sok.T ok).2; omega))) rfl (by decide) ?_
    have sm2 : Sm (HO 55) M (jk_wI M (55 + 5 + i) 3 1) := Sm.w Sm.rf (HOT (by omega))
    refine j_vret dX5_apply_208 rfl ?_
    have hu := hv_th (k := 3) (x := 1) hd ok hi (by decide)
    have ea : apS S 8 (nI i) x1 x2 = upS S 13 i 1 := by
      show upS S 13 (nI i).toNatClampNeg 1 = _
      rw [nI_clamp (by have := (Sok.T ok).2; omega)]
    exact hQ _ _ ⟨rfl, sm2, hu.trans ea.symm⟩
set_option maxRecDepth 20000 in
set_option maxHeartbeats 4000000 in
theorem T_ap_9I {d : Nat} {M : jk_M} {S : HS} (hC : WC M) (hd : hv M.2.1 55 = S) (ok : Sok S) (x1 x2 : Int32) (i : Nat) (hi : i < nT S) (e0 : M.2.1 102 0 = nI i) (e1 : M.2.1 102 1 = x1) (e2 : M.2.1 102 2 = x2) (hr : roomS S 9) : J Fr_X5_apply (d + 2) 0 0 0 [(0, .ref 101), (1, .int 9)] [] M (jk_ex none (fun M1 => Sm (HO 55) M M1 ∧ hv M1.2.1 55 = apS S 9 (nI i) x1 x2)) := by
  refine j_post (fun Q hQ => ?_)
  obtain ⟨q1, q2, q3⟩ := ok.cn
  obtain ⟨r1, r2, r3⟩ := hr
  refine j_aload_n 0 dX5_apply_0 rfl ?_
  refine j_getr (q := 102) dX5_apply_1 fX5_11 (shC hC sgC_101) rfl (rfC hC rfC_101_1 (fun x => absurd x.2 (by decide))) ?_
  refine j_iconst 0 dX5_apply_4 ic_0 ?_
  refine j_ialdN 0 dX5_apply_5 (shC hC sgC_102) (by omega) (by omega) ?_
  refine j_topi (nI i) e0 ?_
  refine j_istore_n (L' := [(2, .int (nI i)), (0, .ref 101), (1, .int 9)]) dX5_apply_6 (by decide) rfl ?_
  refine j_aload_n 1 dX5_apply_7 rfl ?_
  refine j_getr (q := 102) dX5_apply_8 fX5_11 (shC hC sgC_101) rfl (rfC hC rfC_101_1 (fun x => absurd x.2 (by decide))) ?_
  refine j_iconst 1 dX5_apply_11 ic_1 ?_
  refine j_ialdN 1 dX5_apply_12 (shC hC sgC_102) (by omega) (by omega) ?_
  refine j_topi x1 e1 ?_
  refine j_istore_n (L' := [(3, .int x1), (2, .int (nI i)), (0, .ref 101), (1, .int 9)]) dX5_apply_13 (by decide) rfl ?_
  refine j_aload_n 2 dX5_apply_14 rfl ?_
  refine j_getr (q := 102) dX5_apply_15 fX5_11 (shC hC sgC_101) rfl (rfC hC rfC_101_1 (fun x => absurd x.2 (by decide))) ?_
  refine j_iconst 2 dX5_apply_18 ic_2 ?_
  refine j_ialdN 2 dX5_apply_19 (shC hC sgC_102) (by omega) (by omega) ?_
  refine j_topi x2 e2 ?_
  refine j_istore (L' := [(4, .int x2), (3, .int x1), (2, .int (nI i)), (0, .ref 101), (1, .int 9)]) dX5_apply_20 (by decide) rfl ?_
  refine j_aload_n 3 dX5_apply_22 rfl ?_
  refine j_getr (q := 55) dX5_apply_23 fX5_29 (shC hC sgC_101) rfl (rfC hC rfC_101_0 (fun x => absurd x.2 (by decide))) ?_
  refine j_iload_n 2 dX5_apply_26 rfl ?_
  refine j_callV (kc := 0) (ks := 0) (a := 0) (b := 0) (d' := d) (As := [.int (nI i)]) dX5_apply_27 kX5_110 rfl (shC hC (sgH (by simp [isH]))) (by omega) rfl rfl rfl (Nat.le_of_ble_eq_true rfl) (Nat.le_of_ble_eq_true rfl) (T_X2_thingAt hC (by simp [isH]) hd ok i (by omega)) (kk_p ?_)
  refine j_astore (L' := [(5, .ref (55 + 5 + i)), (4, .int x2), (3, .int x1), (2, .int (nI i)), (0, .ref 101), (1, .int 9)]) dX5_apply_30 (by decide) rfl ?_
  refine j_iload_n 5 dX5_apply_32 rfl ?_
  refine j_tableIn (tgt := 176) dX5_apply_33 (by decide) (by decide) (off := 143) (by decide) rfl ?_
  refine j_aload_n 4 dX5_apply_176 rfl ?_
  refine j_getr (q := 55) dX5_apply_177 fX5_29 (shC hC sgC_101) rfl (rfC hC rfC_101_0 (fun x => absurd x.2 (by decide))) ?_
  refine j_iload_n 3 dX5_apply_180 rfl ?_
  refine j_put dX5_apply_181 fX5_137 (shC hC (sgH (by simp [isH]))) rfl ?_
  have sm1 : Sm (HO 55) M (jk_wI M 55 3 (nI i)) := Sm.w Sm.rf HOz
  refine j_goto (tgt := 208) dX5_apply_184 rfl ?_
  refine j_vret dX5_apply_208 rfl ?_
  exact hQ _ _ ⟨rfl, sm1, hv_sc hd ok (by decide) (by decide) (by decide) (by decide)⟩
set_option maxRecDepth 20000 in
set_option maxHeartbeats 4000000 in
theorem T_ap_9O {d : Nat} {M : jk_M} {S : HS} (hC : WC M) (hd : hv M.2.1 55 = S) (ok : Sok S) (x1 x2 : Int32) (x0 : Int32) (hx : ¬ (0 ≤ x0 ∧ x0 < nI (nT S))) (e0 : M.2.1 102 0 = x0) (e1 : M.2.1 102 1 = x1) (e2 : M.2.1 102 2 = x2) (hr : roomS S 9) : J Fr_X5_apply (d + 2) 0 0 0 [(0, .ref 101), (1, .int 9)] [] M (jk_ex none (fun M1 => Sm (HO 55) M M1 ∧ hv M1.2.1 55 = apS S 9 x0 x1 x2)) := by
  refine j_post (fun Q hQ => ?_)
  obtain ⟨q1, q2, q3⟩ := ok.cn
  obtain ⟨r1, r2, r3⟩ := hr
  refine j_aload_n 0 dX5_apply_0 rfl ?_
  refine j_getr (q := 102) dX5_apply_1 fX5_11 (shC hC sgC_101) rfl (rfC hC rfC_101_1 (fun x => absurd x.2 (by decide))) ?_
  refine j_iconst 0 dX5_apply_4 ic_0 ?_
  refine j_ialdN 0 dX5_apply_5 (shC hC sgC_102) (by omega) (by omega) ?_
  refine j_topi x0 e0 ?_
  refine j_istore_n (L' := [(2, .int x0), (0, .ref 101), (1, .int 9)]) dX5_apply_6 (by decide) rfl ?_
  refine j_aload_n 1 dX5_apply_7 rfl ?_
  refine j_getr (q := 102) dX5_apply_8 fX5_11 (shC hC sgC_101) rfl (rfC hC rfC_101_1 (fun x => absurd x.2 (by decide))) ?_
  refine j_iconst 1 dX5_apply_11 ic_1 ?_
  refine j_ialdN 1 dX5_apply_12 (shC hC sgC_102) (by omega) (by omega) ?_
  refine j_topi x1 e1 ?_
  refine j_istore_n (L' := [(3, .int x1), (2, .int x0), (0, .ref 101), (1, .int 9)]) dX5_apply_13 (by decide) rfl ?_
  refine j_aload_n 2 dX5_apply_14 rfl ?_
  refine j_getr (q := 102) dX5_apply_15 fX5_11 (shC hC sgC_101) rfl (rfC hC rfC_101_1 (fun x => absurd x.2 (by decide))) ?_
  refine j_iconst 2 dX5_apply_18 ic_2 ?_
  refine j_ialdN 2 dX5_apply_19 (shC hC sgC_102) (by omega) (by omega) ?_
  refine j_topi x2 e2 ?_
  refine j_istore (L' := [(4, .int x2), (3, .int x1), (2, .int x0), (0, .ref 101), (1, .int 9)]) dX5_apply_20 (by decide) rfl ?_
  refine j_aload_n 3 dX5_apply_22 rfl ?_
  refine j_getr (q := 55) dX5_apply_23 fX5_29 (shC hC sgC_101) rfl (rfC hC rfC_101_0 (fun x => absurd x.2 (by decide))) ?_
  refine j_iload_n 2 dX5_apply_26 rfl ?_
  refine j_callV (kc := 0) (ks := 0) (a := 0) (b := 0) (d' := d) (As := [.int x0]) dX5_apply_27 kX5_110 rfl (shC hC (sgH (by simp [isH]))) (by omega) rfl rfl rfl (Nat.le_of_ble_eq_true rfl) (Nat.le_of_ble_eq_true rfl) (T_X2_thingAtN hC (by simp [isH]) hd ok x0 hx) (kk_p ?_)
  refine j_astoreN (L' := [(5, .null), (4, .int x2), (3, .int x1), (2, .int x0), (0, .ref 101), (1, .int 9)]) dX5_apply_30 (by decide) rfl ?_
  refine j_iload_n 5 dX5_apply_32 rfl ?_
  refine j_tableIn (tgt := 176) dX5_apply_33 (by decide) (by decide) (off := 143) (by decide) rfl ?_
  refine j_aload_n 4 dX5_apply_176 rfl ?_
  refine j_getr (q := 55) dX5_apply_177 fX5_29 (shC hC sgC_101) rfl (rfC hC rfC_101_0 (fun x => absurd x.2 (by decide))) ?_
  refine j_iload_n 3 dX5_apply_180 rfl ?_
  refine j_put dX5_apply_181 fX5_137 (shC hC (sgH (by simp [isH]))) rfl ?_
  have sm1 : Sm (HO 55) M (jk_wI M 55 3 x0) := Sm.w Sm.rf HOz
  refine j_goto (tgt := 208) dX5_apply_184 rfl ?_
  refine j_vret dX5_apply_208 rfl ?_
  exact hQ _ _ ⟨rfl, sm1, hv_sc hd ok (by decide) (by decide) (by decide) (by decide)⟩
theorem T_X5_apply {d : Nat} {M : jk_M} {S : HS} (hC : WC M) (hd : hv M.2.1 55 = S) (ok : Sok S) (w : Nat) (hw : w < 10) (x0 x1 x2 : Int32) (e0 : M.2.1 102 0 = x0) (e1 : M.2.1 102 1 = x1) (e2 : M.2.1 102 2 = x2) (hr : roomS S w) (h78 : w = 7 ∨ w = 8 → ∃ i, i < nT S ∧ x0 = nI i) : J Fr_X5_apply (d + 2) 0 0 0 [(0, .ref 101), (1, .int (nI w))] [] M (jk_ex none (fun M1 => Sm (HO 55) M M1 ∧ hv M1.2.1 55 = apS S w x0 x1 x2)) := by
  by_cases hx : 0 ≤ x0 ∧ x0 < nI (nT S)
  · obtain ⟨i, hi, ei⟩ := thing_in (Sok.T ok).2 hx
    subst ei
    have h : w = 0 ∨ w = 1 ∨ w = 2 ∨ w = 3 ∨ w = 4 ∨ w = 5 ∨ w = 6 ∨ w = 7 ∨ w = 8 ∨ w = 9 := by omega
    rcases h with rfl | rfl | rfl | rfl | rfl | rfl | rfl | rfl | rfl | rfl
    · rw [show (Value.int (nI 0)) = .int 0 from congrArg _ (by decide)]
      exact T_ap_0I hC hd ok x1 x2 i hi e0 e1 e2 hr
    · rw [show (Value.int (nI 1)) = .int 1 from congrArg _ (by decide)]
      exact T_ap_1I hC hd ok x1 x2 i hi e0 e1 e2 hr
    · rw [show (Value.int (nI 2)) = .int 2 from congrArg _ (by decide)]
      exact T_ap_2I hC hd ok x1 x2 i hi e0 e1 e2 hr
    · rw [show (Value.int (nI 3)) = .int 3 from congrArg _ (by decide)]
      exact T_ap_3I hC hd ok x1 x2 i hi e0 e1 e2 hr
    · rw [show (Value.int (nI 4)) = .int 4 from congrArg _ (by decide)]
      exact T_ap_4I hC hd ok x1 x2 i hi e0 e1 e2 hr
    · rw [show (Value.int (nI 5)) = .int 5 from congrArg _ (by decide)]
      exact T_ap_5I hC hd ok x1 x2 i hi e0 e1 e2 hr
    · rw [show (Value.int (nI 6)) = .int 6 from congrArg _ (by decide)]
      exact T_ap_6I hC hd ok x1 x2 i hi e0 e1 e2 hr
    · rw [show (Value.int (nI 7)) = .int 7 from congrArg _ (by decide)]
      exact T_ap_7I hC hd ok x1 x2 i hi e0 e1 e2 hr
    · rw [show (Value.int (nI 8)) = .int 8 from congrArg _ (by decide)]
      exact T_ap_8I hC hd ok x1 x2 i hi e0 e1 e2 hr
    · rw [show (Value.int (nI 9)) = .int 9 from congrArg _ (by decide)]
      exact T_ap_9I hC hd ok x1 x2 i hi e0 e1 e2 hr
  · have h : w = 0 ∨ w = 1 ∨ w = 2 ∨ w = 3 ∨ w = 4 ∨ w = 5 ∨ w = 6 ∨ w = 7 ∨ w = 8 ∨ w = 9 := by omega
    rcases h with rfl | rfl | rfl | rfl | rfl | rfl | rfl | rfl | rfl | rfl
    · rw [show (Value.int (nI 0)) = .int 0 from congrArg _ (by decide)]
      exact T_ap_0O hC hd ok x1 x2 x0 hx e0 e1 e2 hr
    · rw [show (Value.int (nI 1)) = .int 1 from congrArg _ (by decide)]
      exact T_ap_1O hC hd ok x1 x2 x0 hx e0 e1 e2 hr
    · rw [show (Value.int (nI 2)) = .int 2 from congrArg _ (by decide)]
      exact T_ap_2O hC hd ok x1 x2 x0 hx e0 e1 e2 hr
    · rw [show (Value.int (nI 3)) = .int 3 from congrArg _ (by decide)]
      exact T_ap_3O hC hd ok x1 x2 x0 hx e0 e1 e2 hr
    · rw [show (Value.int (nI 4)) = .int 4 from congrArg _ (by decide)]
      exact T_ap_4O hC hd ok x1 x2 x0 hx e0 e1 e2 hr
    · rw [show (Value.int (nI 5)) = .int 5 from congrArg _ (by decide)]
      exact T_ap_5O hC hd ok x1 x2 x0 hx e0 e1 e2 hr
    · rw [show (Value.int (nI 6)) = .int 6 from congrArg _ (by decide)]
      exact T_ap_6O hC hd ok x1 x2 x0 hx e0 e1 e2 hr
    · obtain ⟨i, hi, ei⟩ := h78 (by decide)
      exact absurd ⟨by rw [ei]; exact nI_pos' (by have := (Sok.T ok).2; omega), by rw [ei]; exact (nI_ltI (by have := (Sok.T ok).2; omega) (by have := (Sok.T ok).2; omega)).mpr hi⟩ hx
    · obtain ⟨i, hi, ei⟩ := h78 (by decide)
      exact absurd ⟨by rw [ei]; exact nI_pos' (by have := (Sok.T ok).2; omega), by rw [ei]; exact (nI_ltI (by have := (Sok.T ok).2; omega) (by have := (Sok.T ok).2; omega)).mpr hi⟩ hx
    · rw [show (Value.int (nI 9)) = .int 9 from congrArg _ (by decide)]
      exact T_ap_9O hC hd ok x1 x2 x0 hx e0 e1 e2 hr
