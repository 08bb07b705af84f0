/-! a whole text -/
theorem PRd_h : ∀ q, HO 55 q → PRd q := fun _ h => Or.inl h
theorem sL3 : ∀ w, w < 10 → 3 ≤ jk_sL.getD w 0 := by decide +kernel
theorem mtf_n {n : Nat} {t : Nat → Int32} {p w : Nat} : ∀ f s, p + s ≤ n → p + mtf n t p w f s ≤ n
  | 0, s, h => h
  | f + 1, s, h => by
    rw [mtf]
    split
    · rename_i z; exact mtf_n f (s + 1) (by omega)
    · exact h
theorem inB_of {x : Int32} {a b : Nat} (ha : a < 2 ^ 31) (hb : b < 2 ^ 31) (h1 : nI a ≤ x) (h2 : x ≤ nI b) : inB x a b := by
  have g1 := Int32.le_iff_toInt_le.mp h1
  have g2 := Int32.le_iff_toInt_le.mp h2
  rw [nI_toInt hb] at g2
  rw [nI_toInt ha] at g1
  refine ⟨x.toInt.toNat, by omega, by omega, ?_⟩
  apply Int32.toInt_inj.mp
  rw [nI_toInt (by omega)]
  omega
theorem may_B {S : HS} {x : Int32} (z : Int32) (hz : ¬ z = 3) (a b : Nat) (ha : a < 2 ^ 31) (hb : b < 2 ^ 31) (h1 : jk_le.getD z.toNatClampNeg 0 = nI a) (h2 : jk_mo.getD z.toNatClampNeg 0 = nI b) (h : mayS S z x) : inB x a b := by
  unfold mayS at h
  rw [if_neg hz] at h
  obtain ⟨-, -, -, -, h5, h6⟩ := h
  rw [h1] at h5
  rw [h2] at h6
  exact inB_of ha hb h5 h6
theorem may_C {S : HS} {x : Int32} (h : mayS S 3 x) : isC S x := by
  unfold mayS at h
  rwa [if_pos rfl] at h
theorem may_side {S : HS} {x : Int32} (h : mayS S 0 x) : S 0 0 ≤ x := by
  unfold mayS at h
  rw [if_neg (by decide)] at h
  exact Int32.not_lt.mp (fun z => h.2.2.1 ⟨rfl, z⟩)
theorem apS_ok {S : HS} {w : Nat} (ok : Sok S) (hw : w < 10) (hr : roomS S w) {v : Nat → Int32} (h : ∀ k, k < 3 → soN w k ≠ -1 → mayS S (soN w k) (v k)) : Sok (apS S w (v 0) (v 1) (v 2)) := by
  have hw10 : w = 0 ∨ w = 1 ∨ w = 2 ∨ w = 3 ∨ w = 4 ∨ w = 5 ∨ w = 6 ∨ w = 7 ∨ w = 8 ∨ w = 9 := by omega
  have h0 := h 0 (by decide)
  have h1 := h 1 (by decide)
  have h2 := h 2 (by decide)
  obtain ⟨r1, r2, r3⟩ := hr
  rcases hw10 with rfl | rfl | rfl | rfl | rfl | rfl | rfl | rfl | rfl | rfl
  · have a0 : mayS S 0 (v 0) := h0 (by decide)
    exact ok.u0 (may_B 0 (by decide) 2 8 (by decide) (by decide) (by decide) (by decide) a0) (may_side a0)
  · have a0 : mayS S 1 (v 0) := h0 (by decide)
    have a1 : mayS S 2 (v 1) := h1 (by decide)
    have a2 : mayS S 3 (v 2) := h2 (by decide)
    exact ok.aT (r1 rfl) (may_B 1 (by decide) 0 6 (by decide) (by decide) (by decide) (by decide) a0) (may_B 2 (by decide) 0 9 (by decide) (by decide) (by decide) (by decide) a1) (may_C a2)
  · have a1 : mayS S 3 (v 1) := h1 (by decide)
    show Sok (if v 0 = 0 then _ else _)
    split
    · exact ok.u5 (may_C a1)
    · exact ok.u6 (Or.inr (may_C a1))
  · have a0 : mayS S 5 (v 0) := h0 (by decide)
    exact ok.u1 (may_B 5 (by decide) 10 60 (by decide) (by decide) (by decide) (by decide) a0)
  · have a0 : mayS S 6 (v 0) := h0 (by decide)
    exact ok.u2 (may_B 6 (by decide) 1 13 (by decide) (by decide) (by decide) (by decide) a0)
  · have a0 : mayS S 6 (v 0) := h0 (by decide)
    have a1 : mayS S 7 (v 1) := h1 (by decide)
    exact ok.aN (r2 rfl) (may_B 6 (by decide) 1 13 (by decide) (by decide) (by decide) (by decide) a0) (may_B 7 (by decide) 0 20 (by decide) (by decide) (by decide) (by decide) a1)
  · have a0 : mayS S 3 (v 0) := h0 (by decide)
    have a1 : mayS S 8 (v 1) := h1 (by decide)
    have a2 : mayS S 9 (v 2) := h2 (by decide)
    exact ok.aD (r3 rfl) (may_C a0) (may_B 8 (by decide) 1 5 (by decide) (by decide) (by decide) (by decide) a1) (may_B 9 (by decide) 1 99 (by decide) (by decide) (by decide) (by decide) a2)
  · exact ok.u13 (Or.inl rfl)
  · exact ok.u13 (Or.inr rfl)
  · have a0 : mayS S 11 (v 0) := h0 (by decide)
    exact ok.u3 (may_B 11 (by decide) 0 59 (by decide) (by decide) (by decide) (by decide) a0)
theorem itS_in {S T : HS} {n : Nat} {t : Nat → Int32} {p q : Nat} (ok : Sok S) (hp : p ≤ n) (h : itS S n t p = .inr (T, q)) : Sok T ∧ p + 3 ≤ q ∧ q ≤ n := by
  cases hw : wdN n t p 10 with
  | none => rw [itS_0 hw] at h; cases h
  | some w =>
    obtain ⟨w10, hm⟩ := wd_lt 10 hw
    by_cases hr : roomS S w
    · cases hn : nuL S n t w (p + jk_sL.getD w 0) 3 with
      | inl f => rw [itS_2 hw hr hn] at h; cases h
      | inr qv =>
        obtain ⟨q0, v⟩ := qv
        rw [itS_3 hw hr hn] at h
        have e : (apS S w (v 0) (v 1) (v 2), q0) = (T, q) := by simpa using h
        obtain ⟨rfl, rfl⟩ := Prod.mk.inj e
        obtain ⟨m1, m2, m3, m4⟩ := nuL_may 3 _ _ hn
        have l3 := sL3 w w10
        have hl := mtf_n (n := n) (t := t) (p := p) (w := w) 10 0 (by omega)
        have hm : mtf n t p w 10 0 = jk_sL.getD w 0 := hm
        rw [hm] at hl
        exact ⟨apS_ok ok w10 hr m1, by omega, m4 hl⟩
    · rw [itS_1 hw hr] at h; cases h
/-- all the items: their number and what they make; or where it is wrong -/
noncomputable def rdL (n : Nat) (t : Nat → Int32) : Nat → HS → Nat → Nat → Nat ⊕ (HS × Nat)
  | 0, _, p, _ => .inl p
  | f + 1, S, p, k => match itS S n t p with
    | .inl x => .inl x
    | .inr (T, q) => if q = n then .inr (T, k) else if q < n ∧ t q = 59 then rdL n t f T (q + 1) (k + 1) else .inl q
section RL
variable {S T : HS} {n : Nat} {t : Nat → Int32} {p q f k : Nat}
theorem rdL_0 {x : Nat} (h : itS S n t p = .inl x) : rdL n t (f + 1) S p k = .inl x := by simp only [rdL, h]
theorem rdL_1 (h : itS S n t p = .inr (T, q)) (e : q = n) : rdL n t (f + 1) S p k = .inr (T, k) := by simp only [rdL, h, e, if_true]
theorem rdL_2 (h : itS S n t p = .inr (T, q)) (e : ¬ q = n) (e2 : q < n ∧ t q = 59) : rdL n t (f + 1) S p k = rdL n t f T (q + 1) (k + 1) := by simp only [rdL, h, e, if_false, e2, and_self, if_true]
theorem rdL_3 (h : itS S n t p = .inr (T, q)) (e : ¬ q = n) (e2 : ¬ (q < n ∧ t q = 59)) : rdL n t (f + 1) S p k = .inl q := by simp only [rdL, h, e, e2, if_false]
end RL
theorem rdL_ok {n : Nat} {t : Nat → Int32} : ∀ f S p k T m, Sok S → p ≤ n → rdL n t f S p k = .inr (T, m) → Sok T
  | 0, S, p, k, T, m, _, _, h => by cases h
  | f + 1, S, p, k, T, m, ok, hp, h => by
    cases hi : itS S n t p with
    | inl x => rw [rdL_0 hi] at h; cases h
    | inr Tq =>
      obtain ⟨T1, q⟩ := Tq
      obtain ⟨ok1, l1, l2⟩ := itS_in ok hp hi
      by_cases e : q = n
      · rw [rdL_1 hi e] at h
        have e2 : (T1, k) = (T, m) := by simpa using h
        obtain ⟨rfl, rfl⟩ := Prod.mk.inj e2
        exact ok1
      · by_cases e2 : q < n ∧ t q = 59
        · rw [rdL_2 hi e e2] at h
          exact rdL_ok f T1 (q + 1) (k + 1) T m ok1 (by omega) h
        · rw [rdL_3 hi e e2] at h; cases h
set_option maxRecDepth 20000 in
set_option maxHeartbeats 4000000 in
theorem T_X5_readItemN {d : Nat} {M : jk_M} {b n : Nat} {t : Nat → Int32} {S : HS} (hC : WC M) (tx : TX M b n t) (hd : hv M.2.1 55 = S) (ok : Sok S) (p : Nat) (hp : M.2.1 101 3 = nI p) (h9 : p ≤ 160) (hw : wdN n t p 10 = none) : J Fr_X5_readItem (d + 6) 0 0 0 [(0, .ref 101)] [] M (jk_or (.int 1) (fun M1 => ∃ T q, itS S n t p = .inr (T, q) ∧ Sm PRd M M1 ∧ hv M1.2.1 55 = T ∧ M1.2.1 101 3 = nI q ∧ M1.2.1 101 4 = M.2.1 101 4) (.int 0) (fun M1 => ∃ f, itS S n t p = .inl f ∧ Sm PRd M M1 ∧ M1.2.1 101 4 = nI f)) := by
  refine j_post (fun Q hQ => ?_)
  refine j_aload_n 0 dX5_readItem_0 rfl ?_
  refine j_getv (nI p) dX5_readItem_1 fX5_22 (shC hC sgC_101) rfl hp ?_
  refine j_istore_n (L' := [(1, .int (nI p)), (0, .ref 101)]) dX5_readItem_4 (by decide) rfl ?_
  refine j_aload_n 1 dX5_readItem_5 rfl ?_
  refine j_callV (kc := 0) (ks := 0) (a := 0) (b := 0) (d' := (d + 5)) (As := []) dX5_readItem_6 kX5_44 rfl (shC hC sgC_101) (by omega) rfl rfl rfl (Nat.le_of_ble_eq_true rfl) (Nat.le_of_ble_eq_true rfl) (T_X5_readWordN hC tx p hp (by omega) hw) (kk_p ?_)
  have hsw : Sm PRd M (jk_wI M 101 4 (nI (p + msN n t p 10))) := Sm.rf.w (Or.inr (Or.inl rfl))
  refine j_istore_n (L' := [(2, .int (-1)), (1, .int (nI p)), (0, .ref 101)]) dX5_readItem_9 (by decide) rfl ?_
  refine j_iload_n 0 dX5_readItem_10 rfl ?_
  refine j_iconst (-1) dX5_readItem_11 ic_n1 ?_
  refine j_icmp_ne (tgt := 17) dX5_readItem_12 rfl (fun c1 => ?_) (fun c1 => ?_)
  · exact absurd c1 (by decide)
  · refine j_iconst 0 dX5_readItem_15 ic_0 ?_
    refine j_zret dX5_readItem_16 rfl rfl ?_
    exact hQ _ _ (Or.inr ⟨rfl, _, itS_0 hw, hsw, rd_s⟩)
theorem w_n1 {w : Nat} (hw : w < 10) : ¬ nI w = -1 := fun e => by
  have h := nI_pos' (show w < 2 ^ 31 by omega)
  rw [e] at h
  exact absurd h (by decide)
set_option maxRecDepth 20000 in
set_option maxHeartbeats 4000000 in
theorem T_X5_readItemS {d : Nat} {M : jk_M} {b n : Nat} {t : Nat → Int32} {S : HS} (hC : WC M) (tx : TX M b n t) (hd : hv M.2.1 55 = S) (ok : Sok S) (p : Nat) (hp : M.2.1 101 3 = nI p) (h9 : p ≤ 160) (w : Nat) (hw : wdN n t p 10 = some w) : J Fr_X5_readItem (d + 6) 0 0 0 [(0, .ref 101)] [] M (jk_or (.int 1) (fun M1 => ∃ T q, itS S n t p = .inr (T, q) ∧ Sm PRd M M1 ∧ hv M1.2.1 55 = T ∧ M1.2.1 101 3 = nI q ∧ M1.2.1 101 4 = M.2.1 101 4) (.int 0) (fun M1 => ∃ f, itS S n t p = .inl f ∧ Sm PRd M M1 ∧ M1.2.1 101 4 = nI f)) := by
  refine j_post (fun Q hQ => ?_)
  obtain ⟨w10, hmw⟩ := wd_lt 10 hw
  have hl9 := sL9 w w10
  refine j_aload_n 0 dX5_readItem_0 rfl ?_
  refine j_getv (nI p) dX5_readItem_1 fX5_22 (shC hC sgC_101) rfl hp ?_
  refine j_istore_n (L' := [(1, .int (nI p)), (0, .ref 101)]) dX5_readItem_4 (by decide) rfl ?_
  refine j_aload_n 1 dX5_readItem_5 rfl ?_
  refine j_callV (kc := 0) (ks := 0) (a := 0) (b := 0) (d' := (d + 5)) (As := []) dX5_readItem_6 kX5_44 rfl (shC hC sgC_101) (by omega) rfl rfl rfl (Nat.le_of_ble_eq_true rfl) (Nat.le_of_ble_eq_true rfl) (T_X5_readWordS hC tx p hp (by omega) w hw) (kk_p ?_)
  have hsw : Sm PRn M (jk_wI M 101 3 (nI (p + jk_sL.getD w 0))) := Sm.rf.w (Or.inl rfl)
  refine j_istore_n (L' := [(2, .int (nI w)), (1, .int (nI p)), (0, .ref 101)]) dX5_readItem_9 (by decide) rfl ?_
  refine j_iload_n 0 dX5_readItem_10 rfl ?_
  refine j_iconst (-1) dX5_readItem_11 ic_n1 ?_
  refine j_icmp_ne (tgt := 17) dX5_readItem_12 rfl (fun c1 => ?_) (fun c1 => ?_)
  · refine j_aload_n 2 dX5_readItem_17 rfl ?_
    refine j_iload_n 0 dX5_readItem_18 rfl ?_
    refine j_callV (kc := 0) (ks := 0) (a := 0) (b := 0) (d' := d) (As := [.int (nI w)]) dX5_readItem_19 kX5_48 rfl (shC (Sm.C hsw hC) sgC_101) (by omega) rfl rfl rfl (Nat.le_of_ble_eq_true rfl) (Nat.le_of_ble_eq_true rfl) (T_X5_hasRoom (Sm.C hsw hC) (Sm.hv hsw hd ok PRnH) ok w w10) (kk_p ?_)
    refine j_if_neB (p := (roomS S w)) (tgt := 32) dX5_readItem_22 rfl (fun c2 => ?_) (fun c2 => ?_)
    · refine j_iconst 0 dX5_readItem_32 ic_0 ?_
      refine j_istore_n (L' := [(3, .int 0), (2, .int (nI w)), (1, .int (nI p)), (0, .ref 101)]) dX5_readItem_33 (by decide) rfl ?_
      have lp5 : ∀ (k3 : Nat) (i : Nat) (q : Nat) (v : Nat → Int32) (M1 : jk_M), 3 - i < k3 → (i ≤ 3) → (nuL S n t w (p + jk_sL.getD w 0) i = .inr (q, v)) → (Sm PRn M M1) → (M1.2.1 101 3 = nI q) → (q ≤ p + 9 + 4 * i) → (∀ k, k < i → soN w k ≠ -1 → M1.2.1 102 k = v k) → (M1.2.1 101 4 = M.2.1 101 4) → J Fr_X5_readItem (d + 6) 0 0 34 [(0, .ref 101), (1, .int (nI p)), (2, .int (nI w)), (3, .int (nI i))] [] M1 Q := by
        intro k3
        induction k3 with
        | zero => intro i q v M1 hk; exact absurd hk (Nat.not_lt_zero _)
        | succ k3 ih4 =>
          intro i q v M1 hk3 hi hnu hs1 hp1 hq hv1 hfl
          refine j_iload_n 3 dX5_readItem_34 rfl ?_
          refine j_iconst 3 dX5_readItem_35 ic_3 ?_
          refine j_icmp_geN (tgt := 70) i 3 dX5_readItem_36 rfl (by omega) (by omega) (fun c6 => ?_) (fun c6 => ?_)
          · have e3 : i = 3 := by omega
            subst e3
            obtain ⟨m1, -, -, -⟩ := nuL_may 3 q v hnu
            have h78 : w = 7 ∨ w = 8 → ∃ j, j < nT S ∧ M1.2.1 102 0 = nI j := fun z => by
              have hz : soN w 0 = 10 := by rcases z with rfl | rfl <;> rfl
              rw [hv1 0 (by decide) (by rw [hz]; decide)]
              have := m1 0 (by decide) (by rw [hz]; decide)
              rw [hz] at this
              exact may10 ok this
            refine j_aload_n 0 dX5_readItem_70 rfl ?_
            refine j_iload_n 2 dX5_readItem_71 rfl ?_
            refine j_callV (kc := 0) (ks := 0) (a := 0) (b := 0) (d' := (d + 2)) (As := [.int (nI w)]) dX5_readItem_72 kX5_60 rfl (shC (Sm.C hs1 hC) sgC_101) (by omega) rfl rfl rfl (Nat.le_of_ble_eq_true rfl) (Nat.le_of_ble_eq_true rfl) (T_X5_apply (Sm.C hs1 hC) (Sm.hv hs1 hd ok PRnH) ok w w10 _ _ _ rfl rfl rfl c2 h78) (kk_ev (fun M7 hM8 => ?_))
            obtain ⟨hsA, hvA⟩ := hM8
            refine j_iconst 1 dX5_readItem_75 ic_1 ?_
            refine j_zret dX5_readItem_76 rfl rfl ?_
            exact hQ _ _ (Or.inl ⟨rfl, _, _, itS_3 hw c2 hnu, Sm.tr (Sm.mo hs1 PRnR) (Sm.mo hsA PRd_h), hvA.trans (apS_eq w10 (fun k hk hs => hv1 k hk hs)), (Sm.rd hsA (fun e => by have := HO55 e; omega)).trans hp1, (Sm.rd hsA (fun e => by have := HO55 e; omega)).trans hfl⟩)
          · refine j_iload_n 2 dX5_readItem_39 rfl ?_
            refine j_iload_n 3 dX5_readItem_40 rfl ?_
            refine j_callS (kc := 0) (ks := 0) (a := 0) (b := 0) (d' := d) (As := [.int (nI w), .int (nI i)]) dX5_readItem_41 kX5_52 rfl (by omega) rfl rfl rfl (Nat.le_of_ble_eq_true rfl) (Nat.le_of_ble_eq_true rfl) (T_X5_sortOf w i w10 (by omega)) (kk_p ?_)
            refine j_istore (L' := [(4, .int (soN w i)), (0, .ref 101), (1, .int (nI p)), (2, .int (nI w)), (3, .int (nI i))]) dX5_readItem_44 (by decide) rfl ?_
            refine j_iload 0 dX5_readItem_46 rfl ?_
            refine j_iconst (-1) dX5_readItem_48 ic_n1 ?_
            refine j_icmp_eq (tgt := 64) dX5_readItem_49 rfl (fun c9 => ?_) (fun c9 => ?_)
            · refine j_iinc 4 (nI (i + 1)) (L' := [(3, .int (nI (i + 1))), (4, .int (soN w i)), (0, .ref 101), (1, .int (nI p)), (2, .int (nI w))]) dX5_readItem_64 rfl (inc1 i) (by decide) rfl ?_
              refine j_goto (tgt := 34) dX5_readItem_67 rfl ?_
              exact j_sub (jk_pick [2, 3, 4, 0] rfl) (ih4 (i + 1) q v M1 (by omega) (by omega) (nuL_k hnu c9) hs1 hp1 (by omega) (fun k hk hs => (Nat.lt_succ_iff_lt_or_eq.mp hk).elim (fun y => hv1 k y hs) (fun e => absurd (by rw [e]; exact c9) hs)) hfl)
            · refine j_aload_n 1 dX5_readItem_52 rfl ?_
              refine j_iload_n 4 dX5_readItem_53 rfl ?_
              refine j_iload 0 dX5_readItem_54 rfl ?_
              refine j_callV (kc := 0) (ks := 0) (a := 0) (b := 0) (d' := (d + 4)) (As := [.int (nI i), .int (soN w i)]) dX5_readItem_56 kX5_56 rfl (shC (Sm.C hs1 hC) sgC_101) (by omega) rfl rfl rfl (Nat.le_of_ble_eq_true rfl) (Nat.le_of_ble_eq_true rfl) (T_X5_readNumber (Sm.C hs1 hC) (tx.sm hs1 PRnP tx.1.n102) (Sm.hv hs1 hd ok PRnH) ok q hp1 (by omega) i (by omega) (soN w i)) (kk_o (fun M10 hM11 => ?_) (fun M12 hM13 => ?_))
              · obtain ⟨z14x, z14q, z14e, z14s, z14p, z14v, z14k, z14f⟩ := hM11
                have z14s2 := Sm.tr hs1 z14s
                refine j_if_ne (tgt := 64) dX5_readItem_59 rfl (fun c15 => ?_) (fun c15 => ?_)
                · refine j_iinc 4 (nI (i + 1)) (L' := [(3, .int (nI (i + 1))), (4, .int (soN w i)), (0, .ref 101), (1, .int (nI p)), (2, .int (nI w))]) dX5_readItem_64 rfl (inc1 i) (by decide) rfl ?_
                  refine j_goto (tgt := 34) dX5_readItem_67 rfl ?_
                  exact j_sub (jk_pick [2, 3, 4, 0] rfl) (ih4 (i + 1) z14q (va_up v i z14x) M10 (by omega) (by omega) (nuL_y hnu c9 z14e) z14s2 z14p (by have := nuS_in z14e; omega) (fun k hk hs => by
            by_cases ek : k = i
            · rw [ek, va_up_self]; exact z14v
            · rw [va_up_ne _ _ ek, z14k k ek]; exact hv1 k (by omega) hs) (z14f.trans hfl))
                · exact absurd c15 (by decide)
              · obtain ⟨z16f, z16e, z16s, z16p⟩ := hM13
                have z16s2 := Sm.tr hs1 z16s
                refine j_if_ne (tgt := 64) dX5_readItem_59 rfl (fun c17 => ?_) (fun c17 => ?_)
                · exact absurd c17 (by decide)
                · refine j_iconst 0 dX5_readItem_62 ic_0 ?_
                  refine j_zret dX5_readItem_63 rfl rfl ?_
                  have hfl2 := nuL_f (nuL_n hnu c9 z16e) (3 - (i + 1))
                  rw [show i + 1 + (3 - (i + 1)) = 3 by omega] at hfl2
                  exact hQ _ _ (Or.inr ⟨rfl, _, itS_2 hw c2 hfl2, Sm.mo z16s2 PRnR, z16p⟩)
      exact j_sub (jk_pick [3, 2, 1, 0] rfl) (lp5 _ 0 (p + jk_sL.getD w 0) (fun _ => 0) (jk_wI M 101 3 (nI (p + jk_sL.getD w 0))) (Nat.lt_succ_self _) (by omega) rfl hsw rd_s (by omega) (fun k hk => absurd hk (Nat.not_lt_zero k)) (rd_k (by decide)))
    · refine j_aload_n 2 dX5_readItem_25 rfl ?_
      refine j_iload_n 1 dX5_readItem_26 rfl ?_
      refine j_put dX5_readItem_27 fX5_26 (shC (Sm.C hsw hC) sgC_101) rfl ?_
      have sm18 : Sm PRn M (jk_wI (jk_wI M 101 3 (nI (p + jk_sL.getD w 0))) 101 4 (nI p)) := Sm.w hsw (Or.inl rfl)
      refine j_iconst 0 dX5_readItem_30 ic_0 ?_
      refine j_zret dX5_readItem_31 rfl rfl ?_
      exact hQ _ _ (Or.inr ⟨rfl, _, itS_1 hw c2, Sm.mo sm18 PRnR, rd_s⟩)
  · exact absurd c1 (w_n1 w10)
theorem T_X5_readItem {d : Nat} {M : jk_M} {b n : Nat} {t : Nat → Int32} {S : HS} (hC : WC M) (tx : TX M b n t) (hd : hv M.2.1 55 = S) (ok : Sok S) (p : Nat) (hp : M.2.1 101 3 = nI p) (h9 : p ≤ 160) : J Fr_X5_readItem (d + 6) 0 0 0 [(0, .ref 101)] [] M (jk_or (.int 1) (fun M1 => ∃ T q, itS S n t p = .inr (T, q) ∧ Sm PRd M M1 ∧ hv M1.2.1 55 = T ∧ M1.2.1 101 3 = nI q ∧ M1.2.1 101 4 = M.2.1 101 4) (.int 0) (fun M1 => ∃ f, itS S n t p = .inl f ∧ Sm PRd M M1 ∧ M1.2.1 101 4 = nI f)) := by
  cases hw : wdN n t p 10 with
  | none => exact T_X5_readItemN hC tx hd ok p hp h9 hw
  | some w => exact T_X5_readItemS hC tx hd ok p hp h9 w hw
