theorem PHH {a h : Nat} (x : isA a h) : ∀ q, HO h q → ¬ q = a + 4 := fun q hq e => AOH x q hq (by rw [e]; exact AO0 (by decide))
def PR (a q : Nat) : Prop := q = a + 4 ∨ q = a + 5
theorem PRH {a h : Nat} (x : isA a h) : ∀ q, HO h q → ¬ PR a q := fun q hq e => AOH x q hq (by rcases e with e | e <;> rw [e] <;> exact AO0 (by decide))
theorem AirOK.hum {a n : Nat} {S : HS} {M : jk_M} (ha : AirOK a S M) (hn : n < 80) : AirOK a S (jk_wI M (a + 4) n (humC S (nI n))) := by
  obtain ⟨h1, h2, h3⟩ := ha
  refine ⟨fun c hc => ?_, fun c hc => ?_, ?_⟩
  · rw [rd_o (by omega), rd_o (by omega), rd_o (by omega)]
    exact h1 c hc
  · by_cases e : c = n
    · subst e
      rw [rd_s]
      exact Or.inr rfl
    · rw [rd_k e]
      exact h2 c hc
  · rw [rd_o (by omega)]
    exact h3
theorem isP_in {c : Int32} (h : isP c) : vp_in c 80 := by
  obtain ⟨e, hl⟩ := isP_nat h
  rw [e]
  exact vp_in_nI hl (by decide)
theorem alng_z {V L : Nat → Int32} {f t : Int32} (h : ¬ isP f ∨ ¬ isP t) : alng V L f t = 0 := @if_pos _ (Classical.propDecidable _) h _ _ _
theorem alng_n {V L : Nat → Int32} {f t : Int32} (h : isP f) (h2 : isP t) : alng V L f t = if f < t then V t.toNatClampNeg - V f.toNatClampNeg else V f.toNatClampNeg - L f.toNatClampNeg - V t.toNatClampNeg + L t.toNatClampNeg := @if_neg _ (Classical.propDecidable _) (fun z => z.elim (fun w => w h) (fun w => w h2)) _ _ _
theorem strS_z {S : HS} {f t : Int32} (h : ¬ isP f ∨ ¬ isP t) : strS S f t = 0 := @if_pos _ (Classical.propDecidable _) h _ _ _
theorem strS_n {S : HS} {f t : Int32} (h : isP f) (h2 : isP t) : strS S f t = jmax 0 (S 1 0 - 2 * sfar f t - wayS S f t - humC S t - dinS S (S 2 0)) := @if_neg _ (Classical.propDecidable _) (fun z => z.elim (fun w => w h) (fun w => w h2)) _ _ _
theorem rchS_p {S : HS} {i : Nat} {c : Int32} (h : isP c) : rchS S i c = barsBy (strS S c (S 16 i)) := @if_pos _ (Classical.propDecidable _) h _ _ _
theorem rchS_n {S : HS} {i : Nat} {c : Int32} (h : ¬ isP c) : rchS S i c = 0 := @if_neg _ (Classical.propDecidable _) h _ _ _
def PE (a q : Nat) : Prop := q = a
theorem PEs {a : Nat} : PE a a := rfl
set_option maxRecDepth 20000 in
set_option maxHeartbeats 4000000 in
theorem T_J7_fill_53178 {d : Nat} {M : jk_M} {a n : Nat} {v : Int32} (hC : WC M) (sg : jGC[a]? = some (1, n)) (hn : n < 2 ^ 31) : J Fr_J7_fill_53178 d 0 0 0 [(0, .ref a), (1, .int v)] [] M (jk_ex none (fun M1 => Sm (PE a) M M1 ∧ ∀ c, c < n → M1.2.1 a c = v)) := by
  refine j_post (fun Q hQ => ?_)
  refine j_iconst 0 dJ7_fill_53178_0 ic_0 ?_
  refine j_istore_n (L' := [(2, .int 0), (0, .ref a), (1, .int v)]) dJ7_fill_53178_1 (by decide) rfl ?_
  refine j_aload_n 1 dJ7_fill_53178_2 rfl ?_
  refine j_alen dJ7_fill_53178_3 (shC hC sg) (by decide) ?_
  refine j_istore_n (L' := [(3, .int (nI n)), (2, .int 0), (0, .ref a), (1, .int v)]) dJ7_fill_53178_4 (by decide) rfl ?_
  have lp3 : ∀ (k1 : Nat) (i : Nat) (M1 : jk_M), n - i < k1 → (i ≤ n) → (Sm (PE a) M M1) → (∀ c, c < i → M1.2.1 a c = v) → J Fr_J7_fill_53178 d 0 0 5 [(0, .ref a), (1, .int v), (2, .int (nI i)), (3, .int (nI n))] [] M1 Q := by
    intro k1
    induction k1 with
    | zero => intro i M1 hk; exact absurd hk (Nat.not_lt_zero _)
    | succ k1 ih2 =>
      intro i M1 hk1 hi hs1 hf
      refine j_iload_n 2 dJ7_fill_53178_5 rfl ?_
      refine j_iload_n 3 dJ7_fill_53178_6 rfl ?_
      refine j_icmp_geN (tgt := 20) i n dJ7_fill_53178_7 rfl (by omega) (by omega) (fun c4 => ?_) (fun c4 => ?_)
      · refine j_vret dJ7_fill_53178_20 rfl ?_
        exact hQ _ _ ⟨rfl, hs1, fun c hc => hf c (by omega)⟩
      · refine j_aload_n 0 dJ7_fill_53178_10 rfl ?_
        refine j_iload_n 2 dJ7_fill_53178_11 rfl ?_
        refine j_iload_n 1 dJ7_fill_53178_12 rfl ?_
        refine j_iastN i dJ7_fill_53178_13 (shC (Sm.C hs1 hC) sg) (by omega) (by omega) ?_
        have sm5 : Sm (PE a) M (jk_wI M1 a i v) := Sm.w hs1 PEs
        refine j_iinc 2 (nI (i + 1)) (L' := [(2, .int (nI (i + 1))), (0, .ref a), (1, .int v), (3, .int (nI n))]) dJ7_fill_53178_14 rfl (inc1 i) (by decide) rfl ?_
        refine j_goto (tgt := 5) dJ7_fill_53178_17 rfl ?_
        exact j_sub (jk_pick [1, 2, 0, 3] rfl) (ih2 (i + 1) (jk_wI M1 a i v) (by omega) (by omega) sm5 (fun c hc => by
          by_cases e : c = i
          · rw [e, rd_s]
          · rw [rd_k e]; exact hf c (by omega)))
  exact j_sub (jk_pick [2, 3, 1, 0] rfl) (lp3 _ 0 M (Nat.lt_succ_self _) (by omega) Sm.rf (fun c hc => absurd hc (Nat.not_lt_zero c)))
set_option maxRecDepth 20000 in
set_option maxHeartbeats 4000000 in
theorem T_X0_layLoss {d : Nat} {M : jk_M} {a h : Nat} {S : HS} (hC : WC M) (x : isA a h) (hS : hv M.2.1 h = S) (ok : Sok S) : J Fr_X0_layLoss (d + 1) 0 0 0 [(0, .ref a)] [] M (jk_ex none (fun M1 => Sm (AO a) M M1 ∧ LossOK a S M1 ∧ M1.2.1 (a + 4) = M.2.1 (a + 4) ∧ M1.2.1 (a + 5) = M.2.1 (a + 5) ∧ M1.2.1 a = M.2.1 a)) := by
  refine j_post (fun Q hQ => ?_)
  have hT := (Sok.T ok).2
  refine j_aload_n 0 dX0_layLoss_0 rfl ?_
  refine j_getr (q := (a + 1)) dX0_layLoss_1 fX0_9 (shC hC (sgA x)) rfl (rfC hC (rfA1 x) (nzA x)) ?_
  refine j_iconst 0 dX0_layLoss_4 ic_0 ?_
  refine j_callS (kc := 0) (ks := 0) (a := 0) (b := 0) (d' := d) (As := [.ref (a + 1), .int 0]) dX0_layLoss_5 kX0_50 rfl (by omega) rfl rfl rfl (Nat.le_of_ble_eq_true rfl) (Nat.le_of_ble_eq_true rfl) (T_J7_fill_53178 (n := 80) hC (sgA1 x) (by omega)) (kk_ev (fun M1 hM2 => ?_))
  obtain ⟨sm3, hf4⟩ := hM2
  replace sm3 : Sm (AOL a) M M1 := Sm.tr Sm.rf (sm3.mo (fun q e => by first | exact e | (rw [e]; exact (AOLk (by decide)))))
  refine j_iconst 0 dX0_layLoss_8 ic_0 ?_
  refine j_istore_n (L' := [(1, .int 0), (0, .ref a)]) dX0_layLoss_9 (by decide) rfl ?_
  have lp7 : ∀ (k5 : Nat) (i : Nat) (M1 : jk_M), nT S - i < k5 → (i ≤ nT S) → (Sm (AOL a) M M1) → (∀ c, c < 80 → M1.2.1 (a + 1) c = sm (fun j => if S 12 j = nI c then lossT S j else 0) i) → J Fr_X0_layLoss (d + 1) 0 0 10 [(0, .ref a), (1, .int (nI i))] [] M1 Q := by
    intro k5
    induction k5 with
    | zero => intro i M1 hk; exact absurd hk (Nat.not_lt_zero _)
    | succ k5 ih6 =>
      intro i M1 hk5 hi hs1 hf
      refine j_iload_n 1 dX0_layLoss_10 rfl ?_
      refine j_aload_n 0 dX0_layLoss_11 rfl ?_
      refine j_getr (q := h) dX0_layLoss_12 fX0_31 (shC (Sm.C hs1 hC) (sgA x)) rfl (rfC (Sm.C hs1 hC) (rfA0 x) (nzA x)) ?_
      refine j_getv (nI (nT S)) dX0_layLoss_15 fX0_56 (shC (Sm.C hs1 hC) (sgH (isA.H x))) rfl ((hvs (Sm.hv hs1 hS ok (AOLH x)) (by decide)).trans (Sok.T ok).1) ?_
      refine j_icmp_geN (tgt := 66) i (nT S) dX0_layLoss_18 rfl (by omega) (by omega) (fun c8 => ?_) (fun c8 => ?_)
      · refine j_iconst 0 dX0_layLoss_66 ic_0 ?_
        refine j_istore_n (L' := [(1, .int 0), (0, .ref a)]) dX0_layLoss_67 (by decide) rfl ?_
        have ei : i = nT S := by omega
        subst ei
        have lp11 : ∀ (k9 : Nat) (i : Nat) (M2 : jk_M), 80 - i < k9 → (i ≤ 80) → (Sm (AOL a) M M2) → (∀ c, c < 80 → M2.2.1 (a + 1) c = lossC S c) → (∀ c, c < i → M2.2.1 (a + 2) c = acr (lossC S) c ∧ M2.2.1 (a + 3) c = dwn (lossC S) c) → J Fr_X0_layLoss (d + 1) 0 0 68 [(0, .ref a), (1, .int (nI i))] [] M2 Q := by
          intro k9
          induction k9 with
          | zero => intro i M2 hk; exact absurd hk (Nat.not_lt_zero _)
          | succ k9 ih10 =>
            intro i M2 hk9 hi2 hs2 hf2 hg2
            refine j_iload_n 1 dX0_layLoss_68 rfl ?_
            refine j_bipush 80 dX0_layLoss_69 bp_80 ?_
            refine j_icmp_geN (tgt := 144) i 80 dX0_layLoss_71 rfl (by omega) (by omega) (fun c12 => ?_) (fun c12 => ?_)
            · refine j_vret dX0_layLoss_144 rfl ?_
              have ei : i = 80 := by omega
              subst ei
              exact hQ _ _ ⟨rfl, AOLm hs2, fun c hc => ⟨hf2 c hc, hg2 c hc⟩, hs2.2.2 _ (AOLn (Or.inr (Or.inl rfl))), hs2.2.2 _ (AOLn (Or.inr (Or.inr rfl))), hs2.2.2 _ (AOLn (Or.inl rfl))⟩
            · refine j_aload_n 0 dX0_layLoss_74 rfl ?_
              refine j_getr (q := (a + 2)) dX0_layLoss_75 fX0_15 (shC (Sm.C hs2 hC) (sgA x)) rfl (rfC (Sm.C hs2 hC) (rfA2 x) (nzA x)) ?_
              refine j_iload_n 1 dX0_layLoss_78 rfl ?_
              refine j_aload_n 0 dX0_layLoss_79 rfl ?_
              refine j_getr (q := (a + 1)) dX0_layLoss_80 fX0_9 (shC (Sm.C hs2 hC) (sgA x)) rfl (rfC (Sm.C hs2 hC) (rfA1 x) (nzA x)) ?_
              refine j_iload_n 1 dX0_layLoss_83 rfl ?_
              refine j_ialdN i dX0_layLoss_84 (shC (Sm.C hs2 hC) (sgA1 x)) (by omega) (by omega) ?_
              refine j_iload_n 1 dX0_layLoss_85 rfl ?_
              refine j_bipush 10 dX0_layLoss_86 bp_10 ?_
              refine j_iremN i 10 dX0_layLoss_88 (by omega) (by omega) (by omega) ?_
              refine j_if_neN (tgt := 96) (i % 10) dX0_layLoss_89 (by omega) rfl (fun c13 => ?_) (fun c13 => ?_)
              · refine j_aload_n 0 dX0_layLoss_96 rfl ?_
                refine j_getr (q := (a + 2)) dX0_layLoss_97 fX0_15 (shC (Sm.C hs2 hC) (sgA x)) rfl (rfC (Sm.C hs2 hC) (rfA2 x) (nzA x)) ?_
                refine j_iload_n 1 dX0_layLoss_100 rfl ?_
                refine j_iconst 1 dX0_layLoss_101 ic_1 ?_
                refine j_isubN i 1 dX0_layLoss_102 (by omega) ?_
                refine j_ialdN (i - 1) dX0_layLoss_103 (shC (Sm.C hs2 hC) (sgA2 x)) (by omega) (by omega) ?_
                refine j_iadd dX0_layLoss_104 ?_
                refine j_topi (acr (lossC S) i) (by rw [hf2 i (by omega), (hg2 (i - 1) (by omega)).1]; exact (acr_s (by omega)).symm) ?_
                refine j_iastN i dX0_layLoss_105 (shC (Sm.C hs2 hC) (sgA2 x)) (by omega) (by omega) ?_
                have sm14 : Sm (AOL a) M (jk_wI M2 (a + 2) i (acr (lossC S) i)) := Sm.w hs2 (AOLk (by decide))
                refine j_aload_n 0 dX0_layLoss_106 rfl ?_
                refine j_getr (q := (a + 3)) dX0_layLoss_107 fX0_18 (shC (Sm.C sm14 hC) (sgA x)) rfl (rfC (Sm.C sm14 hC) (rfA3 x) (nzA x)) ?_
                refine j_iload_n 1 dX0_layLoss_110 rfl ?_
                refine j_aload_n 0 dX0_layLoss_111 rfl ?_
                refine j_getr (q := (a + 1)) dX0_layLoss_112 fX0_9 (shC (Sm.C sm14 hC) (sgA x)) rfl (rfC (Sm.C sm14 hC) (rfA1 x) (nzA x)) ?_
                refine j_iload_n 1 dX0_layLoss_115 rfl ?_
                refine j_ialdN i dX0_layLoss_116 (shC (Sm.C sm14 hC) (sgA1 x)) (by omega) (by omega) ?_
                refine j_iload_n 1 dX0_layLoss_117 rfl ?_
                refine j_bipush 10 dX0_layLoss_118 bp_10 ?_
                refine j_icmp_geN (tgt := 127) i 10 dX0_layLoss_120 rfl (by omega) (by omega) (fun c15 => ?_) (fun c15 => ?_)
                · refine j_aload_n 0 dX0_layLoss_127 rfl ?_
                  refine j_getr (q := (a + 3)) dX0_layLoss_128 fX0_18 (shC (Sm.C sm14 hC) (sgA x)) rfl (rfC (Sm.C sm14 hC) (rfA3 x) (nzA x)) ?_
                  refine j_iload_n 1 dX0_layLoss_131 rfl ?_
                  refine j_bipush 10 dX0_layLoss_132 bp_10 ?_
                  refine j_isubN i 10 dX0_layLoss_134 (by omega) ?_
                  refine j_ialdN (i - 10) dX0_layLoss_135 (shC (Sm.C sm14 hC) (sgA3 x)) (by omega) (by omega) ?_
                  refine j_iadd dX0_layLoss_136 ?_
                  refine j_topi (dwn (lossC S) i) (by rw [rd_o (by omega), rd_o (by omega), hf2 i (by omega), (hg2 (i - 10) (by omega)).2]; exact (dwn_s (by omega)).symm) ?_
                  refine j_iastN i dX0_layLoss_137 (shC (Sm.C sm14 hC) (sgA3 x)) (by omega) (by omega) ?_
                  have sm16 : Sm (AOL a) M (jk_wI (jk_wI M2 (a + 2) i (acr (lossC S) i)) (a + 3) i (dwn (lossC S) i)) := Sm.w sm14 (AOLk (by decide))
                  refine j_iinc 1 (nI (i + 1)) (L' := [(1, .int (nI (i + 1))), (0, .ref a)]) dX0_layLoss_138 rfl (inc1 i) (by decide) rfl ?_
                  refine j_goto (tgt := 68) dX0_layLoss_141 rfl ?_
                  exact j_sub (jk_pick [1, 0] rfl) (ih10 (i + 1) (jk_wI (jk_wI M2 (a + 2) i (acr (lossC S) i)) (a + 3) i (dwn (lossC S) i)) (by omega) (by omega) sm16 (fun c hc => by rw [rd_o (by omega), rd_o (by omega)]; exact hf2 c hc) (lay_step hg2))
                · refine j_iconst 0 dX0_layLoss_123 ic_0 ?_
                  refine j_goto (tgt := 136) dX0_layLoss_124 rfl ?_
                  refine j_iadd dX0_layLoss_136 ?_
                  refine j_topi (dwn (lossC S) i) (by rw [rd_o (by omega), hf2 i (by omega)]; exact (dwn_0 (by omega)).symm) ?_
                  refine j_iastN i dX0_layLoss_137 (shC (Sm.C sm14 hC) (sgA3 x)) (by omega) (by omega) ?_
                  have sm17 : Sm (AOL a) M (jk_wI (jk_wI M2 (a + 2) i (acr (lossC S) i)) (a + 3) i (dwn (lossC S) i)) := Sm.w sm14 (AOLk (by decide))
                  refine j_iinc 1 (nI (i + 1)) (L' := [(1, .int (nI (i + 1))), (0, .ref a)]) dX0_layLoss_138 rfl (inc1 i) (by decide) rfl ?_
                  refine j_goto (tgt := 68) dX0_layLoss_141 rfl ?_
                  exact j_sub (jk_pick [1, 0] rfl) (ih10 (i + 1) (jk_wI (jk_wI M2 (a + 2) i (acr (lossC S) i)) (a + 3) i (dwn (lossC S) i)) (by omega) (by omega) sm17 (fun c hc => by rw [rd_o (by omega), rd_o (by omega)]; exact hf2 c hc) (lay_step hg2))
              · refine j_iconst 0 dX0_layLoss_92 ic_0 ?_
                refine j_goto (tgt := 104) dX0_layLoss_93 rfl ?_
                refine j_iadd dX0_layLoss_104 ?_
                refine j_topi (acr (lossC S) i) (by rw [hf2 i (by omega)]; exact (acr_0 (by omega)).symm) ?_
                refine j_iastN i dX0_layLoss_105 (shC (Sm.C hs2 hC) (sgA2 x)) (by omega) (by omega) ?_
                have sm18 : Sm (AOL a) M (jk_wI M2 (a + 2) i (acr (lossC S) i)) := Sm.w hs2 (AOLk (by decide))
                refine j_aload_n 0 dX0_layLoss_106 rfl ?_
                refine j_getr (q := (a + 3)) dX0_layLoss_107 fX0_18 (shC (Sm.C sm18 hC) (sgA x)) rfl (rfC (Sm.C sm18 hC) (rfA3 x) (nzA x)) ?_
                refine j_iload_n 1 dX0_layLoss_110 rfl ?_
                refine j_aload_n 0 dX0_layLoss_111 rfl ?_
                refine j_getr (q := (a + 1)) dX0_layLoss_112 fX0_9 (shC (Sm.C sm18 hC) (sgA x)) rfl (rfC (Sm.C sm18 hC) (rfA1 x) (nzA x)) ?_
                refine j_iload_n 1 dX0_layLoss_115 rfl ?_
                refine j_ialdN i dX0_layLoss_116 (shC (Sm.C sm18 hC) (sgA1 x)) (by omega) (by omega) ?_
                refine j_iload_n 1 dX0_layLoss_117 rfl ?_
                refine j_bipush 10 dX0_layLoss_118 bp_10 ?_
                refine j_icmp_geN (tgt := 127) i 10 dX0_layLoss_120 rfl (by omega) (by omega) (fun c19 => ?_) (fun c19 => ?_)
                · refine j_aload_n 0 dX0_layLoss_127 rfl ?_
                  refine j_getr (q := (a + 3)) dX0_layLoss_128 fX0_18 (shC (Sm.C sm18 hC) (sgA x)) rfl (rfC (Sm.C sm18 hC) (rfA3 x) (nzA x)) ?_
                  refine j_iload_n 1 dX0_layLoss_131 rfl ?_
                  refine j_bipush 10 dX0_layLoss_132 bp_10 ?_
                  refine j_isubN i 10 dX0_layLoss_134 (by omega) ?_
                  refine j_ialdN (i - 10) dX0_layLoss_135 (shC (Sm.C sm18 hC) (sgA3 x)) (by omega) (by omega) ?_
                  refine j_iadd dX0_layLoss_136 ?_
                  refine j_topi (dwn (lossC S) i) (by rw [rd_o (by omega), rd_o (by omega), hf2 i (by omega), (hg2 (i - 10) (by omega)).2]; exact (dwn_s (by omega)).symm) ?_
                  refine j_iastN i dX0_layLoss_137 (shC (Sm.C sm18 hC) (sgA3 x)) (by omega) (by omega) ?_
                  have sm20 : Sm (AOL a) M (jk_wI (jk_wI M2 (a + 2) i (acr (lossC S) i)) (a + 3) i (dwn (lossC S) i)) := Sm.w sm18 (AOLk (by decide))
                  refine j_iinc 1 (nI (i + 1)) (L' := [(1, .int (nI (i + 1))), (0, .ref a)]) dX0_layLoss_138 rfl (inc1 i) (by decide) rfl ?_
                  refine j_goto (tgt := 68) dX0_layLoss_141 rfl ?_
                  exact j_sub (jk_pick [1, 0] rfl) (ih10 (i + 1) (jk_wI (jk_wI M2 (a + 2) i (acr (lossC S) i)) (a + 3) i (dwn (lossC S) i)) (by omega) (by omega) sm20 (fun c hc => by rw [rd_o (by omega), rd_o (by omega)]; exact hf2 c hc) (lay_step hg2))
                · refine j_iconst 0 dX0_layLoss_123 ic_0 ?_
                  refine j_goto (tgt := 136) dX0_layLoss_124 rfl ?_
                  refine j_iadd dX0_layLoss_136 ?_
                  refine j_topi (dwn (lossC S) i) (by rw [rd_o (by omega), hf2 i (by omega)]; exact (dwn_0 (by omega)).symm) ?_
                  refine j_iastN i dX0_layLoss_137 (shC (Sm.C sm18 hC) (sgA3 x)) (by omega) (by omega) ?_
                  have sm21 : Sm (AOL a) M (jk_wI (jk_wI M2 (a + 2) i (acr (lossC S) i)) (a + 3) i (dwn (lossC S) i)) := Sm.w sm18 (AOLk (by decide))
                  refine j_iinc 1 (nI (i + 1)) (L' := [(1, .int (nI (i + 1))), (0, .ref a)]) dX0_layLoss_138 rfl (inc1 i) (by decide) rfl ?_
                  refine j_goto (tgt := 68) dX0_layLoss_141 rfl ?_
                  exact j_sub (jk_pick [1, 0] rfl) (ih10 (i + 1) (jk_wI (jk_wI M2 (a + 2) i (acr (lossC S) i)) (a + 3) i (dwn (lossC S) i)) (by omega) (by omega) sm21 (fun c hc => by rw [rd_o (by omega), rd_o (by omega)]; exact hf2 c hc) (lay_step hg2))
        exact j_sub (jk_pick [1, 0] rfl) (lp11 _ 0 M1 (Nat.lt_succ_self _) (by omega) hs1 hf (fun c hc => absurd hc (Nat.not_lt_zero c)))
      · refine j_aload_n 0 dX0_layLoss_21 rfl ?_
        refine j_getr (q := h) dX0_layLoss_22 fX0_31 (shC (Sm.C hs1 hC) (sgA x)) rfl (rfC (Sm.C hs1 hC) (rfA0 x) (nzA x)) ?_
        refine j_iload_n 1 dX0_layLoss_25 rfl ?_
        refine j_callV (kc := 0) (ks := 0) (a := 0) (b := 0) (d' := d) (As := [.int (nI i)]) dX0_layLoss_26 kX0_59 rfl (shC (Sm.C hs1 hC) (sgH (isA.H x))) (by omega) rfl rfl rfl (Nat.le_of_ble_eq_true rfl) (Nat.le_of_ble_eq_true rfl) (T_X2_thingAt (Sm.C hs1 hC) (isA.H x) (Sm.hv hs1 hS ok (AOLH x)) ok i (by omega)) (kk_p ?_)
        refine j_astore_n (L' := [(2, .ref (h + 5 + i)), (0, .ref a), (1, .int (nI i))]) dX0_layLoss_29 (by decide) rfl ?_
        have hcT := (cT_ok ok (i := i) (by omega)).2
        refine j_aload_n 0 dX0_layLoss_30 rfl ?_
        refine j_ifnull dX0_layLoss_31 ?_
        refine j_aload_n 0 dX0_layLoss_34 rfl ?_
        refine j_getv (nI (cT S i)) dX0_layLoss_35 fX0_63 (shC (Sm.C hs1 hC) (sgHT (isA.H x) (by have := (Sok.T ok).2; omega))) rfl ((hvT (Sm.hv hs1 hS ok (AOLH x)) (by omega) (k := 2) (by decide)).trans (cT_ok ok (by omega)).1) ?_
        refine j_callSN (kc := 0) (ks := 0) (a := 0) (b := 0) (d' := d) (As := [.int (nI (cT S i))]) dX0_layLoss_38 kX0_68 rfl (by omega) rfl rfl rfl (Nat.le_of_ble_eq_true rfl) (Nat.le_of_ble_eq_true rfl) (T_X10_isPlace (nI (cT S i))) (kk_p ?_)
        refine j_if_eqB (p := (isP (nI (cT S i)))) (tgt := 60) dX0_layLoss_41 rfl (fun c22 => ?_) (fun c22 => ?_)
        · exact absurd (isP_of hcT) c22
        · refine j_aload_n 1 dX0_layLoss_44 rfl ?_
          refine j_getr (q := (a + 1)) dX0_layLoss_45 fX0_9 (shC (Sm.C hs1 hC) (sgA x)) rfl (rfC (Sm.C hs1 hC) (rfA1 x) (nzA x)) ?_
          refine j_aload_n 0 dX0_layLoss_48 rfl ?_
          refine j_getv (nI (cT S i)) dX0_layLoss_49 fX0_63 (shC (Sm.C hs1 hC) (sgHT (isA.H x) (by have := (Sok.T ok).2; omega))) rfl ((hvT (Sm.hv hs1 hS ok (AOLH x)) (by omega) (k := 2) (by decide)).trans (cT_ok ok (by omega)).1) ?_
          refine j_dup2 dX0_layLoss_52 rfl rfl ?_
          refine j_ialdN (cT S i) dX0_layLoss_53 (shC (Sm.C hs1 hC) (sgA1 x)) (by omega) (by omega) ?_
          refine j_aload_n 0 dX0_layLoss_54 rfl ?_
          refine j_callV (kc := 0) (ks := 0) (a := 0) (b := 0) (d' := d) (As := []) dX0_layLoss_55 kX0_72 rfl (shC (Sm.C hs1 hC) (sgHT (isA.H x) (by have := (Sok.T ok).2; omega))) (by omega) rfl rfl rfl (Nat.le_of_ble_eq_true rfl) (Nat.le_of_ble_eq_true rfl) (T_X9_swallows (Sm.C hs1 hC) (sgHT (isA.H x) (by have := (Sok.T ok).2; omega)) (hvT (Sm.hv hs1 hS ok (AOLH x)) (by omega) (k := 0) (by decide)) (hvT (Sm.hv hs1 hS ok (AOLH x)) (by omega) (k := 1) (by decide)) (hvT (Sm.hv hs1 hS ok (AOLH x)) (by omega) (k := 3) (by decide))) (kk_p ?_)
          refine j_iadd dX0_layLoss_58 ?_
          refine j_iastN (cT S i) dX0_layLoss_59 (shC (Sm.C hs1 hC) (sgA1 x)) (by omega) (by omega) ?_
          have sm23 : Sm (AOL a) M (jk_wI M1 (a + 1) (cT S i) ((M1.2.1 (a + 1) (cT S i)) + (lossK (S 10 i) (S 11 i) (S 13 i)))) := Sm.w hs1 (AOLk (by decide))
          refine j_iinc 2 (nI (i + 1)) (L' := [(1, .int (nI (i + 1))), (2, .ref (h + 5 + i)), (0, .ref a)]) dX0_layLoss_60 rfl (inc1 i) (by decide) rfl ?_
          refine j_goto (tgt := 10) dX0_layLoss_63 rfl ?_
          exact j_sub (jk_pick [2, 0] rfl) (ih6 (i + 1) (jk_wI M1 (a + 1) (cT S i) ((M1.2.1 (a + 1) (cT S i)) + (lossK (S 10 i) (S 11 i) (S 13 i)))) (by omega) (by omega) sm23 (loss_step ok (by omega) hf))
  exact j_sub (jk_pick [1, 0] rfl) (lp7 _ 0 M1 (Nat.lt_succ_self _) (Nat.zero_le _) sm3 hf4)
