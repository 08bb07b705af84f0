/-! rounds, by the model -/
def WtO (M : jk_M) (S : HS) (W : Nat → Int32) : Prop := ∀ j, j < nN S → M.2.1 26 j = W j ∧ inB (W j) 1 13
def P26 (q k : Nat) : Prop := q = 26
theorem P26_S : ∀ q k, P26 q k → PS q k := fun q k h => by unfold P26 at h; unfold PS; omega
theorem P26_H : ∀ q k, PH q k → ¬ P26 q k := fun q k h z => PS_H q k h (P26_S q k z)
def cF (S : HS) (W : Nat → Int32) (n : Nat) : Nat → Int32 × Int32
  | 0 => (W n, madeS S W (W n) (nI n))
  | k + 1 => if madeS S W (nI (k + 1)) (nI n) < (cF S W n k).2 then (nI (k + 1), madeS S W (nI (k + 1)) (nI n)) else cF S W n k
theorem cF_s {S : HS} {W : Nat → Int32} {n k : Nat} : cF S W n (k + 1) = if madeS S W (nI (k + 1)) (nI n) < (cF S W n k).2 then (nI (k + 1), madeS S W (nI (k + 1)) (nI n)) else cF S W n k := rfl
theorem amin_v {f : Nat → Int32} : ∀ n, ∃ m, 1 ≤ m ∧ m ≤ n + 1 ∧ (amin f n).1 = nI m ∧ (amin f n).2 = f m
  | 0 => ⟨1, by omega, by omega, rfl, rfl⟩
  | n + 1 => by
    obtain ⟨m, h1, h2, h3, h4⟩ := amin_v (f := f) n
    rw [amin_s]
    split
    · exact ⟨n + 2, by omega, by omega, rfl, rfl⟩
    · exact ⟨m, h1, by omega, h3, h4⟩
theorem cF_a {S : HS} {W : Nat → Int32} {n : Nat} : ∀ k, cF S W n (k + 1) = if (amin (fun on => madeS S W (nI on) (nI n)) k).2 < madeS S W (W n) (nI n) then amin (fun on => madeS S W (nI on) (nI n)) k else (W n, madeS S W (W n) (nI n))
  | 0 => rfl
  | k + 1 => by
    have ih := cF_a (S := S) (W := W) (n := n) k
    rw [cF_s, ih, amin_s]
    show (if madeS S W (nI (k + 2)) (nI n) < _ then (nI (k + 2), madeS S W (nI (k + 2)) (nI n)) else _) = _
    generalize amin (fun on => madeS S W (nI on) (nI n)) k = A
    generalize madeS S W (W n) (nI n) = f0
    generalize hx : madeS S W (nI (k + 2)) (nI n) = x
    by_cases h1 : A.2 < f0
    · rw [if_pos h1]
      by_cases h2 : x < A.2
      · rw [if_pos h2, if_pos (show (nI (k + 2), x).2 < f0 from Int32.lt_trans h2 h1)]
      · rw [if_neg h2, if_pos h1]
    · rw [if_neg h1]
      by_cases h2 : x < f0
      · rw [if_pos (show x < (W n, f0).2 from h2), if_pos (show x < A.2 from Int32.lt_of_lt_of_le h2 (Int32.not_lt.mp h1)), if_pos (show (nI (k + 2), x).2 < f0 from h2)]
      · rw [if_neg (show ¬ x < (W n, f0).2 from h2)]
        by_cases h3 : x < A.2
        · rw [if_pos h3, if_neg (show ¬ (nI (k + 2), x).2 < f0 from h2)]
        · rw [if_neg h3, if_neg h1]
theorem cF_b {S : HS} {W : Nat → Int32} {n : Nat} (h : inB (W n) 1 13) : inB (cF S W n 13).1 1 13 := by
  rw [cF_a 12]
  split
  · obtain ⟨m, h1, h2, h3, -⟩ := amin_v (f := fun on => madeS S W (nI on) (nI n)) 12
    rw [h3]; exact ⟨m, h1, h2, rfl⟩
  · exact h
theorem rn_s {S : HS} {W : Nat → Int32} {n : Nat} : (rnd S W (n + 1)).1 = va_up (rnd S W n).1 n (cF S (rnd S W n).1 n 13).1 ∧ (rnd S W (n + 1)).2 = if (rnd S W n).2 = 0 then (if (cF S (rnd S W n).1 n 13).1 = (rnd S W n).1 n then 0 else 1) else 1 := by
  have h01 := rnd_01 S W n
  rw [rnd_s, cF_a 12]
  generalize rnd S W n = R at h01 ⊢
  obtain ⟨V, fl⟩ := R
  simp only at h01 ⊢
  obtain ⟨m, h1, h2, h3, h4⟩ := amin_v (f := fun on => madeS S V (nI on) (nI n)) 12
  have eq : quietS S V (nI n) = nI m := h3
  have ev : (amin (fun on => madeS S V (nI on) (nI n)) 12).2 = madeS S V (nI m) (nI n) := h4
  rw [eq, ev]
  by_cases hc : madeS S V (nI m) (nI n) < madeS S V (V n) (nI n)
  · rw [if_pos hc, if_pos hc, h3]
    refine ⟨rfl, ?_⟩
    have hne : ¬ nI m = V n := fun z => by rw [z] at hc; exact absurd hc (Int32.not_lt.mpr (Int32.le_refl _))
    rw [if_neg hne]
    show (1 : Int32) = _
    split <;> rfl
  · rw [if_neg hc, if_neg hc]
    refine ⟨?_, ?_⟩
    · funext j
      by_cases e : j = n
      · subst e; rw [va_up_self]
      · rw [va_up_ne _ _ e]
    · rw [if_pos rfl]
      rcases h01 with h | h
      · rw [if_pos h]; exact h
      · rw [if_neg (by rw [h]; decide)]; exact h
theorem rnd_W {S : HS} {W : Nat → Int32} : ∀ n, (rnd S W n).2 = 0 → (rnd S W n).1 = W
  | 0, _ => rfl
  | n + 1, h => by
    obtain ⟨e1, e2⟩ := rn_s (S := S) (W := W) (n := n)
    rw [e2] at h
    by_cases h0 : (rnd S W n).2 = 0
    · rw [if_pos h0] at h
      by_cases h1 : (cF S (rnd S W n).1 n 13).1 = (rnd S W n).1 n
      · have w := rnd_W (S := S) (W := W) n h0
        rw [e1, h1, w]
        funext j
        by_cases e : j = n
        · subst e; rw [va_up_self]
        · rw [va_up_ne _ _ e]
      · rw [if_neg h1] at h; exact absurd h (by decide)
    · rw [if_neg h0] at h; exact absurd h (by decide)
theorem rds_st {S : HS} {k : Nat} (h : (rnd S (rdsS S k) (nN S)).2 = 0) : ∀ j, rdsS S (k + j) = rdsS S k
  | 0 => rfl
  | j + 1 => by
    show (rnd S (rdsS S (k + j)) (nN S)).1 = _
    rw [rds_st h j]; exact rnd_W _ h
theorem WtO.fm {P : Nat → Nat → Prop} {S : HS} {W : Nat → Int32} {M M1 : jk_M} (h : WtO M S W) (s : Fm P M M1) (hp : ∀ k, ¬ P 26 k) : WtO M1 S W := fun j hj => ⟨(s.rd (hp j)).trans (h j hj).1, (h j hj).2⟩
theorem WtO.st {S : HS} {W : Nat → Int32} {M : jk_M} {n : Nat} (h : WtO M S (rnd S W n).1) (hn : n < nN S) : WtO (jk_wI M 26 n (cF S (rnd S W n).1 n 13).1) S (rnd S W (n + 1)).1 := fun j hj => by
  rw [rn_s.1]
  by_cases e : j = n
  · subst e; rw [rd_s, va_up_self]; exact ⟨rfl, cF_b (h j hj).2⟩
  · rw [rd_k e, va_up_ne _ _ e]; exact h j hj
set_option maxRecDepth 20000 in
set_option maxHeartbeats 4000000 in
theorem T_X11_madeAt {d : Nat} {M : jk_M} {S : HS} (hM : WM M) (hS : mv M.2.1 = S) (ok : Sok S) {W : Nat → Int32} (hw : WtO M S W) (n : Nat) (hn : n < nN S) (c : Int32) (hc : inB c 1 13) : J Fr_X11_madeAt (d + 2) 0 0 0 [(0, .ref 0), (1, .int (nI n)), (2, .int c)] [] M (jk_is (some (.int (madeS S W c (nI n)))) M) := by
  refine j_post (fun Q hQ => ?_)
  have hN := (Sok.N ok).2
  refine j_aload_n 0 dX11_madeAt_0 rfl ?_
  refine j_bipush 10 dX11_madeAt_1 bp_10 ?_
  refine j_aload_n 0 dX11_madeAt_3 rfl ?_
  refine j_getv (S 2 0) dX11_madeAt_4 fX11_16 (shM hM sgM_0) rfl (mr_cha hS) ?_
  refine j_iload_n 2 dX11_madeAt_7 rfl ?_
  refine j_callV (kc := 0) (ks := 0) (a := 0) (b := 0) (d' := (d + 1)) (As := [.int 10, .int (S 2 0), .int c]) dX11_madeAt_8 kX11_248 rfl (shM hM sgM_0) (by omega) rfl rfl rfl (Nat.le_of_ble_eq_true rfl) (Nat.le_of_ble_eq_true rfl) (T_X11_dinOf hM 10 (S 2 0) c ok.2.2.1 hc) (kk_p ?_)
  refine j_istore_n (L' := [(3, .int (noiseO 10 ((S 2 0) - c))), (0, .ref 0), (1, .int (nI n)), (2, .int c)]) dX11_madeAt_11 (by decide) rfl ?_
  refine j_iconst 0 dX11_madeAt_12 ic_0 ?_
  refine j_istore (L' := [(4, .int 0), (3, .int (noiseO 10 ((S 2 0) - c))), (0, .ref 0), (1, .int (nI n)), (2, .int c)]) dX11_madeAt_13 (by decide) rfl ?_
  have z0 : noiseO 10 (S 2 0 - c) = noiseO 10 (S 2 0 - c) + sm (fun j => if nI j = nI n then 0 else noiseO (S 15 j) (W j - c)) 0 := by rw [sm]; simp
  refine j_L (congrArg (fun zz9 : Int32 => ([(4, .int 0), (3, .int zz9), (0, .ref 0), (1, .int (nI n)), (2, .int c)] : List (Nat × Value))) z0) ?_
  have lp3 : ∀ (k1 : Nat) (i : Nat), nN S - i < k1 → (i ≤ nN S) → J Fr_X11_madeAt (d + 2) 0 0 15 [(0, .ref 0), (1, .int (nI n)), (2, .int c), (3, .int (noiseO 10 (S 2 0 - c) + sm (fun j => if nI j = nI n then 0 else noiseO (S 15 j) (W j - c)) i)), (4, .int (nI i))] [] M Q := by
    intro k1
    induction k1 with
    | zero => intro i hk; exact absurd hk (Nat.not_lt_zero _)
    | succ k1 ih2 =>
      intro i hk1 hi
      refine j_iload 4 dX11_madeAt_15 rfl ?_
      refine j_aload_n 0 dX11_madeAt_17 rfl ?_
      refine j_getv (nI (nN S)) dX11_madeAt_18 fX11_144 (shM hM sgM_0) rfl ((mr_N hS).trans (Sok.N ok).1) ?_
      refine j_icmp_geN (tgt := 58) i (nN S) dX11_madeAt_21 rfl (by omega) (by omega) (fun c4 => ?_) (fun c4 => ?_)
      · refine j_iload_n 3 dX11_madeAt_58 rfl ?_
        refine j_iret dX11_madeAt_59 rfl ?_
        have e : i = nN S := by omega
        subst e
        exact hQ _ _ ⟨rfl, rfl⟩
      · refine j_iload 4 dX11_madeAt_24 rfl ?_
        refine j_iload_n 1 dX11_madeAt_26 rfl ?_
        refine j_icmp_eqN (tgt := 52) i n dX11_madeAt_27 rfl (by omega) (by omega) (fun c5 => ?_) (fun c5 => ?_)
        · refine j_iinc 4 (nI (i + 1)) (L' := [(4, .int (nI (i + 1))), (0, .ref 0), (1, .int (nI n)), (2, .int c), (3, .int (noiseO 10 (S 2 0 - c) + sm (fun j => if nI j = nI n then 0 else noiseO (S 15 j) (W j - c)) i))]) dX11_madeAt_52 rfl (inc1 i) (by decide) rfl ?_
          refine j_goto (tgt := 15) dX11_madeAt_55 rfl ?_
          have hst : (noiseO 10 (S 2 0 - c) + sm (fun j => if nI j = nI n then 0 else noiseO (S 15 j) (W j - c)) i) = (noiseO 10 (S 2 0 - c) + sm (fun j => if nI j = nI n then 0 else noiseO (S 15 j) (W j - c)) (i + 1)) := by
            rw [sm_s]
            simp only [if_pos (show nI i = nI n from congrArg nI (by omega))]
            grind
          refine j_L (congrArg (fun zz9 : Int32 => ([(4, .int (nI (i + 1))), (0, .ref 0), (1, .int (nI n)), (2, .int c), (3, .int zz9)] : List (Nat × Value))) hst) ?_
          exact j_sub (jk_pick [1, 2, 3, 4, 0] rfl) (ih2 (i + 1) (by omega) (by omega))
        · refine j_iload_n 3 dX11_madeAt_30 rfl ?_
          refine j_aload_n 0 dX11_madeAt_31 rfl ?_
          refine j_aload_n 0 dX11_madeAt_32 rfl ?_
          refine j_getr (q := 7) dX11_madeAt_33 fX11_44 (shM hM sgM_0) rfl (rfM hM rfM_0_15) ?_
          refine j_iload 4 dX11_madeAt_36 rfl ?_
          refine j_ialdN i dX11_madeAt_38 (shM hM sgM_7) (by omega) (by omega) ?_
          refine j_topi (S 15 i) (mr_arN hS (k := 1) (by omega) (by decide)) ?_
          refine j_aload_n 0 dX11_madeAt_39 rfl ?_
          refine j_getr (q := 26) dX11_madeAt_40 fX11_105 (shM hM sgM_0) rfl (rfM hM rfM_0_42) ?_
          refine j_iload 4 dX11_madeAt_43 rfl ?_
          refine j_ialdN i dX11_madeAt_45 (shM hM sgM_26) (by omega) (by omega) ?_
          refine j_topi (W i) (hw _ (by omega)).1 ?_
          refine j_iload_n 2 dX11_madeAt_46 rfl ?_
          refine j_callV (kc := 0) (ks := 0) (a := 0) (b := 0) (d' := (d + 1)) (As := [.int (S 15 i), .int (W i), .int c]) dX11_madeAt_47 kX11_248 rfl (shM hM sgM_0) (by omega) rfl rfl rfl (Nat.le_of_ble_eq_true rfl) (Nat.le_of_ble_eq_true rfl) (T_X11_dinOf hM (S 15 i) (W i) c (hw _ (by omega)).2 hc) (kk_p ?_)
          refine j_iadd dX11_madeAt_50 ?_
          refine j_istore_n (L' := [(3, .int ((noiseO 10 (S 2 0 - c) + sm (fun j => if nI j = nI n then 0 else noiseO (S 15 j) (W j - c)) i) + (noiseO (S 15 i) ((W i) - c)))), (0, .ref 0), (1, .int (nI n)), (2, .int c), (4, .int (nI i))]) dX11_madeAt_51 (by decide) rfl ?_
          refine j_iinc 4 (nI (i + 1)) (L' := [(4, .int (nI (i + 1))), (3, .int ((noiseO 10 (S 2 0 - c) + sm (fun j => if nI j = nI n then 0 else noiseO (S 15 j) (W j - c)) i) + (noiseO (S 15 i) ((W i) - c)))), (0, .ref 0), (1, .int (nI n)), (2, .int c)]) dX11_madeAt_52 rfl (inc1 i) (by decide) rfl ?_
          refine j_goto (tgt := 15) dX11_madeAt_55 rfl ?_
          have hst : ((noiseO 10 (S 2 0 - c) + sm (fun j => if nI j = nI n then 0 else noiseO (S 15 j) (W j - c)) i) + (noiseO (S 15 i) ((W i) - c))) = (noiseO 10 (S 2 0 - c) + sm (fun j => if nI j = nI n then 0 else noiseO (S 15 j) (W j - c)) (i + 1)) := by
            rw [sm_s]
            simp only [if_neg (fun z : nI i = nI n => absurd ((nI_eq (by omega) (by omega)).mp z) (by omega))]
            grind
          refine j_L (congrArg (fun zz9 : Int32 => ([(4, .int (nI (i + 1))), (3, .int zz9), (0, .ref 0), (1, .int (nI n)), (2, .int c)] : List (Nat × Value))) hst) ?_
          exact j_sub (jk_pick [2, 3, 4, 1, 0] rfl) (ih2 (i + 1) (by omega) (by omega))
  exact j_sub (jk_pick [2, 3, 4, 1, 0] rfl) (lp3 _ 0 (Nat.lt_succ_self _) (Nat.zero_le _))
set_option maxRecDepth 20000 in
set_option maxHeartbeats 4000000 in
theorem T_X11_doesRound {d : Nat} {M : jk_M} {S : HS} (hM : WM M) (hS : mv M.2.1 = S) (ok : Sok S) {W : Nat → Int32} (hw : WtO M S W) : J Fr_X11_doesRound (d + 3) 0 0 0 [(0, .ref 0)] [] M (jk_ex (some (.int (rnd S W (nN S)).2)) (fun M1 => Fm P26 M M1 ∧ WtO M1 S (rnd S W (nN S)).1)) := by
  refine j_post (fun Q hQ => ?_)
  have hN := (Sok.N ok).2
  refine j_iconst 0 dX11_doesRound_0 ic_0 ?_
  refine j_istore_n (L' := [(1, .int 0), (0, .ref 0)]) dX11_doesRound_1 (by decide) rfl ?_
  refine j_iconst 0 dX11_doesRound_2 ic_0 ?_
  refine j_istore_n (L' := [(2, .int 0), (1, .int 0), (0, .ref 0)]) dX11_doesRound_3 (by decide) rfl ?_
  have z1 : (0 : Int32) = (rnd S W 0).2 := rfl
  refine j_L (congrArg (fun zz9 : Int32 => ([(2, .int 0), (1, .int zz9), (0, .ref 0)] : List (Nat × Value))) z1) ?_
  have lp3 : ∀ (k1 : Nat) (n : Nat) (M1 : jk_M), nN S - n < k1 → (n ≤ nN S) → (Fm P26 M M1) → (WtO M1 S (rnd S W n).1) → J Fr_X11_doesRound (d + 3) 0 0 4 [(0, .ref 0), (1, .int (rnd S W n).2), (2, .int (nI n))] [] M1 Q := by
    intro k1
    induction k1 with
    | zero => intro n M1 hk; exact absurd hk (Nat.not_lt_zero _)
    | succ k1 ih2 =>
      intro n M1 hk1 hn hs1 hw1
      refine j_iload_n 2 dX11_doesRound_4 rfl ?_
      refine j_aload_n 0 dX11_doesRound_5 rfl ?_
      refine j_getv (nI (nN S)) dX11_doesRound_6 fX11_144 (shM (Fm.M hs1 hM) sgM_0) rfl ((mr_N (Fm.mv hs1 hS P26_H)).trans (Sok.N ok).1) ?_
      refine j_icmp_geN (tgt := 108) n (nN S) dX11_doesRound_9 rfl (by omega) (by omega) (fun c4 => ?_) (fun c4 => ?_)
      · refine j_iload_n 1 dX11_doesRound_108 rfl ?_
        refine j_zret dX11_doesRound_109 rfl (nar01 (rnd_01 S W _)) ?_
        have e : n = nN S := by omega
        subst e
        exact hQ _ _ ⟨rfl, hs1, hw1⟩
      · refine j_aload_n 0 dX11_doesRound_12 rfl ?_
        refine j_getr (q := 26) dX11_doesRound_13 fX11_105 (shM (Fm.M hs1 hM) sgM_0) rfl (rfM (Fm.M hs1 hM) rfM_0_42) ?_
        refine j_iload_n 2 dX11_doesRound_16 rfl ?_
        refine j_ialdN n dX11_doesRound_17 (shM (Fm.M hs1 hM) sgM_26) (by omega) (by omega) ?_
        refine j_topi ((rnd S W n).1 n) (hw1 _ (by omega)).1 ?_
        refine j_istore_n (L' := [(3, .int ((rnd S W n).1 n)), (0, .ref 0), (1, .int (rnd S W n).2), (2, .int (nI n))]) dX11_doesRound_18 (by decide) rfl ?_
        refine j_aload_n 1 dX11_doesRound_19 rfl ?_
        refine j_iload_n 3 dX11_doesRound_20 rfl ?_
        refine j_aload_n 1 dX11_doesRound_21 rfl ?_
        refine j_getr (q := 26) dX11_doesRound_22 fX11_105 (shM (Fm.M hs1 hM) sgM_0) rfl (rfM (Fm.M hs1 hM) rfM_0_42) ?_
        refine j_iload_n 3 dX11_doesRound_25 rfl ?_
        refine j_ialdN n dX11_doesRound_26 (shM (Fm.M hs1 hM) sgM_26) (by omega) (by omega) ?_
        refine j_topi ((rnd S W n).1 n) (hw1 _ (by omega)).1 ?_
        refine j_callV (kc := 0) (ks := 0) (a := 0) (b := 0) (d' := (d + 2)) (As := [.int (nI n), .int ((rnd S W n).1 n)]) dX11_doesRound_27 kX11_275 rfl (shM (Fm.M hs1 hM) sgM_0) (by omega) rfl rfl rfl (Nat.le_of_ble_eq_true rfl) (Nat.le_of_ble_eq_true rfl) (T_X11_madeAt (Fm.M hs1 hM) (Fm.mv hs1 hS P26_H) ok hw1 n (by omega) ((rnd S W n).1 n) (hw1 _ (by omega)).2) (kk_p ?_)
        refine j_istore (L' := [(4, .int (madeS S (rnd S W n).1 ((rnd S W n).1 n) (nI n))), (3, .int ((rnd S W n).1 n)), (0, .ref 0), (1, .int (rnd S W n).2), (2, .int (nI n))]) dX11_doesRound_30 (by decide) rfl ?_
        refine j_iconst 1 dX11_doesRound_32 ic_1 ?_
        refine j_istore (L' := [(5, .int 1), (4, .int (madeS S (rnd S W n).1 ((rnd S W n).1 n) (nI n))), (3, .int ((rnd S W n).1 n)), (0, .ref 0), (1, .int (rnd S W n).2), (2, .int (nI n))]) dX11_doesRound_33 (by decide) rfl ?_
        have w1 : ((rnd S W n).1 n) = (cF S (rnd S W n).1 n 0).1 := rfl
        have w2 : (madeS S (rnd S W n).1 ((rnd S W n).1 n) (nI n)) = (cF S (rnd S W n).1 n 0).2 := rfl
        refine j_L (congrArg (fun zz9 : Int32 => ([(5, .int 1), (4, .int (madeS S (rnd S W n).1 ((rnd S W n).1 n) (nI n))), (3, .int zz9), (0, .ref 0), (1, .int (rnd S W n).2), (2, .int (nI n))] : List (Nat × Value))) w1) ?_
        refine j_L (congrArg (fun zz9 : Int32 => ([(5, .int 1), (4, .int zz9), (3, .int (cF S (rnd S W n).1 n 0).1), (0, .ref 0), (1, .int (rnd S W n).2), (2, .int (nI n))] : List (Nat × Value))) w2) ?_
        have lp7 : ∀ (k5 : Nat) (k : Nat), 13 - k < k5 → (k ≤ 13) → J Fr_X11_doesRound (d + 3) 0 0 35 [(0, .ref 0), (1, .int (rnd S W n).2), (2, .int (nI n)), (3, .int (cF S (rnd S W n).1 n k).1), (4, .int (cF S (rnd S W n).1 n k).2), (5, .int (nI (k + 1)))] [] M1 Q := by
          intro k5
          induction k5 with
          | zero => intro k hk; exact absurd hk (Nat.not_lt_zero _)
          | succ k5 ih6 =>
            intro k hk5 hk
            refine j_iload 5 dX11_doesRound_35 rfl ?_
            refine j_bipush 13 dX11_doesRound_37 bp_13 ?_
            refine j_icmp_gtN (tgt := 75) (k + 1) 13 dX11_doesRound_39 rfl (by omega) (by omega) (fun c8 => ?_) (fun c8 => ?_)
            · have ek : k = 13 := by omega
              have e13 : (cF S (rnd S W n).1 n k).1 = (cF S (rnd S W n).1 n 13).1 := by rw [ek]
              refine j_L (congrArg (fun zz9 : Int32 => ([(0, .ref 0), (1, .int (rnd S W n).2), (2, .int (nI n)), (3, .int zz9), (4, .int (cF S (rnd S W n).1 n k).2), (5, .int (nI (k + 1)))] : List (Nat × Value))) e13) ?_
              refine j_iload_n 1 dX11_doesRound_75 rfl ?_
              refine j_if_ne (tgt := 89) dX11_doesRound_76 rfl (fun c9 => ?_) (fun c9 => ?_)
              · refine j_iconst 1 dX11_doesRound_89 ic_1 ?_
                refine j_goto (tgt := 94) dX11_doesRound_90 rfl ?_
                refine j_istore_n (L' := [(1, .int 1), (0, .ref 0), (2, .int (nI n)), (3, .int (cF S (rnd S W n).1 n 13).1), (4, .int (cF S (rnd S W n).1 n k).2), (5, .int (nI (k + 1)))]) dX11_doesRound_94 (by decide) rfl ?_
                refine j_aload_n 1 dX11_doesRound_95 rfl ?_
                refine j_getr (q := 26) dX11_doesRound_96 fX11_105 (shM (Fm.M hs1 hM) sgM_0) rfl (rfM (Fm.M hs1 hM) rfM_0_42) ?_
                refine j_iload_n 2 dX11_doesRound_99 rfl ?_
                refine j_iload_n 3 dX11_doesRound_100 rfl ?_
                refine j_iastN n dX11_doesRound_101 (shM (Fm.M hs1 hM) sgM_26) (by omega) (by omega) ?_
                have sm10 : Fm P26 M (jk_wI M1 26 n (cF S (rnd S W n).1 n 13).1) := Fm.w hs1 (by unfold P26; omega)
                refine j_iinc 2 (nI (n + 1)) (L' := [(2, .int (nI (n + 1))), (1, .int 1), (0, .ref 0), (3, .int (cF S (rnd S W n).1 n 13).1), (4, .int (cF S (rnd S W n).1 n k).2), (5, .int (nI (k + 1)))]) dX11_doesRound_102 rfl (inc1 n) (by decide) rfl ?_
                refine j_goto (tgt := 4) dX11_doesRound_105 rfl ?_
                have hfl : 1 = (rnd S W (n + 1)).2 := by
                  rw [rn_s.2]
                  rw [if_neg c9]
                refine j_L (congrArg (fun zz9 : Int32 => ([(2, .int (nI (n + 1))), (1, .int zz9), (0, .ref 0), (3, .int (cF S (rnd S W n).1 n 13).1), (4, .int (cF S (rnd S W n).1 n k).2), (5, .int (nI (k + 1)))] : List (Nat × Value))) hfl) ?_
                exact j_sub (jk_pick [2, 1, 0] rfl) (ih2 (n + 1) (jk_wI M1 26 n (cF S (rnd S W n).1 n 13).1) (by omega) (by omega) sm10 (hw1.st (by omega)))
              · refine j_iload_n 3 dX11_doesRound_79 rfl ?_
                refine j_aload_n 0 dX11_doesRound_80 rfl ?_
                refine j_getr (q := 26) dX11_doesRound_81 fX11_105 (shM (Fm.M hs1 hM) sgM_0) rfl (rfM (Fm.M hs1 hM) rfM_0_42) ?_
                refine j_iload_n 2 dX11_doesRound_84 rfl ?_
                refine j_ialdN n dX11_doesRound_85 (shM (Fm.M hs1 hM) sgM_26) (by omega) (by omega) ?_
                refine j_topi ((rnd S W n).1 n) (hw1 _ (by omega)).1 ?_
                refine j_icmp_eq (tgt := 93) dX11_doesRound_86 rfl (fun c11 => ?_) (fun c11 => ?_)
                · refine j_iconst 0 dX11_doesRound_93 ic_0 ?_
                  refine j_istore_n (L' := [(1, .int 0), (0, .ref 0), (2, .int (nI n)), (3, .int (cF S (rnd S W n).1 n 13).1), (4, .int (cF S (rnd S W n).1 n k).2), (5, .int (nI (k + 1)))]) dX11_doesRound_94 (by decide) rfl ?_
                  refine j_aload_n 1 dX11_doesRound_95 rfl ?_
                  refine j_getr (q := 26) dX11_doesRound_96 fX11_105 (shM (Fm.M hs1 hM) sgM_0) rfl (rfM (Fm.M hs1 hM) rfM_0_42) ?_
                  refine j_iload_n 2 dX11_doesRound_99 rfl ?_
                  refine j_iload_n 3 dX11_doesRound_100 rfl ?_
                  refine j_iastN n dX11_doesRound_101 (shM (Fm.M hs1 hM) sgM_26) (by omega) (by omega) ?_
                  have sm12 : Fm P26 M (jk_wI M1 26 n (cF S (rnd S W n).1 n 13).1) := Fm.w hs1 (by unfold P26; omega)
                  refine j_iinc 2 (nI (n + 1)) (L' := [(2, .int (nI (n + 1))), (1, .int 0), (0, .ref 0), (3, .int (cF S (rnd S W n).1 n 13).1), (4, .int (cF S (rnd S W n).1 n k).2), (5, .int (nI (k + 1)))]) dX11_doesRound_102 rfl (inc1 n) (by decide) rfl ?_
                  refine j_goto (tgt := 4) dX11_doesRound_105 rfl ?_
                  have hfl : 0 = (rnd S W (n + 1)).2 := by
                    rw [rn_s.2]
                    rw [if_pos c9, if_pos c11]
                  refine j_L (congrArg (fun zz9 : Int32 => ([(2, .int (nI (n + 1))), (1, .int zz9), (0, .ref 0), (3, .int (cF S (rnd S W n).1 n 13).1), (4, .int (cF S (rnd S W n).1 n k).2), (5, .int (nI (k + 1)))] : List (Nat × Value))) hfl) ?_
                  exact j_sub (jk_pick [2, 1, 0] rfl) (ih2 (n + 1) (jk_wI M1 26 n (cF S (rnd S W n).1 n 13).1) (by omega) (by omega) sm12 (hw1.st (by omega)))
                · refine j_iconst 1 dX11_doesRound_89 ic_1 ?_
                  refine j_goto (tgt := 94) dX11_doesRound_90 rfl ?_
                  refine j_istore_n (L' := [(1, .int 1), (0, .ref 0), (2, .int (nI n)), (3, .int (cF S (rnd S W n).1 n 13).1), (4, .int (cF S (rnd S W n).1 n k).2), (5, .int (nI (k + 1)))]) dX11_doesRound_94 (by decide) rfl ?_
                  refine j_aload_n 1 dX11_doesRound_95 rfl ?_
                  refine j_getr (q := 26) dX11_doesRound_96 fX11_105 (shM (Fm.M hs1 hM) sgM_0) rfl (rfM (Fm.M hs1 hM) rfM_0_42) ?_
                  refine j_iload_n 2 dX11_doesRound_99 rfl ?_
                  refine j_iload_n 3 dX11_doesRound_100 rfl ?_
                  refine j_iastN n dX11_doesRound_101 (shM (Fm.M hs1 hM) sgM_26) (by omega) (by omega) ?_
                  have sm13 : Fm P26 M (jk_wI M1 26 n (cF S (rnd S W n).1 n 13).1) := Fm.w hs1 (by unfold P26; omega)
                  refine j_iinc 2 (nI (n + 1)) (L' := [(2, .int (nI (n + 1))), (1, .int 1), (0, .ref 0), (3, .int (cF S (rnd S W n).1 n 13).1), (4, .int (cF S (rnd S W n).1 n k).2), (5, .int (nI (k + 1)))]) dX11_doesRound_102 rfl (inc1 n) (by decide) rfl ?_
                  refine j_goto (tgt := 4) dX11_doesRound_105 rfl ?_
                  have hfl : 1 = (rnd S W (n + 1)).2 := by
                    rw [rn_s.2]
                    rw [if_pos c9, if_neg c11]
                  refine j_L (congrArg (fun zz9 : Int32 => ([(2, .int (nI (n + 1))), (1, .int zz9), (0, .ref 0), (3, .int (cF S (rnd S W n).1 n 13).1), (4, .int (cF S (rnd S W n).1 n k).2), (5, .int (nI (k + 1)))] : List (Nat × Value))) hfl) ?_
                  exact j_sub (jk_pick [2, 1, 0] rfl) (ih2 (n + 1) (jk_wI M1 26 n (cF S (rnd S W n).1 n 13).1) (by omega) (by omega) sm13 (hw1.st (by omega)))
            · refine j_aload_n 0 dX11_doesRound_42 rfl ?_
              refine j_iload_n 2 dX11_doesRound_43 rfl ?_
              refine j_iload 5 dX11_doesRound_44 rfl ?_
              refine j_callV (kc := 0) (ks := 0) (a := 0) (b := 0) (d' := (d + 2)) (As := [.int (nI n), .int (nI (k + 1))]) dX11_doesRound_46 kX11_275 rfl (shM (Fm.M hs1 hM) sgM_0) (by omega) rfl rfl rfl (Nat.le_of_ble_eq_true rfl) (Nat.le_of_ble_eq_true rfl) (T_X11_madeAt (Fm.M hs1 hM) (Fm.mv hs1 hS P26_H) ok hw1 n (by omega) (nI (k + 1)) (nI13 (by omega) (by omega))) (kk_p ?_)
              refine j_iload 4 dX11_doesRound_49 rfl ?_
              refine j_icmp_lt (tgt := 57) dX11_doesRound_51 rfl (fun c14 => ?_) (fun c14 => ?_)
              · refine j_iload 5 dX11_doesRound_57 rfl ?_
                refine j_istore_n (L' := [(3, .int (nI (k + 1))), (0, .ref 0), (1, .int (rnd S W n).2), (2, .int (nI n)), (4, .int (cF S (rnd S W n).1 n k).2), (5, .int (nI (k + 1)))]) dX11_doesRound_59 (by decide) rfl ?_
                refine j_aload_n 1 dX11_doesRound_60 rfl ?_
                refine j_iload_n 3 dX11_doesRound_61 rfl ?_
                refine j_iload 5 dX11_doesRound_62 rfl ?_
                refine j_callV (kc := 0) (ks := 0) (a := 0) (b := 0) (d' := (d + 2)) (As := [.int (nI n), .int (nI (k + 1))]) dX11_doesRound_64 kX11_275 rfl (shM (Fm.M hs1 hM) sgM_0) (by omega) rfl rfl rfl (Nat.le_of_ble_eq_true rfl) (Nat.le_of_ble_eq_true rfl) (T_X11_madeAt (Fm.M hs1 hM) (Fm.mv hs1 hS P26_H) ok hw1 n (by omega) (nI (k + 1)) (nI13 (by omega) (by omega))) (kk_p ?_)
                refine j_istore (L' := [(4, .int (madeS S (rnd S W n).1 (nI (k + 1)) (nI n))), (3, .int (nI (k + 1))), (0, .ref 0), (1, .int (rnd S W n).2), (2, .int (nI n)), (5, .int (nI (k + 1)))]) dX11_doesRound_67 (by decide) rfl ?_
                refine j_iinc 5 (nI ((k + 1) + 1)) (L' := [(5, .int (nI ((k + 1) + 1))), (4, .int (madeS S (rnd S W n).1 (nI (k + 1)) (nI n))), (3, .int (nI (k + 1))), (0, .ref 0), (1, .int (rnd S W n).2), (2, .int (nI n))]) dX11_doesRound_69 rfl (inc1 (k + 1)) (by decide) rfl ?_
                refine j_goto (tgt := 35) dX11_doesRound_72 rfl ?_
                have hb1 : (cF S (rnd S W n).1 n (k + 1)) = ((nI (k + 1)), (madeS S (rnd S W n).1 (nI (k + 1)) (nI n))) := cF_s.trans (if_pos (c14))
                have hb2 : (nI (k + 1)) = (cF S (rnd S W n).1 n (k + 1)).1 := by rw [hb1]
                have hb3 : (madeS S (rnd S W n).1 (nI (k + 1)) (nI n)) = (cF S (rnd S W n).1 n (k + 1)).2 := by rw [hb1]
                refine j_L (congrArg (fun zz9 : Int32 => ([(5, .int (nI ((k + 1) + 1))), (4, .int (madeS S (rnd S W n).1 (nI (k + 1)) (nI n))), (3, .int zz9), (0, .ref 0), (1, .int (rnd S W n).2), (2, .int (nI n))] : List (Nat × Value))) hb2) ?_
                refine j_L (congrArg (fun zz9 : Int32 => ([(5, .int (nI ((k + 1) + 1))), (4, .int zz9), (3, .int (cF S (rnd S W n).1 n (k + 1)).1), (0, .ref 0), (1, .int (rnd S W n).2), (2, .int (nI n))] : List (Nat × Value))) hb3) ?_
                exact j_sub (jk_pick [3, 4, 5, 2, 1, 0] rfl) (ih6 (k + 1) (by omega) (by omega))
              · refine j_goto (tgt := 69) dX11_doesRound_54 rfl ?_
                refine j_iinc 5 (nI ((k + 1) + 1)) (L' := [(5, .int (nI ((k + 1) + 1))), (0, .ref 0), (1, .int (rnd S W n).2), (2, .int (nI n)), (3, .int (cF S (rnd S W n).1 n k).1), (4, .int (cF S (rnd S W n).1 n k).2)]) dX11_doesRound_69 rfl (inc1 (k + 1)) (by decide) rfl ?_
                refine j_goto (tgt := 35) dX11_doesRound_72 rfl ?_
                have hb1 : (cF S (rnd S W n).1 n (k + 1)) = ((cF S (rnd S W n).1 n k).1, (cF S (rnd S W n).1 n k).2) := cF_s.trans (if_neg (c14))
                have hb2 : (cF S (rnd S W n).1 n k).1 = (cF S (rnd S W n).1 n (k + 1)).1 := by rw [hb1]
                have hb3 : (cF S (rnd S W n).1 n k).2 = (cF S (rnd S W n).1 n (k + 1)).2 := by rw [hb1]
                refine j_L (congrArg (fun zz9 : Int32 => ([(5, .int (nI ((k + 1) + 1))), (0, .ref 0), (1, .int (rnd S W n).2), (2, .int (nI n)), (3, .int zz9), (4, .int (cF S (rnd S W n).1 n k).2)] : List (Nat × Value))) hb2) ?_
                refine j_L (congrArg (fun zz9 : Int32 => ([(5, .int (nI ((k + 1) + 1))), (0, .ref 0), (1, .int (rnd S W n).2), (2, .int (nI n)), (3, .int (cF S (rnd S W n).1 n (k + 1)).1), (4, .int zz9)] : List (Nat × Value))) hb3) ?_
                exact j_sub (jk_pick [1, 2, 3, 4, 5, 0] rfl) (ih6 (k + 1) (by omega) (by omega))
        exact j_sub (jk_pick [3, 4, 5, 2, 1, 0] rfl) (lp7 _ 0 (Nat.lt_succ_self _) (by omega))
  exact j_sub (jk_pick [2, 1, 0] rfl) (lp3 _ 0 M (Nat.lt_succ_self _) (by omega) Fm.rf hw)
set_option maxRecDepth 20000 in
set_option maxHeartbeats 4000000 in
theorem T_X11_goes {d : Nat} {M : jk_M} {S : HS} (hM : WM M) (hS : mv M.2.1 = S) (ok : Sok S) (m : Nat) (hm : m < 2 ^ 31) : J Fr_X11_goes (d + 4) 0 0 0 [(0, .ref 0), (1, .int (nI m))] [] M (jk_ex (some (.int (rsV (rsF S m)))) (fun M1 => Fm P26 M M1 ∧ WtO M1 S (rdsS S m))) := by
  refine j_post (fun Q hQ => ?_)
  have hN := (Sok.N ok).2
  refine j_iconst 0 dX11_goes_0 ic_0 ?_
  refine j_istore_n (L' := [(2, .int 0), (0, .ref 0), (1, .int (nI m))]) dX11_goes_1 (by decide) rfl ?_
  have lp3 : ∀ (k1 : Nat) (n : Nat) (M1 : jk_M), nN S - n < k1 → (n ≤ nN S) → (Fm P26 M M1) → (∀ j, j < n → M1.2.1 26 j = S 14 j) → J Fr_X11_goes (d + 4) 0 0 2 [(0, .ref 0), (1, .int (nI m)), (2, .int (nI n))] [] M1 Q := by
    intro k1
    induction k1 with
    | zero => intro n M1 hk; exact absurd hk (Nat.not_lt_zero _)
    | succ k1 ih2 =>
      intro n M1 hk1 hn hs1 hc1
      refine j_iload_n 2 dX11_goes_2 rfl ?_
      refine j_aload_n 0 dX11_goes_3 rfl ?_
      refine j_getv (nI (nN S)) dX11_goes_4 fX11_144 (shM (Fm.M hs1 hM) sgM_0) rfl ((mr_N (Fm.mv hs1 hS P26_H)).trans (Sok.N ok).1) ?_
      refine j_icmp_geN (tgt := 28) n (nN S) dX11_goes_7 rfl (by omega) (by omega) (fun c4 => ?_) (fun c4 => ?_)
      · refine j_iconst 0 dX11_goes_28 ic_0 ?_
        refine j_istore_n (L' := [(2, .int 0), (0, .ref 0), (1, .int (nI m))]) dX11_goes_29 (by decide) rfl ?_
        have lp7 : ∀ (k5 : Nat) (k : Nat) (M2 : jk_M), m - k < k5 → (k ≤ m) → (Fm P26 M M2) → (rsF S k = none) → (WtO M2 S (rdsS S k)) → J Fr_X11_goes (d + 4) 0 0 30 [(0, .ref 0), (1, .int (nI m)), (2, .int (nI k))] [] M2 Q := by
          intro k5
          induction k5 with
          | zero => intro k M2 hk; exact absurd hk (Nat.not_lt_zero _)
          | succ k5 ih6 =>
            intro k M2 hk5 hk hs2 hf hw2
            refine j_iload_n 2 dX11_goes_30 rfl ?_
            refine j_iload_n 1 dX11_goes_31 rfl ?_
            refine j_icmp_geN (tgt := 50) k m dX11_goes_32 rfl (by omega) (by omega) (fun c8 => ?_) (fun c8 => ?_)
            · refine j_iconst (-1) dX11_goes_50 ic_n1 ?_
              refine j_iret dX11_goes_51 rfl ?_
              have e : k = m := by omega
              subst e
              exact hQ _ _ ⟨by rw [hf]; rfl, hs2, hw2⟩
            · refine j_aload_n 0 dX11_goes_35 rfl ?_
              refine j_callV (kc := 0) (ks := 0) (a := 0) (b := 0) (d' := (d + 3)) (As := []) dX11_goes_36 kX11_278 rfl (shM (Fm.M hs2 hM) sgM_0) (by omega) rfl rfl rfl (Nat.le_of_ble_eq_true rfl) (Nat.le_of_ble_eq_true rfl) (T_X11_doesRound (Fm.M hs2 hM) (Fm.mv hs2 hS P26_H) ok hw2) (kk_e (fun M9 hM10 => ?_))
              obtain ⟨h0G, hwk0⟩ := hM10
              have sm11 := Fm.tr hs2 h0G
              have hwk : WtO M9 S (rdsS S (k + 1)) := hwk0
              refine j_if_ne (tgt := 44) dX11_goes_39 rfl (fun c12 => ?_) (fun c12 => ?_)
              · refine j_iinc 2 (nI (k + 1)) (L' := [(2, .int (nI (k + 1))), (0, .ref 0), (1, .int (nI m))]) dX11_goes_44 rfl (inc1 k) (by decide) rfl ?_
                refine j_goto (tgt := 30) dX11_goes_47 rfl ?_
                exact j_sub (jk_pick [1, 2, 0] rfl) (ih6 (k + 1) M9 (by omega) (by omega) sm11 (rsF_n hf c12) hwk)
              · refine j_iload_n 2 dX11_goes_42 rfl ?_
                refine j_iret dX11_goes_43 rfl ?_
                have hx := rsF_st (rsF_y hf c12) (m - (k + 1))
                rw [show k + 1 + (m - (k + 1)) = m by omega] at hx
                have hr : rdsS S m = rdsS S (k + 1) := by rw [show m = k + (m - k) by omega, rds_st c12]; exact (rds_st c12 1).symm
                exact hQ _ _ ⟨by rw [hx]; rfl, sm11, by rw [hr]; exact hwk⟩
        exact j_sub (jk_pick [1, 2, 0] rfl) (lp7 _ 0 M1 (Nat.lt_succ_self _) (by omega) hs1 rfl (fun j hj => ⟨hc1 j (by omega), (ok.ne hj).1⟩))
      · refine j_aload_n 0 dX11_goes_10 rfl ?_
        refine j_getr (q := 26) dX11_goes_11 fX11_105 (shM (Fm.M hs1 hM) sgM_0) rfl (rfM (Fm.M hs1 hM) rfM_0_42) ?_
        refine j_iload_n 2 dX11_goes_14 rfl ?_
        refine j_aload_n 0 dX11_goes_15 rfl ?_
        refine j_getr (q := 6) dX11_goes_16 fX11_41 (shM (Fm.M hs1 hM) sgM_0) rfl (rfM (Fm.M hs1 hM) rfM_0_14) ?_
        refine j_iload_n 2 dX11_goes_19 rfl ?_
        refine j_ialdN n dX11_goes_20 (shM (Fm.M hs1 hM) sgM_6) (by omega) (by omega) ?_
        refine j_topi (S 14 n) (mr_arN (Fm.mv hs1 hS P26_H) (k := 0) (by omega) (by decide)) ?_
        refine j_iastN n dX11_goes_21 (shM (Fm.M hs1 hM) sgM_26) (by omega) (by omega) ?_
        have sm13 : Fm P26 M (jk_wI M1 26 n (S 14 n)) := Fm.w hs1 (by unfold P26; omega)
        refine j_iinc 2 (nI (n + 1)) (L' := [(2, .int (nI (n + 1))), (0, .ref 0), (1, .int (nI m))]) dX11_goes_22 rfl (inc1 n) (by decide) rfl ?_
        refine j_goto (tgt := 2) dX11_goes_25 rfl ?_
        exact j_sub (jk_pick [1, 2, 0] rfl) (ih2 (n + 1) (jk_wI M1 26 n (S 14 n)) (by omega) (by omega) sm13 (fun j hj => by
          by_cases e : j = n
          · rw [e, rd_s]
          · rw [rd_k e]; exact hc1 j (by omega)))
  exact j_sub (jk_pick [1, 2, 0] rfl) (lp3 _ 0 M (Nat.lt_succ_self _) (by omega) Fm.rf (fun j hj => absurd hj (Nat.not_lt_zero j)))
set_option maxRecDepth 20000 in
set_option maxHeartbeats 4000000 in
theorem N_rests {d : Nat} {M : jk_M} {Z : ZS} (cv : MV M Z) (ok : Zok Z)  : J Fr_X11_rests (d + 5) 0 0 0 [(0, .ref 0)] [] M (jk_ex (some (.int (restsZ Z).1)) (fun M1 => MV M1 (restsZ Z).2)) := by
  refine j_post (fun Q hQ => ?_)
  have hM := cv.1
  have hS := cv.2.1
  have okS := ok.1
  have h40 := cv.2.2.2.2.2.2.2.2.2.2.1
  refine j_aload_n 0 dX11_rests_0 rfl ?_
  refine j_bipush 20 dX11_rests_1 bp_20 ?_
  refine j_topi (nI 20) rfl ?_
  refine j_callV (kc := 0) (ks := 0) (a := 0) (b := 0) (d' := (d + 4)) (As := [.int (nI 20)]) dX11_rests_3 kX11_281 rfl (shM hM sgM_0) (by omega) rfl rfl rfl (Nat.le_of_ble_eq_true rfl) (Nat.le_of_ble_eq_true rfl) (T_X11_goes hM hS okS 20 (by omega)) (kk_e (fun M1 hM2 => ?_))
  obtain ⟨h0G, hwg⟩ := hM2
  have sm3 : Fm PS M M1 := Fm.mo h0G P26_S
  refine j_iret dX11_rests_6 rfl ?_
  exact hQ _ _ ⟨rfl, MV.sc cv sm3⟩
set_option maxRecDepth 20000 in
set_option maxHeartbeats 4000000 in
theorem N_goes0 {d : Nat} {M : jk_M} {Z : ZS} (cv : MV M Z) (ok : Zok Z) (j : Nat) (hj : j < nN Z.1) (n : Int32) (h1 : ¬ (0 ≤ n ∧ n ≤ 20)) : J Fr_X11_goesTo (d + 5) 0 0 0 [(0, .ref 0), (1, .int (nI j)), (2, .int n)] [] M (jk_ex (some (.int (goK Z n j).1)) (fun M1 => MV M1 (goK Z n j).2)) := by
  refine j_post (fun Q hQ => ?_)
  have hM := cv.1
  have hS := cv.2.1
  have okS := ok.1
  have h40 := cv.2.2.2.2.2.2.2.2.2.2.1
  have hN := (Sok.N okS).2
  have e20 : nI 20 = (20 : Int32) := by decide
  refine j_iload_n 1 dX11_goesTo_0 rfl ?_
  refine j_if_ltN (tgt := 12) j dX11_goesTo_1 (by omega) rfl ?_
  refine j_iload_n 1 dX11_goesTo_4 rfl ?_
  refine j_aload_n 0 dX11_goesTo_5 rfl ?_
  refine j_getv (nI (nN Z.1)) dX11_goesTo_6 fX11_144 (shM hM sgM_0) rfl ((mr_N hS).trans (Sok.N okS).1) ?_
  refine j_icmp_ltN (tgt := 18) j (nN Z.1) dX11_goesTo_9 rfl (by omega) (by omega) (fun c2 => ?_) (fun c2 => ?_)
  · refine j_aload_n 0 dX11_goesTo_18 rfl ?_
    refine j_iload_n 2 dX11_goesTo_19 rfl ?_
    refine j_iconst 0 dX11_goesTo_20 ic_0 ?_
    refine j_bipush 20 dX11_goesTo_21 bp_20 ?_
    refine j_callV (kc := 0) (ks := 0) (a := 0) (b := 0) (d' := d) (As := [.int n, .int 0, .int 20]) dX11_goesTo_23 kX11_150 rfl (shM hM sgM_0) (by omega) rfl rfl rfl (Nat.le_of_ble_eq_true rfl) (Nat.le_of_ble_eq_true rfl) (T_X11_isFrom n 0 20) (kk_p ?_)
    refine j_if_neB (p := (0 ≤ n ∧ n ≤ 20)) (tgt := 36) dX11_goesTo_26 rfl (fun c3 => ?_) (fun c3 => ?_)
    · exact absurd c3 h1
    · refine j_aload_n 0 dX11_goesTo_29 rfl ?_
      refine j_bipush (-6) dX11_goesTo_30 bp_n6 ?_
      refine j_callV (kc := 0) (ks := 0) (a := 0) (b := 0) (d' := d) (As := [.int (-6)]) dX11_goesTo_32 kX11_130 rfl (shM hM sgM_0) (by omega) rfl rfl rfl (Nat.le_of_ble_eq_true rfl) (Nat.le_of_ble_eq_true rfl) (T_X11_no hM (-6) (by decide)) (kk_p ?_)
      refine j_iret dX11_goesTo_35 rfl ?_
      have hz : goK Z n j = ((-6), (refZ Z (-6))) := by
        clear hQ
        clear cv hM hS
        grind [goK, cif]
      exact hQ _ _ ⟨by rw [hz], by rw [hz]; exact MV.rf cv (by decide)⟩
  · exact absurd c2 (by omega)
set_option maxRecDepth 20000 in
set_option maxHeartbeats 4000000 in
theorem N_goes1 {d : Nat} {M : jk_M} {Z : ZS} (cv : MV M Z) (ok : Zok Z) (j : Nat) (hj : j < nN Z.1) (m : Nat) (hm : m ≤ 20) : J Fr_X11_goesTo (d + 5) 0 0 0 [(0, .ref 0), (1, .int (nI j)), (2, .int (nI m))] [] M (jk_ex (some (.int (goK Z (nI m) j).1)) (fun M1 => MV M1 (goK Z (nI m) j).2)) := by
  refine j_post (fun Q hQ => ?_)
  have hM := cv.1
  have hS := cv.2.1
  have okS := ok.1
  have h40 := cv.2.2.2.2.2.2.2.2.2.2.1
  have hN := (Sok.N okS).2
  have e20 : nI 20 = (20 : Int32) := by decide
  refine j_iload_n 1 dX11_goesTo_0 rfl ?_
  refine j_if_ltN (tgt := 12) j dX11_goesTo_1 (by omega) rfl ?_
  refine j_iload_n 1 dX11_goesTo_4 rfl ?_
  refine j_aload_n 0 dX11_goesTo_5 rfl ?_
  refine j_getv (nI (nN Z.1)) dX11_goesTo_6 fX11_144 (shM hM sgM_0) rfl ((mr_N hS).trans (Sok.N okS).1) ?_
  refine j_icmp_ltN (tgt := 18) j (nN Z.1) dX11_goesTo_9 rfl (by omega) (by omega) (fun c2 => ?_) (fun c2 => ?_)
  · refine j_aload_n 0 dX11_goesTo_18 rfl ?_
    refine j_iload_n 2 dX11_goesTo_19 rfl ?_
    refine j_iconst 0 dX11_goesTo_20 ic_0 ?_
    refine j_bipush 20 dX11_goesTo_21 bp_20 ?_
    refine j_callV (kc := 0) (ks := 0) (a := 0) (b := 0) (d' := d) (As := [.int (nI m), .int 0, .int 20]) dX11_goesTo_23 kX11_150 rfl (shM hM sgM_0) (by omega) rfl rfl rfl (Nat.le_of_ble_eq_true rfl) (Nat.le_of_ble_eq_true rfl) (T_X11_isFrom (nI m) 0 20) (kk_p ?_)
    refine j_if_neB (p := (0 ≤ (nI m) ∧ (nI m) ≤ 20)) (tgt := 36) dX11_goesTo_26 rfl (fun c3 => ?_) (fun c3 => ?_)
    · refine j_aload_n 0 dX11_goesTo_36 rfl ?_
      refine j_iload_n 2 dX11_goesTo_37 rfl ?_
      refine j_callV (kc := 0) (ks := 0) (a := 0) (b := 0) (d' := (d + 4)) (As := [.int (nI m)]) dX11_goesTo_38 kX11_281 rfl (shM hM sgM_0) (by omega) rfl rfl rfl (Nat.le_of_ble_eq_true rfl) (Nat.le_of_ble_eq_true rfl) (T_X11_goes hM hS okS m (by omega)) (kk_e (fun M4 hM5 => ?_))
      obtain ⟨h0G, hwg⟩ := hM5
      have sm6 : Fm PS M M4 := Fm.mo h0G P26_S
      refine j_pop dX11_goesTo_41 rfl ?_
      refine j_aload_n 0 dX11_goesTo_42 rfl ?_
      refine j_getr (q := 26) dX11_goesTo_43 fX11_105 (shM (Fm.M sm6 hM) sgM_0) rfl (rfM (Fm.M sm6 hM) rfM_0_42) ?_
      refine j_iload_n 1 dX11_goesTo_46 rfl ?_
      refine j_ialdN j dX11_goesTo_47 (shM (Fm.M sm6 hM) sgM_26) (by omega) (by omega) ?_
      refine j_iret dX11_goesTo_48 rfl ?_
      have hz : goK Z (nI m) j = (rdsS Z.1 m j, Z) := by
        rw [goK, cif_f (fun z => z ⟨nI_pos' (by omega), by rw [← e20]; exact nI_le hm (by omega)⟩), nI_clamp (by omega)]
      exact hQ _ _ ⟨by rw [hz, ← (hwg j hj).1], by rw [hz]; exact MV.sc cv sm6⟩
    · exact absurd ⟨nI_pos' (by omega), by rw [← e20]; exact nI_le hm (by omega)⟩ c3
  · exact absurd c2 (by omega)
set_option maxRecDepth 20000 in
set_option maxHeartbeats 4000000 in
theorem N_goesN {d : Nat} {M : jk_M} {Z : ZS} (cv : MV M Z) (ok : Zok Z) (t n : Int32) (hx : ¬ (0 ≤ t ∧ t < nI (nN Z.1))) : J Fr_X11_goesTo (d + 5) 0 0 0 [(0, .ref 0), (1, .int t), (2, .int n)] [] M (jk_ex (some (.int (((-1 : Int32), refZ Z (-1))).1)) (fun M1 => MV M1 (((-1 : Int32), refZ Z (-1))).2)) := by
  refine j_post (fun Q hQ => ?_)
  have hM := cv.1
  have hS := cv.2.1
  have okS := ok.1
  have h40 := cv.2.2.2.2.2.2.2.2.2.2.1
  have hN := (Sok.N okS).2
  have e20 : nI 20 = (20 : Int32) := by decide
  refine j_iload_n 1 dX11_goesTo_0 rfl ?_
  refine j_if_lt (tgt := 12) dX11_goesTo_1 rfl (fun c1 => ?_) (fun c1 => ?_)
  · refine j_aload_n 0 dX11_goesTo_12 rfl ?_
    refine j_iconst (-1) dX11_goesTo_13 ic_n1 ?_
    refine j_callV (kc := 0) (ks := 0) (a := 0) (b := 0) (d' := d) (As := [.int (-1)]) dX11_goesTo_14 kX11_130 rfl (shM hM sgM_0) (by omega) rfl rfl rfl (Nat.le_of_ble_eq_true rfl) (Nat.le_of_ble_eq_true rfl) (T_X11_no hM (-1) (by decide)) (kk_p ?_)
    refine j_iret dX11_goesTo_17 rfl ?_
    exact hQ _ _ ⟨rfl, MV.rf cv (by decide)⟩
  · refine j_iload_n 1 dX11_goesTo_4 rfl ?_
    refine j_aload_n 0 dX11_goesTo_5 rfl ?_
    refine j_getv (nI (nN Z.1)) dX11_goesTo_6 fX11_144 (shM hM sgM_0) rfl ((mr_N hS).trans (Sok.N okS).1) ?_
    refine j_icmp_lt (tgt := 18) dX11_goesTo_9 rfl (fun c2 => ?_) (fun c2 => ?_)
    · exact absurd (show 0 ≤ t ∧ t < nI (nN Z.1) by clear hQ; grind) hx
    · refine j_aload_n 0 dX11_goesTo_12 rfl ?_
      refine j_iconst (-1) dX11_goesTo_13 ic_n1 ?_
      refine j_callV (kc := 0) (ks := 0) (a := 0) (b := 0) (d' := d) (As := [.int (-1)]) dX11_goesTo_14 kX11_130 rfl (shM hM sgM_0) (by omega) rfl rfl rfl (Nat.le_of_ble_eq_true rfl) (Nat.le_of_ble_eq_true rfl) (T_X11_no hM (-1) (by decide)) (kk_p ?_)
      refine j_iret dX11_goesTo_17 rfl ?_
      exact hQ _ _ ⟨rfl, MV.rf cv (by decide)⟩
theorem N_goesTo {d : Nat} {M : jk_M} {Z : ZS} (cv : MV M Z) (ok : Zok Z) (t n : Int32) : J Fr_X11_goesTo (d + 5) 0 0 0 [(0, .ref 0), (1, .int t), (2, .int n)] [] M (jk_ex (some (.int (goesZ Z t n).1)) (fun M1 => MV M1 (goesZ Z t n).2)) := by
  by_cases h : 0 ≤ t ∧ t < nI (nN Z.1)
  · have hn : nN Z.1 < 2 ^ 31 := by have := (Sok.N ok.1).2; omega
    obtain ⟨k, hk, rfl⟩ := i_in hn h
    rw [goesZ, inZ_y hk hn]
    by_cases h1 : 0 ≤ n ∧ n ≤ 20
    · obtain ⟨m, hm, rfl⟩ := nI_of (Int32.not_lt.mpr h1.1)
      have h2 := h1.2
      rw [show (20 : Int32) = nI 20 by decide, nI_leI hm (by decide)] at h2
      exact N_goes1 cv ok k hk m h2
    · exact N_goes0 cv ok k hk n h1
  · rw [goesZ, inZ_n h]
    exact N_goesN cv ok t n h
