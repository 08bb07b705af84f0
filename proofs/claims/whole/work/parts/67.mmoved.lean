/-! the minute that is best, the thing that is moved, by the model -/
def PG (q k : Nat) : Prop := PO q k ∨ (q = 0 ∧ k = 40)
theorem MV.gen {M M1 : jk_M} {Z : ZS} {S : HS} (h : MV M Z) (s : Fm PG M M1) (hS : mv M1.2.1 = S) (hg : M1.2.1 0 40 = -1) : MV M1 (nowZ Z S) := by
  obtain ⟨h1, h2, h3, h4, h5, h6, h7, h8, h9, h10, h11, h12, h13⟩ := h
  have e : ∀ q k, ¬ PG q k → M1.2.1 q k = M.2.1 q k := s.2.2
  have en : ∀ q, (q = 1 ∨ (13 ≤ q ∧ q ≤ 20) ∨ q = 23 ∨ q = 31) → M1.2.1 q = M.2.1 q := fun q hq => by
    funext k; exact e q k (by unfold PG PO PH PS; omega)
  have e0 : ∀ k, (k = 8 ∨ k = 49 ∨ k = 50) → M1.2.1 0 k = M.2.1 0 k := fun k hk => e 0 k (by unfold PG PO PH PS; omega)
  refine ⟨s.M h1, hS, fun h => by rw [en 23 (by omega)]; exact h3 h, fun t ht => by rw [en 13 (by omega), en 14 (by omega), en 15 (by omega), en 16 (by omega)]; exact h4 t ht, fun t ht i hi => by rw [s.2.1]; exact h5 t ht i hi, fun i hi => by rw [en 1 (by omega)]; exact h6 i hi, (e0 50 (by omega)).trans h7, (e0 8 (by omega)).trans h8, (e0 49 (by omega)).trans h9, fun i hi => by rw [en 31 (by omega)]; exact h10 i hi, hg, fun i hi => by rw [en 19 (by omega)]; exact h12 i hi, fun i hi => by rw [en 20 (by omega)]; exact h13 i hi⟩
theorem PLk_G : ∀ q k, PLk q k → PG q k := fun q k h => Or.inl (Or.inr (PLk_S q k h))
noncomputable def mnF (S : HS) (n : Nat) : Int32 × Int32 := fmx (fun _ => True) (fun k => servS (minS S k)) (fun k => minS S k 3 0) (-1) (-1) n
theorem min_e {S : HS} (ok : Sok S) : minR S = (mnF S 60).1 := by
  rw [minR, mnF, show (60 : Nat) = 59 + 1 from rfl]
  rw [fmx_b (P := fun _ => True) (f := fun k => servS (minS S k)) trivial (n1lt (servS_le (min_ok ok 0)).1) 59 (b2 := -1)]
noncomputable def awF (S : HS) (n : Nat) : Int32 × Int32 := fmx (fun _ => True) (fun i => servS (awayS S i)) nI (-1) (-1) n
noncomputable def awI (S : HS) : Nat → Int32 × Int32
  | 0 => (-1, 0)
  | n + 1 => awF S (n + 1)
theorem awF_n {S : HS} (ok : Sok S) : ∀ n, n ≤ 16 → ∃ m, m ≤ n ∧ (awF S (n + 1)).1 = nI m
  | 0, _ => ⟨0, Nat.le_refl _, by
    have e : awF S 1 = (nI 0, servS (awayS S 0)) := fmx_t trivial (n1lt (servS_le (away_ok ok)).1)
    rw [e]⟩
  | n + 1, h => by
    by_cases c : (awF S (n + 1)).2 < servS (awayS S (n + 1))
    · have e : awF S (n + 1 + 1) = (nI (n + 1), servS (awayS S (n + 1))) := fmx_t trivial c
      exact ⟨n + 1, by omega, by rw [e]⟩
    · have e : awF S (n + 1 + 1) = awF S (n + 1) := fmx_f (Or.inr c)
      obtain ⟨m, h1, h2⟩ := awF_n ok n (by omega)
      exact ⟨m, by omega, by rw [e]; exact h2⟩
theorem awI_s {S : HS} (ok : Sok S) {n : Nat} (hn : n ≤ 16) : awI S (n + 1) = if (awI S n).1 = -1 ∨ (awI S n).2 < servS (awayS S n) then (nI n, servS (awayS S n)) else awI S n := by
  cases n with
  | zero =>
    show awF S 1 = if ((-1 : Int32) = -1 ∨ (0 : Int32) < servS (awayS S 0)) then (nI 0, servS (awayS S 0)) else awI S 0
    rw [if_pos (Or.inl rfl)]
    exact fmx_t trivial (n1lt (servS_le (away_ok ok)).1)
  | succ j =>
    show awF S (j + 1 + 1) = if ((awF S (j + 1)).1 = -1 ∨ (awF S (j + 1)).2 < servS (awayS S (j + 1))) then (nI (j + 1), servS (awayS S (j + 1))) else awF S (j + 1)
    obtain ⟨m, h1, h2⟩ := awF_n ok j (by omega)
    by_cases c : (awF S (j + 1)).2 < servS (awayS S (j + 1))
    · rw [if_pos (Or.inr c)]; exact fmx_t trivial c
    · rw [if_neg (fun z => z.elim (fun y => nI_n1 (by omega) (h2.symm.trans y)) c)]; exact fmx_f (Or.inr c)
theorem awI_1 {S : HS} : ∀ n, (awI S n).1 = (awF S n).1
  | 0 => rfl
  | _ + 1 => rfl
theorem mr_minN {I : Nat → Nat → Int32} {S : HS} (hS : mv I = S) (ok : Sok S) : I 0 6 = nI (S 3 0).toNatClampNeg ∧ (S 3 0).toNatClampNeg ≤ 59 := by
  have h := ok.2.2.2.1.nat (by decide)
  exact ⟨(mr_min hS).trans h.1, h.2.2⟩
set_option maxRecDepth 20000 in
set_option maxHeartbeats 4000000 in
theorem N_minute {d : Nat} {M : jk_M} {Z : ZS} (cv : MV M Z) (ok : Zok Z)  : J Fr_X11_minute (d + 7) 0 0 0 [(0, .ref 0)] [] M (jk_ex (some (.int (minuteZ Z).1)) (fun M1 => MV M1 (minuteZ Z).2)) := by
  refine j_post (fun Q hQ => ?_)
  have hM := cv.1
  have hS := cv.2.1
  have okS := ok.1
  have h40 := cv.2.2.2.2.2.2.2.2.2.2.1
  have hm59 := (mr_minN hS okS).2
  refine j_aload_n 0 dX11_minute_0 rfl ?_
  refine j_getv (nI (Z.1 3 0).toNatClampNeg) dX11_minute_1 fX11_170 (shM hM sgM_0) rfl (mr_minN hS okS).1 ?_
  refine j_istore_n (L' := [(1, .int (nI (Z.1 3 0).toNatClampNeg)), (0, .ref 0)]) dX11_minute_4 (by decide) rfl ?_
  refine j_iconst (-1) dX11_minute_5 ic_n1 ?_
  refine j_istore_n (L' := [(2, .int (-1)), (1, .int (nI (Z.1 3 0).toNatClampNeg)), (0, .ref 0)]) dX11_minute_6 (by decide) rfl ?_
  refine j_iconst (-1) dX11_minute_7 ic_n1 ?_
  refine j_istore_n (L' := [(3, .int (-1)), (2, .int (-1)), (1, .int (nI (Z.1 3 0).toNatClampNeg)), (0, .ref 0)]) dX11_minute_8 (by decide) rfl ?_
  refine j_iconst 0 dX11_minute_9 ic_0 ?_
  refine j_istore (L' := [(4, .int 0), (3, .int (-1)), (2, .int (-1)), (1, .int (nI (Z.1 3 0).toNatClampNeg)), (0, .ref 0)]) dX11_minute_10 (by decide) rfl ?_
  have z1 : (-1 : Int32) = (mnF Z.1 0).1 := rfl
  have z2 : (-1 : Int32) = (mnF Z.1 0).2 := rfl
  refine j_L (congrArg (fun zz9 : Int32 => ([(4, .int 0), (3, .int (-1)), (2, .int zz9), (1, .int (nI (Z.1 3 0).toNatClampNeg)), (0, .ref 0)] : List (Nat × Value))) z1) ?_
  refine j_L (congrArg (fun zz9 : Int32 => ([(4, .int 0), (3, .int zz9), (2, .int (mnF Z.1 0).1), (1, .int (nI (Z.1 3 0).toNatClampNeg)), (0, .ref 0)] : List (Nat × Value))) z2) ?_
  have lp3 : ∀ (k1 : Nat) (k : Nat) (M1 : jk_M), 60 - k < k1 → (k ≤ 60) → (Fm PG M M1) → (M1.2.1 0 40 = -1) → (∃ x, mv M1.2.1 = upS Z.1 3 0 x) → J Fr_X11_minute (d + 7) 0 0 12 [(0, .ref 0), (1, .int (nI (Z.1 3 0).toNatClampNeg)), (2, .int (mnF Z.1 k).1), (3, .int (mnF Z.1 k).2), (4, .int (nI k))] [] M1 Q := by
    intro k1
    induction k1 with
    | zero => intro k M1 hk; exact absurd hk (Nat.not_lt_zero _)
    | succ k1 ih2 =>
      intro k M1 hk1 hk hs1 hg1 hxx
      refine j_iload 4 dX11_minute_12 rfl ?_
      refine j_bipush 60 dX11_minute_14 bp_60 ?_
      refine j_icmp_geN (tgt := 63) k 60 dX11_minute_16 rfl (by omega) (by omega) (fun c4 => ?_) (fun c4 => ?_)
      · refine j_aload_n 0 dX11_minute_63 rfl ?_
        refine j_iload_n 1 dX11_minute_64 rfl ?_
        refine j_put dX11_minute_65 fX11_170 (shM (Fm.M hs1 hM) sgM_0) rfl ?_
        have sm5 : Fm PG M (jk_wI M1 0 6 (nI (Z.1 3 0).toNatClampNeg)) := Fm.w hs1 (by unfold PG PO PH PS; omega)
        refine j_iload_n 2 dX11_minute_68 rfl ?_
        refine j_iret dX11_minute_69 rfl ?_
        have e : k = 60 := by omega
        subst e
        obtain ⟨x, hx⟩ := hxx
        have hz : minuteZ Z = ((mnF Z.1 60).1, Z) := by rw [minuteZ, min_e okS]
        have q1 : mv (jk_wI M1 0 6 (nI (Z.1 3 0).toNatClampNeg)).2.1 = Z.1 := by
          have q := mv_sc (a := 3) (x := nI (Z.1 3 0).toNatClampNeg) hx (by decide) (by decide) (by decide) (by decide)
          rw [upS_up] at q
          refine Eq.trans q ?_
          rw [show nI (Z.1 3 0).toNatClampNeg = Z.1 3 0 from ((mr_minN hS okS).1.symm.trans (mr_min hS)), upS_id]
        exact hQ _ _ ⟨by rw [hz], by rw [hz]; exact MV.gen cv sm5 q1 ((rd_p (by omega)).trans hg1)⟩
      · obtain ⟨x, hx⟩ := hxx
        refine j_aload_n 0 dX11_minute_19 rfl ?_
        refine j_iload_n 1 dX11_minute_20 rfl ?_
        refine j_iload 4 dX11_minute_21 rfl ?_
        refine j_iaddN ((Z.1 3 0).toNatClampNeg) k dX11_minute_23 ?_
        refine j_bipush 60 dX11_minute_24 bp_60 ?_
        refine j_iremN ((Z.1 3 0).toNatClampNeg + k) 60 dX11_minute_26 (by omega) (by omega) (by omega) ?_
        refine j_put dX11_minute_27 fX11_170 (shM (Fm.M hs1 hM) sgM_0) rfl ?_
        have sm6 : Fm PG M (jk_wI M1 0 6 (nI (((Z.1 3 0).toNatClampNeg + k) % 60))) := Fm.w hs1 (by unfold PG PO PH PS; omega)
        have hT : mv (jk_wI M1 0 6 (nI (((Z.1 3 0).toNatClampNeg + k) % 60))).2.1 = minS Z.1 k := by
          have q := mv_sc (a := 3) (x := nI (((Z.1 3 0).toNatClampNeg + k) % 60)) hx (by decide) (by decide) (by decide) (by decide)
          rw [upS_up] at q; exact q
        refine j_aload_n 0 dX11_minute_30 rfl ?_
        refine j_callV (kc := 0) (ks := 0) (a := 0) (b := 0) (d' := (d + 3)) (As := []) dX11_minute_31 kX11_181 rfl (shM (Fm.M sm6 hM) sgM_0) (by omega) rfl rfl rfl (Nat.le_of_ble_eq_true rfl) (Nat.le_of_ble_eq_true rfl) (T_X11_looks (Fm.M sm6 hM) hT (min_ok okS k) ((rd_p (by omega)).trans hg1) (GT.no (min_ok okS k)) (min_ok okS k)) (kk_ev (fun M7 hM8 => ?_))
        obtain ⟨h0L, lk9⟩ := hM8
        have smL : Fm PG M M7 := Fm.tr sm6 (Fm.mo h0L PLk_G)
        have hT2 : mv M7.2.1 = minS Z.1 k := Fm.mv h0L hT PLk_H
        refine j_aload_n 0 dX11_minute_34 rfl ?_
        refine j_callV (kc := 0) (ks := 0) (a := 0) (b := 0) (d' := (d + 6)) (As := []) dX11_minute_35 kX11_263 rfl (shM (Fm.M smL hM) sgM_0) (by omega) rfl rfl rfl (Nat.le_of_ble_eq_true rfl) (Nat.le_of_ble_eq_true rfl) (T_X11_served (Fm.M smL hM) (MEq.of hT2) (min_ok okS k) lk9) (kk_p ?_)
        refine j_istore (L' := [(5, .int (servS (minS Z.1 k))), (0, .ref 0), (1, .int (nI (Z.1 3 0).toNatClampNeg)), (2, .int (mnF Z.1 k).1), (3, .int (mnF Z.1 k).2), (4, .int (nI k))]) dX11_minute_38 (by decide) rfl ?_
        refine j_iload 0 dX11_minute_40 rfl ?_
        refine j_iload_n 4 dX11_minute_42 rfl ?_
        refine j_icmp_gt (tgt := 49) dX11_minute_43 rfl (fun c9 => ?_) (fun c9 => ?_)
        · refine j_aload_n 1 dX11_minute_49 rfl ?_
          refine j_getv (minS Z.1 k 3 0) dX11_minute_50 fX11_170 (shM (Fm.M smL hM) sgM_0) rfl (mr_min hT2) ?_
          refine j_istore_n (L' := [(2, .int (minS Z.1 k 3 0)), (5, .int (servS (minS Z.1 k))), (0, .ref 0), (1, .int (nI (Z.1 3 0).toNatClampNeg)), (3, .int (mnF Z.1 k).2), (4, .int (nI k))]) dX11_minute_53 (by decide) rfl ?_
          refine j_iload 1 dX11_minute_54 rfl ?_
          refine j_istore_n (L' := [(3, .int (servS (minS Z.1 k))), (2, .int (minS Z.1 k 3 0)), (5, .int (servS (minS Z.1 k))), (0, .ref 0), (1, .int (nI (Z.1 3 0).toNatClampNeg)), (4, .int (nI k))]) dX11_minute_56 (by decide) rfl ?_
          refine j_iinc 5 (nI (k + 1)) (L' := [(4, .int (nI (k + 1))), (3, .int (servS (minS Z.1 k))), (2, .int (minS Z.1 k 3 0)), (5, .int (servS (minS Z.1 k))), (0, .ref 0), (1, .int (nI (Z.1 3 0).toNatClampNeg))]) dX11_minute_57 rfl (inc1 k) (by decide) rfl ?_
          refine j_goto (tgt := 12) dX11_minute_60 rfl ?_
          have hb1 : (mnF Z.1 (k + 1)) = ((minS Z.1 k 3 0), (servS (minS Z.1 k))) := fmx_t trivial (c9)
          have hb2 : (minS Z.1 k 3 0) = (mnF Z.1 (k + 1)).1 := by rw [hb1]
          have hb3 : (servS (minS Z.1 k)) = (mnF Z.1 (k + 1)).2 := by rw [hb1]
          refine j_L (congrArg (fun zz9 : Int32 => ([(4, .int (nI (k + 1))), (3, .int (servS (minS Z.1 k))), (2, .int zz9), (5, .int (servS (minS Z.1 k))), (0, .ref 0), (1, .int (nI (Z.1 3 0).toNatClampNeg))] : List (Nat × Value))) hb2) ?_
          refine j_L (congrArg (fun zz9 : Int32 => ([(4, .int (nI (k + 1))), (3, .int zz9), (2, .int (mnF Z.1 (k + 1)).1), (5, .int (servS (minS Z.1 k))), (0, .ref 0), (1, .int (nI (Z.1 3 0).toNatClampNeg))] : List (Nat × Value))) hb3) ?_
          exact j_sub (jk_pick [4, 5, 2, 1, 0] rfl) (ih2 (k + 1) M7 (by omega) (by omega) smL ((Fm.rd h0L (by unfold PLk; omega)).trans ((rd_p (by omega)).trans hg1)) ⟨_, hT2⟩)
        · refine j_goto (tgt := 57) dX11_minute_46 rfl ?_
          refine j_iinc 5 (nI (k + 1)) (L' := [(4, .int (nI (k + 1))), (5, .int (servS (minS Z.1 k))), (0, .ref 0), (1, .int (nI (Z.1 3 0).toNatClampNeg)), (2, .int (mnF Z.1 k).1), (3, .int (mnF Z.1 k).2)]) dX11_minute_57 rfl (inc1 k) (by decide) rfl ?_
          refine j_goto (tgt := 12) dX11_minute_60 rfl ?_
          have hb1 : (mnF Z.1 (k + 1)) = ((mnF Z.1 k).1, (mnF Z.1 k).2) := fmx_f (Or.inr (c9))
          have hb2 : (mnF Z.1 k).1 = (mnF Z.1 (k + 1)).1 := by rw [hb1]
          have hb3 : (mnF Z.1 k).2 = (mnF Z.1 (k + 1)).2 := by rw [hb1]
          refine j_L (congrArg (fun zz9 : Int32 => ([(4, .int (nI (k + 1))), (5, .int (servS (minS Z.1 k))), (0, .ref 0), (1, .int (nI (Z.1 3 0).toNatClampNeg)), (2, .int zz9), (3, .int (mnF Z.1 k).2)] : List (Nat × Value))) hb2) ?_
          refine j_L (congrArg (fun zz9 : Int32 => ([(4, .int (nI (k + 1))), (5, .int (servS (minS Z.1 k))), (0, .ref 0), (1, .int (nI (Z.1 3 0).toNatClampNeg)), (2, .int (mnF Z.1 (k + 1)).1), (3, .int zz9)] : List (Nat × Value))) hb3) ?_
          exact j_sub (jk_pick [2, 3, 4, 5, 0] rfl) (ih2 (k + 1) M7 (by omega) (by omega) smL ((Fm.rd h0L (by unfold PLk; omega)).trans ((rd_p (by omega)).trans hg1)) ⟨_, hT2⟩)
  exact j_sub (jk_pick [4, 3, 2, 1, 0] rfl) (lp3 _ 0 M (Nat.lt_succ_self _) (by omega) Fm.rf h40 ⟨Z.1 3 0, hS.trans upS_id.symm⟩)
set_option maxRecDepth 20000 in
set_option maxHeartbeats 4000000 in
theorem N_moved {d : Nat} {M : jk_M} {Z : ZS} (cv : MV M Z) (ok : Zok Z)  : J Fr_X11_moved (d + 7) 0 0 0 [(0, .ref 0)] [] M (jk_ex (some (.int (movedZ Z).1)) (fun M1 => MV M1 (movedZ Z).2)) := by
  refine j_post (fun Q hQ => ?_)
  have hM := cv.1
  have hS := cv.2.1
  have okS := ok.1
  have h40 := cv.2.2.2.2.2.2.2.2.2.2.1
  have hT16 := (Sok.T okS).2
  refine j_iconst (-1) dX11_moved_0 ic_n1 ?_
  refine j_istore_n (L' := [(1, .int (-1)), (0, .ref 0)]) dX11_moved_1 (by decide) rfl ?_
  refine j_iconst 0 dX11_moved_2 ic_0 ?_
  refine j_istore_n (L' := [(2, .int 0), (1, .int (-1)), (0, .ref 0)]) dX11_moved_3 (by decide) rfl ?_
  refine j_iconst 0 dX11_moved_4 ic_0 ?_
  refine j_istore_n (L' := [(3, .int 0), (2, .int 0), (1, .int (-1)), (0, .ref 0)]) dX11_moved_5 (by decide) rfl ?_
  have z1 : (-1 : Int32) = (awI Z.1 0).1 := rfl
  have z2 : (0 : Int32) = (awI Z.1 0).2 := rfl
  refine j_L (congrArg (fun zz9 : Int32 => ([(3, .int 0), (2, .int 0), (1, .int zz9), (0, .ref 0)] : List (Nat × Value))) z1) ?_
  refine j_L (congrArg (fun zz9 : Int32 => ([(3, .int 0), (2, .int zz9), (1, .int (awI Z.1 0).1), (0, .ref 0)] : List (Nat × Value))) z2) ?_
  have lp3 : ∀ (k1 : Nat) (t : Nat) (M1 : jk_M), nT Z.1 - t < k1 → (t ≤ nT Z.1) → (Fm PG M M1) → (mv M1.2.1 = Z.1) → J Fr_X11_moved (d + 7) 0 0 6 [(0, .ref 0), (1, .int (awI Z.1 t).1), (2, .int (awI Z.1 t).2), (3, .int (nI t))] [] M1 Q := by
    intro k1
    induction k1 with
    | zero => intro t M1 hk; exact absurd hk (Nat.not_lt_zero _)
    | succ k1 ih2 =>
      intro t M1 hk1 hk hs1 hx
      refine j_iload_n 3 dX11_moved_6 rfl ?_
      refine j_aload_n 0 dX11_moved_7 rfl ?_
      refine j_getv (nI (nT Z.1)) dX11_moved_8 fX11_123 (shM (Fm.M hs1 hM) sgM_0) rfl ((mr_T hx).trans (Sok.T okS).1) ?_
      refine j_icmp_geN (tgt := 54) t (nT Z.1) dX11_moved_11 rfl (by omega) (by omega) (fun c4 => ?_) (fun c4 => ?_)
      · refine j_aload_n 0 dX11_moved_54 rfl ?_
        refine j_iconst (-1) dX11_moved_55 ic_n1 ?_
        refine j_put dX11_moved_56 fX11_102 (shM (Fm.M hs1 hM) sgM_0) rfl ?_
        have sm5 : Fm PG M (jk_wI M1 0 40 (-1)) := Fm.w hs1 (by unfold PG PO PH PS; omega)
        refine j_iload_n 1 dX11_moved_59 rfl ?_
        refine j_iret dX11_moved_60 rfl ?_
        have e : t = nT Z.1 := by omega
        subst e
        have hz : movedZ Z = ((awI Z.1 (nT Z.1)).1, Z) := by rw [movedZ, awI_1]; rfl
        have q1 : mv (jk_wI M1 0 40 (-1)).2.1 = Z.1 := Fm.mv (P := fun q k => q = 0 ∧ k = 40) (Fm.rf.w ⟨rfl, rfl⟩) hx (fun q k h z => by have z : q = 0 ∧ k = 40 := z; unfold PH at h; omega)
        exact hQ _ _ ⟨by rw [hz], by rw [hz]; exact MV.gen cv sm5 q1 rd_s⟩
      · refine j_aload_n 0 dX11_moved_14 rfl ?_
        refine j_iload_n 3 dX11_moved_15 rfl ?_
        refine j_put dX11_moved_16 fX11_102 (shM (Fm.M hs1 hM) sgM_0) rfl ?_
        have sm6 : Fm PG M (jk_wI M1 0 40 (nI t)) := Fm.w hs1 (by unfold PG PO PH PS; omega)
        have hT : mv (jk_wI M1 0 40 (nI t)).2.1 = Z.1 := Fm.mv (P := fun q k => q = 0 ∧ k = 40) (Fm.rf.w ⟨rfl, rfl⟩) hx (fun q k h z => by have z : q = 0 ∧ k = 40 := z; unfold PH at h; omega)
        have ht : t < nT Z.1 := by omega
        refine j_aload_n 0 dX11_moved_19 rfl ?_
        refine j_callV (kc := 0) (ks := 0) (a := 0) (b := 0) (d' := (d + 3)) (As := []) dX11_moved_20 kX11_181 rfl (shM (Fm.M sm6 hM) sgM_0) (by omega) rfl rfl rfl (Nat.le_of_ble_eq_true rfl) (Nat.le_of_ble_eq_true rfl) (T_X11_looks (Fm.M sm6 hM) hT okS rd_s (GT.aw okS ht) (away_ok okS)) (kk_ev (fun M7 hM8 => ?_))
        obtain ⟨h0L, lk9⟩ := hM8
        have smL : Fm PG M M7 := Fm.tr sm6 (Fm.mo h0L PLk_G)
        have hT2 : mv M7.2.1 = Z.1 := Fm.mv h0L hT PLk_H
        refine j_aload_n 0 dX11_moved_23 rfl ?_
        refine j_callV (kc := 0) (ks := 0) (a := 0) (b := 0) (d' := (d + 6)) (As := []) dX11_moved_24 kX11_263 rfl (shM (Fm.M smL hM) sgM_0) (by omega) rfl rfl rfl (Nat.le_of_ble_eq_true rfl) (Nat.le_of_ble_eq_true rfl) (T_X11_served (Fm.M smL hM) ⟨Z.1, hT2, (GT.aw okS ht).1⟩ (away_ok okS) lk9) (kk_p ?_)
        refine j_istore (L' := [(4, .int (servS (awayS Z.1 t))), (0, .ref 0), (1, .int (awI Z.1 t).1), (2, .int (awI Z.1 t).2), (3, .int (nI t))]) dX11_moved_27 (by decide) rfl ?_
        refine j_iload_n 2 dX11_moved_29 rfl ?_
        refine j_iconst (-1) dX11_moved_30 ic_n1 ?_
        refine j_icmp_eq (tgt := 43) dX11_moved_31 rfl (fun c9 => ?_) (fun c9 => ?_)
        · refine j_iload_n 4 dX11_moved_43 rfl ?_
          refine j_istore_n (L' := [(1, .int (nI t)), (4, .int (servS (awayS Z.1 t))), (0, .ref 0), (2, .int (awI Z.1 t).2), (3, .int (nI t))]) dX11_moved_44 (by decide) rfl ?_
          refine j_iload 1 dX11_moved_45 rfl ?_
          refine j_istore_n (L' := [(2, .int (servS (awayS Z.1 t))), (1, .int (nI t)), (4, .int (servS (awayS Z.1 t))), (0, .ref 0), (3, .int (nI t))]) dX11_moved_47 (by decide) rfl ?_
          refine j_iinc 4 (nI (t + 1)) (L' := [(3, .int (nI (t + 1))), (2, .int (servS (awayS Z.1 t))), (1, .int (nI t)), (4, .int (servS (awayS Z.1 t))), (0, .ref 0)]) dX11_moved_48 rfl (inc1 t) (by decide) rfl ?_
          refine j_goto (tgt := 6) dX11_moved_51 rfl ?_
          have hb1 : (awI Z.1 (t + 1)) = ((nI t), (servS (awayS Z.1 t))) := (awI_s okS (by omega)).trans (if_pos (Or.inl c9))
          have hb2 : (nI t) = (awI Z.1 (t + 1)).1 := by rw [hb1]
          have hb3 : (servS (awayS Z.1 t)) = (awI Z.1 (t + 1)).2 := by rw [hb1]
          refine j_L (congrArg (fun zz9 : Int32 => ([(3, .int (nI (t + 1))), (2, .int (servS (awayS Z.1 t))), (1, .int zz9), (4, .int (servS (awayS Z.1 t))), (0, .ref 0)] : List (Nat × Value))) hb2) ?_
          refine j_L (congrArg (fun zz9 : Int32 => ([(3, .int (nI (t + 1))), (2, .int zz9), (1, .int (awI Z.1 (t + 1)).1), (4, .int (servS (awayS Z.1 t))), (0, .ref 0)] : List (Nat × Value))) hb3) ?_
          exact j_sub (jk_pick [4, 2, 1, 0] rfl) (ih2 (t + 1) M7 (by omega) (by omega) smL hT2)
        · refine j_iload 0 dX11_moved_34 rfl ?_
          refine j_iload_n 3 dX11_moved_36 rfl ?_
          refine j_icmp_gt (tgt := 43) dX11_moved_37 rfl (fun c10 => ?_) (fun c10 => ?_)
          · refine j_iload_n 4 dX11_moved_43 rfl ?_
            refine j_istore_n (L' := [(1, .int (nI t)), (4, .int (servS (awayS Z.1 t))), (0, .ref 0), (2, .int (awI Z.1 t).2), (3, .int (nI t))]) dX11_moved_44 (by decide) rfl ?_
            refine j_iload 1 dX11_moved_45 rfl ?_
            refine j_istore_n (L' := [(2, .int (servS (awayS Z.1 t))), (1, .int (nI t)), (4, .int (servS (awayS Z.1 t))), (0, .ref 0), (3, .int (nI t))]) dX11_moved_47 (by decide) rfl ?_
            refine j_iinc 4 (nI (t + 1)) (L' := [(3, .int (nI (t + 1))), (2, .int (servS (awayS Z.1 t))), (1, .int (nI t)), (4, .int (servS (awayS Z.1 t))), (0, .ref 0)]) dX11_moved_48 rfl (inc1 t) (by decide) rfl ?_
            refine j_goto (tgt := 6) dX11_moved_51 rfl ?_
            have hb1 : (awI Z.1 (t + 1)) = ((nI t), (servS (awayS Z.1 t))) := (awI_s okS (by omega)).trans (if_pos (Or.inr (c10)))
            have hb2 : (nI t) = (awI Z.1 (t + 1)).1 := by rw [hb1]
            have hb3 : (servS (awayS Z.1 t)) = (awI Z.1 (t + 1)).2 := by rw [hb1]
            refine j_L (congrArg (fun zz9 : Int32 => ([(3, .int (nI (t + 1))), (2, .int (servS (awayS Z.1 t))), (1, .int zz9), (4, .int (servS (awayS Z.1 t))), (0, .ref 0)] : List (Nat × Value))) hb2) ?_
            refine j_L (congrArg (fun zz9 : Int32 => ([(3, .int (nI (t + 1))), (2, .int zz9), (1, .int (awI Z.1 (t + 1)).1), (4, .int (servS (awayS Z.1 t))), (0, .ref 0)] : List (Nat × Value))) hb3) ?_
            exact j_sub (jk_pick [4, 2, 1, 0] rfl) (ih2 (t + 1) M7 (by omega) (by omega) smL hT2)
          · refine j_goto (tgt := 48) dX11_moved_40 rfl ?_
            refine j_iinc 4 (nI (t + 1)) (L' := [(3, .int (nI (t + 1))), (4, .int (servS (awayS Z.1 t))), (0, .ref 0), (1, .int (awI Z.1 t).1), (2, .int (awI Z.1 t).2)]) dX11_moved_48 rfl (inc1 t) (by decide) rfl ?_
            refine j_goto (tgt := 6) dX11_moved_51 rfl ?_
            have hb1 : (awI Z.1 (t + 1)) = ((awI Z.1 t).1, (awI Z.1 t).2) := (awI_s okS (by omega)).trans (if_neg (fun z => z.elim c9 (fun y => c10 y)))
            have hb2 : (awI Z.1 t).1 = (awI Z.1 (t + 1)).1 := by rw [hb1]
            have hb3 : (awI Z.1 t).2 = (awI Z.1 (t + 1)).2 := by rw [hb1]
            refine j_L (congrArg (fun zz9 : Int32 => ([(3, .int (nI (t + 1))), (4, .int (servS (awayS Z.1 t))), (0, .ref 0), (1, .int zz9), (2, .int (awI Z.1 t).2)] : List (Nat × Value))) hb2) ?_
            refine j_L (congrArg (fun zz9 : Int32 => ([(3, .int (nI (t + 1))), (4, .int (servS (awayS Z.1 t))), (0, .ref 0), (1, .int (awI Z.1 (t + 1)).1), (2, .int zz9)] : List (Nat × Value))) hb3) ?_
            exact j_sub (jk_pick [2, 3, 4, 0] rfl) (ih2 (t + 1) M7 (by omega) (by omega) smL hT2)
  exact j_sub (jk_pick [3, 2, 1, 0] rfl) (lp3 _ 0 M (Nat.lt_succ_self _) (by omega) Fm.rf hS)
