/-! rounds, minutes, weeks -/
def rdsS (S : HS) : Nat → Nat → Int32
  | 0 => S 14
  | k + 1 => (rnd S (rdsS S k) (nN S)).1
def rsF (S : HS) : Nat → Option Nat
  | 0 => none
  | k + 1 => match rsF S k with
    | some j => some j
    | none => if (rnd S (rdsS S k) (nN S)).2 = 0 then some k else none
def rsV (o : Option Nat) : Int32 := match o with
  | some k => nI k
  | none => -1
def restsZ (Z : ZS) : Int32 × ZS := (rsV (rsF Z.1 20), Z)
theorem rsF_y {S : HS} {k : Nat} (h : rsF S k = none) (b : (rnd S (rdsS S k) (nN S)).2 = 0) : rsF S (k + 1) = some k := by simp only [rsF, h, b, if_true]
theorem rsF_n {S : HS} {k : Nat} (h : rsF S k = none) (b : ¬ (rnd S (rdsS S k) (nN S)).2 = 0) : rsF S (k + 1) = none := by simp only [rsF, h, b, if_false]
theorem rsF_st {S : HS} {i k : Nat} (h : rsF S i = some k) : ∀ j, rsF S (i + j) = some k
  | 0 => h
  | j + 1 => by
    show (match rsF S (i + j) with | some j => some j | none => _) = _
    rw [rsF_st h j]
noncomputable def goK (Z : ZS) (n : Int32) (i : Nat) : Int32 × ZS := cif (¬ (0 ≤ n ∧ n ≤ 20)) (-6, refZ Z (-6)) (rdsS Z.1 n.toNatClampNeg i, Z)
noncomputable def goesZ (Z : ZS) (t n : Int32) : Int32 × ZS := inZ Z t (nN Z.1) (-1) (goK Z n)
noncomputable def evS (S : HS) (r : Int32) : Nat → HS
  | 0 => S
  | k + 1 => pmT (evS S r k) r (nD (evS S r k))
theorem ev_ok {S : HS} (ok : Sok S) (r : Int32) : ∀ k, Sok (evS S r k)
  | 0 => ok
  | k + 1 => pm_ok (ev_ok ok r k) r _ (Nat.le_refl _)
noncomputable def evenK (Z : ZS) (r : Int32) (n : Nat) : Int32 × ZS := (fillS (evS Z.1 r n), nowZ Z (evS Z.1 r n))
noncomputable def evenZ (Z : ZS) (n r : Int32) : Int32 × ZS := cif (¬ (1 ≤ n ∧ n ≤ 60 ∧ mayS Z.1 13 r)) (-6, refZ Z (-6)) (evenK Z r n.toNatClampNeg)
noncomputable def wk1 (S : HS) : HS := pmT (chS S) 1 (nD (chS S))
noncomputable def wkS (S : HS) : Nat → HS × Int32
  | 0 => (S, 0)
  | k + 1 => (wk1 (wkS S k).1, (wkS S k).2 + fillS (wk1 (wkS S k).1))
theorem ch_ok {S : HS} (ok : Sok S) : Sok (chS S) := by
  have o1 := ds_ok ok
  have o2 := ds_ok o1
  have o3 := ds_ok o2
  have o4 := ds_ok o3
  have n1 := ds_n (T := S)
  have n2 := ds_n (T := ds S)
  have n3 := ds_n (T := ds (ds S))
  have hs0 : (ds (ds S)) 0 0 = nI (nS (ds (ds S))) := o2.S.1
  have hs1 : (ds (ds (ds S))) 0 0 = nI (nS (ds (ds (ds S)))) := o3.S.1
  have hT := o1.T.2
  have hN := o1.N.2
  have hD := o1.D.2
  by_cases h0 : dv S 4 = 0 ∧ 0 < nD S
  · obtain ⟨k, hk, e⟩ := drawN_in (s := drawS (ds S)) (n := nD (ds S)) (by omega) (by omega)
    obtain ⟨a, ha, ea⟩ := drawN_in (s := drawS (ds (ds S))) (n := nS (ds (ds S))) (by have := o2.S.2.1; omega) (by have := o2.S.2.2; omega)
    obtain ⟨b, hb, eb⟩ := drawN_in (s := drawS (ds (ds (ds S)))) (n := nS (ds (ds (ds S)))) (by have := o3.S.2.1; omega) (by have := o3.S.2.2; omega)
    rw [ch_0 h0.1 h0.2 (k := k) (by omega) e]
    refine o4.u16 ?_
    have q2 : dv (ds (ds S)) ((ds (ds S)) 0 0) = nI a := by rw [hs0]; exact ea
    have q3 : dv (ds (ds (ds S))) ((ds (ds (ds S))) 0 0) = nI b := by rw [hs1]; exact eb
    have s2 : nS (ds (ds S)) = nS S := rfl
    have s3 : nS (ds (ds (ds S))) = nS S := rfl
    have s4 : nS (ds (ds (ds (ds S)))) = nS S := rfl
    have h8 := ok.S.2.2
    rw [q2, q3, show (10 : Int32) = nI 10 from rfl, pk_mul, nI_add]
    exact isC_of o4 (by omega) (by omega) (by omega)
  · by_cases h1 : dv S 4 = 1 ∧ 0 < nT S
    · obtain ⟨k, hk, e⟩ := drawN_in (s := drawS (ds S)) (n := nT (ds S)) (by omega) (by omega)
      rw [ch_1 h1.1 h1.2 (k := k) (by omega) e]
      refine o2.u13 ?_
      split
      · exact Or.inr rfl
      · exact Or.inl rfl
    · by_cases h2 : dv S 4 = 2 ∧ 0 < nN S
      · obtain ⟨k, hk, e⟩ := drawN_in (s := drawS (ds S)) (n := nN (ds S)) (by omega) (by omega)
        obtain ⟨a, ha, ea⟩ := drawN_in (s := drawS (ds (ds S))) (n := 13) (by omega) (by omega)
        rw [ch_2 h2.1 h2.2 (k := k) (by omega) e]
        refine o3.u14 ⟨a + 1, by omega, by omega, ?_⟩
        show 1 + drawN (drawS (ds (ds S))) 13 = _
        rw [show (13 : Int32) = nI 13 from rfl, ea, show (1 : Int32) = nI 1 from rfl, nI_add, Nat.add_comm]
      · rw [ch_3 h0 h1 h2]; exact o1
theorem wk_ok {S : HS} (ok : Sok S) : ∀ k, Sok (wkS S k).1
  | 0 => ok
  | k + 1 => pm_ok (ch_ok (wk_ok ok k)) 1 _ (Nat.le_refl _)
noncomputable def weekK (Z : ZS) (n : Nat) : Int32 × ZS := ((wkS Z.1 n).2, nowZ Z (wkS Z.1 n).1)
noncomputable def weekZ (Z : ZS) (n : Int32) : Int32 × ZS := cif (¬ (1 ≤ n ∧ n ≤ 60)) (-6, refZ Z (-6)) (weekK Z n.toNatClampNeg)
theorem n60 {n : Int32} (h : 1 ≤ n ∧ n ≤ 60) : ∃ m, 1 ≤ m ∧ m ≤ 60 ∧ n = nI m := by
  have h0 : ¬ n < 0 := by have := h.1; grind
  obtain ⟨j, hj, rfl⟩ := nI_of h0
  have h1 := h.1
  have h2 := h.2
  rw [show (1 : Int32) = nI 1 by decide, nI_leI (by decide) hj] at h1
  rw [show (60 : Int32) = nI 60 by decide, nI_leI hj (by decide)] at h2
  exact ⟨j, h1, h2, rfl⟩
theorem n60_ok {m : Nat} (h1 : 1 ≤ m) (h2 : m ≤ 60) : 1 ≤ nI m ∧ nI m ≤ 60 := ⟨by rw [show (1 : Int32) = nI 1 by decide, nI_leI (by decide) (by omega)]; exact h1, by rw [show (60 : Int32) = nI 60 by decide, nI_leI (by omega) (by decide)]; exact h2⟩
theorem PRo.Sc : ∀ q, PRo q → PSc q := fun q e => by rcases e with e | e <;> exact ⟨by omega, by omega⟩
theorem PPm.Nw : ∀ q, PPm q → PNw q := fun q e => e.imp id (PScL q)
theorem AO.Nw : ∀ q, AO 82 q → PNw q := fun q e => Or.inr (PScL q e)
theorem P86.Nw : ∀ q, q = 82 + 4 → PNw q := fun q e => Or.inr (PScA q e)
theorem HO.Nw : ∀ q, HO 1 q → PNw q := fun q e => Or.inl e
set_option maxRecDepth 20000 in
set_option maxHeartbeats 4000000 in
theorem P_rests {d : Nat} {M : jk_M} {Z : ZS} (cv : CV M Z) (ok : Zok Z)  : J Fr_X10_rests (d + 4) 0 0 0 [(0, .ref 0)] [] M (jk_ex (some (.int (restsZ Z).1)) (fun M1 => CV M1 (restsZ Z).2)) := by
  refine j_post (fun Q hQ => ?_)
  have hC := cv.1
  have hS := cv.2.1
  have okS := ok.1
  refine j_aload_n 0 dX10_rests_0 rfl ?_
  refine j_getr (q := 99) dX10_rests_1 fX10_52 (shC hC sgC_0) rfl (rfC hC rfC_0_6 (nz (by decide))) ?_
  refine j_callV (kc := 0) (ks := 0) (a := 0) (b := 0) (d' := (d + 1)) (As := []) dX10_rests_4 kX10_285 rfl (shC hC sgC_99) (by omega) rfl rfl rfl (Nat.le_of_ble_eq_true rfl) (Nat.le_of_ble_eq_true rfl) (T_X6_begin (W := Z.1 14) hC hS okS) (kk_ev (fun M1 hM2 => ?_))
  obtain ⟨h03, hr5⟩ := hM2
  have sm4 : Sm PSc M M1 := Sm.mo h03 PRo.Sc
  refine j_iconst 0 dX10_rests_7 ic_0 ?_
  refine j_istore_n (L' := [(1, .int 0), (0, .ref 0)]) dX10_rests_8 (by decide) rfl ?_
  have lp8 : ∀ (k6 : Nat) (i : Nat) (M1 : jk_M), 20 - i < k6 → (i ≤ 20) → (Sm PSc M M1) → (RoW M1 Z.1 (rdsS Z.1 i)) → (rsF Z.1 i = none) → J Fr_X10_rests (d + 4) 0 0 9 [(0, .ref 0), (1, .int (nI i))] [] M1 Q := by
    intro k6
    induction k6 with
    | zero => intro i M1 hk; exact absurd hk (Nat.not_lt_zero _)
    | succ k6 ih7 =>
      intro i M1 hk6 hi hs1 hr1 hf
      refine j_iload_n 1 dX10_rests_9 rfl ?_
      refine j_bipush 20 dX10_rests_10 bp_20 ?_
      refine j_icmp_geN (tgt := 33) i 20 dX10_rests_12 rfl (by omega) (by omega) (fun c9 => ?_) (fun c9 => ?_)
      · refine j_iconst (-1) dX10_rests_33 ic_n1 ?_
        refine j_iret dX10_rests_34 rfl ?_
        have e : i = 20 := by omega
        subst e
        exact hQ _ _ ⟨by show _ = some (Value.int (rsV (rsF Z.1 20))); rw [hf]; rfl, CV.sc cv ok (Sm.g hs1)⟩
      · refine j_aload_n 0 dX10_rests_15 rfl ?_
        refine j_getr (q := 99) dX10_rests_16 fX10_52 (shC (Sm.C hs1 hC) sgC_0) rfl (rfC (Sm.C hs1 hC) rfC_0_6 (nz (by decide))) ?_
        refine j_callV (kc := 0) (ks := 0) (a := 0) (b := 0) (d' := (d + 3)) (As := []) dX10_rests_19 kX10_286 rfl (shC (Sm.C hs1 hC) sgC_99) (by omega) rfl rfl rfl (Nat.le_of_ble_eq_true rfl) (Nat.le_of_ble_eq_true rfl) (T_X6_goOnce (Sm.C hs1 hC) (Sm.hv hs1 hS okS PScH) okS hr1) (kk_e (fun M10 hM11 => ?_))
        obtain ⟨h012, hr14⟩ := hM11
        have sm13 : Sm PSc M M10 := Sm.tr hs1 (Sm.mo h012 PRo.Sc)
        refine j_if_ne (tgt := 27) dX10_rests_22 rfl (fun c15 => ?_) (fun c15 => ?_)
        · refine j_iinc 1 (nI (i + 1)) (L' := [(1, .int (nI (i + 1))), (0, .ref 0)]) dX10_rests_27 rfl (inc1 i) (by decide) rfl ?_
          refine j_goto (tgt := 9) dX10_rests_30 rfl ?_
          exact j_sub (jk_pick [1, 0] rfl) (ih7 (i + 1) M10 (by omega) (by omega) sm13 hr14 (rsF_n hf c15))
        · refine j_iload_n 1 dX10_rests_25 rfl ?_
          refine j_iret dX10_rests_26 rfl ?_
          have hx := rsF_st (rsF_y hf c15) (20 - (i + 1))
          rw [show i + 1 + (20 - (i + 1)) = 20 by omega] at hx
          exact hQ _ _ ⟨by show _ = some (Value.int (rsV (rsF Z.1 20))); rw [hx]; rfl, CV.sc cv ok (Sm.g sm13)⟩
  exact j_sub (jk_pick [1, 0] rfl) (lp8 _ 0 M1 (Nat.lt_succ_self _) (by omega) sm4 hr5 rfl)
set_option maxRecDepth 20000 in
set_option maxHeartbeats 4000000 in
theorem P_goes0 {d : Nat} {M : jk_M} {Z : ZS} (cv : CV M Z) (ok : Zok Z) (j : Nat) (hj : j < nN Z.1) (n : Int32) (h1 : ¬ (0 ≤ n ∧ n ≤ 20)) : J Fr_X10_goesTo (d + 4) 0 0 0 [(0, .ref 0), (1, .int (nI j)), (2, .int n)] [] M (jk_ex (some (.int (goK Z n j).1)) (fun M1 => CV M1 (goK Z n j).2)) := by
  refine j_post (fun Q hQ => ?_)
  have hC := cv.1
  have hS := cv.2.1
  have okS := ok.1
  have hN := (Sok.N okS).2
  have e20 : nI 20 = (20 : Int32) := by decide
  refine j_iload_n 1 dX10_goesTo_0 rfl ?_
  refine j_if_ltN (tgt := 15) j dX10_goesTo_1 (by omega) rfl ?_
  refine j_iload_n 1 dX10_goesTo_4 rfl ?_
  refine j_aload_n 0 dX10_goesTo_5 rfl ?_
  refine j_getr (q := 1) dX10_goesTo_6 fX10_10 (shC hC sgC_0) rfl (rfC hC rfC_0_0 (nz (by decide))) ?_
  refine j_getv (nI (nN Z.1)) dX10_goesTo_9 fX10_188 (shC hC (sgH (by simp [isH]))) rfl ((hvs hS (by decide)).trans (Sok.N okS).1) ?_
  refine j_icmp_ltN (tgt := 21) j (nN Z.1) dX10_goesTo_12 rfl (by omega) (by omega) (fun c2 => ?_) (fun c2 => ?_)
  · refine j_iload_n 2 dX10_goesTo_21 rfl ?_
    refine j_if_lt (tgt := 31) dX10_goesTo_22 rfl (fun c3 => ?_) (fun c3 => ?_)
    · refine j_aload_n 0 dX10_goesTo_31 rfl ?_
      refine j_bipush (-6) dX10_goesTo_32 bp_n6 ?_
      refine j_callV (kc := 0) (ks := 0) (a := 0) (b := 0) (d' := d) (As := [.int (-6)]) dX10_goesTo_34 kX10_93 rfl (shC hC sgC_0) (by omega) rfl rfl rfl (Nat.le_of_ble_eq_true rfl) (Nat.le_of_ble_eq_true rfl) (T_X10_refuse hC (-6)) (kk_p ?_)
      refine j_iret dX10_goesTo_37 rfl ?_
      have hz : goK Z n j = ((-6), (refZ Z (-6))) := by
        clear hQ
        clear cv hC hS
        grind [goK, cif]
      exact hQ _ _ ⟨by rw [hz], by rw [hz]; exact CV.rf cv ok (-6)⟩
    · refine j_iload_n 2 dX10_goesTo_25 rfl ?_
      refine j_bipush 20 dX10_goesTo_26 bp_20 ?_
      refine j_icmp_le (tgt := 38) dX10_goesTo_28 rfl (fun c4 => ?_) (fun c4 => ?_)
      · exact absurd (show 0 ≤ n ∧ n ≤ 20 by clear hQ; grind) h1
      · refine j_aload_n 0 dX10_goesTo_31 rfl ?_
        refine j_bipush (-6) dX10_goesTo_32 bp_n6 ?_
        refine j_callV (kc := 0) (ks := 0) (a := 0) (b := 0) (d' := d) (As := [.int (-6)]) dX10_goesTo_34 kX10_93 rfl (shC hC sgC_0) (by omega) rfl rfl rfl (Nat.le_of_ble_eq_true rfl) (Nat.le_of_ble_eq_true rfl) (T_X10_refuse hC (-6)) (kk_p ?_)
        refine j_iret dX10_goesTo_37 rfl ?_
        have hz : goK Z n j = ((-6), (refZ Z (-6))) := by
          clear hQ
          clear cv hC hS
          grind [goK, cif]
        exact hQ _ _ ⟨by rw [hz], by rw [hz]; exact CV.rf cv ok (-6)⟩
  · exact absurd c2 (by omega)
set_option maxRecDepth 20000 in
set_option maxHeartbeats 4000000 in
theorem P_goes1 {d : Nat} {M : jk_M} {Z : ZS} (cv : CV M Z) (ok : Zok Z) (j : Nat) (hj : j < nN Z.1) (m : Nat) (hm : m ≤ 20) : J Fr_X10_goesTo (d + 4) 0 0 0 [(0, .ref 0), (1, .int (nI j)), (2, .int (nI m))] [] M (jk_ex (some (.int (goK Z (nI m) j).1)) (fun M1 => CV M1 (goK Z (nI m) j).2)) := by
  refine j_post (fun Q hQ => ?_)
  have hC := cv.1
  have hS := cv.2.1
  have okS := ok.1
  have hN := (Sok.N okS).2
  refine j_iload_n 1 dX10_goesTo_0 rfl ?_
  refine j_if_ltN (tgt := 15) j dX10_goesTo_1 (by omega) rfl ?_
  refine j_iload_n 1 dX10_goesTo_4 rfl ?_
  refine j_aload_n 0 dX10_goesTo_5 rfl ?_
  refine j_getr (q := 1) dX10_goesTo_6 fX10_10 (shC hC sgC_0) rfl (rfC hC rfC_0_0 (nz (by decide))) ?_
  refine j_getv (nI (nN Z.1)) dX10_goesTo_9 fX10_188 (shC hC (sgH (by simp [isH]))) rfl ((hvs hS (by decide)).trans (Sok.N okS).1) ?_
  refine j_icmp_ltN (tgt := 21) j (nN Z.1) dX10_goesTo_12 rfl (by omega) (by omega) (fun c2 => ?_) (fun c2 => ?_)
  · refine j_iload_n 2 dX10_goesTo_21 rfl ?_
    refine j_if_ltN (tgt := 31) m dX10_goesTo_22 (by omega) rfl ?_
    refine j_iload_n 2 dX10_goesTo_25 rfl ?_
    refine j_bipush 20 dX10_goesTo_26 bp_20 ?_
    refine j_icmp_leN (tgt := 38) m 20 dX10_goesTo_28 rfl (by omega) (by omega) (fun c4 => ?_) (fun c4 => ?_)
    · refine j_aload_n 0 dX10_goesTo_38 rfl ?_
      refine j_getr (q := 99) dX10_goesTo_39 fX10_52 (shC hC sgC_0) rfl (rfC hC rfC_0_6 (nz (by decide))) ?_
      refine j_callV (kc := 0) (ks := 0) (a := 0) (b := 0) (d' := (d + 1)) (As := []) dX10_goesTo_42 kX10_285 rfl (shC hC sgC_99) (by omega) rfl rfl rfl (Nat.le_of_ble_eq_true rfl) (Nat.le_of_ble_eq_true rfl) (T_X6_begin (W := Z.1 14) hC hS okS) (kk_ev (fun M5 hM6 => ?_))
      obtain ⟨h07, hr9⟩ := hM6
      have sm8 : Sm PSc M M5 := Sm.mo h07 PRo.Sc
      refine j_iconst 0 dX10_goesTo_45 ic_0 ?_
      refine j_istore_n (L' := [(3, .int 0), (0, .ref 0), (1, .int (nI j)), (2, .int (nI m))]) dX10_goesTo_46 (by decide) rfl ?_
      have lp12 : ∀ (k10 : Nat) (i : Nat) (M1 : jk_M), m - i < k10 → (i ≤ m) → (Sm PSc M M1) → (RoW M1 Z.1 (rdsS Z.1 i)) → J Fr_X10_goesTo (d + 4) 0 0 47 [(0, .ref 0), (1, .int (nI j)), (2, .int (nI m)), (3, .int (nI i))] [] M1 Q := by
        intro k10
        induction k10 with
        | zero => intro i M1 hk; exact absurd hk (Nat.not_lt_zero _)
        | succ k10 ih11 =>
          intro i M1 hk10 hi hs1 hr1
          refine j_iload_n 3 dX10_goesTo_47 rfl ?_
          refine j_iload_n 2 dX10_goesTo_48 rfl ?_
          refine j_icmp_geN (tgt := 66) i m dX10_goesTo_49 rfl (by omega) (by omega) (fun c13 => ?_) (fun c13 => ?_)
          · refine j_aload_n 0 dX10_goesTo_66 rfl ?_
            refine j_getr (q := 99) dX10_goesTo_67 fX10_52 (shC (Sm.C hs1 hC) sgC_0) rfl (rfC (Sm.C hs1 hC) rfC_0_6 (nz (by decide))) ?_
            refine j_iload_n 1 dX10_goesTo_70 rfl ?_
            refine j_callV (kc := 0) (ks := 0) (a := 0) (b := 0) (d' := d) (As := [.int (nI j)]) dX10_goesTo_71 kX10_289 rfl (shC (Sm.C hs1 hC) sgC_99) (by omega) rfl rfl rfl (Nat.le_of_ble_eq_true rfl) (Nat.le_of_ble_eq_true rfl) (T_X6_channelAt (Sm.C hs1 hC) (Sm.hv hs1 hS okS PScH) okS hr1 j (by omega)) (kk_p ?_)
            refine j_iret dX10_goesTo_74 rfl ?_
            have e : i = m := by omega
            subst e
            have hz : goK Z (nI i) j = (rdsS Z.1 i j, Z) := by
              rw [goK, cif_f (fun z => z ⟨nI_pos' (by omega), by rw [show (20 : Int32) = nI 20 by decide, nI_leI (by omega) (by decide)]; exact hm⟩), nI_clamp (by omega)]
            exact hQ _ _ ⟨by rw [hz], by rw [hz]; exact CV.sc cv ok (Sm.g hs1)⟩
          · refine j_aload_n 0 dX10_goesTo_52 rfl ?_
            refine j_getr (q := 99) dX10_goesTo_53 fX10_52 (shC (Sm.C hs1 hC) sgC_0) rfl (rfC (Sm.C hs1 hC) rfC_0_6 (nz (by decide))) ?_
            refine j_callV (kc := 0) (ks := 0) (a := 0) (b := 0) (d' := (d + 3)) (As := []) dX10_goesTo_56 kX10_286 rfl (shC (Sm.C hs1 hC) sgC_99) (by omega) rfl rfl rfl (Nat.le_of_ble_eq_true rfl) (Nat.le_of_ble_eq_true rfl) (T_X6_goOnce (Sm.C hs1 hC) (Sm.hv hs1 hS okS PScH) okS hr1) (kk_e (fun M14 hM15 => ?_))
            obtain ⟨h016, hr18⟩ := hM15
            have sm17 : Sm PSc M M14 := Sm.tr hs1 (Sm.mo h016 PRo.Sc)
            refine j_pop dX10_goesTo_59 rfl ?_
            refine j_iinc 3 (nI (i + 1)) (L' := [(3, .int (nI (i + 1))), (0, .ref 0), (1, .int (nI j)), (2, .int (nI m))]) dX10_goesTo_60 rfl (inc1 i) (by decide) rfl ?_
            refine j_goto (tgt := 47) dX10_goesTo_63 rfl ?_
            exact j_sub (jk_pick [1, 2, 3, 0] rfl) (ih11 (i + 1) M14 (by omega) (by omega) sm17 hr18)
      exact j_sub (jk_pick [1, 2, 3, 0] rfl) (lp12 _ 0 M5 (Nat.lt_succ_self _) (by omega) sm8 hr9)
    · refine j_aload_n 0 dX10_goesTo_31 rfl ?_
      refine j_bipush (-6) dX10_goesTo_32 bp_n6 ?_
      refine j_callV (kc := 0) (ks := 0) (a := 0) (b := 0) (d' := d) (As := [.int (-6)]) dX10_goesTo_34 kX10_93 rfl (shC hC sgC_0) (by omega) rfl rfl rfl (Nat.le_of_ble_eq_true rfl) (Nat.le_of_ble_eq_true rfl) (T_X10_refuse hC (-6)) (kk_p ?_)
      refine j_iret dX10_goesTo_37 rfl ?_
      exfalso; omega
  · refine j_aload_n 0 dX10_goesTo_15 rfl ?_
    refine j_iconst (-1) dX10_goesTo_16 ic_n1 ?_
    refine j_callV (kc := 0) (ks := 0) (a := 0) (b := 0) (d' := d) (As := [.int (-1)]) dX10_goesTo_17 kX10_93 rfl (shC hC sgC_0) (by omega) rfl rfl rfl (Nat.le_of_ble_eq_true rfl) (Nat.le_of_ble_eq_true rfl) (T_X10_refuse hC (-1)) (kk_p ?_)
    refine j_iret dX10_goesTo_20 rfl ?_
    exfalso; omega
set_option maxRecDepth 20000 in
set_option maxHeartbeats 4000000 in
theorem P_goesN {d : Nat} {M : jk_M} {Z : ZS} (cv : CV M Z) (ok : Zok Z) (t n : Int32) (hx : ¬ (0 ≤ t ∧ t < nI (nN Z.1))) : J Fr_X10_goesTo (d + 4) 0 0 0 [(0, .ref 0), (1, .int t), (2, .int n)] [] M (jk_ex (some (.int (((-1 : Int32), refZ Z (-1))).1)) (fun M1 => CV M1 (((-1 : Int32), refZ Z (-1))).2)) := by
  refine j_post (fun Q hQ => ?_)
  have hC := cv.1
  have hS := cv.2.1
  have okS := ok.1
  refine j_iload_n 1 dX10_goesTo_0 rfl ?_
  refine j_if_lt (tgt := 15) dX10_goesTo_1 rfl (fun c1 => ?_) (fun c1 => ?_)
  · refine j_aload_n 0 dX10_goesTo_15 rfl ?_
    refine j_iconst (-1) dX10_goesTo_16 ic_n1 ?_
    refine j_callV (kc := 0) (ks := 0) (a := 0) (b := 0) (d' := d) (As := [.int (-1)]) dX10_goesTo_17 kX10_93 rfl (shC hC sgC_0) (by omega) rfl rfl rfl (Nat.le_of_ble_eq_true rfl) (Nat.le_of_ble_eq_true rfl) (T_X10_refuse hC (-1)) (kk_p ?_)
    refine j_iret dX10_goesTo_20 rfl ?_
    exact hQ _ _ ⟨rfl, CV.rf cv ok (-1)⟩
  · refine j_iload_n 1 dX10_goesTo_4 rfl ?_
    refine j_aload_n 0 dX10_goesTo_5 rfl ?_
    refine j_getr (q := 1) dX10_goesTo_6 fX10_10 (shC hC sgC_0) rfl (rfC hC rfC_0_0 (nz (by decide))) ?_
    refine j_getv (nI (nN Z.1)) dX10_goesTo_9 fX10_188 (shC hC (sgH (by simp [isH]))) rfl ((hvs hS (by decide)).trans (Sok.N okS).1) ?_
    refine j_icmp_lt (tgt := 21) dX10_goesTo_12 rfl (fun c2 => ?_) (fun c2 => ?_)
    · exact absurd (show 0 ≤ t ∧ t < nI (nN Z.1) by clear hQ; grind) hx
    · refine j_aload_n 0 dX10_goesTo_15 rfl ?_
      refine j_iconst (-1) dX10_goesTo_16 ic_n1 ?_
      refine j_callV (kc := 0) (ks := 0) (a := 0) (b := 0) (d' := d) (As := [.int (-1)]) dX10_goesTo_17 kX10_93 rfl (shC hC sgC_0) (by omega) rfl rfl rfl (Nat.le_of_ble_eq_true rfl) (Nat.le_of_ble_eq_true rfl) (T_X10_refuse hC (-1)) (kk_p ?_)
      refine j_iret dX10_goesTo_20 rfl ?_
      exact hQ _ _ ⟨rfl, CV.rf cv ok (-1)⟩
theorem P_goesTo {d : Nat} {M : jk_M} {Z : ZS} (cv : CV M Z) (ok : Zok Z) (t n : Int32) : J Fr_X10_goesTo (d + 4) 0 0 0 [(0, .ref 0), (1, .int t), (2, .int n)] [] M (jk_ex (some (.int (goesZ Z t n).1)) (fun M1 => CV M1 (goesZ Z t n).2)) := by
  by_cases h : 0 ≤ t ∧ t < nI (nN Z.1)
  · have hn : nN Z.1 < 2 ^ 31 := by have := (Sok.N ok.1).2; omega
    obtain ⟨k, hk, rfl⟩ := i_in hn h
    rw [goesZ, inZ_y hk hn]
    by_cases h1 : 0 ≤ n ∧ n ≤ 20
    · obtain ⟨m, hm, rfl⟩ := nI_of (Int32.not_lt.mpr h1.1)
      have h2 := h1.2
      rw [show (20 : Int32) = nI 20 by decide, nI_leI hm (by decide)] at h2
      exact P_goes1 cv ok k hk m h2
    · exact P_goes0 cv ok k hk n h1
  · rw [goesZ, inZ_n h]
    exact P_goesN cv ok t n h
set_option maxRecDepth 20000 in
set_option maxHeartbeats 4000000 in
theorem P_even0 {d : Nat} {M : jk_M} {Z : ZS} (cv : CV M Z) (ok : Zok Z) (n r : Int32) (h1 : ¬ (1 ≤ n ∧ n ≤ 60 ∧ mayS Z.1 13 r)) : J Fr_X10_evening (d + 7) 0 0 0 [(0, .ref 0), (1, .int n), (2, .int r)] [] M (jk_ex (some (.int (((-6 : Int32), refZ Z (-6))).1)) (fun M1 => CV M1 (((-6 : Int32), refZ Z (-6))).2)) := by
  refine j_post (fun Q hQ => ?_)
  have hC := cv.1
  have hS := cv.2.1
  have okS := ok.1
  refine j_iload_n 1 dX10_evening_0 rfl ?_
  refine j_iconst 1 dX10_evening_1 ic_1 ?_
  refine j_icmp_lt (tgt := 24) dX10_evening_2 rfl (fun c1 => ?_) (fun c1 => ?_)
  · refine j_aload_n 0 dX10_evening_24 rfl ?_
    refine j_bipush (-6) dX10_evening_25 bp_n6 ?_
    refine j_callV (kc := 0) (ks := 0) (a := 0) (b := 0) (d' := d) (As := [.int (-6)]) dX10_evening_27 kX10_93 rfl (shC hC sgC_0) (by omega) rfl rfl rfl (Nat.le_of_ble_eq_true rfl) (Nat.le_of_ble_eq_true rfl) (T_X10_refuse hC (-6)) (kk_p ?_)
    refine j_iret dX10_evening_30 rfl ?_
    exact hQ _ _ ⟨rfl, CV.rf cv ok (-6)⟩
  · refine j_iload_n 1 dX10_evening_5 rfl ?_
    refine j_bipush 60 dX10_evening_6 bp_60 ?_
    refine j_icmp_gt (tgt := 24) dX10_evening_8 rfl (fun c2 => ?_) (fun c2 => ?_)
    · refine j_aload_n 0 dX10_evening_24 rfl ?_
      refine j_bipush (-6) dX10_evening_25 bp_n6 ?_
      refine j_callV (kc := 0) (ks := 0) (a := 0) (b := 0) (d' := d) (As := [.int (-6)]) dX10_evening_27 kX10_93 rfl (shC hC sgC_0) (by omega) rfl rfl rfl (Nat.le_of_ble_eq_true rfl) (Nat.le_of_ble_eq_true rfl) (T_X10_refuse hC (-6)) (kk_p ?_)
      refine j_iret dX10_evening_30 rfl ?_
      exact hQ _ _ ⟨rfl, CV.rf cv ok (-6)⟩
    · refine j_aload_n 0 dX10_evening_11 rfl ?_
      refine j_getr (q := 1) dX10_evening_12 fX10_10 (shC hC sgC_0) rfl (rfC hC rfC_0_0 (nz (by decide))) ?_
      refine j_bipush 13 dX10_evening_15 bp_13 ?_
      refine j_iload_n 2 dX10_evening_17 rfl ?_
      refine j_callV (kc := 0) (ks := 0) (a := 0) (b := 0) (d' := (d + 1)) (As := [.int 13, .int r]) dX10_evening_18 kX10_150 rfl (shC hC (sgH (by simp [isH]))) (by omega) rfl rfl rfl (Nat.le_of_ble_eq_true rfl) (Nat.le_of_ble_eq_true rfl) (T_X2_may hC (by simp [isH]) hS okS 13 r) (kk_p ?_)
      refine j_if_neB (p := (mayS Z.1 13 r)) (tgt := 31) dX10_evening_21 rfl (fun c3 => ?_) (fun c3 => ?_)
      · exact absurd (show 1 ≤ n ∧ n ≤ 60 ∧ mayS Z.1 13 r by clear hQ; grind) h1
      · refine j_aload_n 0 dX10_evening_24 rfl ?_
        refine j_bipush (-6) dX10_evening_25 bp_n6 ?_
        refine j_callV (kc := 0) (ks := 0) (a := 0) (b := 0) (d' := d) (As := [.int (-6)]) dX10_evening_27 kX10_93 rfl (shC hC sgC_0) (by omega) rfl rfl rfl (Nat.le_of_ble_eq_true rfl) (Nat.le_of_ble_eq_true rfl) (T_X10_refuse hC (-6)) (kk_p ?_)
        refine j_iret dX10_evening_30 rfl ?_
        exact hQ _ _ ⟨rfl, CV.rf cv ok (-6)⟩
set_option maxRecDepth 20000 in
set_option maxHeartbeats 4000000 in
theorem P_even1 {d : Nat} {M : jk_M} {Z : ZS} (cv : CV M Z) (ok : Zok Z) (m : Nat) (hm1 : 1 ≤ m) (hm : m ≤ 60) (r : Int32) (hr : mayS Z.1 13 r) : J Fr_X10_evening (d + 7) 0 0 0 [(0, .ref 0), (1, .int (nI m)), (2, .int r)] [] M (jk_ex (some (.int (evenK Z r m).1)) (fun M1 => CV M1 (evenK Z r m).2)) := by
  refine j_post (fun Q hQ => ?_)
  have hC := cv.1
  have hS := cv.2.1
  have okS := ok.1
  refine j_iload_n 1 dX10_evening_0 rfl ?_
  refine j_iconst 1 dX10_evening_1 ic_1 ?_
  refine j_icmp_ltN (tgt := 24) m 1 dX10_evening_2 rfl (by omega) (by omega) (fun c1 => ?_) (fun c1 => ?_)
  · refine j_aload_n 0 dX10_evening_24 rfl ?_
    refine j_bipush (-6) dX10_evening_25 bp_n6 ?_
    refine j_callV (kc := 0) (ks := 0) (a := 0) (b := 0) (d' := d) (As := [.int (-6)]) dX10_evening_27 kX10_93 rfl (shC hC sgC_0) (by omega) rfl rfl rfl (Nat.le_of_ble_eq_true rfl) (Nat.le_of_ble_eq_true rfl) (T_X10_refuse hC (-6)) (kk_p ?_)
    refine j_iret dX10_evening_30 rfl ?_
    exfalso; omega
  · refine j_iload_n 1 dX10_evening_5 rfl ?_
    refine j_bipush 60 dX10_evening_6 bp_60 ?_
    refine j_icmp_gtN (tgt := 24) m 60 dX10_evening_8 rfl (by omega) (by omega) (fun c2 => ?_) (fun c2 => ?_)
    · refine j_aload_n 0 dX10_evening_24 rfl ?_
      refine j_bipush (-6) dX10_evening_25 bp_n6 ?_
      refine j_callV (kc := 0) (ks := 0) (a := 0) (b := 0) (d' := d) (As := [.int (-6)]) dX10_evening_27 kX10_93 rfl (shC hC sgC_0) (by omega) rfl rfl rfl (Nat.le_of_ble_eq_true rfl) (Nat.le_of_ble_eq_true rfl) (T_X10_refuse hC (-6)) (kk_p ?_)
      refine j_iret dX10_evening_30 rfl ?_
      exfalso; omega
    · refine j_aload_n 0 dX10_evening_11 rfl ?_
      refine j_getr (q := 1) dX10_evening_12 fX10_10 (shC hC sgC_0) rfl (rfC hC rfC_0_0 (nz (by decide))) ?_
      refine j_bipush 13 dX10_evening_15 bp_13 ?_
      refine j_iload_n 2 dX10_evening_17 rfl ?_
      refine j_callV (kc := 0) (ks := 0) (a := 0) (b := 0) (d' := (d + 1)) (As := [.int 13, .int r]) dX10_evening_18 kX10_150 rfl (shC hC (sgH (by simp [isH]))) (by omega) rfl rfl rfl (Nat.le_of_ble_eq_true rfl) (Nat.le_of_ble_eq_true rfl) (T_X2_may hC (by simp [isH]) hS okS 13 r) (kk_p ?_)
      refine j_if_neB (p := (mayS Z.1 13 r)) (tgt := 31) dX10_evening_21 rfl (fun c3 => ?_) (fun c3 => ?_)
      · refine j_aload_n 0 dX10_evening_31 rfl ?_
        refine j_getr (q := 82) dX10_evening_32 fX10_27 (shC hC sgC_0) rfl (rfC hC rfC_0_3 (nz (by decide))) ?_
        refine j_callV (kc := 0) (ks := 0) (a := 0) (b := 0) (d' := (d + 2)) (As := []) dX10_evening_35 kX10_222 rfl (shC hC (sgA isA82)) (by omega) rfl rfl rfl (Nat.le_of_ble_eq_true rfl) (Nat.le_of_ble_eq_true rfl) (T_X0_lay hC isA82 hS okS) (kk_ev (fun M4 hM5 => ?_))
        obtain ⟨h06, ha9, -⟩ := hM5
        have sm7 : Sm PNw M M4 := Sm.mo h06 AO.Nw
        have hv8 := Sm.hv h06 hS okS HO1AO
        refine j_iconst 0 dX10_evening_38 ic_0 ?_
        refine j_istore_n (L' := [(3, .int 0), (0, .ref 0), (1, .int (nI m)), (2, .int r)]) dX10_evening_39 (by decide) rfl ?_
        have lp12 : ∀ (k10 : Nat) (i : Nat) (M1 : jk_M), m - i < k10 → (i ≤ m) → (Sm PNw M M1) → (hv M1.2.1 1 = evS Z.1 r i) → (AirOK 82 (evS Z.1 r i) M1) → J Fr_X10_evening (d + 7) 0 0 40 [(0, .ref 0), (1, .int (nI m)), (2, .int r), (3, .int (nI i))] [] M1 Q := by
          intro k10
          induction k10 with
          | zero => intro i M1 hk; exact absurd hk (Nat.not_lt_zero _)
          | succ k10 ih11 =>
            intro i M1 hk10 hi hs1 hd1 ha1
            refine j_iload_n 3 dX10_evening_40 rfl ?_
            refine j_iload_n 1 dX10_evening_41 rfl ?_
            refine j_icmp_geN (tgt := 56) i m dX10_evening_42 rfl (by omega) (by omega) (fun c13 => ?_) (fun c13 => ?_)
            · refine j_aload_n 0 dX10_evening_56 rfl ?_
              refine j_getr (q := 82) dX10_evening_57 fX10_27 (shC (Sm.C hs1 hC) sgC_0) rfl (rfC (Sm.C hs1 hC) rfC_0_3 (nz (by decide))) ?_
              refine j_callV (kc := 0) (ks := 0) (a := 0) (b := 0) (d' := (d + 6)) (As := []) dX10_evening_60 kX10_270 rfl (shC (Sm.C hs1 hC) (sgA isA82)) (by omega) rfl rfl rfl (Nat.le_of_ble_eq_true rfl) (Nat.le_of_ble_eq_true rfl) (T_X0_filledNow (Sm.C hs1 hC) isA82 hd1 (ev_ok okS r i) ha1) (kk_e (fun M14 hM15 => ?_))
              obtain ⟨h016, ha19⟩ := hM15
              have sm17 : Sm PNw M M14 := Sm.tr hs1 (Sm.mo h016 P86.Nw)
              have hv18 := Sm.hv h016 hd1 (ev_ok okS r i) HO1h
              refine j_iret dX10_evening_63 rfl ?_
              have e : i = m := by omega
              subst e
              exact hQ _ _ ⟨rfl, CV.now cv ok (Sm.g sm17) hv18⟩
            · refine j_aload_n 0 dX10_evening_45 rfl ?_
              refine j_iload_n 2 dX10_evening_46 rfl ?_
              refine j_callV (kc := 0) (ks := 0) (a := 0) (b := 0) (d' := (d + 5)) (As := [.int r]) dX10_evening_47 kX10_343 rfl (shC (Sm.C hs1 hC) sgC_0) (by omega) rfl rfl rfl (Nat.le_of_ble_eq_true rfl) (Nat.le_of_ble_eq_true rfl) (T_X10_passMinute (Sm.C hs1 hC) hd1 (ev_ok okS r i) ha1 r) (kk_ev (fun M20 hM21 => ?_))
              obtain ⟨h022, hv24, ha25⟩ := hM21
              have sm23 : Sm PNw M M20 := Sm.tr hs1 (Sm.mo h022 PPm.Nw)
              refine j_iinc 3 (nI (i + 1)) (L' := [(3, .int (nI (i + 1))), (0, .ref 0), (1, .int (nI m)), (2, .int r)]) dX10_evening_50 rfl (inc1 i) (by decide) rfl ?_
              refine j_goto (tgt := 40) dX10_evening_53 rfl ?_
              exact j_sub (jk_pick [1, 2, 3, 0] rfl) (ih11 (i + 1) M20 (by omega) (by omega) sm23 hv24 ha25)
        exact j_sub (jk_pick [1, 2, 3, 0] rfl) (lp12 _ 0 M4 (Nat.lt_succ_self _) (by omega) sm7 hv8 ha9)
      · exact absurd hr c3
theorem P_evening {d : Nat} {M : jk_M} {Z : ZS} (cv : CV M Z) (ok : Zok Z) (n r : Int32) : J Fr_X10_evening (d + 7) 0 0 0 [(0, .ref 0), (1, .int n), (2, .int r)] [] M (jk_ex (some (.int (evenZ Z n r).1)) (fun M1 => CV M1 (evenZ Z n r).2)) := by
  by_cases h : 1 ≤ n ∧ n ≤ 60 ∧ mayS Z.1 13 r
  · obtain ⟨m, h1, h2, rfl⟩ := n60 ⟨h.1, h.2.1⟩
    rw [evenZ, cif_f (fun z => z h), nI_clamp (by omega)]
    exact P_even1 cv ok m h1 h2 r h.2.2
  · rw [evenZ, cif_t h]
    exact P_even0 cv ok n r h
set_option maxRecDepth 20000 in
set_option maxHeartbeats 4000000 in
theorem P_week0 {d : Nat} {M : jk_M} {Z : ZS} (cv : CV M Z) (ok : Zok Z) (n : Int32) (h1 : ¬ (1 ≤ n ∧ n ≤ 60)) : J Fr_X10_weeks (d + 7) 0 0 0 [(0, .ref 0), (1, .int n)] [] M (jk_ex (some (.int (((-6 : Int32), refZ Z (-6))).1)) (fun M1 => CV M1 (((-6 : Int32), refZ Z (-6))).2)) := by
  refine j_post (fun Q hQ => ?_)
  have hC := cv.1
  have hS := cv.2.1
  have okS := ok.1
  refine j_iload_n 1 dX10_weeks_0 rfl ?_
  refine j_iconst 1 dX10_weeks_1 ic_1 ?_
  refine j_icmp_lt (tgt := 11) dX10_weeks_2 rfl (fun c1 => ?_) (fun c1 => ?_)
  · refine j_aload_n 0 dX10_weeks_11 rfl ?_
    refine j_bipush (-6) dX10_weeks_12 bp_n6 ?_
    refine j_callV (kc := 0) (ks := 0) (a := 0) (b := 0) (d' := d) (As := [.int (-6)]) dX10_weeks_14 kX10_93 rfl (shC hC sgC_0) (by omega) rfl rfl rfl (Nat.le_of_ble_eq_true rfl) (Nat.le_of_ble_eq_true rfl) (T_X10_refuse hC (-6)) (kk_p ?_)
    refine j_iret dX10_weeks_17 rfl ?_
    exact hQ _ _ ⟨rfl, CV.rf cv ok (-6)⟩
  · refine j_iload_n 1 dX10_weeks_5 rfl ?_
    refine j_bipush 60 dX10_weeks_6 bp_60 ?_
    refine j_icmp_le (tgt := 18) dX10_weeks_8 rfl (fun c2 => ?_) (fun c2 => ?_)
    · exact absurd (show 1 ≤ n ∧ n ≤ 60 by clear hQ; grind) h1
    · refine j_aload_n 0 dX10_weeks_11 rfl ?_
      refine j_bipush (-6) dX10_weeks_12 bp_n6 ?_
      refine j_callV (kc := 0) (ks := 0) (a := 0) (b := 0) (d' := d) (As := [.int (-6)]) dX10_weeks_14 kX10_93 rfl (shC hC sgC_0) (by omega) rfl rfl rfl (Nat.le_of_ble_eq_true rfl) (Nat.le_of_ble_eq_true rfl) (T_X10_refuse hC (-6)) (kk_p ?_)
      refine j_iret dX10_weeks_17 rfl ?_
      exact hQ _ _ ⟨rfl, CV.rf cv ok (-6)⟩
set_option maxRecDepth 20000 in
set_option maxHeartbeats 4000000 in
theorem P_week1 {d : Nat} {M : jk_M} {Z : ZS} (cv : CV M Z) (ok : Zok Z) (m : Nat) (hm1 : 1 ≤ m) (hm : m ≤ 60) : J Fr_X10_weeks (d + 7) 0 0 0 [(0, .ref 0), (1, .int (nI m))] [] M (jk_ex (some (.int (weekK Z m).1)) (fun M1 => CV M1 (weekK Z m).2)) := by
  refine j_post (fun Q hQ => ?_)
  have hC := cv.1
  have hS := cv.2.1
  have okS := ok.1
  refine j_iload_n 1 dX10_weeks_0 rfl ?_
  refine j_iconst 1 dX10_weeks_1 ic_1 ?_
  refine j_icmp_ltN (tgt := 11) m 1 dX10_weeks_2 rfl (by omega) (by omega) (fun c1 => ?_) (fun c1 => ?_)
  · refine j_aload_n 0 dX10_weeks_11 rfl ?_
    refine j_bipush (-6) dX10_weeks_12 bp_n6 ?_
    refine j_callV (kc := 0) (ks := 0) (a := 0) (b := 0) (d' := d) (As := [.int (-6)]) dX10_weeks_14 kX10_93 rfl (shC hC sgC_0) (by omega) rfl rfl rfl (Nat.le_of_ble_eq_true rfl) (Nat.le_of_ble_eq_true rfl) (T_X10_refuse hC (-6)) (kk_p ?_)
    refine j_iret dX10_weeks_17 rfl ?_
    exfalso; omega
  · refine j_iload_n 1 dX10_weeks_5 rfl ?_
    refine j_bipush 60 dX10_weeks_6 bp_60 ?_
    refine j_icmp_leN (tgt := 18) m 60 dX10_weeks_8 rfl (by omega) (by omega) (fun c2 => ?_) (fun c2 => ?_)
    · refine j_iconst 0 dX10_weeks_18 ic_0 ?_
      refine j_istore_n (L' := [(2, .int 0), (0, .ref 0), (1, .int (nI m))]) dX10_weeks_19 (by decide) rfl ?_
      refine j_iconst 0 dX10_weeks_20 ic_0 ?_
      refine j_istore_n (L' := [(3, .int 0), (2, .int 0), (0, .ref 0), (1, .int (nI m))]) dX10_weeks_21 (by decide) rfl ?_
      have lp5 : ∀ (k3 : Nat) (i : Nat) (M1 : jk_M), m - i < k3 → (i ≤ m) → (Sm PNw M M1) → (hv M1.2.1 1 = (wkS Z.1 i).1) → J Fr_X10_weeks (d + 7) 0 0 22 [(0, .ref 0), (1, .int (nI m)), (2, .int (wkS Z.1 i).2), (3, .int (nI i))] [] M1 Q := by
        intro k3
        induction k3 with
        | zero => intro i M1 hk; exact absurd hk (Nat.not_lt_zero _)
        | succ k3 ih4 =>
          intro i M1 hk3 hi hs1 hd1
          refine j_iload_n 3 dX10_weeks_22 rfl ?_
          refine j_iload_n 1 dX10_weeks_23 rfl ?_
          refine j_icmp_geN (tgt := 59) i m dX10_weeks_24 rfl (by omega) (by omega) (fun c6 => ?_) (fun c6 => ?_)
          · refine j_iload_n 2 dX10_weeks_59 rfl ?_
            refine j_iret dX10_weeks_60 rfl ?_
            have e : i = m := by omega
            subst e
            exact hQ _ _ ⟨rfl, CV.now cv ok (Sm.g hs1) hd1⟩
          · refine j_aload_n 0 dX10_weeks_27 rfl ?_
            refine j_callV (kc := 0) (ks := 0) (a := 0) (b := 0) (d' := (d + 1)) (As := []) dX10_weeks_28 kX10_346 rfl (shC (Sm.C hs1 hC) sgC_0) (by omega) rfl rfl rfl (Nat.le_of_ble_eq_true rfl) (Nat.le_of_ble_eq_true rfl) (T_X10_chance (Sm.C hs1 hC) hd1 (wk_ok okS i)) (kk_ev (fun M7 hM8 => ?_))
            obtain ⟨h09, hv11⟩ := hM8
            have sm10 : Sm PNw M M7 := Sm.tr hs1 (Sm.mo h09 HO.Nw)
            refine j_aload_n 0 dX10_weeks_31 rfl ?_
            refine j_getr (q := 82) dX10_weeks_32 fX10_27 (shC (Sm.C sm10 hC) sgC_0) rfl (rfC (Sm.C sm10 hC) rfC_0_3 (nz (by decide))) ?_
            refine j_callV (kc := 0) (ks := 0) (a := 0) (b := 0) (d' := (d + 2)) (As := []) dX10_weeks_35 kX10_222 rfl (shC (Sm.C sm10 hC) (sgA isA82)) (by omega) rfl rfl rfl (Nat.le_of_ble_eq_true rfl) (Nat.le_of_ble_eq_true rfl) (T_X0_lay (Sm.C sm10 hC) isA82 hv11 (ch_ok (wk_ok okS i))) (kk_ev (fun M13 hM14 => ?_))
            obtain ⟨h015, ha18, -⟩ := hM14
            have sm16 : Sm PNw M M13 := Sm.tr sm10 (Sm.mo h015 AO.Nw)
            have hv17 := Sm.hv h015 hv11 (ch_ok (wk_ok okS i)) HO1AO
            refine j_aload_n 0 dX10_weeks_38 rfl ?_
            refine j_iconst 1 dX10_weeks_39 ic_1 ?_
            refine j_callV (kc := 0) (ks := 0) (a := 0) (b := 0) (d' := (d + 5)) (As := [.int 1]) dX10_weeks_40 kX10_343 rfl (shC (Sm.C sm16 hC) sgC_0) (by omega) rfl rfl rfl (Nat.le_of_ble_eq_true rfl) (Nat.le_of_ble_eq_true rfl) (T_X10_passMinute (Sm.C sm16 hC) hv17 (ch_ok (wk_ok okS i)) ha18 1) (kk_ev (fun M19 hM20 => ?_))
            obtain ⟨h021, hv23, ha24⟩ := hM20
            have sm22 : Sm PNw M M19 := Sm.tr sm16 (Sm.mo h021 PPm.Nw)
            refine j_iload_n 2 dX10_weeks_43 rfl ?_
            refine j_aload_n 0 dX10_weeks_44 rfl ?_
            refine j_getr (q := 82) dX10_weeks_45 fX10_27 (shC (Sm.C sm22 hC) sgC_0) rfl (rfC (Sm.C sm22 hC) rfC_0_3 (nz (by decide))) ?_
            refine j_callV (kc := 0) (ks := 0) (a := 0) (b := 0) (d' := (d + 6)) (As := []) dX10_weeks_48 kX10_270 rfl (shC (Sm.C sm22 hC) (sgA isA82)) (by omega) rfl rfl rfl (Nat.le_of_ble_eq_true rfl) (Nat.le_of_ble_eq_true rfl) (T_X0_filledNow (Sm.C sm22 hC) isA82 hv23 (wk_ok okS (i + 1)) ha24) (kk_e (fun M25 hM26 => ?_))
            obtain ⟨h027, ha30⟩ := hM26
            have sm28 : Sm PNw M M25 := Sm.tr sm22 (Sm.mo h027 P86.Nw)
            have hv29 := Sm.hv h027 hv23 (wk_ok okS (i + 1)) HO1h
            refine j_iadd dX10_weeks_51 ?_
            refine j_istore_n (L' := [(2, .int ((wkS Z.1 i).2 + (fillS (wkS Z.1 (i + 1)).1))), (0, .ref 0), (1, .int (nI m)), (3, .int (nI i))]) dX10_weeks_52 (by decide) rfl ?_
            refine j_iinc 3 (nI (i + 1)) (L' := [(3, .int (nI (i + 1))), (2, .int ((wkS Z.1 i).2 + (fillS (wkS Z.1 (i + 1)).1))), (0, .ref 0), (1, .int (nI m))]) dX10_weeks_53 rfl (inc1 i) (by decide) rfl ?_
            refine j_goto (tgt := 22) dX10_weeks_56 rfl ?_
            exact j_sub (jk_pick [2, 3, 1, 0] rfl) (ih4 (i + 1) M25 (by omega) (by omega) sm28 hv29)
      exact j_sub (jk_pick [2, 3, 1, 0] rfl) (lp5 _ 0 M (Nat.lt_succ_self _) (by omega) Sm.rf hS)
    · refine j_aload_n 0 dX10_weeks_11 rfl ?_
      refine j_bipush (-6) dX10_weeks_12 bp_n6 ?_
      refine j_callV (kc := 0) (ks := 0) (a := 0) (b := 0) (d' := d) (As := [.int (-6)]) dX10_weeks_14 kX10_93 rfl (shC hC sgC_0) (by omega) rfl rfl rfl (Nat.le_of_ble_eq_true rfl) (Nat.le_of_ble_eq_true rfl) (T_X10_refuse hC (-6)) (kk_p ?_)
      refine j_iret dX10_weeks_17 rfl ?_
      exfalso; omega
theorem P_weeks {d : Nat} {M : jk_M} {Z : ZS} (cv : CV M Z) (ok : Zok Z) (n : Int32) : J Fr_X10_weeks (d + 7) 0 0 0 [(0, .ref 0), (1, .int n)] [] M (jk_ex (some (.int (weekZ Z n).1)) (fun M1 => CV M1 (weekZ Z n).2)) := by
  by_cases h : 1 ≤ n ∧ n ≤ 60
  · obtain ⟨m, h1, h2, rfl⟩ := n60 h
    rw [weekZ, cif_f (fun z => z h), nI_clamp (by omega)]
    exact P_week1 cv ok m h1 h2
  · rw [weekZ, cif_t h]
    exact P_week0 cv ok n h
