/-! plans that change the draft -/
def PB (q : Nat) : Prop := HO 55 q ∨ AO 90 q ∨ q = 89
theorem PB.P : ∀ q, PB q → PPl q := fun q e => e.elim Or.inl (fun e => Or.inr (e.elim Or.inl (fun e => Or.inr (Or.inr e))))
theorem PBH : ∀ q, HO 1 q → ¬ PB q := fun q hq e => PPlH q hq (PB.P q e)
theorem PB1 : ∀ q, HO 55 q → PB q := fun _ h => Or.inl h
theorem PB2 : ∀ q, AO 90 q → PB q := fun _ h => Or.inr (Or.inl h)
theorem PBr : ∀ q, PR 90 q → PB q := fun q h => PB2 q (PR90 q h)
theorem PBh : ∀ q, q = 90 + 4 → PB q := fun q h => PB2 q (PH90 q h)
theorem H88b : ¬ PB 88 := fun e => by
  rcases e with e | e | e
  · exact H88h e
  · exact H88a e
  · omega
theorem PR90H : ∀ q, HO 55 q → ¬ PR 90 q := fun q h e => PA90H q h (PR90 q e)
def awayS (S : HS) (i : Nat) : HS := upS (upS S 10 i 0) 11 i 0
theorem away_ok {S : HS} {i : Nat} (ok : Sok S) : Sok (awayS S i) := (ok.u10 ⟨0, by omega, by omega, by decide⟩).u11 ⟨0, by omega, by omega, by decide⟩
theorem away_hv {M : jk_M} {S : HS} {i : Nat} (hS : hv M.2.1 55 = S) (ok : Sok S) (hi : i < nT S) : hv (jk_wI (jk_wI M (55 + 5 + i) 0 0) (55 + 5 + i) 1 0).2.1 55 = awayS S i :=
  hv_th (k := 1) (hv_th (k := 0) hS ok hi (by decide)) (ok.u10 ⟨0, by omega, by omega, by decide⟩) hi (by decide)
theorem away_back {M : jk_M} {S : HS} {i : Nat} {x0 x1 x2 x3 : Int32} (hS : hv M.2.1 55 = awayS S i) (ok : Sok S) (hi : i < nT S) (e0 : x0 = S 10 i) (e1 : x1 = S 11 i) (e2 : x2 = S 12 i) (e3 : x3 = S 13 i) : hv (jk_w4 M (55 + 5 + i) x0 x1 x2 x3).2.1 55 = S := by
  obtain ⟨t0, t1, t2, t3⟩ := ok.th hi
  subst e0 e1 e2 e3
  have k0 := away_ok (i := i) ok
  have k1 := k0.u10 (j := i) t0
  have k2 := k1.u11 (j := i) t1
  have k3 := k2.u12 (j := i) (x := S 12 i) t2
  have h := hv_th (k := 3) (x := S 13 i) (hv_th (k := 2) (x := S 12 i) (hv_th (k := 1) (x := S 11 i) (hv_th (k := 0) (x := S 10 i) hS k0 (j := i) hi (by decide)) k1 (j := i) hi (by decide)) k2 (j := i) hi (by decide)) k3 (j := i) hi (by decide)
  refine Eq.trans h ?_
  funext b q
  unfold awayS upS
  grind
theorem worth_up {S : HS} {b i : Nat} {x : Int32} (hb : b < 9) : worthS (upS S b i x) = worthS S := by
  have h9 : nD (upS S b i x) = nD S := by simp only [nD]; rw [upS_n (by omega)]
  unfold worthS
  rw [h9]
  exact sm_congr (fun j hj => upS_n (by omega))
theorem worth_th {S : HS} {b i : Nat} {x : Int32} (hb : 10 ≤ b ∧ b < 14) : worthS (upS S b i x) = worthS S := by
  have h9 : nD (upS S b i x) = nD S := by simp only [nD]; rw [upS_n (by omega)]
  unfold worthS
  rw [h9]
  exact sm_congr (fun j hj => upS_n (by omega))
noncomputable def awayR (S : HS) : Int32 := (fmx (fun _ => True) (fun i => servS (awayS S i)) nI (-1) (-1) (nT S)).1
theorem away_le {S : HS} (ok : Sok S) (i : Nat) : servS (awayS S i) ≤ worthS S := by
  have h := (servS_le (away_ok (i := i) ok)).2
  rw [show worthS (awayS S i) = worthS S from (worth_th (by omega)).trans (worth_th (by omega))] at h
  exact h
/-! minutes -/
def minS (S : HS) (k : Nat) : HS := upS S 3 0 (nI (((S 3 0).toNatClampNeg + k) % 60))
theorem min_ok {S : HS} (ok : Sok S) (k : Nat) : Sok (minS S k) := ok.u3 ⟨_, by omega, by omega, rfl⟩
theorem loss_min {S T : HS} (hT : nT T = nT S) (h : ∀ b i, 10 ≤ b → b < 14 → T b i = S b i) : lossC T = lossC S := by
  funext c
  unfold lossC lossT
  rw [hT]
  exact sm_congr (fun i hi => by rw [h 10 i (by omega) (by omega), h 11 i (by omega) (by omega), h 12 i (by omega) (by omega), h 13 i (by omega) (by omega)])
theorem LossOK.eq {a : Nat} {S T : HS} {M : jk_M} (h : lossC T = lossC S) (x : LossOK a S M) : LossOK a T M := fun c hc => by rw [h]; exact x c hc
theorem din_eq {S T : HS} {on : Int32} (hN : nN T = nN S) (h : ∀ b i, 14 ≤ b → b < 16 → T b i = S b i) : dinS T on = dinS S on := by
  unfold dinS
  rw [hN]
  exact sm_congr (fun i hi => by rw [h 14 i (by omega) (by omega), h 15 i (by omega) (by omega)])
theorem hum_eq {S T : HS} (hT : nT T = nT S) (h : ∀ b i, 10 ≤ b → b < 13 → T b i = S b i) (h3 : T 3 0 = S 3 0) (c : Int32) : humC T c = humC S c := by
  unfold humC humT
  rw [hT]
  exact sm_congr (fun i hi => by rw [h 10 i (by omega) (by omega), h 11 i (by omega) (by omega), h 12 i (by omega) (by omega), h3])
noncomputable def minR (S : HS) : Int32 := (fmx (fun _ => True) (fun k => servS (minS S k)) (fun k => minS S k 3 0) (S 3 0) (-1) 60).1
theorem min_le {S : HS} (ok : Sok S) (k : Nat) : servS (minS S k) ≤ worthS S := by
  have h := (servS_le (min_ok ok k)).2
  rw [show worthS (minS S k) = worthS S from worth_up (by omega)] at h
  exact h
/-- what the loops over minutes keep of the air -/
def LD (S : HS) (M : jk_M) : Prop := LossOK 90 S M ∧ M.2.1 90 6 = dinS S (S 2 0)
theorem LD.of {S : HS} {k : Nat} {M : jk_M} (h : AirOK 90 (minS S k) M) : LD S M := ⟨h.1.eq (loss_min (S := minS S k) rfl (fun b i h1 h2 => (upS_n (by omega)).symm)), by
  rw [h.2.2]; exact din_eq rfl (fun b i h1 h2 => upS_n (by omega))⟩
theorem LD.air {S : HS} {k : Nat} {M M1 : jk_M} (h : LD S M) (hs : Sm (fun q => q = 90 + 4) M M1) (hh : ∀ c, c < 80 → M1.2.1 (90 + 4) c = -1) : AirOK 90 (minS S k) M1 := by
  refine ⟨LossOK.eq (loss_min (T := minS S k) (S := S) rfl (fun b i h1 h2 => upS_n (by omega))) (fun c hc => ?_), fun c hc => Or.inl (hh c hc), ?_⟩
  · rw [hs.2.2 _ (by omega), hs.2.2 _ (by omega), hs.2.2 _ (by omega)]; exact h.1 c hc
  · rw [hs.2.2 _ (by omega), h.2]; exact (din_eq (S := S) (T := minS S k) (on := S 2 0) rfl (fun b i h1 h2 => upS_n (by omega))).symm
theorem LD.sm {S : HS} {M M1 : jk_M} (h : LD S M) (s : Sm (HO 55) M M1) : LD S M1 := by
  have e : ∀ k, k ≤ 5 → M1.2.1 (90 + k) = M.2.1 (90 + k) := fun k hk => s.2.2 _ (HO55A _ (AO0 hk))
  exact ⟨fun c hc => by rw [e 1 (by decide), e 2 (by decide), e 3 (by decide)]; exact h.1 c hc, by rw [e 0 (by decide)]; exact h.2⟩
theorem min_hv {M : jk_M} {S T : HS} {k : Nat} (hS : hv M.2.1 55 = T) (okT : Sok T) (hT : T = S ∨ ∃ k0, T = minS S k0) {x : Int32} (hx : x = nI (((S 3 0).toNatClampNeg + k) % 60)) : hv (jk_wI M 55 3 x).2.1 55 = minS S k := by
  refine (hv_sc hS okT (by decide) (by decide) (by decide) (by decide)).trans ?_
  subst hx
  rcases hT with rfl | ⟨k0, rfl⟩
  · rfl
  · funext b q; unfold minS upS; grind
set_option maxRecDepth 20000 in
set_option maxHeartbeats 4000000 in
theorem T_X3_bestAway {d : Nat} {M : jk_M} {S : HS} (hC : WC M) (hS : hv M.2.1 1 = S) (hd : hv M.2.1 55 = S) (ok : Sok S) (hw : M.2.1 88 4 = worthS S) : J Fr_X3_bestAway (d + 6) 0 0 0 [(0, .ref 88)] [] M (jk_ex (some (.int (awayR S))) (fun M1 => Sm PPl M M1)) := by
  refine j_post (fun Q hQ => ?_)
  have hT := (Sok.T ok).2
  refine j_iconst (-1) dX3_bestAway_0 ic_n1 ?_
  refine j_istore_n (L' := [(1, .int (-1)), (0, .ref 88)]) dX3_bestAway_1 (by decide) rfl ?_
  refine j_iconst (-1) dX3_bestAway_2 ic_n1 ?_
  refine j_istore_n (L' := [(2, .int (-1)), (1, .int (-1)), (0, .ref 88)]) dX3_bestAway_3 (by decide) rfl ?_
  refine j_iconst 0 dX3_bestAway_4 ic_0 ?_
  refine j_istore_n (L' := [(3, .int 0), (2, .int (-1)), (1, .int (-1)), (0, .ref 88)]) dX3_bestAway_5 (by decide) rfl ?_
  have lp3 : ∀ (k1 : Nat) (i : Nat) (M1 : jk_M), nT S - i < k1 → (i ≤ nT S) → (Sm PB M M1) → (hv M1.2.1 55 = S) → J Fr_X3_bestAway (d + 6) 0 0 6 [(0, .ref 88), (1, .int (fmx (fun _ => True) (fun i => servS (awayS S i)) nI (-1) (-1) i).1), (2, .int (fmx (fun _ => True) (fun i => servS (awayS S i)) nI (-1) (-1) i).2), (3, .int (nI i))] [] M1 Q := by
    intro k1
    induction k1 with
    | zero => intro i M1 hk; exact absurd hk (Nat.not_lt_zero _)
    | succ k1 ih2 =>
      intro i M1 hk1 hi hs1 hd1
      refine j_iload_n 3 dX3_bestAway_6 rfl ?_
      refine j_aload_n 0 dX3_bestAway_7 rfl ?_
      refine j_getr (q := 55) dX3_bestAway_8 fX3_23 (shC (Sm.C hs1 hC) sgC_88) rfl (rfC (Sm.C hs1 hC) rfC_88_1 (nz (by decide))) ?_
      refine j_getv (nI (nT S)) dX3_bestAway_11 fX3_68 (shC (Sm.C hs1 hC) (sgH (by simp [isH]))) rfl ((hvs hd1 (by decide)).trans (Sok.T ok).1) ?_
      refine j_icmp_geN (tgt := 107) i (nT S) dX3_bestAway_14 rfl (by omega) (by omega) (fun c4 => ?_) (fun c4 => ?_)
      · refine j_iload_n 1 dX3_bestAway_107 rfl ?_
        refine j_iret dX3_bestAway_108 rfl ?_
        have e : i = nT S := by omega
        subst e
        exact hQ _ _ ⟨rfl, Sm.mo hs1 PB.P⟩
      · refine j_iload_n 2 dX3_bestAway_17 rfl ?_
        refine j_aload_n 0 dX3_bestAway_18 rfl ?_
        refine j_getv (worthS S) dX3_bestAway_19 fX3_15 (shC (Sm.C hs1 hC) sgC_88) rfl ((Sm.rd hs1 H88b).trans hw) ?_
        refine j_icmp_ge (tgt := 107) dX3_bestAway_22 rfl (fun c5 => ?_) (fun c5 => ?_)
        · refine j_iload_n 1 dX3_bestAway_107 rfl ?_
          refine j_iret dX3_bestAway_108 rfl ?_
          have e := fmx_stop (P := fun _ => True) (f := fun i => servS (awayS S i)) (g := nI) (b := -1) (m := -1) (A := worthS S) i c5 (nT S - i) (fun j _ _ _ => away_le ok j)
          rw [show i + (nT S - i) = nT S by omega] at e
          exact hQ _ _ ⟨by rw [awayR, e], Sm.mo hs1 PB.P⟩
        · refine j_aload_n 0 dX3_bestAway_25 rfl ?_
          refine j_getr (q := 55) dX3_bestAway_26 fX3_23 (shC (Sm.C hs1 hC) sgC_88) rfl (rfC (Sm.C hs1 hC) rfC_88_1 (nz (by decide))) ?_
          refine j_iload_n 3 dX3_bestAway_29 rfl ?_
          refine j_callV (kc := 0) (ks := 0) (a := 0) (b := 0) (d' := d) (As := [.int (nI i)]) dX3_bestAway_30 kX3_71 rfl (shC (Sm.C hs1 hC) (sgH (by simp [isH]))) (by omega) rfl rfl rfl (Nat.le_of_ble_eq_true rfl) (Nat.le_of_ble_eq_true rfl) (T_X2_thingAt (Sm.C hs1 hC) (by simp [isH]) hd1 ok i (by omega)) (kk_p ?_)
          refine j_astore (L' := [(4, .ref (55 + 5 + i)), (0, .ref 88), (1, .int (fmx (fun _ => True) (fun i => servS (awayS S i)) nI (-1) (-1) i).1), (2, .int (fmx (fun _ => True) (fun i => servS (awayS S i)) nI (-1) (-1) i).2), (3, .int (nI i))]) dX3_bestAway_33 (by decide) rfl ?_
          refine j_aload_n 1 dX3_bestAway_35 rfl ?_
          refine j_getr (q := 1) dX3_bestAway_36 fX3_19 (shC (Sm.C hs1 hC) sgC_88) rfl (rfC (Sm.C hs1 hC) rfC_88_0 (nz (by decide))) ?_
          refine j_iload_n 4 dX3_bestAway_39 rfl ?_
          refine j_callV (kc := 0) (ks := 0) (a := 0) (b := 0) (d' := d) (As := [.int (nI i)]) dX3_bestAway_40 kX3_71 rfl (shC (Sm.C hs1 hC) (sgH (by simp [isH]))) (by omega) rfl rfl rfl (Nat.le_of_ble_eq_true rfl) (Nat.le_of_ble_eq_true rfl) (T_X2_thingAt (Sm.C hs1 hC) (by simp [isH]) (Sm.hv hs1 hS ok PBH) ok i (by omega)) (kk_p ?_)
          refine j_astore (L' := [(5, .ref (1 + 5 + i)), (4, .ref (55 + 5 + i)), (0, .ref 88), (1, .int (fmx (fun _ => True) (fun i => servS (awayS S i)) nI (-1) (-1) i).1), (2, .int (fmx (fun _ => True) (fun i => servS (awayS S i)) nI (-1) (-1) i).2), (3, .int (nI i))]) dX3_bestAway_43 (by decide) rfl ?_
          refine j_aload 1 dX3_bestAway_45 rfl ?_
          refine j_ifnull dX3_bestAway_47 ?_
          refine j_aload 0 dX3_bestAway_50 rfl ?_
          refine j_ifnull dX3_bestAway_52 ?_
          refine j_aload 1 dX3_bestAway_55 rfl ?_
          refine j_iconst 0 dX3_bestAway_57 ic_0 ?_
          refine j_put dX3_bestAway_58 fX3_75 (shC (Sm.C hs1 hC) (sgHT (by simp [isH]) (by have := (Sok.T ok).2; omega))) rfl ?_
          have sm6 : Sm PB M (jk_wI M1 (55 + 5 + i) 0 0) := Sm.w hs1 (PB1 _ (HOT (by omega)))
          refine j_aload 1 dX3_bestAway_61 rfl ?_
          refine j_iconst 0 dX3_bestAway_63 ic_0 ?_
          refine j_put dX3_bestAway_64 fX3_80 (shC (Sm.C sm6 hC) (sgHT (by simp [isH]) (by have := (Sok.T ok).2; omega))) rfl ?_
          have sm7 : Sm PB M (jk_wI (jk_wI M1 (55 + 5 + i) 0 0) (55 + 5 + i) 1 0) := Sm.w sm6 (PB1 _ (HOT (by omega)))
          have hva := away_hv hd1 ok (show i < nT S by omega)
          refine j_aload_n 2 dX3_bestAway_67 rfl ?_
          refine j_getr (q := 90) dX3_bestAway_68 fX3_31 (shC (Sm.C sm7 hC) sgC_88) rfl (rfC (Sm.C sm7 hC) rfC_88_2 (nz (by decide))) ?_
          refine j_callV (kc := 0) (ks := 0) (a := 0) (b := 0) (d' := (d + 2)) (As := []) dX3_bestAway_71 kX3_40 rfl (shC (Sm.C sm7 hC) (sgA isA90)) (by omega) rfl rfl rfl (Nat.le_of_ble_eq_true rfl) (Nat.le_of_ble_eq_true rfl) (T_X0_lay (Sm.C sm7 hC) isA90 hva (away_ok ok)) (kk_ev (fun M8 hM9 => ?_))
          obtain ⟨h011, ha12, -⟩ := hM9
          have sm10 := Sm.tr sm7 (Sm.mo (P2 := PB) h011 PB2)
          have hv13 := Sm.hv h011 hva (away_ok ok) PA90H
          refine j_aload_n 2 dX3_bestAway_74 rfl ?_
          refine j_getr (q := 90) dX3_bestAway_75 fX3_31 (shC (Sm.C sm10 hC) sgC_88) rfl (rfC (Sm.C sm10 hC) rfC_88_2 (nz (by decide))) ?_
          refine j_callV (kc := 0) (ks := 0) (a := 0) (b := 0) (d' := (d + 5)) (As := []) dX3_bestAway_78 kX3_83 rfl (shC (Sm.C sm10 hC) (sgA isA90)) (by omega) rfl rfl rfl (Nat.le_of_ble_eq_true rfl) (Nat.le_of_ble_eq_true rfl) (T_X0_servedNow (Sm.C sm10 hC) isA90 hv13 (away_ok ok) ha12) (kk_e (fun M14 hM15 => ?_))
          obtain ⟨h017, ha18⟩ := hM15
          have sm16 := Sm.tr sm10 (Sm.mo (P2 := PB) h017 PBr)
          have hv19 := Sm.hv h017 hv13 (away_ok ok) PR90H
          refine j_istore (L' := [(6, .int (servS (awayS S i))), (5, .ref (1 + 5 + i)), (4, .ref (55 + 5 + i)), (0, .ref 88), (1, .int (fmx (fun _ => True) (fun i => servS (awayS S i)) nI (-1) (-1) i).1), (2, .int (fmx (fun _ => True) (fun i => servS (awayS S i)) nI (-1) (-1) i).2), (3, .int (nI i))]) dX3_bestAway_81 (by decide) rfl ?_
          refine j_aload 2 dX3_bestAway_83 rfl ?_
          refine j_aload 1 dX3_bestAway_85 rfl ?_
          refine j_callV (kc := 0) (ks := 0) (a := 0) (b := 0) (d' := d) (As := [.ref (1 + 5 + i)]) dX3_bestAway_87 kX3_86 rfl (shC (Sm.C sm16 hC) (sgHT (by simp [isH]) (by have := (Sok.T ok).2; omega))) (by omega) rfl rfl rfl (Nat.le_of_ble_eq_true rfl) (Nat.le_of_ble_eq_true rfl) (T_X9_become (Sm.C sm16 hC) (sgHT (by simp [isH]) (by have := (Sok.T ok).2; omega)) (sgHT (by simp [isH]) (by have := (Sok.T ok).2; omega)) (by omega) (by rw [Sm.rd (q := 1 + 5 + i) sm16 (PBH _ (HOT (by omega))), hvT hS (show i < nT S by omega) (by decide)]; exact (ok.th (show i < nT S by omega)).2.2.2)) (kk_pv ?_)
          have sm20 : Sm PB M (jk_w4 M14 (55 + 5 + i) (M14.2.1 (1 + 5 + i) 0) (M14.2.1 (1 + 5 + i) 1) (M14.2.1 (1 + 5 + i) 2) (M14.2.1 (1 + 5 + i) 3)) := Sm.w4 sm16 (PB1 _ (HOT (by omega)))
          have hv21 : hv (jk_w4 M14 (55 + 5 + i) (M14.2.1 (1 + 5 + i) 0) (M14.2.1 (1 + 5 + i) 1) (M14.2.1 (1 + 5 + i) 2) (M14.2.1 (1 + 5 + i) 3)).2.1 55 = S := away_back hv19 ok (by omega) ((Sm.rd (q := 1 + 5 + i) sm16 (PBH _ (HOT (by omega)))).trans (hvT hS (show i < nT S by omega) (k := 0) (by decide))) ((Sm.rd (q := 1 + 5 + i) sm16 (PBH _ (HOT (by omega)))).trans (hvT hS (show i < nT S by omega) (k := 1) (by decide))) ((Sm.rd (q := 1 + 5 + i) sm16 (PBH _ (HOT (by omega)))).trans (hvT hS (show i < nT S by omega) (k := 2) (by decide))) ((Sm.rd (q := 1 + 5 + i) sm16 (PBH _ (HOT (by omega)))).trans (hvT hS (show i < nT S by omega) (k := 3) (by decide)))
          refine j_iload 0 dX3_bestAway_90 rfl ?_
          refine j_iload_n 5 dX3_bestAway_92 rfl ?_
          refine j_icmp_le (tgt := 101) dX3_bestAway_93 rfl (fun c22 => ?_) (fun c22 => ?_)
          · refine j_iinc 6 (nI (i + 1)) (L' := [(3, .int (nI (i + 1))), (6, .int (servS (awayS S i))), (5, .ref (1 + 5 + i)), (4, .ref (55 + 5 + i)), (0, .ref 88), (1, .int (fmx (fun _ => True) (fun i => servS (awayS S i)) nI (-1) (-1) i).1), (2, .int (fmx (fun _ => True) (fun i => servS (awayS S i)) nI (-1) (-1) i).2)]) dX3_bestAway_101 rfl (inc1 i) (by decide) rfl ?_
            refine j_goto (tgt := 6) dX3_bestAway_104 rfl ?_
            have hb0 : (fmx (fun _ => True) (fun i => servS (awayS S i)) nI (-1) (-1) (i + 1)) = ((fmx (fun _ => True) (fun i => servS (awayS S i)) nI (-1) (-1) i).1, (fmx (fun _ => True) (fun i => servS (awayS S i)) nI (-1) (-1) i).2) := fmx_f (Or.inr (Int32.not_lt.mpr c22))
            have h1 : (fmx (fun _ => True) (fun i => servS (awayS S i)) nI (-1) (-1) i).1 = (fmx (fun _ => True) (fun i => servS (awayS S i)) nI (-1) (-1) (i + 1)).1 := by rw [hb0]
            refine j_L (congrArg (fun z : Int32 => ([(3, .int (nI (i + 1))), (6, .int (servS (awayS S i))), (5, .ref (1 + 5 + i)), (4, .ref (55 + 5 + i)), (0, .ref 88), (1, .int z), (2, .int (fmx (fun _ => True) (fun i => servS (awayS S i)) nI (-1) (-1) i).2)] : List (Nat × Value))) h1) ?_
            have h2 : (fmx (fun _ => True) (fun i => servS (awayS S i)) nI (-1) (-1) i).2 = (fmx (fun _ => True) (fun i => servS (awayS S i)) nI (-1) (-1) (i + 1)).2 := by rw [hb0]
            refine j_L (congrArg (fun z : Int32 => ([(3, .int (nI (i + 1))), (6, .int (servS (awayS S i))), (5, .ref (1 + 5 + i)), (4, .ref (55 + 5 + i)), (0, .ref 88), (1, .int (fmx (fun _ => True) (fun i => servS (awayS S i)) nI (-1) (-1) (i + 1)).1), (2, .int z)] : List (Nat × Value))) h2) ?_
            exact j_sub (jk_pick [4, 5, 6, 0] rfl) (ih2 (i + 1) (jk_w4 M14 (55 + 5 + i) (M14.2.1 (1 + 5 + i) 0) (M14.2.1 (1 + 5 + i) 1) (M14.2.1 (1 + 5 + i) 2) (M14.2.1 (1 + 5 + i) 3)) (by omega) (by omega) sm20 hv21)
          · refine j_iload 0 dX3_bestAway_96 rfl ?_
            refine j_istore_n (L' := [(2, .int (servS (awayS S i))), (6, .int (servS (awayS S i))), (5, .ref (1 + 5 + i)), (4, .ref (55 + 5 + i)), (0, .ref 88), (1, .int (fmx (fun _ => True) (fun i => servS (awayS S i)) nI (-1) (-1) i).1), (3, .int (nI i))]) dX3_bestAway_98 (by decide) rfl ?_
            refine j_iload_n 6 dX3_bestAway_99 rfl ?_
            refine j_istore_n (L' := [(1, .int (nI i)), (2, .int (servS (awayS S i))), (6, .int (servS (awayS S i))), (5, .ref (1 + 5 + i)), (4, .ref (55 + 5 + i)), (0, .ref 88), (3, .int (nI i))]) dX3_bestAway_100 (by decide) rfl ?_
            refine j_iinc 6 (nI (i + 1)) (L' := [(3, .int (nI (i + 1))), (1, .int (nI i)), (2, .int (servS (awayS S i))), (6, .int (servS (awayS S i))), (5, .ref (1 + 5 + i)), (4, .ref (55 + 5 + i)), (0, .ref 88)]) dX3_bestAway_101 rfl (inc1 i) (by decide) rfl ?_
            refine j_goto (tgt := 6) dX3_bestAway_104 rfl ?_
            have hb0 : (fmx (fun _ => True) (fun i => servS (awayS S i)) nI (-1) (-1) (i + 1)) = ((nI i), (servS (awayS S i))) := fmx_t trivial (Int32.not_le.mp c22)
            have h1 : (nI i) = (fmx (fun _ => True) (fun i => servS (awayS S i)) nI (-1) (-1) (i + 1)).1 := by rw [hb0]
            refine j_L (congrArg (fun z : Int32 => ([(3, .int (nI (i + 1))), (1, .int z), (2, .int (servS (awayS S i))), (6, .int (servS (awayS S i))), (5, .ref (1 + 5 + i)), (4, .ref (55 + 5 + i)), (0, .ref 88)] : List (Nat × Value))) h1) ?_
            have h2 : (servS (awayS S i)) = (fmx (fun _ => True) (fun i => servS (awayS S i)) nI (-1) (-1) (i + 1)).2 := by rw [hb0]
            refine j_L (congrArg (fun z : Int32 => ([(3, .int (nI (i + 1))), (1, .int (fmx (fun _ => True) (fun i => servS (awayS S i)) nI (-1) (-1) (i + 1)).1), (2, .int z), (6, .int (servS (awayS S i))), (5, .ref (1 + 5 + i)), (4, .ref (55 + 5 + i)), (0, .ref 88)] : List (Nat × Value))) h2) ?_
            exact j_sub (jk_pick [6, 1, 2, 0] rfl) (ih2 (i + 1) (jk_w4 M14 (55 + 5 + i) (M14.2.1 (1 + 5 + i) 0) (M14.2.1 (1 + 5 + i) 1) (M14.2.1 (1 + 5 + i) 2) (M14.2.1 (1 + 5 + i) 3)) (by omega) (by omega) sm20 hv21)
  exact j_sub (jk_pick [3, 2, 1, 0] rfl) (lp3 _ 0 M (Nat.lt_succ_self _) (by omega) Sm.rf hd)
set_option maxRecDepth 20000 in
set_option maxHeartbeats 4000000 in
theorem T_X3_bestMinute {d : Nat} {M : jk_M} {S : HS} (hC : WC M) (hd : hv M.2.1 55 = S) (ok : Sok S) (ha : AirOK 90 S M) (hw : M.2.1 88 4 = worthS S) : J Fr_X3_bestMinute (d + 6) 0 0 0 [(0, .ref 88)] [] M (jk_ex (some (.int (minR S))) (fun M1 => Sm PPl M M1)) := by
  refine j_post (fun Q hQ => ?_)
  have e3 := (ok.2.2.2.1.nat (by decide)).1
  have m59 := (ok.2.2.2.1.nat (by decide)).2.2
  refine j_aload_n 0 dX3_bestMinute_0 rfl ?_
  refine j_getr (q := 55) dX3_bestMinute_1 fX3_23 (shC hC sgC_88) rfl (rfC hC rfC_88_1 (nz (by decide))) ?_
  refine j_getv (nI (S 3 0).toNatClampNeg) dX3_bestMinute_4 fX3_102 (shC hC (sgH (by simp [isH]))) rfl ((hvs hd (by decide)).trans e3) ?_
  refine j_istore_n (L' := [(1, .int (nI (S 3 0).toNatClampNeg)), (0, .ref 88)]) dX3_bestMinute_7 (by decide) rfl ?_
  refine j_iload_n 0 dX3_bestMinute_8 rfl ?_
  refine j_istore_n (L' := [(2, .int (nI (S 3 0).toNatClampNeg)), (1, .int (nI (S 3 0).toNatClampNeg)), (0, .ref 88)]) dX3_bestMinute_9 (by decide) rfl ?_
  refine j_iconst (-1) dX3_bestMinute_10 ic_n1 ?_
  refine j_istore_n (L' := [(3, .int (-1)), (2, .int (nI (S 3 0).toNatClampNeg)), (1, .int (nI (S 3 0).toNatClampNeg)), (0, .ref 88)]) dX3_bestMinute_11 (by decide) rfl ?_
  refine j_iconst 0 dX3_bestMinute_12 ic_0 ?_
  refine j_istore (L' := [(4, .int 0), (3, .int (-1)), (2, .int (nI (S 3 0).toNatClampNeg)), (1, .int (nI (S 3 0).toNatClampNeg)), (0, .ref 88)]) dX3_bestMinute_13 (by decide) rfl ?_
  refine j_L (congrArg (fun z : Int32 => ([(4, .int 0), (3, .int (-1)), (2, .int z), (1, .int (nI (S 3 0).toNatClampNeg)), (0, .ref 88)] : List (Nat × Value))) e3.symm) ?_
  have lp3 : ∀ (k1 : Nat) (i : Nat) (T : HS) (M1 : jk_M), 60 - i < k1 → (i ≤ 60) → (Sm PB M M1) → (hv M1.2.1 55 = T) → (Sok T) → (T = S ∨ ∃ k0, T = minS S k0) → (LD S M1) → J Fr_X3_bestMinute (d + 6) 0 0 15 [(0, .ref 88), (1, .int (nI (S 3 0).toNatClampNeg)), (2, .int (fmx (fun _ => True) (fun k => servS (minS S k)) (fun k => minS S k 3 0) (S 3 0) (-1) i).1), (3, .int (fmx (fun _ => True) (fun k => servS (minS S k)) (fun k => minS S k 3 0) (S 3 0) (-1) i).2), (4, .int (nI i))] [] M1 Q := by
    intro k1
    induction k1 with
    | zero => intro i T M1 hk; exact absurd hk (Nat.not_lt_zero _)
    | succ k1 ih2 =>
      intro i T M1 hk1 hi hs1 hd1 okT hT hl1
      refine j_iload 4 dX3_bestMinute_15 rfl ?_
      refine j_bipush 60 dX3_bestMinute_17 bp_60 ?_
      refine j_icmp_geN (tgt := 83) i 60 dX3_bestMinute_19 rfl (by omega) (by omega) (fun c4 => ?_) (fun c4 => ?_)
      · refine j_iload_n 2 dX3_bestMinute_83 rfl ?_
        refine j_iret dX3_bestMinute_84 rfl ?_
        have e : i = 60 := by omega
        subst e
        exact hQ _ _ ⟨rfl, Sm.mo hs1 PB.P⟩
      · refine j_iload_n 3 dX3_bestMinute_22 rfl ?_
        refine j_aload_n 0 dX3_bestMinute_23 rfl ?_
        refine j_getv (worthS S) dX3_bestMinute_24 fX3_15 (shC (Sm.C hs1 hC) sgC_88) rfl ((Sm.rd hs1 H88b).trans hw) ?_
        refine j_icmp_ge (tgt := 83) dX3_bestMinute_27 rfl (fun c5 => ?_) (fun c5 => ?_)
        · refine j_iload_n 2 dX3_bestMinute_83 rfl ?_
          refine j_iret dX3_bestMinute_84 rfl ?_
          have e := fmx_stop (P := fun _ => True) (f := fun k => servS (minS S k)) (g := fun k => minS S k 3 0) (b := S 3 0) (m := -1) (A := worthS S) i c5 (60 - i) (fun j _ _ _ => min_le ok j)
          rw [show i + (60 - i) = 60 by omega] at e
          exact hQ _ _ ⟨by rw [minR, e], Sm.mo hs1 PB.P⟩
        · refine j_aload_n 0 dX3_bestMinute_30 rfl ?_
          refine j_getr (q := 55) dX3_bestMinute_31 fX3_23 (shC (Sm.C hs1 hC) sgC_88) rfl (rfC (Sm.C hs1 hC) rfC_88_1 (nz (by decide))) ?_
          refine j_iload_n 1 dX3_bestMinute_34 rfl ?_
          refine j_iload 4 dX3_bestMinute_35 rfl ?_
          refine j_iaddN ((S 3 0).toNatClampNeg) i dX3_bestMinute_37 ?_
          refine j_bipush 60 dX3_bestMinute_38 bp_60 ?_
          refine j_iremN ((S 3 0).toNatClampNeg + i) 60 dX3_bestMinute_40 (by omega) (by omega) (by omega) ?_
          refine j_put dX3_bestMinute_41 fX3_102 (shC (Sm.C hs1 hC) (sgH (by simp [isH]))) rfl ?_
          have sm6 : Sm PB M (jk_wI M1 55 3 (nI (((S 3 0).toNatClampNeg + i) % 60))) := Sm.w hs1 (PB1 _ HOz)
          have hva := min_hv (S := S) (k := i) hd1 okT hT rfl
          have hl2 := LD.sm hl1 (Sm.rf.w (a := 55) (k := 3) (x := nI (((S 3 0).toNatClampNeg + i) % 60)) (HO0 (k := 0) (by decide)))
          refine j_aload_n 0 dX3_bestMinute_44 rfl ?_
          refine j_getr (q := 90) dX3_bestMinute_45 fX3_31 (shC (Sm.C sm6 hC) sgC_88) rfl (rfC (Sm.C sm6 hC) rfC_88_2 (nz (by decide))) ?_
          refine j_callV (kc := 0) (ks := 0) (a := 0) (b := 0) (d' := (d + 1)) (As := []) dX3_bestMinute_48 kX3_105 rfl (shC (Sm.C sm6 hC) (sgA isA90)) (by omega) rfl rfl rfl (Nat.le_of_ble_eq_true rfl) (Nat.le_of_ble_eq_true rfl) (T_X0_layHum (Sm.C sm6 hC) isA90 hva (min_ok ok i)) (kk_ev (fun M7 hM8 => ?_))
          obtain ⟨h010, hh11⟩ := hM8
          have sm9 := Sm.tr sm6 (Sm.mo (P2 := PB) h010 PBh)
          have hv13 := Sm.hv h010 hva (min_ok ok i) (fun q h e => PA90H q h (PH90 q e))
          have ha12 := LD.air (k := i) hl2 h010 hh11
          refine j_aload_n 0 dX3_bestMinute_51 rfl ?_
          refine j_getr (q := 90) dX3_bestMinute_52 fX3_31 (shC (Sm.C sm9 hC) sgC_88) rfl (rfC (Sm.C sm9 hC) rfC_88_2 (nz (by decide))) ?_
          refine j_callV (kc := 0) (ks := 0) (a := 0) (b := 0) (d' := (d + 5)) (As := []) dX3_bestMinute_55 kX3_83 rfl (shC (Sm.C sm9 hC) (sgA isA90)) (by omega) rfl rfl rfl (Nat.le_of_ble_eq_true rfl) (Nat.le_of_ble_eq_true rfl) (T_X0_servedNow (Sm.C sm9 hC) isA90 hv13 (min_ok ok i) ha12) (kk_e (fun M14 hM15 => ?_))
          obtain ⟨h017, ha18⟩ := hM15
          have sm16 := Sm.tr sm9 (Sm.mo (P2 := PB) h017 PBr)
          have hv19 := Sm.hv h017 hv13 (min_ok ok i) PR90H
          refine j_istore (L' := [(5, .int (servS (minS S i))), (0, .ref 88), (1, .int (nI (S 3 0).toNatClampNeg)), (2, .int (fmx (fun _ => True) (fun k => servS (minS S k)) (fun k => minS S k 3 0) (S 3 0) (-1) i).1), (3, .int (fmx (fun _ => True) (fun k => servS (minS S k)) (fun k => minS S k 3 0) (S 3 0) (-1) i).2), (4, .int (nI i))]) dX3_bestMinute_58 (by decide) rfl ?_
          refine j_iload 0 dX3_bestMinute_60 rfl ?_
          refine j_iload_n 4 dX3_bestMinute_62 rfl ?_
          refine j_icmp_le (tgt := 77) dX3_bestMinute_63 rfl (fun c20 => ?_) (fun c20 => ?_)
          · refine j_iinc 5 (nI (i + 1)) (L' := [(4, .int (nI (i + 1))), (5, .int (servS (minS S i))), (0, .ref 88), (1, .int (nI (S 3 0).toNatClampNeg)), (2, .int (fmx (fun _ => True) (fun k => servS (minS S k)) (fun k => minS S k 3 0) (S 3 0) (-1) i).1), (3, .int (fmx (fun _ => True) (fun k => servS (minS S k)) (fun k => minS S k 3 0) (S 3 0) (-1) i).2)]) dX3_bestMinute_77 rfl (inc1 i) (by decide) rfl ?_
            refine j_goto (tgt := 15) dX3_bestMinute_80 rfl ?_
            have hb0 : (fmx (fun _ => True) (fun k => servS (minS S k)) (fun k => minS S k 3 0) (S 3 0) (-1) (i + 1)) = ((fmx (fun _ => True) (fun k => servS (minS S k)) (fun k => minS S k 3 0) (S 3 0) (-1) i).1, (fmx (fun _ => True) (fun k => servS (minS S k)) (fun k => minS S k 3 0) (S 3 0) (-1) i).2) := fmx_f (Or.inr (Int32.not_lt.mpr c20))
            have h1 : (fmx (fun _ => True) (fun k => servS (minS S k)) (fun k => minS S k 3 0) (S 3 0) (-1) i).1 = (fmx (fun _ => True) (fun k => servS (minS S k)) (fun k => minS S k 3 0) (S 3 0) (-1) (i + 1)).1 := by rw [hb0]
            refine j_L (congrArg (fun z : Int32 => ([(4, .int (nI (i + 1))), (5, .int (servS (minS S i))), (0, .ref 88), (1, .int (nI (S 3 0).toNatClampNeg)), (2, .int z), (3, .int (fmx (fun _ => True) (fun k => servS (minS S k)) (fun k => minS S k 3 0) (S 3 0) (-1) i).2)] : List (Nat × Value))) h1) ?_
            have h2 : (fmx (fun _ => True) (fun k => servS (minS S k)) (fun k => minS S k 3 0) (S 3 0) (-1) i).2 = (fmx (fun _ => True) (fun k => servS (minS S k)) (fun k => minS S k 3 0) (S 3 0) (-1) (i + 1)).2 := by rw [hb0]
            refine j_L (congrArg (fun z : Int32 => ([(4, .int (nI (i + 1))), (5, .int (servS (minS S i))), (0, .ref 88), (1, .int (nI (S 3 0).toNatClampNeg)), (2, .int (fmx (fun _ => True) (fun k => servS (minS S k)) (fun k => minS S k 3 0) (S 3 0) (-1) (i + 1)).1), (3, .int z)] : List (Nat × Value))) h2) ?_
            exact j_sub (jk_pick [2, 3, 4, 5, 0] rfl) (ih2 (i + 1) (minS S i) M14 (by omega) (by omega) sm16 hv19 (min_ok ok i) (Or.inr ⟨i, rfl⟩) (LD.of ha18))
          · refine j_iload 0 dX3_bestMinute_66 rfl ?_
            refine j_istore_n (L' := [(3, .int (servS (minS S i))), (5, .int (servS (minS S i))), (0, .ref 88), (1, .int (nI (S 3 0).toNatClampNeg)), (2, .int (fmx (fun _ => True) (fun k => servS (minS S k)) (fun k => minS S k 3 0) (S 3 0) (-1) i).1), (4, .int (nI i))]) dX3_bestMinute_68 (by decide) rfl ?_
            refine j_aload_n 2 dX3_bestMinute_69 rfl ?_
            refine j_getr (q := 55) dX3_bestMinute_70 fX3_23 (shC (Sm.C sm16 hC) sgC_88) rfl (rfC (Sm.C sm16 hC) rfC_88_1 (nz (by decide))) ?_
            refine j_getv ((minS S i) 3 0) dX3_bestMinute_73 fX3_102 (shC (Sm.C sm16 hC) (sgH (by simp [isH]))) rfl (hvs hv19 (by decide)) ?_
            refine j_istore_n (L' := [(2, .int ((minS S i) 3 0)), (3, .int (servS (minS S i))), (5, .int (servS (minS S i))), (0, .ref 88), (1, .int (nI (S 3 0).toNatClampNeg)), (4, .int (nI i))]) dX3_bestMinute_76 (by decide) rfl ?_
            refine j_iinc 5 (nI (i + 1)) (L' := [(4, .int (nI (i + 1))), (2, .int ((minS S i) 3 0)), (3, .int (servS (minS S i))), (5, .int (servS (minS S i))), (0, .ref 88), (1, .int (nI (S 3 0).toNatClampNeg))]) dX3_bestMinute_77 rfl (inc1 i) (by decide) rfl ?_
            refine j_goto (tgt := 15) dX3_bestMinute_80 rfl ?_
            have hb0 : (fmx (fun _ => True) (fun k => servS (minS S k)) (fun k => minS S k 3 0) (S 3 0) (-1) (i + 1)) = (((minS S i) 3 0), (servS (minS S i))) := fmx_t trivial (Int32.not_le.mp c20)
            have h1 : ((minS S i) 3 0) = (fmx (fun _ => True) (fun k => servS (minS S k)) (fun k => minS S k 3 0) (S 3 0) (-1) (i + 1)).1 := by rw [hb0]
            refine j_L (congrArg (fun z : Int32 => ([(4, .int (nI (i + 1))), (2, .int z), (3, .int (servS (minS S i))), (5, .int (servS (minS S i))), (0, .ref 88), (1, .int (nI (S 3 0).toNatClampNeg))] : List (Nat × Value))) h1) ?_
            have h2 : (servS (minS S i)) = (fmx (fun _ => True) (fun k => servS (minS S k)) (fun k => minS S k 3 0) (S 3 0) (-1) (i + 1)).2 := by rw [hb0]
            refine j_L (congrArg (fun z : Int32 => ([(4, .int (nI (i + 1))), (2, .int (fmx (fun _ => True) (fun k => servS (minS S k)) (fun k => minS S k 3 0) (S 3 0) (-1) (i + 1)).1), (3, .int z), (5, .int (servS (minS S i))), (0, .ref 88), (1, .int (nI (S 3 0).toNatClampNeg))] : List (Nat × Value))) h2) ?_
            exact j_sub (jk_pick [4, 5, 1, 2, 0] rfl) (ih2 (i + 1) (minS S i) M14 (by omega) (by omega) sm16 hv19 (min_ok ok i) (Or.inr ⟨i, rfl⟩) (LD.of ha18))
  exact j_sub (jk_pick [4, 3, 2, 1, 0] rfl) (lp3 _ 0 S M (Nat.lt_succ_self _) (by omega) Sm.rf hd ok (Or.inl rfl) ⟨ha.1, ha.2.2⟩)
