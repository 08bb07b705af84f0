/-! a minute passes -/
def PPm (q : Nat) : Prop := HO 1 q ∨ AO 82 q
theorem PPm1 : ∀ q, HO 1 q → PPm q := fun _ h => Or.inl h
theorem PPmA : ∀ q, AO 82 q → PPm q := fun _ h => Or.inr h
theorem PPmh : ∀ q, q = 82 + 4 → PPm q := fun q h => PPmA q (by rw [h]; exact AO0 (by decide))
theorem HO1A : ∀ q, AO 82 q → ¬ HO 1 q := fun q h e => by have := AO82 h; have := e.2; omega
theorem HO1h : ∀ q, HO 1 q → ¬ q = 82 + 4 := fun q h e => by have := h.2; omega
theorem HO1AO : ∀ q, HO 1 q → ¬ AO 82 q := fun q h e => HO1A q e h
theorem AirOK.eq {a : Nat} {S T : HS} {M : jk_M} (hT : ∀ b i, b < 16 → T b i = S b i) (h : AirOK a S M) : AirOK a T M := by
  have h7 : nT T = nT S := by simp only [nT]; rw [hT 7 0 (by omega)]
  have h8 : nN T = nN S := by simp only [nN]; rw [hT 8 0 (by omega)]
  refine ⟨LossOK.eq (loss_min (T := T) (S := S) h7 (fun b i h1 h2 => hT b i (by omega))) h.1, fun c hc => ?_, ?_⟩
  · rw [hum_eq (T := T) h7 (fun b i h1 h2 => hT b i (by omega)) (hT 3 0 (by omega))]; exact h.2.1 c hc
  · rw [h.2.2, hT 2 0 (by omega)]; exact (din_eq h8 (fun b i h1 h2 => hT b i (by omega))).symm
/-- the hum laid anew: the minute may have gone on -/
theorem AirOK.min {a : Nat} {S : HS} {x : Int32} {M M1 : jk_M} (h : AirOK a S M) (hs : Sm (fun q => q = a + 4) M M1) (hh : ∀ c, c < 80 → M1.2.1 (a + 4) c = -1) : AirOK a (upS S 3 0 x) M1 := by
  refine ⟨LossOK.eq (loss_min (T := upS S 3 0 x) (S := S) rfl (fun b i h1 h2 => upS_n (by omega))) (fun c hc => ?_), fun c hc => Or.inl (hh c hc), ?_⟩
  · rw [hs.2.2 _ (by omega), hs.2.2 _ (by omega), hs.2.2 _ (by omega)]; exact h.1 c hc
  · rw [hs.2.2 _ (by omega), h.2.2]; exact (din_eq (S := S) (T := upS S 3 0 x) (on := S 2 0) rfl (fun b i h1 h2 => upS_n (by omega))).symm
noncomputable def pmT (S : HS) (r : Int32) : Nat → HS
  | 0 => upS S 3 0 (nI (((S 3 0).toNatClampNeg + 1) % 60))
  | d + 1 => upS (pmT S r d) 19 d (clgS (pmT S r d) (pmT S r d 19 d) (pmT S r d 16 d) r)
theorem clg01 {S : HS} {b c r : Int32} (h : b = 0 ∨ b = 1) : clgS S b c r = 0 ∨ clgS S b c r = 1 := by
  unfold clgS
  split
  · rcases h with rfl | rfl
    · exact Or.inr (by decide)
    · exact Or.inl (by decide)
  · exact h
theorem pm_n {S : HS} {r : Int32} : ∀ d, nD (pmT S r d) = nD S
  | 0 => by simp only [pmT, nD]; rw [upS_n (by omega)]
  | d + 1 => by
    have := pm_n (S := S) (r := r) d
    rw [← this]
    simp only [pmT, nD]; rw [upS_n (by omega)]
theorem pm_ok {S : HS} (ok : Sok S) (r : Int32) : ∀ d, d ≤ nD S → Sok (pmT S r d)
  | 0, _ => ok.u3 ⟨_, by omega, by omega, rfl⟩
  | d + 1, h => (pm_ok ok r d (by omega)).u19 (clg01 ((pm_ok ok r d (by omega)).de (by rw [pm_n]; omega)).2.2.2)
theorem pm_air {a : Nat} {S : HS} {r : Int32} {d : Nat} {M : jk_M} (h : AirOK a (pmT S r d) M) : AirOK a (pmT S r (d + 1)) M := h.eq (fun b i hb => upS_n (by omega))
set_option maxRecDepth 20000 in
set_option maxHeartbeats 4000000 in
theorem T_X10_passMinute {d : Nat} {M : jk_M} {S : HS} (hC : WC M) (hS : hv M.2.1 1 = S) (ok : Sok S) (ha : AirOK 82 S M) (r : Int32) : J Fr_X10_passMinute (d + 5) 0 0 0 [(0, .ref 0), (1, .int r)] [] M (jk_ex none (fun M1 => Sm PPm M M1 ∧ hv M1.2.1 1 = pmT S r (nD S) ∧ AirOK 82 (pmT S r (nD S)) M1)) := by
  refine j_post (fun Q hQ => ?_)
  have e3 := (ok.2.2.2.1.nat (by decide)).1
  have m59 := (ok.2.2.2.1.nat (by decide)).2.2
  have hD6 := (Sok.D ok).2
  refine j_aload_n 0 dX10_passMinute_0 rfl ?_
  refine j_getr (q := 1) dX10_passMinute_1 fX10_10 (shC hC sgC_0) rfl (rfC hC rfC_0_0 (nz (by decide))) ?_
  refine j_aload_n 0 dX10_passMinute_4 rfl ?_
  refine j_getr (q := 1) dX10_passMinute_5 fX10_10 (shC hC sgC_0) rfl (rfC hC rfC_0_0 (nz (by decide))) ?_
  refine j_getv (nI (S 3 0).toNatClampNeg) dX10_passMinute_8 fX10_164 (shC hC (sgH (by simp [isH]))) rfl ((hvs hS (by decide)).trans e3) ?_
  refine j_iconst 1 dX10_passMinute_11 ic_1 ?_
  refine j_iaddN ((S 3 0).toNatClampNeg) 1 dX10_passMinute_12 ?_
  refine j_bipush 60 dX10_passMinute_13 bp_60 ?_
  refine j_iremN ((S 3 0).toNatClampNeg + 1) 60 dX10_passMinute_15 (by omega) (by omega) (by omega) ?_
  refine j_put dX10_passMinute_16 fX10_164 (shC hC (sgH (by simp [isH]))) rfl ?_
  have sm1 : Sm PPm M (jk_wI M 1 3 (nI (((S 3 0).toNatClampNeg + 1) % 60))) := Sm.w Sm.rf (PPm1 _ HOz)
  refine j_aload_n 0 dX10_passMinute_19 rfl ?_
  refine j_getr (q := 82) dX10_passMinute_20 fX10_27 (shC (Sm.C sm1 hC) sgC_0) rfl (rfC (Sm.C sm1 hC) rfC_0_3 (nz (by decide))) ?_
  refine j_callV (kc := 0) (ks := 0) (a := 0) (b := 0) (d' := (d + 1)) (As := []) dX10_passMinute_23 kX10_379 rfl (shC (Sm.C sm1 hC) (sgA isA82)) (by omega) rfl rfl rfl (Nat.le_of_ble_eq_true rfl) (Nat.le_of_ble_eq_true rfl) (T_X0_layHum (Sm.C sm1 hC) isA82 (hv_sc hS ok (by decide) (by decide) (by decide) (by decide)) (pm_ok ok r 0 (by omega))) (kk_ev (fun M2 hM3 => ?_))
  obtain ⟨h0L, hhL⟩ := hM3
  have hsL : Sm PPm M M2 := Sm.tr (Sm.rf.w (a := 1) (k := 3) (x := nI ((((S 3 0).toNatClampNeg + 1) % 60))) (PPm1 _ HOz)) (Sm.mo (P2 := PPm) h0L PPmh)
  have hvL : hv M2.2.1 1 = pmT S r 0 := Sm.hv h0L (hv_sc hS ok (by decide) (by decide) (by decide) (by decide)) (pm_ok ok r 0 (by omega)) HO1h
  have haL : AirOK 82 (pmT S r 0) M2 := AirOK.min (ha.sm (P := HO 1) (Sm.rf.w HOz) HO1A) h0L hhL
  refine j_iconst 0 dX10_passMinute_26 ic_0 ?_
  refine j_istore_n (L' := [(2, .int 0), (0, .ref 0), (1, .int r)]) dX10_passMinute_27 (by decide) rfl ?_
  have lp6 : ∀ (k4 : Nat) (i : Nat) (M1 : jk_M), nD S - i < k4 → (i ≤ nD S) → (Sm PPm M M1) → (hv M1.2.1 1 = pmT S r i) → (Sok (pmT S r i)) → (AirOK 82 (pmT S r i) M1) → J Fr_X10_passMinute (d + 5) 0 0 28 [(0, .ref 0), (1, .int r), (2, .int (nI i))] [] M1 Q := by
    intro k4
    induction k4 with
    | zero => intro i M1 hk; exact absurd hk (Nat.not_lt_zero _)
    | succ k4 ih5 =>
      intro i M1 hk4 hi hs1 hd1 okT ha1
      refine j_iload_n 2 dX10_passMinute_28 rfl ?_
      refine j_aload_n 0 dX10_passMinute_29 rfl ?_
      refine j_getr (q := 1) dX10_passMinute_30 fX10_10 (shC (Sm.C hs1 hC) sgC_0) rfl (rfC (Sm.C hs1 hC) rfC_0_0 (nz (by decide))) ?_
      refine j_getv (nI (nD S)) dX10_passMinute_33 fX10_194 (shC (Sm.C hs1 hC) (sgH (by simp [isH]))) rfl (((hvs hd1 (by decide)).trans (Sok.D okT).1).trans (congrArg nI (pm_n i))) ?_
      refine j_icmp_geN (tgt := 78) i (nD S) dX10_passMinute_36 rfl (by omega) (by omega) (fun c7 => ?_) (fun c7 => ?_)
      · refine j_vret dX10_passMinute_78 rfl ?_
        have e : i = nD S := by omega
        subst e
        exact hQ _ _ ⟨rfl, hs1, hd1, ha1⟩
      · have hnD := pm_n (S := S) (r := r) i
        refine j_aload_n 0 dX10_passMinute_39 rfl ?_
        refine j_getr (q := 1) dX10_passMinute_40 fX10_10 (shC (Sm.C hs1 hC) sgC_0) rfl (rfC (Sm.C hs1 hC) rfC_0_0 (nz (by decide))) ?_
        refine j_iload_n 2 dX10_passMinute_43 rfl ?_
        refine j_callV (kc := 0) (ks := 0) (a := 0) (b := 0) (d' := d) (As := [.int (nI i)]) dX10_passMinute_44 kX10_218 rfl (shC (Sm.C hs1 hC) (sgH (by simp [isH]))) (by omega) rfl rfl rfl (Nat.le_of_ble_eq_true rfl) (Nat.le_of_ble_eq_true rfl) (T_X2_deviceAt (Sm.C hs1 hC) (by simp [isH]) hd1 okT i (by omega)) (kk_p ?_)
        refine j_astore_n (L' := [(3, .ref (1 + 21 + i)), (0, .ref 0), (1, .int r), (2, .int (nI i))]) dX10_passMinute_47 (by decide) rfl ?_
        refine j_aload_n 0 dX10_passMinute_48 rfl ?_
        refine j_ifnull dX10_passMinute_49 ?_
        refine j_aload_n 0 dX10_passMinute_52 rfl ?_
        refine j_aload_n 1 dX10_passMinute_53 rfl ?_
        refine j_getr (q := 82) dX10_passMinute_54 fX10_27 (shC (Sm.C hs1 hC) sgC_0) rfl (rfC (Sm.C hs1 hC) rfC_0_3 (nz (by decide))) ?_
        refine j_aload_n 0 dX10_passMinute_57 rfl ?_
        refine j_getv ((pmT S r i) 19 i) dX10_passMinute_58 fX10_234 (shC (Sm.C hs1 hC) (sgHD (by simp [isH]) (by have := (Sok.D okT).2; omega))) rfl (hvD hd1 (by omega) (by decide)) ?_
        refine j_aload_n 0 dX10_passMinute_61 rfl ?_
        refine j_getv ((pmT S r i) 16 i) dX10_passMinute_62 fX10_225 (shC (Sm.C hs1 hC) (sgHD (by simp [isH]) (by have := (Sok.D okT).2; omega))) rfl (hvD hd1 (by omega) (by decide)) ?_
        refine j_iload_n 2 dX10_passMinute_65 rfl ?_
        refine j_callV (kc := 0) (ks := 0) (a := 0) (b := 0) (d' := (d + 4)) (As := [.int ((pmT S r i) 19 i), .int ((pmT S r i) 16 i), .int r]) dX10_passMinute_66 kX10_376 rfl (shC (Sm.C hs1 hC) (sgA isA82)) (by omega) rfl rfl rfl (Nat.le_of_ble_eq_true rfl) (Nat.le_of_ble_eq_true rfl) (T_X0_clingsThen (Sm.C hs1 hC) isA82 hd1 okT ha1 ((pmT S r i) 19 i) ((pmT S r i) 16 i) r) (kk_e (fun M8 hM9 => ?_))
        obtain ⟨h011, ha12⟩ := hM9
        have sm10 := Sm.tr hs1 (Sm.mo (P2 := PPm) h011 PPmh)
        have hv13 := Sm.hv h011 hd1 okT HO1h
        refine j_put dX10_passMinute_69 fX10_234 (shC (Sm.C sm10 hC) (sgHD (by simp [isH]) (by have := (Sok.D okT).2; omega))) rfl ?_
        have sm14 : Sm PPm M (jk_wI M8 (1 + 21 + i) 3 (clgS (pmT S r i) ((pmT S r i) 19 i) ((pmT S r i) 16 i) r)) := Sm.w sm10 (PPm1 _ (HOD (by omega)))
        refine j_iinc 3 (nI (i + 1)) (L' := [(2, .int (nI (i + 1))), (3, .ref (1 + 21 + i)), (0, .ref 0), (1, .int r)]) dX10_passMinute_72 rfl (inc1 i) (by decide) rfl ?_
        refine j_goto (tgt := 28) dX10_passMinute_75 rfl ?_
        exact j_sub (jk_pick [2, 3, 0] rfl) (ih5 (i + 1) (jk_wI M8 (1 + 21 + i) 3 (clgS (pmT S r i) ((pmT S r i) 19 i) ((pmT S r i) 16 i) r)) (by omega) (by omega) sm14 (hv_de (k := 3) hv13 okT (by omega) (by decide)) (pm_ok ok r (i + 1) (by omega)) (pm_air (ha12.sm (P := HO 1) (Sm.rf.w (HOD (by omega))) HO1A)))
  exact j_sub (jk_pick [1, 2, 0] rfl) (lp6 _ 0 M2 (Nat.lt_succ_self _) (by omega) hsL hvL (pm_ok ok r 0 (by omega)) haL)
