/-! calls of the model that change the house -/
def PA (q k : Nat) : Prop := (2 ≤ q ∧ q ≤ 12) ∨ (q = 0 ∧ k < 8)
theorem PA_O : ∀ q k, PA q k → PO q k := fun q k h => by unfold PA at h; unfold PO PH; omega
theorem mv_addT {M : jk_M} {S : HS} (hS : mv M.2.1 = S) (ok : Sok S) (k a c : Int32) (hlt : nT S < 1000) : mv (jk_wI (jk_wI (jk_wI (jk_wI (jk_wI M 2 (nT S) k) 3 (nT S) a) 4 (nT S) c) 5 (nT S) 1) 0 0 (nI (nT S + 1))).2.1 = (addTS S k a c) := by
  obtain ⟨z1, z2, z3, z4, z5⟩ := mv_Hz hS
  have hnT : nT (addTS S k a c) = nT S + 1 := by
    have e7 : (addTS S k a c) 7 0 = nI (nT S + 1) := by unfold addTS; exact if_pos ⟨rfl, rfl⟩
    show ((addTS S k a c) 7 0).toNatClampNeg = _
    rw [e7]
    exact nI_clamp (by omega)
  have hnN : nN (addTS S k a c) = nN S := by
    simp only [nN, addTS]
    rw [if_neg (by omega), if_neg (by omega)]
  have hnD : nD (addTS S k a c) = nD S := by
    simp only [nD, addTS]
    rw [if_neg (by omega), if_neg (by omega)]
  have m0 : ∀ b, b < 10 → mo b = 0 ∨ mo b = 12 := fun b _ => by unfold mo; split <;> omega
  refine mv_of (fun b hb => ?_) ⟨fun b i hb hi => ?_, fun b i hb hi => ?_, fun b i hb hi => ?_, fun b i hb hi => ?_, fun b i hb => ?_⟩ (fun b i hb hi => ?_) (fun b i hb hi => ?_) (fun b i hb hi => ?_)
  · by_cases e : b = 7
    · subst e
      show (jk_wI (jk_wI (jk_wI (jk_wI (jk_wI M 2 (nT S) k) 3 (nT S) a) 4 (nT S) c) 5 (nT S) 1) 0 0 (nI (nT S + 1))).2.1 0 0 = _
      rw [rd_s]; simp [addTS]
    · have e2 : (addTS S k a c) b 0 = S b 0 := by
        simp only [addTS]
        rw [if_neg (by omega), if_neg (by omega)]
      have hm := m0 b hb
      have hp : ¬ (mo b = 0 ∧ mk b = 0) := fun z => mo_inj hb (show 7 < 10 by decide) e z
      rw [rd_p hp, rd_o (by omega), rd_o (by omega), rd_o (by omega), rd_o (by omega), e2]; exact mvs hS hb
  · simp only [addTS]; rw [if_neg (by omega), if_neg (by omega)]; exact z1 b i hb hi
  · rw [hnT] at hi; simp only [addTS]; rw [if_neg (by omega), if_neg (by omega)]; exact z2 b i hb (by omega)
  · rw [hnN] at hi; simp only [addTS]; rw [if_neg (by omega), if_neg (by omega)]; exact z3 b i hb (by omega)
  · rw [hnD] at hi; simp only [addTS]; rw [if_neg (by omega), if_neg (by omega)]; exact z4 b i hb (by omega)
  · simp only [addTS]; rw [if_neg (by omega), if_neg (by omega)]; exact z5 b i hb
  · rw [hnT] at hi
    by_cases ei : i = nT S
    · subst ei
      have hb4 : b = 0 ∨ b = 1 ∨ b = 2 ∨ b = 3 := by omega
      rcases hb4 with rfl | rfl | rfl | rfl
      · rw [rd_p (by omega), rd_o (by decide), rd_o (by decide), rd_o (by decide), rd_s]; simp [addTS]
      · rw [rd_p (by omega), rd_o (by decide), rd_o (by decide), rd_s]; simp [addTS]
      · rw [rd_p (by omega), rd_o (by decide), rd_s]; simp [addTS]
      · rw [rd_p (by omega), rd_s]; simp [addTS]
    · have e : (addTS S k a c) (10 + b) i = S (10 + b) i := by
        simp only [addTS]
        rw [if_neg (by omega), if_neg (by omega)]
      rw [rd_p (by omega), rd_p (by omega), rd_p (by omega), rd_p (by omega), rd_p (by omega), e]; exact mvT hS (by omega) hb
  · rw [hnN] at hi
    have e : (addTS S k a c) (14 + b) i = S (14 + b) i := by
      simp only [addTS]
      rw [if_neg (by omega), if_neg (by omega)]
    rw [rd_p (by omega), rd_o (by omega), rd_o (by omega), rd_o (by omega), rd_o (by omega), e]; exact mvN hS hi hb
  · rw [hnD] at hi
    have e : (addTS S k a c) (16 + b) i = S (16 + b) i := by
      simp only [addTS]
      rw [if_neg (by omega), if_neg (by omega)]
    rw [rd_p (by omega), rd_o (by omega), rd_o (by omega), rd_o (by omega), rd_o (by omega), e]; exact mvD hS hi hb
theorem mv_addN {M : jk_M} {S : HS} (hS : mv M.2.1 = S) (ok : Sok S) (c n : Int32) (hlt : nN S < 1000) : mv (jk_wI (jk_wI (jk_wI M 6 (nN S) c) 7 (nN S) n) 0 1 (nI (nN S + 1))).2.1 = (addNS S c n) := by
  obtain ⟨z1, z2, z3, z4, z5⟩ := mv_Hz hS
  have hnN : nN (addNS S c n) = nN S + 1 := by
    have e7 : (addNS S c n) 8 0 = nI (nN S + 1) := by unfold addNS; exact if_pos ⟨rfl, rfl⟩
    show ((addNS S c n) 8 0).toNatClampNeg = _
    rw [e7]
    exact nI_clamp (by omega)
  have hnT : nT (addNS S c n) = nT S := by
    simp only [nT, addNS]
    rw [if_neg (by omega), if_neg (by omega)]
  have hnD : nD (addNS S c n) = nD S := by
    simp only [nD, addNS]
    rw [if_neg (by omega), if_neg (by omega)]
  have m0 : ∀ b, b < 10 → mo b = 0 ∨ mo b = 12 := fun b _ => by unfold mo; split <;> omega
  refine mv_of (fun b hb => ?_) ⟨fun b i hb hi => ?_, fun b i hb hi => ?_, fun b i hb hi => ?_, fun b i hb hi => ?_, fun b i hb => ?_⟩ (fun b i hb hi => ?_) (fun b i hb hi => ?_) (fun b i hb hi => ?_)
  · by_cases e : b = 8
    · subst e
      show (jk_wI (jk_wI (jk_wI M 6 (nN S) c) 7 (nN S) n) 0 1 (nI (nN S + 1))).2.1 0 1 = _
      rw [rd_s]; simp [addNS]
    · have e2 : (addNS S c n) b 0 = S b 0 := by
        simp only [addNS]
        rw [if_neg (by omega), if_neg (by omega)]
      have hm := m0 b hb
      have hp : ¬ (mo b = 0 ∧ mk b = 1) := fun z => mo_inj hb (show 8 < 10 by decide) e z
      rw [rd_p hp, rd_o (by omega), rd_o (by omega), e2]; exact mvs hS hb
  · simp only [addNS]; rw [if_neg (by omega), if_neg (by omega)]; exact z1 b i hb hi
  · rw [hnT] at hi; simp only [addNS]; rw [if_neg (by omega), if_neg (by omega)]; exact z2 b i hb (by omega)
  · rw [hnN] at hi; simp only [addNS]; rw [if_neg (by omega), if_neg (by omega)]; exact z3 b i hb (by omega)
  · rw [hnD] at hi; simp only [addNS]; rw [if_neg (by omega), if_neg (by omega)]; exact z4 b i hb (by omega)
  · simp only [addNS]; rw [if_neg (by omega), if_neg (by omega)]; exact z5 b i hb
  · rw [hnT] at hi
    have e : (addNS S c n) (10 + b) i = S (10 + b) i := by
      simp only [addNS]
      rw [if_neg (by omega), if_neg (by omega)]
    rw [rd_p (by omega), rd_o (by omega), rd_o (by omega), e]; exact mvT hS hi hb
  · rw [hnN] at hi
    by_cases ei : i = nN S
    · subst ei
      have hb2 : b = 0 ∨ b = 1 := by omega
      rcases hb2 with rfl | rfl
      · rw [rd_p (by omega), rd_o (by decide), rd_s]; simp [addNS]
      · rw [rd_p (by omega), rd_s]; simp [addNS]
    · have e : (addNS S c n) (14 + b) i = S (14 + b) i := by
        simp only [addNS]
        rw [if_neg (by omega), if_neg (by omega)]
      rw [rd_p (by omega), rd_p (by omega), rd_p (by omega), e]; exact mvN hS (by omega) hb
  · rw [hnD] at hi
    have e : (addNS S c n) (16 + b) i = S (16 + b) i := by
      simp only [addNS]
      rw [if_neg (by omega), if_neg (by omega)]
    rw [rd_p (by omega), rd_o (by omega), rd_o (by omega), e]; exact mvD hS hi hb
theorem mv_addD {M : jk_M} {S : HS} (hS : mv M.2.1 = S) (ok : Sok S) (c w v : Int32) (hlt : nD S < 1000) : mv (jk_wI (jk_wI (jk_wI (jk_wI (jk_wI M 8 (nD S) c) 9 (nD S) w) 10 (nD S) v) 11 (nD S) 0) 0 2 (nI (nD S + 1))).2.1 = (addDS S c w v) := by
  obtain ⟨z1, z2, z3, z4, z5⟩ := mv_Hz hS
  have hnD : nD (addDS S c w v) = nD S + 1 := by
    have e7 : (addDS S c w v) 9 0 = nI (nD S + 1) := by unfold addDS; exact if_pos ⟨rfl, rfl⟩
    show ((addDS S c w v) 9 0).toNatClampNeg = _
    rw [e7]
    exact nI_clamp (by omega)
  have hnT : nT (addDS S c w v) = nT S := by
    simp only [nT, addDS]
    rw [if_neg (by omega), if_neg (by omega)]
  have hnN : nN (addDS S c w v) = nN S := by
    simp only [nN, addDS]
    rw [if_neg (by omega), if_neg (by omega)]
  have m0 : ∀ b, b < 10 → mo b = 0 ∨ mo b = 12 := fun b _ => by unfold mo; split <;> omega
  refine mv_of (fun b hb => ?_) ⟨fun b i hb hi => ?_, fun b i hb hi => ?_, fun b i hb hi => ?_, fun b i hb hi => ?_, fun b i hb => ?_⟩ (fun b i hb hi => ?_) (fun b i hb hi => ?_) (fun b i hb hi => ?_)
  · by_cases e : b = 9
    · subst e
      show (jk_wI (jk_wI (jk_wI (jk_wI (jk_wI M 8 (nD S) c) 9 (nD S) w) 10 (nD S) v) 11 (nD S) 0) 0 2 (nI (nD S + 1))).2.1 0 2 = _
      rw [rd_s]; simp [addDS]
    · have e2 : (addDS S c w v) b 0 = S b 0 := by
        simp only [addDS]
        rw [if_neg (by omega), if_neg (by omega)]
      have hm := m0 b hb
      have hp : ¬ (mo b = 0 ∧ mk b = 2) := fun z => mo_inj hb (show 9 < 10 by decide) e z
      rw [rd_p hp, rd_o (by omega), rd_o (by omega), rd_o (by omega), rd_o (by omega), e2]; exact mvs hS hb
  · simp only [addDS]; rw [if_neg (by omega), if_neg (by omega)]; exact z1 b i hb hi
  · rw [hnT] at hi; simp only [addDS]; rw [if_neg (by omega), if_neg (by omega)]; exact z2 b i hb (by omega)
  · rw [hnN] at hi; simp only [addDS]; rw [if_neg (by omega), if_neg (by omega)]; exact z3 b i hb (by omega)
  · rw [hnD] at hi; simp only [addDS]; rw [if_neg (by omega), if_neg (by omega)]; exact z4 b i hb (by omega)
  · simp only [addDS]; rw [if_neg (by omega), if_neg (by omega)]; exact z5 b i hb
  · rw [hnT] at hi
    have e : (addDS S c w v) (10 + b) i = S (10 + b) i := by
      simp only [addDS]
      rw [if_neg (by omega), if_neg (by omega)]
    rw [rd_p (by omega), rd_o (by omega), rd_o (by omega), rd_o (by omega), rd_o (by omega), e]; exact mvT hS hi hb
  · rw [hnN] at hi
    have e : (addDS S c w v) (14 + b) i = S (14 + b) i := by
      simp only [addDS]
      rw [if_neg (by omega), if_neg (by omega)]
    rw [rd_p (by omega), rd_o (by omega), rd_o (by omega), rd_o (by omega), rd_o (by omega), e]; exact mvN hS hi hb
  · rw [hnD] at hi
    by_cases ei : i = nD S
    · subst ei
      have hb4 : b = 0 ∨ b = 1 ∨ b = 2 ∨ b = 3 := by omega
      rcases hb4 with rfl | rfl | rfl | rfl
      · rw [rd_p (by omega), rd_o (by decide), rd_o (by decide), rd_o (by decide), rd_s]; simp [addDS]
      · rw [rd_p (by omega), rd_o (by decide), rd_o (by decide), rd_s]; simp [addDS]
      · rw [rd_p (by omega), rd_o (by decide), rd_s]; simp [addDS]
      · rw [rd_p (by omega), rd_s]; simp [addDS]
    · have e : (addDS S c w v) (16 + b) i = S (16 + b) i := by
        simp only [addDS]
        rw [if_neg (by omega), if_neg (by omega)]
      rw [rd_p (by omega), rd_p (by omega), rd_p (by omega), rd_p (by omega), rd_p (by omega), e]; exact mvD hS (by omega) hb
set_option maxRecDepth 20000 in
set_option maxHeartbeats 4000000 in
theorem T_X11_addsThing {d : Nat} {M : jk_M} {S : HS} (hM : WM M) (hS : mv M.2.1 = S) (ok : Sok S) (k a c : Int32) (hlt : nT S < 16) : J Fr_X11_addsThing d 0 0 0 [(0, .ref 0), (1, .int k), (2, .int a), (3, .int c)] [] M (jk_ex (some (.int (nI (nT S)))) (fun M1 => Fm PA M M1 ∧ mv M1.2.1 = addTS S k a c)) := by
  refine j_post (fun Q hQ => ?_)
  refine j_aload_n 0 dX11_addsThing_0 rfl ?_
  refine j_getr (q := 2) dX11_addsThing_1 fX11_29 (shM hM sgM_0) rfl (rfM hM rfM_0_10) ?_
  refine j_aload_n 0 dX11_addsThing_4 rfl ?_
  refine j_getv (nI (nT S)) dX11_addsThing_5 fX11_123 (shM hM sgM_0) rfl ((mr_T hS).trans (Sok.T ok).1) ?_
  refine j_iload_n 1 dX11_addsThing_8 rfl ?_
  refine j_iastN (nT S) dX11_addsThing_9 (shM hM sgM_2) (by omega) (by omega) ?_
  have sm1 : Fm PA M (jk_wI M 2 (nT S) k) := Fm.w Fm.rf (by unfold PA; omega)
  refine j_aload_n 0 dX11_addsThing_10 rfl ?_
  refine j_getr (q := 3) dX11_addsThing_11 fX11_32 (shM (Fm.M sm1 hM) sgM_0) rfl (rfM (Fm.M sm1 hM) rfM_0_11) ?_
  refine j_aload_n 0 dX11_addsThing_14 rfl ?_
  refine j_getv (nI (nT S)) dX11_addsThing_15 fX11_123 (shM (Fm.M sm1 hM) sgM_0) rfl ((rd_o (by decide)).trans (((mr_T hS).trans (Sok.T ok).1))) ?_
  refine j_iload_n 2 dX11_addsThing_18 rfl ?_
  refine j_iastN (nT S) dX11_addsThing_19 (shM (Fm.M sm1 hM) sgM_3) (by omega) (by omega) ?_
  have sm2 : Fm PA M (jk_wI (jk_wI M 2 (nT S) k) 3 (nT S) a) := Fm.w sm1 (by unfold PA; omega)
  refine j_aload_n 0 dX11_addsThing_20 rfl ?_
  refine j_getr (q := 4) dX11_addsThing_21 fX11_35 (shM (Fm.M sm2 hM) sgM_0) rfl (rfM (Fm.M sm2 hM) rfM_0_12) ?_
  refine j_aload_n 0 dX11_addsThing_24 rfl ?_
  refine j_getv (nI (nT S)) dX11_addsThing_25 fX11_123 (shM (Fm.M sm2 hM) sgM_0) rfl ((rd_o (by decide)).trans ((rd_o (by decide)).trans (((mr_T hS).trans (Sok.T ok).1)))) ?_
  refine j_iload_n 3 dX11_addsThing_28 rfl ?_
  refine j_iastN (nT S) dX11_addsThing_29 (shM (Fm.M sm2 hM) sgM_4) (by omega) (by omega) ?_
  have sm3 : Fm PA M (jk_wI (jk_wI (jk_wI M 2 (nT S) k) 3 (nT S) a) 4 (nT S) c) := Fm.w sm2 (by unfold PA; omega)
  refine j_aload_n 0 dX11_addsThing_30 rfl ?_
  refine j_getr (q := 5) dX11_addsThing_31 fX11_38 (shM (Fm.M sm3 hM) sgM_0) rfl (rfM (Fm.M sm3 hM) rfM_0_13) ?_
  refine j_aload_n 0 dX11_addsThing_34 rfl ?_
  refine j_getv (nI (nT S)) dX11_addsThing_35 fX11_123 (shM (Fm.M sm3 hM) sgM_0) rfl ((rd_o (by decide)).trans ((rd_o (by decide)).trans ((rd_o (by decide)).trans (((mr_T hS).trans (Sok.T ok).1))))) ?_
  refine j_iconst 1 dX11_addsThing_38 ic_1 ?_
  refine j_iastN (nT S) dX11_addsThing_39 (shM (Fm.M sm3 hM) sgM_5) (by omega) (by omega) ?_
  have sm4 : Fm PA M (jk_wI (jk_wI (jk_wI (jk_wI M 2 (nT S) k) 3 (nT S) a) 4 (nT S) c) 5 (nT S) 1) := Fm.w sm3 (by unfold PA; omega)
  refine j_aload_n 0 dX11_addsThing_40 rfl ?_
  refine j_dup dX11_addsThing_41 rfl ?_
  refine j_getv (nI (nT S)) dX11_addsThing_42 fX11_123 (shM (Fm.M sm4 hM) sgM_0) rfl ((rd_o (by decide)).trans ((rd_o (by decide)).trans ((rd_o (by decide)).trans ((rd_o (by decide)).trans (((mr_T hS).trans (Sok.T ok).1)))))) ?_
  refine j_dup_x1 dX11_addsThing_45 rfl rfl ?_
  refine j_iconst 1 dX11_addsThing_46 ic_1 ?_
  refine j_iaddN (nT S) 1 dX11_addsThing_47 ?_
  refine j_put dX11_addsThing_48 fX11_123 (shM (Fm.M sm4 hM) sgM_0) rfl ?_
  have sm5 : Fm PA M (jk_wI (jk_wI (jk_wI (jk_wI (jk_wI M 2 (nT S) k) 3 (nT S) a) 4 (nT S) c) 5 (nT S) 1) 0 0 (nI ((nT S) + 1))) := Fm.w sm4 (by unfold PA; omega)
  refine j_iret dX11_addsThing_51 rfl ?_
  exact hQ _ _ ⟨rfl, sm5, mv_addT hS ok k a c (by omega)⟩
set_option maxRecDepth 20000 in
set_option maxHeartbeats 4000000 in
theorem T_X11_addsNeighbour {d : Nat} {M : jk_M} {S : HS} (hM : WM M) (hS : mv M.2.1 = S) (ok : Sok S) (c n : Int32) (hlt : nN S < 8) : J Fr_X11_addsNeighbour d 0 0 0 [(0, .ref 0), (1, .int c), (2, .int n)] [] M (jk_ex (some (.int (nI (nN S)))) (fun M1 => Fm PA M M1 ∧ mv M1.2.1 = addNS S c n)) := by
  refine j_post (fun Q hQ => ?_)
  refine j_aload_n 0 dX11_addsNeighbour_0 rfl ?_
  refine j_getr (q := 6) dX11_addsNeighbour_1 fX11_41 (shM hM sgM_0) rfl (rfM hM rfM_0_14) ?_
  refine j_aload_n 0 dX11_addsNeighbour_4 rfl ?_
  refine j_getv (nI (nN S)) dX11_addsNeighbour_5 fX11_144 (shM hM sgM_0) rfl ((mr_N hS).trans (Sok.N ok).1) ?_
  refine j_iload_n 1 dX11_addsNeighbour_8 rfl ?_
  refine j_iastN (nN S) dX11_addsNeighbour_9 (shM hM sgM_6) (by omega) (by omega) ?_
  have sm1 : Fm PA M (jk_wI M 6 (nN S) c) := Fm.w Fm.rf (by unfold PA; omega)
  refine j_aload_n 0 dX11_addsNeighbour_10 rfl ?_
  refine j_getr (q := 7) dX11_addsNeighbour_11 fX11_44 (shM (Fm.M sm1 hM) sgM_0) rfl (rfM (Fm.M sm1 hM) rfM_0_15) ?_
  refine j_aload_n 0 dX11_addsNeighbour_14 rfl ?_
  refine j_getv (nI (nN S)) dX11_addsNeighbour_15 fX11_144 (shM (Fm.M sm1 hM) sgM_0) rfl ((rd_o (by decide)).trans (((mr_N hS).trans (Sok.N ok).1))) ?_
  refine j_iload_n 2 dX11_addsNeighbour_18 rfl ?_
  refine j_iastN (nN S) dX11_addsNeighbour_19 (shM (Fm.M sm1 hM) sgM_7) (by omega) (by omega) ?_
  have sm2 : Fm PA M (jk_wI (jk_wI M 6 (nN S) c) 7 (nN S) n) := Fm.w sm1 (by unfold PA; omega)
  refine j_aload_n 0 dX11_addsNeighbour_20 rfl ?_
  refine j_dup dX11_addsNeighbour_21 rfl ?_
  refine j_getv (nI (nN S)) dX11_addsNeighbour_22 fX11_144 (shM (Fm.M sm2 hM) sgM_0) rfl ((rd_o (by decide)).trans ((rd_o (by decide)).trans (((mr_N hS).trans (Sok.N ok).1)))) ?_
  refine j_dup_x1 dX11_addsNeighbour_25 rfl rfl ?_
  refine j_iconst 1 dX11_addsNeighbour_26 ic_1 ?_
  refine j_iaddN (nN S) 1 dX11_addsNeighbour_27 ?_
  refine j_put dX11_addsNeighbour_28 fX11_144 (shM (Fm.M sm2 hM) sgM_0) rfl ?_
  have sm3 : Fm PA M (jk_wI (jk_wI (jk_wI M 6 (nN S) c) 7 (nN S) n) 0 1 (nI ((nN S) + 1))) := Fm.w sm2 (by unfold PA; omega)
  refine j_iret dX11_addsNeighbour_31 rfl ?_
  exact hQ _ _ ⟨rfl, sm3, mv_addN hS ok c n (by omega)⟩
set_option maxRecDepth 20000 in
set_option maxHeartbeats 4000000 in
theorem T_X11_addsDevice {d : Nat} {M : jk_M} {S : HS} (hM : WM M) (hS : mv M.2.1 = S) (ok : Sok S) (c w v : Int32) (hlt : nD S < 6) : J Fr_X11_addsDevice d 0 0 0 [(0, .ref 0), (1, .int c), (2, .int w), (3, .int v)] [] M (jk_ex (some (.int (nI (nD S)))) (fun M1 => Fm PA M M1 ∧ mv M1.2.1 = addDS S c w v)) := by
  refine j_post (fun Q hQ => ?_)
  refine j_aload_n 0 dX11_addsDevice_0 rfl ?_
  refine j_getr (q := 8) dX11_addsDevice_1 fX11_47 (shM hM sgM_0) rfl (rfM hM rfM_0_16) ?_
  refine j_aload_n 0 dX11_addsDevice_4 rfl ?_
  refine j_getv (nI (nD S)) dX11_addsDevice_5 fX11_147 (shM hM sgM_0) rfl ((mr_D hS).trans (Sok.D ok).1) ?_
  refine j_iload_n 1 dX11_addsDevice_8 rfl ?_
  refine j_iastN (nD S) dX11_addsDevice_9 (shM hM sgM_8) (by omega) (by omega) ?_
  have sm1 : Fm PA M (jk_wI M 8 (nD S) c) := Fm.w Fm.rf (by unfold PA; omega)
  refine j_aload_n 0 dX11_addsDevice_10 rfl ?_
  refine j_getr (q := 9) dX11_addsDevice_11 fX11_50 (shM (Fm.M sm1 hM) sgM_0) rfl (rfM (Fm.M sm1 hM) rfM_0_17) ?_
  refine j_aload_n 0 dX11_addsDevice_14 rfl ?_
  refine j_getv (nI (nD S)) dX11_addsDevice_15 fX11_147 (shM (Fm.M sm1 hM) sgM_0) rfl ((rd_o (by decide)).trans (((mr_D hS).trans (Sok.D ok).1))) ?_
  refine j_iload_n 2 dX11_addsDevice_18 rfl ?_
  refine j_iastN (nD S) dX11_addsDevice_19 (shM (Fm.M sm1 hM) sgM_9) (by omega) (by omega) ?_
  have sm2 : Fm PA M (jk_wI (jk_wI M 8 (nD S) c) 9 (nD S) w) := Fm.w sm1 (by unfold PA; omega)
  refine j_aload_n 0 dX11_addsDevice_20 rfl ?_
  refine j_getr (q := 10) dX11_addsDevice_21 fX11_53 (shM (Fm.M sm2 hM) sgM_0) rfl (rfM (Fm.M sm2 hM) rfM_0_18) ?_
  refine j_aload_n 0 dX11_addsDevice_24 rfl ?_
  refine j_getv (nI (nD S)) dX11_addsDevice_25 fX11_147 (shM (Fm.M sm2 hM) sgM_0) rfl ((rd_o (by decide)).trans ((rd_o (by decide)).trans (((mr_D hS).trans (Sok.D ok).1)))) ?_
  refine j_iload_n 3 dX11_addsDevice_28 rfl ?_
  refine j_iastN (nD S) dX11_addsDevice_29 (shM (Fm.M sm2 hM) sgM_10) (by omega) (by omega) ?_
  have sm3 : Fm PA M (jk_wI (jk_wI (jk_wI M 8 (nD S) c) 9 (nD S) w) 10 (nD S) v) := Fm.w sm2 (by unfold PA; omega)
  refine j_aload_n 0 dX11_addsDevice_30 rfl ?_
  refine j_getr (q := 11) dX11_addsDevice_31 fX11_56 (shM (Fm.M sm3 hM) sgM_0) rfl (rfM (Fm.M sm3 hM) rfM_0_19) ?_
  refine j_aload_n 0 dX11_addsDevice_34 rfl ?_
  refine j_getv (nI (nD S)) dX11_addsDevice_35 fX11_147 (shM (Fm.M sm3 hM) sgM_0) rfl ((rd_o (by decide)).trans ((rd_o (by decide)).trans ((rd_o (by decide)).trans (((mr_D hS).trans (Sok.D ok).1))))) ?_
  refine j_iconst 0 dX11_addsDevice_38 ic_0 ?_
  refine j_iastN (nD S) dX11_addsDevice_39 (shM (Fm.M sm3 hM) sgM_11) (by omega) (by omega) ?_
  have sm4 : Fm PA M (jk_wI (jk_wI (jk_wI (jk_wI M 8 (nD S) c) 9 (nD S) w) 10 (nD S) v) 11 (nD S) 0) := Fm.w sm3 (by unfold PA; omega)
  refine j_aload_n 0 dX11_addsDevice_40 rfl ?_
  refine j_dup dX11_addsDevice_41 rfl ?_
  refine j_getv (nI (nD S)) dX11_addsDevice_42 fX11_147 (shM (Fm.M sm4 hM) sgM_0) rfl ((rd_o (by decide)).trans ((rd_o (by decide)).trans ((rd_o (by decide)).trans ((rd_o (by decide)).trans (((mr_D hS).trans (Sok.D ok).1)))))) ?_
  refine j_dup_x1 dX11_addsDevice_45 rfl rfl ?_
  refine j_iconst 1 dX11_addsDevice_46 ic_1 ?_
  refine j_iaddN (nD S) 1 dX11_addsDevice_47 ?_
  refine j_put dX11_addsDevice_48 fX11_147 (shM (Fm.M sm4 hM) sgM_0) rfl ?_
  have sm5 : Fm PA M (jk_wI (jk_wI (jk_wI (jk_wI (jk_wI M 8 (nD S) c) 9 (nD S) w) 10 (nD S) v) 11 (nD S) 0) 0 2 (nI ((nD S) + 1))) := Fm.w sm4 (by unfold PA; omega)
  refine j_iret dX11_addsDevice_51 rfl ?_
  exact hQ _ _ ⟨rfl, sm5, mv_addD hS ok c w v (by omega)⟩
set_option maxRecDepth 20000 in
set_option maxHeartbeats 4000000 in
theorem T_asked0 {d : Nat} {M : jk_M} (hM : WM M) (v : Int32) : J Fr_X11_isAsked (d + 1) 0 0 0 [(0, .ref 0), (1, .int 0), (2, .int v)] [] M (jk_is (some (.int (bI (10 ≤ v ∧ v ≤ 60)))) M) := by
  refine j_post (fun Q hQ => ?_)
  refine j_iload_n 1 dX11_isAsked_0 rfl ?_
  refine j_if_ne (tgt := 16) dX11_isAsked_1 rfl (fun c1 => ?_) (fun c1 => ?_)
  · exact absurd c1 (by decide)
  · refine j_aload_n 0 dX11_isAsked_4 rfl ?_
    refine j_iload_n 2 dX11_isAsked_5 rfl ?_
    refine j_bipush 10 dX11_isAsked_6 bp_10 ?_
    refine j_bipush 60 dX11_isAsked_8 bp_60 ?_
    refine j_callV (kc := 0) (ks := 0) (a := 0) (b := 0) (d' := d) (As := [.int v, .int 10, .int 60]) dX11_isAsked_10 kX11_150 rfl (shM hM sgM_0) (by omega) rfl rfl rfl (Nat.le_of_ble_eq_true rfl) (Nat.le_of_ble_eq_true rfl) (T_X11_isFrom v 10 60) (kk_p ?_)
    refine j_goto (tgt := 40) dX11_isAsked_13 rfl ?_
    refine j_zret dX11_isAsked_40 rfl bI_nar ?_
    exact hQ _ _ ⟨rfl, rfl⟩
set_option maxRecDepth 20000 in
set_option maxHeartbeats 4000000 in
theorem T_asked1 {d : Nat} {M : jk_M} (hM : WM M) (v : Int32) : J Fr_X11_isAsked (d + 1) 0 0 0 [(0, .ref 0), (1, .int 1), (2, .int v)] [] M (jk_is (some (.int (bI (1 ≤ v ∧ v ≤ 13)))) M) := by
  refine j_post (fun Q hQ => ?_)
  refine j_iload_n 1 dX11_isAsked_0 rfl ?_
  refine j_if_ne (tgt := 16) dX11_isAsked_1 rfl (fun c1 => ?_) (fun c1 => ?_)
  · refine j_iload_n 1 dX11_isAsked_16 rfl ?_
    refine j_iconst 1 dX11_isAsked_17 ic_1 ?_
    refine j_icmp_ne (tgt := 32) dX11_isAsked_18 rfl (fun c2 => ?_) (fun c2 => ?_)
    · exact absurd c2 (by decide)
    · refine j_aload_n 0 dX11_isAsked_21 rfl ?_
      refine j_iload_n 2 dX11_isAsked_22 rfl ?_
      refine j_iconst 1 dX11_isAsked_23 ic_1 ?_
      refine j_bipush 13 dX11_isAsked_24 bp_13 ?_
      refine j_callV (kc := 0) (ks := 0) (a := 0) (b := 0) (d' := d) (As := [.int v, .int 1, .int 13]) dX11_isAsked_26 kX11_150 rfl (shM hM sgM_0) (by omega) rfl rfl rfl (Nat.le_of_ble_eq_true rfl) (Nat.le_of_ble_eq_true rfl) (T_X11_isFrom v 1 13) (kk_p ?_)
      refine j_goto (tgt := 40) dX11_isAsked_29 rfl ?_
      refine j_zret dX11_isAsked_40 rfl bI_nar ?_
      exact hQ _ _ ⟨rfl, rfl⟩
  · exact absurd c1 (by decide)
set_option maxRecDepth 20000 in
set_option maxHeartbeats 4000000 in
theorem T_asked2 {d : Nat} {M : jk_M} (hM : WM M) (v : Int32) : J Fr_X11_isAsked (d + 1) 0 0 0 [(0, .ref 0), (1, .int 2), (2, .int v)] [] M (jk_is (some (.int (bI (0 ≤ v ∧ v ≤ 59)))) M) := by
  refine j_post (fun Q hQ => ?_)
  refine j_iload_n 1 dX11_isAsked_0 rfl ?_
  refine j_if_ne (tgt := 16) dX11_isAsked_1 rfl (fun c1 => ?_) (fun c1 => ?_)
  · refine j_iload_n 1 dX11_isAsked_16 rfl ?_
    refine j_iconst 1 dX11_isAsked_17 ic_1 ?_
    refine j_icmp_ne (tgt := 32) dX11_isAsked_18 rfl (fun c2 => ?_) (fun c2 => ?_)
    · refine j_aload_n 0 dX11_isAsked_32 rfl ?_
      refine j_iload_n 2 dX11_isAsked_33 rfl ?_
      refine j_iconst 0 dX11_isAsked_34 ic_0 ?_
      refine j_bipush 59 dX11_isAsked_35 bp_59 ?_
      refine j_callV (kc := 0) (ks := 0) (a := 0) (b := 0) (d' := d) (As := [.int v, .int 0, .int 59]) dX11_isAsked_37 kX11_150 rfl (shM hM sgM_0) (by omega) rfl rfl rfl (Nat.le_of_ble_eq_true rfl) (Nat.le_of_ble_eq_true rfl) (T_X11_isFrom v 0 59) (kk_p ?_)
      refine j_zret dX11_isAsked_40 rfl bI_nar ?_
      exact hQ _ _ ⟨rfl, rfl⟩
    · exact absurd c2 (by decide)
  · exact absurd c1 (by decide)
set_option maxRecDepth 20000 in
set_option maxHeartbeats 4000000 in
theorem T_tells0 {d : Nat} {M : jk_M} (hM : WM M) (v : Int32) : J Fr_X11_tells d 0 0 0 [(0, .ref 0), (1, .int 0), (2, .int v)] [] M (jk_is none (jk_wI M 0 4 v)) := by
  refine j_post (fun Q hQ => ?_)
  refine j_iload_n 1 dX11_tells_0 rfl ?_
  refine j_if_ne (tgt := 12) dX11_tells_1 rfl (fun c1 => ?_) (fun c1 => ?_)
  · exact absurd c1 (by decide)
  · refine j_aload_n 0 dX11_tells_4 rfl ?_
    refine j_iload_n 2 dX11_tells_5 rfl ?_
    refine j_put dX11_tells_6 fX11_13 (shM hM sgM_0) rfl ?_
    refine j_goto (tgt := 30) dX11_tells_9 rfl ?_
    refine j_vret dX11_tells_30 rfl ?_
    exact hQ _ _ ⟨rfl, rfl⟩
set_option maxRecDepth 20000 in
set_option maxHeartbeats 4000000 in
theorem T_tells1 {d : Nat} {M : jk_M} (hM : WM M) (v : Int32) : J Fr_X11_tells d 0 0 0 [(0, .ref 0), (1, .int 1), (2, .int v)] [] M (jk_is none (jk_wI M 0 5 v)) := by
  refine j_post (fun Q hQ => ?_)
  refine j_iload_n 1 dX11_tells_0 rfl ?_
  refine j_if_ne (tgt := 12) dX11_tells_1 rfl (fun c1 => ?_) (fun c1 => ?_)
  · refine j_iload_n 1 dX11_tells_12 rfl ?_
    refine j_iconst 1 dX11_tells_13 ic_1 ?_
    refine j_icmp_ne (tgt := 25) dX11_tells_14 rfl (fun c2 => ?_) (fun c2 => ?_)
    · exact absurd c2 (by decide)
    · refine j_aload_n 0 dX11_tells_17 rfl ?_
      refine j_iload_n 2 dX11_tells_18 rfl ?_
      refine j_put dX11_tells_19 fX11_16 (shM hM sgM_0) rfl ?_
      refine j_goto (tgt := 30) dX11_tells_22 rfl ?_
      refine j_vret dX11_tells_30 rfl ?_
      exact hQ _ _ ⟨rfl, rfl⟩
  · exact absurd c1 (by decide)
set_option maxRecDepth 20000 in
set_option maxHeartbeats 4000000 in
theorem T_tells2 {d : Nat} {M : jk_M} (hM : WM M) (v : Int32) : J Fr_X11_tells d 0 0 0 [(0, .ref 0), (1, .int 2), (2, .int v)] [] M (jk_is none (jk_wI M 0 6 v)) := by
  refine j_post (fun Q hQ => ?_)
  refine j_iload_n 1 dX11_tells_0 rfl ?_
  refine j_if_ne (tgt := 12) dX11_tells_1 rfl (fun c1 => ?_) (fun c1 => ?_)
  · refine j_iload_n 1 dX11_tells_12 rfl ?_
    refine j_iconst 1 dX11_tells_13 ic_1 ?_
    refine j_icmp_ne (tgt := 25) dX11_tells_14 rfl (fun c2 => ?_) (fun c2 => ?_)
    · refine j_aload_n 0 dX11_tells_25 rfl ?_
      refine j_iload_n 2 dX11_tells_26 rfl ?_
      refine j_put dX11_tells_27 fX11_170 (shM hM sgM_0) rfl ?_
      refine j_vret dX11_tells_30 rfl ?_
      exact hQ _ _ ⟨rfl, rfl⟩
    · exact absurd c2 (by decide)
  · exact absurd c1 (by decide)
set_option maxRecDepth 20000 in
set_option maxHeartbeats 4000000 in
theorem N_side {d : Nat} {M : jk_M} {Z : ZS} (cv : MV M Z) (ok : Zok Z) (n : Int32) : J Fr_X11_side (d + 1) 0 0 0 [(0, .ref 0), (1, .int n)] [] M (jk_ex (some (.int (sideZ Z n).1)) (fun M1 => MV M1 (sideZ Z n).2)) := by
  refine j_post (fun Q hQ => ?_)
  have hM := cv.1
  have hS := cv.2.1
  have okS := ok.1
  have h40 := cv.2.2.2.2.2.2.2.2.2.2.1
  refine j_aload_n 0 dX11_side_0 rfl ?_
  refine j_iload_n 1 dX11_side_1 rfl ?_
  refine j_aload_n 0 dX11_side_2 rfl ?_
  refine j_getv (Z.1 0 0) dX11_side_3 fX11_7 (shM hM sgM_0) rfl (mr_side hS) ?_
  refine j_bipush 8 dX11_side_6 bp_8 ?_
  refine j_callV (kc := 0) (ks := 0) (a := 0) (b := 0) (d' := d) (As := [.int n, .int (Z.1 0 0), .int 8]) dX11_side_8 kX11_150 rfl (shM hM sgM_0) (by omega) rfl rfl rfl (Nat.le_of_ble_eq_true rfl) (Nat.le_of_ble_eq_true rfl) (T_X11_isFrom n (Z.1 0 0) 8) (kk_p ?_)
  refine j_if_neB (p := ((Z.1 0 0) ≤ n ∧ n ≤ 8)) (tgt := 21) dX11_side_11 rfl (fun c1 => ?_) (fun c1 => ?_)
  · refine j_aload_n 0 dX11_side_21 rfl ?_
    refine j_getv (Z.1 0 0) dX11_side_22 fX11_7 (shM hM sgM_0) rfl (mr_side hS) ?_
    refine j_istore_n (L' := [(2, .int (Z.1 0 0)), (0, .ref 0), (1, .int n)]) dX11_side_25 (by decide) rfl ?_
    refine j_aload_n 1 dX11_side_26 rfl ?_
    refine j_iload_n 2 dX11_side_27 rfl ?_
    refine j_put dX11_side_28 fX11_7 (shM hM sgM_0) rfl ?_
    have sm2 : Fm PO M (jk_wI M 0 3 n) := Fm.w Fm.rf (by unfold PO PH PS; omega)
    refine j_iload_n 0 dX11_side_31 rfl ?_
    refine j_iret dX11_side_32 rfl ?_
    have hz : sideZ Z n = ((Z.1 0 0), nowZ Z (upS Z.1 0 0 n)) := by
      clear hQ
      clear cv hM hS
      have hmy := may_0 okS (v := n)
      grind [sideZ, cif]
    exact hQ _ _ ⟨by rw [hz], by rw [hz]; exact MV.now cv sm2 (mv_sc (a := 0) hS (by decide) (by decide) (by decide) (by decide))⟩
  · refine j_aload_n 0 dX11_side_14 rfl ?_
    refine j_bipush (-6) dX11_side_15 bp_n6 ?_
    refine j_callV (kc := 0) (ks := 0) (a := 0) (b := 0) (d' := d) (As := [.int (-6)]) dX11_side_17 kX11_130 rfl (shM hM sgM_0) (by omega) rfl rfl rfl (Nat.le_of_ble_eq_true rfl) (Nat.le_of_ble_eq_true rfl) (T_X11_no hM (-6) (by decide)) (kk_p ?_)
    refine j_iret dX11_side_20 rfl ?_
    have hz : sideZ Z n = ((-6), (refZ Z (-6))) := by
      clear hQ
      clear cv hM hS
      have hmy := may_0 okS (v := n)
      grind [sideZ, cif]
    exact hQ _ _ ⟨by rw [hz], by rw [hz]; exact MV.rf cv (by decide)⟩
set_option maxRecDepth 20000 in
set_option maxHeartbeats 4000000 in
theorem N_seed {d : Nat} {M : jk_M} {Z : ZS} (cv : MV M Z) (ok : Zok Z) (v : Int32) : J Fr_X11_seed d 0 0 0 [(0, .ref 0), (1, .int v)] [] M (jk_ex (some (.int (seedZ Z v).1)) (fun M1 => MV M1 (seedZ Z v).2)) := by
  refine j_post (fun Q hQ => ?_)
  have hM := cv.1
  have hS := cv.2.1
  have okS := ok.1
  have h40 := cv.2.2.2.2.2.2.2.2.2.2.1
  refine j_aload_n 0 dX11_seed_0 rfl ?_
  refine j_getv (Z.1 4 0) dX11_seed_1 fX11_19 (shM hM sgM_0) rfl (mr_seed hS) ?_
  refine j_istore_n (L' := [(2, .int (Z.1 4 0)), (0, .ref 0), (1, .int v)]) dX11_seed_4 (by decide) rfl ?_
  refine j_aload_n 1 dX11_seed_5 rfl ?_
  refine j_iload_n 2 dX11_seed_6 rfl ?_
  refine j_put dX11_seed_7 fX11_19 (shM hM sgM_0) rfl ?_
  have sm1 : Fm PO M (jk_wI M 0 7 v) := Fm.w Fm.rf (by unfold PO PH PS; omega)
  refine j_iload_n 0 dX11_seed_10 rfl ?_
  refine j_iret dX11_seed_11 rfl ?_
  have hz : seedZ Z v = ((Z.1 4 0), nowZ Z (upS Z.1 4 0 v)) := by
    clear hQ
    clear cv hM hS
    grind [seedZ, cif]
  exact hQ _ _ ⟨by rw [hz], by rw [hz]; exact MV.now cv sm1 (mv_sc (a := 4) hS (by decide) (by decide) (by decide) (by decide))⟩
set_option maxRecDepth 20000 in
set_option maxHeartbeats 4000000 in
theorem N_thing {d : Nat} {M : jk_M} {Z : ZS} (cv : MV M Z) (ok : Zok Z) (k : Int32) (a : Int32) (c : Int32) : J Fr_X11_thing (d + 1) 0 0 0 [(0, .ref 0), (1, .int k), (2, .int a), (3, .int c)] [] M (jk_ex (some (.int (thingZ Z k a c).1)) (fun M1 => MV M1 (thingZ Z k a c).2)) := by
  refine j_post (fun Q hQ => ?_)
  have hM := cv.1
  have hS := cv.2.1
  have okS := ok.1
  have h40 := cv.2.2.2.2.2.2.2.2.2.2.1
  have hT := (Sok.T okS).2
  refine j_iload_n 1 dX11_thing_0 rfl ?_
  refine j_if_lt (tgt := 10) dX11_thing_1 rfl (fun c1 => ?_) (fun c1 => ?_)
  · refine j_aload_n 0 dX11_thing_10 rfl ?_
    refine j_iconst (-1) dX11_thing_11 ic_n1 ?_
    refine j_callV (kc := 0) (ks := 0) (a := 0) (b := 0) (d' := d) (As := [.int (-1)]) dX11_thing_12 kX11_130 rfl (shM hM sgM_0) (by omega) rfl rfl rfl (Nat.le_of_ble_eq_true rfl) (Nat.le_of_ble_eq_true rfl) (T_X11_no hM (-1) (by decide)) (kk_p ?_)
    refine j_iret dX11_thing_15 rfl ?_
    have hz : thingZ Z k a c = ((-1), (refZ Z (-1))) := by
      clear hQ
      clear cv hM hS
      grind [thingZ, cif, may_1, may_2]
    exact hQ _ _ ⟨by rw [hz], by rw [hz]; exact MV.rf cv (by decide)⟩
  · refine j_iload_n 1 dX11_thing_4 rfl ?_
    refine j_bipush 6 dX11_thing_5 bp_6 ?_
    refine j_icmp_le (tgt := 16) dX11_thing_7 rfl (fun c2 => ?_) (fun c2 => ?_)
    · refine j_aload_n 0 dX11_thing_16 rfl ?_
      refine j_iload_n 2 dX11_thing_17 rfl ?_
      refine j_iconst 0 dX11_thing_18 ic_0 ?_
      refine j_bipush 9 dX11_thing_19 bp_9 ?_
      refine j_callV (kc := 0) (ks := 0) (a := 0) (b := 0) (d' := d) (As := [.int a, .int 0, .int 9]) dX11_thing_21 kX11_150 rfl (shM hM sgM_0) (by omega) rfl rfl rfl (Nat.le_of_ble_eq_true rfl) (Nat.le_of_ble_eq_true rfl) (T_X11_isFrom a 0 9) (kk_p ?_)
      refine j_if_eqB (p := (0 ≤ a ∧ a ≤ 9)) (tgt := 35) dX11_thing_24 rfl (fun c3 => ?_) (fun c3 => ?_)
      · refine j_aload_n 0 dX11_thing_35 rfl ?_
        refine j_bipush (-6) dX11_thing_36 bp_n6 ?_
        refine j_callV (kc := 0) (ks := 0) (a := 0) (b := 0) (d' := d) (As := [.int (-6)]) dX11_thing_38 kX11_130 rfl (shM hM sgM_0) (by omega) rfl rfl rfl (Nat.le_of_ble_eq_true rfl) (Nat.le_of_ble_eq_true rfl) (T_X11_no hM (-6) (by decide)) (kk_p ?_)
        refine j_iret dX11_thing_41 rfl ?_
        have hz : thingZ Z k a c = ((-6), (refZ Z (-6))) := by
          clear hQ
          clear cv hM hS
          grind [thingZ, cif, may_1, may_2]
        exact hQ _ _ ⟨by rw [hz], by rw [hz]; exact MV.rf cv (by decide)⟩
      · refine j_aload_n 0 dX11_thing_27 rfl ?_
        refine j_iload_n 3 dX11_thing_28 rfl ?_
        refine j_callV (kc := 0) (ks := 0) (a := 0) (b := 0) (d' := d) (As := [.int c]) dX11_thing_29 kX11_154 rfl (shM hM sgM_0) (by omega) rfl rfl rfl (Nat.le_of_ble_eq_true rfl) (Nat.le_of_ble_eq_true rfl) (T_X11_isCell hM hS okS c) (kk_p ?_)
        refine j_if_neB (p := (isC Z.1 c)) (tgt := 42) dX11_thing_32 rfl (fun c4 => ?_) (fun c4 => ?_)
        · refine j_aload_n 0 dX11_thing_42 rfl ?_
          refine j_getv (nI (nT Z.1)) dX11_thing_43 fX11_123 (shM hM sgM_0) rfl ((mr_T hS).trans (Sok.T okS).1) ?_
          refine j_bipush 16 dX11_thing_46 bp_16 ?_
          refine j_icmp_neN (tgt := 60) (nT Z.1) 16 dX11_thing_48 rfl (by omega) (by omega) (fun c5 => ?_) (fun c5 => ?_)
          · refine j_aload_n 0 dX11_thing_60 rfl ?_
            refine j_iload_n 1 dX11_thing_61 rfl ?_
            refine j_iload_n 2 dX11_thing_62 rfl ?_
            refine j_iload_n 3 dX11_thing_63 rfl ?_
            refine j_callV (kc := 0) (ks := 0) (a := 0) (b := 0) (d' := d) (As := [.int k, .int a, .int c]) dX11_thing_64 kX11_157 rfl (shM hM sgM_0) (by omega) rfl rfl rfl (Nat.le_of_ble_eq_true rfl) (Nat.le_of_ble_eq_true rfl) (T_X11_addsThing hM hS okS k a c (by omega)) (kk_e (fun M6 hM7 => ?_))
            obtain ⟨h09, hv10⟩ := hM7
            have sm8 : Fm PO M M6 := Fm.mo h09 PA_O
            refine j_iret dX11_thing_67 rfl ?_
            have hz : thingZ Z k a c = ((nI (nT Z.1)), nowZ Z (addTS Z.1 k a c)) := by
              clear hQ
              clear cv hM hS
              grind [thingZ, cif, may_1, may_2]
            exact hQ _ _ ⟨by rw [hz], by rw [hz]; exact MV.now cv sm8 hv10⟩
          · refine j_aload_n 0 dX11_thing_51 rfl ?_
            refine j_bipush (-7) dX11_thing_52 bp_n7 ?_
            refine j_callV (kc := 0) (ks := 0) (a := 0) (b := 0) (d' := d) (As := [.int (-7)]) dX11_thing_54 kX11_130 rfl (shM hM sgM_0) (by omega) rfl rfl rfl (Nat.le_of_ble_eq_true rfl) (Nat.le_of_ble_eq_true rfl) (T_X11_no hM (-7) (by decide)) (kk_p ?_)
            refine j_goto (tgt := 67) dX11_thing_57 rfl ?_
            refine j_iret dX11_thing_67 rfl ?_
            have hz : thingZ Z k a c = ((-7), (refZ Z (-7))) := by
              clear hQ
              clear cv hM hS
              grind [thingZ, cif, may_1, may_2]
            exact hQ _ _ ⟨by rw [hz], by rw [hz]; exact MV.rf cv (by decide)⟩
        · refine j_aload_n 0 dX11_thing_35 rfl ?_
          refine j_bipush (-6) dX11_thing_36 bp_n6 ?_
          refine j_callV (kc := 0) (ks := 0) (a := 0) (b := 0) (d' := d) (As := [.int (-6)]) dX11_thing_38 kX11_130 rfl (shM hM sgM_0) (by omega) rfl rfl rfl (Nat.le_of_ble_eq_true rfl) (Nat.le_of_ble_eq_true rfl) (T_X11_no hM (-6) (by decide)) (kk_p ?_)
          refine j_iret dX11_thing_41 rfl ?_
          have hz : thingZ Z k a c = ((-6), (refZ Z (-6))) := by
            clear hQ
            clear cv hM hS
            grind [thingZ, cif, may_1, may_2]
          exact hQ _ _ ⟨by rw [hz], by rw [hz]; exact MV.rf cv (by decide)⟩
    · refine j_aload_n 0 dX11_thing_10 rfl ?_
      refine j_iconst (-1) dX11_thing_11 ic_n1 ?_
      refine j_callV (kc := 0) (ks := 0) (a := 0) (b := 0) (d' := d) (As := [.int (-1)]) dX11_thing_12 kX11_130 rfl (shM hM sgM_0) (by omega) rfl rfl rfl (Nat.le_of_ble_eq_true rfl) (Nat.le_of_ble_eq_true rfl) (T_X11_no hM (-1) (by decide)) (kk_p ?_)
      refine j_iret dX11_thing_15 rfl ?_
      have hz : thingZ Z k a c = ((-1), (refZ Z (-1))) := by
        clear hQ
        clear cv hM hS
        grind [thingZ, cif, may_1, may_2]
      exact hQ _ _ ⟨by rw [hz], by rw [hz]; exact MV.rf cv (by decide)⟩
set_option maxRecDepth 20000 in
set_option maxHeartbeats 4000000 in
theorem N_neighbour {d : Nat} {M : jk_M} {Z : ZS} (cv : MV M Z) (ok : Zok Z) (c : Int32) (n : Int32) : J Fr_X11_neighbour (d + 1) 0 0 0 [(0, .ref 0), (1, .int c), (2, .int n)] [] M (jk_ex (some (.int (neighZ Z c n).1)) (fun M1 => MV M1 (neighZ Z c n).2)) := by
  refine j_post (fun Q hQ => ?_)
  have hM := cv.1
  have hS := cv.2.1
  have okS := ok.1
  have h40 := cv.2.2.2.2.2.2.2.2.2.2.1
  have hT := (Sok.N okS).2
  refine j_aload_n 0 dX11_neighbour_0 rfl ?_
  refine j_iload_n 1 dX11_neighbour_1 rfl ?_
  refine j_iconst 1 dX11_neighbour_2 ic_1 ?_
  refine j_bipush 13 dX11_neighbour_3 bp_13 ?_
  refine j_callV (kc := 0) (ks := 0) (a := 0) (b := 0) (d' := d) (As := [.int c, .int 1, .int 13]) dX11_neighbour_5 kX11_150 rfl (shM hM sgM_0) (by omega) rfl rfl rfl (Nat.le_of_ble_eq_true rfl) (Nat.le_of_ble_eq_true rfl) (T_X11_isFrom c 1 13) (kk_p ?_)
  refine j_if_eqB (p := (1 ≤ c ∧ c ≤ 13)) (tgt := 22) dX11_neighbour_8 rfl (fun c1 => ?_) (fun c1 => ?_)
  · refine j_aload_n 0 dX11_neighbour_22 rfl ?_
    refine j_bipush (-6) dX11_neighbour_23 bp_n6 ?_
    refine j_callV (kc := 0) (ks := 0) (a := 0) (b := 0) (d' := d) (As := [.int (-6)]) dX11_neighbour_25 kX11_130 rfl (shM hM sgM_0) (by omega) rfl rfl rfl (Nat.le_of_ble_eq_true rfl) (Nat.le_of_ble_eq_true rfl) (T_X11_no hM (-6) (by decide)) (kk_p ?_)
    refine j_iret dX11_neighbour_28 rfl ?_
    have hz : neighZ Z c n = ((-6), (refZ Z (-6))) := by
      clear hQ
      clear cv hM hS
      grind [neighZ, cif, may_6, may_7]
    exact hQ _ _ ⟨by rw [hz], by rw [hz]; exact MV.rf cv (by decide)⟩
  · refine j_aload_n 0 dX11_neighbour_11 rfl ?_
    refine j_iload_n 2 dX11_neighbour_12 rfl ?_
    refine j_iconst 0 dX11_neighbour_13 ic_0 ?_
    refine j_bipush 20 dX11_neighbour_14 bp_20 ?_
    refine j_callV (kc := 0) (ks := 0) (a := 0) (b := 0) (d' := d) (As := [.int n, .int 0, .int 20]) dX11_neighbour_16 kX11_150 rfl (shM hM sgM_0) (by omega) rfl rfl rfl (Nat.le_of_ble_eq_true rfl) (Nat.le_of_ble_eq_true rfl) (T_X11_isFrom n 0 20) (kk_p ?_)
    refine j_if_neB (p := (0 ≤ n ∧ n ≤ 20)) (tgt := 29) dX11_neighbour_19 rfl (fun c2 => ?_) (fun c2 => ?_)
    · refine j_aload_n 0 dX11_neighbour_29 rfl ?_
      refine j_getv (nI (nN Z.1)) dX11_neighbour_30 fX11_144 (shM hM sgM_0) rfl ((mr_N hS).trans (Sok.N okS).1) ?_
      refine j_bipush 8 dX11_neighbour_33 bp_8 ?_
      refine j_icmp_neN (tgt := 47) (nN Z.1) 8 dX11_neighbour_35 rfl (by omega) (by omega) (fun c3 => ?_) (fun c3 => ?_)
      · refine j_aload_n 0 dX11_neighbour_47 rfl ?_
        refine j_iload_n 1 dX11_neighbour_48 rfl ?_
        refine j_iload_n 2 dX11_neighbour_49 rfl ?_
        refine j_callV (kc := 0) (ks := 0) (a := 0) (b := 0) (d' := d) (As := [.int c, .int n]) dX11_neighbour_50 kX11_161 rfl (shM hM sgM_0) (by omega) rfl rfl rfl (Nat.le_of_ble_eq_true rfl) (Nat.le_of_ble_eq_true rfl) (T_X11_addsNeighbour hM hS okS c n (by omega)) (kk_e (fun M4 hM5 => ?_))
        obtain ⟨h07, hv8⟩ := hM5
        have sm6 : Fm PO M M4 := Fm.mo h07 PA_O
        refine j_iret dX11_neighbour_53 rfl ?_
        have hz : neighZ Z c n = ((nI (nN Z.1)), nowZ Z (addNS Z.1 c n)) := by
          clear hQ
          clear cv hM hS
          grind [neighZ, cif, may_6, may_7]
        exact hQ _ _ ⟨by rw [hz], by rw [hz]; exact MV.now cv sm6 hv8⟩
      · refine j_aload_n 0 dX11_neighbour_38 rfl ?_
        refine j_bipush (-7) dX11_neighbour_39 bp_n7 ?_
        refine j_callV (kc := 0) (ks := 0) (a := 0) (b := 0) (d' := d) (As := [.int (-7)]) dX11_neighbour_41 kX11_130 rfl (shM hM sgM_0) (by omega) rfl rfl rfl (Nat.le_of_ble_eq_true rfl) (Nat.le_of_ble_eq_true rfl) (T_X11_no hM (-7) (by decide)) (kk_p ?_)
        refine j_goto (tgt := 53) dX11_neighbour_44 rfl ?_
        refine j_iret dX11_neighbour_53 rfl ?_
        have hz : neighZ Z c n = ((-7), (refZ Z (-7))) := by
          clear hQ
          clear cv hM hS
          grind [neighZ, cif, may_6, may_7]
        exact hQ _ _ ⟨by rw [hz], by rw [hz]; exact MV.rf cv (by decide)⟩
    · refine j_aload_n 0 dX11_neighbour_22 rfl ?_
      refine j_bipush (-6) dX11_neighbour_23 bp_n6 ?_
      refine j_callV (kc := 0) (ks := 0) (a := 0) (b := 0) (d' := d) (As := [.int (-6)]) dX11_neighbour_25 kX11_130 rfl (shM hM sgM_0) (by omega) rfl rfl rfl (Nat.le_of_ble_eq_true rfl) (Nat.le_of_ble_eq_true rfl) (T_X11_no hM (-6) (by decide)) (kk_p ?_)
      refine j_iret dX11_neighbour_28 rfl ?_
      have hz : neighZ Z c n = ((-6), (refZ Z (-6))) := by
        clear hQ
        clear cv hM hS
        grind [neighZ, cif, may_6, may_7]
      exact hQ _ _ ⟨by rw [hz], by rw [hz]; exact MV.rf cv (by decide)⟩
set_option maxRecDepth 20000 in
set_option maxHeartbeats 4000000 in
theorem N_device {d : Nat} {M : jk_M} {Z : ZS} (cv : MV M Z) (ok : Zok Z) (c : Int32) (w : Int32) (v : Int32) : J Fr_X11_device (d + 1) 0 0 0 [(0, .ref 0), (1, .int c), (2, .int w), (3, .int v)] [] M (jk_ex (some (.int (devZ Z c w v).1)) (fun M1 => MV M1 (devZ Z c w v).2)) := by
  refine j_post (fun Q hQ => ?_)
  have hM := cv.1
  have hS := cv.2.1
  have okS := ok.1
  have h40 := cv.2.2.2.2.2.2.2.2.2.2.1
  have hT := (Sok.D okS).2
  refine j_aload_n 0 dX11_device_0 rfl ?_
  refine j_iload_n 1 dX11_device_1 rfl ?_
  refine j_callV (kc := 0) (ks := 0) (a := 0) (b := 0) (d' := d) (As := [.int c]) dX11_device_2 kX11_154 rfl (shM hM sgM_0) (by omega) rfl rfl rfl (Nat.le_of_ble_eq_true rfl) (Nat.le_of_ble_eq_true rfl) (T_X11_isCell hM hS okS c) (kk_p ?_)
  refine j_if_eqB (p := (isC Z.1 c)) (tgt := 29) dX11_device_5 rfl (fun c1 => ?_) (fun c1 => ?_)
  · refine j_aload_n 0 dX11_device_29 rfl ?_
    refine j_bipush (-6) dX11_device_30 bp_n6 ?_
    refine j_callV (kc := 0) (ks := 0) (a := 0) (b := 0) (d' := d) (As := [.int (-6)]) dX11_device_32 kX11_130 rfl (shM hM sgM_0) (by omega) rfl rfl rfl (Nat.le_of_ble_eq_true rfl) (Nat.le_of_ble_eq_true rfl) (T_X11_no hM (-6) (by decide)) (kk_p ?_)
    refine j_iret dX11_device_35 rfl ?_
    have hz : devZ Z c w v = ((-6), (refZ Z (-6))) := by
      clear hQ
      clear cv hM hS
      grind [devZ, cif, may_8, may_9]
    exact hQ _ _ ⟨by rw [hz], by rw [hz]; exact MV.rf cv (by decide)⟩
  · refine j_aload_n 0 dX11_device_8 rfl ?_
    refine j_iload_n 2 dX11_device_9 rfl ?_
    refine j_iconst 1 dX11_device_10 ic_1 ?_
    refine j_iconst 5 dX11_device_11 ic_5 ?_
    refine j_callV (kc := 0) (ks := 0) (a := 0) (b := 0) (d' := d) (As := [.int w, .int 1, .int 5]) dX11_device_12 kX11_150 rfl (shM hM sgM_0) (by omega) rfl rfl rfl (Nat.le_of_ble_eq_true rfl) (Nat.le_of_ble_eq_true rfl) (T_X11_isFrom w 1 5) (kk_p ?_)
    refine j_if_eqB (p := (1 ≤ w ∧ w ≤ 5)) (tgt := 29) dX11_device_15 rfl (fun c2 => ?_) (fun c2 => ?_)
    · refine j_aload_n 0 dX11_device_29 rfl ?_
      refine j_bipush (-6) dX11_device_30 bp_n6 ?_
      refine j_callV (kc := 0) (ks := 0) (a := 0) (b := 0) (d' := d) (As := [.int (-6)]) dX11_device_32 kX11_130 rfl (shM hM sgM_0) (by omega) rfl rfl rfl (Nat.le_of_ble_eq_true rfl) (Nat.le_of_ble_eq_true rfl) (T_X11_no hM (-6) (by decide)) (kk_p ?_)
      refine j_iret dX11_device_35 rfl ?_
      have hz : devZ Z c w v = ((-6), (refZ Z (-6))) := by
        clear hQ
        clear cv hM hS
        grind [devZ, cif, may_8, may_9]
      exact hQ _ _ ⟨by rw [hz], by rw [hz]; exact MV.rf cv (by decide)⟩
    · refine j_aload_n 0 dX11_device_18 rfl ?_
      refine j_iload_n 3 dX11_device_19 rfl ?_
      refine j_iconst 1 dX11_device_20 ic_1 ?_
      refine j_bipush 99 dX11_device_21 bp_99 ?_
      refine j_callV (kc := 0) (ks := 0) (a := 0) (b := 0) (d' := d) (As := [.int v, .int 1, .int 99]) dX11_device_23 kX11_150 rfl (shM hM sgM_0) (by omega) rfl rfl rfl (Nat.le_of_ble_eq_true rfl) (Nat.le_of_ble_eq_true rfl) (T_X11_isFrom v 1 99) (kk_p ?_)
      refine j_if_neB (p := (1 ≤ v ∧ v ≤ 99)) (tgt := 36) dX11_device_26 rfl (fun c3 => ?_) (fun c3 => ?_)
      · refine j_aload_n 0 dX11_device_36 rfl ?_
        refine j_getv (nI (nD Z.1)) dX11_device_37 fX11_147 (shM hM sgM_0) rfl ((mr_D hS).trans (Sok.D okS).1) ?_
        refine j_bipush 6 dX11_device_40 bp_6 ?_
        refine j_icmp_neN (tgt := 54) (nD Z.1) 6 dX11_device_42 rfl (by omega) (by omega) (fun c4 => ?_) (fun c4 => ?_)
        · refine j_aload_n 0 dX11_device_54 rfl ?_
          refine j_iload_n 1 dX11_device_55 rfl ?_
          refine j_iload_n 2 dX11_device_56 rfl ?_
          refine j_iload_n 3 dX11_device_57 rfl ?_
          refine j_callV (kc := 0) (ks := 0) (a := 0) (b := 0) (d' := d) (As := [.int c, .int w, .int v]) dX11_device_58 kX11_164 rfl (shM hM sgM_0) (by omega) rfl rfl rfl (Nat.le_of_ble_eq_true rfl) (Nat.le_of_ble_eq_true rfl) (T_X11_addsDevice hM hS okS c w v (by omega)) (kk_e (fun M5 hM6 => ?_))
          obtain ⟨h08, hv9⟩ := hM6
          have sm7 : Fm PO M M5 := Fm.mo h08 PA_O
          refine j_iret dX11_device_61 rfl ?_
          have hz : devZ Z c w v = ((nI (nD Z.1)), nowZ Z (addDS Z.1 c w v)) := by
            clear hQ
            clear cv hM hS
            grind [devZ, cif, may_8, may_9]
          exact hQ _ _ ⟨by rw [hz], by rw [hz]; exact MV.now cv sm7 hv9⟩
        · refine j_aload_n 0 dX11_device_45 rfl ?_
          refine j_bipush (-7) dX11_device_46 bp_n7 ?_
          refine j_callV (kc := 0) (ks := 0) (a := 0) (b := 0) (d' := d) (As := [.int (-7)]) dX11_device_48 kX11_130 rfl (shM hM sgM_0) (by omega) rfl rfl rfl (Nat.le_of_ble_eq_true rfl) (Nat.le_of_ble_eq_true rfl) (T_X11_no hM (-7) (by decide)) (kk_p ?_)
          refine j_goto (tgt := 61) dX11_device_51 rfl ?_
          refine j_iret dX11_device_61 rfl ?_
          have hz : devZ Z c w v = ((-7), (refZ Z (-7))) := by
            clear hQ
            clear cv hM hS
            grind [devZ, cif, may_8, may_9]
          exact hQ _ _ ⟨by rw [hz], by rw [hz]; exact MV.rf cv (by decide)⟩
      · refine j_aload_n 0 dX11_device_29 rfl ?_
        refine j_bipush (-6) dX11_device_30 bp_n6 ?_
        refine j_callV (kc := 0) (ks := 0) (a := 0) (b := 0) (d' := d) (As := [.int (-6)]) dX11_device_32 kX11_130 rfl (shM hM sgM_0) (by omega) rfl rfl rfl (Nat.le_of_ble_eq_true rfl) (Nat.le_of_ble_eq_true rfl) (T_X11_no hM (-6) (by decide)) (kk_p ?_)
        refine j_iret dX11_device_35 rfl ?_
        have hz : devZ Z c w v = ((-6), (refZ Z (-6))) := by
          clear hQ
          clear cv hM hS
          grind [devZ, cif, may_8, may_9]
        exact hQ _ _ ⟨by rw [hz], by rw [hz]; exact MV.rf cv (by decide)⟩
set_option maxRecDepth 20000 in
set_option maxHeartbeats 4000000 in
theorem N_box0 {d : Nat} {M : jk_M} {Z : ZS} (cv : MV M Z) (ok : Zok Z) (c : Int32) : J Fr_X11_box (d + 1) 0 0 0 [(0, .ref 0), (1, .int 0), (2, .int c)] [] M (jk_ex (some (.int (boxZ Z 0 c).1)) (fun M1 => MV M1 (boxZ Z 0 c).2)) := by
  refine j_post (fun Q hQ => ?_)
  have hM := cv.1
  have hS := cv.2.1
  have okS := ok.1
  have h40 := cv.2.2.2.2.2.2.2.2.2.2.1
  refine j_iload_n 1 dX11_box_0 rfl ?_
  refine j_if_lt (tgt := 27) dX11_box_1 rfl (fun c1 => ?_) (fun c1 => ?_)
  · exact absurd c1 (by decide)
  · refine j_iload_n 1 dX11_box_4 rfl ?_
    refine j_iconst 1 dX11_box_5 ic_1 ?_
    refine j_icmp_gt (tgt := 27) dX11_box_6 rfl (fun c2 => ?_) (fun c2 => ?_)
    · exact absurd c2 (by decide)
    · refine j_aload_n 0 dX11_box_9 rfl ?_
      refine j_iload_n 2 dX11_box_10 rfl ?_
      refine j_callV (kc := 0) (ks := 0) (a := 0) (b := 0) (d' := d) (As := [.int c]) dX11_box_11 kX11_154 rfl (shM hM sgM_0) (by omega) rfl rfl rfl (Nat.le_of_ble_eq_true rfl) (Nat.le_of_ble_eq_true rfl) (T_X11_isCell hM hS okS c) (kk_p ?_)
      refine j_if_neB (p := (isC Z.1 c)) (tgt := 34) dX11_box_14 rfl (fun c3 => ?_) (fun c3 => ?_)
      · refine j_aload_n 0 dX11_box_34 rfl ?_
        refine j_getr (q := 12) dX11_box_35 fX11_59 (shM hM sgM_0) rfl (rfM hM rfM_0_20) ?_
        refine j_iload_n 1 dX11_box_38 rfl ?_
        refine j_ialdN 0 dX11_box_39 (shM hM sgM_12) (by omega) (by omega) ?_
        refine j_topi (Z.1 5 0) (mr_b0 hS) ?_
        refine j_istore_n (L' := [(3, .int (Z.1 5 0)), (0, .ref 0), (1, .int 0), (2, .int c)]) dX11_box_40 (by decide) rfl ?_
        refine j_aload_n 1 dX11_box_41 rfl ?_
        refine j_getr (q := 12) dX11_box_42 fX11_59 (shM hM sgM_0) rfl (rfM hM rfM_0_20) ?_
        refine j_iload_n 2 dX11_box_45 rfl ?_
        refine j_iload_n 3 dX11_box_46 rfl ?_
        refine j_iastN 0 dX11_box_47 (shM hM sgM_12) (by omega) (by omega) ?_
        have sm4 : Fm PO M (jk_wI M 12 0 c) := Fm.w Fm.rf (by unfold PO PH PS; omega)
        refine j_iload_n 0 dX11_box_48 rfl ?_
        refine j_iret dX11_box_49 rfl ?_
        have hz : boxZ Z 0 c = ((Z.1 5 0), nowZ Z (upS Z.1 5 0 c)) := by
          clear hQ
          clear cv hM hS
          grind [boxZ, cif, may_4, plO]
        exact hQ _ _ ⟨by rw [hz], by rw [hz]; exact MV.now cv sm4 (mv_sc (a := 5) hS (by decide) (by decide) (by decide) (by decide))⟩
      · refine j_iload_n 1 dX11_box_17 rfl ?_
        refine j_iconst 1 dX11_box_18 ic_1 ?_
        refine j_icmp_ne (tgt := 27) dX11_box_19 rfl (fun c5 => ?_) (fun c5 => ?_)
        · refine j_aload_n 0 dX11_box_27 rfl ?_
          refine j_bipush (-6) dX11_box_28 bp_n6 ?_
          refine j_callV (kc := 0) (ks := 0) (a := 0) (b := 0) (d' := d) (As := [.int (-6)]) dX11_box_30 kX11_167 rfl (shM hM sgM_0) (by omega) rfl rfl rfl (Nat.le_of_ble_eq_true rfl) (Nat.le_of_ble_eq_true rfl) (T_X11_noTen hM (-6) (by decide)) (kk_p ?_)
          refine j_iret dX11_box_33 rfl ?_
          have hz : boxZ Z 0 c = (((-6) - 10), (refZ Z (-6))) := by
            clear hQ
            clear cv hM hS
            grind [boxZ, cif, may_4, plO]
          exact hQ _ _ ⟨by rw [hz], by rw [hz]; exact MV.rf cv (by decide)⟩
        · exact absurd c5 (by decide)
set_option maxRecDepth 20000 in
set_option maxHeartbeats 4000000 in
theorem N_box1 {d : Nat} {M : jk_M} {Z : ZS} (cv : MV M Z) (ok : Zok Z) (c : Int32) : J Fr_X11_box (d + 1) 0 0 0 [(0, .ref 0), (1, .int 1), (2, .int c)] [] M (jk_ex (some (.int (boxZ Z 1 c).1)) (fun M1 => MV M1 (boxZ Z 1 c).2)) := by
  refine j_post (fun Q hQ => ?_)
  have hM := cv.1
  have hS := cv.2.1
  have okS := ok.1
  have h40 := cv.2.2.2.2.2.2.2.2.2.2.1
  refine j_iload_n 1 dX11_box_0 rfl ?_
  refine j_if_lt (tgt := 27) dX11_box_1 rfl (fun c1 => ?_) (fun c1 => ?_)
  · exact absurd c1 (by decide)
  · refine j_iload_n 1 dX11_box_4 rfl ?_
    refine j_iconst 1 dX11_box_5 ic_1 ?_
    refine j_icmp_gt (tgt := 27) dX11_box_6 rfl (fun c2 => ?_) (fun c2 => ?_)
    · exact absurd c2 (by decide)
    · refine j_aload_n 0 dX11_box_9 rfl ?_
      refine j_iload_n 2 dX11_box_10 rfl ?_
      refine j_callV (kc := 0) (ks := 0) (a := 0) (b := 0) (d' := d) (As := [.int c]) dX11_box_11 kX11_154 rfl (shM hM sgM_0) (by omega) rfl rfl rfl (Nat.le_of_ble_eq_true rfl) (Nat.le_of_ble_eq_true rfl) (T_X11_isCell hM hS okS c) (kk_p ?_)
      refine j_if_neB (p := (isC Z.1 c)) (tgt := 34) dX11_box_14 rfl (fun c3 => ?_) (fun c3 => ?_)
      · refine j_aload_n 0 dX11_box_34 rfl ?_
        refine j_getr (q := 12) dX11_box_35 fX11_59 (shM hM sgM_0) rfl (rfM hM rfM_0_20) ?_
        refine j_iload_n 1 dX11_box_38 rfl ?_
        refine j_ialdN 1 dX11_box_39 (shM hM sgM_12) (by omega) (by omega) ?_
        refine j_topi (Z.1 6 0) (mr_b1 hS) ?_
        refine j_istore_n (L' := [(3, .int (Z.1 6 0)), (0, .ref 0), (1, .int 1), (2, .int c)]) dX11_box_40 (by decide) rfl ?_
        refine j_aload_n 1 dX11_box_41 rfl ?_
        refine j_getr (q := 12) dX11_box_42 fX11_59 (shM hM sgM_0) rfl (rfM hM rfM_0_20) ?_
        refine j_iload_n 2 dX11_box_45 rfl ?_
        refine j_iload_n 3 dX11_box_46 rfl ?_
        refine j_iastN 1 dX11_box_47 (shM hM sgM_12) (by omega) (by omega) ?_
        have sm4 : Fm PO M (jk_wI M 12 1 c) := Fm.w Fm.rf (by unfold PO PH PS; omega)
        refine j_iload_n 0 dX11_box_48 rfl ?_
        refine j_iret dX11_box_49 rfl ?_
        have hz : boxZ Z 1 c = ((Z.1 6 0), nowZ Z (upS Z.1 6 0 c)) := by
          clear hQ
          clear cv hM hS
          grind [boxZ, cif, may_4, plO]
        exact hQ _ _ ⟨by rw [hz], by rw [hz]; exact MV.now cv sm4 (mv_sc (a := 6) hS (by decide) (by decide) (by decide) (by decide))⟩
      · refine j_iload_n 1 dX11_box_17 rfl ?_
        refine j_iconst 1 dX11_box_18 ic_1 ?_
        refine j_icmp_ne (tgt := 27) dX11_box_19 rfl (fun c5 => ?_) (fun c5 => ?_)
        · exact absurd c5 (by decide)
        · refine j_iload_n 2 dX11_box_22 rfl ?_
          refine j_iconst (-1) dX11_box_23 ic_n1 ?_
          refine j_icmp_eq (tgt := 34) dX11_box_24 rfl (fun c6 => ?_) (fun c6 => ?_)
          · refine j_aload_n 0 dX11_box_34 rfl ?_
            refine j_getr (q := 12) dX11_box_35 fX11_59 (shM hM sgM_0) rfl (rfM hM rfM_0_20) ?_
            refine j_iload_n 1 dX11_box_38 rfl ?_
            refine j_ialdN 1 dX11_box_39 (shM hM sgM_12) (by omega) (by omega) ?_
            refine j_topi (Z.1 6 0) (mr_b1 hS) ?_
            refine j_istore_n (L' := [(3, .int (Z.1 6 0)), (0, .ref 0), (1, .int 1), (2, .int c)]) dX11_box_40 (by decide) rfl ?_
            refine j_aload_n 1 dX11_box_41 rfl ?_
            refine j_getr (q := 12) dX11_box_42 fX11_59 (shM hM sgM_0) rfl (rfM hM rfM_0_20) ?_
            refine j_iload_n 2 dX11_box_45 rfl ?_
            refine j_iload_n 3 dX11_box_46 rfl ?_
            refine j_iastN 1 dX11_box_47 (shM hM sgM_12) (by omega) (by omega) ?_
            have sm7 : Fm PO M (jk_wI M 12 1 c) := Fm.w Fm.rf (by unfold PO PH PS; omega)
            refine j_iload_n 0 dX11_box_48 rfl ?_
            refine j_iret dX11_box_49 rfl ?_
            have hz : boxZ Z 1 c = ((Z.1 6 0), nowZ Z (upS Z.1 6 0 c)) := by
              clear hQ
              clear cv hM hS
              grind [boxZ, cif, may_4, plO]
            exact hQ _ _ ⟨by rw [hz], by rw [hz]; exact MV.now cv sm7 (mv_sc (a := 6) hS (by decide) (by decide) (by decide) (by decide))⟩
          · refine j_aload_n 0 dX11_box_27 rfl ?_
            refine j_bipush (-6) dX11_box_28 bp_n6 ?_
            refine j_callV (kc := 0) (ks := 0) (a := 0) (b := 0) (d' := d) (As := [.int (-6)]) dX11_box_30 kX11_167 rfl (shM hM sgM_0) (by omega) rfl rfl rfl (Nat.le_of_ble_eq_true rfl) (Nat.le_of_ble_eq_true rfl) (T_X11_noTen hM (-6) (by decide)) (kk_p ?_)
            refine j_iret dX11_box_33 rfl ?_
            have hz : boxZ Z 1 c = (((-6) - 10), (refZ Z (-6))) := by
              clear hQ
              clear cv hM hS
              grind [boxZ, cif, may_4, plO]
            exact hQ _ _ ⟨by rw [hz], by rw [hz]; exact MV.rf cv (by decide)⟩
set_option maxRecDepth 20000 in
set_option maxHeartbeats 4000000 in
theorem N_boxX {d : Nat} {M : jk_M} {Z : ZS} (cv : MV M Z) (ok : Zok Z) (b c : Int32) (hb : ¬ (0 ≤ b ∧ b ≤ 1)) : J Fr_X11_box (d + 1) 0 0 0 [(0, .ref 0), (1, .int b), (2, .int c)] [] M (jk_ex (some (.int (boxZ Z b c).1)) (fun M1 => MV M1 (boxZ Z b c).2)) := by
  refine j_post (fun Q hQ => ?_)
  have hM := cv.1
  have hS := cv.2.1
  have okS := ok.1
  have h40 := cv.2.2.2.2.2.2.2.2.2.2.1
  refine j_iload_n 1 dX11_box_0 rfl ?_
  refine j_if_lt (tgt := 27) dX11_box_1 rfl (fun c1 => ?_) (fun c1 => ?_)
  · refine j_aload_n 0 dX11_box_27 rfl ?_
    refine j_bipush (-6) dX11_box_28 bp_n6 ?_
    refine j_callV (kc := 0) (ks := 0) (a := 0) (b := 0) (d' := d) (As := [.int (-6)]) dX11_box_30 kX11_167 rfl (shM hM sgM_0) (by omega) rfl rfl rfl (Nat.le_of_ble_eq_true rfl) (Nat.le_of_ble_eq_true rfl) (T_X11_noTen hM (-6) (by decide)) (kk_p ?_)
    refine j_iret dX11_box_33 rfl ?_
    have hz : boxZ Z b c = (((-6) - 10), (refZ Z (-6))) := by
      clear hQ
      clear cv hM hS
      grind [boxZ, cif, may_4, plO]
    exact hQ _ _ ⟨by rw [hz], by rw [hz]; exact MV.rf cv (by decide)⟩
  · refine j_iload_n 1 dX11_box_4 rfl ?_
    refine j_iconst 1 dX11_box_5 ic_1 ?_
    refine j_icmp_gt (tgt := 27) dX11_box_6 rfl (fun c2 => ?_) (fun c2 => ?_)
    · refine j_aload_n 0 dX11_box_27 rfl ?_
      refine j_bipush (-6) dX11_box_28 bp_n6 ?_
      refine j_callV (kc := 0) (ks := 0) (a := 0) (b := 0) (d' := d) (As := [.int (-6)]) dX11_box_30 kX11_167 rfl (shM hM sgM_0) (by omega) rfl rfl rfl (Nat.le_of_ble_eq_true rfl) (Nat.le_of_ble_eq_true rfl) (T_X11_noTen hM (-6) (by decide)) (kk_p ?_)
      refine j_iret dX11_box_33 rfl ?_
      have hz : boxZ Z b c = (((-6) - 10), (refZ Z (-6))) := by
        clear hQ
        clear cv hM hS
        grind [boxZ, cif, may_4, plO]
      exact hQ _ _ ⟨by rw [hz], by rw [hz]; exact MV.rf cv (by decide)⟩
    · exact absurd (show 0 ≤ b ∧ b ≤ 1 by clear hQ; grind) hb
theorem N_box {d : Nat} {M : jk_M} {Z : ZS} (cv : MV M Z) (ok : Zok Z) (b c : Int32) : J Fr_X11_box (d + 1) 0 0 0 [(0, .ref 0), (1, .int b), (2, .int c)] [] M (jk_ex (some (.int (boxZ Z b c).1)) (fun M1 => MV M1 (boxZ Z b c).2)) := by
  by_cases h : 0 ≤ b ∧ b ≤ 1
  · have h3 : b = 0 ∨ b = 1 := by grind
    rcases h3 with rfl | rfl
    · exact N_box0 cv ok c
    · exact N_box1 cv ok c
  · exact N_boxX cv ok b c h
set_option maxRecDepth 20000 in
set_option maxHeartbeats 4000000 in
theorem N_ask0 {d : Nat} {M : jk_M} {Z : ZS} (cv : MV M Z) (ok : Zok Z) (v : Int32) : J Fr_X11_ask (d + 2) 0 0 0 [(0, .ref 0), (1, .int 0), (2, .int v)] [] M (jk_ex (some (.int (askZ Z 0 v).1)) (fun M1 => MV M1 (askZ Z 0 v).2)) := by
  refine j_post (fun Q hQ => ?_)
  have hM := cv.1
  have hS := cv.2.1
  have okS := ok.1
  have h40 := cv.2.2.2.2.2.2.2.2.2.2.1
  refine j_iload_n 1 dX11_ask_0 rfl ?_
  refine j_if_lt (tgt := 18) dX11_ask_1 rfl (fun c1 => ?_) (fun c1 => ?_)
  · exact absurd c1 (by decide)
  · refine j_iload_n 1 dX11_ask_4 rfl ?_
    refine j_iconst 2 dX11_ask_5 ic_2 ?_
    refine j_icmp_gt (tgt := 18) dX11_ask_6 rfl (fun c2 => ?_) (fun c2 => ?_)
    · exact absurd c2 (by decide)
    · refine j_aload_n 0 dX11_ask_9 rfl ?_
      refine j_iload_n 1 dX11_ask_10 rfl ?_
      refine j_iload_n 2 dX11_ask_11 rfl ?_
      refine j_callV (kc := 0) (ks := 0) (a := 0) (b := 0) (d' := (d + 1)) (As := [.int 0, .int v]) dX11_ask_12 kX11_173 rfl (shM hM sgM_0) (by omega) rfl rfl rfl (Nat.le_of_ble_eq_true rfl) (Nat.le_of_ble_eq_true rfl) (T_asked0 hM v) (kk_p ?_)
      refine j_if_neB (p := (10 ≤ v ∧ v ≤ 60)) (tgt := 25) dX11_ask_15 rfl (fun c3 => ?_) (fun c3 => ?_)
      · refine j_iload_n 1 dX11_ask_25 rfl ?_
        refine j_if_ne (tgt := 36) dX11_ask_26 rfl (fun c4 => ?_) (fun c4 => ?_)
        · exact absurd c4 (by decide)
        · refine j_aload_n 0 dX11_ask_29 rfl ?_
          refine j_getv (Z.1 1 0) dX11_ask_30 fX11_13 (shM hM sgM_0) rfl (mr_pow hS) ?_
          refine j_goto (tgt := 52) dX11_ask_33 rfl ?_
          refine j_istore_n (L' := [(3, .int (Z.1 1 0)), (0, .ref 0), (1, .int 0), (2, .int v)]) dX11_ask_52 (by decide) rfl ?_
          refine j_aload_n 1 dX11_ask_53 rfl ?_
          refine j_iload_n 2 dX11_ask_54 rfl ?_
          refine j_iload_n 3 dX11_ask_55 rfl ?_
          refine j_callV (kc := 0) (ks := 0) (a := 0) (b := 0) (d' := d) (As := [.int 0, .int v]) dX11_ask_56 kX11_177 rfl (shM hM sgM_0) (by omega) rfl rfl rfl (Nat.le_of_ble_eq_true rfl) (Nat.le_of_ble_eq_true rfl) (T_tells0 hM v) (kk_pv ?_)
          have sm5 : Fm PO M (jk_wI M 0 4 v) := Fm.w Fm.rf (by unfold PO PH PS; omega)
          refine j_iload_n 0 dX11_ask_59 rfl ?_
          refine j_iret dX11_ask_60 rfl ?_
          have hz : askZ Z 0 v = ((Z.1 1 0), nowZ Z (upS Z.1 1 0 v)) := by
            clear hQ
            clear cv hM hS
            grind [askZ, cif, may_5, may_6, may_11]
          exact hQ _ _ ⟨by rw [hz], by rw [hz]; exact MV.now cv sm5 (mv_sc (a := 1) hS (by decide) (by decide) (by decide) (by decide))⟩
      · refine j_aload_n 0 dX11_ask_18 rfl ?_
        refine j_bipush (-6) dX11_ask_19 bp_n6 ?_
        refine j_callV (kc := 0) (ks := 0) (a := 0) (b := 0) (d' := d) (As := [.int (-6)]) dX11_ask_21 kX11_130 rfl (shM hM sgM_0) (by omega) rfl rfl rfl (Nat.le_of_ble_eq_true rfl) (Nat.le_of_ble_eq_true rfl) (T_X11_no hM (-6) (by decide)) (kk_p ?_)
        refine j_iret dX11_ask_24 rfl ?_
        have hz : askZ Z 0 v = ((-6), (refZ Z (-6))) := by
          clear hQ
          clear cv hM hS
          grind [askZ, cif, may_5, may_6, may_11]
        exact hQ _ _ ⟨by rw [hz], by rw [hz]; exact MV.rf cv (by decide)⟩
set_option maxRecDepth 20000 in
set_option maxHeartbeats 4000000 in
theorem N_ask1 {d : Nat} {M : jk_M} {Z : ZS} (cv : MV M Z) (ok : Zok Z) (v : Int32) : J Fr_X11_ask (d + 2) 0 0 0 [(0, .ref 0), (1, .int 1), (2, .int v)] [] M (jk_ex (some (.int (askZ Z 1 v).1)) (fun M1 => MV M1 (askZ Z 1 v).2)) := by
  refine j_post (fun Q hQ => ?_)
  have hM := cv.1
  have hS := cv.2.1
  have okS := ok.1
  have h40 := cv.2.2.2.2.2.2.2.2.2.2.1
  refine j_iload_n 1 dX11_ask_0 rfl ?_
  refine j_if_lt (tgt := 18) dX11_ask_1 rfl (fun c1 => ?_) (fun c1 => ?_)
  · exact absurd c1 (by decide)
  · refine j_iload_n 1 dX11_ask_4 rfl ?_
    refine j_iconst 2 dX11_ask_5 ic_2 ?_
    refine j_icmp_gt (tgt := 18) dX11_ask_6 rfl (fun c2 => ?_) (fun c2 => ?_)
    · exact absurd c2 (by decide)
    · refine j_aload_n 0 dX11_ask_9 rfl ?_
      refine j_iload_n 1 dX11_ask_10 rfl ?_
      refine j_iload_n 2 dX11_ask_11 rfl ?_
      refine j_callV (kc := 0) (ks := 0) (a := 0) (b := 0) (d' := (d + 1)) (As := [.int 1, .int v]) dX11_ask_12 kX11_173 rfl (shM hM sgM_0) (by omega) rfl rfl rfl (Nat.le_of_ble_eq_true rfl) (Nat.le_of_ble_eq_true rfl) (T_asked1 hM v) (kk_p ?_)
      refine j_if_neB (p := (1 ≤ v ∧ v ≤ 13)) (tgt := 25) dX11_ask_15 rfl (fun c3 => ?_) (fun c3 => ?_)
      · refine j_iload_n 1 dX11_ask_25 rfl ?_
        refine j_if_ne (tgt := 36) dX11_ask_26 rfl (fun c4 => ?_) (fun c4 => ?_)
        · refine j_iload_n 1 dX11_ask_36 rfl ?_
          refine j_iconst 1 dX11_ask_37 ic_1 ?_
          refine j_icmp_ne (tgt := 48) dX11_ask_38 rfl (fun c5 => ?_) (fun c5 => ?_)
          · exact absurd c5 (by decide)
          · refine j_aload_n 0 dX11_ask_41 rfl ?_
            refine j_getv (Z.1 2 0) dX11_ask_42 fX11_16 (shM hM sgM_0) rfl (mr_cha hS) ?_
            refine j_goto (tgt := 52) dX11_ask_45 rfl ?_
            refine j_istore_n (L' := [(3, .int (Z.1 2 0)), (0, .ref 0), (1, .int 1), (2, .int v)]) dX11_ask_52 (by decide) rfl ?_
            refine j_aload_n 1 dX11_ask_53 rfl ?_
            refine j_iload_n 2 dX11_ask_54 rfl ?_
            refine j_iload_n 3 dX11_ask_55 rfl ?_
            refine j_callV (kc := 0) (ks := 0) (a := 0) (b := 0) (d' := d) (As := [.int 1, .int v]) dX11_ask_56 kX11_177 rfl (shM hM sgM_0) (by omega) rfl rfl rfl (Nat.le_of_ble_eq_true rfl) (Nat.le_of_ble_eq_true rfl) (T_tells1 hM v) (kk_pv ?_)
            have sm6 : Fm PO M (jk_wI M 0 5 v) := Fm.w Fm.rf (by unfold PO PH PS; omega)
            refine j_iload_n 0 dX11_ask_59 rfl ?_
            refine j_iret dX11_ask_60 rfl ?_
            have hz : askZ Z 1 v = ((Z.1 2 0), nowZ Z (upS Z.1 2 0 v)) := by
              clear hQ
              clear cv hM hS
              grind [askZ, cif, may_5, may_6, may_11]
            exact hQ _ _ ⟨by rw [hz], by rw [hz]; exact MV.now cv sm6 (mv_sc (a := 2) hS (by decide) (by decide) (by decide) (by decide))⟩
        · exact absurd c4 (by decide)
      · refine j_aload_n 0 dX11_ask_18 rfl ?_
        refine j_bipush (-6) dX11_ask_19 bp_n6 ?_
        refine j_callV (kc := 0) (ks := 0) (a := 0) (b := 0) (d' := d) (As := [.int (-6)]) dX11_ask_21 kX11_130 rfl (shM hM sgM_0) (by omega) rfl rfl rfl (Nat.le_of_ble_eq_true rfl) (Nat.le_of_ble_eq_true rfl) (T_X11_no hM (-6) (by decide)) (kk_p ?_)
        refine j_iret dX11_ask_24 rfl ?_
        have hz : askZ Z 1 v = ((-6), (refZ Z (-6))) := by
          clear hQ
          clear cv hM hS
          grind [askZ, cif, may_5, may_6, may_11]
        exact hQ _ _ ⟨by rw [hz], by rw [hz]; exact MV.rf cv (by decide)⟩
set_option maxRecDepth 20000 in
set_option maxHeartbeats 4000000 in
theorem N_ask2 {d : Nat} {M : jk_M} {Z : ZS} (cv : MV M Z) (ok : Zok Z) (v : Int32) : J Fr_X11_ask (d + 2) 0 0 0 [(0, .ref 0), (1, .int 2), (2, .int v)] [] M (jk_ex (some (.int (askZ Z 2 v).1)) (fun M1 => MV M1 (askZ Z 2 v).2)) := by
  refine j_post (fun Q hQ => ?_)
  have hM := cv.1
  have hS := cv.2.1
  have okS := ok.1
  have h40 := cv.2.2.2.2.2.2.2.2.2.2.1
  refine j_iload_n 1 dX11_ask_0 rfl ?_
  refine j_if_lt (tgt := 18) dX11_ask_1 rfl (fun c1 => ?_) (fun c1 => ?_)
  · exact absurd c1 (by decide)
  · refine j_iload_n 1 dX11_ask_4 rfl ?_
    refine j_iconst 2 dX11_ask_5 ic_2 ?_
    refine j_icmp_gt (tgt := 18) dX11_ask_6 rfl (fun c2 => ?_) (fun c2 => ?_)
    · exact absurd c2 (by decide)
    · refine j_aload_n 0 dX11_ask_9 rfl ?_
      refine j_iload_n 1 dX11_ask_10 rfl ?_
      refine j_iload_n 2 dX11_ask_11 rfl ?_
      refine j_callV (kc := 0) (ks := 0) (a := 0) (b := 0) (d' := (d + 1)) (As := [.int 2, .int v]) dX11_ask_12 kX11_173 rfl (shM hM sgM_0) (by omega) rfl rfl rfl (Nat.le_of_ble_eq_true rfl) (Nat.le_of_ble_eq_true rfl) (T_asked2 hM v) (kk_p ?_)
      refine j_if_neB (p := (0 ≤ v ∧ v ≤ 59)) (tgt := 25) dX11_ask_15 rfl (fun c3 => ?_) (fun c3 => ?_)
      · refine j_iload_n 1 dX11_ask_25 rfl ?_
        refine j_if_ne (tgt := 36) dX11_ask_26 rfl (fun c4 => ?_) (fun c4 => ?_)
        · refine j_iload_n 1 dX11_ask_36 rfl ?_
          refine j_iconst 1 dX11_ask_37 ic_1 ?_
          refine j_icmp_ne (tgt := 48) dX11_ask_38 rfl (fun c5 => ?_) (fun c5 => ?_)
          · refine j_aload_n 0 dX11_ask_48 rfl ?_
            refine j_getv (Z.1 3 0) dX11_ask_49 fX11_170 (shM hM sgM_0) rfl (mr_min hS) ?_
            refine j_istore_n (L' := [(3, .int (Z.1 3 0)), (0, .ref 0), (1, .int 2), (2, .int v)]) dX11_ask_52 (by decide) rfl ?_
            refine j_aload_n 1 dX11_ask_53 rfl ?_
            refine j_iload_n 2 dX11_ask_54 rfl ?_
            refine j_iload_n 3 dX11_ask_55 rfl ?_
            refine j_callV (kc := 0) (ks := 0) (a := 0) (b := 0) (d' := d) (As := [.int 2, .int v]) dX11_ask_56 kX11_177 rfl (shM hM sgM_0) (by omega) rfl rfl rfl (Nat.le_of_ble_eq_true rfl) (Nat.le_of_ble_eq_true rfl) (T_tells2 hM v) (kk_pv ?_)
            have sm6 : Fm PO M (jk_wI M 0 6 v) := Fm.w Fm.rf (by unfold PO PH PS; omega)
            refine j_iload_n 0 dX11_ask_59 rfl ?_
            refine j_iret dX11_ask_60 rfl ?_
            have hz : askZ Z 2 v = ((Z.1 3 0), nowZ Z (upS Z.1 3 0 v)) := by
              clear hQ
              clear cv hM hS
              grind [askZ, cif, may_5, may_6, may_11]
            exact hQ _ _ ⟨by rw [hz], by rw [hz]; exact MV.now cv sm6 (mv_sc (a := 3) hS (by decide) (by decide) (by decide) (by decide))⟩
          · exact absurd c5 (by decide)
        · exact absurd c4 (by decide)
      · refine j_aload_n 0 dX11_ask_18 rfl ?_
        refine j_bipush (-6) dX11_ask_19 bp_n6 ?_
        refine j_callV (kc := 0) (ks := 0) (a := 0) (b := 0) (d' := d) (As := [.int (-6)]) dX11_ask_21 kX11_130 rfl (shM hM sgM_0) (by omega) rfl rfl rfl (Nat.le_of_ble_eq_true rfl) (Nat.le_of_ble_eq_true rfl) (T_X11_no hM (-6) (by decide)) (kk_p ?_)
        refine j_iret dX11_ask_24 rfl ?_
        have hz : askZ Z 2 v = ((-6), (refZ Z (-6))) := by
          clear hQ
          clear cv hM hS
          grind [askZ, cif, may_5, may_6, may_11]
        exact hQ _ _ ⟨by rw [hz], by rw [hz]; exact MV.rf cv (by decide)⟩
set_option maxRecDepth 20000 in
set_option maxHeartbeats 4000000 in
theorem N_askX {d : Nat} {M : jk_M} {Z : ZS} (cv : MV M Z) (ok : Zok Z) (k v : Int32) (hk9 : ¬ (0 ≤ k ∧ k ≤ 2)) : J Fr_X11_ask (d + 2) 0 0 0 [(0, .ref 0), (1, .int k), (2, .int v)] [] M (jk_ex (some (.int (askZ Z k v).1)) (fun M1 => MV M1 (askZ Z k v).2)) := by
  refine j_post (fun Q hQ => ?_)
  have hM := cv.1
  have hS := cv.2.1
  have okS := ok.1
  have h40 := cv.2.2.2.2.2.2.2.2.2.2.1
  refine j_iload_n 1 dX11_ask_0 rfl ?_
  refine j_if_lt (tgt := 18) dX11_ask_1 rfl (fun c1 => ?_) (fun c1 => ?_)
  · refine j_aload_n 0 dX11_ask_18 rfl ?_
    refine j_bipush (-6) dX11_ask_19 bp_n6 ?_
    refine j_callV (kc := 0) (ks := 0) (a := 0) (b := 0) (d' := d) (As := [.int (-6)]) dX11_ask_21 kX11_130 rfl (shM hM sgM_0) (by omega) rfl rfl rfl (Nat.le_of_ble_eq_true rfl) (Nat.le_of_ble_eq_true rfl) (T_X11_no hM (-6) (by decide)) (kk_p ?_)
    refine j_iret dX11_ask_24 rfl ?_
    have hz : askZ Z k v = ((-6), (refZ Z (-6))) := by
      clear hQ
      clear cv hM hS
      grind [askZ, cif]
    exact hQ _ _ ⟨by rw [hz], by rw [hz]; exact MV.rf cv (by decide)⟩
  · refine j_iload_n 1 dX11_ask_4 rfl ?_
    refine j_iconst 2 dX11_ask_5 ic_2 ?_
    refine j_icmp_gt (tgt := 18) dX11_ask_6 rfl (fun c2 => ?_) (fun c2 => ?_)
    · refine j_aload_n 0 dX11_ask_18 rfl ?_
      refine j_bipush (-6) dX11_ask_19 bp_n6 ?_
      refine j_callV (kc := 0) (ks := 0) (a := 0) (b := 0) (d' := d) (As := [.int (-6)]) dX11_ask_21 kX11_130 rfl (shM hM sgM_0) (by omega) rfl rfl rfl (Nat.le_of_ble_eq_true rfl) (Nat.le_of_ble_eq_true rfl) (T_X11_no hM (-6) (by decide)) (kk_p ?_)
      refine j_iret dX11_ask_24 rfl ?_
      have hz : askZ Z k v = ((-6), (refZ Z (-6))) := by
        clear hQ
        clear cv hM hS
        grind [askZ, cif]
      exact hQ _ _ ⟨by rw [hz], by rw [hz]; exact MV.rf cv (by decide)⟩
    · exact absurd (show 0 ≤ k ∧ k ≤ 2 by clear hQ; grind) hk9
theorem N_ask {d : Nat} {M : jk_M} {Z : ZS} (cv : MV M Z) (ok : Zok Z) (k v : Int32) : J Fr_X11_ask (d + 2) 0 0 0 [(0, .ref 0), (1, .int k), (2, .int v)] [] M (jk_ex (some (.int (askZ Z k v).1)) (fun M1 => MV M1 (askZ Z k v).2)) := by
  by_cases h : 0 ≤ k ∧ k ≤ 2
  · have h3 : k = 0 ∨ k = 1 ∨ k = 2 := by grind
    rcases h3 with rfl | rfl | rfl
    · exact N_ask0 cv ok v
    · exact N_ask1 cv ok v
    · exact N_ask2 cv ok v
  · exact N_askX cv ok k v h
set_option maxRecDepth 20000 in
set_option maxHeartbeats 4000000 in
theorem N_shutY {d : Nat} {M : jk_M} {Z : ZS} (cv : MV M Z) (ok : Zok Z) (b : Int32) (hb : b = 0 ∨ b = 1) (i : Nat) (hi : i < nT Z.1) : J Fr_X11_shut (d + 1) 0 0 0 [(0, .ref 0), (1, .int (nI i)), (2, .int b)] [] M (jk_ex (some (.int (shutK Z b i).1)) (fun M1 => MV M1 (shutK Z b i).2)) := by
  refine j_post (fun Q hQ => ?_)
  have hM := cv.1
  have hS := cv.2.1
  have okS := ok.1
  have h40 := cv.2.2.2.2.2.2.2.2.2.2.1
  have hT := (Sok.T okS).2
  have hD := (Sok.D okS).2
  have hin := i_ok hi (show nT Z.1 < 2 ^ 31 by omega)
  refine j_aload_n 0 dX11_shut_0 rfl ?_
  refine j_iload_n 1 dX11_shut_1 rfl ?_
  refine j_callV (kc := 0) (ks := 0) (a := 0) (b := 0) (d' := d) (As := [.int (nI i)]) dX11_shut_2 kX11_134 rfl (shM hM sgM_0) (by omega) rfl rfl rfl (Nat.le_of_ble_eq_true rfl) (Nat.le_of_ble_eq_true rfl) (T_X11_isThing hM hS okS (nI i)) (kk_p ?_)
  refine j_if_neB (p := (0 ≤ (nI i) ∧ (nI i) < nI (nT Z.1))) (tgt := 14) dX11_shut_5 rfl (fun c1 => ?_) (fun c1 => ?_)
  · refine j_aload_n 0 dX11_shut_14 rfl ?_
    refine j_getr (q := 5) dX11_shut_15 fX11_38 (shM hM sgM_0) rfl (rfM hM rfM_0_13) ?_
    refine j_iload_n 1 dX11_shut_18 rfl ?_
    refine j_ialdN i dX11_shut_19 (shM hM sgM_5) (by omega) (by omega) ?_
    refine j_topi (Z.1 13 i) (mr_arT hS (k := 3) (by omega) (by decide)) ?_
    refine j_istore_n (L' := [(3, .int (Z.1 13 i)), (0, .ref 0), (1, .int (nI i)), (2, .int b)]) dX11_shut_20 (by decide) rfl ?_
    refine j_aload_n 1 dX11_shut_21 rfl ?_
    refine j_getr (q := 5) dX11_shut_22 fX11_38 (shM hM sgM_0) rfl (rfM hM rfM_0_13) ?_
    refine j_iload_n 2 dX11_shut_25 rfl ?_
    refine j_iload_n 3 dX11_shut_26 rfl ?_
    refine j_if_eq (tgt := 34) dX11_shut_27 rfl (fun c2 => ?_) (fun c2 => ?_)
    · refine j_iconst 0 dX11_shut_34 ic_0 ?_
      refine j_iastN i dX11_shut_35 (shM hM sgM_5) (by omega) (by omega) ?_
      have sm3 : Fm PO M (jk_wI M 5 i 0) := Fm.w Fm.rf (by unfold PO PH PS; omega)
      refine j_iload_n 0 dX11_shut_36 rfl ?_
      refine j_iret dX11_shut_37 rfl ?_
      have hz : shutK Z b i = ((Z.1 13 i), nowZ Z (upS Z.1 13 i 0)) := by
        clear hQ
        clear cv hM hS
        have h01 := (okS.th hi).2.2.2
        grind [shutK, cif]
      exact hQ _ _ ⟨by rw [hz], by rw [hz]; exact MV.now cv sm3 (mv_ar (a := 13) hS (by omega))⟩
    · refine j_iconst 1 dX11_shut_30 ic_1 ?_
      refine j_goto (tgt := 35) dX11_shut_31 rfl ?_
      refine j_iastN i dX11_shut_35 (shM hM sgM_5) (by omega) (by omega) ?_
      have sm4 : Fm PO M (jk_wI M 5 i 1) := Fm.w Fm.rf (by unfold PO PH PS; omega)
      refine j_iload_n 0 dX11_shut_36 rfl ?_
      refine j_iret dX11_shut_37 rfl ?_
      have hz : shutK Z b i = ((Z.1 13 i), nowZ Z (upS Z.1 13 i 1)) := by
        clear hQ
        clear cv hM hS
        have h01 := (okS.th hi).2.2.2
        grind [shutK, cif]
      exact hQ _ _ ⟨by rw [hz], by rw [hz]; exact MV.now cv sm4 (mv_ar (a := 13) hS (by omega))⟩
  · exact absurd hin c1
set_option maxRecDepth 20000 in
set_option maxHeartbeats 4000000 in
theorem N_shutN {d : Nat} {M : jk_M} {Z : ZS} (cv : MV M Z) (ok : Zok Z) (b : Int32) (hb : b = 0 ∨ b = 1) (t : Int32) (hx : ¬ (0 ≤ t ∧ t < nI (nT Z.1))) : J Fr_X11_shut (d + 1) 0 0 0 [(0, .ref 0), (1, .int t), (2, .int b)] [] M (jk_ex (some (.int (((-1 : Int32), refZ Z (-1))).1)) (fun M1 => MV M1 (((-1 : Int32), refZ Z (-1))).2)) := by
  refine j_post (fun Q hQ => ?_)
  have hM := cv.1
  have hS := cv.2.1
  have okS := ok.1
  have h40 := cv.2.2.2.2.2.2.2.2.2.2.1
  refine j_aload_n 0 dX11_shut_0 rfl ?_
  refine j_iload_n 1 dX11_shut_1 rfl ?_
  refine j_callV (kc := 0) (ks := 0) (a := 0) (b := 0) (d' := d) (As := [.int t]) dX11_shut_2 kX11_134 rfl (shM hM sgM_0) (by omega) rfl rfl rfl (Nat.le_of_ble_eq_true rfl) (Nat.le_of_ble_eq_true rfl) (T_X11_isThing hM hS okS t) (kk_p ?_)
  refine j_if_neB (p := (0 ≤ t ∧ t < nI (nT Z.1))) (tgt := 14) dX11_shut_5 rfl (fun c1 => ?_) (fun c1 => ?_)
  · exact absurd c1 hx
  · refine j_aload_n 0 dX11_shut_8 rfl ?_
    refine j_iconst (-1) dX11_shut_9 ic_n1 ?_
    refine j_callV (kc := 0) (ks := 0) (a := 0) (b := 0) (d' := d) (As := [.int (-1)]) dX11_shut_10 kX11_130 rfl (shM hM sgM_0) (by omega) rfl rfl rfl (Nat.le_of_ble_eq_true rfl) (Nat.le_of_ble_eq_true rfl) (T_X11_no hM (-1) (by decide)) (kk_p ?_)
    refine j_iret dX11_shut_13 rfl ?_
    exact hQ _ _ ⟨rfl, MV.rf cv (by decide)⟩
theorem N_shut {d : Nat} {M : jk_M} {Z : ZS} (cv : MV M Z) (ok : Zok Z) (t : Int32) (b : Int32) (hb : b = 0 ∨ b = 1) : J Fr_X11_shut (d + 1) 0 0 0 [(0, .ref 0), (1, .int t), (2, .int b)] [] M (jk_ex (some (.int (shutZ Z t b).1)) (fun M1 => MV M1 (shutZ Z t b).2)) := by
  by_cases h : 0 ≤ t ∧ t < nI (nT Z.1)
  · have hn : nT Z.1 < 2 ^ 31 := by have := (Sok.T ok.1).2; omega
    obtain ⟨k9, hk9, rfl⟩ := i_in hn h
    rw [shutZ, inZ_y hk9 hn]
    exact N_shutY cv ok b hb k9 hk9
  · rw [shutZ, inZ_n h]
    exact N_shutN cv ok b hb t h
set_option maxRecDepth 20000 in
set_option maxHeartbeats 4000000 in
theorem N_moveY {d : Nat} {M : jk_M} {Z : ZS} (cv : MV M Z) (ok : Zok Z) (c : Int32) (i : Nat) (hi : i < nT Z.1) : J Fr_X11_move (d + 1) 0 0 0 [(0, .ref 0), (1, .int (nI i)), (2, .int c)] [] M (jk_ex (some (.int (moveK Z c i).1)) (fun M1 => MV M1 (moveK Z c i).2)) := by
  refine j_post (fun Q hQ => ?_)
  have hM := cv.1
  have hS := cv.2.1
  have okS := ok.1
  have h40 := cv.2.2.2.2.2.2.2.2.2.2.1
  have hT := (Sok.T okS).2
  have hD := (Sok.D okS).2
  have hin := i_ok hi (show nT Z.1 < 2 ^ 31 by omega)
  refine j_aload_n 0 dX11_move_0 rfl ?_
  refine j_iload_n 1 dX11_move_1 rfl ?_
  refine j_callV (kc := 0) (ks := 0) (a := 0) (b := 0) (d' := d) (As := [.int (nI i)]) dX11_move_2 kX11_134 rfl (shM hM sgM_0) (by omega) rfl rfl rfl (Nat.le_of_ble_eq_true rfl) (Nat.le_of_ble_eq_true rfl) (T_X11_isThing hM hS okS (nI i)) (kk_p ?_)
  refine j_if_neB (p := (0 ≤ (nI i) ∧ (nI i) < nI (nT Z.1))) (tgt := 14) dX11_move_5 rfl (fun c1 => ?_) (fun c1 => ?_)
  · refine j_aload_n 0 dX11_move_14 rfl ?_
    refine j_iload_n 2 dX11_move_15 rfl ?_
    refine j_callV (kc := 0) (ks := 0) (a := 0) (b := 0) (d' := d) (As := [.int c]) dX11_move_16 kX11_154 rfl (shM hM sgM_0) (by omega) rfl rfl rfl (Nat.le_of_ble_eq_true rfl) (Nat.le_of_ble_eq_true rfl) (T_X11_isCell hM hS okS c) (kk_p ?_)
    refine j_if_neB (p := (isC Z.1 c)) (tgt := 29) dX11_move_19 rfl (fun c2 => ?_) (fun c2 => ?_)
    · refine j_aload_n 0 dX11_move_29 rfl ?_
      refine j_getr (q := 4) dX11_move_30 fX11_35 (shM hM sgM_0) rfl (rfM hM rfM_0_12) ?_
      refine j_iload_n 1 dX11_move_33 rfl ?_
      refine j_ialdN i dX11_move_34 (shM hM sgM_4) (by omega) (by omega) ?_
      refine j_topi (Z.1 12 i) (mr_arT hS (k := 2) (by omega) (by decide)) ?_
      refine j_istore_n (L' := [(3, .int (Z.1 12 i)), (0, .ref 0), (1, .int (nI i)), (2, .int c)]) dX11_move_35 (by decide) rfl ?_
      refine j_aload_n 1 dX11_move_36 rfl ?_
      refine j_getr (q := 4) dX11_move_37 fX11_35 (shM hM sgM_0) rfl (rfM hM rfM_0_12) ?_
      refine j_iload_n 2 dX11_move_40 rfl ?_
      refine j_iload_n 3 dX11_move_41 rfl ?_
      refine j_iastN i dX11_move_42 (shM hM sgM_4) (by omega) (by omega) ?_
      have sm3 : Fm PO M (jk_wI M 4 i c) := Fm.w Fm.rf (by unfold PO PH PS; omega)
      refine j_iload_n 0 dX11_move_43 rfl ?_
      refine j_iret dX11_move_44 rfl ?_
      have hz : moveK Z c i = ((Z.1 12 i), nowZ Z (upS Z.1 12 i c)) := by
        clear hQ
        clear cv hM hS
        grind [moveK, cif]
      exact hQ _ _ ⟨by rw [hz], by rw [hz]; exact MV.now cv sm3 (mv_ar (a := 12) hS (by omega))⟩
    · refine j_aload_n 0 dX11_move_22 rfl ?_
      refine j_bipush (-6) dX11_move_23 bp_n6 ?_
      refine j_callV (kc := 0) (ks := 0) (a := 0) (b := 0) (d' := d) (As := [.int (-6)]) dX11_move_25 kX11_130 rfl (shM hM sgM_0) (by omega) rfl rfl rfl (Nat.le_of_ble_eq_true rfl) (Nat.le_of_ble_eq_true rfl) (T_X11_no hM (-6) (by decide)) (kk_p ?_)
      refine j_iret dX11_move_28 rfl ?_
      have hz : moveK Z c i = ((-6), (refZ Z (-6))) := by
        clear hQ
        clear cv hM hS
        grind [moveK, cif]
      exact hQ _ _ ⟨by rw [hz], by rw [hz]; exact MV.rf cv (by decide)⟩
  · exact absurd hin c1
set_option maxRecDepth 20000 in
set_option maxHeartbeats 4000000 in
theorem N_moveN {d : Nat} {M : jk_M} {Z : ZS} (cv : MV M Z) (ok : Zok Z) (c : Int32) (t : Int32) (hx : ¬ (0 ≤ t ∧ t < nI (nT Z.1))) : J Fr_X11_move (d + 1) 0 0 0 [(0, .ref 0), (1, .int t), (2, .int c)] [] M (jk_ex (some (.int (((-1 : Int32), refZ Z (-1))).1)) (fun M1 => MV M1 (((-1 : Int32), refZ Z (-1))).2)) := by
  refine j_post (fun Q hQ => ?_)
  have hM := cv.1
  have hS := cv.2.1
  have okS := ok.1
  have h40 := cv.2.2.2.2.2.2.2.2.2.2.1
  refine j_aload_n 0 dX11_move_0 rfl ?_
  refine j_iload_n 1 dX11_move_1 rfl ?_
  refine j_callV (kc := 0) (ks := 0) (a := 0) (b := 0) (d' := d) (As := [.int t]) dX11_move_2 kX11_134 rfl (shM hM sgM_0) (by omega) rfl rfl rfl (Nat.le_of_ble_eq_true rfl) (Nat.le_of_ble_eq_true rfl) (T_X11_isThing hM hS okS t) (kk_p ?_)
  refine j_if_neB (p := (0 ≤ t ∧ t < nI (nT Z.1))) (tgt := 14) dX11_move_5 rfl (fun c1 => ?_) (fun c1 => ?_)
  · exact absurd c1 hx
  · refine j_aload_n 0 dX11_move_8 rfl ?_
    refine j_iconst (-1) dX11_move_9 ic_n1 ?_
    refine j_callV (kc := 0) (ks := 0) (a := 0) (b := 0) (d' := d) (As := [.int (-1)]) dX11_move_10 kX11_130 rfl (shM hM sgM_0) (by omega) rfl rfl rfl (Nat.le_of_ble_eq_true rfl) (Nat.le_of_ble_eq_true rfl) (T_X11_no hM (-1) (by decide)) (kk_p ?_)
    refine j_iret dX11_move_13 rfl ?_
    exact hQ _ _ ⟨rfl, MV.rf cv (by decide)⟩
theorem N_move {d : Nat} {M : jk_M} {Z : ZS} (cv : MV M Z) (ok : Zok Z) (t : Int32) (c : Int32) : J Fr_X11_move (d + 1) 0 0 0 [(0, .ref 0), (1, .int t), (2, .int c)] [] M (jk_ex (some (.int (moveZ Z t c).1)) (fun M1 => MV M1 (moveZ Z t c).2)) := by
  by_cases h : 0 ≤ t ∧ t < nI (nT Z.1)
  · have hn : nT Z.1 < 2 ^ 31 := by have := (Sok.T ok.1).2; omega
    obtain ⟨k9, hk9, rfl⟩ := i_in hn h
    rw [moveZ, inZ_y hk9 hn]
    exact N_moveY cv ok c k9 hk9
  · rw [moveZ, inZ_n h]
    exact N_moveN cv ok c t h
set_option maxRecDepth 20000 in
set_option maxHeartbeats 4000000 in
theorem N_thingOfY {d : Nat} {M : jk_M} {Z : ZS} (cv : MV M Z) (ok : Zok Z) (k : Int32) (i : Nat) (hi : i < nT Z.1) : J Fr_X11_thingOf (d + 1) 0 0 0 [(0, .ref 0), (1, .int (nI i)), (2, .int k)] [] M (jk_ex (some (.int (tofK Z k i).1)) (fun M1 => MV M1 (tofK Z k i).2)) := by
  refine j_post (fun Q hQ => ?_)
  have hM := cv.1
  have hS := cv.2.1
  have okS := ok.1
  have h40 := cv.2.2.2.2.2.2.2.2.2.2.1
  have hT := (Sok.T okS).2
  have hD := (Sok.D okS).2
  have hin := i_ok hi (show nT Z.1 < 2 ^ 31 by omega)
  refine j_aload_n 0 dX11_thingOf_0 rfl ?_
  refine j_iload_n 1 dX11_thingOf_1 rfl ?_
  refine j_callV (kc := 0) (ks := 0) (a := 0) (b := 0) (d' := d) (As := [.int (nI i)]) dX11_thingOf_2 kX11_134 rfl (shM hM sgM_0) (by omega) rfl rfl rfl (Nat.le_of_ble_eq_true rfl) (Nat.le_of_ble_eq_true rfl) (T_X11_isThing hM hS okS (nI i)) (kk_p ?_)
  refine j_if_neB (p := (0 ≤ (nI i) ∧ (nI i) < nI (nT Z.1))) (tgt := 15) dX11_thingOf_5 rfl (fun c1 => ?_) (fun c1 => ?_)
  · refine j_iload_n 2 dX11_thingOf_15 rfl ?_
    by_cases c3 : k = 0
    · refine j_tableIn (tgt := 52) dX11_thingOf_16 (by rw [c3]; decide) (by rw [c3]; decide) (off := 36) (by rw [c3]; decide) rfl ?_
      refine j_aload_n 0 dX11_thingOf_52 rfl ?_
      refine j_getr (q := 2) dX11_thingOf_53 fX11_29 (shM hM sgM_0) rfl (rfM hM rfM_0_10) ?_
      refine j_iload_n 1 dX11_thingOf_56 rfl ?_
      refine j_ialdN i dX11_thingOf_57 (shM hM sgM_2) (by omega) (by omega) ?_
      refine j_topi (Z.1 10 i) (mr_arT hS (k := 0) (by omega) (by decide)) ?_
      refine j_iret dX11_thingOf_58 rfl ?_
      have hz : tofK Z k i = ((Z.1 10 i), Z) := by
        clear hQ
        clear cv hM hS
        grind [tofK, cif]
      exact hQ _ _ ⟨by rw [hz], by rw [hz]; exact cv⟩
    by_cases c4 : k = 1
    · refine j_tableIn (tgt := 59) dX11_thingOf_16 (by rw [c4]; decide) (by rw [c4]; decide) (off := 43) (by rw [c4]; decide) rfl ?_
      refine j_aload_n 0 dX11_thingOf_59 rfl ?_
      refine j_getr (q := 3) dX11_thingOf_60 fX11_32 (shM hM sgM_0) rfl (rfM hM rfM_0_11) ?_
      refine j_iload_n 1 dX11_thingOf_63 rfl ?_
      refine j_ialdN i dX11_thingOf_64 (shM hM sgM_3) (by omega) (by omega) ?_
      refine j_topi (Z.1 11 i) (mr_arT hS (k := 1) (by omega) (by decide)) ?_
      refine j_iret dX11_thingOf_65 rfl ?_
      have hz : tofK Z k i = ((Z.1 11 i), Z) := by
        clear hQ
        clear cv hM hS
        grind [tofK, cif]
      exact hQ _ _ ⟨by rw [hz], by rw [hz]; exact cv⟩
    by_cases c5 : k = 2
    · refine j_tableIn (tgt := 66) dX11_thingOf_16 (by rw [c5]; decide) (by rw [c5]; decide) (off := 50) (by rw [c5]; decide) rfl ?_
      refine j_aload_n 0 dX11_thingOf_66 rfl ?_
      refine j_getr (q := 4) dX11_thingOf_67 fX11_35 (shM hM sgM_0) rfl (rfM hM rfM_0_12) ?_
      refine j_iload_n 1 dX11_thingOf_70 rfl ?_
      refine j_ialdN i dX11_thingOf_71 (shM hM sgM_4) (by omega) (by omega) ?_
      refine j_topi (Z.1 12 i) (mr_arT hS (k := 2) (by omega) (by decide)) ?_
      refine j_iret dX11_thingOf_72 rfl ?_
      have hz : tofK Z k i = ((Z.1 12 i), Z) := by
        clear hQ
        clear cv hM hS
        grind [tofK, cif]
      exact hQ _ _ ⟨by rw [hz], by rw [hz]; exact cv⟩
    by_cases c6 : k = 3
    · refine j_tableIn (tgt := 73) dX11_thingOf_16 (by rw [c6]; decide) (by rw [c6]; decide) (off := 57) (by rw [c6]; decide) rfl ?_
      refine j_aload_n 0 dX11_thingOf_73 rfl ?_
      refine j_getr (q := 5) dX11_thingOf_74 fX11_38 (shM hM sgM_0) rfl (rfM hM rfM_0_13) ?_
      refine j_iload_n 1 dX11_thingOf_77 rfl ?_
      refine j_ialdN i dX11_thingOf_78 (shM hM sgM_5) (by omega) (by omega) ?_
      refine j_topi (Z.1 13 i) (mr_arT hS (k := 3) (by omega) (by decide)) ?_
      refine j_iret dX11_thingOf_79 rfl ?_
      have hz : tofK Z k i = ((Z.1 13 i), Z) := by
        clear hQ
        clear cv hM hS
        grind [tofK, cif]
      exact hQ _ _ ⟨by rw [hz], by rw [hz]; exact cv⟩
    by_cases c7 : k = 4
    · refine j_tableIn (tgt := 80) dX11_thingOf_16 (by rw [c7]; decide) (by rw [c7]; decide) (off := 64) (by rw [c7]; decide) rfl ?_
      refine j_aload_n 0 dX11_thingOf_80 rfl ?_
      refine j_iload_n 1 dX11_thingOf_81 rfl ?_
      refine j_callV (kc := 0) (ks := 0) (a := 0) (b := 0) (d' := d) (As := [.int (nI i)]) dX11_thingOf_82 kX11_141 rfl (shM hM sgM_0) (by omega) rfl rfl rfl (Nat.le_of_ble_eq_true rfl) (Nat.le_of_ble_eq_true rfl) (T_X11_loss hM hS okS i (by omega)) (kk_p ?_)
      refine j_iret dX11_thingOf_85 rfl ?_
      have hz : tofK Z k i = ((lossT Z.1 i), Z) := by
        clear hQ
        clear cv hM hS
        grind [tofK, cif]
      exact hQ _ _ ⟨by rw [hz], by rw [hz]; exact cv⟩
    refine j_tableOut (tgt := 86) dX11_thingOf_16 (by have q0 := lv_neT c3 (a := 0) (by decide); have q1 := lv_neT c4 (a := 1) (by decide); have q2 := lv_neT c5 (a := 2) (by decide); have q3 := lv_neT c6 (a := 3) (by decide); have q4 := lv_neT c7 (a := 4) (by decide); omega) rfl ?_
    refine j_aload_n 0 dX11_thingOf_86 rfl ?_
    refine j_bipush (-5) dX11_thingOf_87 bp_n5 ?_
    refine j_callV (kc := 0) (ks := 0) (a := 0) (b := 0) (d' := d) (As := [.int (-5)]) dX11_thingOf_89 kX11_130 rfl (shM hM sgM_0) (by omega) rfl rfl rfl (Nat.le_of_ble_eq_true rfl) (Nat.le_of_ble_eq_true rfl) (T_X11_no hM (-5) (by decide)) (kk_p ?_)
    refine j_iret dX11_thingOf_92 rfl ?_
    have hz : tofK Z k i = ((-5), (refZ Z (-5))) := by
      clear hQ
      clear cv hM hS
      grind [tofK, cif]
    exact hQ _ _ ⟨by rw [hz], by rw [hz]; exact MV.rf cv (by decide)⟩
  · exact absurd hin c1
set_option maxRecDepth 20000 in
set_option maxHeartbeats 4000000 in
theorem N_thingOfN {d : Nat} {M : jk_M} {Z : ZS} (cv : MV M Z) (ok : Zok Z) (k : Int32) (t : Int32) (hx : ¬ (0 ≤ t ∧ t < nI (nT Z.1))) : J Fr_X11_thingOf (d + 1) 0 0 0 [(0, .ref 0), (1, .int t), (2, .int k)] [] M (jk_ex (some (.int (((-5 : Int32), refZ Z (-5))).1)) (fun M1 => MV M1 (((-5 : Int32), refZ Z (-5))).2)) := by
  refine j_post (fun Q hQ => ?_)
  have hM := cv.1
  have hS := cv.2.1
  have okS := ok.1
  have h40 := cv.2.2.2.2.2.2.2.2.2.2.1
  refine j_aload_n 0 dX11_thingOf_0 rfl ?_
  refine j_iload_n 1 dX11_thingOf_1 rfl ?_
  refine j_callV (kc := 0) (ks := 0) (a := 0) (b := 0) (d' := d) (As := [.int t]) dX11_thingOf_2 kX11_134 rfl (shM hM sgM_0) (by omega) rfl rfl rfl (Nat.le_of_ble_eq_true rfl) (Nat.le_of_ble_eq_true rfl) (T_X11_isThing hM hS okS t) (kk_p ?_)
  refine j_if_neB (p := (0 ≤ t ∧ t < nI (nT Z.1))) (tgt := 15) dX11_thingOf_5 rfl (fun c1 => ?_) (fun c1 => ?_)
  · exact absurd c1 hx
  · refine j_aload_n 0 dX11_thingOf_8 rfl ?_
    refine j_bipush (-5) dX11_thingOf_9 bp_n5 ?_
    refine j_callV (kc := 0) (ks := 0) (a := 0) (b := 0) (d' := d) (As := [.int (-5)]) dX11_thingOf_11 kX11_130 rfl (shM hM sgM_0) (by omega) rfl rfl rfl (Nat.le_of_ble_eq_true rfl) (Nat.le_of_ble_eq_true rfl) (T_X11_no hM (-5) (by decide)) (kk_p ?_)
    refine j_iret dX11_thingOf_14 rfl ?_
    exact hQ _ _ ⟨rfl, MV.rf cv (by decide)⟩
theorem N_thingOf {d : Nat} {M : jk_M} {Z : ZS} (cv : MV M Z) (ok : Zok Z) (t : Int32) (k : Int32) : J Fr_X11_thingOf (d + 1) 0 0 0 [(0, .ref 0), (1, .int t), (2, .int k)] [] M (jk_ex (some (.int (tofZ Z t k).1)) (fun M1 => MV M1 (tofZ Z t k).2)) := by
  by_cases h : 0 ≤ t ∧ t < nI (nT Z.1)
  · have hn : nT Z.1 < 2 ^ 31 := by have := (Sok.T ok.1).2; omega
    obtain ⟨k9, hk9, rfl⟩ := i_in hn h
    rw [tofZ, inZ_y hk9 hn]
    exact N_thingOfY cv ok k k9 hk9
  · rw [tofZ, inZ_n h]
    exact N_thingOfN cv ok k t h
set_option maxRecDepth 20000 in
set_option maxHeartbeats 4000000 in
theorem N_deviceOfY {d : Nat} {M : jk_M} {Z : ZS} (cv : MV M Z) (ok : Zok Z) (k : Int32) (i : Nat) (hi : i < nD Z.1) : J Fr_X11_deviceOf (d + 6) 0 0 0 [(0, .ref 0), (1, .int (nI i)), (2, .int k)] [] M (jk_ex (some (.int (dofK Z k i).1)) (fun M1 => MV M1 (dofK Z k i).2)) := by
  refine j_post (fun Q hQ => ?_)
  have hM := cv.1
  have hS := cv.2.1
  have okS := ok.1
  have h40 := cv.2.2.2.2.2.2.2.2.2.2.1
  have hT := (Sok.T okS).2
  have hD := (Sok.D okS).2
  have hin := i_ok hi (show nD Z.1 < 2 ^ 31 by omega)
  refine j_iload_n 1 dX11_deviceOf_0 rfl ?_
  refine j_if_ltN (tgt := 12) i dX11_deviceOf_1 (by omega) rfl ?_
  refine j_iload_n 1 dX11_deviceOf_4 rfl ?_
  refine j_aload_n 0 dX11_deviceOf_5 rfl ?_
  refine j_getv (nI (nD Z.1)) dX11_deviceOf_6 fX11_147 (shM hM sgM_0) rfl ((mr_D hS).trans (Sok.D okS).1) ?_
  refine j_icmp_ltN (tgt := 19) i (nD Z.1) dX11_deviceOf_9 rfl (by omega) (by omega) (fun c2 => ?_) (fun c2 => ?_)
  · refine j_iload_n 2 dX11_deviceOf_19 rfl ?_
    by_cases c4 : k = 0
    · refine j_tableIn (tgt := 60) dX11_deviceOf_20 (by rw [c4]; decide) (by rw [c4]; decide) (off := 40) (by rw [c4]; decide) rfl ?_
      refine j_aload_n 0 dX11_deviceOf_60 rfl ?_
      refine j_getr (q := 8) dX11_deviceOf_61 fX11_47 (shM hM sgM_0) rfl (rfM hM rfM_0_16) ?_
      refine j_iload_n 1 dX11_deviceOf_64 rfl ?_
      refine j_ialdN i dX11_deviceOf_65 (shM hM sgM_8) (by omega) (by omega) ?_
      refine j_topi (Z.1 16 i) (mr_arD hS (k := 0) (by omega) (by decide)) ?_
      refine j_iret dX11_deviceOf_66 rfl ?_
      have hz : dofK Z k i = ((Z.1 16 i), Z) := by
        clear hQ
        clear cv hM hS
        grind [dofK, cif, bestT]
      exact hQ _ _ ⟨by rw [hz], by rw [hz]; exact cv⟩
    by_cases c5 : k = 1
    · refine j_tableIn (tgt := 67) dX11_deviceOf_20 (by rw [c5]; decide) (by rw [c5]; decide) (off := 47) (by rw [c5]; decide) rfl ?_
      refine j_aload_n 0 dX11_deviceOf_67 rfl ?_
      refine j_getr (q := 9) dX11_deviceOf_68 fX11_50 (shM hM sgM_0) rfl (rfM hM rfM_0_17) ?_
      refine j_iload_n 1 dX11_deviceOf_71 rfl ?_
      refine j_ialdN i dX11_deviceOf_72 (shM hM sgM_9) (by omega) (by omega) ?_
      refine j_topi (Z.1 17 i) (mr_arD hS (k := 1) (by omega) (by decide)) ?_
      refine j_iret dX11_deviceOf_73 rfl ?_
      have hz : dofK Z k i = ((Z.1 17 i), Z) := by
        clear hQ
        clear cv hM hS
        grind [dofK, cif, bestT]
      exact hQ _ _ ⟨by rw [hz], by rw [hz]; exact cv⟩
    by_cases c6 : k = 2
    · refine j_tableIn (tgt := 74) dX11_deviceOf_20 (by rw [c6]; decide) (by rw [c6]; decide) (off := 54) (by rw [c6]; decide) rfl ?_
      refine j_aload_n 0 dX11_deviceOf_74 rfl ?_
      refine j_getr (q := 10) dX11_deviceOf_75 fX11_53 (shM hM sgM_0) rfl (rfM hM rfM_0_18) ?_
      refine j_iload_n 1 dX11_deviceOf_78 rfl ?_
      refine j_ialdN i dX11_deviceOf_79 (shM hM sgM_10) (by omega) (by omega) ?_
      refine j_topi (Z.1 18 i) (mr_arD hS (k := 2) (by omega) (by decide)) ?_
      refine j_iret dX11_deviceOf_80 rfl ?_
      have hz : dofK Z k i = ((Z.1 18 i), Z) := by
        clear hQ
        clear cv hM hS
        grind [dofK, cif, bestT]
      exact hQ _ _ ⟨by rw [hz], by rw [hz]; exact cv⟩
    by_cases c7 : k = 3
    · refine j_tableIn (tgt := 81) dX11_deviceOf_20 (by rw [c7]; decide) (by rw [c7]; decide) (off := 61) (by rw [c7]; decide) rfl ?_
      refine j_aload_n 0 dX11_deviceOf_81 rfl ?_
      refine j_getr (q := 11) dX11_deviceOf_82 fX11_56 (shM hM sgM_0) rfl (rfM hM rfM_0_19) ?_
      refine j_iload_n 1 dX11_deviceOf_85 rfl ?_
      refine j_ialdN i dX11_deviceOf_86 (shM hM sgM_11) (by omega) (by omega) ?_
      refine j_topi (Z.1 19 i) (mr_arD hS (k := 3) (by omega) (by decide)) ?_
      refine j_iret dX11_deviceOf_87 rfl ?_
      have hz : dofK Z k i = ((Z.1 19 i), Z) := by
        clear hQ
        clear cv hM hS
        grind [dofK, cif, bestT]
      exact hQ _ _ ⟨by rw [hz], by rw [hz]; exact cv⟩
    by_cases c8 : k = 4
    · refine j_tableIn (tgt := 88) dX11_deviceOf_20 (by rw [c8]; decide) (by rw [c8]; decide) (off := 68) (by rw [c8]; decide) rfl ?_
      refine j_aload_n 0 dX11_deviceOf_88 rfl ?_
      refine j_callV (kc := 0) (ks := 0) (a := 0) (b := 0) (d' := (d + 3)) (As := []) dX11_deviceOf_89 kX11_181 rfl (shM hM sgM_0) (by omega) rfl rfl rfl (Nat.le_of_ble_eq_true rfl) (Nat.le_of_ble_eq_true rfl) (T_X11_looks hM hS okS h40 (GT.no okS) okS) (kk_ev (fun M9 hM10 => ?_))
      obtain ⟨h011, lk13⟩ := hM10
      have sm12 : Fm PS M M9 := Fm.mo h011 PLk_S
      refine j_aload_n 0 dX11_deviceOf_92 rfl ?_
      refine j_aload_n 0 dX11_deviceOf_93 rfl ?_
      refine j_getr (q := 11) dX11_deviceOf_94 fX11_56 (shM (Fm.M sm12 hM) sgM_0) rfl (rfM (Fm.M sm12 hM) rfM_0_19) ?_
      refine j_iload_n 1 dX11_deviceOf_97 rfl ?_
      refine j_ialdN i dX11_deviceOf_98 (shM (Fm.M sm12 hM) sgM_11) (by omega) (by omega) ?_
      refine j_topi (Z.1 19 i) (mr_arD (Fm.mv sm12 hS PS_H) (k := 3) (by omega) (by decide)) ?_
      refine j_aload_n 0 dX11_deviceOf_99 rfl ?_
      refine j_getr (q := 8) dX11_deviceOf_100 fX11_47 (shM (Fm.M sm12 hM) sgM_0) rfl (rfM (Fm.M sm12 hM) rfM_0_16) ?_
      refine j_iload_n 1 dX11_deviceOf_103 rfl ?_
      refine j_ialdN i dX11_deviceOf_104 (shM (Fm.M sm12 hM) sgM_8) (by omega) (by omega) ?_
      refine j_topi (Z.1 16 i) (mr_arD (Fm.mv sm12 hS PS_H) (k := 0) (by omega) (by decide)) ?_
      refine j_callV (kc := 0) (ks := 0) (a := 0) (b := 0) (d' := (d + 4)) (As := [.int (Z.1 19 i), .int (Z.1 16 i)]) dX11_deviceOf_105 kX11_184 rfl (shM (Fm.M sm12 hM) sgM_0) (by omega) rfl rfl rfl (Nat.le_of_ble_eq_true rfl) (Nat.le_of_ble_eq_true rfl) (T_X11_pace (Fm.M sm12 hM) (MEq.of (Fm.mv sm12 hS PS_H)) okS lk13 (Z.1 19 i) (Z.1 16 i) (okS.de hi).1) (kk_p ?_)
      refine j_iret dX11_deviceOf_108 rfl ?_
      have hz : dofK Z k i = ((paceS Z.1 (Z.1 19 i) (Z.1 16 i)), Z) := by
        clear hQ
        clear cv hM hS
        grind [dofK, cif, bestT]
      exact hQ _ _ ⟨by rw [hz], by rw [hz]; exact MV.sc cv sm12⟩
    by_cases c14 : k = 5
    · refine j_tableIn (tgt := 109) dX11_deviceOf_20 (by rw [c14]; decide) (by rw [c14]; decide) (off := 89) (by rw [c14]; decide) rfl ?_
      refine j_aload_n 0 dX11_deviceOf_109 rfl ?_
      refine j_callV (kc := 0) (ks := 0) (a := 0) (b := 0) (d' := (d + 3)) (As := []) dX11_deviceOf_110 kX11_181 rfl (shM hM sgM_0) (by omega) rfl rfl rfl (Nat.le_of_ble_eq_true rfl) (Nat.le_of_ble_eq_true rfl) (T_X11_looks hM hS okS h40 (GT.no okS) okS) (kk_ev (fun M15 hM16 => ?_))
      obtain ⟨h017, lk19⟩ := hM16
      have sm18 : Fm PS M M15 := Fm.mo h017 PLk_S
      refine j_aload_n 0 dX11_deviceOf_113 rfl ?_
      refine j_aload_n 0 dX11_deviceOf_114 rfl ?_
      refine j_getr (q := 8) dX11_deviceOf_115 fX11_47 (shM (Fm.M sm18 hM) sgM_0) rfl (rfM (Fm.M sm18 hM) rfM_0_16) ?_
      refine j_iload_n 1 dX11_deviceOf_118 rfl ?_
      refine j_ialdN i dX11_deviceOf_119 (shM (Fm.M sm18 hM) sgM_8) (by omega) (by omega) ?_
      refine j_topi (Z.1 16 i) (mr_arD (Fm.mv sm18 hS PS_H) (k := 0) (by omega) (by decide)) ?_
      refine j_callV (kc := 0) (ks := 0) (a := 0) (b := 0) (d' := (d + 5)) (As := [.int (Z.1 16 i)]) dX11_deviceOf_120 kX11_187 rfl (shM (Fm.M sm18 hM) sgM_0) (by omega) rfl rfl rfl (Nat.le_of_ble_eq_true rfl) (Nat.le_of_ble_eq_true rfl) (T_X11_best (Fm.M sm18 hM) (MEq.of (Fm.mv sm18 hS PS_H)) okS lk19 (Z.1 16 i) (okS.de hi).1) (kk_p ?_)
      refine j_iret dX11_deviceOf_123 rfl ?_
      have hz : dofK Z k i = ((bestT Z.1 (Z.1 16 i)), Z) := by
        clear hQ
        clear cv hM hS
        grind [dofK, cif, bestT]
      exact hQ _ _ ⟨by rw [hz], by rw [hz]; exact MV.sc cv sm18⟩
    refine j_tableOut (tgt := 124) dX11_deviceOf_20 (by have q0 := lv_neT c4 (a := 0) (by decide); have q1 := lv_neT c5 (a := 1) (by decide); have q2 := lv_neT c6 (a := 2) (by decide); have q3 := lv_neT c7 (a := 3) (by decide); have q4 := lv_neT c8 (a := 4) (by decide); have q5 := lv_neT c14 (a := 5) (by decide); omega) rfl ?_
    refine j_aload_n 0 dX11_deviceOf_124 rfl ?_
    refine j_bipush (-5) dX11_deviceOf_125 bp_n5 ?_
    refine j_callV (kc := 0) (ks := 0) (a := 0) (b := 0) (d' := d) (As := [.int (-5)]) dX11_deviceOf_127 kX11_130 rfl (shM hM sgM_0) (by omega) rfl rfl rfl (Nat.le_of_ble_eq_true rfl) (Nat.le_of_ble_eq_true rfl) (T_X11_no hM (-5) (by decide)) (kk_p ?_)
    refine j_iret dX11_deviceOf_130 rfl ?_
    have hz : dofK Z k i = ((-5), (refZ Z (-5))) := by
      clear hQ
      clear cv hM hS
      grind [dofK, cif, bestT]
    exact hQ _ _ ⟨by rw [hz], by rw [hz]; exact MV.rf cv (by decide)⟩
  · exact absurd c2 (by omega)
set_option maxRecDepth 20000 in
set_option maxHeartbeats 4000000 in
theorem N_deviceOfN {d : Nat} {M : jk_M} {Z : ZS} (cv : MV M Z) (ok : Zok Z) (k : Int32) (t : Int32) (hx : ¬ (0 ≤ t ∧ t < nI (nD Z.1))) : J Fr_X11_deviceOf (d + 6) 0 0 0 [(0, .ref 0), (1, .int t), (2, .int k)] [] M (jk_ex (some (.int (((-5 : Int32), refZ Z (-5))).1)) (fun M1 => MV M1 (((-5 : Int32), refZ Z (-5))).2)) := by
  refine j_post (fun Q hQ => ?_)
  have hM := cv.1
  have hS := cv.2.1
  have okS := ok.1
  have h40 := cv.2.2.2.2.2.2.2.2.2.2.1
  refine j_iload_n 1 dX11_deviceOf_0 rfl ?_
  refine j_if_lt (tgt := 12) dX11_deviceOf_1 rfl (fun c1 => ?_) (fun c1 => ?_)
  · refine j_aload_n 0 dX11_deviceOf_12 rfl ?_
    refine j_bipush (-5) dX11_deviceOf_13 bp_n5 ?_
    refine j_callV (kc := 0) (ks := 0) (a := 0) (b := 0) (d' := d) (As := [.int (-5)]) dX11_deviceOf_15 kX11_130 rfl (shM hM sgM_0) (by omega) rfl rfl rfl (Nat.le_of_ble_eq_true rfl) (Nat.le_of_ble_eq_true rfl) (T_X11_no hM (-5) (by decide)) (kk_p ?_)
    refine j_iret dX11_deviceOf_18 rfl ?_
    exact hQ _ _ ⟨rfl, MV.rf cv (by decide)⟩
  · refine j_iload_n 1 dX11_deviceOf_4 rfl ?_
    refine j_aload_n 0 dX11_deviceOf_5 rfl ?_
    refine j_getv (nI (nD Z.1)) dX11_deviceOf_6 fX11_147 (shM hM sgM_0) rfl ((mr_D hS).trans (Sok.D okS).1) ?_
    refine j_icmp_lt (tgt := 19) dX11_deviceOf_9 rfl (fun c2 => ?_) (fun c2 => ?_)
    · exact absurd (show 0 ≤ t ∧ t < nI (nD Z.1) by clear hQ; grind) hx
    · refine j_aload_n 0 dX11_deviceOf_12 rfl ?_
      refine j_bipush (-5) dX11_deviceOf_13 bp_n5 ?_
      refine j_callV (kc := 0) (ks := 0) (a := 0) (b := 0) (d' := d) (As := [.int (-5)]) dX11_deviceOf_15 kX11_130 rfl (shM hM sgM_0) (by omega) rfl rfl rfl (Nat.le_of_ble_eq_true rfl) (Nat.le_of_ble_eq_true rfl) (T_X11_no hM (-5) (by decide)) (kk_p ?_)
      refine j_iret dX11_deviceOf_18 rfl ?_
      exact hQ _ _ ⟨rfl, MV.rf cv (by decide)⟩
theorem N_deviceOf {d : Nat} {M : jk_M} {Z : ZS} (cv : MV M Z) (ok : Zok Z) (t : Int32) (k : Int32) : J Fr_X11_deviceOf (d + 6) 0 0 0 [(0, .ref 0), (1, .int t), (2, .int k)] [] M (jk_ex (some (.int (dofZ Z t k).1)) (fun M1 => MV M1 (dofZ Z t k).2)) := by
  by_cases h : 0 ≤ t ∧ t < nI (nD Z.1)
  · have hn : nD Z.1 < 2 ^ 31 := by have := (Sok.D ok.1).2; omega
    obtain ⟨k9, hk9, rfl⟩ := i_in hn h
    rw [dofZ, inZ_y hk9 hn]
    exact N_deviceOfY cv ok k k9 hk9
  · rw [dofZ, inZ_n h]
    exact N_deviceOfN cv ok k t h
set_option maxRecDepth 20000 in
set_option maxHeartbeats 4000000 in
theorem N_fault {d : Nat} {M : jk_M} {Z : ZS} (cv : MV M Z) (ok : Zok Z)  : J Fr_X11_fault d 0 0 0 [(0, .ref 0)] [] M (jk_ex (some (.int (faultZ Z).1)) (fun M1 => MV M1 (faultZ Z).2)) := by
  refine j_post (fun Q hQ => ?_)
  have hM := cv.1
  have hS := cv.2.1
  have okS := ok.1
  have h40 := cv.2.2.2.2.2.2.2.2.2.2.1
  refine j_aload_n 0 dX11_fault_0 rfl ?_
  refine j_getv (Z.2.2.2.2 9) dX11_fault_1 fX11_22 (shM hM sgM_0) rfl cv.2.2.2.2.2.2.2.1 ?_
  refine j_iret dX11_fault_4 rfl ?_
  exact hQ _ _ ⟨rfl, cv⟩
set_option maxRecDepth 20000 in
set_option maxHeartbeats 4000000 in
theorem N_traceY {d : Nat} {M : jk_M} {Z : ZS} (cv : MV M Z) (ok : Zok Z) (j : Nat) (hj : j < 20) (hr : nI j < Z.2.2.2.2 10) : J Fr_X11_trace d 0 0 0 [(0, .ref 0), (1, .int (nI j))] [] M (jk_ex (some (.int (traceZ Z (nI j)).1)) (fun M1 => MV M1 (traceZ Z (nI j)).2)) := by
  refine j_post (fun Q hQ => ?_)
  have hM := cv.1
  have hS := cv.2.1
  have okS := ok.1
  have h40 := cv.2.2.2.2.2.2.2.2.2.2.1
  refine j_iload_n 1 dX11_trace_0 rfl ?_
  refine j_if_ltN (tgt := 27) j dX11_trace_1 (by omega) rfl ?_
  refine j_iload_n 1 dX11_trace_4 rfl ?_
  refine j_bipush 20 dX11_trace_5 bp_20 ?_
  refine j_icmp_geN (tgt := 27) j 20 dX11_trace_7 rfl (by omega) (by omega) (fun c2 => ?_) (fun c2 => ?_)
  · exact absurd c2 (by omega)
  · refine j_iload_n 1 dX11_trace_10 rfl ?_
    refine j_aload_n 0 dX11_trace_11 rfl ?_
    refine j_getv (Z.2.2.2.2 10) dX11_trace_12 fX11_318 (shM hM sgM_0) rfl cv.2.2.2.2.2.2.2.2.1 ?_
    refine j_icmp_ge (tgt := 27) dX11_trace_15 rfl (fun c3 => ?_) (fun c3 => ?_)
    · exact absurd c3 (Int32.not_le.mpr hr)
    · refine j_aload_n 0 dX11_trace_18 rfl ?_
      refine j_getr (q := 31) dX11_trace_19 fX11_120 (shM hM sgM_0) rfl (rfM hM rfM_0_48) ?_
      refine j_iload_n 1 dX11_trace_22 rfl ?_
      refine j_ialdN j dX11_trace_23 (shM hM sgM_31) (by omega) (by omega) ?_
      refine j_topi (Z.2.2.2.2 (11 + j)) (cv.2.2.2.2.2.2.2.2.2.1 j hj) ?_
      refine j_goto (tgt := 28) dX11_trace_24 rfl ?_
      refine j_iret dX11_trace_28 rfl ?_
      have hz : traceZ Z (nI j) = (Z.2.2.2.2 (11 + j), Z) := by
        rw [traceZ, if_pos ⟨nI_pos' (by omega), hr, by rw [show (20 : Int32) = nI 20 by decide]; exact nI_lt hj (by omega)⟩, nI_clamp (by omega)]
      exact hQ _ _ ⟨by rw [hz], by rw [hz]; exact cv⟩
set_option maxRecDepth 20000 in
set_option maxHeartbeats 4000000 in
theorem N_traceN {d : Nat} {M : jk_M} {Z : ZS} (cv : MV M Z) (ok : Zok Z) (x : Int32) (h : ¬ (0 ≤ x ∧ x < Z.2.2.2.2 10 ∧ x < 20)) : J Fr_X11_trace d 0 0 0 [(0, .ref 0), (1, .int x)] [] M (jk_ex (some (.int (traceZ Z x).1)) (fun M1 => MV M1 (traceZ Z x).2)) := by
  refine j_post (fun Q hQ => ?_)
  have hM := cv.1
  have hS := cv.2.1
  have okS := ok.1
  have h40 := cv.2.2.2.2.2.2.2.2.2.2.1
  refine j_iload_n 1 dX11_trace_0 rfl ?_
  refine j_if_lt (tgt := 27) dX11_trace_1 rfl (fun c1 => ?_) (fun c1 => ?_)
  · refine j_iconst (-1) dX11_trace_27 ic_n1 ?_
    refine j_iret dX11_trace_28 rfl ?_
    have hz : traceZ Z x = (-1, Z) := by rw [traceZ, if_neg h]
    exact hQ _ _ ⟨by rw [hz], by rw [hz]; exact cv⟩
  · refine j_iload_n 1 dX11_trace_4 rfl ?_
    refine j_bipush 20 dX11_trace_5 bp_20 ?_
    refine j_icmp_ge (tgt := 27) dX11_trace_7 rfl (fun c2 => ?_) (fun c2 => ?_)
    · refine j_iconst (-1) dX11_trace_27 ic_n1 ?_
      refine j_iret dX11_trace_28 rfl ?_
      have hz : traceZ Z x = (-1, Z) := by rw [traceZ, if_neg h]
      exact hQ _ _ ⟨by rw [hz], by rw [hz]; exact cv⟩
    · refine j_iload_n 1 dX11_trace_10 rfl ?_
      refine j_aload_n 0 dX11_trace_11 rfl ?_
      refine j_getv (Z.2.2.2.2 10) dX11_trace_12 fX11_318 (shM hM sgM_0) rfl cv.2.2.2.2.2.2.2.2.1 ?_
      refine j_icmp_ge (tgt := 27) dX11_trace_15 rfl (fun c3 => ?_) (fun c3 => ?_)
      · refine j_iconst (-1) dX11_trace_27 ic_n1 ?_
        refine j_iret dX11_trace_28 rfl ?_
        have hz : traceZ Z x = (-1, Z) := by rw [traceZ, if_neg h]
        exact hQ _ _ ⟨by rw [hz], by rw [hz]; exact cv⟩
      · exact absurd (show 0 ≤ x ∧ x < Z.2.2.2.2 10 ∧ x < 20 by clear hQ; grind) h
theorem N_trace {d : Nat} {M : jk_M} {Z : ZS} (cv : MV M Z) (ok : Zok Z) (x : Int32) : J Fr_X11_trace d 0 0 0 [(0, .ref 0), (1, .int x)] [] M (jk_ex (some (.int (traceZ Z x).1)) (fun M1 => MV M1 (traceZ Z x).2)) := by
  by_cases h : 0 ≤ x ∧ x < Z.2.2.2.2 10 ∧ x < 20
  · obtain ⟨j, hj, rfl⟩ := i_in (n := 20) (by decide) ⟨h.1, by rw [show nI 20 = (20 : Int32) by decide]; exact h.2.2⟩
    exact N_traceY cv ok j hj h.2.1
  · exact N_traceN cv ok x h
set_option maxRecDepth 20000 in
set_option maxHeartbeats 4000000 in
theorem N_statR {d : Nat} {M : jk_M} {Z : ZS} (cv : MV M Z) (ok : Zok Z) (j : Nat) (h1 : 1 ≤ j) (h7 : j ≤ 7) : J Fr_X11_status d 0 0 0 [(0, .ref 0), (1, .int (nI (10 + j)))] [] M (jk_ex (some (.int ((Z.2.2.2.2 j, Z)).1)) (fun M1 => MV M1 ((Z.2.2.2.2 j, Z)).2)) := by
  refine j_post (fun Q hQ => ?_)
  have hM := cv.1
  have hS := cv.2.1
  have okS := ok.1
  have h40 := cv.2.2.2.2.2.2.2.2.2.2.1
  refine j_iload_n 1 dX11_status_0 rfl ?_
  refine j_bipush 11 dX11_status_1 bp_11 ?_
  refine j_icmp_ltN (tgt := 22) (10 + j) 11 dX11_status_3 rfl (by omega) (by omega) (fun c1 => ?_) (fun c1 => ?_)
  · exact absurd c1 (by omega)
  · refine j_iload_n 1 dX11_status_6 rfl ?_
    refine j_bipush 17 dX11_status_7 bp_17 ?_
    refine j_icmp_gtN (tgt := 22) (10 + j) 17 dX11_status_9 rfl (by omega) (by omega) (fun c2 => ?_) (fun c2 => ?_)
    · exact absurd c2 (by omega)
    · refine j_aload_n 0 dX11_status_12 rfl ?_
      refine j_getr (q := 1) dX11_status_13 fX11_25 (shM hM sgM_0) rfl (rfM hM rfM_0_9) ?_
      refine j_iload_n 1 dX11_status_16 rfl ?_
      refine j_bipush 10 dX11_status_17 bp_10 ?_
      refine j_isubN (10 + j) 10 dX11_status_19 (by omega) ?_
      refine j_ialdN ((10 + j) - 10) dX11_status_20 (shM hM sgM_1) (by omega) (by omega) ?_
      refine j_topi (Z.2.2.2.2 (10 + j - 10)) (cv.2.2.2.2.2.1 _ (by omega)) ?_
      refine j_iret dX11_status_21 rfl ?_
      exact hQ _ _ ⟨by rw [show 10 + j - 10 = j by omega], cv⟩
set_option maxRecDepth 20000 in
set_option maxHeartbeats 4000000 in
theorem N_statS {d : Nat} {M : jk_M} {Z : ZS} (cv : MV M Z) (ok : Zok Z) (w : Int32) (h : ¬ (11 ≤ w ∧ w ≤ 17)) : J Fr_X11_status d 0 0 0 [(0, .ref 0), (1, .int w)] [] M (jk_ex (some (.int ((statS Z.1 Z.2.2.2.2 w, Z)).1)) (fun M1 => MV M1 ((statS Z.1 Z.2.2.2.2 w, Z)).2)) := by
  refine j_post (fun Q hQ => ?_)
  have hM := cv.1
  have hS := cv.2.1
  have okS := ok.1
  have h40 := cv.2.2.2.2.2.2.2.2.2.2.1
  refine j_iload_n 1 dX11_status_0 rfl ?_
  refine j_bipush 11 dX11_status_1 bp_11 ?_
  refine j_icmp_lt (tgt := 22) dX11_status_3 rfl (fun c1 => ?_) (fun c1 => ?_)
  · refine j_iload_n 1 dX11_status_22 rfl ?_
    by_cases c3 : w = 0
    · refine j_tableIn (tgt := 80) dX11_status_23 (by rw [c3]; decide) (by rw [c3]; decide) (off := 57) (by rw [c3]; decide) rfl ?_
      refine j_aload_n 0 dX11_status_80 rfl ?_
      refine j_getv (Z.1 7 0) dX11_status_81 fX11_123 (shM hM sgM_0) rfl (mr_T hS) ?_
      refine j_iret dX11_status_84 rfl ?_
      have hz : statS Z.1 Z.2.2.2.2 w = (Z.1 7 0) := by
        clear hQ
        clear cv hM hS
        grind [statS]
      exact hQ _ _ ⟨by rw [hz], cv⟩
    by_cases c4 : w = 1
    · refine j_tableIn (tgt := 85) dX11_status_23 (by rw [c4]; decide) (by rw [c4]; decide) (off := 62) (by rw [c4]; decide) rfl ?_
      refine j_aload_n 0 dX11_status_85 rfl ?_
      refine j_getv (Z.1 0 0) dX11_status_86 fX11_7 (shM hM sgM_0) rfl (mr_side hS) ?_
      refine j_iret dX11_status_89 rfl ?_
      have hz : statS Z.1 Z.2.2.2.2 w = (Z.1 0 0) := by
        clear hQ
        clear cv hM hS
        grind [statS]
      exact hQ _ _ ⟨by rw [hz], cv⟩
    by_cases c5 : w = 2
    · refine j_tableIn (tgt := 90) dX11_status_23 (by rw [c5]; decide) (by rw [c5]; decide) (off := 67) (by rw [c5]; decide) rfl ?_
      refine j_aload_n 0 dX11_status_90 rfl ?_
      refine j_getv (Z.1 8 0) dX11_status_91 fX11_144 (shM hM sgM_0) rfl (mr_N hS) ?_
      refine j_iret dX11_status_94 rfl ?_
      have hz : statS Z.1 Z.2.2.2.2 w = (Z.1 8 0) := by
        clear hQ
        clear cv hM hS
        grind [statS]
      exact hQ _ _ ⟨by rw [hz], cv⟩
    by_cases c6 : w = 3
    · refine j_tableIn (tgt := 95) dX11_status_23 (by rw [c6]; decide) (by rw [c6]; decide) (off := 72) (by rw [c6]; decide) rfl ?_
      refine j_aload_n 0 dX11_status_95 rfl ?_
      refine j_getv (Z.1 9 0) dX11_status_96 fX11_147 (shM hM sgM_0) rfl (mr_D hS) ?_
      refine j_iret dX11_status_99 rfl ?_
      have hz : statS Z.1 Z.2.2.2.2 w = (Z.1 9 0) := by
        clear hQ
        clear cv hM hS
        grind [statS]
      exact hQ _ _ ⟨by rw [hz], cv⟩
    by_cases c7 : w = 4
    · refine j_tableIn (tgt := 100) dX11_status_23 (by rw [c7]; decide) (by rw [c7]; decide) (off := 77) (by rw [c7]; decide) rfl ?_
      refine j_aload_n 0 dX11_status_100 rfl ?_
      refine j_getv (Z.1 1 0) dX11_status_101 fX11_13 (shM hM sgM_0) rfl (mr_pow hS) ?_
      refine j_iret dX11_status_104 rfl ?_
      have hz : statS Z.1 Z.2.2.2.2 w = (Z.1 1 0) := by
        clear hQ
        clear cv hM hS
        grind [statS]
      exact hQ _ _ ⟨by rw [hz], cv⟩
    by_cases c8 : w = 5
    · refine j_tableIn (tgt := 105) dX11_status_23 (by rw [c8]; decide) (by rw [c8]; decide) (off := 82) (by rw [c8]; decide) rfl ?_
      refine j_aload_n 0 dX11_status_105 rfl ?_
      refine j_getv (Z.1 2 0) dX11_status_106 fX11_16 (shM hM sgM_0) rfl (mr_cha hS) ?_
      refine j_iret dX11_status_109 rfl ?_
      have hz : statS Z.1 Z.2.2.2.2 w = (Z.1 2 0) := by
        clear hQ
        clear cv hM hS
        grind [statS]
      exact hQ _ _ ⟨by rw [hz], cv⟩
    by_cases c9 : w = 6
    · refine j_tableIn (tgt := 110) dX11_status_23 (by rw [c9]; decide) (by rw [c9]; decide) (off := 87) (by rw [c9]; decide) rfl ?_
      refine j_aload_n 0 dX11_status_110 rfl ?_
      refine j_getv (Z.1 3 0) dX11_status_111 fX11_170 (shM hM sgM_0) rfl (mr_min hS) ?_
      refine j_iret dX11_status_114 rfl ?_
      have hz : statS Z.1 Z.2.2.2.2 w = (Z.1 3 0) := by
        clear hQ
        clear cv hM hS
        grind [statS]
      exact hQ _ _ ⟨by rw [hz], cv⟩
    by_cases c10 : w = 7
    · refine j_tableIn (tgt := 115) dX11_status_23 (by rw [c10]; decide) (by rw [c10]; decide) (off := 92) (by rw [c10]; decide) rfl ?_
      refine j_aload_n 0 dX11_status_115 rfl ?_
      refine j_getr (q := 12) dX11_status_116 fX11_59 (shM hM sgM_0) rfl (rfM hM rfM_0_20) ?_
      refine j_iconst 0 dX11_status_119 ic_0 ?_
      refine j_ialdN 0 dX11_status_120 (shM hM sgM_12) (by omega) (by omega) ?_
      refine j_topi (Z.1 5 0) (mr_b0 hS) ?_
      refine j_iret dX11_status_121 rfl ?_
      have hz : statS Z.1 Z.2.2.2.2 w = (Z.1 5 0) := by
        clear hQ
        clear cv hM hS
        grind [statS]
      exact hQ _ _ ⟨by rw [hz], cv⟩
    by_cases c11 : w = 8
    · refine j_tableIn (tgt := 122) dX11_status_23 (by rw [c11]; decide) (by rw [c11]; decide) (off := 99) (by rw [c11]; decide) rfl ?_
      refine j_aload_n 0 dX11_status_122 rfl ?_
      refine j_getr (q := 12) dX11_status_123 fX11_59 (shM hM sgM_0) rfl (rfM hM rfM_0_20) ?_
      refine j_iconst 1 dX11_status_126 ic_1 ?_
      refine j_ialdN 1 dX11_status_127 (shM hM sgM_12) (by omega) (by omega) ?_
      refine j_topi (Z.1 6 0) (mr_b1 hS) ?_
      refine j_iret dX11_status_128 rfl ?_
      have hz : statS Z.1 Z.2.2.2.2 w = (Z.1 6 0) := by
        clear hQ
        clear cv hM hS
        grind [statS]
      exact hQ _ _ ⟨by rw [hz], cv⟩
    by_cases c12 : w = 9
    · refine j_tableIn (tgt := 129) dX11_status_23 (by rw [c12]; decide) (by rw [c12]; decide) (off := 106) (by rw [c12]; decide) rfl ?_
      refine j_aload_n 0 dX11_status_129 rfl ?_
      refine j_getv (Z.1 4 0) dX11_status_130 fX11_19 (shM hM sgM_0) rfl (mr_seed hS) ?_
      refine j_iret dX11_status_133 rfl ?_
      have hz : statS Z.1 Z.2.2.2.2 w = (Z.1 4 0) := by
        clear hQ
        clear cv hM hS
        grind [statS]
      exact hQ _ _ ⟨by rw [hz], cv⟩
    by_cases c13 : w = 10
    · refine j_tableIn (tgt := 134) dX11_status_23 (by rw [c13]; decide) (by rw [c13]; decide) (off := 111) (by rw [c13]; decide) rfl ?_
      refine j_aload_n 0 dX11_status_134 rfl ?_
      refine j_getv (Z.2.2.2.2 10) dX11_status_135 fX11_318 (shM hM sgM_0) rfl cv.2.2.2.2.2.2.2.2.1 ?_
      refine j_iret dX11_status_138 rfl ?_
      have hz : statS Z.1 Z.2.2.2.2 w = (Z.2.2.2.2 10) := by
        clear hQ
        clear cv hM hS
        grind [statS]
      exact hQ _ _ ⟨by rw [hz], cv⟩
    refine j_tableOut (tgt := 139) dX11_status_23 (by have q0 := lv_neT c3 (a := 0) (by decide); have q1 := lv_neT c4 (a := 1) (by decide); have q2 := lv_neT c5 (a := 2) (by decide); have q3 := lv_neT c6 (a := 3) (by decide); have q4 := lv_neT c7 (a := 4) (by decide); have q5 := lv_neT c8 (a := 5) (by decide); have q6 := lv_neT c9 (a := 6) (by decide); have q7 := lv_neT c10 (a := 7) (by decide); have q8 := lv_neT c11 (a := 8) (by decide); have q9 := lv_neT c12 (a := 9) (by decide); have q10 := lv_neT c13 (a := 10) (by decide); omega) rfl ?_
    refine j_iconst (-1) dX11_status_139 ic_n1 ?_
    refine j_iret dX11_status_140 rfl ?_
    have hz : statS Z.1 Z.2.2.2.2 w = (-1) := by
      clear hQ
      clear cv hM hS
      grind [statS]
    exact hQ _ _ ⟨by rw [hz], cv⟩
  · refine j_iload_n 1 dX11_status_6 rfl ?_
    refine j_bipush 17 dX11_status_7 bp_17 ?_
    refine j_icmp_gt (tgt := 22) dX11_status_9 rfl (fun c14 => ?_) (fun c14 => ?_)
    · refine j_iload_n 1 dX11_status_22 rfl ?_
      by_cases c16 : w = 0
      · refine j_tableIn (tgt := 80) dX11_status_23 (by rw [c16]; decide) (by rw [c16]; decide) (off := 57) (by rw [c16]; decide) rfl ?_
        refine j_aload_n 0 dX11_status_80 rfl ?_
        refine j_getv (Z.1 7 0) dX11_status_81 fX11_123 (shM hM sgM_0) rfl (mr_T hS) ?_
        refine j_iret dX11_status_84 rfl ?_
        have hz : statS Z.1 Z.2.2.2.2 w = (Z.1 7 0) := by
          clear hQ
          clear cv hM hS
          grind [statS]
        exact hQ _ _ ⟨by rw [hz], cv⟩
      by_cases c17 : w = 1
      · refine j_tableIn (tgt := 85) dX11_status_23 (by rw [c17]; decide) (by rw [c17]; decide) (off := 62) (by rw [c17]; decide) rfl ?_
        refine j_aload_n 0 dX11_status_85 rfl ?_
        refine j_getv (Z.1 0 0) dX11_status_86 fX11_7 (shM hM sgM_0) rfl (mr_side hS) ?_
        refine j_iret dX11_status_89 rfl ?_
        have hz : statS Z.1 Z.2.2.2.2 w = (Z.1 0 0) := by
          clear hQ
          clear cv hM hS
          grind [statS]
        exact hQ _ _ ⟨by rw [hz], cv⟩
      by_cases c18 : w = 2
      · refine j_tableIn (tgt := 90) dX11_status_23 (by rw [c18]; decide) (by rw [c18]; decide) (off := 67) (by rw [c18]; decide) rfl ?_
        refine j_aload_n 0 dX11_status_90 rfl ?_
        refine j_getv (Z.1 8 0) dX11_status_91 fX11_144 (shM hM sgM_0) rfl (mr_N hS) ?_
        refine j_iret dX11_status_94 rfl ?_
        have hz : statS Z.1 Z.2.2.2.2 w = (Z.1 8 0) := by
          clear hQ
          clear cv hM hS
          grind [statS]
        exact hQ _ _ ⟨by rw [hz], cv⟩
      by_cases c19 : w = 3
      · refine j_tableIn (tgt := 95) dX11_status_23 (by rw [c19]; decide) (by rw [c19]; decide) (off := 72) (by rw [c19]; decide) rfl ?_
        refine j_aload_n 0 dX11_status_95 rfl ?_
        refine j_getv (Z.1 9 0) dX11_status_96 fX11_147 (shM hM sgM_0) rfl (mr_D hS) ?_
        refine j_iret dX11_status_99 rfl ?_
        have hz : statS Z.1 Z.2.2.2.2 w = (Z.1 9 0) := by
          clear hQ
          clear cv hM hS
          grind [statS]
        exact hQ _ _ ⟨by rw [hz], cv⟩
      by_cases c20 : w = 4
      · refine j_tableIn (tgt := 100) dX11_status_23 (by rw [c20]; decide) (by rw [c20]; decide) (off := 77) (by rw [c20]; decide) rfl ?_
        refine j_aload_n 0 dX11_status_100 rfl ?_
        refine j_getv (Z.1 1 0) dX11_status_101 fX11_13 (shM hM sgM_0) rfl (mr_pow hS) ?_
        refine j_iret dX11_status_104 rfl ?_
        have hz : statS Z.1 Z.2.2.2.2 w = (Z.1 1 0) := by
          clear hQ
          clear cv hM hS
          grind [statS]
        exact hQ _ _ ⟨by rw [hz], cv⟩
      by_cases c21 : w = 5
      · refine j_tableIn (tgt := 105) dX11_status_23 (by rw [c21]; decide) (by rw [c21]; decide) (off := 82) (by rw [c21]; decide) rfl ?_
        refine j_aload_n 0 dX11_status_105 rfl ?_
        refine j_getv (Z.1 2 0) dX11_status_106 fX11_16 (shM hM sgM_0) rfl (mr_cha hS) ?_
        refine j_iret dX11_status_109 rfl ?_
        have hz : statS Z.1 Z.2.2.2.2 w = (Z.1 2 0) := by
          clear hQ
          clear cv hM hS
          grind [statS]
        exact hQ _ _ ⟨by rw [hz], cv⟩
      by_cases c22 : w = 6
      · refine j_tableIn (tgt := 110) dX11_status_23 (by rw [c22]; decide) (by rw [c22]; decide) (off := 87) (by rw [c22]; decide) rfl ?_
        refine j_aload_n 0 dX11_status_110 rfl ?_
        refine j_getv (Z.1 3 0) dX11_status_111 fX11_170 (shM hM sgM_0) rfl (mr_min hS) ?_
        refine j_iret dX11_status_114 rfl ?_
        have hz : statS Z.1 Z.2.2.2.2 w = (Z.1 3 0) := by
          clear hQ
          clear cv hM hS
          grind [statS]
        exact hQ _ _ ⟨by rw [hz], cv⟩
      by_cases c23 : w = 7
      · refine j_tableIn (tgt := 115) dX11_status_23 (by rw [c23]; decide) (by rw [c23]; decide) (off := 92) (by rw [c23]; decide) rfl ?_
        refine j_aload_n 0 dX11_status_115 rfl ?_
        refine j_getr (q := 12) dX11_status_116 fX11_59 (shM hM sgM_0) rfl (rfM hM rfM_0_20) ?_
        refine j_iconst 0 dX11_status_119 ic_0 ?_
        refine j_ialdN 0 dX11_status_120 (shM hM sgM_12) (by omega) (by omega) ?_
        refine j_topi (Z.1 5 0) (mr_b0 hS) ?_
        refine j_iret dX11_status_121 rfl ?_
        have hz : statS Z.1 Z.2.2.2.2 w = (Z.1 5 0) := by
          clear hQ
          clear cv hM hS
          grind [statS]
        exact hQ _ _ ⟨by rw [hz], cv⟩
      by_cases c24 : w = 8
      · refine j_tableIn (tgt := 122) dX11_status_23 (by rw [c24]; decide) (by rw [c24]; decide) (off := 99) (by rw [c24]; decide) rfl ?_
        refine j_aload_n 0 dX11_status_122 rfl ?_
        refine j_getr (q := 12) dX11_status_123 fX11_59 (shM hM sgM_0) rfl (rfM hM rfM_0_20) ?_
        refine j_iconst 1 dX11_status_126 ic_1 ?_
        refine j_ialdN 1 dX11_status_127 (shM hM sgM_12) (by omega) (by omega) ?_
        refine j_topi (Z.1 6 0) (mr_b1 hS) ?_
        refine j_iret dX11_status_128 rfl ?_
        have hz : statS Z.1 Z.2.2.2.2 w = (Z.1 6 0) := by
          clear hQ
          clear cv hM hS
          grind [statS]
        exact hQ _ _ ⟨by rw [hz], cv⟩
      by_cases c25 : w = 9
      · refine j_tableIn (tgt := 129) dX11_status_23 (by rw [c25]; decide) (by rw [c25]; decide) (off := 106) (by rw [c25]; decide) rfl ?_
        refine j_aload_n 0 dX11_status_129 rfl ?_
        refine j_getv (Z.1 4 0) dX11_status_130 fX11_19 (shM hM sgM_0) rfl (mr_seed hS) ?_
        refine j_iret dX11_status_133 rfl ?_
        have hz : statS Z.1 Z.2.2.2.2 w = (Z.1 4 0) := by
          clear hQ
          clear cv hM hS
          grind [statS]
        exact hQ _ _ ⟨by rw [hz], cv⟩
      by_cases c26 : w = 10
      · refine j_tableIn (tgt := 134) dX11_status_23 (by rw [c26]; decide) (by rw [c26]; decide) (off := 111) (by rw [c26]; decide) rfl ?_
        refine j_aload_n 0 dX11_status_134 rfl ?_
        refine j_getv (Z.2.2.2.2 10) dX11_status_135 fX11_318 (shM hM sgM_0) rfl cv.2.2.2.2.2.2.2.2.1 ?_
        refine j_iret dX11_status_138 rfl ?_
        have hz : statS Z.1 Z.2.2.2.2 w = (Z.2.2.2.2 10) := by
          clear hQ
          clear cv hM hS
          grind [statS]
        exact hQ _ _ ⟨by rw [hz], cv⟩
      refine j_tableOut (tgt := 139) dX11_status_23 (by have q0 := lv_neT c16 (a := 0) (by decide); have q1 := lv_neT c17 (a := 1) (by decide); have q2 := lv_neT c18 (a := 2) (by decide); have q3 := lv_neT c19 (a := 3) (by decide); have q4 := lv_neT c20 (a := 4) (by decide); have q5 := lv_neT c21 (a := 5) (by decide); have q6 := lv_neT c22 (a := 6) (by decide); have q7 := lv_neT c23 (a := 7) (by decide); have q8 := lv_neT c24 (a := 8) (by decide); have q9 := lv_neT c25 (a := 9) (by decide); have q10 := lv_neT c26 (a := 10) (by decide); omega) rfl ?_
      refine j_iconst (-1) dX11_status_139 ic_n1 ?_
      refine j_iret dX11_status_140 rfl ?_
      have hz : statS Z.1 Z.2.2.2.2 w = (-1) := by
        clear hQ
        clear cv hM hS
        grind [statS]
      exact hQ _ _ ⟨by rw [hz], cv⟩
    · exact absurd (show 11 ≤ w ∧ w ≤ 17 by clear hQ; grind) h
theorem N_status {d : Nat} {M : jk_M} {Z : ZS} (cv : MV M Z) (ok : Zok Z) (w : Int32) : J Fr_X11_status d 0 0 0 [(0, .ref 0), (1, .int w)] [] M (jk_ex (some (.int (statZ Z w).1)) (fun M1 => MV M1 (statZ Z w).2)) := by
  by_cases h : 11 ≤ w ∧ w ≤ 17
  · have h0 : ¬ w < 0 := by grind
    obtain ⟨q, hq, rfl⟩ := nI_of h0
    have h1 := h.1
    have h2 := h.2
    rw [show (11 : Int32) = nI 11 by decide, nI_leI (by decide) hq] at h1
    rw [show (17 : Int32) = nI 17 by decide, nI_leI hq (by decide)] at h2
    obtain ⟨j, rfl⟩ : ∃ j, q = 10 + j := ⟨q - 10, by omega⟩
    rw [statZ, cif_t h, show (10 : Int32) = nI 10 by decide, pk_sub (by omega), show 10 + j - 10 = j by omega, nI_clamp (by omega)]
    exact N_statR cv ok j (by omega) (by omega)
  · rw [statZ, cif_f h]
    exact N_statS cv ok w h
