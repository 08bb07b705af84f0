/-! strength, bars, pace, served, of the model -/
theorem isC_n1 {T : HS} {c : Int32} (h : isC T c) : ¬ c = -1 := fun z => absurd (z ▸ h.1) (by decide)
theorem str_e {T : HS} {f c : Int32} (hf : isP f) (hc : isP c) : strS T f c = jmax 0 (T 1 0 - 2 * sfar f c - wayS T f c - humC T c - dinS T (T 2 0)) := by
  have n1 : ¬ (¬ isP f ∨ ¬ isP c) := fun z => z.elim (fun y => y hf) (fun y => y hc)
  rw [strS, @if_neg _ (Classical.propDecidable _) n1]
theorem str_n1 {T : HS} {c : Int32} : strS T (-1) c = 0 := by
  have n1 : (¬ isP (-1) ∨ ¬ isP c) := Or.inl (fun z => absurd z.1 (by decide))
  rw [strS, @if_pos _ (Classical.propDecidable _) n1]
theorem str_n2 {T : HS} {c : Int32} : strS T c (-1) = 0 := by
  have n1 : (¬ isP c ∨ ¬ isP (-1)) := Or.inr (fun z => absurd z.1 (by decide))
  rw [strS, @if_pos _ (Classical.propDecidable _) n1]
theorem b01 {b : Int32} (h : b = 0 ∨ b = 1) : 1 - b = 0 ∨ 1 - b = 1 := by rcases h with rfl | rfl <;> decide
noncomputable def bestT (T : HS) (c : Int32) : Int32 := jmax (paceS T 0 c) (paceS T 1 c)
theorem pace_n1 {T : HS} {c : Int32} (h : T 6 0 = -1) : jmin (barS T 1 c / 2) (barS T 0 (T 6 0)) = 0 := by
  have e1 : plO T 1 = -1 := by rw [plO, if_neg (by decide)]; exact h
  rw [barS, barS, e1, h, str_n1, str_n2]; decide
theorem rch_b0 {T : HS} (ok : Sok T) (i : Nat) : rchS T i (T 5 0) = barS T 0 (T 16 i) := by
  rw [rchS, @if_pos _ (Classical.propDecidable _) (isC_P ok ok.2.2.2.2.1)]; rfl
theorem rch_b1 {T : HS} (ok : Sok T) (i : Nat) : rchS T i (T 6 0) = barS T 1 (T 16 i) := by
  have e1 : plO T 1 = T 6 0 := by rw [plO, if_neg (by decide)]
  rcases ok.2.2.2.2.2.1 with h | h
  · rw [rchS, @if_neg _ (Classical.propDecidable _) (fun z => by rw [h] at z; exact absurd z.1 (by decide)), barS, e1, h, str_n1]; decide
  · rw [rchS, @if_pos _ (Classical.propDecidable _) (isC_P ok h), barS, e1]
theorem serv_e {T : HS} (ok : Sok T) : servS T = sm (fun i => if T 17 i ≤ bestT T (T 16 i) then T 18 i else 0) (nD T) := by
  unfold servS servBy
  refine sm_congr (fun i _ => ?_)
  have e : jmax (rchS T i (T 5 0)) (jmin (rchS T i (T 6 0) / 2) (barsBy (strS T (T 5 0) (T 6 0)))) = bestT T (T 16 i) := by
    rw [rch_b0 ok, rch_b1 ok]
    unfold bestT paceS
    rw [if_pos rfl, if_neg (by decide)]
    have e0 : plO T 0 = T 5 0 := by rw [plO, if_pos rfl]
    rw [show barS T 0 (T 6 0) = barsBy (strS T (T 5 0) (T 6 0)) by rw [barS, e0]]
  rw [e]
set_option maxRecDepth 20000 in
set_option maxHeartbeats 4000000 in
theorem T_str0 {d : Nat} {M : jk_M} {T : HS} (hM : WM M) (hE : MEq M.2.1 T) (ok : Sok T) (hk : LkO T M) (c : Int32) (hc : isC T c) : J Fr_X11_strength (d + 2) 0 0 0 [(0, .ref 0), (1, .int 0), (2, .int c)] [] M (jk_is (some (.int (strS T (T 5 0) c))) M) := by
  refine j_post (fun Q hQ => ?_)
  have hf := ok.2.2.2.2.1
  refine j_aload_n 0 dX11_strength_0 rfl ?_
  refine j_getr (q := 12) dX11_strength_1 fX11_59 (shM hM sgM_0) rfl (rfM hM rfM_0_20) ?_
  refine j_iload_n 1 dX11_strength_4 rfl ?_
  refine j_ialdN 0 dX11_strength_5 (shM hM sgM_12) (by omega) (by omega) ?_
  refine j_topi (T 5 0) (er_b0 hE) ?_
  refine j_iconst (-1) dX11_strength_6 ic_n1 ?_
  refine j_icmp_ne (tgt := 12) dX11_strength_7 rfl (fun c1 => ?_) (fun c1 => ?_)
  · refine j_aload_n 0 dX11_strength_12 rfl ?_
    refine j_getv (T 1 0) dX11_strength_13 fX11_13 (shM hM sgM_0) rfl (er_pow hE) ?_
    refine j_iconst 2 dX11_strength_16 ic_2 ?_
    refine j_aload_n 0 dX11_strength_17 rfl ?_
    refine j_aload_n 0 dX11_strength_18 rfl ?_
    refine j_getr (q := 12) dX11_strength_19 fX11_59 (shM hM sgM_0) rfl (rfM hM rfM_0_20) ?_
    refine j_iload_n 1 dX11_strength_22 rfl ?_
    refine j_ialdN 0 dX11_strength_23 (shM hM sgM_12) (by omega) (by omega) ?_
    refine j_topi (T 5 0) (er_b0 hE) ?_
    refine j_iload_n 2 dX11_strength_24 rfl ?_
    refine j_callV (kc := 0) (ks := 0) (a := 0) (b := 0) (d' := (d + 1)) (As := [.int (T 5 0), .int c]) dX11_strength_25 kX11_242 rfl (shM hM sgM_0) (by omega) rfl rfl rfl (Nat.le_of_ble_eq_true rfl) (Nat.le_of_ble_eq_true rfl) (T_X11_far hM (T 5 0) c (isC_P ok hf) (isC_P ok hc)) (kk_p ?_)
    refine j_imul dX11_strength_28 ?_
    refine j_isub dX11_strength_29 ?_
    refine j_aload_n 0 dX11_strength_30 rfl ?_
    refine j_aload_n 0 dX11_strength_31 rfl ?_
    refine j_getr (q := 12) dX11_strength_32 fX11_59 (shM hM sgM_0) rfl (rfM hM rfM_0_20) ?_
    refine j_iload_n 1 dX11_strength_35 rfl ?_
    refine j_ialdN 0 dX11_strength_36 (shM hM sgM_12) (by omega) (by omega) ?_
    refine j_topi (T 5 0) (er_b0 hE) ?_
    refine j_iload_n 2 dX11_strength_37 rfl ?_
    refine j_callV (kc := 0) (ks := 0) (a := 0) (b := 0) (d' := d) (As := [.int (T 5 0), .int c]) dX11_strength_38 kX11_251 rfl (shM hM sgM_0) (by omega) rfl rfl rfl (Nat.le_of_ble_eq_true rfl) (Nat.le_of_ble_eq_true rfl) (T_X11_wayLoss hM ok hk (T 5 0) c hf hc) (kk_p ?_)
    refine j_isub dX11_strength_41 ?_
    refine j_aload_n 0 dX11_strength_42 rfl ?_
    refine j_getr (q := 25) dX11_strength_43 fX11_99 (shM hM sgM_0) rfl (rfM hM rfM_0_38) ?_
    refine j_iload_n 2 dX11_strength_46 rfl ?_
    refine j_iald dX11_strength_47 (shM hM sgM_25) (vpin 80 (by decide) (isC_P ok hc).1 (isC_P ok hc).2) ?_
    refine j_topi (humC T c) (hk.2.1 _ hc) ?_
    refine j_isub dX11_strength_48 ?_
    refine j_aload_n 0 dX11_strength_49 rfl ?_
    refine j_getv (dinS T (T 2 0)) dX11_strength_50 fX11_245 (shM hM sgM_0) rfl hk.2.2 ?_
    refine j_isub dX11_strength_53 ?_
    refine j_istore_n (L' := [(3, .int (((((T 1 0) - (2 * (sfar (T 5 0) c))) - (wayS T (T 5 0) c)) - (humC T c)) - (dinS T (T 2 0)))), (0, .ref 0), (1, .int 0), (2, .int c)]) dX11_strength_54 (by decide) rfl ?_
    refine j_iload_n 0 dX11_strength_55 rfl ?_
    refine j_if_ge (tgt := 63) dX11_strength_56 rfl (fun c2 => ?_) (fun c2 => ?_)
    · refine j_iload_n 0 dX11_strength_63 rfl ?_
      refine j_iret dX11_strength_64 rfl ?_
      exact hQ _ _ ⟨by rw [str_e (isC_P ok hf) (isC_P ok hc)]; unfold jmax; clear hQ hk hE hM; grind, rfl⟩
    · refine j_iconst 0 dX11_strength_59 ic_0 ?_
      refine j_goto (tgt := 64) dX11_strength_60 rfl ?_
      refine j_iret dX11_strength_64 rfl ?_
      exact hQ _ _ ⟨by rw [str_e (isC_P ok hf) (isC_P ok hc)]; unfold jmax; clear hQ hk hE hM; grind, rfl⟩
  · exact absurd c1 (isC_n1 hf)
set_option maxRecDepth 20000 in
set_option maxHeartbeats 4000000 in
theorem T_str1 {d : Nat} {M : jk_M} {T : HS} (hM : WM M) (hE : MEq M.2.1 T) (ok : Sok T) (hk : LkO T M) (c : Int32) (hc : isC T c) (hf : isC T (T 6 0)) : J Fr_X11_strength (d + 2) 0 0 0 [(0, .ref 0), (1, .int 1), (2, .int c)] [] M (jk_is (some (.int (strS T (T 6 0) c))) M) := by
  refine j_post (fun Q hQ => ?_)
  refine j_aload_n 0 dX11_strength_0 rfl ?_
  refine j_getr (q := 12) dX11_strength_1 fX11_59 (shM hM sgM_0) rfl (rfM hM rfM_0_20) ?_
  refine j_iload_n 1 dX11_strength_4 rfl ?_
  refine j_ialdN 1 dX11_strength_5 (shM hM sgM_12) (by omega) (by omega) ?_
  refine j_topi (T 6 0) (er_b1 hE) ?_
  refine j_iconst (-1) dX11_strength_6 ic_n1 ?_
  refine j_icmp_ne (tgt := 12) dX11_strength_7 rfl (fun c1 => ?_) (fun c1 => ?_)
  · refine j_aload_n 0 dX11_strength_12 rfl ?_
    refine j_getv (T 1 0) dX11_strength_13 fX11_13 (shM hM sgM_0) rfl (er_pow hE) ?_
    refine j_iconst 2 dX11_strength_16 ic_2 ?_
    refine j_aload_n 0 dX11_strength_17 rfl ?_
    refine j_aload_n 0 dX11_strength_18 rfl ?_
    refine j_getr (q := 12) dX11_strength_19 fX11_59 (shM hM sgM_0) rfl (rfM hM rfM_0_20) ?_
    refine j_iload_n 1 dX11_strength_22 rfl ?_
    refine j_ialdN 1 dX11_strength_23 (shM hM sgM_12) (by omega) (by omega) ?_
    refine j_topi (T 6 0) (er_b1 hE) ?_
    refine j_iload_n 2 dX11_strength_24 rfl ?_
    refine j_callV (kc := 0) (ks := 0) (a := 0) (b := 0) (d' := (d + 1)) (As := [.int (T 6 0), .int c]) dX11_strength_25 kX11_242 rfl (shM hM sgM_0) (by omega) rfl rfl rfl (Nat.le_of_ble_eq_true rfl) (Nat.le_of_ble_eq_true rfl) (T_X11_far hM (T 6 0) c (isC_P ok hf) (isC_P ok hc)) (kk_p ?_)
    refine j_imul dX11_strength_28 ?_
    refine j_isub dX11_strength_29 ?_
    refine j_aload_n 0 dX11_strength_30 rfl ?_
    refine j_aload_n 0 dX11_strength_31 rfl ?_
    refine j_getr (q := 12) dX11_strength_32 fX11_59 (shM hM sgM_0) rfl (rfM hM rfM_0_20) ?_
    refine j_iload_n 1 dX11_strength_35 rfl ?_
    refine j_ialdN 1 dX11_strength_36 (shM hM sgM_12) (by omega) (by omega) ?_
    refine j_topi (T 6 0) (er_b1 hE) ?_
    refine j_iload_n 2 dX11_strength_37 rfl ?_
    refine j_callV (kc := 0) (ks := 0) (a := 0) (b := 0) (d' := d) (As := [.int (T 6 0), .int c]) dX11_strength_38 kX11_251 rfl (shM hM sgM_0) (by omega) rfl rfl rfl (Nat.le_of_ble_eq_true rfl) (Nat.le_of_ble_eq_true rfl) (T_X11_wayLoss hM ok hk (T 6 0) c hf hc) (kk_p ?_)
    refine j_isub dX11_strength_41 ?_
    refine j_aload_n 0 dX11_strength_42 rfl ?_
    refine j_getr (q := 25) dX11_strength_43 fX11_99 (shM hM sgM_0) rfl (rfM hM rfM_0_38) ?_
    refine j_iload_n 2 dX11_strength_46 rfl ?_
    refine j_iald dX11_strength_47 (shM hM sgM_25) (vpin 80 (by decide) (isC_P ok hc).1 (isC_P ok hc).2) ?_
    refine j_topi (humC T c) (hk.2.1 _ hc) ?_
    refine j_isub dX11_strength_48 ?_
    refine j_aload_n 0 dX11_strength_49 rfl ?_
    refine j_getv (dinS T (T 2 0)) dX11_strength_50 fX11_245 (shM hM sgM_0) rfl hk.2.2 ?_
    refine j_isub dX11_strength_53 ?_
    refine j_istore_n (L' := [(3, .int (((((T 1 0) - (2 * (sfar (T 6 0) c))) - (wayS T (T 6 0) c)) - (humC T c)) - (dinS T (T 2 0)))), (0, .ref 0), (1, .int 1), (2, .int c)]) dX11_strength_54 (by decide) rfl ?_
    refine j_iload_n 0 dX11_strength_55 rfl ?_
    refine j_if_ge (tgt := 63) dX11_strength_56 rfl (fun c2 => ?_) (fun c2 => ?_)
    · refine j_iload_n 0 dX11_strength_63 rfl ?_
      refine j_iret dX11_strength_64 rfl ?_
      exact hQ _ _ ⟨by rw [str_e (isC_P ok hf) (isC_P ok hc)]; unfold jmax; clear hQ hk hE hM; grind, rfl⟩
    · refine j_iconst 0 dX11_strength_59 ic_0 ?_
      refine j_goto (tgt := 64) dX11_strength_60 rfl ?_
      refine j_iret dX11_strength_64 rfl ?_
      exact hQ _ _ ⟨by rw [str_e (isC_P ok hf) (isC_P ok hc)]; unfold jmax; clear hQ hk hE hM; grind, rfl⟩
  · exact absurd c1 (isC_n1 hf)
set_option maxRecDepth 20000 in
set_option maxHeartbeats 4000000 in
theorem T_str2 {d : Nat} {M : jk_M} {T : HS} (hM : WM M) (hE : MEq M.2.1 T) (ok : Sok T) (hk : LkO T M) (c : Int32) (hf : T 6 0 = -1) : J Fr_X11_strength (d + 2) 0 0 0 [(0, .ref 0), (1, .int 1), (2, .int c)] [] M (jk_is (some (.int (strS T (T 6 0) c))) M) := by
  refine j_post (fun Q hQ => ?_)
  refine j_aload_n 0 dX11_strength_0 rfl ?_
  refine j_getr (q := 12) dX11_strength_1 fX11_59 (shM hM sgM_0) rfl (rfM hM rfM_0_20) ?_
  refine j_iload_n 1 dX11_strength_4 rfl ?_
  refine j_ialdN 1 dX11_strength_5 (shM hM sgM_12) (by omega) (by omega) ?_
  refine j_topi (T 6 0) (er_b1 hE) ?_
  refine j_iconst (-1) dX11_strength_6 ic_n1 ?_
  refine j_icmp_ne (tgt := 12) dX11_strength_7 rfl (fun c1 => ?_) (fun c1 => ?_)
  · exact absurd hf c1
  · refine j_iconst 0 dX11_strength_10 ic_0 ?_
    refine j_iret dX11_strength_11 rfl ?_
    exact hQ _ _ ⟨by rw [hf, str_n1], rfl⟩
theorem T_X11_strength {d : Nat} {M : jk_M} {T : HS} (hM : WM M) (hE : MEq M.2.1 T) (ok : Sok T) (hk : LkO T M) (b c : Int32) (hb : b = 0 ∨ b = 1) (hc : isC T c) : J Fr_X11_strength (d + 2) 0 0 0 [(0, .ref 0), (1, .int b), (2, .int c)] [] M (jk_is (some (.int (strS T (plO T b) c))) M) := by
  rcases hb with rfl | rfl
  · rw [show plO T 0 = T 5 0 by rw [plO, if_pos rfl]]; exact T_str0 hM hE ok hk c hc
  · rw [show plO T 1 = T 6 0 by rw [plO, if_neg (by decide)]]
    rcases ok.2.2.2.2.2.1 with h | h
    · exact T_str2 hM hE ok hk c h
    · exact T_str1 hM hE ok hk c hc h
set_option maxRecDepth 20000 in
set_option maxHeartbeats 4000000 in
theorem T_X11_barsAt {d : Nat} {M : jk_M} {T : HS} (hM : WM M) (hE : MEq M.2.1 T) (ok : Sok T) (hk : LkO T M) (b c : Int32) (hb : b = 0 ∨ b = 1) (hc : isC T c) : J Fr_X11_barsAt (d + 3) 0 0 0 [(0, .ref 0), (1, .int b), (2, .int c)] [] M (jk_is (some (.int (barS T b c))) M) := by
  refine j_post (fun Q hQ => ?_)
  refine j_aload_n 0 dX11_barsAt_0 rfl ?_
  refine j_iload_n 1 dX11_barsAt_1 rfl ?_
  refine j_iload_n 2 dX11_barsAt_2 rfl ?_
  refine j_callV (kc := 0) (ks := 0) (a := 0) (b := 0) (d' := (d + 2)) (As := [.int b, .int c]) dX11_barsAt_3 kX11_254 rfl (shM hM sgM_0) (by omega) rfl rfl rfl (Nat.le_of_ble_eq_true rfl) (Nat.le_of_ble_eq_true rfl) (T_X11_strength hM hE ok hk b c hb (by assumption)) (kk_p ?_)
  refine j_bipush 10 dX11_barsAt_6 bp_10 ?_
  refine j_idiv dX11_barsAt_8 (by decide) ?_
  refine j_istore_n (L' := [(3, .int ((strS T (plO T b) c) / 10)), (0, .ref 0), (1, .int b), (2, .int c)]) dX11_barsAt_9 (by decide) rfl ?_
  refine j_iload_n 0 dX11_barsAt_10 rfl ?_
  refine j_iconst 5 dX11_barsAt_11 ic_5 ?_
  refine j_icmp_le (tgt := 19) dX11_barsAt_12 rfl (fun c1 => ?_) (fun c1 => ?_)
  · refine j_iload_n 0 dX11_barsAt_19 rfl ?_
    refine j_iret dX11_barsAt_20 rfl ?_
    exact hQ _ _ ⟨by clear hQ hk hE hM; unfold barS barsBy jmin; grind, rfl⟩
  · refine j_iconst 5 dX11_barsAt_15 ic_5 ?_
    refine j_goto (tgt := 20) dX11_barsAt_16 rfl ?_
    refine j_iret dX11_barsAt_20 rfl ?_
    exact hQ _ _ ⟨by clear hQ hk hE hM; unfold barS barsBy jmin; grind, rfl⟩
set_option maxRecDepth 20000 in
set_option maxHeartbeats 4000000 in
theorem T_pace1 {d : Nat} {M : jk_M} {T : HS} (hM : WM M) (hE : MEq M.2.1 T) (ok : Sok T) (hk : LkO T M) (b c : Int32) (hc : isC T c) (h6 : isC T (T 6 0)) : J Fr_X11_pace (d + 4) 0 0 0 [(0, .ref 0), (1, .int b), (2, .int c)] [] M (jk_is (some (.int (paceS T b c))) M) := by
  refine j_post (fun Q hQ => ?_)
  refine j_iload_n 1 dX11_pace_0 rfl ?_
  refine j_if_ne (tgt := 11) dX11_pace_1 rfl (fun c1 => ?_) (fun c1 => ?_)
  · refine j_aload_n 0 dX11_pace_11 rfl ?_
    refine j_getr (q := 12) dX11_pace_12 fX11_59 (shM hM sgM_0) rfl (rfM hM rfM_0_20) ?_
    refine j_iconst 1 dX11_pace_15 ic_1 ?_
    refine j_ialdN 1 dX11_pace_16 (shM hM sgM_12) (by omega) (by omega) ?_
    refine j_topi (T 6 0) (er_b1 hE) ?_
    refine j_iconst (-1) dX11_pace_17 ic_n1 ?_
    refine j_icmp_ne (tgt := 23) dX11_pace_18 rfl (fun c2 => ?_) (fun c2 => ?_)
    · refine j_aload_n 0 dX11_pace_23 rfl ?_
      refine j_iconst 1 dX11_pace_24 ic_1 ?_
      refine j_iload_n 2 dX11_pace_25 rfl ?_
      refine j_callV (kc := 0) (ks := 0) (a := 0) (b := 0) (d' := (d + 3)) (As := [.int 1, .int c]) dX11_pace_26 kX11_257 rfl (shM hM sgM_0) (by omega) rfl rfl rfl (Nat.le_of_ble_eq_true rfl) (Nat.le_of_ble_eq_true rfl) (T_X11_barsAt hM hE ok hk 1 c (Or.inr rfl) hc) (kk_p ?_)
      refine j_iconst 2 dX11_pace_29 ic_2 ?_
      refine j_idiv dX11_pace_30 (by decide) ?_
      refine j_istore_n (L' := [(3, .int ((barS T 1 c) / 2)), (0, .ref 0), (1, .int b), (2, .int c)]) dX11_pace_31 (by decide) rfl ?_
      refine j_aload_n 1 dX11_pace_32 rfl ?_
      refine j_iconst 0 dX11_pace_33 ic_0 ?_
      refine j_aload_n 1 dX11_pace_34 rfl ?_
      refine j_getr (q := 12) dX11_pace_35 fX11_59 (shM hM sgM_0) rfl (rfM hM rfM_0_20) ?_
      refine j_iconst 1 dX11_pace_38 ic_1 ?_
      refine j_ialdN 1 dX11_pace_39 (shM hM sgM_12) (by omega) (by omega) ?_
      refine j_topi (T 6 0) (er_b1 hE) ?_
      refine j_callV (kc := 0) (ks := 0) (a := 0) (b := 0) (d' := (d + 3)) (As := [.int 0, .int (T 6 0)]) dX11_pace_40 kX11_257 rfl (shM hM sgM_0) (by omega) rfl rfl rfl (Nat.le_of_ble_eq_true rfl) (Nat.le_of_ble_eq_true rfl) (T_X11_barsAt hM hE ok hk 0 (T 6 0) (Or.inl rfl) h6) (kk_p ?_)
      refine j_istore (L' := [(4, .int (barS T 0 (T 6 0))), (3, .int ((barS T 1 c) / 2)), (0, .ref 0), (1, .int b), (2, .int c)]) dX11_pace_43 (by decide) rfl ?_
      refine j_iload_n 1 dX11_pace_45 rfl ?_
      refine j_iload 0 dX11_pace_46 rfl ?_
      refine j_icmp_ge (tgt := 55) dX11_pace_48 rfl (fun c3 => ?_) (fun c3 => ?_)
      · refine j_iload 0 dX11_pace_55 rfl ?_
        refine j_iret dX11_pace_57 rfl ?_
        exact hQ _ _ ⟨by clear hQ hk hE hM; unfold paceS jmin; grind, rfl⟩
      · refine j_iload_n 1 dX11_pace_51 rfl ?_
        refine j_goto (tgt := 57) dX11_pace_52 rfl ?_
        refine j_iret dX11_pace_57 rfl ?_
        exact hQ _ _ ⟨by clear hQ hk hE hM; unfold paceS jmin; grind, rfl⟩
    · exact absurd c2 (isC_n1 h6)
  · refine j_aload_n 0 dX11_pace_4 rfl ?_
    refine j_iconst 0 dX11_pace_5 ic_0 ?_
    refine j_iload_n 2 dX11_pace_6 rfl ?_
    refine j_callV (kc := 0) (ks := 0) (a := 0) (b := 0) (d' := (d + 3)) (As := [.int 0, .int c]) dX11_pace_7 kX11_257 rfl (shM hM sgM_0) (by omega) rfl rfl rfl (Nat.le_of_ble_eq_true rfl) (Nat.le_of_ble_eq_true rfl) (T_X11_barsAt hM hE ok hk 0 c (Or.inl rfl) hc) (kk_p ?_)
    refine j_iret dX11_pace_10 rfl ?_
    exact hQ _ _ ⟨by clear hQ hk hE hM; unfold paceS jmin; grind, rfl⟩
set_option maxRecDepth 20000 in
set_option maxHeartbeats 4000000 in
theorem T_pace2 {d : Nat} {M : jk_M} {T : HS} (hM : WM M) (hE : MEq M.2.1 T) (ok : Sok T) (hk : LkO T M) (b c : Int32) (hc : isC T c) (h6 : T 6 0 = -1) : J Fr_X11_pace (d + 4) 0 0 0 [(0, .ref 0), (1, .int b), (2, .int c)] [] M (jk_is (some (.int (paceS T b c))) M) := by
  refine j_post (fun Q hQ => ?_)
  refine j_iload_n 1 dX11_pace_0 rfl ?_
  refine j_if_ne (tgt := 11) dX11_pace_1 rfl (fun c1 => ?_) (fun c1 => ?_)
  · refine j_aload_n 0 dX11_pace_11 rfl ?_
    refine j_getr (q := 12) dX11_pace_12 fX11_59 (shM hM sgM_0) rfl (rfM hM rfM_0_20) ?_
    refine j_iconst 1 dX11_pace_15 ic_1 ?_
    refine j_ialdN 1 dX11_pace_16 (shM hM sgM_12) (by omega) (by omega) ?_
    refine j_topi (T 6 0) (er_b1 hE) ?_
    refine j_iconst (-1) dX11_pace_17 ic_n1 ?_
    refine j_icmp_ne (tgt := 23) dX11_pace_18 rfl (fun c2 => ?_) (fun c2 => ?_)
    · exact absurd h6 c2
    · refine j_iconst 0 dX11_pace_21 ic_0 ?_
      refine j_iret dX11_pace_22 rfl ?_
      exact hQ _ _ ⟨by rw [paceS, if_neg (by assumption), pace_n1 h6], rfl⟩
  · refine j_aload_n 0 dX11_pace_4 rfl ?_
    refine j_iconst 0 dX11_pace_5 ic_0 ?_
    refine j_iload_n 2 dX11_pace_6 rfl ?_
    refine j_callV (kc := 0) (ks := 0) (a := 0) (b := 0) (d' := (d + 3)) (As := [.int 0, .int c]) dX11_pace_7 kX11_257 rfl (shM hM sgM_0) (by omega) rfl rfl rfl (Nat.le_of_ble_eq_true rfl) (Nat.le_of_ble_eq_true rfl) (T_X11_barsAt hM hE ok hk 0 c (Or.inl rfl) hc) (kk_p ?_)
    refine j_iret dX11_pace_10 rfl ?_
    exact hQ _ _ ⟨by rw [paceS, if_pos (by assumption)], rfl⟩
theorem T_X11_pace {d : Nat} {M : jk_M} {T : HS} (hM : WM M) (hE : MEq M.2.1 T) (ok : Sok T) (hk : LkO T M) (b c : Int32) (hc : isC T c) : J Fr_X11_pace (d + 4) 0 0 0 [(0, .ref 0), (1, .int b), (2, .int c)] [] M (jk_is (some (.int (paceS T b c))) M) := by
  rcases ok.2.2.2.2.2.1 with h | h
  · exact T_pace2 hM hE ok hk b c hc h
  · exact T_pace1 hM hE ok hk b c hc h
set_option maxRecDepth 20000 in
set_option maxHeartbeats 4000000 in
theorem T_X11_best {d : Nat} {M : jk_M} {T : HS} (hM : WM M) (hE : MEq M.2.1 T) (ok : Sok T) (hk : LkO T M) (c : Int32) (hc : isC T c) : J Fr_X11_best (d + 5) 0 0 0 [(0, .ref 0), (1, .int c)] [] M (jk_is (some (.int (bestT T c))) M) := by
  refine j_post (fun Q hQ => ?_)
  refine j_aload_n 0 dX11_best_0 rfl ?_
  refine j_iconst 0 dX11_best_1 ic_0 ?_
  refine j_iload_n 1 dX11_best_2 rfl ?_
  refine j_callV (kc := 0) (ks := 0) (a := 0) (b := 0) (d' := (d + 4)) (As := [.int 0, .int c]) dX11_best_3 kX11_184 rfl (shM hM sgM_0) (by omega) rfl rfl rfl (Nat.le_of_ble_eq_true rfl) (Nat.le_of_ble_eq_true rfl) (T_X11_pace hM hE ok hk 0 c (by assumption)) (kk_p ?_)
  refine j_istore_n (L' := [(2, .int (paceS T 0 c)), (0, .ref 0), (1, .int c)]) dX11_best_6 (by decide) rfl ?_
  refine j_aload_n 1 dX11_best_7 rfl ?_
  refine j_iconst 1 dX11_best_8 ic_1 ?_
  refine j_iload_n 2 dX11_best_9 rfl ?_
  refine j_callV (kc := 0) (ks := 0) (a := 0) (b := 0) (d' := (d + 4)) (As := [.int 1, .int c]) dX11_best_10 kX11_184 rfl (shM hM sgM_0) (by omega) rfl rfl rfl (Nat.le_of_ble_eq_true rfl) (Nat.le_of_ble_eq_true rfl) (T_X11_pace hM hE ok hk 1 c (by assumption)) (kk_p ?_)
  refine j_istore_n (L' := [(3, .int (paceS T 1 c)), (2, .int (paceS T 0 c)), (0, .ref 0), (1, .int c)]) dX11_best_13 (by decide) rfl ?_
  refine j_iload_n 1 dX11_best_14 rfl ?_
  refine j_iload_n 0 dX11_best_15 rfl ?_
  refine j_icmp_le (tgt := 23) dX11_best_16 rfl (fun c1 => ?_) (fun c1 => ?_)
  · refine j_iload_n 0 dX11_best_23 rfl ?_
    refine j_iret dX11_best_24 rfl ?_
    exact hQ _ _ ⟨by clear hQ hk hE hM; unfold bestT jmax; grind, rfl⟩
  · refine j_iload_n 1 dX11_best_19 rfl ?_
    refine j_goto (tgt := 24) dX11_best_20 rfl ?_
    refine j_iret dX11_best_24 rfl ?_
    exact hQ _ _ ⟨by clear hQ hk hE hM; unfold bestT jmax; grind, rfl⟩
set_option maxRecDepth 20000 in
set_option maxHeartbeats 4000000 in
theorem T_X11_better {d : Nat} {M : jk_M} {T : HS} (hM : WM M) (hE : MEq M.2.1 T) (ok : Sok T) (hk : LkO T M) (c : Int32) (hc : isC T c) : J Fr_X11_better (d + 4) 0 0 0 [(0, .ref 0), (1, .int c)] [] M (jk_is (some (.int (betS T c))) M) := by
  refine j_post (fun Q hQ => ?_)
  refine j_aload_n 0 dX11_better_0 rfl ?_
  refine j_iconst 0 dX11_better_1 ic_0 ?_
  refine j_iload_n 1 dX11_better_2 rfl ?_
  refine j_callV (kc := 0) (ks := 0) (a := 0) (b := 0) (d' := (d + 3)) (As := [.int 0, .int c]) dX11_better_3 kX11_257 rfl (shM hM sgM_0) (by omega) rfl rfl rfl (Nat.le_of_ble_eq_true rfl) (Nat.le_of_ble_eq_true rfl) (T_X11_barsAt hM hE ok hk 0 c (Or.inl rfl) (by assumption)) (kk_p ?_)
  refine j_istore_n (L' := [(2, .int (barS T 0 c)), (0, .ref 0), (1, .int c)]) dX11_better_6 (by decide) rfl ?_
  refine j_aload_n 1 dX11_better_7 rfl ?_
  refine j_iconst 1 dX11_better_8 ic_1 ?_
  refine j_iload_n 2 dX11_better_9 rfl ?_
  refine j_callV (kc := 0) (ks := 0) (a := 0) (b := 0) (d' := (d + 3)) (As := [.int 1, .int c]) dX11_better_10 kX11_257 rfl (shM hM sgM_0) (by omega) rfl rfl rfl (Nat.le_of_ble_eq_true rfl) (Nat.le_of_ble_eq_true rfl) (T_X11_barsAt hM hE ok hk 1 c (Or.inr rfl) (by assumption)) (kk_p ?_)
  refine j_istore_n (L' := [(3, .int (barS T 1 c)), (2, .int (barS T 0 c)), (0, .ref 0), (1, .int c)]) dX11_better_13 (by decide) rfl ?_
  refine j_iload_n 1 dX11_better_14 rfl ?_
  refine j_iload_n 0 dX11_better_15 rfl ?_
  refine j_icmp_le (tgt := 23) dX11_better_16 rfl (fun c1 => ?_) (fun c1 => ?_)
  · refine j_iload_n 0 dX11_better_23 rfl ?_
    refine j_iret dX11_better_24 rfl ?_
    exact hQ _ _ ⟨by clear hQ hk hE hM; unfold betS jmax; grind, rfl⟩
  · refine j_iload_n 1 dX11_better_19 rfl ?_
    refine j_goto (tgt := 24) dX11_better_20 rfl ?_
    refine j_iret dX11_better_24 rfl ?_
    exact hQ _ _ ⟨by clear hQ hk hE hM; unfold betS jmax; grind, rfl⟩
set_option maxRecDepth 20000 in
set_option maxHeartbeats 4000000 in
theorem T_X11_letsGo {d : Nat} {M : jk_M} {T : HS} (hM : WM M) (hE : MEq M.2.1 T) (ok : Sok T) (hk : LkO T M) (b c r : Int32) (hb : b = 0 ∨ b = 1) (hc : isC T c) : J Fr_X11_letsGo (d + 4) 0 0 0 [(0, .ref 0), (1, .int b), (2, .int c), (3, .int r)] [] M (jk_is (some (.int (bI (barS T b c ≤ r ∧ barS T b c < barS T (1 - b) c)))) M) := by
  refine j_post (fun Q hQ => ?_)
  refine j_aload_n 0 dX11_letsGo_0 rfl ?_
  refine j_iload_n 1 dX11_letsGo_1 rfl ?_
  refine j_iload_n 2 dX11_letsGo_2 rfl ?_
  refine j_callV (kc := 0) (ks := 0) (a := 0) (b := 0) (d' := (d + 3)) (As := [.int b, .int c]) dX11_letsGo_3 kX11_257 rfl (shM hM sgM_0) (by omega) rfl rfl rfl (Nat.le_of_ble_eq_true rfl) (Nat.le_of_ble_eq_true rfl) (T_X11_barsAt hM hE ok hk b c hb (by assumption)) (kk_p ?_)
  refine j_iload_n 3 dX11_letsGo_6 rfl ?_
  refine j_icmp_gt (tgt := 31) dX11_letsGo_7 rfl (fun c1 => ?_) (fun c1 => ?_)
  · refine j_iconst 0 dX11_letsGo_31 ic_0 ?_
    refine j_zret dX11_letsGo_32 rfl rfl ?_
    clear hk hE
    exact hQ _ _ ⟨by rw [bI_f (by clear hQ; grind [])], rfl⟩
  · refine j_aload_n 0 dX11_letsGo_10 rfl ?_
    refine j_iconst 1 dX11_letsGo_11 ic_1 ?_
    refine j_iload_n 1 dX11_letsGo_12 rfl ?_
    refine j_isub dX11_letsGo_13 ?_
    refine j_iload_n 2 dX11_letsGo_14 rfl ?_
    refine j_callV (kc := 0) (ks := 0) (a := 0) (b := 0) (d' := (d + 3)) (As := [.int (1 - b), .int c]) dX11_letsGo_15 kX11_257 rfl (shM hM sgM_0) (by omega) rfl rfl rfl (Nat.le_of_ble_eq_true rfl) (Nat.le_of_ble_eq_true rfl) (T_X11_barsAt hM hE ok hk (1 - b) c (b01 hb) (by assumption)) (kk_p ?_)
    refine j_aload_n 0 dX11_letsGo_18 rfl ?_
    refine j_iload_n 1 dX11_letsGo_19 rfl ?_
    refine j_iload_n 2 dX11_letsGo_20 rfl ?_
    refine j_callV (kc := 0) (ks := 0) (a := 0) (b := 0) (d' := (d + 3)) (As := [.int b, .int c]) dX11_letsGo_21 kX11_257 rfl (shM hM sgM_0) (by omega) rfl rfl rfl (Nat.le_of_ble_eq_true rfl) (Nat.le_of_ble_eq_true rfl) (T_X11_barsAt hM hE ok hk b c hb (by assumption)) (kk_p ?_)
    refine j_icmp_le (tgt := 31) dX11_letsGo_24 rfl (fun c2 => ?_) (fun c2 => ?_)
    · refine j_iconst 0 dX11_letsGo_31 ic_0 ?_
      refine j_zret dX11_letsGo_32 rfl rfl ?_
      clear hk hE
      exact hQ _ _ ⟨by rw [bI_f (by clear hQ; grind [])], rfl⟩
    · refine j_iconst 1 dX11_letsGo_27 ic_1 ?_
      refine j_goto (tgt := 32) dX11_letsGo_28 rfl ?_
      refine j_zret dX11_letsGo_32 rfl rfl ?_
      clear hk hE
      exact hQ _ _ ⟨by rw [bI_t (by clear hQ; grind [])], rfl⟩
set_option maxRecDepth 20000 in
set_option maxHeartbeats 4000000 in
theorem T_X11_filledNow {d : Nat} {M : jk_M} {T : HS} (hM : WM M) (hE : MEq M.2.1 T) (ok : Sok T) (hk : LkO T M)  : J Fr_X11_filledNow (d + 5) 0 0 0 [(0, .ref 0)] [] M (jk_is (some (.int (fillS T))) M) := by
  refine j_post (fun Q hQ => ?_)
  have hD := (Sok.D ok).2
  refine j_iconst 0 dX11_filledNow_0 ic_0 ?_
  refine j_istore_n (L' := [(1, .int 0), (0, .ref 0)]) dX11_filledNow_1 (by decide) rfl ?_
  refine j_iconst 0 dX11_filledNow_2 ic_0 ?_
  refine j_istore_n (L' := [(2, .int 0), (1, .int 0), (0, .ref 0)]) dX11_filledNow_3 (by decide) rfl ?_
  have lp3 : ∀ (k1 : Nat) (i : Nat), nD T - i < k1 → (i ≤ nD T) → J Fr_X11_filledNow (d + 5) 0 0 4 [(0, .ref 0), (1, .int (sm (fun i => if T 17 i ≤ paceS T (T 19 i) (T 16 i) then T 18 i else 0) i)), (2, .int (nI i))] [] M Q := by
    intro k1
    induction k1 with
    | zero => intro i hk; exact absurd hk (Nat.not_lt_zero _)
    | succ k1 ih2 =>
      intro i hk1 hi
      refine j_iload_n 2 dX11_filledNow_4 rfl ?_
      refine j_aload_n 0 dX11_filledNow_5 rfl ?_
      refine j_getv (nI (nD T)) dX11_filledNow_6 fX11_147 (shM hM sgM_0) rfl ((er_D hE).trans (Sok.D ok).1) ?_
      refine j_icmp_geN (tgt := 52) i (nD T) dX11_filledNow_9 rfl (by omega) (by omega) (fun c4 => ?_) (fun c4 => ?_)
      · refine j_iload_n 1 dX11_filledNow_52 rfl ?_
        refine j_iret dX11_filledNow_53 rfl ?_
        have e : i = nD T := by omega
        subst e
        exact hQ _ _ ⟨rfl, rfl⟩
      · refine j_aload_n 0 dX11_filledNow_12 rfl ?_
        refine j_aload_n 0 dX11_filledNow_13 rfl ?_
        refine j_getr (q := 11) dX11_filledNow_14 fX11_56 (shM hM sgM_0) rfl (rfM hM rfM_0_19) ?_
        refine j_iload_n 2 dX11_filledNow_17 rfl ?_
        refine j_ialdN i dX11_filledNow_18 (shM hM sgM_11) (by omega) (by omega) ?_
        refine j_topi (T 19 i) (er_arD hE (k := 3) (by omega) (by decide)) ?_
        refine j_aload_n 0 dX11_filledNow_19 rfl ?_
        refine j_getr (q := 8) dX11_filledNow_20 fX11_47 (shM hM sgM_0) rfl (rfM hM rfM_0_16) ?_
        refine j_iload_n 2 dX11_filledNow_23 rfl ?_
        refine j_ialdN i dX11_filledNow_24 (shM hM sgM_8) (by omega) (by omega) ?_
        refine j_topi (T 16 i) (er_arD hE (k := 0) (by omega) (by decide)) ?_
        refine j_callV (kc := 0) (ks := 0) (a := 0) (b := 0) (d' := (d + 4)) (As := [.int (T 19 i), .int (T 16 i)]) dX11_filledNow_25 kX11_184 rfl (shM hM sgM_0) (by omega) rfl rfl rfl (Nat.le_of_ble_eq_true rfl) (Nat.le_of_ble_eq_true rfl) (T_X11_pace hM hE ok hk (T 19 i) (T 16 i) (ok.de (by omega)).1) (kk_p ?_)
        refine j_aload_n 0 dX11_filledNow_28 rfl ?_
        refine j_getr (q := 9) dX11_filledNow_29 fX11_50 (shM hM sgM_0) rfl (rfM hM rfM_0_17) ?_
        refine j_iload_n 2 dX11_filledNow_32 rfl ?_
        refine j_ialdN i dX11_filledNow_33 (shM hM sgM_9) (by omega) (by omega) ?_
        refine j_topi (T 17 i) (er_arD hE (k := 1) (by omega) (by decide)) ?_
        refine j_icmp_lt (tgt := 46) dX11_filledNow_34 rfl (fun c5 => ?_) (fun c5 => ?_)
        · refine j_iinc 2 (nI (i + 1)) (L' := [(2, .int (nI (i + 1))), (0, .ref 0), (1, .int (sm (fun i => if T 17 i ≤ paceS T (T 19 i) (T 16 i) then T 18 i else 0) i))]) dX11_filledNow_46 rfl (inc1 i) (by decide) rfl ?_
          refine j_goto (tgt := 4) dX11_filledNow_49 rfl ?_
          have hb1 : (sm (fun i => if T 17 i ≤ paceS T (T 19 i) (T 16 i) then T 18 i else 0) i) = (sm (fun i => if T 17 i ≤ paceS T (T 19 i) (T 16 i) then T 18 i else 0) (i + 1)) := by
            rw [sm_s]
            simp only [if_neg (Int32.not_le.mpr c5)]
            simp
          refine j_L (congrArg (fun zz9 : Int32 => ([(2, .int (nI (i + 1))), (0, .ref 0), (1, .int zz9)] : List (Nat × Value))) hb1) ?_
          exact j_sub (jk_pick [1, 2, 0] rfl) (ih2 (i + 1) (by omega) (by omega))
        · refine j_iload_n 1 dX11_filledNow_37 rfl ?_
          refine j_aload_n 0 dX11_filledNow_38 rfl ?_
          refine j_getr (q := 10) dX11_filledNow_39 fX11_53 (shM hM sgM_0) rfl (rfM hM rfM_0_18) ?_
          refine j_iload_n 2 dX11_filledNow_42 rfl ?_
          refine j_ialdN i dX11_filledNow_43 (shM hM sgM_10) (by omega) (by omega) ?_
          refine j_topi (T 18 i) (er_arD hE (k := 2) (by omega) (by decide)) ?_
          refine j_iadd dX11_filledNow_44 ?_
          refine j_istore_n (L' := [(1, .int ((sm (fun i => if T 17 i ≤ paceS T (T 19 i) (T 16 i) then T 18 i else 0) i) + (T 18 i))), (0, .ref 0), (2, .int (nI i))]) dX11_filledNow_45 (by decide) rfl ?_
          refine j_iinc 2 (nI (i + 1)) (L' := [(2, .int (nI (i + 1))), (1, .int ((sm (fun i => if T 17 i ≤ paceS T (T 19 i) (T 16 i) then T 18 i else 0) i) + (T 18 i))), (0, .ref 0)]) dX11_filledNow_46 rfl (inc1 i) (by decide) rfl ?_
          refine j_goto (tgt := 4) dX11_filledNow_49 rfl ?_
          have hb1 : ((sm (fun i => if T 17 i ≤ paceS T (T 19 i) (T 16 i) then T 18 i else 0) i) + (T 18 i)) = (sm (fun i => if T 17 i ≤ paceS T (T 19 i) (T 16 i) then T 18 i else 0) (i + 1)) := by
            rw [sm_s]
            simp only [if_pos (Int32.not_lt.mp c5)]
          refine j_L (congrArg (fun zz9 : Int32 => ([(2, .int (nI (i + 1))), (1, .int zz9), (0, .ref 0)] : List (Nat × Value))) hb1) ?_
          exact j_sub (jk_pick [2, 1, 0] rfl) (ih2 (i + 1) (by omega) (by omega))
  exact j_sub (jk_pick [2, 1, 0] rfl) (lp3 _ 0 (Nat.lt_succ_self _) (Nat.zero_le _))
set_option maxRecDepth 20000 in
set_option maxHeartbeats 4000000 in
theorem T_X11_served {d : Nat} {M : jk_M} {T : HS} (hM : WM M) (hE : MEq M.2.1 T) (ok : Sok T) (hk : LkO T M)  : J Fr_X11_served (d + 6) 0 0 0 [(0, .ref 0)] [] M (jk_is (some (.int (servS T))) M) := by
  refine j_post (fun Q hQ => ?_)
  have hD := (Sok.D ok).2
  refine j_iconst 0 dX11_served_0 ic_0 ?_
  refine j_istore_n (L' := [(1, .int 0), (0, .ref 0)]) dX11_served_1 (by decide) rfl ?_
  refine j_iconst 0 dX11_served_2 ic_0 ?_
  refine j_istore_n (L' := [(2, .int 0), (1, .int 0), (0, .ref 0)]) dX11_served_3 (by decide) rfl ?_
  have lp3 : ∀ (k1 : Nat) (i : Nat), nD T - i < k1 → (i ≤ nD T) → J Fr_X11_served (d + 6) 0 0 4 [(0, .ref 0), (1, .int (sm (fun i => if T 17 i ≤ bestT T (T 16 i) then T 18 i else 0) i)), (2, .int (nI i))] [] M Q := by
    intro k1
    induction k1 with
    | zero => intro i hk; exact absurd hk (Nat.not_lt_zero _)
    | succ k1 ih2 =>
      intro i hk1 hi
      refine j_iload_n 2 dX11_served_4 rfl ?_
      refine j_aload_n 0 dX11_served_5 rfl ?_
      refine j_getv (nI (nD T)) dX11_served_6 fX11_147 (shM hM sgM_0) rfl ((er_D hE).trans (Sok.D ok).1) ?_
      refine j_icmp_geN (tgt := 46) i (nD T) dX11_served_9 rfl (by omega) (by omega) (fun c4 => ?_) (fun c4 => ?_)
      · refine j_iload_n 1 dX11_served_46 rfl ?_
        refine j_iret dX11_served_47 rfl ?_
        have e : i = nD T := by omega
        subst e
        exact hQ _ _ ⟨by rw [serv_e ok], rfl⟩
      · refine j_aload_n 0 dX11_served_12 rfl ?_
        refine j_aload_n 0 dX11_served_13 rfl ?_
        refine j_getr (q := 8) dX11_served_14 fX11_47 (shM hM sgM_0) rfl (rfM hM rfM_0_16) ?_
        refine j_iload_n 2 dX11_served_17 rfl ?_
        refine j_ialdN i dX11_served_18 (shM hM sgM_8) (by omega) (by omega) ?_
        refine j_topi (T 16 i) (er_arD hE (k := 0) (by omega) (by decide)) ?_
        refine j_callV (kc := 0) (ks := 0) (a := 0) (b := 0) (d' := (d + 5)) (As := [.int (T 16 i)]) dX11_served_19 kX11_187 rfl (shM hM sgM_0) (by omega) rfl rfl rfl (Nat.le_of_ble_eq_true rfl) (Nat.le_of_ble_eq_true rfl) (T_X11_best hM hE ok hk (T 16 i) (ok.de (by omega)).1) (kk_p ?_)
        refine j_aload_n 0 dX11_served_22 rfl ?_
        refine j_getr (q := 9) dX11_served_23 fX11_50 (shM hM sgM_0) rfl (rfM hM rfM_0_17) ?_
        refine j_iload_n 2 dX11_served_26 rfl ?_
        refine j_ialdN i dX11_served_27 (shM hM sgM_9) (by omega) (by omega) ?_
        refine j_topi (T 17 i) (er_arD hE (k := 1) (by omega) (by decide)) ?_
        refine j_icmp_lt (tgt := 40) dX11_served_28 rfl (fun c5 => ?_) (fun c5 => ?_)
        · refine j_iinc 2 (nI (i + 1)) (L' := [(2, .int (nI (i + 1))), (0, .ref 0), (1, .int (sm (fun i => if T 17 i ≤ bestT T (T 16 i) then T 18 i else 0) i))]) dX11_served_40 rfl (inc1 i) (by decide) rfl ?_
          refine j_goto (tgt := 4) dX11_served_43 rfl ?_
          have hb1 : (sm (fun i => if T 17 i ≤ bestT T (T 16 i) then T 18 i else 0) i) = (sm (fun i => if T 17 i ≤ bestT T (T 16 i) then T 18 i else 0) (i + 1)) := by
            rw [sm_s]
            simp only [if_neg (Int32.not_le.mpr c5)]
            simp
          refine j_L (congrArg (fun zz9 : Int32 => ([(2, .int (nI (i + 1))), (0, .ref 0), (1, .int zz9)] : List (Nat × Value))) hb1) ?_
          exact j_sub (jk_pick [1, 2, 0] rfl) (ih2 (i + 1) (by omega) (by omega))
        · refine j_iload_n 1 dX11_served_31 rfl ?_
          refine j_aload_n 0 dX11_served_32 rfl ?_
          refine j_getr (q := 10) dX11_served_33 fX11_53 (shM hM sgM_0) rfl (rfM hM rfM_0_18) ?_
          refine j_iload_n 2 dX11_served_36 rfl ?_
          refine j_ialdN i dX11_served_37 (shM hM sgM_10) (by omega) (by omega) ?_
          refine j_topi (T 18 i) (er_arD hE (k := 2) (by omega) (by decide)) ?_
          refine j_iadd dX11_served_38 ?_
          refine j_istore_n (L' := [(1, .int ((sm (fun i => if T 17 i ≤ bestT T (T 16 i) then T 18 i else 0) i) + (T 18 i))), (0, .ref 0), (2, .int (nI i))]) dX11_served_39 (by decide) rfl ?_
          refine j_iinc 2 (nI (i + 1)) (L' := [(2, .int (nI (i + 1))), (1, .int ((sm (fun i => if T 17 i ≤ bestT T (T 16 i) then T 18 i else 0) i) + (T 18 i))), (0, .ref 0)]) dX11_served_40 rfl (inc1 i) (by decide) rfl ?_
          refine j_goto (tgt := 4) dX11_served_43 rfl ?_
          have hb1 : ((sm (fun i => if T 17 i ≤ bestT T (T 16 i) then T 18 i else 0) i) + (T 18 i)) = (sm (fun i => if T 17 i ≤ bestT T (T 16 i) then T 18 i else 0) (i + 1)) := by
            rw [sm_s]
            simp only [if_pos (Int32.not_lt.mp c5)]
          refine j_L (congrArg (fun zz9 : Int32 => ([(2, .int (nI (i + 1))), (1, .int zz9), (0, .ref 0)] : List (Nat × Value))) hb1) ?_
          exact j_sub (jk_pick [2, 1, 0] rfl) (ih2 (i + 1) (by omega) (by omega))
  exact j_sub (jk_pick [2, 1, 0] rfl) (lp3 _ 0 (Nat.lt_succ_self _) (Nat.zero_le _))
