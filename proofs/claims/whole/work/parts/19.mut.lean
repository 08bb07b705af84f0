theorem HOap {h h2 : Nat} (hh : isH h) (hh2 : isH h2) (hne : h ≠ h2) : ∀ q, HO h2 q → ¬ HO h q := by
  intro q a b
  obtain ⟨a1, a2⟩ := a
  obtain ⟨b1, b2⟩ := b
  rcases hh with rfl | rfl | rfl <;> rcases hh2 with rfl | rfl | rfl <;> omega
theorem HOz {h : Nat} : HO h h := ⟨by omega, by omega⟩
theorem HOT {h i : Nat} (hi : i < 16) : HO h (h + 5 + i) := ⟨by omega, by omega⟩
theorem HOD {h i : Nat} (hi : i < 6) : HO h (h + 21 + i) := ⟨by omega, by omega⟩
def drawS (S : HS) : Int32 := S 4 0 * 1103515245 + 12345
def drawN (s n : Int32) : Int32 := if 0 < n then (s.toUInt32 >>> (Int32.toUInt32 16 &&& Int32.toUInt32 31)).toInt32 - (s.toUInt32 >>> (Int32.toUInt32 16 &&& Int32.toUInt32 31)).toInt32 / n * n else 0
/-- becoming: what is copied so far -/
def Bec (h h2 : Nat) (M M1 : jk_M) (t dv nb : Nat) : Prop := Sm (HO h) M M1 ∧ (∀ b, b < 10 → M1.2.1 h b = M.2.1 h2 b) ∧ (∀ j, j < t → ∀ b, b < 4 → M1.2.1 (h + 5 + j) b = M.2.1 (h2 + 5 + j) b) ∧ (∀ j, j < dv → ∀ b, b < 4 → M1.2.1 (h + 21 + j) b = M.2.1 (h2 + 21 + j) b) ∧ (∀ j, j < nb → ∀ b, b < 2 → M1.2.1 (h + 3 + b) j = M.2.1 (h2 + 3 + b) j)
theorem rd4 {M : jk_M} {a b : Nat} {x0 x1 x2 x3 : Int32} (hb : b < 4) : (jk_w4 M a x0 x1 x2 x3).2.1 a b = if b = 0 then x0 else if b = 1 then x1 else if b = 2 then x2 else x3 := by
  have hb4 : b = 0 ∨ b = 1 ∨ b = 2 ∨ b = 3 := by omega
  rw [jk_w4]
  rcases hb4 with rfl | rfl | rfl | rfl
  · rw [rd_k (by omega), rd_k (by omega), rd_k (by omega), rd_s]; rfl
  · rw [rd_k (by omega), rd_k (by omega), rd_s]; rfl
  · rw [rd_k (by omega), rd_s]; rfl
  · rw [rd_s]; rfl
theorem rd4o {M : jk_M} {a c b : Nat} {x0 x1 x2 x3 : Int32} (hb : c ≠ a) : (jk_w4 M a x0 x1 x2 x3).2.1 c b = M.2.1 c b := by
  rw [jk_w4, rd_o hb, rd_o hb, rd_o hb, rd_o hb]
theorem Sm.w4 {P : Nat → Prop} {M M1 : jk_M} {a : Nat} {x0 x1 x2 x3 : Int32} (h : Sm P M M1) (ha : P a) : Sm P M (jk_w4 M1 a x0 x1 x2 x3) := (((h.w ha).w ha).w ha).w ha
theorem Bec.th {h h2 i : Nat} {M M1 : jk_M} (hap : ∀ q, HO h2 q → ¬ HO h q) (H : Bec h h2 M M1 i 0 0) (hi : i < 16) : Bec h h2 M (jk_w4 M1 (h + 5 + i) (M1.2.1 (h2 + 5 + i) 0) (M1.2.1 (h2 + 5 + i) 1) (M1.2.1 (h2 + 5 + i) 2) (M1.2.1 (h2 + 5 + i) 3)) (i + 1) 0 0 := by
  obtain ⟨a1, a2, a3, a4, a5⟩ := H
  refine ⟨a1.w4 (HOT hi), fun b hb => ?_, fun j hj b hb => ?_, fun j hj => absurd hj (Nat.not_lt_zero j), fun j hj => absurd hj (Nat.not_lt_zero j)⟩
  · rw [rd4o (by omega)]; exact a2 b hb
  · by_cases e : j = i
    · subst e
      rw [rd4 hb, ← a1.2.2 _ (hap _ (HOT hi))]
      have hb4 : b = 0 ∨ b = 1 ∨ b = 2 ∨ b = 3 := by omega
      rcases hb4 with rfl | rfl | rfl | rfl <;> rfl
    · rw [rd4o (by omega)]; exact a3 j (by omega) b hb
theorem Bec.de {h h2 i t : Nat} {M M1 : jk_M} (hap : ∀ q, HO h2 q → ¬ HO h q) (H : Bec h h2 M M1 t i 0) (hi : i < 6) (ht : t ≤ 16) : Bec h h2 M (jk_w4 M1 (h + 21 + i) (M1.2.1 (h2 + 21 + i) 0) (M1.2.1 (h2 + 21 + i) 1) (M1.2.1 (h2 + 21 + i) 2) (M1.2.1 (h2 + 21 + i) 3)) t (i + 1) 0 := by
  obtain ⟨a1, a2, a3, a4, a5⟩ := H
  refine ⟨a1.w4 (HOD hi), fun b hb => ?_, fun j hj b hb => ?_, fun j hj b hb => ?_, fun j hj => absurd hj (Nat.not_lt_zero j)⟩
  · rw [rd4o (by omega)]; exact a2 b hb
  · rw [rd4o (by omega)]; exact a3 j hj b hb
  · by_cases e : j = i
    · subst e
      rw [rd4 hb, ← a1.2.2 _ (hap _ (HOD hi))]
      have hb4 : b = 0 ∨ b = 1 ∨ b = 2 ∨ b = 3 := by omega
      rcases hb4 with rfl | rfl | rfl | rfl <;> rfl
    · rw [rd4o (by omega)]; exact a4 j (by omega) b hb
theorem Bec.ne {h h2 i t dv : Nat} {M M1 : jk_M} {x y : Int32} (hap : ∀ q, HO h2 q → ¬ HO h q) (H : Bec h h2 M M1 t dv i) (hi : i < 8) (ht : t ≤ 16) (hd : dv ≤ 6) (ex : x = M1.2.1 (h2 + 3) i) (ey : y = M1.2.1 (h2 + 4) i) : Bec h h2 M (jk_wI (jk_wI M1 (h + 3) i x) (h + 4) i y) t dv (i + 1) := by
  obtain ⟨a1, a2, a3, a4, a5⟩ := H
  refine ⟨(a1.w (HO0 (by decide))).w (HO0 (by decide)), fun b hb => ?_, fun j hj b hb => ?_, fun j hj b hb => ?_, fun j hj b hb => ?_⟩
  · rw [rd_o (by omega), rd_o (by omega)]; exact a2 b hb
  · rw [rd_o (by omega), rd_o (by omega)]; exact a3 j hj b hb
  · rw [rd_o (by omega), rd_o (by omega)]; exact a4 j hj b hb
  · have hb2 : b = 0 ∨ b = 1 := by omega
    by_cases e : j = i
    · subst e
      rcases hb2 with rfl | rfl
      · rw [rd_o (by omega), rd_s, ex, a1.2.2 _ (hap _ (HO0 (k := 3) (by decide)))]
      · rw [rd_s, ey, a1.2.2 _ (hap _ (HO0 (k := 4) (by decide)))]
    · rcases hb2 with rfl | rfl
      · rw [rd_o (by omega), rd_k e]; exact a5 j (by omega) 0 (by decide)
      · rw [rd_k e, rd_o (by omega)]; exact a5 j (by omega) 1 (by decide)
theorem Bec.fin {h h2 : Nat} {M M1 : jk_M} {S : HS} (hS : hv M.2.1 h2 = S) (ok : Sok S) (H : Bec h h2 M M1 (nT S) (nD S) 8) : hv M1.2.1 h = S := by
  obtain ⟨a1, a2, a3, a4, a5⟩ := H
  obtain ⟨z1, z2, z3, z4, z5⟩ := hv_Hz hS
  obtain ⟨k1, k2, k3⟩ := ok.cn
  refine hv_of (fun b hb => (a2 b hb).trans (hvs hS hb)) z1 (fun b i hb hi => (a3 i hi b hb).trans (hvT hS hi hb)) z2 (fun b i hb hi => (a5 i (by omega) b hb).trans (hvN hS hi hb)) z3 (fun b i hb hi => (a4 i hi b hb).trans (hvD hS hi hb)) z4 z5
theorem Bec.c {h h2 : Nat} {M M1 : jk_M} {S : HS} {t dv nb : Nat} (hS : hv M.2.1 h2 = S) (ok : Sok S) (H : Bec h h2 M M1 t dv nb) : M1.2.1 h 7 = nI (nT S) ∧ M1.2.1 h 9 = nI (nD S) := ⟨((H.2.1 7 (by decide)).trans (hvs hS (by decide))).trans ok.T.1, ((H.2.1 9 (by decide)).trans (hvs hS (by decide))).trans ok.D.1⟩
set_option maxRecDepth 20000 in
set_option maxHeartbeats 4000000 in
theorem T_X2_thingAtR {d : Nat} {M : jk_M} {h : Nat} (hC : WC M) (hh : isH h) (n i : Nat) (h7 : M.2.1 h 7 = nI n) (hn : n ≤ 16) (hi : i < n) : J Fr_X2_thingAt d 0 0 0 [(0, .ref h), (1, .int (nI i))] [] M (jk_is (some (.ref (h + 5 + i))) M) := by
  refine j_post (fun Q hQ => ?_)
  refine j_iload_n 1 dX2_thingAt_0 rfl ?_
  refine j_if_ltN (tgt := 30) i dX2_thingAt_1 (by omega) rfl ?_
  refine j_iload_n 1 dX2_thingAt_4 rfl ?_
  refine j_aload_n 0 dX2_thingAt_5 rfl ?_
  refine j_getv (nI n) dX2_thingAt_6 fX2_33 (shC hC (sgH hh)) rfl h7 ?_
  refine j_icmp_geN (tgt := 30) i n dX2_thingAt_9 rfl (by omega) (by omega) (fun c2 => ?_) (fun c2 => ?_)
  · refine j_null dX2_thingAt_30 ?_
    refine j_aretN dX2_thingAt_31 rfl ?_
    exfalso; omega
  · refine j_iload_n 1 dX2_thingAt_12 rfl ?_
    refine j_aload_n 0 dX2_thingAt_13 rfl ?_
    refine j_getr (q := (h + 1)) dX2_thingAt_14 fX2_44 (shC hC (sgH hh)) rfl (rfC hC (rfH10 hh) (nzH hh)) ?_
    refine j_alen dX2_thingAt_17 (shC hC (sgH1 hh)) (by decide) ?_
    refine j_icmp_geN (tgt := 30) i 16 dX2_thingAt_18 rfl (by omega) (by omega) (fun c3 => ?_) (fun c3 => ?_)
    · refine j_null dX2_thingAt_30 ?_
      refine j_aretN dX2_thingAt_31 rfl ?_
      exfalso; omega
    · refine j_aload_n 0 dX2_thingAt_21 rfl ?_
      refine j_getr (q := (h + 1)) dX2_thingAt_22 fX2_44 (shC hC (sgH hh)) rfl (rfC hC (rfH10 hh) (nzH hh)) ?_
      refine j_iload_n 1 dX2_thingAt_25 rfl ?_
      refine j_aaldN i (q := (h + 5 + i)) dX2_thingAt_26 (shC hC (sgH1 hh)) (by decide) (by omega) (by omega) (rfC hC (rfHT hh (by omega)) (nzH1 hh)) ?_
      refine j_goto (tgt := 31) dX2_thingAt_27 rfl ?_
      refine j_aret dX2_thingAt_31 rfl ?_
      exact hQ _ _ ⟨rfl, rfl⟩
set_option maxRecDepth 20000 in
set_option maxHeartbeats 4000000 in
theorem T_X2_deviceAtR {d : Nat} {M : jk_M} {h : Nat} (hC : WC M) (hh : isH h) (n i : Nat) (h7 : M.2.1 h 9 = nI n) (hn : n ≤ 6) (hi : i < n) : J Fr_X2_deviceAt d 0 0 0 [(0, .ref h), (1, .int (nI i))] [] M (jk_is (some (.ref (h + 21 + i))) M) := by
  refine j_post (fun Q hQ => ?_)
  refine j_iload_n 1 dX2_deviceAt_0 rfl ?_
  refine j_if_ltN (tgt := 30) i dX2_deviceAt_1 (by omega) rfl ?_
  refine j_iload_n 1 dX2_deviceAt_4 rfl ?_
  refine j_aload_n 0 dX2_deviceAt_5 rfl ?_
  refine j_getv (nI n) dX2_deviceAt_6 fX2_39 (shC hC (sgH hh)) rfl h7 ?_
  refine j_icmp_geN (tgt := 30) i n dX2_deviceAt_9 rfl (by omega) (by omega) (fun c2 => ?_) (fun c2 => ?_)
  · refine j_null dX2_deviceAt_30 ?_
    refine j_aretN dX2_deviceAt_31 rfl ?_
    exfalso; omega
  · refine j_iload_n 1 dX2_deviceAt_12 rfl ?_
    refine j_aload_n 0 dX2_deviceAt_13 rfl ?_
    refine j_getr (q := (h + 2)) dX2_deviceAt_14 fX2_50 (shC hC (sgH hh)) rfl (rfC hC (rfH11 hh) (nzH hh)) ?_
    refine j_alen dX2_deviceAt_17 (shC hC (sgH2 hh)) (by decide) ?_
    refine j_icmp_geN (tgt := 30) i 6 dX2_deviceAt_18 rfl (by omega) (by omega) (fun c3 => ?_) (fun c3 => ?_)
    · refine j_null dX2_deviceAt_30 ?_
      refine j_aretN dX2_deviceAt_31 rfl ?_
      exfalso; omega
    · refine j_aload_n 0 dX2_deviceAt_21 rfl ?_
      refine j_getr (q := (h + 2)) dX2_deviceAt_22 fX2_50 (shC hC (sgH hh)) rfl (rfC hC (rfH11 hh) (nzH hh)) ?_
      refine j_iload_n 1 dX2_deviceAt_25 rfl ?_
      refine j_aaldN i (q := (h + 21 + i)) dX2_deviceAt_26 (shC hC (sgH2 hh)) (by decide) (by omega) (by omega) (rfC hC (rfHD hh (by omega)) (nzH2 hh)) ?_
      refine j_goto (tgt := 31) dX2_deviceAt_27 rfl ?_
      refine j_aret dX2_deviceAt_31 rfl ?_
      exact hQ _ _ ⟨rfl, rfl⟩
set_option maxRecDepth 20000 in
set_option maxHeartbeats 4000000 in
theorem T_X2_addThing {d : Nat} {M : jk_M} {h : Nat} {S : HS} (hC : WC M) (hh : isH h) (hS : hv M.2.1 h = S) (ok : Sok S) (k a c : Int32) (h16 : nT S < 16) : J Fr_X2_addThing (d + 1) 0 0 0 [(0, .ref h), (1, .int k), (2, .int a), (3, .int c)] [] M (jk_ex (some (.int (nI (nT S)))) (fun M1 => Sm (HO h) M M1 ∧ hv M1.2.1 h = addTS S k a c)) := by
  refine j_post (fun Q hQ => ?_)
  refine j_aload_n 0 dX2_addThing_0 rfl ?_
  refine j_getv (nI (nT S)) dX2_addThing_1 fX2_33 (shC hC (sgH hh)) rfl ((hvs hS (by decide)).trans (Sok.T ok).1) ?_
  refine j_bipush 16 dX2_addThing_4 bp_16 ?_
  refine j_icmp_ltN (tgt := 11) (nT S) 16 dX2_addThing_6 rfl (by omega) (by omega) (fun c1 => ?_) (fun c1 => ?_)
  · refine j_aload_n 0 dX2_addThing_11 rfl ?_
    refine j_getv (nI (nT S)) dX2_addThing_12 fX2_33 (shC hC (sgH hh)) rfl ((hvs hS (by decide)).trans (Sok.T ok).1) ?_
    refine j_istore (L' := [(4, .int (nI (nT S))), (0, .ref h), (1, .int k), (2, .int a), (3, .int c)]) dX2_addThing_15 (by decide) rfl ?_
    refine j_aload_n 1 dX2_addThing_17 rfl ?_
    refine j_dup dX2_addThing_18 rfl ?_
    refine j_getv (nI (nT S)) dX2_addThing_19 fX2_33 (shC hC (sgH hh)) rfl ((hvs hS (by decide)).trans (Sok.T ok).1) ?_
    refine j_iconst 1 dX2_addThing_22 ic_1 ?_
    refine j_iaddN (nT S) 1 dX2_addThing_23 ?_
    refine j_put dX2_addThing_24 fX2_33 (shC hC (sgH hh)) rfl ?_
    have sm2 : Sm (HO h) M (jk_wI M h 7 (nI ((nT S) + 1))) := Sm.w Sm.rf HOz
    refine j_aload_n 1 dX2_addThing_27 rfl ?_
    refine j_iload 0 dX2_addThing_28 rfl ?_
    refine j_callV (kc := 0) (ks := 0) (a := 0) (b := 0) (d' := d) (As := [.int (nI (nT S))]) dX2_addThing_30 kX2_63 rfl (shC (Sm.C sm2 hC) (sgH hh)) (by omega) rfl rfl rfl (Nat.le_of_ble_eq_true rfl) (Nat.le_of_ble_eq_true rfl) (T_X2_thingAtR (Sm.C sm2 hC) hh (nT S + 1) (nT S) rd_s (by omega) (by omega)) (kk_p ?_)
    refine j_astore (L' := [(5, .ref (h + 5 + (nT S))), (4, .int (nI (nT S))), (0, .ref h), (1, .int k), (2, .int a), (3, .int c)]) dX2_addThing_33 (by decide) rfl ?_
    refine j_aload 0 dX2_addThing_35 rfl ?_
    refine j_ifnull dX2_addThing_37 ?_
    refine j_aload 0 dX2_addThing_40 rfl ?_
    refine j_iload_n 3 dX2_addThing_42 rfl ?_
    refine j_put dX2_addThing_43 fX2_95 (shC (Sm.C sm2 hC) (sgHT hh (by omega))) rfl ?_
    have sm3 : Sm (HO h) M (jk_wI (jk_wI M h 7 (nI ((nT S) + 1))) (h + 5 + (nT S)) 0 k) := Sm.w sm2 (HOT (by omega))
    refine j_aload 0 dX2_addThing_46 rfl ?_
    refine j_iload_n 4 dX2_addThing_48 rfl ?_
    refine j_put dX2_addThing_49 fX2_98 (shC (Sm.C sm3 hC) (sgHT hh (by omega))) rfl ?_
    have sm4 : Sm (HO h) M (jk_wI (jk_wI (jk_wI M h 7 (nI ((nT S) + 1))) (h + 5 + (nT S)) 0 k) (h + 5 + (nT S)) 1 a) := Sm.w sm3 (HOT (by omega))
    refine j_aload 0 dX2_addThing_52 rfl ?_
    refine j_iload_n 5 dX2_addThing_54 rfl ?_
    refine j_put dX2_addThing_55 fX2_101 (shC (Sm.C sm4 hC) (sgHT hh (by omega))) rfl ?_
    have sm5 : Sm (HO h) M (jk_wI (jk_wI (jk_wI (jk_wI M h 7 (nI ((nT S) + 1))) (h + 5 + (nT S)) 0 k) (h + 5 + (nT S)) 1 a) (h + 5 + (nT S)) 2 c) := Sm.w sm4 (HOT (by omega))
    refine j_aload 0 dX2_addThing_58 rfl ?_
    refine j_iconst 1 dX2_addThing_60 ic_1 ?_
    refine j_putz dX2_addThing_61 fX2_104 (shC (Sm.C sm5 hC) (sgHT hh (by omega))) rfl (by decide) ?_
    have sm6 : Sm (HO h) M (jk_wI (jk_wI (jk_wI (jk_wI (jk_wI M h 7 (nI ((nT S) + 1))) (h + 5 + (nT S)) 0 k) (h + 5 + (nT S)) 1 a) (h + 5 + (nT S)) 2 c) (h + 5 + (nT S)) 3 1) := Sm.w sm5 (HOT (by omega))
    refine j_iload 1 dX2_addThing_64 rfl ?_
    refine j_iret dX2_addThing_66 rfl ?_
    exact hQ _ _ ⟨rfl, sm6, hv_addT hS ok h16⟩
  · exact absurd c1 (by omega)
set_option maxRecDepth 20000 in
set_option maxHeartbeats 4000000 in
theorem T_X2_addDevice {d : Nat} {M : jk_M} {h : Nat} {S : HS} (hC : WC M) (hh : isH h) (hS : hv M.2.1 h = S) (ok : Sok S) (c v z : Int32) (h6 : nD S < 6) : J Fr_X2_addDevice (d + 1) 0 0 0 [(0, .ref h), (1, .int c), (2, .int v), (3, .int z)] [] M (jk_ex (some (.int (nI (nD S)))) (fun M1 => Sm (HO h) M M1 ∧ hv M1.2.1 h = addDS S c v z)) := by
  refine j_post (fun Q hQ => ?_)
  refine j_aload_n 0 dX2_addDevice_0 rfl ?_
  refine j_getv (nI (nD S)) dX2_addDevice_1 fX2_39 (shC hC (sgH hh)) rfl ((hvs hS (by decide)).trans (Sok.D ok).1) ?_
  refine j_bipush 6 dX2_addDevice_4 bp_6 ?_
  refine j_icmp_ltN (tgt := 11) (nD S) 6 dX2_addDevice_6 rfl (by omega) (by omega) (fun c1 => ?_) (fun c1 => ?_)
  · refine j_aload_n 0 dX2_addDevice_11 rfl ?_
    refine j_getv (nI (nD S)) dX2_addDevice_12 fX2_39 (shC hC (sgH hh)) rfl ((hvs hS (by decide)).trans (Sok.D ok).1) ?_
    refine j_istore (L' := [(4, .int (nI (nD S))), (0, .ref h), (1, .int c), (2, .int v), (3, .int z)]) dX2_addDevice_15 (by decide) rfl ?_
    refine j_aload_n 1 dX2_addDevice_17 rfl ?_
    refine j_dup dX2_addDevice_18 rfl ?_
    refine j_getv (nI (nD S)) dX2_addDevice_19 fX2_39 (shC hC (sgH hh)) rfl ((hvs hS (by decide)).trans (Sok.D ok).1) ?_
    refine j_iconst 1 dX2_addDevice_22 ic_1 ?_
    refine j_iaddN (nD S) 1 dX2_addDevice_23 ?_
    refine j_put dX2_addDevice_24 fX2_39 (shC hC (sgH hh)) rfl ?_
    have sm2 : Sm (HO h) M (jk_wI M h 9 (nI ((nD S) + 1))) := Sm.w Sm.rf HOz
    refine j_aload_n 1 dX2_addDevice_27 rfl ?_
    refine j_iload 0 dX2_addDevice_28 rfl ?_
    refine j_callV (kc := 0) (ks := 0) (a := 0) (b := 0) (d' := d) (As := [.int (nI (nD S))]) dX2_addDevice_30 kX2_71 rfl (shC (Sm.C sm2 hC) (sgH hh)) (by omega) rfl rfl rfl (Nat.le_of_ble_eq_true rfl) (Nat.le_of_ble_eq_true rfl) (T_X2_deviceAtR (Sm.C sm2 hC) hh (nD S + 1) (nD S) rd_s (by omega) (by omega)) (kk_p ?_)
    refine j_astore (L' := [(5, .ref (h + 21 + (nD S))), (4, .int (nI (nD S))), (0, .ref h), (1, .int c), (2, .int v), (3, .int z)]) dX2_addDevice_33 (by decide) rfl ?_
    refine j_aload 0 dX2_addDevice_35 rfl ?_
    refine j_ifnull dX2_addDevice_37 ?_
    refine j_aload 0 dX2_addDevice_40 rfl ?_
    refine j_iload_n 3 dX2_addDevice_42 rfl ?_
    refine j_put dX2_addDevice_43 fX2_108 (shC (Sm.C sm2 hC) (sgHD hh (by omega))) rfl ?_
    have sm3 : Sm (HO h) M (jk_wI (jk_wI M h 9 (nI ((nD S) + 1))) (h + 21 + (nD S)) 0 c) := Sm.w sm2 (HOD (by omega))
    refine j_aload 0 dX2_addDevice_46 rfl ?_
    refine j_iload_n 4 dX2_addDevice_48 rfl ?_
    refine j_put dX2_addDevice_49 fX2_109 (shC (Sm.C sm3 hC) (sgHD hh (by omega))) rfl ?_
    have sm4 : Sm (HO h) M (jk_wI (jk_wI (jk_wI M h 9 (nI ((nD S) + 1))) (h + 21 + (nD S)) 0 c) (h + 21 + (nD S)) 1 v) := Sm.w sm3 (HOD (by omega))
    refine j_aload 0 dX2_addDevice_52 rfl ?_
    refine j_iload_n 5 dX2_addDevice_54 rfl ?_
    refine j_put dX2_addDevice_55 fX2_112 (shC (Sm.C sm4 hC) (sgHD hh (by omega))) rfl ?_
    have sm5 : Sm (HO h) M (jk_wI (jk_wI (jk_wI (jk_wI M h 9 (nI ((nD S) + 1))) (h + 21 + (nD S)) 0 c) (h + 21 + (nD S)) 1 v) (h + 21 + (nD S)) 2 z) := Sm.w sm4 (HOD (by omega))
    refine j_aload 0 dX2_addDevice_58 rfl ?_
    refine j_iconst 0 dX2_addDevice_60 ic_0 ?_
    refine j_put dX2_addDevice_61 fX2_115 (shC (Sm.C sm5 hC) (sgHD hh (by omega))) rfl ?_
    have sm6 : Sm (HO h) M (jk_wI (jk_wI (jk_wI (jk_wI (jk_wI M h 9 (nI ((nD S) + 1))) (h + 21 + (nD S)) 0 c) (h + 21 + (nD S)) 1 v) (h + 21 + (nD S)) 2 z) (h + 21 + (nD S)) 3 0) := Sm.w sm5 (HOD (by omega))
    refine j_iload 1 dX2_addDevice_64 rfl ?_
    refine j_iret dX2_addDevice_66 rfl ?_
    exact hQ _ _ ⟨rfl, sm6, hv_addD hS ok h6⟩
  · exact absurd c1 (by omega)
