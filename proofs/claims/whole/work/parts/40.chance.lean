/-! chance -/
theorem shr16 (s : Int32) : ∃ X, X < 65536 ∧ (s.toUInt32 >>> (Int32.toUInt32 16 &&& Int32.toUInt32 31)).toInt32 = nI X := by
  have e : (Int32.toUInt32 16 &&& Int32.toUInt32 31) = (16 : UInt32) := by decide
  rw [e]
  refine ⟨(s.toUInt32 >>> 16).toNat, ?_, ?_⟩
  · have h := s.toUInt32.toNat_lt
    have h2 : (s.toUInt32 >>> 16).toNat = s.toUInt32.toNat >>> 16 := by simp
    rw [h2, Nat.shiftRight_eq_div_pow]
    omega
  · apply Int32.toBitVec_inj.mp
    apply BitVec.eq_of_toNat_eq
    simp [nI]
    show s.toUInt32.toNat >>> 16 = _
    rw [Nat.mod_eq_of_lt (by rw [Nat.shiftRight_eq_div_pow]; have := s.toUInt32.toNat_lt; omega)]
theorem drawN_in {s : Int32} {n : Nat} (h0 : 0 < n) (hn : n < 65536) : ∃ k, k < n ∧ drawN s (nI n) = nI k := by
  obtain ⟨X, hX, e⟩ := shr16 s
  refine ⟨X % n, Nat.mod_lt _ h0, ?_⟩
  have hp : (0 : Int32) < nI n := by rw [show (0 : Int32) = nI 0 by decide]; exact (nI_ltI (by omega) (by omega)).mpr h0
  rw [drawN, if_pos hp, e, pk_rem (by omega) h0 (by omega)]
def ds (T : HS) : HS := upS T 4 0 (drawS T)
def dv (T : HS) (n : Int32) : Int32 := drawN (drawS T) n
theorem ds_n {T : HS} : nD (ds T) = nD T ∧ nT (ds T) = nT T ∧ nN (ds T) = nN T := by
  refine ⟨?_, ?_, ?_⟩
  · simp only [nD, ds]; rw [upS_n (by omega)]
  · simp only [nT, ds]; rw [upS_n (by omega)]
  · simp only [nN, ds]; rw [upS_n (by omega)]
theorem ds_ok {T : HS} (ok : Sok T) : Sok (ds T) := ok.u4
def chS (S : HS) : HS :=
  if dv S 4 = 0 ∧ 0 < nD S then upS (ds (ds (ds (ds S)))) 16 (dv (ds S) (nI (nD (ds S)))).toNatClampNeg (10 * dv (ds (ds S)) ((ds (ds S)) 0 0) + dv (ds (ds (ds S))) ((ds (ds (ds S))) 0 0))
  else if dv S 4 = 1 ∧ 0 < nT S then upS (ds (ds S)) 13 (dv (ds S) (nI (nT (ds S)))).toNatClampNeg (if (ds (ds S)) 13 (dv (ds S) (nI (nT (ds S)))).toNatClampNeg = 0 then 1 else 0)
  else if dv S 4 = 2 ∧ 0 < nN S then upS (ds (ds (ds S))) 14 (dv (ds S) (nI (nN (ds S)))).toNatClampNeg (1 + dv (ds (ds S)) 13)
  else ds S
theorem ch_0 {S : HS} {k : Nat} (h : dv S 4 = 0) (h2 : 0 < nD S) (hk : k < 2 ^ 31) (e : dv (ds S) (nI (nD (ds S))) = nI k) : chS S = upS (ds (ds (ds (ds S)))) 16 k (10 * dv (ds (ds S)) ((ds (ds S)) 0 0) + dv (ds (ds (ds S))) ((ds (ds (ds S))) 0 0)) := by
  rw [chS, if_pos ⟨h, h2⟩, e, nI_clamp hk]
theorem ch_1 {S : HS} {k : Nat} (h : dv S 4 = 1) (h2 : 0 < nT S) (hk : k < 2 ^ 31) (e : dv (ds S) (nI (nT (ds S))) = nI k) : chS S = upS (ds (ds S)) 13 k (if (ds (ds S)) 13 k = 0 then 1 else 0) := by
  rw [chS, if_neg (fun z => absurd (h.symm.trans z.1) (by decide)), if_pos ⟨h, h2⟩, e, nI_clamp hk]
theorem ch_2 {S : HS} {k : Nat} (h : dv S 4 = 2) (h2 : 0 < nN S) (hk : k < 2 ^ 31) (e : dv (ds S) (nI (nN (ds S))) = nI k) : chS S = upS (ds (ds (ds S))) 14 k (1 + dv (ds (ds S)) 13) := by
  rw [chS, if_neg (fun z => absurd (h.symm.trans z.1) (by decide)), if_neg (fun z => absurd (h.symm.trans z.1) (by decide)), if_pos ⟨h, h2⟩, e, nI_clamp hk]
theorem ch_3 {S : HS} (h0 : ¬ (dv S 4 = 0 ∧ 0 < nD S)) (h1 : ¬ (dv S 4 = 1 ∧ 0 < nT S)) (h2 : ¬ (dv S 4 = 2 ∧ 0 < nN S)) : chS S = ds S := by
  rw [chS, if_neg h0, if_neg h1, if_neg h2]
set_option maxRecDepth 20000 in
set_option maxHeartbeats 4000000 in
theorem T_X10_chance {d : Nat} {M : jk_M} {S : HS} (hC : WC M) (hS : hv M.2.1 1 = S) (ok : Sok S) : J Fr_X10_chance (d + 1) 0 0 0 [(0, .ref 0)] [] M (jk_ex none (fun M1 => Sm (HO 1) M M1 ∧ hv M1.2.1 1 = chS S)) := by
  refine j_post (fun Q hQ => ?_)
  obtain ⟨q1, q2, q3⟩ := ok.cn
  refine j_aload_n 0 dX10_chance_0 rfl ?_
  refine j_getr (q := 1) dX10_chance_1 fX10_10 (shC hC sgC_0) rfl (rfC hC rfC_0_0 (nz (by decide))) ?_
  refine j_iconst 4 dX10_chance_4 ic_4 ?_
  refine j_callV (kc := 0) (ks := 0) (a := 0) (b := 0) (d' := d) (As := [.int 4]) dX10_chance_5 kX10_382 rfl (shC hC (sgH (by simp [isH]))) (by omega) rfl rfl rfl (Nat.le_of_ble_eq_true rfl) (Nat.le_of_ble_eq_true rfl) (T_X2_draw hC (by simp [isH]) hS ok 4) (kk_e (fun M1 hM2 => ?_))
  obtain ⟨h03, hv5x⟩ := hM2
  have hv5 : hv M1.2.1 1 = ds S := hv5x
  have sm4 : Sm (HO 1) M M1 := Sm.tr Sm.rf h03
  have hv5n : nD (ds S) = nD S ∧ nT (ds S) = nT S ∧ nN (ds S) = nN S := ds_n
  refine j_istore_n (L' := [(1, .int (dv S 4)), (0, .ref 0)]) dX10_chance_8 (by decide) rfl ?_
  refine j_iload_n 0 dX10_chance_9 rfl ?_
  refine j_if_ne (tgt := 91) dX10_chance_10 rfl (fun c6 => ?_) (fun c6 => ?_)
  · refine j_iload_n 0 dX10_chance_91 rfl ?_
    refine j_iconst 1 dX10_chance_92 ic_1 ?_
    refine j_icmp_ne (tgt := 148) dX10_chance_93 rfl (fun c7 => ?_) (fun c7 => ?_)
    · refine j_iload_n 0 dX10_chance_148 rfl ?_
      refine j_iconst 2 dX10_chance_149 ic_2 ?_
      refine j_icmp_ne (tgt := 197) dX10_chance_150 rfl (fun c8 => ?_) (fun c8 => ?_)
      · refine j_vret dX10_chance_197 rfl ?_
        exact hQ _ _ ⟨rfl, sm4, (show _ = chS S from hv5.trans (ch_3 (fun z => c6 z.1) (fun z => c7 z.1) (fun z => c8 z.1)).symm)⟩
      · refine j_aload_n 1 dX10_chance_153 rfl ?_
        refine j_getr (q := 1) dX10_chance_154 fX10_10 (shC (Sm.C sm4 hC) sgC_0) rfl (rfC (Sm.C sm4 hC) rfC_0_0 (nz (by decide))) ?_
        refine j_getv (nI (nN (ds S))) dX10_chance_157 fX10_188 (shC (Sm.C sm4 hC) (sgH (by simp [isH]))) rfl ((hvs hv5 (by decide)).trans (Sok.N (ds_ok ok)).1) ?_
        refine j_if_leN (tgt := 197) (nN (ds S)) dX10_chance_160 (by omega) rfl (fun c9 => ?_) (fun c9 => ?_)
        · refine j_vret dX10_chance_197 rfl ?_
          exact hQ _ _ ⟨rfl, sm4, (show _ = chS S from hv5.trans (ch_3 (fun z => c6 z.1) (fun z => c7 z.1) (fun z => by have := z.2; omega)).symm)⟩
        · refine j_aload_n 1 dX10_chance_163 rfl ?_
          refine j_getr (q := 1) dX10_chance_164 fX10_10 (shC (Sm.C sm4 hC) sgC_0) rfl (rfC (Sm.C sm4 hC) rfC_0_0 (nz (by decide))) ?_
          refine j_aload_n 1 dX10_chance_167 rfl ?_
          refine j_getr (q := 1) dX10_chance_168 fX10_10 (shC (Sm.C sm4 hC) sgC_0) rfl (rfC (Sm.C sm4 hC) rfC_0_0 (nz (by decide))) ?_
          refine j_getv (nI (nN (ds S))) dX10_chance_171 fX10_188 (shC (Sm.C sm4 hC) (sgH (by simp [isH]))) rfl ((hvs hv5 (by decide)).trans (Sok.N (ds_ok ok)).1) ?_
          refine j_callV (kc := 0) (ks := 0) (a := 0) (b := 0) (d' := d) (As := [.int (nI (nN (ds S)))]) dX10_chance_174 kX10_382 rfl (shC (Sm.C sm4 hC) (sgH (by simp [isH]))) (by omega) rfl rfl rfl (Nat.le_of_ble_eq_true rfl) (Nat.le_of_ble_eq_true rfl) (T_X2_draw (Sm.C sm4 hC) (by simp [isH]) hv5 (ds_ok ok) (nI (nN (ds S)))) (kk_e (fun M10 hM11 => ?_))
          obtain ⟨h012, hv14x⟩ := hM11
          have hv14 : hv M10.2.1 1 = ds (ds S) := hv14x
          have sm13 : Sm (HO 1) M M10 := Sm.tr sm4 h012
          have hv14n : nD (ds (ds S)) = nD (ds S) ∧ nT (ds (ds S)) = nT (ds S) ∧ nN (ds (ds S)) = nN (ds S) := ds_n
          obtain ⟨k, hk, ek⟩ := drawN_in (s := drawS (ds S)) c9 (by omega)
          refine j_topi (nI k) ek ?_
          refine j_istore_n (L' := [(2, .int (nI k)), (1, .int (dv S 4)), (0, .ref 0)]) dX10_chance_177 (by decide) rfl ?_
          refine j_aload_n 2 dX10_chance_178 rfl ?_
          refine j_getr (q := 1) dX10_chance_179 fX10_10 (shC (Sm.C sm13 hC) sgC_0) rfl (rfC (Sm.C sm13 hC) rfC_0_0 (nz (by decide))) ?_
          refine j_iload_n 0 dX10_chance_182 rfl ?_
          refine j_iconst 1 dX10_chance_183 ic_1 ?_
          refine j_aload_n 2 dX10_chance_184 rfl ?_
          refine j_getr (q := 1) dX10_chance_185 fX10_10 (shC (Sm.C sm13 hC) sgC_0) rfl (rfC (Sm.C sm13 hC) rfC_0_0 (nz (by decide))) ?_
          refine j_bipush 13 dX10_chance_188 bp_13 ?_
          refine j_callV (kc := 0) (ks := 0) (a := 0) (b := 0) (d' := d) (As := [.int 13]) dX10_chance_190 kX10_382 rfl (shC (Sm.C sm13 hC) (sgH (by simp [isH]))) (by omega) rfl rfl rfl (Nat.le_of_ble_eq_true rfl) (Nat.le_of_ble_eq_true rfl) (T_X2_draw (Sm.C sm13 hC) (by simp [isH]) hv14 (ds_ok (ds_ok ok)) 13) (kk_e (fun M15 hM16 => ?_))
          obtain ⟨h017, hv19x⟩ := hM16
          have hv19 : hv M15.2.1 1 = ds (ds (ds S)) := hv19x
          have sm18 : Sm (HO 1) M M15 := Sm.tr sm13 h017
          have hv19n : nD (ds (ds (ds S))) = nD (ds (ds S)) ∧ nT (ds (ds (ds S))) = nT (ds (ds S)) ∧ nN (ds (ds (ds S))) = nN (ds (ds S)) := ds_n
          refine j_iadd dX10_chance_193 ?_
          refine j_callV (kc := 0) (ks := 0) (a := 0) (b := 0) (d' := d) (As := [.int (nI k), .int (1 + (dv (ds (ds S)) 13))]) dX10_chance_194 kX10_385 rfl (shC (Sm.C sm18 hC) (sgH (by simp [isH]))) (by omega) rfl rfl rfl (Nat.le_of_ble_eq_true rfl) (Nat.le_of_ble_eq_true rfl) (T_X2_tune (Sm.C sm18 hC) (by simp [isH]) hv19 (ds_ok (ds_ok (ds_ok ok))) k (1 + (dv (ds (ds S)) 13)) (by omega)) (kk_ev (fun M20 hM21 => ?_))
          obtain ⟨h023, ch240⟩ := hM21
          have sm22 : Sm (HO 1) M M20 := Sm.tr sm18 h023
          have ch24 : hv M20.2.1 1 = chS S := ch240.trans (ch_2 c8 (by omega) (by omega) ek).symm
          refine j_vret dX10_chance_197 rfl ?_
          exact hQ _ _ ⟨rfl, sm22, ch24⟩
    · refine j_aload_n 1 dX10_chance_96 rfl ?_
      refine j_getr (q := 1) dX10_chance_97 fX10_10 (shC (Sm.C sm4 hC) sgC_0) rfl (rfC (Sm.C sm4 hC) rfC_0_0 (nz (by decide))) ?_
      refine j_getv (nI (nT (ds S))) dX10_chance_100 fX10_181 (shC (Sm.C sm4 hC) (sgH (by simp [isH]))) rfl ((hvs hv5 (by decide)).trans (Sok.T (ds_ok ok)).1) ?_
      refine j_if_leN (tgt := 148) (nT (ds S)) dX10_chance_103 (by omega) rfl (fun c25 => ?_) (fun c25 => ?_)
      · refine j_iload_n 0 dX10_chance_148 rfl ?_
        refine j_iconst 2 dX10_chance_149 ic_2 ?_
        refine j_icmp_ne (tgt := 197) dX10_chance_150 rfl (fun c26 => ?_) (fun c26 => ?_)
        · refine j_vret dX10_chance_197 rfl ?_
          exact hQ _ _ ⟨rfl, sm4, (show _ = chS S from hv5.trans (ch_3 (fun z => c6 z.1) (fun z => by have := z.2; omega) (fun z => c26 z.1)).symm)⟩
        · exact absurd (c7.symm.trans c26) (by decide)
      · refine j_aload_n 1 dX10_chance_106 rfl ?_
        refine j_getr (q := 1) dX10_chance_107 fX10_10 (shC (Sm.C sm4 hC) sgC_0) rfl (rfC (Sm.C sm4 hC) rfC_0_0 (nz (by decide))) ?_
        refine j_aload_n 1 dX10_chance_110 rfl ?_
        refine j_getr (q := 1) dX10_chance_111 fX10_10 (shC (Sm.C sm4 hC) sgC_0) rfl (rfC (Sm.C sm4 hC) rfC_0_0 (nz (by decide))) ?_
        refine j_aload_n 1 dX10_chance_114 rfl ?_
        refine j_getr (q := 1) dX10_chance_115 fX10_10 (shC (Sm.C sm4 hC) sgC_0) rfl (rfC (Sm.C sm4 hC) rfC_0_0 (nz (by decide))) ?_
        refine j_getv (nI (nT (ds S))) dX10_chance_118 fX10_181 (shC (Sm.C sm4 hC) (sgH (by simp [isH]))) rfl ((hvs hv5 (by decide)).trans (Sok.T (ds_ok ok)).1) ?_
        refine j_callV (kc := 0) (ks := 0) (a := 0) (b := 0) (d' := d) (As := [.int (nI (nT (ds S)))]) dX10_chance_121 kX10_382 rfl (shC (Sm.C sm4 hC) (sgH (by simp [isH]))) (by omega) rfl rfl rfl (Nat.le_of_ble_eq_true rfl) (Nat.le_of_ble_eq_true rfl) (T_X2_draw (Sm.C sm4 hC) (by simp [isH]) hv5 (ds_ok ok) (nI (nT (ds S)))) (kk_e (fun M27 hM28 => ?_))
        obtain ⟨h029, hv31x⟩ := hM28
        have hv31 : hv M27.2.1 1 = ds (ds S) := hv31x
        have sm30 : Sm (HO 1) M M27 := Sm.tr sm4 h029
        have hv31n : nD (ds (ds S)) = nD (ds S) ∧ nT (ds (ds S)) = nT (ds S) ∧ nN (ds (ds S)) = nN (ds S) := ds_n
        obtain ⟨k, hk, ek⟩ := drawN_in (s := drawS (ds S)) c25 (by omega)
        refine j_topi (nI k) ek ?_
        refine j_callV (kc := 0) (ks := 0) (a := 0) (b := 0) (d' := d) (As := [.int (nI k)]) dX10_chance_124 kX10_129 rfl (shC (Sm.C sm30 hC) (sgH (by simp [isH]))) (by omega) rfl rfl rfl (Nat.le_of_ble_eq_true rfl) (Nat.le_of_ble_eq_true rfl) (T_X2_thingAt (Sm.C sm30 hC) (by simp [isH]) hv31 (ds_ok (ds_ok ok)) k (by omega)) (kk_p ?_)
        refine j_astore_n (L' := [(2, .ref (1 + 5 + k)), (1, .int (dv S 4)), (0, .ref 0)]) dX10_chance_127 (by decide) rfl ?_
        refine j_aload_n 0 dX10_chance_128 rfl ?_
        refine j_ifnull dX10_chance_129 ?_
        refine j_aload_n 0 dX10_chance_132 rfl ?_
        refine j_aload_n 0 dX10_chance_133 rfl ?_
        refine j_getv ((ds (ds S)) 13 k) dX10_chance_134 fX10_161 (shC (Sm.C sm30 hC) (sgHT (by simp [isH]) (by have := (Sok.T (ds_ok (ds_ok ok))).2; omega))) rfl (hvT hv31 (by omega) (by decide)) ?_
        refine j_if_ne (tgt := 144) dX10_chance_137 rfl (fun c32 => ?_) (fun c32 => ?_)
        · refine j_iconst 0 dX10_chance_144 ic_0 ?_
          refine j_putz dX10_chance_145 fX10_161 (shC (Sm.C sm30 hC) (sgHT (by simp [isH]) (by have := (Sok.T (ds_ok (ds_ok ok))).2; omega))) rfl (by decide) ?_
          have sm33 : Sm (HO 1) M (jk_wI M27 (1 + 5 + k) 3 0) := Sm.w sm30 (HOT (by omega))
          have ch34 : hv (jk_wI M27 (1 + 5 + k) 3 0).2.1 1 = chS S := (hv_th (k := 3) hv31 (ds_ok (ds_ok ok)) (by omega) (by decide)).trans ((ch_1 c7 (by omega) (by omega) ek).trans (congrArg (upS (ds (ds S)) 13 k) (if_neg c32))).symm
          refine j_iload_n 1 dX10_chance_148 rfl ?_
          refine j_iconst 2 dX10_chance_149 ic_2 ?_
          refine j_icmp_ne (tgt := 197) dX10_chance_150 rfl (fun c35 => ?_) (fun c35 => ?_)
          · refine j_vret dX10_chance_197 rfl ?_
            exact hQ _ _ ⟨rfl, sm33, ch34⟩
          · exact absurd (c7.symm.trans c35) (by decide)
        · refine j_iconst 1 dX10_chance_140 ic_1 ?_
          refine j_goto (tgt := 145) dX10_chance_141 rfl ?_
          refine j_putz dX10_chance_145 fX10_161 (shC (Sm.C sm30 hC) (sgHT (by simp [isH]) (by have := (Sok.T (ds_ok (ds_ok ok))).2; omega))) rfl (by decide) ?_
          have sm36 : Sm (HO 1) M (jk_wI M27 (1 + 5 + k) 3 1) := Sm.w sm30 (HOT (by omega))
          have ch37 : hv (jk_wI M27 (1 + 5 + k) 3 1).2.1 1 = chS S := (hv_th (k := 3) hv31 (ds_ok (ds_ok ok)) (by omega) (by decide)).trans ((ch_1 c7 (by omega) (by omega) ek).trans (congrArg (upS (ds (ds S)) 13 k) (if_pos c32))).symm
          refine j_iload_n 1 dX10_chance_148 rfl ?_
          refine j_iconst 2 dX10_chance_149 ic_2 ?_
          refine j_icmp_ne (tgt := 197) dX10_chance_150 rfl (fun c38 => ?_) (fun c38 => ?_)
          · refine j_vret dX10_chance_197 rfl ?_
            exact hQ _ _ ⟨rfl, sm36, ch37⟩
          · exact absurd (c7.symm.trans c38) (by decide)
  · refine j_aload_n 1 dX10_chance_13 rfl ?_
    refine j_getr (q := 1) dX10_chance_14 fX10_10 (shC (Sm.C sm4 hC) sgC_0) rfl (rfC (Sm.C sm4 hC) rfC_0_0 (nz (by decide))) ?_
    refine j_getv (nI (nD (ds S))) dX10_chance_17 fX10_194 (shC (Sm.C sm4 hC) (sgH (by simp [isH]))) rfl ((hvs hv5 (by decide)).trans (Sok.D (ds_ok ok)).1) ?_
    refine j_if_leN (tgt := 91) (nD (ds S)) dX10_chance_20 (by omega) rfl (fun c39 => ?_) (fun c39 => ?_)
    · refine j_iload_n 0 dX10_chance_91 rfl ?_
      refine j_iconst 1 dX10_chance_92 ic_1 ?_
      refine j_icmp_ne (tgt := 148) dX10_chance_93 rfl (fun c40 => ?_) (fun c40 => ?_)
      · refine j_iload_n 0 dX10_chance_148 rfl ?_
        refine j_iconst 2 dX10_chance_149 ic_2 ?_
        refine j_icmp_ne (tgt := 197) dX10_chance_150 rfl (fun c41 => ?_) (fun c41 => ?_)
        · refine j_vret dX10_chance_197 rfl ?_
          exact hQ _ _ ⟨rfl, sm4, (show _ = chS S from hv5.trans (ch_3 (fun z => by have := z.2; omega) (fun z => c40 z.1) (fun z => c41 z.1)).symm)⟩
        · exact absurd (c6.symm.trans c41) (by decide)
      · exact absurd (c6.symm.trans c40) (by decide)
    · refine j_aload_n 1 dX10_chance_23 rfl ?_
      refine j_getr (q := 1) dX10_chance_24 fX10_10 (shC (Sm.C sm4 hC) sgC_0) rfl (rfC (Sm.C sm4 hC) rfC_0_0 (nz (by decide))) ?_
      refine j_aload_n 1 dX10_chance_27 rfl ?_
      refine j_getr (q := 1) dX10_chance_28 fX10_10 (shC (Sm.C sm4 hC) sgC_0) rfl (rfC (Sm.C sm4 hC) rfC_0_0 (nz (by decide))) ?_
      refine j_aload_n 1 dX10_chance_31 rfl ?_
      refine j_getr (q := 1) dX10_chance_32 fX10_10 (shC (Sm.C sm4 hC) sgC_0) rfl (rfC (Sm.C sm4 hC) rfC_0_0 (nz (by decide))) ?_
      refine j_getv (nI (nD (ds S))) dX10_chance_35 fX10_194 (shC (Sm.C sm4 hC) (sgH (by simp [isH]))) rfl ((hvs hv5 (by decide)).trans (Sok.D (ds_ok ok)).1) ?_
      refine j_callV (kc := 0) (ks := 0) (a := 0) (b := 0) (d' := d) (As := [.int (nI (nD (ds S)))]) dX10_chance_38 kX10_382 rfl (shC (Sm.C sm4 hC) (sgH (by simp [isH]))) (by omega) rfl rfl rfl (Nat.le_of_ble_eq_true rfl) (Nat.le_of_ble_eq_true rfl) (T_X2_draw (Sm.C sm4 hC) (by simp [isH]) hv5 (ds_ok ok) (nI (nD (ds S)))) (kk_e (fun M42 hM43 => ?_))
      obtain ⟨h044, hv46x⟩ := hM43
      have hv46 : hv M42.2.1 1 = ds (ds S) := hv46x
      have sm45 : Sm (HO 1) M M42 := Sm.tr sm4 h044
      have hv46n : nD (ds (ds S)) = nD (ds S) ∧ nT (ds (ds S)) = nT (ds S) ∧ nN (ds (ds S)) = nN (ds S) := ds_n
      obtain ⟨k, hk, ek⟩ := drawN_in (s := drawS (ds S)) c39 (by omega)
      refine j_topi (nI k) ek ?_
      refine j_callV (kc := 0) (ks := 0) (a := 0) (b := 0) (d' := d) (As := [.int (nI k)]) dX10_chance_41 kX10_218 rfl (shC (Sm.C sm45 hC) (sgH (by simp [isH]))) (by omega) rfl rfl rfl (Nat.le_of_ble_eq_true rfl) (Nat.le_of_ble_eq_true rfl) (T_X2_deviceAt (Sm.C sm45 hC) (by simp [isH]) hv46 (ds_ok (ds_ok ok)) k (by omega)) (kk_p ?_)
      refine j_astore_n (L' := [(2, .ref (1 + 21 + k)), (1, .int (dv S 4)), (0, .ref 0)]) dX10_chance_44 (by decide) rfl ?_
      refine j_aload_n 2 dX10_chance_45 rfl ?_
      refine j_getr (q := 1) dX10_chance_46 fX10_10 (shC (Sm.C sm45 hC) sgC_0) rfl (rfC (Sm.C sm45 hC) rfC_0_0 (nz (by decide))) ?_
      refine j_aload_n 2 dX10_chance_49 rfl ?_
      refine j_getr (q := 1) dX10_chance_50 fX10_10 (shC (Sm.C sm45 hC) sgC_0) rfl (rfC (Sm.C sm45 hC) rfC_0_0 (nz (by decide))) ?_
      refine j_getv ((ds (ds S)) 0 0) dX10_chance_53 fX10_175 (shC (Sm.C sm45 hC) (sgH (by simp [isH]))) rfl (hvs hv46 (by decide)) ?_
      refine j_callV (kc := 0) (ks := 0) (a := 0) (b := 0) (d' := d) (As := [.int ((ds (ds S)) 0 0)]) dX10_chance_56 kX10_382 rfl (shC (Sm.C sm45 hC) (sgH (by simp [isH]))) (by omega) rfl rfl rfl (Nat.le_of_ble_eq_true rfl) (Nat.le_of_ble_eq_true rfl) (T_X2_draw (Sm.C sm45 hC) (by simp [isH]) hv46 (ds_ok (ds_ok ok)) ((ds (ds S)) 0 0)) (kk_e (fun M47 hM48 => ?_))
      obtain ⟨h049, hv51x⟩ := hM48
      have hv51 : hv M47.2.1 1 = ds (ds (ds S)) := hv51x
      have sm50 : Sm (HO 1) M M47 := Sm.tr sm45 h049
      have hv51n : nD (ds (ds (ds S))) = nD (ds (ds S)) ∧ nT (ds (ds (ds S))) = nT (ds (ds S)) ∧ nN (ds (ds (ds S))) = nN (ds (ds S)) := ds_n
      refine j_istore_n (L' := [(3, .int (dv (ds (ds S)) ((ds (ds S)) 0 0))), (2, .ref (1 + 21 + k)), (1, .int (dv S 4)), (0, .ref 0)]) dX10_chance_59 (by decide) rfl ?_
      refine j_aload_n 3 dX10_chance_60 rfl ?_
      refine j_getr (q := 1) dX10_chance_61 fX10_10 (shC (Sm.C sm50 hC) sgC_0) rfl (rfC (Sm.C sm50 hC) rfC_0_0 (nz (by decide))) ?_
      refine j_aload_n 3 dX10_chance_64 rfl ?_
      refine j_getr (q := 1) dX10_chance_65 fX10_10 (shC (Sm.C sm50 hC) sgC_0) rfl (rfC (Sm.C sm50 hC) rfC_0_0 (nz (by decide))) ?_
      refine j_getv ((ds (ds (ds S))) 0 0) dX10_chance_68 fX10_175 (shC (Sm.C sm50 hC) (sgH (by simp [isH]))) rfl (hvs hv51 (by decide)) ?_
      refine j_callV (kc := 0) (ks := 0) (a := 0) (b := 0) (d' := d) (As := [.int ((ds (ds (ds S))) 0 0)]) dX10_chance_71 kX10_382 rfl (shC (Sm.C sm50 hC) (sgH (by simp [isH]))) (by omega) rfl rfl rfl (Nat.le_of_ble_eq_true rfl) (Nat.le_of_ble_eq_true rfl) (T_X2_draw (Sm.C sm50 hC) (by simp [isH]) hv51 (ds_ok (ds_ok (ds_ok ok))) ((ds (ds (ds S))) 0 0)) (kk_e (fun M52 hM53 => ?_))
      obtain ⟨h054, hv56x⟩ := hM53
      have hv56 : hv M52.2.1 1 = ds (ds (ds (ds S))) := hv56x
      have sm55 : Sm (HO 1) M M52 := Sm.tr sm50 h054
      have hv56n : nD (ds (ds (ds (ds S)))) = nD (ds (ds (ds S))) ∧ nT (ds (ds (ds (ds S)))) = nT (ds (ds (ds S))) ∧ nN (ds (ds (ds (ds S)))) = nN (ds (ds (ds S))) := ds_n
      refine j_istore (L' := [(4, .int (dv (ds (ds (ds S))) ((ds (ds (ds S))) 0 0))), (3, .int (dv (ds (ds S)) ((ds (ds S)) 0 0))), (2, .ref (1 + 21 + k)), (1, .int (dv S 4)), (0, .ref 0)]) dX10_chance_74 (by decide) rfl ?_
      refine j_aload_n 2 dX10_chance_76 rfl ?_
      refine j_ifnull dX10_chance_77 ?_
      refine j_aload_n 2 dX10_chance_80 rfl ?_
      refine j_bipush 10 dX10_chance_81 bp_10 ?_
      refine j_iload_n 1 dX10_chance_83 rfl ?_
      refine j_imul dX10_chance_84 ?_
      refine j_iload 0 dX10_chance_85 rfl ?_
      refine j_iadd dX10_chance_87 ?_
      refine j_put dX10_chance_88 fX10_225 (shC (Sm.C sm55 hC) (sgHD (by simp [isH]) (by have := (Sok.D (ds_ok (ds_ok ok))).2; omega))) rfl ?_
      have sm57 : Sm (HO 1) M (jk_wI M52 (1 + 21 + k) 0 ((10 * (dv (ds (ds S)) ((ds (ds S)) 0 0))) + (dv (ds (ds (ds S))) ((ds (ds (ds S))) 0 0)))) := Sm.w sm55 (HOD (by omega))
      have ch58 : hv (jk_wI M52 (1 + 21 + k) 0 ((10 * (dv (ds (ds S)) ((ds (ds S)) 0 0))) + (dv (ds (ds (ds S))) ((ds (ds (ds S))) 0 0)))).2.1 1 = chS S := (hv_de (k := 0) hv56 (ds_ok (ds_ok (ds_ok (ds_ok ok)))) (by omega) (by decide)).trans (ch_0 c6 (by omega) (by omega) ek).symm
      refine j_iload_n 3 dX10_chance_91 rfl ?_
      refine j_iconst 1 dX10_chance_92 ic_1 ?_
      refine j_icmp_ne (tgt := 148) dX10_chance_93 rfl (fun c59 => ?_) (fun c59 => ?_)
      · refine j_iload_n 3 dX10_chance_148 rfl ?_
        refine j_iconst 2 dX10_chance_149 ic_2 ?_
        refine j_icmp_ne (tgt := 197) dX10_chance_150 rfl (fun c60 => ?_) (fun c60 => ?_)
        · refine j_vret dX10_chance_197 rfl ?_
          exact hQ _ _ ⟨rfl, sm57, ch58⟩
        · exact absurd (c6.symm.trans c60) (by decide)
      · exact absurd (c6.symm.trans c59) (by decide)
