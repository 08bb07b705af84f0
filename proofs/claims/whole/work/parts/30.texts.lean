/-! texts -/
theorem chr_ok : ∀ w, w < 10 → ∀ i, i < 9 → ((((jk_sB.getD w []).getD i 0) &&& 255).toUInt32 % 65536).toInt32 = (jk_sB.getD w []).getD i 0 := by decide +kernel
theorem chr_nar : ∀ w, w < 10 → ∀ i, i < 9 → narrow .char (.int ((jk_sB.getD w []).getD i 0)) = .int ((jk_sB.getD w []).getD i 0) := by
  have h : ∀ w, w < 10 → ∀ i, i < 9 → (((jk_sB.getD w []).getD i 0).toUInt32 % 65536).toInt32 = (jk_sB.getD w []).getD i 0 := by decide +kernel
  intro w hw i hi
  exact congrArg Value.int (h w hw i hi)
theorem sL9 : ∀ w, w < 10 → jk_sL.getD w 0 ≤ 9 := by decide +kernel
def chW (w i : Nat) : Int32 := (jk_sB.getD w []).getD i 0
set_option maxRecDepth 20000 in
set_option maxHeartbeats 4000000 in
theorem T_J0_coder_7d493 {d : Nat} {M : jk_M} (w : Nat) (hw : w < 10) : J Fr_J0_coder_7d493 d 0 0 0 [(0, .ref (2000 + w))] [] M (jk_is (some (.int 0)) M) := by
  refine j_post (fun Q hQ => ?_)
  refine j_compact dJ0_coder_7d493_0 sJ0_38 ?_
  refine j_if_eq (tgt := 13) dJ0_coder_7d493_3 rfl (fun c1 => ?_) (fun c1 => ?_)
  · exact absurd c1 (by decide)
  · refine j_aload_n 0 dJ0_coder_7d493_6 rfl ?_
    refine j_scoder (i := w) dJ0_coder_7d493_7 hw sJ0_15 ?_
    refine j_goto (tgt := 14) dJ0_coder_7d493_10 rfl ?_
    refine j_zret dJ0_coder_7d493_14 rfl rfl ?_
    exact hQ _ _ ⟨rfl, rfl⟩
set_option maxRecDepth 20000 in
set_option maxHeartbeats 4000000 in
theorem T_J0_isLatin1_aae02 {d : Nat} {M : jk_M} (w : Nat) (hw : w < 10) : J Fr_J0_isLatin1_aae02 d 0 0 0 [(0, .ref (2000 + w))] [] M (jk_is (some (.int 1)) M) := by
  refine j_post (fun Q hQ => ?_)
  refine j_compact dJ0_isLatin1_aae02_0 sJ0_38 ?_
  refine j_if_eq (tgt := 17) dJ0_isLatin1_aae02_3 rfl (fun c1 => ?_) (fun c1 => ?_)
  · exact absurd c1 (by decide)
  · refine j_aload_n 0 dJ0_isLatin1_aae02_6 rfl ?_
    refine j_scoder (i := w) dJ0_isLatin1_aae02_7 hw sJ0_15 ?_
    refine j_if_ne (tgt := 17) dJ0_isLatin1_aae02_10 rfl (fun c2 => ?_) (fun c2 => ?_)
    · exact absurd c2 (by decide)
    · refine j_iconst 1 dJ0_isLatin1_aae02_13 ic_1 ?_
      refine j_goto (tgt := 18) dJ0_isLatin1_aae02_14 rfl ?_
      refine j_zret dJ0_isLatin1_aae02_18 rfl rfl ?_
      exact hQ _ _ ⟨rfl, rfl⟩
set_option maxRecDepth 20000 in
set_option maxHeartbeats 4000000 in
theorem T_J0_length_8abf5 {d : Nat} {M : jk_M} (w : Nat) (hw : w < 10) : J Fr_J0_length_8abf5 (d + 1) 0 0 0 [(0, .ref (2000 + w))] [] M (jk_is (some (.int (nI (jk_sL.getD w 0)))) M) := by
  refine j_post (fun Q hQ => ?_)
  refine j_aload_n 0 dJ0_length_8abf5_0 rfl ?_
  refine j_svalue (i := w) dJ0_length_8abf5_1 hw sJ0_9 ?_
  refine j_slen (i := w) dJ0_length_8abf5_4 hw ?_
  refine j_aload_n 0 dJ0_length_8abf5_5 rfl ?_
  refine j_callVs (kc := 0) (ks := 0) (a := 0) (b := 0) (d' := d) (As := []) dJ0_length_8abf5_6 kJ0_335 rfl hw (by omega) rfl rfl rfl (Nat.le_of_ble_eq_true rfl) (Nat.le_of_ble_eq_true rfl) (T_J0_coder_7d493 w hw) (kk_p ?_)
  refine j_ishr dJ0_length_8abf5_9 ?_
  refine j_iret dJ0_length_8abf5_10 rfl ?_
  exact hQ _ _ ⟨by simp, rfl⟩
set_option maxRecDepth 20000 in
set_option maxHeartbeats 4000000 in
theorem T_J3_checkIndexN {d : Nat} {M : jk_M} (i n : Nat) (hi : i < n) (hn : n < 2 ^ 31) : J Fr_J3_checkIndex_8e157 d 0 0 0 [(0, .int (nI i)), (1, .int (nI n)), (2, .null)] [] M (jk_is (some (.int (nI i))) M) := by
  refine j_post (fun Q hQ => ?_)
  refine j_iload_n 0 dJ3_checkIndex_8e157_0 rfl ?_
  refine j_if_ltN (tgt := 9) i dJ3_checkIndex_8e157_1 (by omega) rfl ?_
  refine j_iload_n 0 dJ3_checkIndex_8e157_4 rfl ?_
  refine j_iload_n 1 dJ3_checkIndex_8e157_5 rfl ?_
  refine j_icmp_ltN (tgt := 16) i n dJ3_checkIndex_8e157_6 rfl (by omega) (by omega) (fun c2 => ?_) (fun c2 => ?_)
  · refine j_iload_n 0 dJ3_checkIndex_8e157_16 rfl ?_
    refine j_iret dJ3_checkIndex_8e157_17 rfl ?_
    exact hQ _ _ ⟨rfl, rfl⟩
  · exact absurd hi (by omega)
set_option maxRecDepth 20000 in
set_option maxHeartbeats 4000000 in
theorem T_J3_checkIndexF {d : Nat} {M : jk_M} (i n : Nat) (hi : i < n) (hn : n < 2 ^ 31) : J Fr_J3_checkIndex_8e157 d 0 0 0 [(0, .int (nI i)), (1, .int (nI n)), (2, .ref 4000)] [] M (jk_is (some (.int (nI i))) M) := by
  refine j_post (fun Q hQ => ?_)
  refine j_iload_n 0 dJ3_checkIndex_8e157_0 rfl ?_
  refine j_if_ltN (tgt := 9) i dJ3_checkIndex_8e157_1 (by omega) rfl ?_
  refine j_iload_n 0 dJ3_checkIndex_8e157_4 rfl ?_
  refine j_iload_n 1 dJ3_checkIndex_8e157_5 rfl ?_
  refine j_icmp_ltN (tgt := 16) i n dJ3_checkIndex_8e157_6 rfl (by omega) (by omega) (fun c2 => ?_) (fun c2 => ?_)
  · refine j_iload_n 0 dJ3_checkIndex_8e157_16 rfl ?_
    refine j_iret dJ3_checkIndex_8e157_17 rfl ?_
    exact hQ _ _ ⟨rfl, rfl⟩
  · exact absurd hi (by omega)
set_option maxRecDepth 20000 in
set_option maxHeartbeats 4000000 in
theorem T_J0_checkIndex_df160 {d : Nat} {M : jk_M} (i n : Nat) (hi : i < n) (hn : n < 2 ^ 31) : J Fr_J0_checkIndex_df160 (d + 1) 0 0 0 [(0, .int (nI i)), (1, .int (nI n))] [] M (jk_is none M) := by
  refine j_post (fun Q hQ => ?_)
  refine j_iload_n 0 dJ0_checkIndex_df160_0 rfl ?_
  refine j_iload_n 1 dJ0_checkIndex_df160_1 rfl ?_
  refine j_format dJ0_checkIndex_df160_2 sJ0_1053 ?_ ?_
  · refine j_callS (kc := 0) (ks := 0) (a := 0) (b := 0) (d' := d) (As := [.int (nI i), .int (nI n), .null]) dJ0_checkIndex_df160_5 kJ0_1059 rfl (by omega) rfl rfl rfl (Nat.le_of_ble_eq_true rfl) (Nat.le_of_ble_eq_true rfl) (T_J3_checkIndexN i n hi hn) (kk_p ?_)
    refine j_pop dJ0_checkIndex_df160_8 rfl ?_
    refine j_vret dJ0_checkIndex_df160_9 rfl ?_
    exact hQ _ _ ⟨rfl, rfl⟩
  · refine j_callS (kc := 0) (ks := 0) (a := 0) (b := 0) (d' := d) (As := [.int (nI i), .int (nI n), .ref 4000]) dJ0_checkIndex_df160_5 kJ0_1059 rfl (by omega) rfl rfl rfl (Nat.le_of_ble_eq_true rfl) (Nat.le_of_ble_eq_true rfl) (T_J3_checkIndexF i n hi hn) (kk_p ?_)
    refine j_pop dJ0_checkIndex_df160_8 rfl ?_
    refine j_vret dJ0_checkIndex_df160_9 rfl ?_
    exact hQ _ _ ⟨rfl, rfl⟩
set_option maxRecDepth 20000 in
set_option maxHeartbeats 4000000 in
theorem T_J1_charAt_3b067 {d : Nat} {M : jk_M} (w : Nat) (hw : w < 10) (i : Nat) (hi : i < jk_sL.getD w 0) : J Fr_J1_charAt_3b067 (d + 2) 0 0 0 [(0, .ref (3000 + w)), (1, .int (nI i))] [] M (jk_is (some (.int (chW w i))) M) := by
  refine j_post (fun Q hQ => ?_)
  have h9 := sL9 w hw
  refine j_iload_n 1 dJ1_charAt_3b067_0 rfl ?_
  refine j_aload_n 0 dJ1_charAt_3b067_1 rfl ?_
  refine j_slen (i := w) dJ1_charAt_3b067_2 hw ?_
  refine j_callS (kc := 0) (ks := 0) (a := 0) (b := 0) (d' := (d + 1)) (As := [.int (nI i), .int (nI (jk_sL.getD w 0))]) dJ1_charAt_3b067_3 kJ1_9 rfl (by omega) rfl rfl rfl (Nat.le_of_ble_eq_true rfl) (Nat.le_of_ble_eq_true rfl) (T_J0_checkIndex_df160 i (jk_sL.getD w 0) hi (by have := sL9 w hw; omega)) (kk_pv ?_)
  refine j_aload_n 0 dJ1_charAt_3b067_6 rfl ?_
  refine j_iload_n 1 dJ1_charAt_3b067_7 rfl ?_
  refine j_sbald (i := w) dJ1_charAt_3b067_8 hw (vp_in_nI hi (by omega)) ?_
  refine j_sipush 255 dJ1_charAt_3b067_9 sp_255 ?_
  refine j_iand dJ1_charAt_3b067_12 ?_
  refine j_i2c (chW w i) dJ1_charAt_3b067_13 (by rw [nI_clamp (by omega)]; exact chr_ok w hw i (by omega)) ?_
  refine j_zret dJ1_charAt_3b067_14 rfl (chr_nar w hw i (by omega)) ?_
  exact hQ _ _ ⟨rfl, rfl⟩
set_option maxRecDepth 20000 in
set_option maxHeartbeats 4000000 in
theorem T_J0_charAt_5068e {d : Nat} {M : jk_M} (w : Nat) (hw : w < 10) (i : Nat) (hi : i < jk_sL.getD w 0) : J Fr_J0_charAt_5068e (d + 4) 0 0 0 [(0, .ref (2000 + w)), (1, .int (nI i))] [] M (jk_is (some (.int (chW w i))) M) := by
  refine j_post (fun Q hQ => ?_)
  have h9 := sL9 w hw
  refine j_aload_n 0 dJ0_charAt_5068e_0 rfl ?_
  refine j_callVs (kc := 0) (ks := 0) (a := 0) (b := 0) (d' := d) (As := []) dJ0_charAt_5068e_1 kJ0_492 rfl hw (by omega) rfl rfl rfl (Nat.le_of_ble_eq_true rfl) (Nat.le_of_ble_eq_true rfl) (T_J0_isLatin1_aae02 w hw) (kk_p ?_)
  refine j_if_eq (tgt := 16) dJ0_charAt_5068e_4 rfl (fun c1 => ?_) (fun c1 => ?_)
  · exact absurd c1 (by decide)
  · refine j_aload_n 0 dJ0_charAt_5068e_7 rfl ?_
    refine j_svalue (i := w) dJ0_charAt_5068e_8 hw sJ0_9 ?_
    refine j_iload_n 1 dJ0_charAt_5068e_11 rfl ?_
    refine j_callS (kc := 0) (ks := 0) (a := 0) (b := 0) (d' := (d + 2)) (As := [.ref (3000 + w), .int (nI i)]) dJ0_charAt_5068e_12 kJ0_495 rfl (by omega) rfl rfl rfl (Nat.le_of_ble_eq_true rfl) (Nat.le_of_ble_eq_true rfl) (T_J1_charAt_3b067 w hw i hi) (kk_p ?_)
    refine j_zret dJ0_charAt_5068e_15 rfl (chr_nar w hw i (by omega)) ?_
    exact hQ _ _ ⟨rfl, rfl⟩
set_option maxRecDepth 20000 in
set_option maxHeartbeats 4000000 in
theorem T_X5_lettersOf0 {d : Nat} {M : jk_M} : J Fr_X5_lettersOf d 0 0 0 [(0, .int 0)] [] M (jk_is (some (.ref (2000 + 0))) M) := by
  refine j_post (fun Q hQ => ?_)
  refine j_iload_n 0 dX5_lettersOf_0 rfl ?_
  refine j_tableIn (tgt := 52) dX5_lettersOf_1 (by decide) (by decide) (off := 51) (by decide) rfl ?_
  refine j_ldcS (i := 0) dX5_lettersOf_52 (by decide) rfl ?_
  refine j_aret dX5_lettersOf_54 rfl ?_
  exact hQ _ _ ⟨rfl, rfl⟩
set_option maxRecDepth 20000 in
set_option maxHeartbeats 4000000 in
theorem T_X5_lettersOf1 {d : Nat} {M : jk_M} : J Fr_X5_lettersOf d 0 0 0 [(0, .int 1)] [] M (jk_is (some (.ref (2000 + 1))) M) := by
  refine j_post (fun Q hQ => ?_)
  refine j_iload_n 0 dX5_lettersOf_0 rfl ?_
  refine j_tableIn (tgt := 55) dX5_lettersOf_1 (by decide) (by decide) (off := 54) (by decide) rfl ?_
  refine j_ldcS (i := 1) dX5_lettersOf_55 (by decide) rfl ?_
  refine j_aret dX5_lettersOf_57 rfl ?_
  exact hQ _ _ ⟨rfl, rfl⟩
set_option maxRecDepth 20000 in
set_option maxHeartbeats 4000000 in
theorem T_X5_lettersOf2 {d : Nat} {M : jk_M} : J Fr_X5_lettersOf d 0 0 0 [(0, .int 2)] [] M (jk_is (some (.ref (2000 + 2))) M) := by
  refine j_post (fun Q hQ => ?_)
  refine j_iload_n 0 dX5_lettersOf_0 rfl ?_
  refine j_tableIn (tgt := 58) dX5_lettersOf_1 (by decide) (by decide) (off := 57) (by decide) rfl ?_
  refine j_ldcS (i := 2) dX5_lettersOf_58 (by decide) rfl ?_
  refine j_aret dX5_lettersOf_60 rfl ?_
  exact hQ _ _ ⟨rfl, rfl⟩
set_option maxRecDepth 20000 in
set_option maxHeartbeats 4000000 in
theorem T_X5_lettersOf3 {d : Nat} {M : jk_M} : J Fr_X5_lettersOf d 0 0 0 [(0, .int 3)] [] M (jk_is (some (.ref (2000 + 3))) M) := by
  refine j_post (fun Q hQ => ?_)
  refine j_iload_n 0 dX5_lettersOf_0 rfl ?_
  refine j_tableIn (tgt := 61) dX5_lettersOf_1 (by decide) (by decide) (off := 60) (by decide) rfl ?_
  refine j_ldcS (i := 3) dX5_lettersOf_61 (by decide) rfl ?_
  refine j_aret dX5_lettersOf_63 rfl ?_
  exact hQ _ _ ⟨rfl, rfl⟩
set_option maxRecDepth 20000 in
set_option maxHeartbeats 4000000 in
theorem T_X5_lettersOf4 {d : Nat} {M : jk_M} : J Fr_X5_lettersOf d 0 0 0 [(0, .int 4)] [] M (jk_is (some (.ref (2000 + 4))) M) := by
  refine j_post (fun Q hQ => ?_)
  refine j_iload_n 0 dX5_lettersOf_0 rfl ?_
  refine j_tableIn (tgt := 64) dX5_lettersOf_1 (by decide) (by decide) (off := 63) (by decide) rfl ?_
  refine j_ldcS (i := 4) dX5_lettersOf_64 (by decide) rfl ?_
  refine j_aret dX5_lettersOf_66 rfl ?_
  exact hQ _ _ ⟨rfl, rfl⟩
set_option maxRecDepth 20000 in
set_option maxHeartbeats 4000000 in
theorem T_X5_lettersOf5 {d : Nat} {M : jk_M} : J Fr_X5_lettersOf d 0 0 0 [(0, .int 5)] [] M (jk_is (some (.ref (2000 + 5))) M) := by
  refine j_post (fun Q hQ => ?_)
  refine j_iload_n 0 dX5_lettersOf_0 rfl ?_
  refine j_tableIn (tgt := 67) dX5_lettersOf_1 (by decide) (by decide) (off := 66) (by decide) rfl ?_
  refine j_ldcS (i := 5) dX5_lettersOf_67 (by decide) rfl ?_
  refine j_aret dX5_lettersOf_69 rfl ?_
  exact hQ _ _ ⟨rfl, rfl⟩
set_option maxRecDepth 20000 in
set_option maxHeartbeats 4000000 in
theorem T_X5_lettersOf6 {d : Nat} {M : jk_M} : J Fr_X5_lettersOf d 0 0 0 [(0, .int 6)] [] M (jk_is (some (.ref (2000 + 6))) M) := by
  refine j_post (fun Q hQ => ?_)
  refine j_iload_n 0 dX5_lettersOf_0 rfl ?_
  refine j_tableIn (tgt := 70) dX5_lettersOf_1 (by decide) (by decide) (off := 69) (by decide) rfl ?_
  refine j_ldcS (i := 6) dX5_lettersOf_70 (by decide) rfl ?_
  refine j_aret dX5_lettersOf_72 rfl ?_
  exact hQ _ _ ⟨rfl, rfl⟩
set_option maxRecDepth 20000 in
set_option maxHeartbeats 4000000 in
theorem T_X5_lettersOf7 {d : Nat} {M : jk_M} : J Fr_X5_lettersOf d 0 0 0 [(0, .int 7)] [] M (jk_is (some (.ref (2000 + 7))) M) := by
  refine j_post (fun Q hQ => ?_)
  refine j_iload_n 0 dX5_lettersOf_0 rfl ?_
  refine j_tableIn (tgt := 73) dX5_lettersOf_1 (by decide) (by decide) (off := 72) (by decide) rfl ?_
  refine j_ldcS (i := 7) dX5_lettersOf_73 (by decide) rfl ?_
  refine j_aret dX5_lettersOf_75 rfl ?_
  exact hQ _ _ ⟨rfl, rfl⟩
set_option maxRecDepth 20000 in
set_option maxHeartbeats 4000000 in
theorem T_X5_lettersOf8 {d : Nat} {M : jk_M} : J Fr_X5_lettersOf d 0 0 0 [(0, .int 8)] [] M (jk_is (some (.ref (2000 + 8))) M) := by
  refine j_post (fun Q hQ => ?_)
  refine j_iload_n 0 dX5_lettersOf_0 rfl ?_
  refine j_tableIn (tgt := 76) dX5_lettersOf_1 (by decide) (by decide) (off := 75) (by decide) rfl ?_
  refine j_ldcS (i := 8) dX5_lettersOf_76 (by decide) rfl ?_
  refine j_aret dX5_lettersOf_78 rfl ?_
  exact hQ _ _ ⟨rfl, rfl⟩
set_option maxRecDepth 20000 in
set_option maxHeartbeats 4000000 in
theorem T_X5_lettersOf9 {d : Nat} {M : jk_M} : J Fr_X5_lettersOf d 0 0 0 [(0, .int 9)] [] M (jk_is (some (.ref (2000 + 9))) M) := by
  refine j_post (fun Q hQ => ?_)
  refine j_iload_n 0 dX5_lettersOf_0 rfl ?_
  refine j_tableOut (tgt := 79) dX5_lettersOf_1 (by decide) rfl ?_
  refine j_ldcS (i := 9) dX5_lettersOf_79 (by decide) rfl ?_
  refine j_aret dX5_lettersOf_81 rfl ?_
  exact hQ _ _ ⟨rfl, rfl⟩
theorem T_X5_lettersOf {d : Nat} {M : jk_M} (w : Nat) (hw : w < 10) : J Fr_X5_lettersOf d 0 0 0 [(0, .int (nI w))] [] M (jk_is (some (.ref (2000 + w))) M) := by
  have h : w = 0 ∨ w = 1 ∨ w = 2 ∨ w = 3 ∨ w = 4 ∨ w = 5 ∨ w = 6 ∨ w = 7 ∨ w = 8 ∨ w = 9 := by omega
  rcases h with rfl | rfl | rfl | rfl | rfl | rfl | rfl | rfl | rfl | rfl
  · rw [show (Value.int (nI 0)) = .int 0 from congrArg _ (by decide)]
    exact T_X5_lettersOf0
  · rw [show (Value.int (nI 1)) = .int 1 from congrArg _ (by decide)]
    exact T_X5_lettersOf1
  · rw [show (Value.int (nI 2)) = .int 2 from congrArg _ (by decide)]
    exact T_X5_lettersOf2
  · rw [show (Value.int (nI 3)) = .int 3 from congrArg _ (by decide)]
    exact T_X5_lettersOf3
  · rw [show (Value.int (nI 4)) = .int 4 from congrArg _ (by decide)]
    exact T_X5_lettersOf4
  · rw [show (Value.int (nI 5)) = .int 5 from congrArg _ (by decide)]
    exact T_X5_lettersOf5
  · rw [show (Value.int (nI 6)) = .int 6 from congrArg _ (by decide)]
    exact T_X5_lettersOf6
  · rw [show (Value.int (nI 7)) = .int 7 from congrArg _ (by decide)]
    exact T_X5_lettersOf7
  · rw [show (Value.int (nI 8)) = .int 8 from congrArg _ (by decide)]
    exact T_X5_lettersOf8
  · rw [show (Value.int (nI 9)) = .int 9 from congrArg _ (by decide)]
    exact T_X5_lettersOf9
