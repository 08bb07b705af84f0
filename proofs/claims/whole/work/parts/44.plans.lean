/-! calls that plan -/
theorem PPlSc : ∀ q, PPl q → PSc q := fun q e => by
  rcases e with e | e | e | e
  · have := HO55 e; exact ⟨by omega, by omega⟩
  · have := AO90 e; exact ⟨by omega, by omega⟩
  · exact ⟨by omega, by omega⟩
  · exact ⟨by omega, by omega⟩
noncomputable def putZ (Z : ZS) (k : Int32) : Int32 × ZS := cif (¬ (0 ≤ k ∧ k ≤ 2)) (-5, refZ Z (-5)) (cif (k = 2) (pairS Z.1, Z) (placeS Z.1 k, Z))
noncomputable def movedZ (Z : ZS) : Int32 × ZS := (awayR Z.1, Z)
noncomputable def doorsZ (Z : ZS) : Int32 × ZS := (dorR Z.1, Z)
noncomputable def minuteZ (Z : ZS) : Int32 × ZS := (minR Z.1, Z)
def bstS (S : HS) : Nat → Int32
  | 0 => 1
  | n + 1 => if dinS S (nI (n + 2)) < dinS S (bstS S n) then nI (n + 2) else bstS S n
theorem bst_s {S : HS} {n : Nat} : bstS S (n + 1) = if dinS S (nI (n + 2)) < dinS S (bstS S n) then nI (n + 2) else bstS S n := rfl
def channelZ (Z : ZS) : Int32 × ZS := (bstS Z.1 12, Z)
noncomputable def cntS (S : HS) (n : Int32) : Nat → Int32
  | 0 => 0
  | c + 1 => cif (isC S (nI c) ∧ n ≤ betS S (nI c)) (cntS S n c + 1) (cntS S n c)
theorem cif_t {α : Type} {p : Prop} {a b : α} (h : p) : cif p a b = a := @if_pos p (Classical.propDecidable p) h _ _ _
theorem cif_f {α : Type} {p : Prop} {a b : α} (h : ¬ p) : cif p a b = b := @if_neg p (Classical.propDecidable p) h _ _ _
noncomputable def countZ (Z : ZS) (n : Int32) : Int32 × ZS := cif (¬ mayS Z.1 12 n) (-6, refZ Z (-6)) (cntS Z.1 n 80, Z)
set_option maxRecDepth 20000 in
set_option maxHeartbeats 4000000 in
theorem P_put {d : Nat} {M : jk_M} {Z : ZS} (cv : CV M Z) (ok : Zok Z) (k : Int32) : J Fr_X10_put (d + 7) 0 0 0 [(0, .ref 0), (1, .int k)] [] M (jk_ex (some (.int (putZ Z k).1)) (fun M1 => CV M1 (putZ Z k).2)) := by
  refine j_post (fun Q hQ => ?_)
  have hC := cv.1
  have hS := cv.2.1
  have okS := ok.1
  refine j_iload_n 1 dX10_put_0 rfl ?_
  refine j_if_lt (tgt := 9) dX10_put_1 rfl (fun c1 => ?_) (fun c1 => ?_)
  · refine j_aload_n 0 dX10_put_9 rfl ?_
    refine j_bipush (-5) dX10_put_10 bp_n5 ?_
    refine j_callV (kc := 0) (ks := 0) (a := 0) (b := 0) (d' := d) (As := [.int (-5)]) dX10_put_12 kX10_93 rfl (shC hC sgC_0) (by omega) rfl rfl rfl (Nat.le_of_ble_eq_true rfl) (Nat.le_of_ble_eq_true rfl) (T_X10_refuse hC (-5)) (kk_p ?_)
    refine j_iret dX10_put_15 rfl ?_
    have hz : putZ Z k = ((-5), (refZ Z (-5))) := by
      clear hQ
      grind [putZ, cif]
    exact hQ _ _ ⟨by rw [hz], by rw [hz]; exact CV.rf cv ok (-5)⟩
  · refine j_iload_n 1 dX10_put_4 rfl ?_
    refine j_iconst 2 dX10_put_5 ic_2 ?_
    refine j_icmp_le (tgt := 16) dX10_put_6 rfl (fun c2 => ?_) (fun c2 => ?_)
    · refine j_aload_n 0 dX10_put_16 rfl ?_
      refine j_getr (q := 88) dX10_put_17 fX10_36 (shC hC sgC_0) rfl (rfC hC rfC_0_4 (nz (by decide))) ?_
      refine j_callV (kc := 0) (ks := 0) (a := 0) (b := 0) (d' := (d + 3)) (As := []) dX10_put_20 kX10_276 rfl (shC hC sgC_88) (by omega) rfl rfl rfl (Nat.le_of_ble_eq_true rfl) (Nat.le_of_ble_eq_true rfl) (T_X3_begin hC hS okS) (kk_ev (fun M3 hM4 => ?_))
      obtain ⟨h0B, hv5, ha9, hw8⟩ := hM4
      have smB : Sm PSc M M3 := Sm.mo h0B PPlSc
      refine j_iload_n 1 dX10_put_23 rfl ?_
      refine j_iconst 2 dX10_put_24 ic_2 ?_
      refine j_icmp_ne (tgt := 38) dX10_put_25 rfl (fun c5 => ?_) (fun c5 => ?_)
      · refine j_aload_n 0 dX10_put_38 rfl ?_
        refine j_getr (q := 88) dX10_put_39 fX10_36 (shC (Sm.C smB hC) sgC_0) rfl (rfC (Sm.C smB hC) rfC_0_4 (nz (by decide))) ?_
        refine j_iload_n 1 dX10_put_42 rfl ?_
        refine j_callV (kc := 0) (ks := 0) (a := 0) (b := 0) (d' := (d + 6)) (As := [.int k]) dX10_put_43 kX10_282 rfl (shC (Sm.C smB hC) sgC_88) (by omega) rfl rfl rfl (Nat.le_of_ble_eq_true rfl) (Nat.le_of_ble_eq_true rfl) (T_X3_bestPlace (Sm.C smB hC) hv5 okS ha9 hw8 k) (kk_e (fun M6 hM7 => ?_))
        have smC := Sm.tr smB (Sm.mo (P2 := PSc) hM7 PPlSc)
        refine j_iret dX10_put_46 rfl ?_
        have hz : putZ Z k = ((placeS Z.1 k), Z) := by
          clear hQ
          grind [putZ, cif]
        exact hQ _ _ ⟨by rw [hz], by rw [hz]; exact CV.sc cv ok (Sm.g smC)⟩
      · refine j_aload_n 0 dX10_put_28 rfl ?_
        refine j_getr (q := 88) dX10_put_29 fX10_36 (shC (Sm.C smB hC) sgC_0) rfl (rfC (Sm.C smB hC) rfC_0_4 (nz (by decide))) ?_
        refine j_callV (kc := 0) (ks := 0) (a := 0) (b := 0) (d' := (d + 6)) (As := []) dX10_put_32 kX10_279 rfl (shC (Sm.C smB hC) sgC_88) (by omega) rfl rfl rfl (Nat.le_of_ble_eq_true rfl) (Nat.le_of_ble_eq_true rfl) (T_X3_bestPair (Sm.C smB hC) hv5 okS ha9 hw8 ) (kk_e (fun M8 hM9 => ?_))
        have smC := Sm.tr smB (Sm.mo (P2 := PSc) hM9 PPlSc)
        refine j_goto (tgt := 46) dX10_put_35 rfl ?_
        refine j_iret dX10_put_46 rfl ?_
        have hz : putZ Z k = ((pairS Z.1), Z) := by
          clear hQ
          grind [putZ, cif]
        exact hQ _ _ ⟨by rw [hz], by rw [hz]; exact CV.sc cv ok (Sm.g smC)⟩
    · refine j_aload_n 0 dX10_put_9 rfl ?_
      refine j_bipush (-5) dX10_put_10 bp_n5 ?_
      refine j_callV (kc := 0) (ks := 0) (a := 0) (b := 0) (d' := d) (As := [.int (-5)]) dX10_put_12 kX10_93 rfl (shC hC sgC_0) (by omega) rfl rfl rfl (Nat.le_of_ble_eq_true rfl) (Nat.le_of_ble_eq_true rfl) (T_X10_refuse hC (-5)) (kk_p ?_)
      refine j_iret dX10_put_15 rfl ?_
      have hz : putZ Z k = ((-5), (refZ Z (-5))) := by
        clear hQ
        grind [putZ, cif]
      exact hQ _ _ ⟨by rw [hz], by rw [hz]; exact CV.rf cv ok (-5)⟩
set_option maxRecDepth 20000 in
set_option maxHeartbeats 4000000 in
theorem P_moved {d : Nat} {M : jk_M} {Z : ZS} (cv : CV M Z) (ok : Zok Z)  : J Fr_X10_moved (d + 7) 0 0 0 [(0, .ref 0)] [] M (jk_ex (some (.int (movedZ Z).1)) (fun M1 => CV M1 (movedZ Z).2)) := by
  refine j_post (fun Q hQ => ?_)
  have hC := cv.1
  have hS := cv.2.1
  have okS := ok.1
  refine j_aload_n 0 dX10_moved_0 rfl ?_
  refine j_getr (q := 88) dX10_moved_1 fX10_36 (shC hC sgC_0) rfl (rfC hC rfC_0_4 (nz (by decide))) ?_
  refine j_callV (kc := 0) (ks := 0) (a := 0) (b := 0) (d' := (d + 3)) (As := []) dX10_moved_4 kX10_276 rfl (shC hC sgC_88) (by omega) rfl rfl rfl (Nat.le_of_ble_eq_true rfl) (Nat.le_of_ble_eq_true rfl) (T_X3_begin hC hS okS) (kk_ev (fun M1 hM2 => ?_))
  obtain ⟨h0B, hv5, ha9, hw8⟩ := hM2
  have smB : Sm PSc M M1 := Sm.mo h0B PPlSc
  refine j_aload_n 0 dX10_moved_7 rfl ?_
  refine j_getr (q := 88) dX10_moved_8 fX10_36 (shC (Sm.C smB hC) sgC_0) rfl (rfC (Sm.C smB hC) rfC_0_4 (nz (by decide))) ?_
  refine j_callV (kc := 0) (ks := 0) (a := 0) (b := 0) (d' := (d + 6)) (As := []) dX10_moved_11 kX10_292 rfl (shC (Sm.C smB hC) sgC_88) (by omega) rfl rfl rfl (Nat.le_of_ble_eq_true rfl) (Nat.le_of_ble_eq_true rfl) (T_X3_bestAway (Sm.C smB hC) (Sm.hv smB hS okS PScH) hv5 okS hw8 ) (kk_e (fun M3 hM4 => ?_))
  have smC := Sm.tr smB (Sm.mo (P2 := PSc) hM4 PPlSc)
  refine j_iret dX10_moved_14 rfl ?_
  have hz : movedZ Z = ((awayR Z.1), Z) := by
    clear hQ
    grind [movedZ, cif]
  exact hQ _ _ ⟨by rw [hz], by rw [hz]; exact CV.sc cv ok (Sm.g smC)⟩
set_option maxRecDepth 20000 in
set_option maxHeartbeats 4000000 in
theorem P_doors {d : Nat} {M : jk_M} {Z : ZS} (cv : CV M Z) (ok : Zok Z)  : J Fr_X10_doors (d + 7) 0 0 0 [(0, .ref 0)] [] M (jk_ex (some (.int (doorsZ Z).1)) (fun M1 => CV M1 (doorsZ Z).2)) := by
  refine j_post (fun Q hQ => ?_)
  have hC := cv.1
  have hS := cv.2.1
  have okS := ok.1
  refine j_aload_n 0 dX10_doors_0 rfl ?_
  refine j_getr (q := 88) dX10_doors_1 fX10_36 (shC hC sgC_0) rfl (rfC hC rfC_0_4 (nz (by decide))) ?_
  refine j_callV (kc := 0) (ks := 0) (a := 0) (b := 0) (d' := (d + 3)) (As := []) dX10_doors_4 kX10_276 rfl (shC hC sgC_88) (by omega) rfl rfl rfl (Nat.le_of_ble_eq_true rfl) (Nat.le_of_ble_eq_true rfl) (T_X3_begin hC hS okS) (kk_ev (fun M1 hM2 => ?_))
  obtain ⟨h0B, hv5, ha9, hw8⟩ := hM2
  have smB : Sm PSc M M1 := Sm.mo h0B PPlSc
  refine j_aload_n 0 dX10_doors_7 rfl ?_
  refine j_getr (q := 88) dX10_doors_8 fX10_36 (shC (Sm.C smB hC) sgC_0) rfl (rfC (Sm.C smB hC) rfC_0_4 (nz (by decide))) ?_
  refine j_callV (kc := 0) (ks := 0) (a := 0) (b := 0) (d' := (d + 6)) (As := []) dX10_doors_11 kX10_295 rfl (shC (Sm.C smB hC) sgC_88) (by omega) rfl rfl rfl (Nat.le_of_ble_eq_true rfl) (Nat.le_of_ble_eq_true rfl) (T_X3_bestDoors (Sm.C smB hC) hv5 okS ha9 hw8 ) (kk_e (fun M3 hM4 => ?_))
  have smC := Sm.tr smB (Sm.mo (P2 := PSc) hM4 PPlSc)
  refine j_iret dX10_doors_14 rfl ?_
  have hz : doorsZ Z = ((dorR Z.1), Z) := by
    clear hQ
    grind [doorsZ, cif]
  exact hQ _ _ ⟨by rw [hz], by rw [hz]; exact CV.sc cv ok (Sm.g smC)⟩
set_option maxRecDepth 20000 in
set_option maxHeartbeats 4000000 in
theorem P_minute {d : Nat} {M : jk_M} {Z : ZS} (cv : CV M Z) (ok : Zok Z)  : J Fr_X10_minute (d + 7) 0 0 0 [(0, .ref 0)] [] M (jk_ex (some (.int (minuteZ Z).1)) (fun M1 => CV M1 (minuteZ Z).2)) := by
  refine j_post (fun Q hQ => ?_)
  have hC := cv.1
  have hS := cv.2.1
  have okS := ok.1
  refine j_aload_n 0 dX10_minute_0 rfl ?_
  refine j_getr (q := 88) dX10_minute_1 fX10_36 (shC hC sgC_0) rfl (rfC hC rfC_0_4 (nz (by decide))) ?_
  refine j_callV (kc := 0) (ks := 0) (a := 0) (b := 0) (d' := (d + 3)) (As := []) dX10_minute_4 kX10_276 rfl (shC hC sgC_88) (by omega) rfl rfl rfl (Nat.le_of_ble_eq_true rfl) (Nat.le_of_ble_eq_true rfl) (T_X3_begin hC hS okS) (kk_ev (fun M1 hM2 => ?_))
  obtain ⟨h0B, hv5, ha9, hw8⟩ := hM2
  have smB : Sm PSc M M1 := Sm.mo h0B PPlSc
  refine j_aload_n 0 dX10_minute_7 rfl ?_
  refine j_getr (q := 88) dX10_minute_8 fX10_36 (shC (Sm.C smB hC) sgC_0) rfl (rfC (Sm.C smB hC) rfC_0_4 (nz (by decide))) ?_
  refine j_callV (kc := 0) (ks := 0) (a := 0) (b := 0) (d' := (d + 6)) (As := []) dX10_minute_11 kX10_321 rfl (shC (Sm.C smB hC) sgC_88) (by omega) rfl rfl rfl (Nat.le_of_ble_eq_true rfl) (Nat.le_of_ble_eq_true rfl) (T_X3_bestMinute (Sm.C smB hC) hv5 okS ha9 hw8 ) (kk_e (fun M3 hM4 => ?_))
  have smC := Sm.tr smB (Sm.mo (P2 := PSc) hM4 PPlSc)
  refine j_iret dX10_minute_14 rfl ?_
  have hz : minuteZ Z = ((minR Z.1), Z) := by
    clear hQ
    grind [minuteZ, cif]
  exact hQ _ _ ⟨by rw [hz], by rw [hz]; exact CV.sc cv ok (Sm.g smC)⟩
set_option maxRecDepth 20000 in
set_option maxHeartbeats 4000000 in
theorem P_channel {d : Nat} {M : jk_M} {Z : ZS} (cv : CV M Z) (ok : Zok Z)  : J Fr_X10_channel (d + 2) 0 0 0 [(0, .ref 0)] [] M (jk_ex (some (.int (channelZ Z).1)) (fun M1 => CV M1 (channelZ Z).2)) := by
  refine j_post (fun Q hQ => ?_)
  have hC := cv.1
  have hS := cv.2.1
  have okS := ok.1
  refine j_iconst 1 dX10_channel_0 ic_1 ?_
  refine j_istore_n (L' := [(1, .int 1), (0, .ref 0)]) dX10_channel_1 (by decide) rfl ?_
  refine j_iconst 2 dX10_channel_2 ic_2 ?_
  refine j_istore_n (L' := [(2, .int 2), (1, .int 1), (0, .ref 0)]) dX10_channel_3 (by decide) rfl ?_
  have lp3 : ∀ (k1 : Nat) (i : Nat), 12 - i < k1 → (i ≤ 12) → J Fr_X10_channel (d + 2) 0 0 4 [(0, .ref 0), (1, .int (bstS Z.1 i)), (2, .int (nI (i + 2)))] [] M Q := by
    intro k1
    induction k1 with
    | zero => intro i hk; exact absurd hk (Nat.not_lt_zero _)
    | succ k1 ih2 =>
      intro i hk1 hi
      refine j_iload_n 2 dX10_channel_4 rfl ?_
      refine j_bipush 13 dX10_channel_5 bp_13 ?_
      refine j_icmp_gtN (tgt := 37) (i + 2) 13 dX10_channel_7 rfl (by omega) (by omega) (fun c4 => ?_) (fun c4 => ?_)
      · refine j_iload_n 1 dX10_channel_37 rfl ?_
        refine j_iret dX10_channel_38 rfl ?_
        have e : i = 12 := by omega
        subst e
        exact hQ _ _ ⟨rfl, cv⟩
      · refine j_aload_n 0 dX10_channel_10 rfl ?_
        refine j_getr (q := 1) dX10_channel_11 fX10_10 (shC hC sgC_0) rfl (rfC hC rfC_0_0 (nz (by decide))) ?_
        refine j_iload_n 2 dX10_channel_14 rfl ?_
        refine j_callV (kc := 0) (ks := 0) (a := 0) (b := 0) (d' := (d + 1)) (As := [.int (nI (i + 2))]) dX10_channel_15 kX10_264 rfl (shC hC (sgH (by simp [isH]))) (by omega) rfl rfl rfl (Nat.le_of_ble_eq_true rfl) (Nat.le_of_ble_eq_true rfl) (T_X2_dinOn hC (by simp [isH]) hS okS (nI (i + 2))) (kk_p ?_)
        refine j_aload_n 0 dX10_channel_18 rfl ?_
        refine j_getr (q := 1) dX10_channel_19 fX10_10 (shC hC sgC_0) rfl (rfC hC rfC_0_0 (nz (by decide))) ?_
        refine j_iload_n 1 dX10_channel_22 rfl ?_
        refine j_callV (kc := 0) (ks := 0) (a := 0) (b := 0) (d' := (d + 1)) (As := [.int (bstS Z.1 i)]) dX10_channel_23 kX10_264 rfl (shC hC (sgH (by simp [isH]))) (by omega) rfl rfl rfl (Nat.le_of_ble_eq_true rfl) (Nat.le_of_ble_eq_true rfl) (T_X2_dinOn hC (by simp [isH]) hS okS (bstS Z.1 i)) (kk_p ?_)
        refine j_icmp_ge (tgt := 31) dX10_channel_26 rfl (fun c5 => ?_) (fun c5 => ?_)
        · refine j_iinc 2 (nI ((i + 2) + 1)) (L' := [(2, .int (nI ((i + 2) + 1))), (0, .ref 0), (1, .int (bstS Z.1 i))]) dX10_channel_31 rfl (inc1 (i + 2)) (by decide) rfl ?_
          refine j_goto (tgt := 4) dX10_channel_34 rfl ?_
          have h1 : (bstS Z.1 i) = bstS Z.1 (i + 1) := by rw [bst_s, if_neg (Int32.not_lt.mpr c5)]
          refine j_L (congrArg (fun zz9 : Int32 => ([(2, .int (nI ((i + 2) + 1))), (0, .ref 0), (1, .int zz9)] : List (Nat × Value))) h1) ?_
          exact j_sub (jk_pick [1, 2, 0] rfl) (ih2 (i + 1) (by omega) (by omega))
        · refine j_iload_n 2 dX10_channel_29 rfl ?_
          refine j_istore_n (L' := [(1, .int (nI (i + 2))), (0, .ref 0), (2, .int (nI (i + 2)))]) dX10_channel_30 (by decide) rfl ?_
          refine j_iinc 2 (nI ((i + 2) + 1)) (L' := [(2, .int (nI ((i + 2) + 1))), (1, .int (nI (i + 2))), (0, .ref 0)]) dX10_channel_31 rfl (inc1 (i + 2)) (by decide) rfl ?_
          refine j_goto (tgt := 4) dX10_channel_34 rfl ?_
          have h1 : (nI (i + 2)) = bstS Z.1 (i + 1) := by rw [bst_s, if_pos (Int32.not_le.mp c5)]
          refine j_L (congrArg (fun zz9 : Int32 => ([(2, .int (nI ((i + 2) + 1))), (1, .int zz9), (0, .ref 0)] : List (Nat × Value))) h1) ?_
          exact j_sub (jk_pick [2, 1, 0] rfl) (ih2 (i + 1) (by omega) (by omega))
  exact j_sub (jk_pick [2, 1, 0] rfl) (lp3 _ 0 (Nat.lt_succ_self _) (by omega))
