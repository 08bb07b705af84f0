/-! rounds -/
def PRo (q : Nat) : Prop := q = 99 ∨ q = 100
theorem PRoH : ∀ q, HO 1 q → ¬ PRo q := fun q hq e => by obtain ⟨h1, h2⟩ := hq; rcases e with e | e <;> omega
def madeS (S : HS) (W : Nat → Int32) (on but : Int32) : Int32 := noiseO 10 (S 2 0 - on) + sm (fun j => if nI j = but then 0 else noiseO (S 15 j) (W j - on)) (nN S)
/-- the first least of f 1 .. f (n + 1), and how much it is -/
def amin (f : Nat → Int32) : Nat → Int32 × Int32
  | 0 => (1, f 1)
  | n + 1 => if f (n + 2) < (amin f n).2 then (nI (n + 2), f (n + 2)) else amin f n
def quietS (S : HS) (W : Nat → Int32) (i : Int32) : Int32 := (amin (fun on => madeS S W (nI on) i) 12).1
def rnd (S : HS) (W : Nat → Int32) : Nat → (Nat → Int32) × Int32
  | 0 => (W, 0)
  | i + 1 => if madeS S (rnd S W i).1 (quietS S (rnd S W i).1 (nI i)) (nI i) < madeS S (rnd S W i).1 ((rnd S W i).1 i) (nI i) then (va_up (rnd S W i).1 i (quietS S (rnd S W i).1 (nI i)), 1) else rnd S W i
theorem rnd_01 (S : HS) (W : Nat → Int32) : ∀ n, (rnd S W n).2 = 0 ∨ (rnd S W n).2 = 1
  | 0 => Or.inl rfl
  | n + 1 => by
    rw [rnd]
    split
    · exact Or.inr rfl
    · exact rnd_01 S W n
theorem nar01 {x : Int32} (h : x = 0 ∨ x = 1) : narrow .boolean (.int x) = .int x := by rcases h with rfl | rfl <;> rfl
def RoW (M : jk_M) (S : HS) (W : Nat → Int32) : Prop := M.2.1 99 2 = nI (nN S) ∧ ∀ i, i < nN S → M.2.1 100 i = W i
theorem RoW.up {M : jk_M} {S : HS} {W : Nat → Int32} {i : Nat} {x : Int32} (h : RoW M S W) : RoW (jk_wI M 100 i x) S (va_up W i x) := by
  refine ⟨(rd_o (by decide)).trans h.1, fun j hj => ?_⟩
  by_cases e : j = i
  · subst e; rw [rd_s, va_up_self]
  · rw [rd_k e, va_up_ne _ _ e]; exact h.2 j hj
theorem sm_s (f : Nat → Int32) (n : Nat) : sm f (n + 1) = sm f n + f n := rfl
theorem amin_s (f : Nat → Int32) (n : Nat) : amin f (n + 1) = if f (n + 2) < (amin f n).2 then (nI (n + 2), f (n + 2)) else amin f n := rfl
theorem rnd_s (S : HS) (W : Nat → Int32) (i : Nat) : rnd S W (i + 1) = if madeS S (rnd S W i).1 (quietS S (rnd S W i).1 (nI i)) (nI i) < madeS S (rnd S W i).1 ((rnd S W i).1 i) (nI i) then (va_up (rnd S W i).1 i (quietS S (rnd S W i).1 (nI i)), 1) else rnd S W i := rfl
set_option maxRecDepth 20000 in
set_option maxHeartbeats 4000000 in
theorem T_X6_begin {d : Nat} {M : jk_M} {S : HS} {W : Nat → Int32} (hC : WC M) (hS : hv M.2.1 1 = S) (ok : Sok S) : J Fr_X6_begin (d + 1) 0 0 0 [(0, .ref 99)] [] M (jk_ex none (fun M1 => Sm PRo M M1 ∧ RoW M1 S (S 14))) := by
  refine j_post (fun Q hQ => ?_)
  have hN := (Sok.N ok).2
  refine j_aload_n 0 dX6_begin_0 rfl ?_
  refine j_aload_n 0 dX6_begin_1 rfl ?_
  refine j_getr (q := 1) dX6_begin_2 fX6_19 (shC hC sgC_99) rfl (rfC hC rfC_99_0 (nz (by decide))) ?_
  refine j_getv (nI (nN S)) dX6_begin_5 fX6_23 (shC hC (sgH (by simp [isH]))) rfl ((hvs hS (by decide)).trans (Sok.N ok).1) ?_
  refine j_aload_n 0 dX6_begin_8 rfl ?_
  refine j_getr (q := 100) dX6_begin_9 fX6_9 (shC hC sgC_99) rfl (rfC hC rfC_99_1 (nz (by decide))) ?_
  refine j_alen dX6_begin_12 (shC hC sgC_100) (by decide) ?_
  refine j_min dX6_begin_13 mX6_28 mt_min.1 mt_min.2.1 mt_min.2.2 (Nat.le_of_ble_eq_true rfl) ?_
  refine j_topi (nI (nN S)) (by (have h8 : nI (nN S) ≤ 8 := (show nI (nN S) ≤ nI 8 from (nI_leI (by omega) (by omega)).mpr hN)); (have e8 : nI 8 = (8 : Int32) := by decide); clear hQ; grind) ?_
  refine j_put dX6_begin_16 fX6_15 (shC hC sgC_99) rfl ?_
  have sm1 : Sm PRo M (jk_wI M 99 2 (nI (nN S))) := Sm.w Sm.rf (Or.inl rfl)
  refine j_iconst 0 dX6_begin_19 ic_0 ?_
  refine j_istore_n (L' := [(1, .int 0), (0, .ref 99)]) dX6_begin_20 (by decide) rfl ?_
  have lp4 : ∀ (k2 : Nat) (i : Nat) (M1 : jk_M), nN S - i < k2 → (i ≤ nN S) → (Sm PRo M M1) → (M1.2.1 99 2 = nI (nN S)) → (∀ j, j < i → M1.2.1 100 j = S 14 j) → J Fr_X6_begin (d + 1) 0 0 21 [(0, .ref 99), (1, .int (nI i))] [] M1 Q := by
    intro k2
    induction k2 with
    | zero => intro i M1 hk; exact absurd hk (Nat.not_lt_zero _)
    | succ k2 ih3 =>
      intro i M1 hk2 hi hs1 hr1 hr2
      refine j_iload_n 1 dX6_begin_21 rfl ?_
      refine j_aload_n 0 dX6_begin_22 rfl ?_
      refine j_getv (nI (nN S)) dX6_begin_23 fX6_15 (shC (Sm.C hs1 hC) sgC_99) rfl hr1 ?_
      refine j_icmp_geN (tgt := 49) i (nN S) dX6_begin_26 rfl (by omega) (by omega) (fun c5 => ?_) (fun c5 => ?_)
      · refine j_vret dX6_begin_49 rfl ?_
        exact hQ _ _ ⟨rfl, hs1, hr1, fun j hj => hr2 j (by omega)⟩
      · refine j_aload_n 0 dX6_begin_29 rfl ?_
        refine j_getr (q := 100) dX6_begin_30 fX6_9 (shC (Sm.C hs1 hC) sgC_99) rfl (rfC (Sm.C hs1 hC) rfC_99_1 (nz (by decide))) ?_
        refine j_iload_n 1 dX6_begin_33 rfl ?_
        refine j_aload_n 0 dX6_begin_34 rfl ?_
        refine j_getr (q := 1) dX6_begin_35 fX6_19 (shC (Sm.C hs1 hC) sgC_99) rfl (rfC (Sm.C hs1 hC) rfC_99_0 (nz (by decide))) ?_
        refine j_iload_n 1 dX6_begin_38 rfl ?_
        refine j_callV (kc := 0) (ks := 0) (a := 0) (b := 0) (d' := d) (As := [.int (nI i)]) dX6_begin_39 kX6_34 rfl (shC (Sm.C hs1 hC) (sgH (by simp [isH]))) (by omega) rfl rfl rfl (Nat.le_of_ble_eq_true rfl) (Nat.le_of_ble_eq_true rfl) (T_X2_channelAtS (Sm.C hs1 hC) (by simp [isH]) (Sm.hv hs1 hS ok PRoH) ok i (by omega)) (kk_p ?_)
        refine j_iastN i dX6_begin_42 (shC (Sm.C hs1 hC) sgC_100) (by omega) (by omega) ?_
        have sm6 : Sm PRo M (jk_wI M1 100 i (S 14 i)) := Sm.w hs1 (Or.inr rfl)
        refine j_iinc 1 (nI (i + 1)) (L' := [(1, .int (nI (i + 1))), (0, .ref 99)]) dX6_begin_43 rfl (inc1 i) (by decide) rfl ?_
        refine j_goto (tgt := 21) dX6_begin_46 rfl ?_
        exact j_sub (jk_pick [1, 0] rfl) (ih3 (i + 1) (jk_wI M1 100 i (S 14 i)) (by omega) (by omega) sm6 ((rd_o (by decide)).trans hr1) (fun j hj => by
          by_cases e : j = i
          · rw [e, rd_s]
          · rw [rd_k e]; exact hr2 j (by omega)))
  exact j_sub (jk_pick [1, 0] rfl) (lp4 _ 0 (jk_wI M 99 2 (nI (nN S))) (Nat.lt_succ_self _) (Nat.zero_le _) sm1 rd_s (fun j hj => absurd hj (Nat.not_lt_zero j)))
set_option maxRecDepth 20000 in
set_option maxHeartbeats 4000000 in
theorem T_X6_channelAt {d : Nat} {M : jk_M} {S : HS} {W : Nat → Int32} (hC : WC M) (hS : hv M.2.1 1 = S) (ok : Sok S) (hr : RoW M S W) (i : Nat) (hi : i < nN S) : J Fr_X6_channelAt d 0 0 0 [(0, .ref 99), (1, .int (nI i))] [] M (jk_is (some (.int (W i))) M) := by
  refine j_post (fun Q hQ => ?_)
  have hN := (Sok.N ok).2
  refine j_iload_n 1 dX6_channelAt_0 rfl ?_
  refine j_if_ltN (tgt := 30) i dX6_channelAt_1 (by omega) rfl ?_
  refine j_iload_n 1 dX6_channelAt_4 rfl ?_
  refine j_aload_n 0 dX6_channelAt_5 rfl ?_
  refine j_getv (nI (nN S)) dX6_channelAt_6 fX6_15 (shC hC sgC_99) rfl hr.1 ?_
  refine j_icmp_geN (tgt := 30) i (nN S) dX6_channelAt_9 rfl (by omega) (by omega) (fun c2 => ?_) (fun c2 => ?_)
  · exact absurd c2 (by omega)
  · refine j_iload_n 1 dX6_channelAt_12 rfl ?_
    refine j_aload_n 0 dX6_channelAt_13 rfl ?_
    refine j_getr (q := 100) dX6_channelAt_14 fX6_9 (shC hC sgC_99) rfl (rfC hC rfC_99_1 (nz (by decide))) ?_
    refine j_alen dX6_channelAt_17 (shC hC sgC_100) (by decide) ?_
    refine j_icmp_geN (tgt := 30) i 8 dX6_channelAt_18 rfl (by omega) (by omega) (fun c3 => ?_) (fun c3 => ?_)
    · exact absurd c3 (by omega)
    · refine j_aload_n 0 dX6_channelAt_21 rfl ?_
      refine j_getr (q := 100) dX6_channelAt_22 fX6_9 (shC hC sgC_99) rfl (rfC hC rfC_99_1 (nz (by decide))) ?_
      refine j_iload_n 1 dX6_channelAt_25 rfl ?_
      refine j_ialdN i dX6_channelAt_26 (shC hC sgC_100) (by omega) (by omega) ?_
      refine j_topi (W i) (hr.2 _ (by omega)) ?_
      refine j_goto (tgt := 31) dX6_channelAt_27 rfl ?_
      refine j_iret dX6_channelAt_31 rfl ?_
      exact hQ _ _ ⟨rfl, rfl⟩
set_option maxRecDepth 20000 in
set_option maxHeartbeats 4000000 in
theorem T_X6_madeOn {d : Nat} {M : jk_M} {S : HS} {W : Nat → Int32} (hC : WC M) (hS : hv M.2.1 1 = S) (ok : Sok S) (hr : RoW M S W) (on but : Int32) : J Fr_X6_madeOn (d + 1) 0 0 0 [(0, .ref 99), (1, .int on), (2, .int but)] [] M (jk_is (some (.int (madeS S W on but))) M) := by
  refine j_post (fun Q hQ => ?_)
  have hN := (Sok.N ok).2
  refine j_bipush 10 dX6_madeOn_0 bp_10 ?_
  refine j_aload_n 0 dX6_madeOn_2 rfl ?_
  refine j_getr (q := 1) dX6_madeOn_3 fX6_19 (shC hC sgC_99) rfl (rfC hC rfC_99_0 (nz (by decide))) ?_
  refine j_getv (S 2 0) dX6_madeOn_6 fX6_44 (shC hC (sgH (by simp [isH]))) rfl (hvs hS (by decide)) ?_
  refine j_iload_n 1 dX6_madeOn_9 rfl ?_
  refine j_isub dX6_madeOn_10 ?_
  refine j_callSN (kc := 0) (ks := 0) (a := 0) (b := 0) (d' := d) (As := [.int 10, .int ((S 2 0) - on)]) dX6_madeOn_11 kX6_47 rfl (by omega) rfl rfl rfl (Nat.le_of_ble_eq_true rfl) (Nat.le_of_ble_eq_true rfl) (T_X10_noiseOver 10 ((S 2 0) - on)) (kk_p ?_)
  refine j_istore_n (L' := [(3, .int (noiseO 10 ((S 2 0) - on))), (0, .ref 99), (1, .int on), (2, .int but)]) dX6_madeOn_14 (by decide) rfl ?_
  refine j_iconst 0 dX6_madeOn_15 ic_0 ?_
  refine j_istore (L' := [(4, .int 0), (3, .int (noiseO 10 ((S 2 0) - on))), (0, .ref 99), (1, .int on), (2, .int but)]) dX6_madeOn_16 (by decide) rfl ?_
  have z0 : noiseO 10 (S 2 0 - on) = noiseO 10 (S 2 0 - on) + sm (fun j => if nI j = but then 0 else noiseO (S 15 j) (W j - on)) 0 := by rw [sm]; simp
  refine j_L (congrArg (fun z : Int32 => ([(4, .int 0), (3, .int z), (0, .ref 99), (1, .int on), (2, .int but)] : List (Nat × Value))) z0) ?_
  have lp3 : ∀ (k1 : Nat) (i : Nat), nN S - i < k1 → (i ≤ nN S) → J Fr_X6_madeOn (d + 1) 0 0 18 [(0, .ref 99), (1, .int on), (2, .int but), (3, .int (noiseO 10 (S 2 0 - on) + sm (fun j => if nI j = but then 0 else noiseO (S 15 j) (W j - on)) i)), (4, .int (nI i))] [] M Q := by
    intro k1
    induction k1 with
    | zero => intro i hk; exact absurd hk (Nat.not_lt_zero _)
    | succ k1 ih2 =>
      intro i hk1 hi
      refine j_iload 4 dX6_madeOn_18 rfl ?_
      refine j_aload_n 0 dX6_madeOn_20 rfl ?_
      refine j_getv (nI (nN S)) dX6_madeOn_21 fX6_15 (shC hC sgC_99) rfl hr.1 ?_
      refine j_icmp_geN (tgt := 62) i (nN S) dX6_madeOn_24 rfl (by omega) (by omega) (fun c4 => ?_) (fun c4 => ?_)
      · refine j_iload_n 3 dX6_madeOn_62 rfl ?_
        refine j_iret dX6_madeOn_63 rfl ?_
        have e : i = nN S := by omega
        subst e
        exact hQ _ _ ⟨rfl, rfl⟩
      · refine j_iload 4 dX6_madeOn_27 rfl ?_
        refine j_iload_n 2 dX6_madeOn_29 rfl ?_
        refine j_icmp_eq (tgt := 56) dX6_madeOn_30 rfl (fun c5 => ?_) (fun c5 => ?_)
        · refine j_iinc 4 (nI (i + 1)) (L' := [(4, .int (nI (i + 1))), (0, .ref 99), (1, .int on), (2, .int but), (3, .int (noiseO 10 (S 2 0 - on) + sm (fun j => if nI j = but then 0 else noiseO (S 15 j) (W j - on)) i))]) dX6_madeOn_56 rfl (inc1 i) (by decide) rfl ?_
          refine j_goto (tgt := 18) dX6_madeOn_59 rfl ?_
          have hst : (noiseO 10 (S 2 0 - on) + sm (fun j => if nI j = but then 0 else noiseO (S 15 j) (W j - on)) i) = noiseO 10 (S 2 0 - on) + sm (fun j => if nI j = but then 0 else noiseO (S 15 j) (W j - on)) (i + 1) := by
            rw [sm_s]; clear hQ; grind
          refine j_L (congrArg (fun z : Int32 => ([(4, .int (nI (i + 1))), (0, .ref 99), (1, .int on), (2, .int but), (3, .int z)] : List (Nat × Value))) hst) ?_
          exact j_sub (jk_pick [1, 2, 3, 4, 0] rfl) (ih2 (i + 1) (by omega) (by omega))
        · refine j_iload_n 3 dX6_madeOn_33 rfl ?_
          refine j_aload_n 0 dX6_madeOn_34 rfl ?_
          refine j_getr (q := 1) dX6_madeOn_35 fX6_19 (shC hC sgC_99) rfl (rfC hC rfC_99_0 (nz (by decide))) ?_
          refine j_iload 4 dX6_madeOn_38 rfl ?_
          refine j_callV (kc := 0) (ks := 0) (a := 0) (b := 0) (d' := d) (As := [.int (nI i)]) dX6_madeOn_40 kX6_50 rfl (shC hC (sgH (by simp [isH]))) (by omega) rfl rfl rfl (Nat.le_of_ble_eq_true rfl) (Nat.le_of_ble_eq_true rfl) (T_X2_noiseAtS hC (by simp [isH]) hS ok i (by omega)) (kk_p ?_)
          refine j_aload_n 0 dX6_madeOn_43 rfl ?_
          refine j_iload 4 dX6_madeOn_44 rfl ?_
          refine j_callV (kc := 0) (ks := 0) (a := 0) (b := 0) (d' := d) (As := [.int (nI i)]) dX6_madeOn_46 kX6_53 rfl (shC hC sgC_99) (by omega) rfl rfl rfl (Nat.le_of_ble_eq_true rfl) (Nat.le_of_ble_eq_true rfl) (T_X6_channelAt hC hS ok hr i (by omega)) (kk_p ?_)
          refine j_iload_n 1 dX6_madeOn_49 rfl ?_
          refine j_isub dX6_madeOn_50 ?_
          refine j_callSN (kc := 0) (ks := 0) (a := 0) (b := 0) (d' := d) (As := [.int (S 15 i), .int ((W i) - on)]) dX6_madeOn_51 kX6_47 rfl (by omega) rfl rfl rfl (Nat.le_of_ble_eq_true rfl) (Nat.le_of_ble_eq_true rfl) (T_X10_noiseOver (S 15 i) ((W i) - on)) (kk_p ?_)
          refine j_iadd dX6_madeOn_54 ?_
          refine j_istore_n (L' := [(3, .int ((noiseO 10 (S 2 0 - on) + sm (fun j => if nI j = but then 0 else noiseO (S 15 j) (W j - on)) i) + (noiseO (S 15 i) ((W i) - on)))), (0, .ref 99), (1, .int on), (2, .int but), (4, .int (nI i))]) dX6_madeOn_55 (by decide) rfl ?_
          refine j_iinc 4 (nI (i + 1)) (L' := [(4, .int (nI (i + 1))), (3, .int ((noiseO 10 (S 2 0 - on) + sm (fun j => if nI j = but then 0 else noiseO (S 15 j) (W j - on)) i) + (noiseO (S 15 i) ((W i) - on)))), (0, .ref 99), (1, .int on), (2, .int but)]) dX6_madeOn_56 rfl (inc1 i) (by decide) rfl ?_
          refine j_goto (tgt := 18) dX6_madeOn_59 rfl ?_
          have hst : ((noiseO 10 (S 2 0 - on) + sm (fun j => if nI j = but then 0 else noiseO (S 15 j) (W j - on)) i) + (noiseO (S 15 i) ((W i) - on))) = noiseO 10 (S 2 0 - on) + sm (fun j => if nI j = but then 0 else noiseO (S 15 j) (W j - on)) (i + 1) := by
            rw [sm_s]; clear hQ; grind
          refine j_L (congrArg (fun z : Int32 => ([(4, .int (nI (i + 1))), (3, .int z), (0, .ref 99), (1, .int on), (2, .int but)] : List (Nat × Value))) hst) ?_
          exact j_sub (jk_pick [2, 3, 4, 1, 0] rfl) (ih2 (i + 1) (by omega) (by omega))
  exact j_sub (jk_pick [2, 3, 4, 1, 0] rfl) (lp3 _ 0 (Nat.lt_succ_self _) (Nat.zero_le _))
set_option maxRecDepth 20000 in
set_option maxHeartbeats 4000000 in
theorem T_X6_quietestFor {d : Nat} {M : jk_M} {S : HS} {W : Nat → Int32} (hC : WC M) (hS : hv M.2.1 1 = S) (ok : Sok S) (hr : RoW M S W) (b : Int32) : J Fr_X6_quietestFor (d + 2) 0 0 0 [(0, .ref 99), (1, .int b)] [] M (jk_is (some (.int (quietS S W b))) M) := by
  refine j_post (fun Q hQ => ?_)
  refine j_iconst 1 dX6_quietestFor_0 ic_1 ?_
  refine j_istore_n (L' := [(2, .int 1), (0, .ref 99), (1, .int b)]) dX6_quietestFor_1 (by decide) rfl ?_
  refine j_aload_n 1 dX6_quietestFor_2 rfl ?_
  refine j_iconst 1 dX6_quietestFor_3 ic_1 ?_
  refine j_iload_n 2 dX6_quietestFor_4 rfl ?_
  refine j_callV (kc := 0) (ks := 0) (a := 0) (b := 0) (d' := (d + 1)) (As := [.int 1, .int b]) dX6_quietestFor_5 kX6_41 rfl (shC hC sgC_99) (by omega) rfl rfl rfl (Nat.le_of_ble_eq_true rfl) (Nat.le_of_ble_eq_true rfl) (T_X6_madeOn hC hS ok hr 1 b) (kk_p ?_)
  refine j_istore_n (L' := [(3, .int (madeS S W 1 b)), (2, .int 1), (0, .ref 99), (1, .int b)]) dX6_quietestFor_8 (by decide) rfl ?_
  refine j_iconst 2 dX6_quietestFor_9 ic_2 ?_
  refine j_istore (L' := [(4, .int 2), (3, .int (madeS S W 1 b)), (2, .int 1), (0, .ref 99), (1, .int b)]) dX6_quietestFor_10 (by decide) rfl ?_
  have lp3 : ∀ (k1 : Nat) (i : Nat), 12 - i < k1 → (i ≤ 12) → J Fr_X6_quietestFor (d + 2) 0 0 12 [(0, .ref 99), (1, .int b), (2, .int (amin (fun on => madeS S W (nI on) b) i).1), (3, .int (amin (fun on => madeS S W (nI on) b) i).2), (4, .int (nI (i + 2)))] [] M Q := by
    intro k1
    induction k1 with
    | zero => intro i hk; exact absurd hk (Nat.not_lt_zero _)
    | succ k1 ih2 =>
      intro i hk1 hi
      refine j_iload 4 dX6_quietestFor_12 rfl ?_
      refine j_bipush 13 dX6_quietestFor_14 bp_13 ?_
      refine j_icmp_gtN (tgt := 46) (i + 2) 13 dX6_quietestFor_16 rfl (by omega) (by omega) (fun c4 => ?_) (fun c4 => ?_)
      · refine j_iload_n 2 dX6_quietestFor_46 rfl ?_
        refine j_iret dX6_quietestFor_47 rfl ?_
        have e : i = 12 := by omega
        subst e
        exact hQ _ _ ⟨rfl, rfl⟩
      · refine j_aload_n 0 dX6_quietestFor_19 rfl ?_
        refine j_iload 4 dX6_quietestFor_20 rfl ?_
        refine j_iload_n 1 dX6_quietestFor_22 rfl ?_
        refine j_callV (kc := 0) (ks := 0) (a := 0) (b := 0) (d' := (d + 1)) (As := [.int (nI (i + 2)), .int b]) dX6_quietestFor_23 kX6_41 rfl (shC hC sgC_99) (by omega) rfl rfl rfl (Nat.le_of_ble_eq_true rfl) (Nat.le_of_ble_eq_true rfl) (T_X6_madeOn hC hS ok hr (nI (i + 2)) b) (kk_p ?_)
        refine j_istore (L' := [(5, .int (madeS S W (nI (i + 2)) b)), (0, .ref 99), (1, .int b), (2, .int (amin (fun on => madeS S W (nI on) b) i).1), (3, .int (amin (fun on => madeS S W (nI on) b) i).2), (4, .int (nI (i + 2)))]) dX6_quietestFor_26 (by decide) rfl ?_
        refine j_iload 0 dX6_quietestFor_28 rfl ?_
        refine j_iload_n 4 dX6_quietestFor_30 rfl ?_
        refine j_icmp_ge (tgt := 40) dX6_quietestFor_31 rfl (fun c5 => ?_) (fun c5 => ?_)
        · refine j_iinc 5 (nI ((i + 2) + 1)) (L' := [(4, .int (nI ((i + 2) + 1))), (5, .int (madeS S W (nI (i + 2)) b)), (0, .ref 99), (1, .int b), (2, .int (amin (fun on => madeS S W (nI on) b) i).1), (3, .int (amin (fun on => madeS S W (nI on) b) i).2)]) dX6_quietestFor_40 rfl (inc1 (i + 2)) (by decide) rfl ?_
          refine j_goto (tgt := 12) dX6_quietestFor_43 rfl ?_
          have h1 : (amin (fun on => madeS S W (nI on) b) i).1 = (amin (fun on => madeS S W (nI on) b) (i + 1)).1 := by
            rw [amin_s, if_neg (Int32.not_lt.mpr c5)]
          have h2 : (amin (fun on => madeS S W (nI on) b) i).2 = (amin (fun on => madeS S W (nI on) b) (i + 1)).2 := by
            rw [amin_s, if_neg (Int32.not_lt.mpr c5)]
          refine j_L (congrArg (fun z : Int32 => ([(4, .int (nI ((i + 2) + 1))), (5, .int (madeS S W (nI (i + 2)) b)), (0, .ref 99), (1, .int b), (2, .int z), (3, .int (amin (fun on => madeS S W (nI on) b) i).2)] : List (Nat × Value))) h1) ?_
          refine j_L (congrArg (fun z : Int32 => ([(4, .int (nI ((i + 2) + 1))), (5, .int (madeS S W (nI (i + 2)) b)), (0, .ref 99), (1, .int b), (2, .int (amin (fun on => madeS S W (nI on) b) (i + 1)).1), (3, .int z)] : List (Nat × Value))) h2) ?_
          exact j_sub (jk_pick [2, 3, 4, 5, 0] rfl) (ih2 (i + 1) (by omega) (by omega))
        · refine j_iload 0 dX6_quietestFor_34 rfl ?_
          refine j_istore_n (L' := [(3, .int (madeS S W (nI (i + 2)) b)), (5, .int (madeS S W (nI (i + 2)) b)), (0, .ref 99), (1, .int b), (2, .int (amin (fun on => madeS S W (nI on) b) i).1), (4, .int (nI (i + 2)))]) dX6_quietestFor_36 (by decide) rfl ?_
          refine j_iload 5 dX6_quietestFor_37 rfl ?_
          refine j_istore_n (L' := [(2, .int (nI (i + 2))), (3, .int (madeS S W (nI (i + 2)) b)), (5, .int (madeS S W (nI (i + 2)) b)), (0, .ref 99), (1, .int b), (4, .int (nI (i + 2)))]) dX6_quietestFor_39 (by decide) rfl ?_
          refine j_iinc 5 (nI ((i + 2) + 1)) (L' := [(4, .int (nI ((i + 2) + 1))), (2, .int (nI (i + 2))), (3, .int (madeS S W (nI (i + 2)) b)), (5, .int (madeS S W (nI (i + 2)) b)), (0, .ref 99), (1, .int b)]) dX6_quietestFor_40 rfl (inc1 (i + 2)) (by decide) rfl ?_
          refine j_goto (tgt := 12) dX6_quietestFor_43 rfl ?_
          have h1 : (nI (i + 2)) = (amin (fun on => madeS S W (nI on) b) (i + 1)).1 := by
            rw [amin_s, if_pos (Int32.not_le.mp c5)]
          have h2 : (madeS S W (nI (i + 2)) b) = (amin (fun on => madeS S W (nI on) b) (i + 1)).2 := by
            rw [amin_s, if_pos (Int32.not_le.mp c5)]
          refine j_L (congrArg (fun z : Int32 => ([(4, .int (nI ((i + 2) + 1))), (2, .int z), (3, .int (madeS S W (nI (i + 2)) b)), (5, .int (madeS S W (nI (i + 2)) b)), (0, .ref 99), (1, .int b)] : List (Nat × Value))) h1) ?_
          refine j_L (congrArg (fun z : Int32 => ([(4, .int (nI ((i + 2) + 1))), (2, .int (amin (fun on => madeS S W (nI on) b) (i + 1)).1), (3, .int z), (5, .int (madeS S W (nI (i + 2)) b)), (0, .ref 99), (1, .int b)] : List (Nat × Value))) h2) ?_
          exact j_sub (jk_pick [4, 5, 1, 2, 0] rfl) (ih2 (i + 1) (by omega) (by omega))
  exact j_sub (jk_pick [3, 4, 2, 1, 0] rfl) (lp3 _ 0 (Nat.lt_succ_self _) (by omega))
set_option maxRecDepth 20000 in
set_option maxHeartbeats 4000000 in
theorem T_X6_goOnce {d : Nat} {M : jk_M} {S : HS} {W : Nat → Int32} (hC : WC M) (hS : hv M.2.1 1 = S) (ok : Sok S) (hr : RoW M S W) : J Fr_X6_goOnce (d + 3) 0 0 0 [(0, .ref 99)] [] M (jk_ex (some (.int (rnd S W (nN S)).2)) (fun M1 => Sm PRo M M1 ∧ RoW M1 S (rnd S W (nN S)).1)) := by
  refine j_post (fun Q hQ => ?_)
  have hN := (Sok.N ok).2
  refine j_iconst 0 dX6_goOnce_0 ic_0 ?_
  refine j_istore_n (L' := [(1, .int 0), (0, .ref 99)]) dX6_goOnce_1 (by decide) rfl ?_
  refine j_iconst 0 dX6_goOnce_2 ic_0 ?_
  refine j_istore_n (L' := [(2, .int 0), (1, .int 0), (0, .ref 99)]) dX6_goOnce_3 (by decide) rfl ?_
  have lp3 : ∀ (k1 : Nat) (i : Nat) (M1 : jk_M), nN S - i < k1 → (i ≤ nN S) → (Sm PRo M M1) → (RoW M1 S (rnd S W i).1) → J Fr_X6_goOnce (d + 3) 0 0 4 [(0, .ref 99), (1, .int (rnd S W i).2), (2, .int (nI i))] [] M1 Q := by
    intro k1
    induction k1 with
    | zero => intro i M1 hk; exact absurd hk (Nat.not_lt_zero _)
    | succ k1 ih2 =>
      intro i M1 hk1 hi hs1 hr1
      refine j_iload_n 2 dX6_goOnce_4 rfl ?_
      refine j_aload_n 0 dX6_goOnce_5 rfl ?_
      refine j_getv (nI (nN S)) dX6_goOnce_6 fX6_15 (shC (Sm.C hs1 hC) sgC_99) rfl hr1.1 ?_
      refine j_icmp_geN (tgt := 62) i (nN S) dX6_goOnce_9 rfl (by omega) (by omega) (fun c4 => ?_) (fun c4 => ?_)
      · refine j_iload_n 1 dX6_goOnce_62 rfl ?_
        refine j_zret dX6_goOnce_63 rfl (nar01 (rnd_01 S W _)) ?_
        have e : i = nN S := by omega
        subst e
        exact hQ _ _ ⟨rfl, hs1, hr1⟩
      · refine j_iload_n 2 dX6_goOnce_12 rfl ?_
        refine j_aload_n 0 dX6_goOnce_13 rfl ?_
        refine j_getr (q := 100) dX6_goOnce_14 fX6_9 (shC (Sm.C hs1 hC) sgC_99) rfl (rfC (Sm.C hs1 hC) rfC_99_1 (nz (by decide))) ?_
        refine j_alen dX6_goOnce_17 (shC (Sm.C hs1 hC) sgC_100) (by decide) ?_
        refine j_icmp_geN (tgt := 62) i 8 dX6_goOnce_18 rfl (by omega) (by omega) (fun c5 => ?_) (fun c5 => ?_)
        · exact absurd c5 (by omega)
        · refine j_aload_n 0 dX6_goOnce_21 rfl ?_
          refine j_iload_n 2 dX6_goOnce_22 rfl ?_
          refine j_callV (kc := 0) (ks := 0) (a := 0) (b := 0) (d' := (d + 2)) (As := [.int (nI i)]) dX6_goOnce_23 kX6_38 rfl (shC (Sm.C hs1 hC) sgC_99) (by omega) rfl rfl rfl (Nat.le_of_ble_eq_true rfl) (Nat.le_of_ble_eq_true rfl) (T_X6_quietestFor (Sm.C hs1 hC) (Sm.hv hs1 hS ok PRoH) ok hr1 (nI i)) (kk_p ?_)
          refine j_istore_n (L' := [(3, .int (quietS S (rnd S W i).1 (nI i))), (0, .ref 99), (1, .int (rnd S W i).2), (2, .int (nI i))]) dX6_goOnce_26 (by decide) rfl ?_
          refine j_aload_n 1 dX6_goOnce_27 rfl ?_
          refine j_iload_n 0 dX6_goOnce_28 rfl ?_
          refine j_iload_n 3 dX6_goOnce_29 rfl ?_
          refine j_callV (kc := 0) (ks := 0) (a := 0) (b := 0) (d' := (d + 1)) (As := [.int (quietS S (rnd S W i).1 (nI i)), .int (nI i)]) dX6_goOnce_30 kX6_41 rfl (shC (Sm.C hs1 hC) sgC_99) (by omega) rfl rfl rfl (Nat.le_of_ble_eq_true rfl) (Nat.le_of_ble_eq_true rfl) (T_X6_madeOn (Sm.C hs1 hC) (Sm.hv hs1 hS ok PRoH) ok hr1 (quietS S (rnd S W i).1 (nI i)) (nI i)) (kk_p ?_)
          refine j_aload_n 1 dX6_goOnce_33 rfl ?_
          refine j_aload_n 1 dX6_goOnce_34 rfl ?_
          refine j_getr (q := 100) dX6_goOnce_35 fX6_9 (shC (Sm.C hs1 hC) sgC_99) rfl (rfC (Sm.C hs1 hC) rfC_99_1 (nz (by decide))) ?_
          refine j_iload_n 3 dX6_goOnce_38 rfl ?_
          refine j_ialdN i dX6_goOnce_39 (shC (Sm.C hs1 hC) sgC_100) (by omega) (by omega) ?_
          refine j_topi ((rnd S W i).1 i) (hr1.2 _ (by omega)) ?_
          refine j_iload_n 3 dX6_goOnce_40 rfl ?_
          refine j_callV (kc := 0) (ks := 0) (a := 0) (b := 0) (d' := (d + 1)) (As := [.int ((rnd S W i).1 i), .int (nI i)]) dX6_goOnce_41 kX6_41 rfl (shC (Sm.C hs1 hC) sgC_99) (by omega) rfl rfl rfl (Nat.le_of_ble_eq_true rfl) (Nat.le_of_ble_eq_true rfl) (T_X6_madeOn (Sm.C hs1 hC) (Sm.hv hs1 hS ok PRoH) ok hr1 ((rnd S W i).1 i) (nI i)) (kk_p ?_)
          refine j_icmp_ge (tgt := 56) dX6_goOnce_44 rfl (fun c6 => ?_) (fun c6 => ?_)
          · refine j_iinc 3 (nI (i + 1)) (L' := [(2, .int (nI (i + 1))), (3, .int (quietS S (rnd S W i).1 (nI i))), (0, .ref 99), (1, .int (rnd S W i).2)]) dX6_goOnce_56 rfl (inc1 i) (by decide) rfl ?_
            refine j_goto (tgt := 4) dX6_goOnce_59 rfl ?_
            have h1 : rnd S W (i + 1) = _ := rnd_s S W i
            rw [if_neg (Int32.not_lt.mpr c6)] at h1
            have h2 : (rnd S W i).2 = (rnd S W (i + 1)).2 := by rw [h1]
            refine j_L (congrArg (fun z : Int32 => ([(2, .int (nI (i + 1))), (3, .int (quietS S (rnd S W i).1 (nI i))), (0, .ref 99), (1, .int z)] : List (Nat × Value))) h2) ?_
            exact j_sub (jk_pick [2, 3, 0] rfl) (ih2 (i + 1) M1 (by omega) (by omega) hs1 (by rw [h1]; exact hr1))
          · refine j_aload_n 1 dX6_goOnce_47 rfl ?_
            refine j_getr (q := 100) dX6_goOnce_48 fX6_9 (shC (Sm.C hs1 hC) sgC_99) rfl (rfC (Sm.C hs1 hC) rfC_99_1 (nz (by decide))) ?_
            refine j_iload_n 3 dX6_goOnce_51 rfl ?_
            refine j_iload_n 0 dX6_goOnce_52 rfl ?_
            refine j_iastN i dX6_goOnce_53 (shC (Sm.C hs1 hC) sgC_100) (by omega) (by omega) ?_
            have sm7 : Sm PRo M (jk_wI M1 100 i (quietS S (rnd S W i).1 (nI i))) := Sm.w hs1 (Or.inr rfl)
            refine j_iconst 1 dX6_goOnce_54 ic_1 ?_
            refine j_istore_n (L' := [(1, .int 1), (3, .int (quietS S (rnd S W i).1 (nI i))), (0, .ref 99), (2, .int (nI i))]) dX6_goOnce_55 (by decide) rfl ?_
            refine j_iinc 3 (nI (i + 1)) (L' := [(2, .int (nI (i + 1))), (1, .int 1), (3, .int (quietS S (rnd S W i).1 (nI i))), (0, .ref 99)]) dX6_goOnce_56 rfl (inc1 i) (by decide) rfl ?_
            refine j_goto (tgt := 4) dX6_goOnce_59 rfl ?_
            have h1 : rnd S W (i + 1) = _ := rnd_s S W i
            rw [if_pos (Int32.not_le.mp c6)] at h1
            have h2 : 1 = (rnd S W (i + 1)).2 := by rw [h1]
            refine j_L (congrArg (fun z : Int32 => ([(2, .int (nI (i + 1))), (1, .int z), (3, .int (quietS S (rnd S W i).1 (nI i))), (0, .ref 99)] : List (Nat × Value))) h2) ?_
            exact j_sub (jk_pick [3, 1, 0] rfl) (ih2 (i + 1) (jk_wI M1 100 i (quietS S (rnd S W i).1 (nI i))) (by omega) (by omega) sm7 (by rw [h1]; exact hr1.up))
  exact j_sub (jk_pick [2, 1, 0] rfl) (lp3 _ 0 M (Nat.lt_succ_self _) (Nat.zero_le _) Sm.rf hr)
