/-! told rows, by the model -/
theorem td1 {z n : Int32} : (Int32.toInt64 z < Int32.toInt64 n * Int32.toInt64 1) = (z < n) := by
  have e : Int32.toInt64 n * Int32.toInt64 1 = Int32.toInt64 n := by rw [show Int32.toInt64 1 = 1 from rfl]; grind
  rw [e]
  apply propext
  rw [Int64.lt_iff_toInt_lt, Int32.lt_iff_toInt_lt, Jvm.Kit.i64_of_i32, Jvm.Kit.i64_of_i32]
theorem td2 {z n : Int32} (hz : ∃ a, a ≤ 160 ∧ z = nI a) (hn : ¬ n < 0) : (Int32.toInt64 z < Int32.toInt64 n * Int32.toInt64 2) = (z / 2 < n) := by
  obtain ⟨a, ha, rfl⟩ := hz
  obtain ⟨m, hm, rfl⟩ := nI_of hn
  have e : Int32.toInt64 (nI m) * Int32.toInt64 2 = Int32.toInt64 (nI m) + Int32.toInt64 (nI m) := by rw [show Int32.toInt64 2 = 2 from rfl]; grind
  rw [e, show (2 : Int32) = nI 2 from rfl, pk_div (by omega) (by decide) (by decide)]
  apply propext
  rw [Int64.lt_iff_toInt_lt, lg_i2l_add, Jvm.Kit.i64_of_i32, nI_toInt (by omega), nI_toInt hm, nI_ltI (by omega) hm]
  omega
theorem rr_hc {Z : ZS} {k : Nat} (h : ¬ rrK Z k = 0) : 0 < 0 - rrK Z k ∧ 0 - rrK Z k < 8 := by
  have : rrK Z k = -2 ∨ rrK Z k = -3 := by unfold rrK rrS at h ⊢; grind
  rcases this with e | e <;> rw [e] <;> decide
theorem td_z {Z : ZS} (ok : Zok Z) {k m : Nat} (hk : k < 8) (hm : m ≤ 40) (h : tdK Z k (nI m) 1 = 0) : ∃ z, z ≤ 160 ∧ Z.2.2.1 k 1 = nI z ∧ m ≤ z ∧ rrK Z k = 0 := by
  obtain ⟨z, hz, e⟩ := ok.sz hk
  have hn := nI_pos (show m < 2 ^ 31 by omega)
  simp only [tdK, tdS, td1] at h
  have hr : rrK Z k = 0 := by
    by_cases c : rrK Z k = 0
    · exact c
    · rw [if_pos c] at h; exact absurd h c
  refine ⟨z, hz, e, ?_, hr⟩
  rw [if_neg (not_not_intro hr), if_neg hn, e] at h
  by_cases c : nI z < nI m
  · rw [if_pos c] at h; exact absurd h (by decide)
  · rw [nI_ltI (by omega) (by omega)] at c; omega
theorem td_z2 {Z : ZS} (ok : Zok Z) {k m : Nat} (hk : k < 8) (hm : m ≤ 40) (h : tdK Z k (nI m) 2 = 0) : ∃ z, z ≤ 160 ∧ Z.2.2.1 k 1 = nI z ∧ 2 * m ≤ z ∧ rrK Z k = 0 := by
  obtain ⟨z, hz, e⟩ := ok.sz hk
  have hn := nI_pos (show m < 2 ^ 31 by omega)
  simp only [tdK, tdS] at h
  simp only [td2 (ok.sz hk) hn] at h
  have hr : rrK Z k = 0 := by
    by_cases c : rrK Z k = 0
    · exact c
    · rw [if_pos c] at h; exact absurd h c
  refine ⟨z, hz, e, ?_, hr⟩
  rw [if_neg (not_not_intro hr), if_neg hn, e, show (2 : Int32) = nI 2 from rfl, pk_div (by omega) (by decide) (by decide)] at h
  by_cases c : nI (z / 2) < nI m
  · rw [if_pos c] at h; exact absurd h (by decide)
  · rw [nI_ltI (by omega) (by omega)] at c; omega
theorem has_z {Z : ZS} {k z i : Nat} (hz : z ≤ 160) (e : Z.2.2.1 k 1 = nI z) (hi : i < z) : hasK Z k (nI i) := ⟨nI_pos' (by omega), by rw [e]; exact nI_lt hi (by omega), by rw [← n160]; exact nI_lt (by omega) (by decide)⟩
theorem fw_all {S : HS} {tl : Int32 → Int32} : ∀ {i : Nat}, fwN S tl i = none → ∀ j, j < i → ¬ badS S tl j
  | 0, _, j, hj => absurd hj (Nat.not_lt_zero j)
  | i + 1, h, j, hj => by
    cases e : fwN S tl i with
    | some q => exact absurd (h.symm.trans (fw_st e 1)) (by simp)
    | none =>
      by_cases b : badS S tl i
      · exact absurd (h.symm.trans (fw_y e b)) (by simp)
      · rcases Nat.lt_succ_iff_lt_or_eq.mp hj with h2 | h2
        · exact fw_all e j h2
        · rw [h2]; exact b
theorem fw_cell {S : HS} {tl : Int32 → Int32} {i j : Nat} (h : fwN S tl i = none) (hj : j < i) : isC S (tl (nI j)) := Classical.byContradiction (fun z => fw_all h j hj (Or.inl z))
theorem fwS_n {S : HS} {tl : Int32 → Int32} {m : Nat} (hm : m < 1000) (h : fwS S tl m = -1) : fwN S tl m = none := by
  cases e : fwN S tl m with
  | none => rfl
  | some q =>
    have hq : ∀ n q, fwN S tl n = some q → q < n := by
      intro n
      induction n with
      | zero => intro q h; simp [fwN] at h
      | succ n ih =>
        intro q h
        cases e : fwN S tl n with
        | some p => rw [fw_st e 1] at h; cases h; have := ih _ e; omega
        | none =>
          by_cases b : badS S tl n
          · rw [fw_y e b] at h; cases h; omega
          · rw [fw_n e b] at h; cases h
    have := hq _ _ e
    simp only [fwS, e] at h
    exact absurd h (nI_n1 (by omega))
theorem hp_01 {S : HS} {tl : Int32 → Int32} {r : Int32} : ∀ i, (hpS S tl r i).1 = 0 ∨ (hpS S tl r i).1 = 1
  | 0 => Or.inl rfl
  | i + 1 => clg01 (hp_01 i)
def cmH (h : Int32 → Int32) (p : Int32 × Int32) (q : Int32) : Int32 × Int32 := if h q ≤ p.2 then (q, h q) else p
theorem cm4 {S : HS} {tl : Int32 → Int32} {n : Nat} {h : Int32 → Int32} (e : ∀ r, (hpS S tl r n).2 = h r) : cmS S tl n 4 = cmH h (cmH h (cmH h (cmH h (0, h 0) 1) 2) 3) 4 := by
  have e0 : cmS S tl n 0 = (0, h 0) := by rw [← e]; rfl
  have s : ∀ (k : Nat) (q : Int32), nI (k + 1) = q → cmS S tl n (k + 1) = cmH h (cmS S tl n k) q := fun k q hq => by
    subst hq
    rw [cm_s, e]; rfl
  rw [s 3 4 (by decide), s 2 3 (by decide), s 1 2 (by decide), s 0 1 (by decide), e0]
set_option maxRecDepth 20000 in
set_option maxHeartbeats 4000000 in
theorem T_wanted {d : Nat} {M : jk_M} {Z : ZS} (cv : MV M Z) (ok : Zok Z) (k : Nat) (hk : k < 8) : J Fr_X11_wanted (d + 1) 0 0 0 [(0, .ref 0), (1, .int (nI k))] [] M (jk_is (some (.int (rrK Z k))) M) := by
  refine j_post (fun Q hQ => ?_)
  have hM := cv.1
  have hS := cv.2.1
  have okS := ok.1
  have h40 := cv.2.2.2.2.2.2.2.2.2.2.1
  have hsk := shl_k hk
  have hsmk := shm_g (cv.2.2.2.1 k hk)
  have hzzk := shok0 (ok.sh hk)
  refine j_aload_n 0 dX11_wanted_0 rfl ?_
  refine j_iload_n 1 dX11_wanted_1 rfl ?_
  refine j_callV (kc := 0) (ks := 0) (a := 0) (b := 0) (d' := d) (As := [.int (nI k)]) dX11_wanted_2 kX11_126 rfl (shM hM sgM_0) (by omega) rfl rfl rfl (Nat.le_of_ble_eq_true rfl) (Nat.le_of_ble_eq_true rfl) (T_X11_isShelf (nI k)) (kk_p ?_)
  refine j_if_neB (p := (0 ≤ (nI k) ∧ (nI k) < 8)) (tgt := 12) dX11_wanted_5 rfl (fun c1 => ?_) (fun c1 => ?_)
  · refine j_aload_n 0 dX11_wanted_12 rfl ?_
    refine j_getr (q := 13) dX11_wanted_13 fX11_62 (shM hM sgM_0) rfl (rfM hM rfM_0_21) ?_
    refine j_iload_n 1 dX11_wanted_16 rfl ?_
    refine j_ialdN k dX11_wanted_17 (shM hM sgM_13) (by omega) (by omega) ?_
    refine j_iconst 2 dX11_wanted_18 ic_2 ?_
    refine j_icmp_ne (tgt := 27) dX11_wanted_19 rfl (fun c2 => ?_) (fun c2 => ?_)
    · refine j_aload_n 0 dX11_wanted_27 rfl ?_
      refine j_getr (q := 13) dX11_wanted_28 fX11_62 (shM hM sgM_0) rfl (rfM hM rfM_0_21) ?_
      refine j_iload_n 1 dX11_wanted_31 rfl ?_
      refine j_ialdN k dX11_wanted_32 (shM hM sgM_13) (by omega) (by omega) ?_
      refine j_if_ne (tgt := 41) dX11_wanted_33 rfl (fun c3 => ?_) (fun c3 => ?_)
      · refine j_iconst 0 dX11_wanted_41 ic_0 ?_
        refine j_iret dX11_wanted_42 rfl ?_
        have hz : rrK Z k = 0 := by
          clear hQ cv hM hS
          grind [rrK, rrS]
        exact hQ _ _ ⟨by rw [hz], rfl⟩
      · refine j_bipush (-3) dX11_wanted_36 bp_n3 ?_
        refine j_goto (tgt := 42) dX11_wanted_38 rfl ?_
        refine j_iret dX11_wanted_42 rfl ?_
        have hz : rrK Z k = (-3) := by
          clear hQ cv hM hS
          grind [rrK, rrS]
        exact hQ _ _ ⟨by rw [hz], rfl⟩
    · refine j_bipush (-2) dX11_wanted_22 bp_n2 ?_
      refine j_goto (tgt := 42) dX11_wanted_24 rfl ?_
      refine j_iret dX11_wanted_42 rfl ?_
      have hz : rrK Z k = (-2) := by
        clear hQ cv hM hS
        grind [rrK, rrS]
      exact hQ _ _ ⟨by rw [hz], rfl⟩
  · exact absurd hsk c1
set_option maxRecDepth 20000 in
set_option maxHeartbeats 4000000 in
theorem T_wantedN {d : Nat} {M : jk_M} (hM : WM M) (s : Int32) (hs : ¬ (0 ≤ s ∧ s < 8)) : J Fr_X11_wanted (d + 1) 0 0 0 [(0, .ref 0), (1, .int s)] [] M (jk_is (some (.int (-1))) M) := by
  refine j_post (fun Q hQ => ?_)
  refine j_aload_n 0 dX11_wanted_0 rfl ?_
  refine j_iload_n 1 dX11_wanted_1 rfl ?_
  refine j_callV (kc := 0) (ks := 0) (a := 0) (b := 0) (d' := d) (As := [.int s]) dX11_wanted_2 kX11_126 rfl (shM hM sgM_0) (by omega) rfl rfl rfl (Nat.le_of_ble_eq_true rfl) (Nat.le_of_ble_eq_true rfl) (T_X11_isShelf s) (kk_p ?_)
  refine j_if_neB (p := (0 ≤ s ∧ s < 8)) (tgt := 12) dX11_wanted_5 rfl (fun c1 => ?_) (fun c1 => ?_)
  · exact absurd c1 hs
  · refine j_iconst (-1) dX11_wanted_8 ic_n1 ?_
    refine j_goto (tgt := 42) dX11_wanted_9 rfl ?_
    refine j_iret dX11_wanted_42 rfl ?_
    exact hQ _ _ ⟨rfl, rfl⟩
set_option maxRecDepth 20000 in
set_option maxHeartbeats 4000000 in
theorem T_intAt {d : Nat} {M0 M : jk_M} {Z : ZS} (cv : MV M0 Z) (s : M.2.2 = M0.2.2) (hM : WM M) (k : Nat) (hk : k < 8) (i : Nat) (hi : i < 160) (hh : hasK Z k (nI i)) : J Fr_X11_intAt d 0 0 0 [(0, .ref 0), (1, .int (nI k)), (2, .int (nI i))] [] M (jk_is (some (.int (tlK Z k (nI i)))) M) := by
  refine j_post (fun Q hQ => ?_)
  refine j_aload_n 0 dX11_intAt_0 rfl ?_
  refine j_getr (q := 17) dX11_intAt_1 fX11_74 (shM hM sgM_0) rfl (rfM hM rfM_0_25) ?_
  refine j_sipush 160 dX11_intAt_4 sp_160 ?_
  refine j_iload_n 1 dX11_intAt_7 rfl ?_
  refine j_imulN 160 k dX11_intAt_8 ?_
  refine j_iload_n 2 dX11_intAt_9 rfl ?_
  refine j_iaddN (160 * k) i dX11_intAt_10 ?_
  refine j_laldN ((160 * k) + i) dX11_intAt_11 (shM hM sgM_17) (by omega) (by omega) ?_
  refine j_l2i dX11_intAt_12 ?_
  refine j_iret dX11_intAt_13 rfl ?_
  exact hQ _ _ ⟨by rw [s, cv.el hk hi, tlK, rdK, cif_t hh, nI_clamp (by omega)], rfl⟩
set_option maxRecDepth 20000 in
set_option maxHeartbeats 4000000 in
theorem T_wrongIn {d : Nat} {M0 M : jk_M} {Z : ZS} (cv : MV M0 Z) (s : M.2.2 = M0.2.2) (hM : WM M) (hS : mv M.2.1 = Z.1) (okS : Sok Z.1) (k : Nat) (hk : k < 8) (m : Nat) (hm : m ≤ 40) (z : Nat) (hz9 : z ≤ 160) (ez9 : Z.2.2.1 k 1 = nI z) (hmz : m ≤ z) : J Fr_X11_wrongIn (d + 2) 0 0 0 [(0, .ref 0), (1, .int (nI k)), (2, .int (nI m))] [] M (jk_is (some (.int (fwS Z.1 (tlK Z k) m))) M) := by
  refine j_post (fun Q hQ => ?_)
  refine j_iconst 0 dX11_wrongIn_0 ic_0 ?_
  refine j_istore_n (L' := [(3, .int 0), (0, .ref 0), (1, .int (nI k)), (2, .int (nI m))]) dX11_wrongIn_1 (by decide) rfl ?_
  have lp3 : ∀ (k1 : Nat) (i : Nat), m - i < k1 → (i ≤ m) → (fwN Z.1 (tlK Z k) i = none) → J Fr_X11_wrongIn (d + 2) 0 0 2 [(0, .ref 0), (1, .int (nI k)), (2, .int (nI m)), (3, .int (nI i))] [] M Q := by
    intro k1
    induction k1 with
    | zero => intro i hk; exact absurd hk (Nat.not_lt_zero _)
    | succ k1 ih2 =>
      intro i hk1 hi hf
      refine j_iload_n 3 dX11_wrongIn_2 rfl ?_
      refine j_iload_n 2 dX11_wrongIn_3 rfl ?_
      refine j_icmp_geN (tgt := 54) i m dX11_wrongIn_4 rfl (by omega) (by omega) (fun c4 => ?_) (fun c4 => ?_)
      · refine j_iconst (-1) dX11_wrongIn_54 ic_n1 ?_
        refine j_iret dX11_wrongIn_55 rfl ?_
        have e : i = m := by omega
        subst e
        exact hQ _ _ ⟨by simp only [fwS, hf], rfl⟩
      · refine j_aload_n 0 dX11_wrongIn_7 rfl ?_
        refine j_aload_n 0 dX11_wrongIn_8 rfl ?_
        refine j_iload_n 1 dX11_wrongIn_9 rfl ?_
        refine j_iload_n 3 dX11_wrongIn_10 rfl ?_
        refine j_callV (kc := 0) (ks := 0) (a := 0) (b := 0) (d' := d) (As := [.int (nI k), .int (nI i)]) dX11_wrongIn_11 kX11_287 rfl (shM hM sgM_0) (by omega) rfl rfl rfl (Nat.le_of_ble_eq_true rfl) (Nat.le_of_ble_eq_true rfl) (T_intAt cv s hM k hk i (by omega) (has_z hz9 ez9 (by omega))) (kk_p ?_)
        refine j_callV (kc := 0) (ks := 0) (a := 0) (b := 0) (d' := d) (As := [.int (tlK Z k (nI i))]) dX11_wrongIn_14 kX11_154 rfl (shM hM sgM_0) (by omega) rfl rfl rfl (Nat.le_of_ble_eq_true rfl) (Nat.le_of_ble_eq_true rfl) (T_X11_isCell hM hS okS (tlK Z k (nI i))) (kk_p ?_)
        refine j_if_eqB (p := (isC Z.1 (tlK Z k (nI i)))) (tgt := 46) dX11_wrongIn_17 rfl (fun c5 => ?_) (fun c5 => ?_)
        · refine j_iload_n 3 dX11_wrongIn_46 rfl ?_
          refine j_iret dX11_wrongIn_47 rfl ?_
          have hx := fw_st (fw_y hf (Or.inl c5)) (m - (i + 1))
          rw [show i + 1 + (m - (i + 1)) = m by omega] at hx
          exact hQ _ _ ⟨by simp only [fwS, hx], rfl⟩
        · refine j_iload_n 3 dX11_wrongIn_20 rfl ?_
          refine j_if_leN (tgt := 48) i dX11_wrongIn_21 (by omega) rfl (fun c6 => ?_) (fun c6 => ?_)
          · refine j_iinc 3 (nI (i + 1)) (L' := [(3, .int (nI (i + 1))), (0, .ref 0), (1, .int (nI k)), (2, .int (nI m))]) dX11_wrongIn_48 rfl (inc1 i) (by decide) rfl ?_
            refine j_goto (tgt := 2) dX11_wrongIn_51 rfl ?_
            exact j_sub (jk_pick [1, 2, 3, 0] rfl) (ih2 (i + 1) (by omega) (by omega) (fw_n hf (fun z => z.elim (fun y => y c5) (fun z => by have := z.1; omega))))
          · refine j_aload_n 0 dX11_wrongIn_24 rfl ?_
            refine j_aload_n 0 dX11_wrongIn_25 rfl ?_
            refine j_iload_n 1 dX11_wrongIn_26 rfl ?_
            refine j_iload_n 3 dX11_wrongIn_27 rfl ?_
            refine j_iconst 1 dX11_wrongIn_28 ic_1 ?_
            refine j_isubN i 1 dX11_wrongIn_29 (by omega) ?_
            refine j_callV (kc := 0) (ks := 0) (a := 0) (b := 0) (d' := d) (As := [.int (nI k), .int (nI (i - 1))]) dX11_wrongIn_30 kX11_287 rfl (shM hM sgM_0) (by omega) rfl rfl rfl (Nat.le_of_ble_eq_true rfl) (Nat.le_of_ble_eq_true rfl) (T_intAt cv s hM k hk (i - 1) (by omega) (has_z hz9 ez9 (by omega))) (kk_p ?_)
            refine j_aload_n 0 dX11_wrongIn_33 rfl ?_
            refine j_iload_n 1 dX11_wrongIn_34 rfl ?_
            refine j_iload_n 3 dX11_wrongIn_35 rfl ?_
            refine j_callV (kc := 0) (ks := 0) (a := 0) (b := 0) (d' := d) (As := [.int (nI k), .int (nI i)]) dX11_wrongIn_36 kX11_287 rfl (shM hM sgM_0) (by omega) rfl rfl rfl (Nat.le_of_ble_eq_true rfl) (Nat.le_of_ble_eq_true rfl) (T_intAt cv s hM k hk i (by omega) (has_z hz9 ez9 (by omega))) (kk_p ?_)
            refine j_callV (kc := 0) (ks := 0) (a := 0) (b := 0) (d' := (d + 1)) (As := [.int (tlK Z k (nI (i - 1))), .int (tlK Z k (nI i))]) dX11_wrongIn_39 kX11_242 rfl (shM hM sgM_0) (by omega) rfl rfl rfl (Nat.le_of_ble_eq_true rfl) (Nat.le_of_ble_eq_true rfl) (T_X11_far hM (tlK Z k (nI (i - 1))) (tlK Z k (nI i)) (isC_P okS (fw_cell hf (by omega))) (isC_P okS (by assumption))) (kk_p ?_)
            refine j_iconst 1 dX11_wrongIn_42 ic_1 ?_
            refine j_icmp_le (tgt := 48) dX11_wrongIn_43 rfl (fun c7 => ?_) (fun c7 => ?_)
            · refine j_iinc 3 (nI (i + 1)) (L' := [(3, .int (nI (i + 1))), (0, .ref 0), (1, .int (nI k)), (2, .int (nI m))]) dX11_wrongIn_48 rfl (inc1 i) (by decide) rfl ?_
              refine j_goto (tgt := 2) dX11_wrongIn_51 rfl ?_
              exact j_sub (jk_pick [1, 2, 3, 0] rfl) (ih2 (i + 1) (by omega) (by omega) (fw_n hf (fun z => z.elim (fun y => y c5) (fun z => Int32.not_lt.mpr c7 z.2))))
            · refine j_iload_n 3 dX11_wrongIn_46 rfl ?_
              refine j_iret dX11_wrongIn_47 rfl ?_
              have hx := fw_st (fw_y hf (Or.inr ⟨by omega, Int32.not_le.mp c7⟩)) (m - (i + 1))
              rw [show i + 1 + (m - (i + 1)) = m by omega] at hx
              exact hQ _ _ ⟨by simp only [fwS, hx], rfl⟩
  exact j_sub (jk_pick [1, 2, 3, 0] rfl) (lp3 _ 0 (Nat.lt_succ_self _) (by omega) rfl)
theorem ne1b {b : Int32} (h : b = 0 ∨ b = 1) : ¬ 1 - b = b := by rcases h with rfl | rfl <;> decide
set_option maxRecDepth 20000 in
set_option maxHeartbeats 4000000 in
theorem T_hopsBy {d : Nat} {M0 M : jk_M} {Z : ZS} (cv : MV M0 Z) (s : M.2.2 = M0.2.2) (hM : WM M) (hS : mv M.2.1 = Z.1) (okS : Sok Z.1) (lk : LkO Z.1 M) (k : Nat) (hk : k < 8) (m : Nat) (hm : m ≤ 40) (z : Nat) (hz9 : z ≤ 160) (ez9 : Z.2.2.1 k 1 = nI z) (hmz : m ≤ z) (hcell : ∀ j, j < m → isC Z.1 (tlK Z k (nI j))) (r : Int32) : J Fr_X11_hopsBy (d + 5) 0 0 0 [(0, .ref 0), (1, .int (nI k)), (2, .int (nI m)), (3, .int r)] [] M (jk_is (some (.int (hpS Z.1 (tlK Z k) r m).2)) M) := by
  refine j_post (fun Q hQ => ?_)
  refine j_iconst 0 dX11_hopsBy_0 ic_0 ?_
  refine j_istore (L' := [(4, .int 0), (0, .ref 0), (1, .int (nI k)), (2, .int (nI m)), (3, .int r)]) dX11_hopsBy_1 (by decide) rfl ?_
  refine j_iconst 0 dX11_hopsBy_3 ic_0 ?_
  refine j_istore (L' := [(5, .int 0), (4, .int 0), (0, .ref 0), (1, .int (nI k)), (2, .int (nI m)), (3, .int r)]) dX11_hopsBy_4 (by decide) rfl ?_
  refine j_iconst 0 dX11_hopsBy_6 ic_0 ?_
  refine j_istore (L' := [(6, .int 0), (5, .int 0), (4, .int 0), (0, .ref 0), (1, .int (nI k)), (2, .int (nI m)), (3, .int r)]) dX11_hopsBy_7 (by decide) rfl ?_
  have z1 : (0 : Int32) = (hpS Z.1 (tlK Z k) r 0).1 := rfl
  have z2 : (0 : Int32) = (hpS Z.1 (tlK Z k) r 0).2 := rfl
  refine j_L (congrArg (fun zz9 : Int32 => ([(6, .int 0), (5, .int 0), (4, .int zz9), (0, .ref 0), (1, .int (nI k)), (2, .int (nI m)), (3, .int r)] : List (Nat × Value))) z1) ?_
  refine j_L (congrArg (fun zz9 : Int32 => ([(6, .int 0), (5, .int zz9), (4, .int (hpS Z.1 (tlK Z k) r 0).1), (0, .ref 0), (1, .int (nI k)), (2, .int (nI m)), (3, .int r)] : List (Nat × Value))) z2) ?_
  have lp3 : ∀ (k1 : Nat) (i : Nat), m - i < k1 → (i ≤ m) → J Fr_X11_hopsBy (d + 5) 0 0 9 [(0, .ref 0), (1, .int (nI k)), (2, .int (nI m)), (3, .int r), (4, .int (hpS Z.1 (tlK Z k) r i).1), (5, .int (hpS Z.1 (tlK Z k) r i).2), (6, .int (nI i))] [] M Q := by
    intro k1
    induction k1 with
    | zero => intro i hk; exact absurd hk (Nat.not_lt_zero _)
    | succ k1 ih2 =>
      intro i hk1 hi
      refine j_iload 6 dX11_hopsBy_9 rfl ?_
      refine j_iload_n 2 dX11_hopsBy_11 rfl ?_
      refine j_icmp_geN (tgt := 50) i m dX11_hopsBy_12 rfl (by omega) (by omega) (fun c4 => ?_) (fun c4 => ?_)
      · refine j_iload 5 dX11_hopsBy_50 rfl ?_
        refine j_iret dX11_hopsBy_52 rfl ?_
        have e : i = m := by omega
        subst e
        exact hQ _ _ ⟨rfl, rfl⟩
      · refine j_aload_n 0 dX11_hopsBy_15 rfl ?_
        refine j_iload 4 dX11_hopsBy_16 rfl ?_
        refine j_aload_n 0 dX11_hopsBy_18 rfl ?_
        refine j_iload_n 1 dX11_hopsBy_19 rfl ?_
        refine j_iload 6 dX11_hopsBy_20 rfl ?_
        refine j_callV (kc := 0) (ks := 0) (a := 0) (b := 0) (d' := d) (As := [.int (nI k), .int (nI i)]) dX11_hopsBy_22 kX11_287 rfl (shM hM sgM_0) (by omega) rfl rfl rfl (Nat.le_of_ble_eq_true rfl) (Nat.le_of_ble_eq_true rfl) (T_intAt cv s hM k hk i (by omega) (has_z hz9 ez9 (by omega))) (kk_p ?_)
        refine j_iload_n 3 dX11_hopsBy_25 rfl ?_
        refine j_callV (kc := 0) (ks := 0) (a := 0) (b := 0) (d' := (d + 4)) (As := [.int (hpS Z.1 (tlK Z k) r i).1, .int (tlK Z k (nI i)), .int r]) dX11_hopsBy_26 kX11_305 rfl (shM hM sgM_0) (by omega) rfl rfl rfl (Nat.le_of_ble_eq_true rfl) (Nat.le_of_ble_eq_true rfl) (T_X11_letsGo hM (MEq.of hS) okS lk (hpS Z.1 (tlK Z k) r i).1 (tlK Z k (nI i)) r (hp_01 i) (hcell _ (by omega))) (kk_p ?_)
        refine j_if_neB (p := (barS Z.1 (hpS Z.1 (tlK Z k) r i).1 (tlK Z k (nI i)) ≤ r ∧ barS Z.1 (hpS Z.1 (tlK Z k) r i).1 (tlK Z k (nI i)) < barS Z.1 (1 - (hpS Z.1 (tlK Z k) r i).1) (tlK Z k (nI i)))) (tgt := 35) dX11_hopsBy_29 rfl (fun c5 => ?_) (fun c5 => ?_)
        · refine j_iconst 1 dX11_hopsBy_35 ic_1 ?_
          refine j_iload 4 dX11_hopsBy_36 rfl ?_
          refine j_isub dX11_hopsBy_38 ?_
          refine j_istore (L' := [(4, .int (1 - (hpS Z.1 (tlK Z k) r i).1)), (0, .ref 0), (1, .int (nI k)), (2, .int (nI m)), (3, .int r), (5, .int (hpS Z.1 (tlK Z k) r i).2), (6, .int (nI i))]) dX11_hopsBy_39 (by decide) rfl ?_
          refine j_iinc 5 ((hpS Z.1 (tlK Z k) r i).2 + 1) (L' := [(5, .int ((hpS Z.1 (tlK Z k) r i).2 + 1)), (4, .int (1 - (hpS Z.1 (tlK Z k) r i).1)), (0, .ref 0), (1, .int (nI k)), (2, .int (nI m)), (3, .int r), (6, .int (nI i))]) dX11_hopsBy_41 rfl rfl (by decide) rfl ?_
          refine j_iinc 6 (nI (i + 1)) (L' := [(6, .int (nI (i + 1))), (5, .int ((hpS Z.1 (tlK Z k) r i).2 + 1)), (4, .int (1 - (hpS Z.1 (tlK Z k) r i).1)), (0, .ref 0), (1, .int (nI k)), (2, .int (nI m)), (3, .int r)]) dX11_hopsBy_44 rfl (inc1 i) (by decide) rfl ?_
          refine j_goto (tgt := 9) dX11_hopsBy_47 rfl ?_
          have hb1 : (hpS Z.1 (tlK Z k) r (i + 1)) = ((1 - (hpS Z.1 (tlK Z k) r i).1), ((hpS Z.1 (tlK Z k) r i).2 + 1)) := hp_s.trans (by rw [show clgS Z.1 (hpS Z.1 (tlK Z k) r i).1 ((tlK Z k) (nI i)) r = 1 - (hpS Z.1 (tlK Z k) r i).1 from if_pos c5, if_neg (ne1b (hp_01 i))])
          have hb2 : (1 - (hpS Z.1 (tlK Z k) r i).1) = (hpS Z.1 (tlK Z k) r (i + 1)).1 := by rw [hb1]
          have hb3 : ((hpS Z.1 (tlK Z k) r i).2 + 1) = (hpS Z.1 (tlK Z k) r (i + 1)).2 := by rw [hb1]
          refine j_L (congrArg (fun zz9 : Int32 => ([(6, .int (nI (i + 1))), (5, .int ((hpS Z.1 (tlK Z k) r i).2 + 1)), (4, .int zz9), (0, .ref 0), (1, .int (nI k)), (2, .int (nI m)), (3, .int r)] : List (Nat × Value))) hb2) ?_
          refine j_L (congrArg (fun zz9 : Int32 => ([(6, .int (nI (i + 1))), (5, .int zz9), (4, .int (hpS Z.1 (tlK Z k) r (i + 1)).1), (0, .ref 0), (1, .int (nI k)), (2, .int (nI m)), (3, .int r)] : List (Nat × Value))) hb3) ?_
          exact j_sub (jk_pick [3, 4, 5, 6, 2, 1, 0] rfl) (ih2 (i + 1) (by omega) (by omega))
        · refine j_goto (tgt := 44) dX11_hopsBy_32 rfl ?_
          refine j_iinc 6 (nI (i + 1)) (L' := [(6, .int (nI (i + 1))), (0, .ref 0), (1, .int (nI k)), (2, .int (nI m)), (3, .int r), (4, .int (hpS Z.1 (tlK Z k) r i).1), (5, .int (hpS Z.1 (tlK Z k) r i).2)]) dX11_hopsBy_44 rfl (inc1 i) (by decide) rfl ?_
          refine j_goto (tgt := 9) dX11_hopsBy_47 rfl ?_
          have hb1 : (hpS Z.1 (tlK Z k) r (i + 1)) = ((hpS Z.1 (tlK Z k) r i).1, (hpS Z.1 (tlK Z k) r i).2) := hp_s.trans (by rw [show clgS Z.1 (hpS Z.1 (tlK Z k) r i).1 ((tlK Z k) (nI i)) r = (hpS Z.1 (tlK Z k) r i).1 from if_neg c5, if_pos rfl])
          have hb2 : (hpS Z.1 (tlK Z k) r i).1 = (hpS Z.1 (tlK Z k) r (i + 1)).1 := by rw [hb1]
          have hb3 : (hpS Z.1 (tlK Z k) r i).2 = (hpS Z.1 (tlK Z k) r (i + 1)).2 := by rw [hb1]
          refine j_L (congrArg (fun zz9 : Int32 => ([(6, .int (nI (i + 1))), (0, .ref 0), (1, .int (nI k)), (2, .int (nI m)), (3, .int r), (4, .int zz9), (5, .int (hpS Z.1 (tlK Z k) r i).2)] : List (Nat × Value))) hb2) ?_
          refine j_L (congrArg (fun zz9 : Int32 => ([(6, .int (nI (i + 1))), (0, .ref 0), (1, .int (nI k)), (2, .int (nI m)), (3, .int r), (4, .int (hpS Z.1 (tlK Z k) r (i + 1)).1), (5, .int zz9)] : List (Nat × Value))) hb3) ?_
          exact j_sub (jk_pick [1, 2, 3, 4, 5, 6, 0] rfl) (ih2 (i + 1) (by omega) (by omega))
  exact j_sub (jk_pick [3, 4, 5, 6, 2, 1, 0] rfl) (lp3 _ 0 (Nat.lt_succ_self _) (by omega))
set_option maxRecDepth 20000 in
set_option maxHeartbeats 4000000 in
theorem N_judge0 {d : Nat} {M : jk_M} {Z : ZS} (cv : MV M Z) (ok : Zok Z) (k : Nat) (hk : k < 8) (n : Int32) (h0 : ¬ tdK Z k n 1 = 0) : J Fr_X11_judge (d + 3) 0 0 0 [(0, .ref 0), (1, .int (nI k)), (2, .int n)] [] M (jk_ex (some (.int (judgeK Z n k).1)) (fun M1 => MV M1 (judgeK Z n k).2)) := by
  refine j_post (fun Q hQ => ?_)
  have hM := cv.1
  have hS := cv.2.1
  have okS := ok.1
  have h40 := cv.2.2.2.2.2.2.2.2.2.2.1
  have hsk := shl_k hk
  have hsmk := shm_g (cv.2.2.2.1 k hk)
  have hzok := ok.sh hk
  have hzzk := shok0 hzok
  refine j_aload_n 0 dX11_judge_0 rfl ?_
  refine j_iload_n 1 dX11_judge_1 rfl ?_
  refine j_callV (kc := 0) (ks := 0) (a := 0) (b := 0) (d' := (d + 1)) (As := [.int (nI k)]) dX11_judge_2 kX11_229 rfl (shM hM sgM_0) (by omega) rfl rfl rfl (Nat.le_of_ble_eq_true rfl) (Nat.le_of_ble_eq_true rfl) (T_wanted cv ok k hk) (kk_p ?_)
  refine j_istore_n (L' := [(3, .int (rrK Z k)), (0, .ref 0), (1, .int (nI k)), (2, .int n)]) dX11_judge_5 (by decide) rfl ?_
  refine j_iload_n 0 dX11_judge_6 rfl ?_
  refine j_if_ne (tgt := 47) dX11_judge_7 rfl (fun c1 => ?_) (fun c1 => ?_)
  · refine j_iload_n 0 dX11_judge_47 rfl ?_
    refine j_if_eq (tgt := 59) dX11_judge_48 rfl (fun c2 => ?_) (fun c2 => ?_)
    · exact absurd c2 c1
    · refine j_aload_n 1 dX11_judge_51 rfl ?_
      refine j_iload_n 0 dX11_judge_52 rfl ?_
      refine j_callV (kc := 0) (ks := 0) (a := 0) (b := 0) (d' := d) (As := [.int (rrK Z k)]) dX11_judge_53 kX11_167 rfl (shM hM sgM_0) (by omega) rfl rfl rfl (Nat.le_of_ble_eq_true rfl) (Nat.le_of_ble_eq_true rfl) (T_X11_noTen hM (rrK Z k) (rr_hc (by assumption))) (kk_p ?_)
      refine j_goto (tgt := 65) dX11_judge_56 rfl ?_
      refine j_iret dX11_judge_65 rfl ?_
      have hz : judgeK Z n k = (((rrK Z k) - 10), refZ Z (rrK Z k)) := by
        clear hQ
        clear cv hM hS
        have htd := td1 (z := Z.2.2.1 k 1) (n := n)
        have hcl9 : rrK Z k = 0 → ¬ Z.2.2.1 k 0 = -1 := (by unfold rrK rrS; grind)
        grind [judgeK, cif, tdK, tdS]
      exact hQ _ _ ⟨by rw [hz], by rw [hz]; exact MV.rf cv (rr_hc (by assumption))⟩
  · refine j_iload_n 3 dX11_judge_10 rfl ?_
    refine j_if_ge (tgt := 19) dX11_judge_11 rfl (fun c3 => ?_) (fun c3 => ?_)
    · refine j_iload_n 3 dX11_judge_19 rfl ?_
      refine j_aload_n 1 dX11_judge_20 rfl ?_
      refine j_getr (q := 15) dX11_judge_21 fX11_68 (shM hM sgM_0) rfl (rfM hM rfM_0_23) ?_
      refine j_iload_n 2 dX11_judge_24 rfl ?_
      refine j_ialdN k dX11_judge_25 (shM hM sgM_15) (by omega) (by omega) ?_
      refine j_icmp_le (tgt := 34) dX11_judge_26 rfl (fun c4 => ?_) (fun c4 => ?_)
      · refine j_iload_n 3 dX11_judge_34 rfl ?_
        refine j_bipush 40 dX11_judge_35 bp_40 ?_
        refine j_icmp_le (tgt := 45) dX11_judge_37 rfl (fun c5 => ?_) (fun c5 => ?_)
        · exact absurd (show tdK Z k n 1 = 0 by have htd := td1 (z := Z.2.2.1 k 1) (n := n); have hcl9 : rrK Z k = 0 → ¬ Z.2.2.1 k 0 = -1 := (by unfold rrK rrS; grind); clear hQ cv hM hS ok; grind [tdK, tdS]) h0
        · refine j_bipush (-6) dX11_judge_40 bp_n6 ?_
          refine j_goto (tgt := 46) dX11_judge_42 rfl ?_
          refine j_istore_n (L' := [(3, .int (-6)), (0, .ref 0), (1, .int (nI k)), (2, .int n)]) dX11_judge_46 (by decide) rfl ?_
          refine j_iload_n 0 dX11_judge_47 rfl ?_
          refine j_if_eq (tgt := 59) dX11_judge_48 rfl (fun c6 => ?_) (fun c6 => ?_)
          · exact absurd c6 (by decide)
          · refine j_aload_n 1 dX11_judge_51 rfl ?_
            refine j_iload_n 0 dX11_judge_52 rfl ?_
            refine j_callV (kc := 0) (ks := 0) (a := 0) (b := 0) (d' := d) (As := [.int (-6)]) dX11_judge_53 kX11_167 rfl (shM hM sgM_0) (by omega) rfl rfl rfl (Nat.le_of_ble_eq_true rfl) (Nat.le_of_ble_eq_true rfl) (T_X11_noTen hM (-6) (by decide)) (kk_p ?_)
            refine j_goto (tgt := 65) dX11_judge_56 rfl ?_
            refine j_iret dX11_judge_65 rfl ?_
            have hz : judgeK Z n k = (((-6) - 10), refZ Z (-6)) := by
              clear hQ
              clear cv hM hS
              have htd := td1 (z := Z.2.2.1 k 1) (n := n)
              have hcl9 : rrK Z k = 0 → ¬ Z.2.2.1 k 0 = -1 := (by unfold rrK rrS; grind)
              grind [judgeK, cif, tdK, tdS]
            exact hQ _ _ ⟨by rw [hz], by rw [hz]; exact MV.rf cv (by decide)⟩
      · refine j_bipush (-5) dX11_judge_29 bp_n5 ?_
        refine j_goto (tgt := 46) dX11_judge_31 rfl ?_
        refine j_istore_n (L' := [(3, .int (-5)), (0, .ref 0), (1, .int (nI k)), (2, .int n)]) dX11_judge_46 (by decide) rfl ?_
        refine j_iload_n 0 dX11_judge_47 rfl ?_
        refine j_if_eq (tgt := 59) dX11_judge_48 rfl (fun c7 => ?_) (fun c7 => ?_)
        · exact absurd c7 (by decide)
        · refine j_aload_n 1 dX11_judge_51 rfl ?_
          refine j_iload_n 0 dX11_judge_52 rfl ?_
          refine j_callV (kc := 0) (ks := 0) (a := 0) (b := 0) (d' := d) (As := [.int (-5)]) dX11_judge_53 kX11_167 rfl (shM hM sgM_0) (by omega) rfl rfl rfl (Nat.le_of_ble_eq_true rfl) (Nat.le_of_ble_eq_true rfl) (T_X11_noTen hM (-5) (by decide)) (kk_p ?_)
          refine j_goto (tgt := 65) dX11_judge_56 rfl ?_
          refine j_iret dX11_judge_65 rfl ?_
          have hz : judgeK Z n k = (((-5) - 10), refZ Z (-5)) := by
            clear hQ
            clear cv hM hS
            have htd := td1 (z := Z.2.2.1 k 1) (n := n)
            have hcl9 : rrK Z k = 0 → ¬ Z.2.2.1 k 0 = -1 := (by unfold rrK rrS; grind)
            grind [judgeK, cif, tdK, tdS]
          exact hQ _ _ ⟨by rw [hz], by rw [hz]; exact MV.rf cv (by decide)⟩
    · refine j_bipush (-4) dX11_judge_14 bp_n4 ?_
      refine j_goto (tgt := 46) dX11_judge_16 rfl ?_
      refine j_istore_n (L' := [(3, .int (-4)), (0, .ref 0), (1, .int (nI k)), (2, .int n)]) dX11_judge_46 (by decide) rfl ?_
      refine j_iload_n 0 dX11_judge_47 rfl ?_
      refine j_if_eq (tgt := 59) dX11_judge_48 rfl (fun c8 => ?_) (fun c8 => ?_)
      · exact absurd c8 (by decide)
      · refine j_aload_n 1 dX11_judge_51 rfl ?_
        refine j_iload_n 0 dX11_judge_52 rfl ?_
        refine j_callV (kc := 0) (ks := 0) (a := 0) (b := 0) (d' := d) (As := [.int (-4)]) dX11_judge_53 kX11_167 rfl (shM hM sgM_0) (by omega) rfl rfl rfl (Nat.le_of_ble_eq_true rfl) (Nat.le_of_ble_eq_true rfl) (T_X11_noTen hM (-4) (by decide)) (kk_p ?_)
        refine j_goto (tgt := 65) dX11_judge_56 rfl ?_
        refine j_iret dX11_judge_65 rfl ?_
        have hz : judgeK Z n k = (((-4) - 10), refZ Z (-4)) := by
          clear hQ
          clear cv hM hS
          have htd := td1 (z := Z.2.2.1 k 1) (n := n)
          have hcl9 : rrK Z k = 0 → ¬ Z.2.2.1 k 0 = -1 := (by unfold rrK rrS; grind)
          grind [judgeK, cif, tdK, tdS]
        exact hQ _ _ ⟨by rw [hz], by rw [hz]; exact MV.rf cv (by decide)⟩
set_option maxRecDepth 20000 in
set_option maxHeartbeats 4000000 in
theorem N_judge1 {d : Nat} {M : jk_M} {Z : ZS} (cv : MV M Z) (ok : Zok Z) (k : Nat) (hk : k < 8) (m : Nat) (hm : m ≤ 40) (z : Nat) (hz9 : z ≤ 160) (ez9 : Z.2.2.1 k 1 = nI z) (hmz : m ≤ z) (hr0 : rrK Z k = 0) (h0 : tdK Z k (nI m) 1 = 0) : J Fr_X11_judge (d + 3) 0 0 0 [(0, .ref 0), (1, .int (nI k)), (2, .int (nI m))] [] M (jk_ex (some (.int (judgeK Z (nI m) k).1)) (fun M1 => MV M1 (judgeK Z (nI m) k).2)) := by
  refine j_post (fun Q hQ => ?_)
  have hM := cv.1
  have hS := cv.2.1
  have okS := ok.1
  have h40 := cv.2.2.2.2.2.2.2.2.2.2.1
  have hsk := shl_k hk
  have hsmk := shm_g (cv.2.2.2.1 k hk)
  have hzok := ok.sh hk
  have hzzk := shok0 hzok
  have hszk : M.2.1 15 k = nI z := by rw [← ez9]; clear hQ; grind [rrK, rrS]
  refine j_aload_n 0 dX11_judge_0 rfl ?_
  refine j_iload_n 1 dX11_judge_1 rfl ?_
  refine j_callV (kc := 0) (ks := 0) (a := 0) (b := 0) (d' := (d + 1)) (As := [.int (nI k)]) dX11_judge_2 kX11_229 rfl (shM hM sgM_0) (by omega) rfl rfl rfl (Nat.le_of_ble_eq_true rfl) (Nat.le_of_ble_eq_true rfl) (T_wanted cv ok k hk) (kk_p ?_)
  refine j_istore_n (L' := [(3, .int (rrK Z k)), (0, .ref 0), (1, .int (nI k)), (2, .int (nI m))]) dX11_judge_5 (by decide) rfl ?_
  refine j_iload_n 0 dX11_judge_6 rfl ?_
  refine j_if_ne (tgt := 47) dX11_judge_7 rfl (fun c1 => ?_) (fun c1 => ?_)
  · exact absurd hr0 c1
  · refine j_iload_n 3 dX11_judge_10 rfl ?_
    refine j_if_geN (tgt := 19) m dX11_judge_11 (by omega) rfl ?_
    refine j_iload_n 3 dX11_judge_19 rfl ?_
    refine j_aload_n 1 dX11_judge_20 rfl ?_
    refine j_getr (q := 15) dX11_judge_21 fX11_68 (shM hM sgM_0) rfl (rfM hM rfM_0_23) ?_
    refine j_iload_n 2 dX11_judge_24 rfl ?_
    refine j_ialdN k dX11_judge_25 (shM hM sgM_15) (by omega) (by omega) ?_
    refine j_topi (nI z) hszk ?_
    refine j_icmp_leN (tgt := 34) m z dX11_judge_26 rfl (by omega) (by omega) (fun c3 => ?_) (fun c3 => ?_)
    · refine j_iload_n 3 dX11_judge_34 rfl ?_
      refine j_bipush 40 dX11_judge_35 bp_40 ?_
      refine j_icmp_leN (tgt := 45) m 40 dX11_judge_37 rfl (by omega) (by omega) (fun c4 => ?_) (fun c4 => ?_)
      · refine j_iconst 0 dX11_judge_45 ic_0 ?_
        refine j_istore_n (L' := [(3, .int 0), (0, .ref 0), (1, .int (nI k)), (2, .int (nI m))]) dX11_judge_46 (by decide) rfl ?_
        refine j_iload_n 0 dX11_judge_47 rfl ?_
        refine j_if_eq (tgt := 59) dX11_judge_48 rfl (fun c5 => ?_) (fun c5 => ?_)
        · refine j_aload_n 1 dX11_judge_59 rfl ?_
          refine j_iload_n 2 dX11_judge_60 rfl ?_
          refine j_iload_n 3 dX11_judge_61 rfl ?_
          refine j_callV (kc := 0) (ks := 0) (a := 0) (b := 0) (d' := (d + 2)) (As := [.int (nI k), .int (nI m)]) dX11_judge_62 kX11_302 rfl (shM hM sgM_0) (by omega) rfl rfl rfl (Nat.le_of_ble_eq_true rfl) (Nat.le_of_ble_eq_true rfl) (T_wrongIn cv rfl hM hS okS k hk m hm z hz9 ez9 hmz) (kk_p ?_)
          refine j_iret dX11_judge_65 rfl ?_
          have hz : judgeK Z (nI m) k = ((fwS Z.1 (tlK Z k) m), Z) := by rw [judgeK, cif_f (fun z => z h0), nI_clamp (by omega)]
          exact hQ _ _ ⟨by rw [hz], by rw [hz]; exact cv⟩
        · exact absurd c5 (by decide)
      · exact absurd c4 (by omega)
    · exact absurd c3 (by omega)
set_option maxRecDepth 20000 in
set_option maxHeartbeats 4000000 in
theorem N_judgeNo {d : Nat} {M : jk_M} {Z : ZS} (cv : MV M Z) (ok : Zok Z) (s n : Int32) (hs : ¬ (0 ≤ s ∧ s < 8)) : J Fr_X11_judge (d + 3) 0 0 0 [(0, .ref 0), (1, .int s), (2, .int n)] [] M (jk_ex (some (.int (((-11 : Int32), refZ Z (-1))).1)) (fun M1 => MV M1 (((-11 : Int32), refZ Z (-1))).2)) := by
  refine j_post (fun Q hQ => ?_)
  have hM := cv.1
  have hS := cv.2.1
  have okS := ok.1
  have h40 := cv.2.2.2.2.2.2.2.2.2.2.1
  refine j_aload_n 0 dX11_judge_0 rfl ?_
  refine j_iload_n 1 dX11_judge_1 rfl ?_
  refine j_callV (kc := 0) (ks := 0) (a := 0) (b := 0) (d' := (d + 1)) (As := [.int s]) dX11_judge_2 kX11_229 rfl (shM hM sgM_0) (by omega) rfl rfl rfl (Nat.le_of_ble_eq_true rfl) (Nat.le_of_ble_eq_true rfl) (T_wantedN hM s hs) (kk_p ?_)
  refine j_istore_n (L' := [(3, .int (-1)), (0, .ref 0), (1, .int s), (2, .int n)]) dX11_judge_5 (by decide) rfl ?_
  refine j_iload_n 0 dX11_judge_6 rfl ?_
  refine j_if_ne (tgt := 47) dX11_judge_7 rfl (fun c1 => ?_) (fun c1 => ?_)
  · refine j_iload_n 0 dX11_judge_47 rfl ?_
    refine j_if_eq (tgt := 59) dX11_judge_48 rfl (fun c2 => ?_) (fun c2 => ?_)
    · exact absurd c2 (by decide)
    · refine j_aload_n 1 dX11_judge_51 rfl ?_
      refine j_iload_n 0 dX11_judge_52 rfl ?_
      refine j_callV (kc := 0) (ks := 0) (a := 0) (b := 0) (d' := d) (As := [.int (-1)]) dX11_judge_53 kX11_167 rfl (shM hM sgM_0) (by omega) rfl rfl rfl (Nat.le_of_ble_eq_true rfl) (Nat.le_of_ble_eq_true rfl) (T_X11_noTen hM (-1) (by decide)) (kk_p ?_)
      refine j_goto (tgt := 65) dX11_judge_56 rfl ?_
      refine j_iret dX11_judge_65 rfl ?_
      exact hQ _ _ ⟨congrArg (fun x => some (Value.int x)) (show (-1 - 10 : Int32) = -11 by decide), MV.rf cv (by decide)⟩
  · exact absurd c1 (by decide)
theorem N_judge {d : Nat} {M : jk_M} {Z : ZS} (cv : MV M Z) (ok : Zok Z) (s n : Int32) : J Fr_X11_judge (d + 3) 0 0 0 [(0, .ref 0), (1, .int s), (2, .int n)] [] M (jk_ex (some (.int (judgeZ Z s n).1)) (fun M1 => MV M1 (judgeZ Z s n).2)) := by
  by_cases h : 0 ≤ s ∧ s < 8
  · obtain ⟨k, hk, rfl⟩ := s_in h
    rw [judgeZ, inS_y hk]
    by_cases h0 : tdK Z k n 1 = 0
    · obtain ⟨m, hm, rfl⟩ := td_n h0
      obtain ⟨z, hz9, ez9, hmz, hr0⟩ := td_z ok hk hm h0
      exact N_judge1 cv ok k hk m hm z hz9 ez9 hmz hr0 h0
    · exact N_judge0 cv ok k hk n h0
  · rw [judgeZ, inS_n h]; exact N_judgeNo cv ok s n h
set_option maxRecDepth 20000 in
set_option maxHeartbeats 4000000 in
theorem N_hops0 {d : Nat} {M : jk_M} {Z : ZS} (cv : MV M Z) (ok : Zok Z) (k : Nat) (hk : k < 8) (n r : Int32) (h0 : ¬ tdK Z k n 1 = 0) : J Fr_X11_hops (d + 6) 0 0 0 [(0, .ref 0), (1, .int (nI k)), (2, .int n), (3, .int r)] [] M (jk_ex (some (.int (hopsK Z n r k).1)) (fun M1 => MV M1 (hopsK Z n r k).2)) := by
  refine j_post (fun Q hQ => ?_)
  have hM := cv.1
  have hS := cv.2.1
  have okS := ok.1
  have h40 := cv.2.2.2.2.2.2.2.2.2.2.1
  have hsk := shl_k hk
  have hsmk := shm_g (cv.2.2.2.1 k hk)
  have hzok := ok.sh hk
  have hzzk := shok0 hzok
  refine j_aload_n 0 dX11_hops_0 rfl ?_
  refine j_iload_n 1 dX11_hops_1 rfl ?_
  refine j_callV (kc := 0) (ks := 0) (a := 0) (b := 0) (d' := (d + 1)) (As := [.int (nI k)]) dX11_hops_2 kX11_229 rfl (shM hM sgM_0) (by omega) rfl rfl rfl (Nat.le_of_ble_eq_true rfl) (Nat.le_of_ble_eq_true rfl) (T_wanted cv ok k hk) (kk_p ?_)
  refine j_istore (L' := [(4, .int (rrK Z k)), (0, .ref 0), (1, .int (nI k)), (2, .int n), (3, .int r)]) dX11_hops_5 (by decide) rfl ?_
  refine j_iload 0 dX11_hops_7 rfl ?_
  refine j_if_ne (tgt := 70) dX11_hops_9 rfl (fun c1 => ?_) (fun c1 => ?_)
  · refine j_iload 0 dX11_hops_70 rfl ?_
    refine j_if_eq (tgt := 82) dX11_hops_72 rfl (fun c2 => ?_) (fun c2 => ?_)
    · exact absurd c2 c1
    · refine j_aload_n 1 dX11_hops_75 rfl ?_
      refine j_iload 0 dX11_hops_76 rfl ?_
      refine j_callV (kc := 0) (ks := 0) (a := 0) (b := 0) (d' := d) (As := [.int (rrK Z k)]) dX11_hops_78 kX11_130 rfl (shM hM sgM_0) (by omega) rfl rfl rfl (Nat.le_of_ble_eq_true rfl) (Nat.le_of_ble_eq_true rfl) (T_X11_no hM (rrK Z k) (rr_hc (by assumption))) (kk_p ?_)
      refine j_iret dX11_hops_81 rfl ?_
      have hz : hopsK Z n r k = ((rrK Z k), refZ Z (rrK Z k)) := by
        clear hQ
        clear cv hM hS
        have htd := td1 (z := Z.2.2.1 k 1) (n := n)
        have hcl9 : rrK Z k = 0 → ¬ Z.2.2.1 k 0 = -1 := (by unfold rrK rrS; grind)
        grind [hopsK, cif, tdK, tdS]
      exact hQ _ _ ⟨by rw [hz], by rw [hz]; exact MV.rf cv (rr_hc (by assumption))⟩
  · refine j_iload_n 3 dX11_hops_12 rfl ?_
    refine j_if_ge (tgt := 21) dX11_hops_13 rfl (fun c3 => ?_) (fun c3 => ?_)
    · refine j_iload_n 3 dX11_hops_21 rfl ?_
      refine j_aload_n 1 dX11_hops_22 rfl ?_
      refine j_getr (q := 15) dX11_hops_23 fX11_68 (shM hM sgM_0) rfl (rfM hM rfM_0_23) ?_
      refine j_iload_n 2 dX11_hops_26 rfl ?_
      refine j_ialdN k dX11_hops_27 (shM hM sgM_15) (by omega) (by omega) ?_
      refine j_icmp_le (tgt := 36) dX11_hops_28 rfl (fun c4 => ?_) (fun c4 => ?_)
      · refine j_iload_n 3 dX11_hops_36 rfl ?_
        refine j_bipush 40 dX11_hops_37 bp_40 ?_
        refine j_icmp_gt (tgt := 62) dX11_hops_39 rfl (fun c5 => ?_) (fun c5 => ?_)
        · refine j_bipush (-6) dX11_hops_62 bp_n6 ?_
          refine j_goto (tgt := 68) dX11_hops_64 rfl ?_
          refine j_istore (L' := [(4, .int (-6)), (0, .ref 0), (1, .int (nI k)), (2, .int n), (3, .int r)]) dX11_hops_68 (by decide) rfl ?_
          refine j_iload 0 dX11_hops_70 rfl ?_
          refine j_if_eq (tgt := 82) dX11_hops_72 rfl (fun c6 => ?_) (fun c6 => ?_)
          · exact absurd c6 (by decide)
          · refine j_aload_n 1 dX11_hops_75 rfl ?_
            refine j_iload 0 dX11_hops_76 rfl ?_
            refine j_callV (kc := 0) (ks := 0) (a := 0) (b := 0) (d' := d) (As := [.int (-6)]) dX11_hops_78 kX11_130 rfl (shM hM sgM_0) (by omega) rfl rfl rfl (Nat.le_of_ble_eq_true rfl) (Nat.le_of_ble_eq_true rfl) (T_X11_no hM (-6) (by decide)) (kk_p ?_)
            refine j_iret dX11_hops_81 rfl ?_
            have hz : hopsK Z n r k = ((-6), refZ Z (-6)) := by
              clear hQ
              clear cv hM hS
              have htd := td1 (z := Z.2.2.1 k 1) (n := n)
              have hcl9 : rrK Z k = 0 → ¬ Z.2.2.1 k 0 = -1 := (by unfold rrK rrS; grind)
              grind [hopsK, cif, tdK, tdS]
            exact hQ _ _ ⟨by rw [hz], by rw [hz]; exact MV.rf cv (by decide)⟩
        · exact absurd (show tdK Z k n 1 = 0 by have htd := td1 (z := Z.2.2.1 k 1) (n := n); have hcl9 : rrK Z k = 0 → ¬ Z.2.2.1 k 0 = -1 := (by unfold rrK rrS; grind); clear hQ cv hM hS ok; grind [tdK, tdS]) h0
      · refine j_bipush (-5) dX11_hops_31 bp_n5 ?_
        refine j_goto (tgt := 68) dX11_hops_33 rfl ?_
        refine j_istore (L' := [(4, .int (-5)), (0, .ref 0), (1, .int (nI k)), (2, .int n), (3, .int r)]) dX11_hops_68 (by decide) rfl ?_
        refine j_iload 0 dX11_hops_70 rfl ?_
        refine j_if_eq (tgt := 82) dX11_hops_72 rfl (fun c7 => ?_) (fun c7 => ?_)
        · exact absurd c7 (by decide)
        · refine j_aload_n 1 dX11_hops_75 rfl ?_
          refine j_iload 0 dX11_hops_76 rfl ?_
          refine j_callV (kc := 0) (ks := 0) (a := 0) (b := 0) (d' := d) (As := [.int (-5)]) dX11_hops_78 kX11_130 rfl (shM hM sgM_0) (by omega) rfl rfl rfl (Nat.le_of_ble_eq_true rfl) (Nat.le_of_ble_eq_true rfl) (T_X11_no hM (-5) (by decide)) (kk_p ?_)
          refine j_iret dX11_hops_81 rfl ?_
          have hz : hopsK Z n r k = ((-5), refZ Z (-5)) := by
            clear hQ
            clear cv hM hS
            have htd := td1 (z := Z.2.2.1 k 1) (n := n)
            have hcl9 : rrK Z k = 0 → ¬ Z.2.2.1 k 0 = -1 := (by unfold rrK rrS; grind)
            grind [hopsK, cif, tdK, tdS]
          exact hQ _ _ ⟨by rw [hz], by rw [hz]; exact MV.rf cv (by decide)⟩
    · refine j_bipush (-4) dX11_hops_16 bp_n4 ?_
      refine j_goto (tgt := 68) dX11_hops_18 rfl ?_
      refine j_istore (L' := [(4, .int (-4)), (0, .ref 0), (1, .int (nI k)), (2, .int n), (3, .int r)]) dX11_hops_68 (by decide) rfl ?_
      refine j_iload 0 dX11_hops_70 rfl ?_
      refine j_if_eq (tgt := 82) dX11_hops_72 rfl (fun c8 => ?_) (fun c8 => ?_)
      · exact absurd c8 (by decide)
      · refine j_aload_n 1 dX11_hops_75 rfl ?_
        refine j_iload 0 dX11_hops_76 rfl ?_
        refine j_callV (kc := 0) (ks := 0) (a := 0) (b := 0) (d' := d) (As := [.int (-4)]) dX11_hops_78 kX11_130 rfl (shM hM sgM_0) (by omega) rfl rfl rfl (Nat.le_of_ble_eq_true rfl) (Nat.le_of_ble_eq_true rfl) (T_X11_no hM (-4) (by decide)) (kk_p ?_)
        refine j_iret dX11_hops_81 rfl ?_
        have hz : hopsK Z n r k = ((-4), refZ Z (-4)) := by
          clear hQ
          clear cv hM hS
          have htd := td1 (z := Z.2.2.1 k 1) (n := n)
          have hcl9 : rrK Z k = 0 → ¬ Z.2.2.1 k 0 = -1 := (by unfold rrK rrS; grind)
          grind [hopsK, cif, tdK, tdS]
        exact hQ _ _ ⟨by rw [hz], by rw [hz]; exact MV.rf cv (by decide)⟩
set_option maxRecDepth 20000 in
set_option maxHeartbeats 4000000 in
theorem N_hops1 {d : Nat} {M : jk_M} {Z : ZS} (cv : MV M Z) (ok : Zok Z) (k : Nat) (hk : k < 8) (m : Nat) (hm : m ≤ 40) (z : Nat) (hz9 : z ≤ 160) (ez9 : Z.2.2.1 k 1 = nI z) (hmz : m ≤ z) (hr0 : rrK Z k = 0) (h0 : tdK Z k (nI m) 1 = 0) (r : Int32) : J Fr_X11_hops (d + 6) 0 0 0 [(0, .ref 0), (1, .int (nI k)), (2, .int (nI m)), (3, .int r)] [] M (jk_ex (some (.int (hopsK Z (nI m) r k).1)) (fun M1 => MV M1 (hopsK Z (nI m) r k).2)) := by
  refine j_post (fun Q hQ => ?_)
  have hM := cv.1
  have hS := cv.2.1
  have okS := ok.1
  have h40 := cv.2.2.2.2.2.2.2.2.2.2.1
  have hsk := shl_k hk
  have hsmk := shm_g (cv.2.2.2.1 k hk)
  have hzok := ok.sh hk
  have hzzk := shok0 hzok
  have hszk : M.2.1 15 k = nI z := by rw [← ez9]; clear hQ; grind [rrK, rrS]
  refine j_aload_n 0 dX11_hops_0 rfl ?_
  refine j_iload_n 1 dX11_hops_1 rfl ?_
  refine j_callV (kc := 0) (ks := 0) (a := 0) (b := 0) (d' := (d + 1)) (As := [.int (nI k)]) dX11_hops_2 kX11_229 rfl (shM hM sgM_0) (by omega) rfl rfl rfl (Nat.le_of_ble_eq_true rfl) (Nat.le_of_ble_eq_true rfl) (T_wanted cv ok k hk) (kk_p ?_)
  refine j_istore (L' := [(4, .int (rrK Z k)), (0, .ref 0), (1, .int (nI k)), (2, .int (nI m)), (3, .int r)]) dX11_hops_5 (by decide) rfl ?_
  refine j_iload 0 dX11_hops_7 rfl ?_
  refine j_if_ne (tgt := 70) dX11_hops_9 rfl (fun c1 => ?_) (fun c1 => ?_)
  · exact absurd hr0 c1
  · refine j_iload_n 3 dX11_hops_12 rfl ?_
    refine j_if_geN (tgt := 21) m dX11_hops_13 (by omega) rfl ?_
    refine j_iload_n 3 dX11_hops_21 rfl ?_
    refine j_aload_n 1 dX11_hops_22 rfl ?_
    refine j_getr (q := 15) dX11_hops_23 fX11_68 (shM hM sgM_0) rfl (rfM hM rfM_0_23) ?_
    refine j_iload_n 2 dX11_hops_26 rfl ?_
    refine j_ialdN k dX11_hops_27 (shM hM sgM_15) (by omega) (by omega) ?_
    refine j_topi (nI z) hszk ?_
    refine j_icmp_leN (tgt := 36) m z dX11_hops_28 rfl (by omega) (by omega) (fun c3 => ?_) (fun c3 => ?_)
    · refine j_iload_n 3 dX11_hops_36 rfl ?_
      refine j_bipush 40 dX11_hops_37 bp_40 ?_
      refine j_icmp_gtN (tgt := 62) m 40 dX11_hops_39 rfl (by omega) (by omega) (fun c4 => ?_) (fun c4 => ?_)
      · exact absurd c4 (by omega)
      · refine j_aload_n 1 dX11_hops_42 rfl ?_
        refine j_iload_n 4 dX11_hops_43 rfl ?_
        refine j_iconst (-1) dX11_hops_44 ic_n1 ?_
        refine j_iconst 4 dX11_hops_45 ic_4 ?_
        refine j_callV (kc := 0) (ks := 0) (a := 0) (b := 0) (d' := d) (As := [.int r, .int (-1), .int 4]) dX11_hops_46 kX11_150 rfl (shM hM sgM_0) (by omega) rfl rfl rfl (Nat.le_of_ble_eq_true rfl) (Nat.le_of_ble_eq_true rfl) (T_X11_isFrom r (-1) 4) (kk_p ?_)
        refine j_if_eqB (p := ((-1) ≤ r ∧ r ≤ 4)) (tgt := 62) dX11_hops_49 rfl (fun c5 => ?_) (fun c5 => ?_)
        · refine j_bipush (-6) dX11_hops_62 bp_n6 ?_
          refine j_goto (tgt := 68) dX11_hops_64 rfl ?_
          refine j_istore (L' := [(4, .int (-6)), (0, .ref 0), (1, .int (nI k)), (2, .int (nI m)), (3, .int r)]) dX11_hops_68 (by decide) rfl ?_
          refine j_iload 0 dX11_hops_70 rfl ?_
          refine j_if_eq (tgt := 82) dX11_hops_72 rfl (fun c6 => ?_) (fun c6 => ?_)
          · exact absurd c6 (by decide)
          · refine j_aload_n 1 dX11_hops_75 rfl ?_
            refine j_iload 0 dX11_hops_76 rfl ?_
            refine j_callV (kc := 0) (ks := 0) (a := 0) (b := 0) (d' := d) (As := [.int (-6)]) dX11_hops_78 kX11_130 rfl (shM hM sgM_0) (by omega) rfl rfl rfl (Nat.le_of_ble_eq_true rfl) (Nat.le_of_ble_eq_true rfl) (T_X11_no hM (-6) (by decide)) (kk_p ?_)
            refine j_iret dX11_hops_81 rfl ?_
            have hz : hopsK Z (nI m) r k = ((-6), (refZ Z (-6))) := by
              clear hQ
              clear cv hM hS
              have hcl := nI_clamp (show m < 2 ^ 31 by omega)
              have h13 := may_13 (S := Z.1) (v := r)
              grind [hopsK, cif]
            exact hQ _ _ ⟨by rw [hz], by rw [hz]; exact MV.rf cv (by decide)⟩
        · refine j_aload_n 1 dX11_hops_52 rfl ?_
          refine j_iload_n 2 dX11_hops_53 rfl ?_
          refine j_iload_n 3 dX11_hops_54 rfl ?_
          refine j_callV (kc := 0) (ks := 0) (a := 0) (b := 0) (d' := (d + 2)) (As := [.int (nI k), .int (nI m)]) dX11_hops_55 kX11_302 rfl (shM hM sgM_0) (by omega) rfl rfl rfl (Nat.le_of_ble_eq_true rfl) (Nat.le_of_ble_eq_true rfl) (T_wrongIn cv rfl hM hS okS k hk m hm z hz9 ez9 hmz) (kk_p ?_)
          refine j_iconst (-1) dX11_hops_58 ic_n1 ?_
          refine j_icmp_eq (tgt := 67) dX11_hops_59 rfl (fun c7 => ?_) (fun c7 => ?_)
          · refine j_iconst 0 dX11_hops_67 ic_0 ?_
            refine j_istore (L' := [(4, .int 0), (0, .ref 0), (1, .int (nI k)), (2, .int (nI m)), (3, .int r)]) dX11_hops_68 (by decide) rfl ?_
            refine j_iload 0 dX11_hops_70 rfl ?_
            refine j_if_eq (tgt := 82) dX11_hops_72 rfl (fun c8 => ?_) (fun c8 => ?_)
            · have hfw : fwS Z.1 (tlK Z k) m = -1 := by assumption
              have hcell : ∀ j, j < m → isC Z.1 (tlK Z k (nI j)) := fun j hj => fw_cell (fwS_n (by omega) hfw) hj
              refine j_aload_n 1 dX11_hops_82 rfl ?_
              refine j_callV (kc := 0) (ks := 0) (a := 0) (b := 0) (d' := (d + 3)) (As := []) dX11_hops_83 kX11_181 rfl (shM hM sgM_0) (by omega) rfl rfl rfl (Nat.le_of_ble_eq_true rfl) (Nat.le_of_ble_eq_true rfl) (T_X11_looks hM hS okS h40 (GT.no okS) okS) (kk_ev (fun M9 hM10 => ?_))
              obtain ⟨h011, lk13⟩ := hM10
              have sm12 : Fm PS M M9 := Fm.mo h011 PLk_S
              refine j_iload_n 4 dX11_hops_86 rfl ?_
              refine j_iconst (-1) dX11_hops_87 ic_n1 ?_
              refine j_icmp_eq (tgt := 99) dX11_hops_88 rfl (fun c14 => ?_) (fun c14 => ?_)
              · refine j_iconst 4 dX11_hops_99 ic_4 ?_
                refine j_istore (L' := [(5, .int 4), (4, .int 0), (0, .ref 0), (1, .int (nI k)), (2, .int (nI m)), (3, .int r)]) dX11_hops_100 (by decide) rfl ?_
                refine j_iconst 3 dX11_hops_102 ic_3 ?_
                refine j_istore (L' := [(6, .int 3), (5, .int 4), (4, .int 0), (0, .ref 0), (1, .int (nI k)), (2, .int (nI m)), (3, .int r)]) dX11_hops_103 (by decide) rfl ?_
                refine j_iload 0 dX11_hops_105 rfl ?_
                refine j_if_lt (tgt := 139) dX11_hops_107 rfl (fun c15 => ?_) (fun c15 => ?_)
                · exact absurd c15 (by decide)
                · refine j_aload_n 3 dX11_hops_110 rfl ?_
                  refine j_iload_n 4 dX11_hops_111 rfl ?_
                  refine j_iload_n 5 dX11_hops_112 rfl ?_
                  refine j_iload 0 dX11_hops_113 rfl ?_
                  refine j_callV (kc := 0) (ks := 0) (a := 0) (b := 0) (d' := (d + 5)) (As := [.int (nI k), .int (nI m), .int 3]) dX11_hops_115 kX11_308 rfl (shM (Fm.M sm12 hM) sgM_0) (by omega) rfl rfl rfl (Nat.le_of_ble_eq_true rfl) (Nat.le_of_ble_eq_true rfl) (T_hopsBy cv sm12.2.1 (Fm.M sm12 hM) (Fm.mv sm12 hS PS_H) okS lk13 k hk m hm z hz9 ez9 hmz hcell 3) (kk_p ?_)
                  refine j_aload_n 3 dX11_hops_118 rfl ?_
                  refine j_iload_n 4 dX11_hops_119 rfl ?_
                  refine j_iload_n 5 dX11_hops_120 rfl ?_
                  refine j_iload 1 dX11_hops_121 rfl ?_
                  refine j_callV (kc := 0) (ks := 0) (a := 0) (b := 0) (d' := (d + 5)) (As := [.int (nI k), .int (nI m), .int 4]) dX11_hops_123 kX11_308 rfl (shM (Fm.M sm12 hM) sgM_0) (by omega) rfl rfl rfl (Nat.le_of_ble_eq_true rfl) (Nat.le_of_ble_eq_true rfl) (T_hopsBy cv sm12.2.1 (Fm.M sm12 hM) (Fm.mv sm12 hS PS_H) okS lk13 k hk m hm z hz9 ez9 hmz hcell 4) (kk_p ?_)
                  refine j_icmp_ge (tgt := 133) dX11_hops_126 rfl (fun c16 => ?_) (fun c16 => ?_)
                  · refine j_iinc 0 2 (L' := [(6, .int 2), (5, .int 4), (4, .int 0), (0, .ref 0), (1, .int (nI k)), (2, .int (nI m)), (3, .int r)]) dX11_hops_133 rfl (by decide) (by decide) rfl ?_
                    refine j_goto (tgt := 105) dX11_hops_136 rfl ?_
                    refine j_iload 0 dX11_hops_105 rfl ?_
                    refine j_if_lt (tgt := 139) dX11_hops_107 rfl (fun c17 => ?_) (fun c17 => ?_)
                    · exact absurd c17 (by decide)
                    · refine j_aload_n 3 dX11_hops_110 rfl ?_
                      refine j_iload_n 4 dX11_hops_111 rfl ?_
                      refine j_iload_n 5 dX11_hops_112 rfl ?_
                      refine j_iload 0 dX11_hops_113 rfl ?_
                      refine j_callV (kc := 0) (ks := 0) (a := 0) (b := 0) (d' := (d + 5)) (As := [.int (nI k), .int (nI m), .int 2]) dX11_hops_115 kX11_308 rfl (shM (Fm.M sm12 hM) sgM_0) (by omega) rfl rfl rfl (Nat.le_of_ble_eq_true rfl) (Nat.le_of_ble_eq_true rfl) (T_hopsBy cv sm12.2.1 (Fm.M sm12 hM) (Fm.mv sm12 hS PS_H) okS lk13 k hk m hm z hz9 ez9 hmz hcell 2) (kk_p ?_)
                      refine j_aload_n 3 dX11_hops_118 rfl ?_
                      refine j_iload_n 4 dX11_hops_119 rfl ?_
                      refine j_iload_n 5 dX11_hops_120 rfl ?_
                      refine j_iload 1 dX11_hops_121 rfl ?_
                      refine j_callV (kc := 0) (ks := 0) (a := 0) (b := 0) (d' := (d + 5)) (As := [.int (nI k), .int (nI m), .int 4]) dX11_hops_123 kX11_308 rfl (shM (Fm.M sm12 hM) sgM_0) (by omega) rfl rfl rfl (Nat.le_of_ble_eq_true rfl) (Nat.le_of_ble_eq_true rfl) (T_hopsBy cv sm12.2.1 (Fm.M sm12 hM) (Fm.mv sm12 hS PS_H) okS lk13 k hk m hm z hz9 ez9 hmz hcell 4) (kk_p ?_)
                      refine j_icmp_ge (tgt := 133) dX11_hops_126 rfl (fun c18 => ?_) (fun c18 => ?_)
                      · refine j_iinc 0 1 (L' := [(6, .int 1), (5, .int 4), (4, .int 0), (0, .ref 0), (1, .int (nI k)), (2, .int (nI m)), (3, .int r)]) dX11_hops_133 rfl (by decide) (by decide) rfl ?_
                        refine j_goto (tgt := 105) dX11_hops_136 rfl ?_
                        refine j_iload 0 dX11_hops_105 rfl ?_
                        refine j_if_lt (tgt := 139) dX11_hops_107 rfl (fun c19 => ?_) (fun c19 => ?_)
                        · exact absurd c19 (by decide)
                        · refine j_aload_n 3 dX11_hops_110 rfl ?_
                          refine j_iload_n 4 dX11_hops_111 rfl ?_
                          refine j_iload_n 5 dX11_hops_112 rfl ?_
                          refine j_iload 0 dX11_hops_113 rfl ?_
                          refine j_callV (kc := 0) (ks := 0) (a := 0) (b := 0) (d' := (d + 5)) (As := [.int (nI k), .int (nI m), .int 1]) dX11_hops_115 kX11_308 rfl (shM (Fm.M sm12 hM) sgM_0) (by omega) rfl rfl rfl (Nat.le_of_ble_eq_true rfl) (Nat.le_of_ble_eq_true rfl) (T_hopsBy cv sm12.2.1 (Fm.M sm12 hM) (Fm.mv sm12 hS PS_H) okS lk13 k hk m hm z hz9 ez9 hmz hcell 1) (kk_p ?_)
                          refine j_aload_n 3 dX11_hops_118 rfl ?_
                          refine j_iload_n 4 dX11_hops_119 rfl ?_
                          refine j_iload_n 5 dX11_hops_120 rfl ?_
                          refine j_iload 1 dX11_hops_121 rfl ?_
                          refine j_callV (kc := 0) (ks := 0) (a := 0) (b := 0) (d' := (d + 5)) (As := [.int (nI k), .int (nI m), .int 4]) dX11_hops_123 kX11_308 rfl (shM (Fm.M sm12 hM) sgM_0) (by omega) rfl rfl rfl (Nat.le_of_ble_eq_true rfl) (Nat.le_of_ble_eq_true rfl) (T_hopsBy cv sm12.2.1 (Fm.M sm12 hM) (Fm.mv sm12 hS PS_H) okS lk13 k hk m hm z hz9 ez9 hmz hcell 4) (kk_p ?_)
                          refine j_icmp_ge (tgt := 133) dX11_hops_126 rfl (fun c20 => ?_) (fun c20 => ?_)
                          · refine j_iinc 0 0 (L' := [(6, .int 0), (5, .int 4), (4, .int 0), (0, .ref 0), (1, .int (nI k)), (2, .int (nI m)), (3, .int r)]) dX11_hops_133 rfl (by decide) (by decide) rfl ?_
                            refine j_goto (tgt := 105) dX11_hops_136 rfl ?_
                            refine j_iload 0 dX11_hops_105 rfl ?_
                            refine j_if_lt (tgt := 139) dX11_hops_107 rfl (fun c21 => ?_) (fun c21 => ?_)
                            · exact absurd c21 (by decide)
                            · refine j_aload_n 3 dX11_hops_110 rfl ?_
                              refine j_iload_n 4 dX11_hops_111 rfl ?_
                              refine j_iload_n 5 dX11_hops_112 rfl ?_
                              refine j_iload 0 dX11_hops_113 rfl ?_
                              refine j_callV (kc := 0) (ks := 0) (a := 0) (b := 0) (d' := (d + 5)) (As := [.int (nI k), .int (nI m), .int 0]) dX11_hops_115 kX11_308 rfl (shM (Fm.M sm12 hM) sgM_0) (by omega) rfl rfl rfl (Nat.le_of_ble_eq_true rfl) (Nat.le_of_ble_eq_true rfl) (T_hopsBy cv sm12.2.1 (Fm.M sm12 hM) (Fm.mv sm12 hS PS_H) okS lk13 k hk m hm z hz9 ez9 hmz hcell 0) (kk_p ?_)
                              refine j_aload_n 3 dX11_hops_118 rfl ?_
                              refine j_iload_n 4 dX11_hops_119 rfl ?_
                              refine j_iload_n 5 dX11_hops_120 rfl ?_
                              refine j_iload 1 dX11_hops_121 rfl ?_
                              refine j_callV (kc := 0) (ks := 0) (a := 0) (b := 0) (d' := (d + 5)) (As := [.int (nI k), .int (nI m), .int 4]) dX11_hops_123 kX11_308 rfl (shM (Fm.M sm12 hM) sgM_0) (by omega) rfl rfl rfl (Nat.le_of_ble_eq_true rfl) (Nat.le_of_ble_eq_true rfl) (T_hopsBy cv sm12.2.1 (Fm.M sm12 hM) (Fm.mv sm12 hS PS_H) okS lk13 k hk m hm z hz9 ez9 hmz hcell 4) (kk_p ?_)
                              refine j_icmp_ge (tgt := 133) dX11_hops_126 rfl (fun c22 => ?_) (fun c22 => ?_)
                              · refine j_iinc 0 (-1) (L' := [(6, .int (-1)), (5, .int 4), (4, .int 0), (0, .ref 0), (1, .int (nI k)), (2, .int (nI m)), (3, .int r)]) dX11_hops_133 rfl (by decide) (by decide) rfl ?_
                                refine j_goto (tgt := 105) dX11_hops_136 rfl ?_
                                refine j_iload 0 dX11_hops_105 rfl ?_
                                refine j_if_lt (tgt := 139) dX11_hops_107 rfl (fun c23 => ?_) (fun c23 => ?_)
                                · refine j_iload 1 dX11_hops_139 rfl ?_
                                  refine j_iret dX11_hops_141 rfl ?_
                                  have hcm := cm4 (S := Z.1) (tl := tlK Z k) (n := m) (h := fun r => (hpS Z.1 (tlK Z k) r m).2) (fun r => rfl)
                                  have hc9 : (cmS Z.1 (tlK Z k) m 4).1 = 4 := by
                                    rw [hcm]
                                    simp only [cmH]
                                    clear hQ cv hM hS ok hcm
                                    generalize (hpS Z.1 (tlK Z k) 0 m).2 = g0 at *
                                    generalize (hpS Z.1 (tlK Z k) 1 m).2 = g1 at *
                                    generalize (hpS Z.1 (tlK Z k) 2 m).2 = g2 at *
                                    generalize (hpS Z.1 (tlK Z k) 3 m).2 = g3 at *
                                    generalize (hpS Z.1 (tlK Z k) 4 m).2 = g4 at *
                                    grind
                                  have hz : hopsK Z (nI m) r k = (4, Z) := by
                                    clear hQ
                                    clear cv hM hS
                                    have hcl := nI_clamp (show m < 2 ^ 31 by omega)
                                    have h13 := may_13 (S := Z.1) (v := r)
                                    grind [hopsK, cif]
                                  exact hQ _ _ ⟨by rw [hz], by rw [hz]; exact MV.sc cv sm12⟩
                                · exact absurd c23 (by decide)
                              · refine j_iload 0 dX11_hops_129 rfl ?_
                                refine j_istore (L' := [(5, .int 0), (6, .int 0), (4, .int 0), (0, .ref 0), (1, .int (nI k)), (2, .int (nI m)), (3, .int r)]) dX11_hops_131 (by decide) rfl ?_
                                refine j_iinc 1 (-1) (L' := [(6, .int (-1)), (5, .int 0), (4, .int 0), (0, .ref 0), (1, .int (nI k)), (2, .int (nI m)), (3, .int r)]) dX11_hops_133 rfl (by decide) (by decide) rfl ?_
                                refine j_goto (tgt := 105) dX11_hops_136 rfl ?_
                                refine j_iload 0 dX11_hops_105 rfl ?_
                                refine j_if_lt (tgt := 139) dX11_hops_107 rfl (fun c24 => ?_) (fun c24 => ?_)
                                · refine j_iload 1 dX11_hops_139 rfl ?_
                                  refine j_iret dX11_hops_141 rfl ?_
                                  have hcm := cm4 (S := Z.1) (tl := tlK Z k) (n := m) (h := fun r => (hpS Z.1 (tlK Z k) r m).2) (fun r => rfl)
                                  have hc9 : (cmS Z.1 (tlK Z k) m 4).1 = 0 := by
                                    rw [hcm]
                                    simp only [cmH]
                                    clear hQ cv hM hS ok hcm
                                    generalize (hpS Z.1 (tlK Z k) 0 m).2 = g0 at *
                                    generalize (hpS Z.1 (tlK Z k) 1 m).2 = g1 at *
                                    generalize (hpS Z.1 (tlK Z k) 2 m).2 = g2 at *
                                    generalize (hpS Z.1 (tlK Z k) 3 m).2 = g3 at *
                                    generalize (hpS Z.1 (tlK Z k) 4 m).2 = g4 at *
                                    grind
                                  have hz : hopsK Z (nI m) r k = (0, Z) := by
                                    clear hQ
                                    clear cv hM hS
                                    have hcl := nI_clamp (show m < 2 ^ 31 by omega)
                                    have h13 := may_13 (S := Z.1) (v := r)
                                    grind [hopsK, cif]
                                  exact hQ _ _ ⟨by rw [hz], by rw [hz]; exact MV.sc cv sm12⟩
                                · exact absurd c24 (by decide)
                          · refine j_iload 0 dX11_hops_129 rfl ?_
                            refine j_istore (L' := [(5, .int 1), (6, .int 1), (4, .int 0), (0, .ref 0), (1, .int (nI k)), (2, .int (nI m)), (3, .int r)]) dX11_hops_131 (by decide) rfl ?_
                            refine j_iinc 1 0 (L' := [(6, .int 0), (5, .int 1), (4, .int 0), (0, .ref 0), (1, .int (nI k)), (2, .int (nI m)), (3, .int r)]) dX11_hops_133 rfl (by decide) (by decide) rfl ?_
                            refine j_goto (tgt := 105) dX11_hops_136 rfl ?_
                            refine j_iload 0 dX11_hops_105 rfl ?_
                            refine j_if_lt (tgt := 139) dX11_hops_107 rfl (fun c25 => ?_) (fun c25 => ?_)
                            · exact absurd c25 (by decide)
                            · refine j_aload_n 3 dX11_hops_110 rfl ?_
                              refine j_iload_n 4 dX11_hops_111 rfl ?_
                              refine j_iload_n 5 dX11_hops_112 rfl ?_
                              refine j_iload 0 dX11_hops_113 rfl ?_
                              refine j_callV (kc := 0) (ks := 0) (a := 0) (b := 0) (d' := (d + 5)) (As := [.int (nI k), .int (nI m), .int 0]) dX11_hops_115 kX11_308 rfl (shM (Fm.M sm12 hM) sgM_0) (by omega) rfl rfl rfl (Nat.le_of_ble_eq_true rfl) (Nat.le_of_ble_eq_true rfl) (T_hopsBy cv sm12.2.1 (Fm.M sm12 hM) (Fm.mv sm12 hS PS_H) okS lk13 k hk m hm z hz9 ez9 hmz hcell 0) (kk_p ?_)
                              refine j_aload_n 3 dX11_hops_118 rfl ?_
                              refine j_iload_n 4 dX11_hops_119 rfl ?_
                              refine j_iload_n 5 dX11_hops_120 rfl ?_
                              refine j_iload 1 dX11_hops_121 rfl ?_
                              refine j_callV (kc := 0) (ks := 0) (a := 0) (b := 0) (d' := (d + 5)) (As := [.int (nI k), .int (nI m), .int 1]) dX11_hops_123 kX11_308 rfl (shM (Fm.M sm12 hM) sgM_0) (by omega) rfl rfl rfl (Nat.le_of_ble_eq_true rfl) (Nat.le_of_ble_eq_true rfl) (T_hopsBy cv sm12.2.1 (Fm.M sm12 hM) (Fm.mv sm12 hS PS_H) okS lk13 k hk m hm z hz9 ez9 hmz hcell 1) (kk_p ?_)
                              refine j_icmp_ge (tgt := 133) dX11_hops_126 rfl (fun c26 => ?_) (fun c26 => ?_)
                              · refine j_iinc 0 (-1) (L' := [(6, .int (-1)), (5, .int 1), (4, .int 0), (0, .ref 0), (1, .int (nI k)), (2, .int (nI m)), (3, .int r)]) dX11_hops_133 rfl (by decide) (by decide) rfl ?_
                                refine j_goto (tgt := 105) dX11_hops_136 rfl ?_
                                refine j_iload 0 dX11_hops_105 rfl ?_
                                refine j_if_lt (tgt := 139) dX11_hops_107 rfl (fun c27 => ?_) (fun c27 => ?_)
                                · refine j_iload 1 dX11_hops_139 rfl ?_
                                  refine j_iret dX11_hops_141 rfl ?_
                                  have hcm := cm4 (S := Z.1) (tl := tlK Z k) (n := m) (h := fun r => (hpS Z.1 (tlK Z k) r m).2) (fun r => rfl)
                                  have hc9 : (cmS Z.1 (tlK Z k) m 4).1 = 1 := by
                                    rw [hcm]
                                    simp only [cmH]
                                    clear hQ cv hM hS ok hcm
                                    generalize (hpS Z.1 (tlK Z k) 0 m).2 = g0 at *
                                    generalize (hpS Z.1 (tlK Z k) 1 m).2 = g1 at *
                                    generalize (hpS Z.1 (tlK Z k) 2 m).2 = g2 at *
                                    generalize (hpS Z.1 (tlK Z k) 3 m).2 = g3 at *
                                    generalize (hpS Z.1 (tlK Z k) 4 m).2 = g4 at *
                                    grind
                                  have hz : hopsK Z (nI m) r k = (1, Z) := by
                                    clear hQ
                                    clear cv hM hS
                                    have hcl := nI_clamp (show m < 2 ^ 31 by omega)
                                    have h13 := may_13 (S := Z.1) (v := r)
                                    grind [hopsK, cif]
                                  exact hQ _ _ ⟨by rw [hz], by rw [hz]; exact MV.sc cv sm12⟩
                                · exact absurd c27 (by decide)
                              · refine j_iload 0 dX11_hops_129 rfl ?_
                                refine j_istore (L' := [(5, .int 0), (6, .int 0), (4, .int 0), (0, .ref 0), (1, .int (nI k)), (2, .int (nI m)), (3, .int r)]) dX11_hops_131 (by decide) rfl ?_
                                refine j_iinc 1 (-1) (L' := [(6, .int (-1)), (5, .int 0), (4, .int 0), (0, .ref 0), (1, .int (nI k)), (2, .int (nI m)), (3, .int r)]) dX11_hops_133 rfl (by decide) (by decide) rfl ?_
                                refine j_goto (tgt := 105) dX11_hops_136 rfl ?_
                                refine j_iload 0 dX11_hops_105 rfl ?_
                                refine j_if_lt (tgt := 139) dX11_hops_107 rfl (fun c28 => ?_) (fun c28 => ?_)
                                · refine j_iload 1 dX11_hops_139 rfl ?_
                                  refine j_iret dX11_hops_141 rfl ?_
                                  have hcm := cm4 (S := Z.1) (tl := tlK Z k) (n := m) (h := fun r => (hpS Z.1 (tlK Z k) r m).2) (fun r => rfl)
                                  have hc9 : (cmS Z.1 (tlK Z k) m 4).1 = 0 := by
                                    rw [hcm]
                                    simp only [cmH]
                                    clear hQ cv hM hS ok hcm
                                    generalize (hpS Z.1 (tlK Z k) 0 m).2 = g0 at *
                                    generalize (hpS Z.1 (tlK Z k) 1 m).2 = g1 at *
                                    generalize (hpS Z.1 (tlK Z k) 2 m).2 = g2 at *
                                    generalize (hpS Z.1 (tlK Z k) 3 m).2 = g3 at *
                                    generalize (hpS Z.1 (tlK Z k) 4 m).2 = g4 at *
                                    grind
                                  have hz : hopsK Z (nI m) r k = (0, Z) := by
                                    clear hQ
                                    clear cv hM hS
                                    have hcl := nI_clamp (show m < 2 ^ 31 by omega)
                                    have h13 := may_13 (S := Z.1) (v := r)
                                    grind [hopsK, cif]
                                  exact hQ _ _ ⟨by rw [hz], by rw [hz]; exact MV.sc cv sm12⟩
                                · exact absurd c28 (by decide)
                      · refine j_iload 0 dX11_hops_129 rfl ?_
                        refine j_istore (L' := [(5, .int 2), (6, .int 2), (4, .int 0), (0, .ref 0), (1, .int (nI k)), (2, .int (nI m)), (3, .int r)]) dX11_hops_131 (by decide) rfl ?_
                        refine j_iinc 1 1 (L' := [(6, .int 1), (5, .int 2), (4, .int 0), (0, .ref 0), (1, .int (nI k)), (2, .int (nI m)), (3, .int r)]) dX11_hops_133 rfl (by decide) (by decide) rfl ?_
                        refine j_goto (tgt := 105) dX11_hops_136 rfl ?_
                        refine j_iload 0 dX11_hops_105 rfl ?_
                        refine j_if_lt (tgt := 139) dX11_hops_107 rfl (fun c29 => ?_) (fun c29 => ?_)
                        · exact absurd c29 (by decide)
                        · refine j_aload_n 3 dX11_hops_110 rfl ?_
                          refine j_iload_n 4 dX11_hops_111 rfl ?_
                          refine j_iload_n 5 dX11_hops_112 rfl ?_
                          refine j_iload 0 dX11_hops_113 rfl ?_
                          refine j_callV (kc := 0) (ks := 0) (a := 0) (b := 0) (d' := (d + 5)) (As := [.int (nI k), .int (nI m), .int 1]) dX11_hops_115 kX11_308 rfl (shM (Fm.M sm12 hM) sgM_0) (by omega) rfl rfl rfl (Nat.le_of_ble_eq_true rfl) (Nat.le_of_ble_eq_true rfl) (T_hopsBy cv sm12.2.1 (Fm.M sm12 hM) (Fm.mv sm12 hS PS_H) okS lk13 k hk m hm z hz9 ez9 hmz hcell 1) (kk_p ?_)
                          refine j_aload_n 3 dX11_hops_118 rfl ?_
                          refine j_iload_n 4 dX11_hops_119 rfl ?_
                          refine j_iload_n 5 dX11_hops_120 rfl ?_
                          refine j_iload 1 dX11_hops_121 rfl ?_
                          refine j_callV (kc := 0) (ks := 0) (a := 0) (b := 0) (d' := (d + 5)) (As := [.int (nI k), .int (nI m), .int 2]) dX11_hops_123 kX11_308 rfl (shM (Fm.M sm12 hM) sgM_0) (by omega) rfl rfl rfl (Nat.le_of_ble_eq_true rfl) (Nat.le_of_ble_eq_true rfl) (T_hopsBy cv sm12.2.1 (Fm.M sm12 hM) (Fm.mv sm12 hS PS_H) okS lk13 k hk m hm z hz9 ez9 hmz hcell 2) (kk_p ?_)
                          refine j_icmp_ge (tgt := 133) dX11_hops_126 rfl (fun c30 => ?_) (fun c30 => ?_)
                          · refine j_iinc 0 0 (L' := [(6, .int 0), (5, .int 2), (4, .int 0), (0, .ref 0), (1, .int (nI k)), (2, .int (nI m)), (3, .int r)]) dX11_hops_133 rfl (by decide) (by decide) rfl ?_
                            refine j_goto (tgt := 105) dX11_hops_136 rfl ?_
                            refine j_iload 0 dX11_hops_105 rfl ?_
                            refine j_if_lt (tgt := 139) dX11_hops_107 rfl (fun c31 => ?_) (fun c31 => ?_)
                            · exact absurd c31 (by decide)
                            · refine j_aload_n 3 dX11_hops_110 rfl ?_
                              refine j_iload_n 4 dX11_hops_111 rfl ?_
                              refine j_iload_n 5 dX11_hops_112 rfl ?_
                              refine j_iload 0 dX11_hops_113 rfl ?_
                              refine j_callV (kc := 0) (ks := 0) (a := 0) (b := 0) (d' := (d + 5)) (As := [.int (nI k), .int (nI m), .int 0]) dX11_hops_115 kX11_308 rfl (shM (Fm.M sm12 hM) sgM_0) (by omega) rfl rfl rfl (Nat.le_of_ble_eq_true rfl) (Nat.le_of_ble_eq_true rfl) (T_hopsBy cv sm12.2.1 (Fm.M sm12 hM) (Fm.mv sm12 hS PS_H) okS lk13 k hk m hm z hz9 ez9 hmz hcell 0) (kk_p ?_)
                              refine j_aload_n 3 dX11_hops_118 rfl ?_
                              refine j_iload_n 4 dX11_hops_119 rfl ?_
                              refine j_iload_n 5 dX11_hops_120 rfl ?_
                              refine j_iload 1 dX11_hops_121 rfl ?_
                              refine j_callV (kc := 0) (ks := 0) (a := 0) (b := 0) (d' := (d + 5)) (As := [.int (nI k), .int (nI m), .int 2]) dX11_hops_123 kX11_308 rfl (shM (Fm.M sm12 hM) sgM_0) (by omega) rfl rfl rfl (Nat.le_of_ble_eq_true rfl) (Nat.le_of_ble_eq_true rfl) (T_hopsBy cv sm12.2.1 (Fm.M sm12 hM) (Fm.mv sm12 hS PS_H) okS lk13 k hk m hm z hz9 ez9 hmz hcell 2) (kk_p ?_)
                              refine j_icmp_ge (tgt := 133) dX11_hops_126 rfl (fun c32 => ?_) (fun c32 => ?_)
                              · refine j_iinc 0 (-1) (L' := [(6, .int (-1)), (5, .int 2), (4, .int 0), (0, .ref 0), (1, .int (nI k)), (2, .int (nI m)), (3, .int r)]) dX11_hops_133 rfl (by decide) (by decide) rfl ?_
                                refine j_goto (tgt := 105) dX11_hops_136 rfl ?_
                                refine j_iload 0 dX11_hops_105 rfl ?_
                                refine j_if_lt (tgt := 139) dX11_hops_107 rfl (fun c33 => ?_) (fun c33 => ?_)
                                · refine j_iload 1 dX11_hops_139 rfl ?_
                                  refine j_iret dX11_hops_141 rfl ?_
                                  have hcm := cm4 (S := Z.1) (tl := tlK Z k) (n := m) (h := fun r => (hpS Z.1 (tlK Z k) r m).2) (fun r => rfl)
                                  have hc9 : (cmS Z.1 (tlK Z k) m 4).1 = 2 := by
                                    rw [hcm]
                                    simp only [cmH]
                                    clear hQ cv hM hS ok hcm
                                    generalize (hpS Z.1 (tlK Z k) 0 m).2 = g0 at *
                                    generalize (hpS Z.1 (tlK Z k) 1 m).2 = g1 at *
                                    generalize (hpS Z.1 (tlK Z k) 2 m).2 = g2 at *
                                    generalize (hpS Z.1 (tlK Z k) 3 m).2 = g3 at *
                                    generalize (hpS Z.1 (tlK Z k) 4 m).2 = g4 at *
                                    grind
                                  have hz : hopsK Z (nI m) r k = (2, Z) := by
                                    clear hQ
                                    clear cv hM hS
                                    have hcl := nI_clamp (show m < 2 ^ 31 by omega)
                                    have h13 := may_13 (S := Z.1) (v := r)
                                    grind [hopsK, cif]
                                  exact hQ _ _ ⟨by rw [hz], by rw [hz]; exact MV.sc cv sm12⟩
                                · exact absurd c33 (by decide)
                              · refine j_iload 0 dX11_hops_129 rfl ?_
                                refine j_istore (L' := [(5, .int 0), (6, .int 0), (4, .int 0), (0, .ref 0), (1, .int (nI k)), (2, .int (nI m)), (3, .int r)]) dX11_hops_131 (by decide) rfl ?_
                                refine j_iinc 1 (-1) (L' := [(6, .int (-1)), (5, .int 0), (4, .int 0), (0, .ref 0), (1, .int (nI k)), (2, .int (nI m)), (3, .int r)]) dX11_hops_133 rfl (by decide) (by decide) rfl ?_
                                refine j_goto (tgt := 105) dX11_hops_136 rfl ?_
                                refine j_iload 0 dX11_hops_105 rfl ?_
                                refine j_if_lt (tgt := 139) dX11_hops_107 rfl (fun c34 => ?_) (fun c34 => ?_)
                                · refine j_iload 1 dX11_hops_139 rfl ?_
                                  refine j_iret dX11_hops_141 rfl ?_
                                  have hcm := cm4 (S := Z.1) (tl := tlK Z k) (n := m) (h := fun r => (hpS Z.1 (tlK Z k) r m).2) (fun r => rfl)
                                  have hc9 : (cmS Z.1 (tlK Z k) m 4).1 = 0 := by
                                    rw [hcm]
                                    simp only [cmH]
                                    clear hQ cv hM hS ok hcm
                                    generalize (hpS Z.1 (tlK Z k) 0 m).2 = g0 at *
                                    generalize (hpS Z.1 (tlK Z k) 1 m).2 = g1 at *
                                    generalize (hpS Z.1 (tlK Z k) 2 m).2 = g2 at *
                                    generalize (hpS Z.1 (tlK Z k) 3 m).2 = g3 at *
                                    generalize (hpS Z.1 (tlK Z k) 4 m).2 = g4 at *
                                    grind
                                  have hz : hopsK Z (nI m) r k = (0, Z) := by
                                    clear hQ
                                    clear cv hM hS
                                    have hcl := nI_clamp (show m < 2 ^ 31 by omega)
                                    have h13 := may_13 (S := Z.1) (v := r)
                                    grind [hopsK, cif]
                                  exact hQ _ _ ⟨by rw [hz], by rw [hz]; exact MV.sc cv sm12⟩
                                · exact absurd c34 (by decide)
                          · refine j_iload 0 dX11_hops_129 rfl ?_
                            refine j_istore (L' := [(5, .int 1), (6, .int 1), (4, .int 0), (0, .ref 0), (1, .int (nI k)), (2, .int (nI m)), (3, .int r)]) dX11_hops_131 (by decide) rfl ?_
                            refine j_iinc 1 0 (L' := [(6, .int 0), (5, .int 1), (4, .int 0), (0, .ref 0), (1, .int (nI k)), (2, .int (nI m)), (3, .int r)]) dX11_hops_133 rfl (by decide) (by decide) rfl ?_
                            refine j_goto (tgt := 105) dX11_hops_136 rfl ?_
                            refine j_iload 0 dX11_hops_105 rfl ?_
                            refine j_if_lt (tgt := 139) dX11_hops_107 rfl (fun c35 => ?_) (fun c35 => ?_)
                            · exact absurd c35 (by decide)
                            · refine j_aload_n 3 dX11_hops_110 rfl ?_
                              refine j_iload_n 4 dX11_hops_111 rfl ?_
                              refine j_iload_n 5 dX11_hops_112 rfl ?_
                              refine j_iload 0 dX11_hops_113 rfl ?_
                              refine j_callV (kc := 0) (ks := 0) (a := 0) (b := 0) (d' := (d + 5)) (As := [.int (nI k), .int (nI m), .int 0]) dX11_hops_115 kX11_308 rfl (shM (Fm.M sm12 hM) sgM_0) (by omega) rfl rfl rfl (Nat.le_of_ble_eq_true rfl) (Nat.le_of_ble_eq_true rfl) (T_hopsBy cv sm12.2.1 (Fm.M sm12 hM) (Fm.mv sm12 hS PS_H) okS lk13 k hk m hm z hz9 ez9 hmz hcell 0) (kk_p ?_)
                              refine j_aload_n 3 dX11_hops_118 rfl ?_
                              refine j_iload_n 4 dX11_hops_119 rfl ?_
                              refine j_iload_n 5 dX11_hops_120 rfl ?_
                              refine j_iload 1 dX11_hops_121 rfl ?_
                              refine j_callV (kc := 0) (ks := 0) (a := 0) (b := 0) (d' := (d + 5)) (As := [.int (nI k), .int (nI m), .int 1]) dX11_hops_123 kX11_308 rfl (shM (Fm.M sm12 hM) sgM_0) (by omega) rfl rfl rfl (Nat.le_of_ble_eq_true rfl) (Nat.le_of_ble_eq_true rfl) (T_hopsBy cv sm12.2.1 (Fm.M sm12 hM) (Fm.mv sm12 hS PS_H) okS lk13 k hk m hm z hz9 ez9 hmz hcell 1) (kk_p ?_)
                              refine j_icmp_ge (tgt := 133) dX11_hops_126 rfl (fun c36 => ?_) (fun c36 => ?_)
                              · refine j_iinc 0 (-1) (L' := [(6, .int (-1)), (5, .int 1), (4, .int 0), (0, .ref 0), (1, .int (nI k)), (2, .int (nI m)), (3, .int r)]) dX11_hops_133 rfl (by decide) (by decide) rfl ?_
                                refine j_goto (tgt := 105) dX11_hops_136 rfl ?_
                                refine j_iload 0 dX11_hops_105 rfl ?_
                                refine j_if_lt (tgt := 139) dX11_hops_107 rfl (fun c37 => ?_) (fun c37 => ?_)
                                · refine j_iload 1 dX11_hops_139 rfl ?_
                                  refine j_iret dX11_hops_141 rfl ?_
                                  have hcm := cm4 (S := Z.1) (tl := tlK Z k) (n := m) (h := fun r => (hpS Z.1 (tlK Z k) r m).2) (fun r => rfl)
                                  have hc9 : (cmS Z.1 (tlK Z k) m 4).1 = 1 := by
                                    rw [hcm]
                                    simp only [cmH]
                                    clear hQ cv hM hS ok hcm
                                    generalize (hpS Z.1 (tlK Z k) 0 m).2 = g0 at *
                                    generalize (hpS Z.1 (tlK Z k) 1 m).2 = g1 at *
                                    generalize (hpS Z.1 (tlK Z k) 2 m).2 = g2 at *
                                    generalize (hpS Z.1 (tlK Z k) 3 m).2 = g3 at *
                                    generalize (hpS Z.1 (tlK Z k) 4 m).2 = g4 at *
                                    grind
                                  have hz : hopsK Z (nI m) r k = (1, Z) := by
                                    clear hQ
                                    clear cv hM hS
                                    have hcl := nI_clamp (show m < 2 ^ 31 by omega)
                                    have h13 := may_13 (S := Z.1) (v := r)
                                    grind [hopsK, cif]
                                  exact hQ _ _ ⟨by rw [hz], by rw [hz]; exact MV.sc cv sm12⟩
                                · exact absurd c37 (by decide)
                              · refine j_iload 0 dX11_hops_129 rfl ?_
                                refine j_istore (L' := [(5, .int 0), (6, .int 0), (4, .int 0), (0, .ref 0), (1, .int (nI k)), (2, .int (nI m)), (3, .int r)]) dX11_hops_131 (by decide) rfl ?_
                                refine j_iinc 1 (-1) (L' := [(6, .int (-1)), (5, .int 0), (4, .int 0), (0, .ref 0), (1, .int (nI k)), (2, .int (nI m)), (3, .int r)]) dX11_hops_133 rfl (by decide) (by decide) rfl ?_
                                refine j_goto (tgt := 105) dX11_hops_136 rfl ?_
                                refine j_iload 0 dX11_hops_105 rfl ?_
                                refine j_if_lt (tgt := 139) dX11_hops_107 rfl (fun c38 => ?_) (fun c38 => ?_)
                                · refine j_iload 1 dX11_hops_139 rfl ?_
                                  refine j_iret dX11_hops_141 rfl ?_
                                  have hcm := cm4 (S := Z.1) (tl := tlK Z k) (n := m) (h := fun r => (hpS Z.1 (tlK Z k) r m).2) (fun r => rfl)
                                  have hc9 : (cmS Z.1 (tlK Z k) m 4).1 = 0 := by
                                    rw [hcm]
                                    simp only [cmH]
                                    clear hQ cv hM hS ok hcm
                                    generalize (hpS Z.1 (tlK Z k) 0 m).2 = g0 at *
                                    generalize (hpS Z.1 (tlK Z k) 1 m).2 = g1 at *
                                    generalize (hpS Z.1 (tlK Z k) 2 m).2 = g2 at *
                                    generalize (hpS Z.1 (tlK Z k) 3 m).2 = g3 at *
                                    generalize (hpS Z.1 (tlK Z k) 4 m).2 = g4 at *
                                    grind
                                  have hz : hopsK Z (nI m) r k = (0, Z) := by
                                    clear hQ
                                    clear cv hM hS
                                    have hcl := nI_clamp (show m < 2 ^ 31 by omega)
                                    have h13 := may_13 (S := Z.1) (v := r)
                                    grind [hopsK, cif]
                                  exact hQ _ _ ⟨by rw [hz], by rw [hz]; exact MV.sc cv sm12⟩
                                · exact absurd c38 (by decide)
                  · refine j_iload 0 dX11_hops_129 rfl ?_
                    refine j_istore (L' := [(5, .int 3), (6, .int 3), (4, .int 0), (0, .ref 0), (1, .int (nI k)), (2, .int (nI m)), (3, .int r)]) dX11_hops_131 (by decide) rfl ?_
                    refine j_iinc 1 2 (L' := [(6, .int 2), (5, .int 3), (4, .int 0), (0, .ref 0), (1, .int (nI k)), (2, .int (nI m)), (3, .int r)]) dX11_hops_133 rfl (by decide) (by decide) rfl ?_
                    refine j_goto (tgt := 105) dX11_hops_136 rfl ?_
                    refine j_iload 0 dX11_hops_105 rfl ?_
                    refine j_if_lt (tgt := 139) dX11_hops_107 rfl (fun c39 => ?_) (fun c39 => ?_)
                    · exact absurd c39 (by decide)
                    · refine j_aload_n 3 dX11_hops_110 rfl ?_
                      refine j_iload_n 4 dX11_hops_111 rfl ?_
                      refine j_iload_n 5 dX11_hops_112 rfl ?_
                      refine j_iload 0 dX11_hops_113 rfl ?_
                      refine j_callV (kc := 0) (ks := 0) (a := 0) (b := 0) (d' := (d + 5)) (As := [.int (nI k), .int (nI m), .int 2]) dX11_hops_115 kX11_308 rfl (shM (Fm.M sm12 hM) sgM_0) (by omega) rfl rfl rfl (Nat.le_of_ble_eq_true rfl) (Nat.le_of_ble_eq_true rfl) (T_hopsBy cv sm12.2.1 (Fm.M sm12 hM) (Fm.mv sm12 hS PS_H) okS lk13 k hk m hm z hz9 ez9 hmz hcell 2) (kk_p ?_)
                      refine j_aload_n 3 dX11_hops_118 rfl ?_
                      refine j_iload_n 4 dX11_hops_119 rfl ?_
                      refine j_iload_n 5 dX11_hops_120 rfl ?_
                      refine j_iload 1 dX11_hops_121 rfl ?_
                      refine j_callV (kc := 0) (ks := 0) (a := 0) (b := 0) (d' := (d + 5)) (As := [.int (nI k), .int (nI m), .int 3]) dX11_hops_123 kX11_308 rfl (shM (Fm.M sm12 hM) sgM_0) (by omega) rfl rfl rfl (Nat.le_of_ble_eq_true rfl) (Nat.le_of_ble_eq_true rfl) (T_hopsBy cv sm12.2.1 (Fm.M sm12 hM) (Fm.mv sm12 hS PS_H) okS lk13 k hk m hm z hz9 ez9 hmz hcell 3) (kk_p ?_)
                      refine j_icmp_ge (tgt := 133) dX11_hops_126 rfl (fun c40 => ?_) (fun c40 => ?_)
                      · refine j_iinc 0 1 (L' := [(6, .int 1), (5, .int 3), (4, .int 0), (0, .ref 0), (1, .int (nI k)), (2, .int (nI m)), (3, .int r)]) dX11_hops_133 rfl (by decide) (by decide) rfl ?_
                        refine j_goto (tgt := 105) dX11_hops_136 rfl ?_
                        refine j_iload 0 dX11_hops_105 rfl ?_
                        refine j_if_lt (tgt := 139) dX11_hops_107 rfl (fun c41 => ?_) (fun c41 => ?_)
                        · exact absurd c41 (by decide)
                        · refine j_aload_n 3 dX11_hops_110 rfl ?_
                          refine j_iload_n 4 dX11_hops_111 rfl ?_
                          refine j_iload_n 5 dX11_hops_112 rfl ?_
                          refine j_iload 0 dX11_hops_113 rfl ?_
                          refine j_callV (kc := 0) (ks := 0) (a := 0) (b := 0) (d' := (d + 5)) (As := [.int (nI k), .int (nI m), .int 1]) dX11_hops_115 kX11_308 rfl (shM (Fm.M sm12 hM) sgM_0) (by omega) rfl rfl rfl (Nat.le_of_ble_eq_true rfl) (Nat.le_of_ble_eq_true rfl) (T_hopsBy cv sm12.2.1 (Fm.M sm12 hM) (Fm.mv sm12 hS PS_H) okS lk13 k hk m hm z hz9 ez9 hmz hcell 1) (kk_p ?_)
                          refine j_aload_n 3 dX11_hops_118 rfl ?_
                          refine j_iload_n 4 dX11_hops_119 rfl ?_
                          refine j_iload_n 5 dX11_hops_120 rfl ?_
                          refine j_iload 1 dX11_hops_121 rfl ?_
                          refine j_callV (kc := 0) (ks := 0) (a := 0) (b := 0) (d' := (d + 5)) (As := [.int (nI k), .int (nI m), .int 3]) dX11_hops_123 kX11_308 rfl (shM (Fm.M sm12 hM) sgM_0) (by omega) rfl rfl rfl (Nat.le_of_ble_eq_true rfl) (Nat.le_of_ble_eq_true rfl) (T_hopsBy cv sm12.2.1 (Fm.M sm12 hM) (Fm.mv sm12 hS PS_H) okS lk13 k hk m hm z hz9 ez9 hmz hcell 3) (kk_p ?_)
                          refine j_icmp_ge (tgt := 133) dX11_hops_126 rfl (fun c42 => ?_) (fun c42 => ?_)
                          · refine j_iinc 0 0 (L' := [(6, .int 0), (5, .int 3), (4, .int 0), (0, .ref 0), (1, .int (nI k)), (2, .int (nI m)), (3, .int r)]) dX11_hops_133 rfl (by decide) (by decide) rfl ?_
                            refine j_goto (tgt := 105) dX11_hops_136 rfl ?_
                            refine j_iload 0 dX11_hops_105 rfl ?_
                            refine j_if_lt (tgt := 139) dX11_hops_107 rfl (fun c43 => ?_) (fun c43 => ?_)
                            · exact absurd c43 (by decide)
                            · refine j_aload_n 3 dX11_hops_110 rfl ?_
                              refine j_iload_n 4 dX11_hops_111 rfl ?_
                              refine j_iload_n 5 dX11_hops_112 rfl ?_
                              refine j_iload 0 dX11_hops_113 rfl ?_
                              refine j_callV (kc := 0) (ks := 0) (a := 0) (b := 0) (d' := (d + 5)) (As := [.int (nI k), .int (nI m), .int 0]) dX11_hops_115 kX11_308 rfl (shM (Fm.M sm12 hM) sgM_0) (by omega) rfl rfl rfl (Nat.le_of_ble_eq_true rfl) (Nat.le_of_ble_eq_true rfl) (T_hopsBy cv sm12.2.1 (Fm.M sm12 hM) (Fm.mv sm12 hS PS_H) okS lk13 k hk m hm z hz9 ez9 hmz hcell 0) (kk_p ?_)
                              refine j_aload_n 3 dX11_hops_118 rfl ?_
                              refine j_iload_n 4 dX11_hops_119 rfl ?_
                              refine j_iload_n 5 dX11_hops_120 rfl ?_
                              refine j_iload 1 dX11_hops_121 rfl ?_
                              refine j_callV (kc := 0) (ks := 0) (a := 0) (b := 0) (d' := (d + 5)) (As := [.int (nI k), .int (nI m), .int 3]) dX11_hops_123 kX11_308 rfl (shM (Fm.M sm12 hM) sgM_0) (by omega) rfl rfl rfl (Nat.le_of_ble_eq_true rfl) (Nat.le_of_ble_eq_true rfl) (T_hopsBy cv sm12.2.1 (Fm.M sm12 hM) (Fm.mv sm12 hS PS_H) okS lk13 k hk m hm z hz9 ez9 hmz hcell 3) (kk_p ?_)
                              refine j_icmp_ge (tgt := 133) dX11_hops_126 rfl (fun c44 => ?_) (fun c44 => ?_)
                              · refine j_iinc 0 (-1) (L' := [(6, .int (-1)), (5, .int 3), (4, .int 0), (0, .ref 0), (1, .int (nI k)), (2, .int (nI m)), (3, .int r)]) dX11_hops_133 rfl (by decide) (by decide) rfl ?_
                                refine j_goto (tgt := 105) dX11_hops_136 rfl ?_
                                refine j_iload 0 dX11_hops_105 rfl ?_
                                refine j_if_lt (tgt := 139) dX11_hops_107 rfl (fun c45 => ?_) (fun c45 => ?_)
                                · refine j_iload 1 dX11_hops_139 rfl ?_
                                  refine j_iret dX11_hops_141 rfl ?_
                                  have hcm := cm4 (S := Z.1) (tl := tlK Z k) (n := m) (h := fun r => (hpS Z.1 (tlK Z k) r m).2) (fun r => rfl)
                                  have hc9 : (cmS Z.1 (tlK Z k) m 4).1 = 3 := by
                                    rw [hcm]
                                    simp only [cmH]
                                    clear hQ cv hM hS ok hcm
                                    generalize (hpS Z.1 (tlK Z k) 0 m).2 = g0 at *
                                    generalize (hpS Z.1 (tlK Z k) 1 m).2 = g1 at *
                                    generalize (hpS Z.1 (tlK Z k) 2 m).2 = g2 at *
                                    generalize (hpS Z.1 (tlK Z k) 3 m).2 = g3 at *
                                    generalize (hpS Z.1 (tlK Z k) 4 m).2 = g4 at *
                                    grind
                                  have hz : hopsK Z (nI m) r k = (3, Z) := by
                                    clear hQ
                                    clear cv hM hS
                                    have hcl := nI_clamp (show m < 2 ^ 31 by omega)
                                    have h13 := may_13 (S := Z.1) (v := r)
                                    grind [hopsK, cif]
                                  exact hQ _ _ ⟨by rw [hz], by rw [hz]; exact MV.sc cv sm12⟩
                                · exact absurd c45 (by decide)
                              · refine j_iload 0 dX11_hops_129 rfl ?_
                                refine j_istore (L' := [(5, .int 0), (6, .int 0), (4, .int 0), (0, .ref 0), (1, .int (nI k)), (2, .int (nI m)), (3, .int r)]) dX11_hops_131 (by decide) rfl ?_
                                refine j_iinc 1 (-1) (L' := [(6, .int (-1)), (5, .int 0), (4, .int 0), (0, .ref 0), (1, .int (nI k)), (2, .int (nI m)), (3, .int r)]) dX11_hops_133 rfl (by decide) (by decide) rfl ?_
                                refine j_goto (tgt := 105) dX11_hops_136 rfl ?_
                                refine j_iload 0 dX11_hops_105 rfl ?_
                                refine j_if_lt (tgt := 139) dX11_hops_107 rfl (fun c46 => ?_) (fun c46 => ?_)
                                · refine j_iload 1 dX11_hops_139 rfl ?_
                                  refine j_iret dX11_hops_141 rfl ?_
                                  have hcm := cm4 (S := Z.1) (tl := tlK Z k) (n := m) (h := fun r => (hpS Z.1 (tlK Z k) r m).2) (fun r => rfl)
                                  have hc9 : (cmS Z.1 (tlK Z k) m 4).1 = 0 := by
                                    rw [hcm]
                                    simp only [cmH]
                                    clear hQ cv hM hS ok hcm
                                    generalize (hpS Z.1 (tlK Z k) 0 m).2 = g0 at *
                                    generalize (hpS Z.1 (tlK Z k) 1 m).2 = g1 at *
                                    generalize (hpS Z.1 (tlK Z k) 2 m).2 = g2 at *
                                    generalize (hpS Z.1 (tlK Z k) 3 m).2 = g3 at *
                                    generalize (hpS Z.1 (tlK Z k) 4 m).2 = g4 at *
                                    grind
                                  have hz : hopsK Z (nI m) r k = (0, Z) := by
                                    clear hQ
                                    clear cv hM hS
                                    have hcl := nI_clamp (show m < 2 ^ 31 by omega)
                                    have h13 := may_13 (S := Z.1) (v := r)
                                    grind [hopsK, cif]
                                  exact hQ _ _ ⟨by rw [hz], by rw [hz]; exact MV.sc cv sm12⟩
                                · exact absurd c46 (by decide)
                          · refine j_iload 0 dX11_hops_129 rfl ?_
                            refine j_istore (L' := [(5, .int 1), (6, .int 1), (4, .int 0), (0, .ref 0), (1, .int (nI k)), (2, .int (nI m)), (3, .int r)]) dX11_hops_131 (by decide) rfl ?_
                            refine j_iinc 1 0 (L' := [(6, .int 0), (5, .int 1), (4, .int 0), (0, .ref 0), (1, .int (nI k)), (2, .int (nI m)), (3, .int r)]) dX11_hops_133 rfl (by decide) (by decide) rfl ?_
                            refine j_goto (tgt := 105) dX11_hops_136 rfl ?_
                            refine j_iload 0 dX11_hops_105 rfl ?_
                            refine j_if_lt (tgt := 139) dX11_hops_107 rfl (fun c47 => ?_) (fun c47 => ?_)
                            · exact absurd c47 (by decide)
                            · refine j_aload_n 3 dX11_hops_110 rfl ?_
                              refine j_iload_n 4 dX11_hops_111 rfl ?_
                              refine j_iload_n 5 dX11_hops_112 rfl ?_
                              refine j_iload 0 dX11_hops_113 rfl ?_
                              refine j_callV (kc := 0) (ks := 0) (a := 0) (b := 0) (d' := (d + 5)) (As := [.int (nI k), .int (nI m), .int 0]) dX11_hops_115 kX11_308 rfl (shM (Fm.M sm12 hM) sgM_0) (by omega) rfl rfl rfl (Nat.le_of_ble_eq_true rfl) (Nat.le_of_ble_eq_true rfl) (T_hopsBy cv sm12.2.1 (Fm.M sm12 hM) (Fm.mv sm12 hS PS_H) okS lk13 k hk m hm z hz9 ez9 hmz hcell 0) (kk_p ?_)
                              refine j_aload_n 3 dX11_hops_118 rfl ?_
                              refine j_iload_n 4 dX11_hops_119 rfl ?_
                              refine j_iload_n 5 dX11_hops_120 rfl ?_
                              refine j_iload 1 dX11_hops_121 rfl ?_
                              refine j_callV (kc := 0) (ks := 0) (a := 0) (b := 0) (d' := (d + 5)) (As := [.int (nI k), .int (nI m), .int 1]) dX11_hops_123 kX11_308 rfl (shM (Fm.M sm12 hM) sgM_0) (by omega) rfl rfl rfl (Nat.le_of_ble_eq_true rfl) (Nat.le_of_ble_eq_true rfl) (T_hopsBy cv sm12.2.1 (Fm.M sm12 hM) (Fm.mv sm12 hS PS_H) okS lk13 k hk m hm z hz9 ez9 hmz hcell 1) (kk_p ?_)
                              refine j_icmp_ge (tgt := 133) dX11_hops_126 rfl (fun c48 => ?_) (fun c48 => ?_)
                              · refine j_iinc 0 (-1) (L' := [(6, .int (-1)), (5, .int 1), (4, .int 0), (0, .ref 0), (1, .int (nI k)), (2, .int (nI m)), (3, .int r)]) dX11_hops_133 rfl (by decide) (by decide) rfl ?_
                                refine j_goto (tgt := 105) dX11_hops_136 rfl ?_
                                refine j_iload 0 dX11_hops_105 rfl ?_
                                refine j_if_lt (tgt := 139) dX11_hops_107 rfl (fun c49 => ?_) (fun c49 => ?_)
                                · refine j_iload 1 dX11_hops_139 rfl ?_
                                  refine j_iret dX11_hops_141 rfl ?_
                                  have hcm := cm4 (S := Z.1) (tl := tlK Z k) (n := m) (h := fun r => (hpS Z.1 (tlK Z k) r m).2) (fun r => rfl)
                                  have hc9 : (cmS Z.1 (tlK Z k) m 4).1 = 1 := by
                                    rw [hcm]
                                    simp only [cmH]
                                    clear hQ cv hM hS ok hcm
                                    generalize (hpS Z.1 (tlK Z k) 0 m).2 = g0 at *
                                    generalize (hpS Z.1 (tlK Z k) 1 m).2 = g1 at *
                                    generalize (hpS Z.1 (tlK Z k) 2 m).2 = g2 at *
                                    generalize (hpS Z.1 (tlK Z k) 3 m).2 = g3 at *
                                    generalize (hpS Z.1 (tlK Z k) 4 m).2 = g4 at *
                                    grind
                                  have hz : hopsK Z (nI m) r k = (1, Z) := by
                                    clear hQ
                                    clear cv hM hS
                                    have hcl := nI_clamp (show m < 2 ^ 31 by omega)
                                    have h13 := may_13 (S := Z.1) (v := r)
                                    grind [hopsK, cif]
                                  exact hQ _ _ ⟨by rw [hz], by rw [hz]; exact MV.sc cv sm12⟩
                                · exact absurd c49 (by decide)
                              · refine j_iload 0 dX11_hops_129 rfl ?_
                                refine j_istore (L' := [(5, .int 0), (6, .int 0), (4, .int 0), (0, .ref 0), (1, .int (nI k)), (2, .int (nI m)), (3, .int r)]) dX11_hops_131 (by decide) rfl ?_
                                refine j_iinc 1 (-1) (L' := [(6, .int (-1)), (5, .int 0), (4, .int 0), (0, .ref 0), (1, .int (nI k)), (2, .int (nI m)), (3, .int r)]) dX11_hops_133 rfl (by decide) (by decide) rfl ?_
                                refine j_goto (tgt := 105) dX11_hops_136 rfl ?_
                                refine j_iload 0 dX11_hops_105 rfl ?_
                                refine j_if_lt (tgt := 139) dX11_hops_107 rfl (fun c50 => ?_) (fun c50 => ?_)
                                · refine j_iload 1 dX11_hops_139 rfl ?_
                                  refine j_iret dX11_hops_141 rfl ?_
                                  have hcm := cm4 (S := Z.1) (tl := tlK Z k) (n := m) (h := fun r => (hpS Z.1 (tlK Z k) r m).2) (fun r => rfl)
                                  have hc9 : (cmS Z.1 (tlK Z k) m 4).1 = 0 := by
                                    rw [hcm]
                                    simp only [cmH]
                                    clear hQ cv hM hS ok hcm
                                    generalize (hpS Z.1 (tlK Z k) 0 m).2 = g0 at *
                                    generalize (hpS Z.1 (tlK Z k) 1 m).2 = g1 at *
                                    generalize (hpS Z.1 (tlK Z k) 2 m).2 = g2 at *
                                    generalize (hpS Z.1 (tlK Z k) 3 m).2 = g3 at *
                                    generalize (hpS Z.1 (tlK Z k) 4 m).2 = g4 at *
                                    grind
                                  have hz : hopsK Z (nI m) r k = (0, Z) := by
                                    clear hQ
                                    clear cv hM hS
                                    have hcl := nI_clamp (show m < 2 ^ 31 by omega)
                                    have h13 := may_13 (S := Z.1) (v := r)
                                    grind [hopsK, cif]
                                  exact hQ _ _ ⟨by rw [hz], by rw [hz]; exact MV.sc cv sm12⟩
                                · exact absurd c50 (by decide)
                      · refine j_iload 0 dX11_hops_129 rfl ?_
                        refine j_istore (L' := [(5, .int 2), (6, .int 2), (4, .int 0), (0, .ref 0), (1, .int (nI k)), (2, .int (nI m)), (3, .int r)]) dX11_hops_131 (by decide) rfl ?_
                        refine j_iinc 1 1 (L' := [(6, .int 1), (5, .int 2), (4, .int 0), (0, .ref 0), (1, .int (nI k)), (2, .int (nI m)), (3, .int r)]) dX11_hops_133 rfl (by decide) (by decide) rfl ?_
                        refine j_goto (tgt := 105) dX11_hops_136 rfl ?_
                        refine j_iload 0 dX11_hops_105 rfl ?_
                        refine j_if_lt (tgt := 139) dX11_hops_107 rfl (fun c51 => ?_) (fun c51 => ?_)
                        · exact absurd c51 (by decide)
                        · refine j_aload_n 3 dX11_hops_110 rfl ?_
                          refine j_iload_n 4 dX11_hops_111 rfl ?_
                          refine j_iload_n 5 dX11_hops_112 rfl ?_
                          refine j_iload 0 dX11_hops_113 rfl ?_
                          refine j_callV (kc := 0) (ks := 0) (a := 0) (b := 0) (d' := (d + 5)) (As := [.int (nI k), .int (nI m), .int 1]) dX11_hops_115 kX11_308 rfl (shM (Fm.M sm12 hM) sgM_0) (by omega) rfl rfl rfl (Nat.le_of_ble_eq_true rfl) (Nat.le_of_ble_eq_true rfl) (T_hopsBy cv sm12.2.1 (Fm.M sm12 hM) (Fm.mv sm12 hS PS_H) okS lk13 k hk m hm z hz9 ez9 hmz hcell 1) (kk_p ?_)
                          refine j_aload_n 3 dX11_hops_118 rfl ?_
                          refine j_iload_n 4 dX11_hops_119 rfl ?_
                          refine j_iload_n 5 dX11_hops_120 rfl ?_
                          refine j_iload 1 dX11_hops_121 rfl ?_
                          refine j_callV (kc := 0) (ks := 0) (a := 0) (b := 0) (d' := (d + 5)) (As := [.int (nI k), .int (nI m), .int 2]) dX11_hops_123 kX11_308 rfl (shM (Fm.M sm12 hM) sgM_0) (by omega) rfl rfl rfl (Nat.le_of_ble_eq_true rfl) (Nat.le_of_ble_eq_true rfl) (T_hopsBy cv sm12.2.1 (Fm.M sm12 hM) (Fm.mv sm12 hS PS_H) okS lk13 k hk m hm z hz9 ez9 hmz hcell 2) (kk_p ?_)
                          refine j_icmp_ge (tgt := 133) dX11_hops_126 rfl (fun c52 => ?_) (fun c52 => ?_)
                          · refine j_iinc 0 0 (L' := [(6, .int 0), (5, .int 2), (4, .int 0), (0, .ref 0), (1, .int (nI k)), (2, .int (nI m)), (3, .int r)]) dX11_hops_133 rfl (by decide) (by decide) rfl ?_
                            refine j_goto (tgt := 105) dX11_hops_136 rfl ?_
                            refine j_iload 0 dX11_hops_105 rfl ?_
                            refine j_if_lt (tgt := 139) dX11_hops_107 rfl (fun c53 => ?_) (fun c53 => ?_)
                            · exact absurd c53 (by decide)
                            · refine j_aload_n 3 dX11_hops_110 rfl ?_
                              refine j_iload_n 4 dX11_hops_111 rfl ?_
                              refine j_iload_n 5 dX11_hops_112 rfl ?_
                              refine j_iload 0 dX11_hops_113 rfl ?_
                              refine j_callV (kc := 0) (ks := 0) (a := 0) (b := 0) (d' := (d + 5)) (As := [.int (nI k), .int (nI m), .int 0]) dX11_hops_115 kX11_308 rfl (shM (Fm.M sm12 hM) sgM_0) (by omega) rfl rfl rfl (Nat.le_of_ble_eq_true rfl) (Nat.le_of_ble_eq_true rfl) (T_hopsBy cv sm12.2.1 (Fm.M sm12 hM) (Fm.mv sm12 hS PS_H) okS lk13 k hk m hm z hz9 ez9 hmz hcell 0) (kk_p ?_)
                              refine j_aload_n 3 dX11_hops_118 rfl ?_
                              refine j_iload_n 4 dX11_hops_119 rfl ?_
                              refine j_iload_n 5 dX11_hops_120 rfl ?_
                              refine j_iload 1 dX11_hops_121 rfl ?_
                              refine j_callV (kc := 0) (ks := 0) (a := 0) (b := 0) (d' := (d + 5)) (As := [.int (nI k), .int (nI m), .int 2]) dX11_hops_123 kX11_308 rfl (shM (Fm.M sm12 hM) sgM_0) (by omega) rfl rfl rfl (Nat.le_of_ble_eq_true rfl) (Nat.le_of_ble_eq_true rfl) (T_hopsBy cv sm12.2.1 (Fm.M sm12 hM) (Fm.mv sm12 hS PS_H) okS lk13 k hk m hm z hz9 ez9 hmz hcell 2) (kk_p ?_)
                              refine j_icmp_ge (tgt := 133) dX11_hops_126 rfl (fun c54 => ?_) (fun c54 => ?_)
                              · refine j_iinc 0 (-1) (L' := [(6, .int (-1)), (5, .int 2), (4, .int 0), (0, .ref 0), (1, .int (nI k)), (2, .int (nI m)), (3, .int r)]) dX11_hops_133 rfl (by decide) (by decide) rfl ?_
                                refine j_goto (tgt := 105) dX11_hops_136 rfl ?_
                                refine j_iload 0 dX11_hops_105 rfl ?_
                                refine j_if_lt (tgt := 139) dX11_hops_107 rfl (fun c55 => ?_) (fun c55 => ?_)
                                · refine j_iload 1 dX11_hops_139 rfl ?_
                                  refine j_iret dX11_hops_141 rfl ?_
                                  have hcm := cm4 (S := Z.1) (tl := tlK Z k) (n := m) (h := fun r => (hpS Z.1 (tlK Z k) r m).2) (fun r => rfl)
                                  have hc9 : (cmS Z.1 (tlK Z k) m 4).1 = 2 := by
                                    rw [hcm]
                                    simp only [cmH]
                                    clear hQ cv hM hS ok hcm
                                    generalize (hpS Z.1 (tlK Z k) 0 m).2 = g0 at *
                                    generalize (hpS Z.1 (tlK Z k) 1 m).2 = g1 at *
                                    generalize (hpS Z.1 (tlK Z k) 2 m).2 = g2 at *
                                    generalize (hpS Z.1 (tlK Z k) 3 m).2 = g3 at *
                                    generalize (hpS Z.1 (tlK Z k) 4 m).2 = g4 at *
                                    grind
                                  have hz : hopsK Z (nI m) r k = (2, Z) := by
                                    clear hQ
                                    clear cv hM hS
                                    have hcl := nI_clamp (show m < 2 ^ 31 by omega)
                                    have h13 := may_13 (S := Z.1) (v := r)
                                    grind [hopsK, cif]
                                  exact hQ _ _ ⟨by rw [hz], by rw [hz]; exact MV.sc cv sm12⟩
                                · exact absurd c55 (by decide)
                              · refine j_iload 0 dX11_hops_129 rfl ?_
                                refine j_istore (L' := [(5, .int 0), (6, .int 0), (4, .int 0), (0, .ref 0), (1, .int (nI k)), (2, .int (nI m)), (3, .int r)]) dX11_hops_131 (by decide) rfl ?_
                                refine j_iinc 1 (-1) (L' := [(6, .int (-1)), (5, .int 0), (4, .int 0), (0, .ref 0), (1, .int (nI k)), (2, .int (nI m)), (3, .int r)]) dX11_hops_133 rfl (by decide) (by decide) rfl ?_
                                refine j_goto (tgt := 105) dX11_hops_136 rfl ?_
                                refine j_iload 0 dX11_hops_105 rfl ?_
                                refine j_if_lt (tgt := 139) dX11_hops_107 rfl (fun c56 => ?_) (fun c56 => ?_)
                                · refine j_iload 1 dX11_hops_139 rfl ?_
                                  refine j_iret dX11_hops_141 rfl ?_
                                  have hcm := cm4 (S := Z.1) (tl := tlK Z k) (n := m) (h := fun r => (hpS Z.1 (tlK Z k) r m).2) (fun r => rfl)
                                  have hc9 : (cmS Z.1 (tlK Z k) m 4).1 = 0 := by
                                    rw [hcm]
                                    simp only [cmH]
                                    clear hQ cv hM hS ok hcm
                                    generalize (hpS Z.1 (tlK Z k) 0 m).2 = g0 at *
                                    generalize (hpS Z.1 (tlK Z k) 1 m).2 = g1 at *
                                    generalize (hpS Z.1 (tlK Z k) 2 m).2 = g2 at *
                                    generalize (hpS Z.1 (tlK Z k) 3 m).2 = g3 at *
                                    generalize (hpS Z.1 (tlK Z k) 4 m).2 = g4 at *
                                    grind
                                  have hz : hopsK Z (nI m) r k = (0, Z) := by
                                    clear hQ
                                    clear cv hM hS
                                    have hcl := nI_clamp (show m < 2 ^ 31 by omega)
                                    have h13 := may_13 (S := Z.1) (v := r)
                                    grind [hopsK, cif]
                                  exact hQ _ _ ⟨by rw [hz], by rw [hz]; exact MV.sc cv sm12⟩
                                · exact absurd c56 (by decide)
                          · refine j_iload 0 dX11_hops_129 rfl ?_
                            refine j_istore (L' := [(5, .int 1), (6, .int 1), (4, .int 0), (0, .ref 0), (1, .int (nI k)), (2, .int (nI m)), (3, .int r)]) dX11_hops_131 (by decide) rfl ?_
                            refine j_iinc 1 0 (L' := [(6, .int 0), (5, .int 1), (4, .int 0), (0, .ref 0), (1, .int (nI k)), (2, .int (nI m)), (3, .int r)]) dX11_hops_133 rfl (by decide) (by decide) rfl ?_
                            refine j_goto (tgt := 105) dX11_hops_136 rfl ?_
                            refine j_iload 0 dX11_hops_105 rfl ?_
                            refine j_if_lt (tgt := 139) dX11_hops_107 rfl (fun c57 => ?_) (fun c57 => ?_)
                            · exact absurd c57 (by decide)
                            · refine j_aload_n 3 dX11_hops_110 rfl ?_
                              refine j_iload_n 4 dX11_hops_111 rfl ?_
                              refine j_iload_n 5 dX11_hops_112 rfl ?_
                              refine j_iload 0 dX11_hops_113 rfl ?_
                              refine j_callV (kc := 0) (ks := 0) (a := 0) (b := 0) (d' := (d + 5)) (As := [.int (nI k), .int (nI m), .int 0]) dX11_hops_115 kX11_308 rfl (shM (Fm.M sm12 hM) sgM_0) (by omega) rfl rfl rfl (Nat.le_of_ble_eq_true rfl) (Nat.le_of_ble_eq_true rfl) (T_hopsBy cv sm12.2.1 (Fm.M sm12 hM) (Fm.mv sm12 hS PS_H) okS lk13 k hk m hm z hz9 ez9 hmz hcell 0) (kk_p ?_)
                              refine j_aload_n 3 dX11_hops_118 rfl ?_
                              refine j_iload_n 4 dX11_hops_119 rfl ?_
                              refine j_iload_n 5 dX11_hops_120 rfl ?_
                              refine j_iload 1 dX11_hops_121 rfl ?_
                              refine j_callV (kc := 0) (ks := 0) (a := 0) (b := 0) (d' := (d + 5)) (As := [.int (nI k), .int (nI m), .int 1]) dX11_hops_123 kX11_308 rfl (shM (Fm.M sm12 hM) sgM_0) (by omega) rfl rfl rfl (Nat.le_of_ble_eq_true rfl) (Nat.le_of_ble_eq_true rfl) (T_hopsBy cv sm12.2.1 (Fm.M sm12 hM) (Fm.mv sm12 hS PS_H) okS lk13 k hk m hm z hz9 ez9 hmz hcell 1) (kk_p ?_)
                              refine j_icmp_ge (tgt := 133) dX11_hops_126 rfl (fun c58 => ?_) (fun c58 => ?_)
                              · refine j_iinc 0 (-1) (L' := [(6, .int (-1)), (5, .int 1), (4, .int 0), (0, .ref 0), (1, .int (nI k)), (2, .int (nI m)), (3, .int r)]) dX11_hops_133 rfl (by decide) (by decide) rfl ?_
                                refine j_goto (tgt := 105) dX11_hops_136 rfl ?_
                                refine j_iload 0 dX11_hops_105 rfl ?_
                                refine j_if_lt (tgt := 139) dX11_hops_107 rfl (fun c59 => ?_) (fun c59 => ?_)
                                · refine j_iload 1 dX11_hops_139 rfl ?_
                                  refine j_iret dX11_hops_141 rfl ?_
                                  have hcm := cm4 (S := Z.1) (tl := tlK Z k) (n := m) (h := fun r => (hpS Z.1 (tlK Z k) r m).2) (fun r => rfl)
                                  have hc9 : (cmS Z.1 (tlK Z k) m 4).1 = 1 := by
                                    rw [hcm]
                                    simp only [cmH]
                                    clear hQ cv hM hS ok hcm
                                    generalize (hpS Z.1 (tlK Z k) 0 m).2 = g0 at *
                                    generalize (hpS Z.1 (tlK Z k) 1 m).2 = g1 at *
                                    generalize (hpS Z.1 (tlK Z k) 2 m).2 = g2 at *
                                    generalize (hpS Z.1 (tlK Z k) 3 m).2 = g3 at *
                                    generalize (hpS Z.1 (tlK Z k) 4 m).2 = g4 at *
                                    grind
                                  have hz : hopsK Z (nI m) r k = (1, Z) := by
                                    clear hQ
                                    clear cv hM hS
                                    have hcl := nI_clamp (show m < 2 ^ 31 by omega)
                                    have h13 := may_13 (S := Z.1) (v := r)
                                    grind [hopsK, cif]
                                  exact hQ _ _ ⟨by rw [hz], by rw [hz]; exact MV.sc cv sm12⟩
                                · exact absurd c59 (by decide)
                              · refine j_iload 0 dX11_hops_129 rfl ?_
                                refine j_istore (L' := [(5, .int 0), (6, .int 0), (4, .int 0), (0, .ref 0), (1, .int (nI k)), (2, .int (nI m)), (3, .int r)]) dX11_hops_131 (by decide) rfl ?_
                                refine j_iinc 1 (-1) (L' := [(6, .int (-1)), (5, .int 0), (4, .int 0), (0, .ref 0), (1, .int (nI k)), (2, .int (nI m)), (3, .int r)]) dX11_hops_133 rfl (by decide) (by decide) rfl ?_
                                refine j_goto (tgt := 105) dX11_hops_136 rfl ?_
                                refine j_iload 0 dX11_hops_105 rfl ?_
                                refine j_if_lt (tgt := 139) dX11_hops_107 rfl (fun c60 => ?_) (fun c60 => ?_)
                                · refine j_iload 1 dX11_hops_139 rfl ?_
                                  refine j_iret dX11_hops_141 rfl ?_
                                  have hcm := cm4 (S := Z.1) (tl := tlK Z k) (n := m) (h := fun r => (hpS Z.1 (tlK Z k) r m).2) (fun r => rfl)
                                  have hc9 : (cmS Z.1 (tlK Z k) m 4).1 = 0 := by
                                    rw [hcm]
                                    simp only [cmH]
                                    clear hQ cv hM hS ok hcm
                                    generalize (hpS Z.1 (tlK Z k) 0 m).2 = g0 at *
                                    generalize (hpS Z.1 (tlK Z k) 1 m).2 = g1 at *
                                    generalize (hpS Z.1 (tlK Z k) 2 m).2 = g2 at *
                                    generalize (hpS Z.1 (tlK Z k) 3 m).2 = g3 at *
                                    generalize (hpS Z.1 (tlK Z k) 4 m).2 = g4 at *
                                    grind
                                  have hz : hopsK Z (nI m) r k = (0, Z) := by
                                    clear hQ
                                    clear cv hM hS
                                    have hcl := nI_clamp (show m < 2 ^ 31 by omega)
                                    have h13 := may_13 (S := Z.1) (v := r)
                                    grind [hopsK, cif]
                                  exact hQ _ _ ⟨by rw [hz], by rw [hz]; exact MV.sc cv sm12⟩
                                · exact absurd c60 (by decide)
              · refine j_aload_n 1 dX11_hops_91 rfl ?_
                refine j_iload_n 2 dX11_hops_92 rfl ?_
                refine j_iload_n 3 dX11_hops_93 rfl ?_
                refine j_iload_n 4 dX11_hops_94 rfl ?_
                refine j_callV (kc := 0) (ks := 0) (a := 0) (b := 0) (d' := (d + 5)) (As := [.int (nI k), .int (nI m), .int r]) dX11_hops_95 kX11_308 rfl (shM (Fm.M sm12 hM) sgM_0) (by omega) rfl rfl rfl (Nat.le_of_ble_eq_true rfl) (Nat.le_of_ble_eq_true rfl) (T_hopsBy cv sm12.2.1 (Fm.M sm12 hM) (Fm.mv sm12 hS PS_H) okS lk13 k hk m hm z hz9 ez9 hmz hcell r) (kk_p ?_)
                refine j_iret dX11_hops_98 rfl ?_
                have hz : hopsK Z (nI m) r k = ((hpS Z.1 (tlK Z k) r m).2, Z) := by
                  clear hQ
                  clear cv hM hS
                  have hcl := nI_clamp (show m < 2 ^ 31 by omega)
                  have h13 := may_13 (S := Z.1) (v := r)
                  grind [hopsK, cif]
                exact hQ _ _ ⟨by rw [hz], by rw [hz]; exact MV.sc cv sm12⟩
            · exact absurd c8 (by decide)
          · refine j_bipush (-6) dX11_hops_62 bp_n6 ?_
            refine j_goto (tgt := 68) dX11_hops_64 rfl ?_
            refine j_istore (L' := [(4, .int (-6)), (0, .ref 0), (1, .int (nI k)), (2, .int (nI m)), (3, .int r)]) dX11_hops_68 (by decide) rfl ?_
            refine j_iload 0 dX11_hops_70 rfl ?_
            refine j_if_eq (tgt := 82) dX11_hops_72 rfl (fun c61 => ?_) (fun c61 => ?_)
            · exact absurd c61 (by decide)
            · refine j_aload_n 1 dX11_hops_75 rfl ?_
              refine j_iload 0 dX11_hops_76 rfl ?_
              refine j_callV (kc := 0) (ks := 0) (a := 0) (b := 0) (d' := d) (As := [.int (-6)]) dX11_hops_78 kX11_130 rfl (shM hM sgM_0) (by omega) rfl rfl rfl (Nat.le_of_ble_eq_true rfl) (Nat.le_of_ble_eq_true rfl) (T_X11_no hM (-6) (by decide)) (kk_p ?_)
              refine j_iret dX11_hops_81 rfl ?_
              have hz : hopsK Z (nI m) r k = ((-6), (refZ Z (-6))) := by
                clear hQ
                clear cv hM hS
                have hcl := nI_clamp (show m < 2 ^ 31 by omega)
                have h13 := may_13 (S := Z.1) (v := r)
                grind [hopsK, cif]
              exact hQ _ _ ⟨by rw [hz], by rw [hz]; exact MV.rf cv (by decide)⟩
    · exact absurd c3 (by omega)
set_option maxRecDepth 20000 in
set_option maxHeartbeats 4000000 in
theorem N_hopsNo {d : Nat} {M : jk_M} {Z : ZS} (cv : MV M Z) (ok : Zok Z) (s n r : Int32) (hs : ¬ (0 ≤ s ∧ s < 8)) : J Fr_X11_hops (d + 6) 0 0 0 [(0, .ref 0), (1, .int s), (2, .int n), (3, .int r)] [] M (jk_ex (some (.int (((-1 : Int32), refZ Z (-1))).1)) (fun M1 => MV M1 (((-1 : Int32), refZ Z (-1))).2)) := by
  refine j_post (fun Q hQ => ?_)
  have hM := cv.1
  have hS := cv.2.1
  have okS := ok.1
  have h40 := cv.2.2.2.2.2.2.2.2.2.2.1
  refine j_aload_n 0 dX11_hops_0 rfl ?_
  refine j_iload_n 1 dX11_hops_1 rfl ?_
  refine j_callV (kc := 0) (ks := 0) (a := 0) (b := 0) (d' := (d + 1)) (As := [.int s]) dX11_hops_2 kX11_229 rfl (shM hM sgM_0) (by omega) rfl rfl rfl (Nat.le_of_ble_eq_true rfl) (Nat.le_of_ble_eq_true rfl) (T_wantedN hM s hs) (kk_p ?_)
  refine j_istore (L' := [(4, .int (-1)), (0, .ref 0), (1, .int s), (2, .int n), (3, .int r)]) dX11_hops_5 (by decide) rfl ?_
  refine j_iload 0 dX11_hops_7 rfl ?_
  refine j_if_ne (tgt := 70) dX11_hops_9 rfl (fun c1 => ?_) (fun c1 => ?_)
  · refine j_iload 0 dX11_hops_70 rfl ?_
    refine j_if_eq (tgt := 82) dX11_hops_72 rfl (fun c2 => ?_) (fun c2 => ?_)
    · exact absurd c2 (by decide)
    · refine j_aload_n 1 dX11_hops_75 rfl ?_
      refine j_iload 0 dX11_hops_76 rfl ?_
      refine j_callV (kc := 0) (ks := 0) (a := 0) (b := 0) (d' := d) (As := [.int (-1)]) dX11_hops_78 kX11_130 rfl (shM hM sgM_0) (by omega) rfl rfl rfl (Nat.le_of_ble_eq_true rfl) (Nat.le_of_ble_eq_true rfl) (T_X11_no hM (-1) (by decide)) (kk_p ?_)
      refine j_iret dX11_hops_81 rfl ?_
      exact hQ _ _ ⟨rfl, MV.rf cv (by decide)⟩
  · exact absurd c1 (by decide)
theorem N_hops {d : Nat} {M : jk_M} {Z : ZS} (cv : MV M Z) (ok : Zok Z) (s n r : Int32) : J Fr_X11_hops (d + 6) 0 0 0 [(0, .ref 0), (1, .int s), (2, .int n), (3, .int r)] [] M (jk_ex (some (.int (hopsZ Z s n r).1)) (fun M1 => MV M1 (hopsZ Z s n r).2)) := by
  by_cases h : 0 ≤ s ∧ s < 8
  · obtain ⟨k, hk, rfl⟩ := s_in h
    rw [hopsZ, inS_y hk]
    by_cases h0 : tdK Z k n 1 = 0
    · obtain ⟨m, hm, rfl⟩ := td_n h0
      obtain ⟨z, hz9, ez9, hmz, hr0⟩ := td_z ok hk hm h0
      exact N_hops1 cv ok k hk m hm z hz9 ez9 hmz hr0 h0 r
    · exact N_hops0 cv ok k hk n r h0
  · rw [hopsZ, inS_n h]; exact N_hopsNo cv ok s n r h
