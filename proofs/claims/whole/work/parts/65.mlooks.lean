/-! numbers that may be, cells in rows, of the model's public looks -/
theorem may_0 {S : HS} (ok : Sok S) {v : Int32} : mayS S 0 v = (S 0 0 ≤ v ∧ v ≤ 8) := by
  obtain ⟨e, h2, h8⟩ := ok.S
  have h2' : (2 : Int32) ≤ S 0 0 := by rw [e, show (2 : Int32) = nI 2 from rfl]; exact nI_le h2 (by omega)
  apply propext
  simp only [mayS]
  rw [if_neg (by decide)]
  show (_ ∧ _ ∧ _ ∧ _ ∧ (2 : Int32) ≤ v ∧ v ≤ (8 : Int32)) ↔ _
  constructor
  · rintro ⟨-, -, h, -, -, h3⟩
    exact ⟨Int32.not_lt.mp (fun z => h (by first | exact ⟨rfl, z⟩ | exact ⟨trivial, z⟩)), h3⟩
  · rintro ⟨h, h3⟩
    exact ⟨by decide, by decide, fun z => absurd z.2 (Int32.not_lt.mpr h), fun z => absurd z.1 (by decide), Int32.le_trans h2' h, h3⟩
theorem may_g {S : HS} {z v a b : Int32} (h3 : ¬ z = 3) (h0 : ¬ z = 0) (h10 : ¬ z = 10) (hz : 0 ≤ z ∧ z < 14) (ha : jk_le.getD z.toNatClampNeg 0 = a) (hb : jk_mo.getD z.toNatClampNeg 0 = b) : mayS S z v = (a ≤ v ∧ v ≤ b) := by
  apply propext
  simp only [mayS]
  rw [if_neg h3, ha, hb]
  constructor
  · rintro ⟨-, -, -, -, h⟩; exact h
  · intro h; exact ⟨hz.1, hz.2, fun z => h0 z.1, fun z => h10 z.1, h⟩
theorem may_1 {S : HS} {v : Int32} : mayS S 1 v = (0 ≤ v ∧ v ≤ 6) := may_g (by decide) (by decide) (by decide) (by decide) rfl rfl
theorem may_2 {S : HS} {v : Int32} : mayS S 2 v = (0 ≤ v ∧ v ≤ 9) := may_g (by decide) (by decide) (by decide) (by decide) rfl rfl
theorem may_4 {S : HS} {v : Int32} : mayS S 4 v = (0 ≤ v ∧ v ≤ 1) := may_g (by decide) (by decide) (by decide) (by decide) rfl rfl
theorem may_5 {S : HS} {v : Int32} : mayS S 5 v = (10 ≤ v ∧ v ≤ 60) := may_g (by decide) (by decide) (by decide) (by decide) rfl rfl
theorem may_6 {S : HS} {v : Int32} : mayS S 6 v = (1 ≤ v ∧ v ≤ 13) := may_g (by decide) (by decide) (by decide) (by decide) rfl rfl
theorem may_7 {S : HS} {v : Int32} : mayS S 7 v = (0 ≤ v ∧ v ≤ 20) := may_g (by decide) (by decide) (by decide) (by decide) rfl rfl
theorem may_8 {S : HS} {v : Int32} : mayS S 8 v = (1 ≤ v ∧ v ≤ 5) := may_g (by decide) (by decide) (by decide) (by decide) rfl rfl
theorem may_9 {S : HS} {v : Int32} : mayS S 9 v = (1 ≤ v ∧ v ≤ 99) := may_g (by decide) (by decide) (by decide) (by decide) rfl rfl
theorem may_11 {S : HS} {v : Int32} : mayS S 11 v = (0 ≤ v ∧ v ≤ 59) := may_g (by decide) (by decide) (by decide) (by decide) rfl rfl
theorem may_12 {S : HS} {v : Int32} : mayS S 12 v = (0 ≤ v ∧ v ≤ 5) := may_g (by decide) (by decide) (by decide) (by decide) rfl rfl
theorem may_13 {S : HS} {v : Int32} : mayS S 13 v = (0 ≤ v ∧ v ≤ 4) := may_g (by decide) (by decide) (by decide) (by decide) rfl rfl
theorem nc_of {S : HS} (ok : Sok S) {n : Nat} (hn : n < 2 ^ 31) (h : nS S ≤ n % 10 ∨ nS S ≤ n / 10) : ¬ isC S (nI n) := fun z => by
  obtain ⟨-, h1, h2, -⟩ := isC_nat ok z
  rw [nI_clamp hn] at h1 h2
  omega
theorem sk_g {S : HS} {α : Type} {g : Nat → α} (h : ∀ n, n < 100 → ¬ isC S (nI n) → g (n + 1) = g n) (a : Nat) : ∀ k, a + k ≤ 100 → (∀ j, a ≤ j → j < a + k → ¬ isC S (nI j)) → g (a + k) = g a
  | 0, _, _ => rfl
  | k + 1, h1, h2 => (h (a + k) (by omega) (h2 (a + k) (by omega) (by omega))).trans (sk_g h a k (by omega) (fun j h3 h4 => h2 j h3 (by omega)))
theorem sk_row {S : HS} (ok : Sok S) {α : Type} {g : Nat → α} (h : ∀ n, n < 100 → ¬ isC S (nI n) → g (n + 1) = g n) {r : Nat} (hr : r < 8) : g (10 * r + nS S) = g (10 * (r + 1)) := by
  have h8 := ok.S.2.2
  have e := sk_g h (10 * r + nS S) (10 - nS S) (by omega) (fun j h1 h2 => nc_of ok (by omega) (Or.inl (by omega)))
  rw [show 10 * r + nS S + (10 - nS S) = 10 * (r + 1) by omega] at e
  exact e.symm
theorem sk_end {S : HS} (ok : Sok S) {α : Type} {g : Nat → α} (h : ∀ n, n < 100 → ¬ isC S (nI n) → g (n + 1) = g n) : g (10 * nS S) = g 80 := by
  have h8 := ok.S.2.2
  have e := sk_g h (10 * nS S) (80 - 10 * nS S) (by omega) (fun j h1 h2 => nc_of ok (by omega) (Or.inr (by omega)))
  rw [show 10 * nS S + (80 - 10 * nS S) = 80 by omega] at e
  exact e.symm
theorem cnt_k {S : HS} {n : Int32} (c : Nat) (_ : c < 100) (h : ¬ isC S (nI c)) : cntS S n (c + 1) = cntS S n c := cif_f (fun z => h z.1)
theorem near_k {S : HS} {a n : Int32} (c : Nat) (_ : c < 100) (h : ¬ isC S (nI c)) : nearS S a n (c + 1) = nearS S a n c := cif_f (fun z => h z.1)
def chI (S : HS) : Nat → Int32 × Int32
  | 0 => (0, 0)
  | k + 1 => (bstS S k, dinS S (bstS S k))
theorem bst_n {S : HS} : ∀ k, k ≤ 12 → ∃ m, 1 ≤ m ∧ m ≤ 13 ∧ bstS S k = nI m
  | 0, _ => ⟨1, by omega, by omega, rfl⟩
  | k + 1, h => by
    obtain ⟨m, h1, h2, e⟩ := bst_n k (by omega)
    rw [bst_s]
    split
    · exact ⟨k + 2, by omega, by omega, rfl⟩
    · exact ⟨m, h1, h2, e⟩
theorem chI_s {S : HS} {k : Nat} (hk : k ≤ 12) : chI S (k + 1) = if (chI S k).1 = 0 ∨ dinS S (nI (k + 1)) < (chI S k).2 then (nI (k + 1), dinS S (nI (k + 1))) else chI S k := by
  cases k with
  | zero =>
    show (bstS S 0, dinS S (bstS S 0)) = if (0 : Int32) = 0 ∨ dinS S (nI (0 + 1)) < 0 then (nI (0 + 1), dinS S (nI (0 + 1))) else chI S 0
    rw [if_pos (Or.inl rfl)]; rfl
  | succ j =>
    obtain ⟨m, h1, h2, e⟩ := bst_n (S := S) j (by omega)
    have hne : ¬ bstS S j = 0 := by rw [e]; exact nI_ne0 (by omega) (by omega)
    show (bstS S (j + 1), dinS S (bstS S (j + 1))) = if bstS S j = 0 ∨ dinS S (nI (j + 2)) < dinS S (bstS S j) then (nI (j + 2), dinS S (nI (j + 2))) else (bstS S j, dinS S (bstS S j))
    rw [bst_s]
    by_cases h : dinS S (nI (j + 2)) < dinS S (bstS S j)
    · rw [if_pos h, if_pos (Or.inr h)]
    · rw [if_neg h, if_neg (fun z => z.elim hne h)]
theorem nI13 {m : Nat} (h1 : 1 ≤ m) (h2 : m ≤ 13) : inB (nI m) 1 13 := ⟨m, h1, h2, rfl⟩
set_option maxRecDepth 20000 in
set_option maxHeartbeats 4000000 in
theorem N_bars {d : Nat} {M : jk_M} {Z : ZS} (cv : MV M Z) (ok : Zok Z) (b : Int32) (c : Int32) (k : Int32) : J Fr_X11_bars (d + 5) 0 0 0 [(0, .ref 0), (1, .int b), (2, .int c), (3, .int k)] [] M (jk_ex (some (.int (barsZ Z b c k).1)) (fun M1 => MV M1 (barsZ Z b c k).2)) := by
  refine j_post (fun Q hQ => ?_)
  have hM := cv.1
  have hS := cv.2.1
  have okS := ok.1
  have h40 := cv.2.2.2.2.2.2.2.2.2.2.1
  refine j_iload_n 3 dX11_bars_0 rfl ?_
  refine j_if_lt (tgt := 9) dX11_bars_1 rfl (fun c1 => ?_) (fun c1 => ?_)
  · refine j_aload_n 0 dX11_bars_9 rfl ?_
    refine j_bipush (-5) dX11_bars_10 bp_n5 ?_
    refine j_callV (kc := 0) (ks := 0) (a := 0) (b := 0) (d' := d) (As := [.int (-5)]) dX11_bars_12 kX11_130 rfl (shM hM sgM_0) (by omega) rfl rfl rfl (Nat.le_of_ble_eq_true rfl) (Nat.le_of_ble_eq_true rfl) (T_X11_no hM (-5) (by decide)) (kk_p ?_)
    refine j_iret dX11_bars_15 rfl ?_
    have hz : barsZ Z b c k = ((-5), (refZ Z (-5))) := by
      clear hQ
      clear cv hM hS
      grind [barsZ, cif, may_4, barS]
    exact hQ _ _ ⟨by rw [hz], by rw [hz]; exact MV.rf cv (by decide)⟩
  · refine j_iload_n 3 dX11_bars_4 rfl ?_
    refine j_iconst 2 dX11_bars_5 ic_2 ?_
    refine j_icmp_le (tgt := 16) dX11_bars_6 rfl (fun c2 => ?_) (fun c2 => ?_)
    · refine j_iload_n 1 dX11_bars_16 rfl ?_
      refine j_if_lt (tgt := 33) dX11_bars_17 rfl (fun c3 => ?_) (fun c3 => ?_)
      · refine j_aload_n 0 dX11_bars_33 rfl ?_
        refine j_bipush (-6) dX11_bars_34 bp_n6 ?_
        refine j_callV (kc := 0) (ks := 0) (a := 0) (b := 0) (d' := d) (As := [.int (-6)]) dX11_bars_36 kX11_130 rfl (shM hM sgM_0) (by omega) rfl rfl rfl (Nat.le_of_ble_eq_true rfl) (Nat.le_of_ble_eq_true rfl) (T_X11_no hM (-6) (by decide)) (kk_p ?_)
        refine j_iret dX11_bars_39 rfl ?_
        have hz : barsZ Z b c k = ((-6), (refZ Z (-6))) := by
          clear hQ
          clear cv hM hS
          grind [barsZ, cif, may_4, barS]
        exact hQ _ _ ⟨by rw [hz], by rw [hz]; exact MV.rf cv (by decide)⟩
      · refine j_iload_n 1 dX11_bars_20 rfl ?_
        refine j_iconst 1 dX11_bars_21 ic_1 ?_
        refine j_icmp_gt (tgt := 33) dX11_bars_22 rfl (fun c4 => ?_) (fun c4 => ?_)
        · refine j_aload_n 0 dX11_bars_33 rfl ?_
          refine j_bipush (-6) dX11_bars_34 bp_n6 ?_
          refine j_callV (kc := 0) (ks := 0) (a := 0) (b := 0) (d' := d) (As := [.int (-6)]) dX11_bars_36 kX11_130 rfl (shM hM sgM_0) (by omega) rfl rfl rfl (Nat.le_of_ble_eq_true rfl) (Nat.le_of_ble_eq_true rfl) (T_X11_no hM (-6) (by decide)) (kk_p ?_)
          refine j_iret dX11_bars_39 rfl ?_
          have hz : barsZ Z b c k = ((-6), (refZ Z (-6))) := by
            clear hQ
            clear cv hM hS
            grind [barsZ, cif, may_4, barS]
          exact hQ _ _ ⟨by rw [hz], by rw [hz]; exact MV.rf cv (by decide)⟩
        · refine j_aload_n 0 dX11_bars_25 rfl ?_
          refine j_iload_n 2 dX11_bars_26 rfl ?_
          refine j_callV (kc := 0) (ks := 0) (a := 0) (b := 0) (d' := d) (As := [.int c]) dX11_bars_27 kX11_154 rfl (shM hM sgM_0) (by omega) rfl rfl rfl (Nat.le_of_ble_eq_true rfl) (Nat.le_of_ble_eq_true rfl) (T_X11_isCell hM hS okS c) (kk_p ?_)
          refine j_if_neB (p := (isC Z.1 c)) (tgt := 40) dX11_bars_30 rfl (fun c5 => ?_) (fun c5 => ?_)
          · have hb : b = 0 ∨ b = 1 := by clear hQ; grind
            have hcc : isC Z.1 c := by assumption
            refine j_aload_n 0 dX11_bars_40 rfl ?_
            refine j_callV (kc := 0) (ks := 0) (a := 0) (b := 0) (d' := (d + 3)) (As := []) dX11_bars_41 kX11_181 rfl (shM hM sgM_0) (by omega) rfl rfl rfl (Nat.le_of_ble_eq_true rfl) (Nat.le_of_ble_eq_true rfl) (T_X11_looks hM hS okS h40 (GT.no okS) okS) (kk_ev (fun M6 hM7 => ?_))
            obtain ⟨h08, lk10⟩ := hM7
            have sm9 : Fm PS M M6 := Fm.mo h08 PLk_S
            refine j_iload_n 3 dX11_bars_44 rfl ?_
            refine j_if_ne (tgt := 57) dX11_bars_45 rfl (fun c11 => ?_) (fun c11 => ?_)
            · refine j_iload_n 3 dX11_bars_57 rfl ?_
              refine j_iconst 1 dX11_bars_58 ic_1 ?_
              refine j_icmp_ne (tgt := 71) dX11_bars_59 rfl (fun c12 => ?_) (fun c12 => ?_)
              · refine j_aload_n 0 dX11_bars_71 rfl ?_
                refine j_iload_n 1 dX11_bars_72 rfl ?_
                refine j_iload_n 2 dX11_bars_73 rfl ?_
                refine j_callV (kc := 0) (ks := 0) (a := 0) (b := 0) (d' := (d + 4)) (As := [.int b, .int c]) dX11_bars_74 kX11_184 rfl (shM (Fm.M sm9 hM) sgM_0) (by omega) rfl rfl rfl (Nat.le_of_ble_eq_true rfl) (Nat.le_of_ble_eq_true rfl) (T_X11_pace (Fm.M sm9 hM) (MEq.of (Fm.mv sm9 hS PS_H)) okS lk10 b c hcc) (kk_p ?_)
                refine j_iret dX11_bars_77 rfl ?_
                have hz : barsZ Z b c k = ((paceS Z.1 b c), Z) := by
                  clear hQ
                  clear cv hM hS
                  grind [barsZ, cif, may_4, barS]
                exact hQ _ _ ⟨by rw [hz], by rw [hz]; exact MV.sc cv sm9⟩
              · refine j_aload_n 0 dX11_bars_62 rfl ?_
                refine j_iload_n 1 dX11_bars_63 rfl ?_
                refine j_iload_n 2 dX11_bars_64 rfl ?_
                refine j_callV (kc := 0) (ks := 0) (a := 0) (b := 0) (d' := (d + 3)) (As := [.int b, .int c]) dX11_bars_65 kX11_257 rfl (shM (Fm.M sm9 hM) sgM_0) (by omega) rfl rfl rfl (Nat.le_of_ble_eq_true rfl) (Nat.le_of_ble_eq_true rfl) (T_X11_barsAt (Fm.M sm9 hM) (MEq.of (Fm.mv sm9 hS PS_H)) okS lk10 b c hb hcc) (kk_p ?_)
                refine j_goto (tgt := 77) dX11_bars_68 rfl ?_
                refine j_iret dX11_bars_77 rfl ?_
                have hz : barsZ Z b c k = ((barS Z.1 b c), Z) := by
                  clear hQ
                  clear cv hM hS
                  grind [barsZ, cif, may_4, barS]
                exact hQ _ _ ⟨by rw [hz], by rw [hz]; exact MV.sc cv sm9⟩
            · refine j_aload_n 0 dX11_bars_48 rfl ?_
              refine j_iload_n 1 dX11_bars_49 rfl ?_
              refine j_iload_n 2 dX11_bars_50 rfl ?_
              refine j_callV (kc := 0) (ks := 0) (a := 0) (b := 0) (d' := (d + 2)) (As := [.int b, .int c]) dX11_bars_51 kX11_254 rfl (shM (Fm.M sm9 hM) sgM_0) (by omega) rfl rfl rfl (Nat.le_of_ble_eq_true rfl) (Nat.le_of_ble_eq_true rfl) (T_X11_strength (Fm.M sm9 hM) (MEq.of (Fm.mv sm9 hS PS_H)) okS lk10 b c hb hcc) (kk_p ?_)
              refine j_goto (tgt := 77) dX11_bars_54 rfl ?_
              refine j_iret dX11_bars_77 rfl ?_
              have hz : barsZ Z b c k = ((strS Z.1 (plO Z.1 b) c), Z) := by
                clear hQ
                clear cv hM hS
                grind [barsZ, cif, may_4, barS]
              exact hQ _ _ ⟨by rw [hz], by rw [hz]; exact MV.sc cv sm9⟩
          · refine j_aload_n 0 dX11_bars_33 rfl ?_
            refine j_bipush (-6) dX11_bars_34 bp_n6 ?_
            refine j_callV (kc := 0) (ks := 0) (a := 0) (b := 0) (d' := d) (As := [.int (-6)]) dX11_bars_36 kX11_130 rfl (shM hM sgM_0) (by omega) rfl rfl rfl (Nat.le_of_ble_eq_true rfl) (Nat.le_of_ble_eq_true rfl) (T_X11_no hM (-6) (by decide)) (kk_p ?_)
            refine j_iret dX11_bars_39 rfl ?_
            have hz : barsZ Z b c k = ((-6), (refZ Z (-6))) := by
              clear hQ
              clear cv hM hS
              grind [barsZ, cif, may_4, barS]
            exact hQ _ _ ⟨by rw [hz], by rw [hz]; exact MV.rf cv (by decide)⟩
    · refine j_aload_n 0 dX11_bars_9 rfl ?_
      refine j_bipush (-5) dX11_bars_10 bp_n5 ?_
      refine j_callV (kc := 0) (ks := 0) (a := 0) (b := 0) (d' := d) (As := [.int (-5)]) dX11_bars_12 kX11_130 rfl (shM hM sgM_0) (by omega) rfl rfl rfl (Nat.le_of_ble_eq_true rfl) (Nat.le_of_ble_eq_true rfl) (T_X11_no hM (-5) (by decide)) (kk_p ?_)
      refine j_iret dX11_bars_15 rfl ?_
      have hz : barsZ Z b c k = ((-5), (refZ Z (-5))) := by
        clear hQ
        clear cv hM hS
        grind [barsZ, cif, may_4, barS]
      exact hQ _ _ ⟨by rw [hz], by rw [hz]; exact MV.rf cv (by decide)⟩
set_option maxRecDepth 20000 in
set_option maxHeartbeats 4000000 in
theorem N_way {d : Nat} {M : jk_M} {Z : ZS} (cv : MV M Z) (ok : Zok Z) (c : Int32) (e : Int32) (k : Int32) : J Fr_X11_way (d + 4) 0 0 0 [(0, .ref 0), (1, .int c), (2, .int e), (3, .int k)] [] M (jk_ex (some (.int (wayZ Z c e k).1)) (fun M1 => MV M1 (wayZ Z c e k).2)) := by
  refine j_post (fun Q hQ => ?_)
  have hM := cv.1
  have hS := cv.2.1
  have okS := ok.1
  have h40 := cv.2.2.2.2.2.2.2.2.2.2.1
  refine j_iload_n 3 dX11_way_0 rfl ?_
  refine j_if_lt (tgt := 9) dX11_way_1 rfl (fun c1 => ?_) (fun c1 => ?_)
  · refine j_aload_n 0 dX11_way_9 rfl ?_
    refine j_bipush (-5) dX11_way_10 bp_n5 ?_
    refine j_callV (kc := 0) (ks := 0) (a := 0) (b := 0) (d' := d) (As := [.int (-5)]) dX11_way_12 kX11_130 rfl (shM hM sgM_0) (by omega) rfl rfl rfl (Nat.le_of_ble_eq_true rfl) (Nat.le_of_ble_eq_true rfl) (T_X11_no hM (-5) (by decide)) (kk_p ?_)
    refine j_iret dX11_way_15 rfl ?_
    have hz : wayZ Z c e k = ((-5), (refZ Z (-5))) := by
      clear hQ
      clear cv hM hS
      grind [wayZ, cif]
    exact hQ _ _ ⟨by rw [hz], by rw [hz]; exact MV.rf cv (by decide)⟩
  · refine j_iload_n 3 dX11_way_4 rfl ?_
    refine j_iconst 1 dX11_way_5 ic_1 ?_
    refine j_icmp_le (tgt := 16) dX11_way_6 rfl (fun c2 => ?_) (fun c2 => ?_)
    · refine j_aload_n 0 dX11_way_16 rfl ?_
      refine j_iload_n 1 dX11_way_17 rfl ?_
      refine j_callV (kc := 0) (ks := 0) (a := 0) (b := 0) (d' := d) (As := [.int c]) dX11_way_18 kX11_154 rfl (shM hM sgM_0) (by omega) rfl rfl rfl (Nat.le_of_ble_eq_true rfl) (Nat.le_of_ble_eq_true rfl) (T_X11_isCell hM hS okS c) (kk_p ?_)
      refine j_if_eqB (p := (isC Z.1 c)) (tgt := 32) dX11_way_21 rfl (fun c3 => ?_) (fun c3 => ?_)
      · refine j_aload_n 0 dX11_way_32 rfl ?_
        refine j_bipush (-6) dX11_way_33 bp_n6 ?_
        refine j_callV (kc := 0) (ks := 0) (a := 0) (b := 0) (d' := d) (As := [.int (-6)]) dX11_way_35 kX11_130 rfl (shM hM sgM_0) (by omega) rfl rfl rfl (Nat.le_of_ble_eq_true rfl) (Nat.le_of_ble_eq_true rfl) (T_X11_no hM (-6) (by decide)) (kk_p ?_)
        refine j_iret dX11_way_38 rfl ?_
        have hz : wayZ Z c e k = ((-6), (refZ Z (-6))) := by
          clear hQ
          clear cv hM hS
          grind [wayZ, cif]
        exact hQ _ _ ⟨by rw [hz], by rw [hz]; exact MV.rf cv (by decide)⟩
      · refine j_aload_n 0 dX11_way_24 rfl ?_
        refine j_iload_n 2 dX11_way_25 rfl ?_
        refine j_callV (kc := 0) (ks := 0) (a := 0) (b := 0) (d' := d) (As := [.int e]) dX11_way_26 kX11_154 rfl (shM hM sgM_0) (by omega) rfl rfl rfl (Nat.le_of_ble_eq_true rfl) (Nat.le_of_ble_eq_true rfl) (T_X11_isCell hM hS okS e) (kk_p ?_)
        refine j_if_neB (p := (isC Z.1 e)) (tgt := 39) dX11_way_29 rfl (fun c4 => ?_) (fun c4 => ?_)
        · have hcc : isC Z.1 c := by assumption
          have hce : isC Z.1 e := by assumption
          refine j_aload_n 0 dX11_way_39 rfl ?_
          refine j_callV (kc := 0) (ks := 0) (a := 0) (b := 0) (d' := (d + 3)) (As := []) dX11_way_40 kX11_181 rfl (shM hM sgM_0) (by omega) rfl rfl rfl (Nat.le_of_ble_eq_true rfl) (Nat.le_of_ble_eq_true rfl) (T_X11_looks hM hS okS h40 (GT.no okS) okS) (kk_ev (fun M5 hM6 => ?_))
          obtain ⟨h07, lk9⟩ := hM6
          have sm8 : Fm PS M M5 := Fm.mo h07 PLk_S
          refine j_iload_n 3 dX11_way_43 rfl ?_
          refine j_if_ne (tgt := 56) dX11_way_44 rfl (fun c10 => ?_) (fun c10 => ?_)
          · refine j_aload_n 0 dX11_way_56 rfl ?_
            refine j_iload_n 1 dX11_way_57 rfl ?_
            refine j_iload_n 2 dX11_way_58 rfl ?_
            refine j_callV (kc := 0) (ks := 0) (a := 0) (b := 0) (d' := d) (As := [.int c, .int e]) dX11_way_59 kX11_251 rfl (shM (Fm.M sm8 hM) sgM_0) (by omega) rfl rfl rfl (Nat.le_of_ble_eq_true rfl) (Nat.le_of_ble_eq_true rfl) (T_X11_wayLoss (Fm.M sm8 hM) okS lk9 c e hcc hce) (kk_p ?_)
            refine j_iret dX11_way_62 rfl ?_
            have hz : wayZ Z c e k = ((wayS Z.1 c e), Z) := by
              clear hQ
              clear cv hM hS
              grind [wayZ, cif]
            exact hQ _ _ ⟨by rw [hz], by rw [hz]; exact MV.sc cv sm8⟩
          · refine j_aload_n 0 dX11_way_47 rfl ?_
            refine j_iload_n 1 dX11_way_48 rfl ?_
            refine j_iload_n 2 dX11_way_49 rfl ?_
            refine j_callV (kc := 0) (ks := 0) (a := 0) (b := 0) (d' := (d + 1)) (As := [.int c, .int e]) dX11_way_50 kX11_242 rfl (shM (Fm.M sm8 hM) sgM_0) (by omega) rfl rfl rfl (Nat.le_of_ble_eq_true rfl) (Nat.le_of_ble_eq_true rfl) (T_X11_far (Fm.M sm8 hM) c e (isC_P okS hcc) (isC_P okS hce)) (kk_p ?_)
            refine j_goto (tgt := 62) dX11_way_53 rfl ?_
            refine j_iret dX11_way_62 rfl ?_
            have hz : wayZ Z c e k = ((sfar c e), Z) := by
              clear hQ
              clear cv hM hS
              grind [wayZ, cif]
            exact hQ _ _ ⟨by rw [hz], by rw [hz]; exact MV.sc cv sm8⟩
        · refine j_aload_n 0 dX11_way_32 rfl ?_
          refine j_bipush (-6) dX11_way_33 bp_n6 ?_
          refine j_callV (kc := 0) (ks := 0) (a := 0) (b := 0) (d' := d) (As := [.int (-6)]) dX11_way_35 kX11_130 rfl (shM hM sgM_0) (by omega) rfl rfl rfl (Nat.le_of_ble_eq_true rfl) (Nat.le_of_ble_eq_true rfl) (T_X11_no hM (-6) (by decide)) (kk_p ?_)
          refine j_iret dX11_way_38 rfl ?_
          have hz : wayZ Z c e k = ((-6), (refZ Z (-6))) := by
            clear hQ
            clear cv hM hS
            grind [wayZ, cif]
          exact hQ _ _ ⟨by rw [hz], by rw [hz]; exact MV.rf cv (by decide)⟩
    · refine j_aload_n 0 dX11_way_9 rfl ?_
      refine j_bipush (-5) dX11_way_10 bp_n5 ?_
      refine j_callV (kc := 0) (ks := 0) (a := 0) (b := 0) (d' := d) (As := [.int (-5)]) dX11_way_12 kX11_130 rfl (shM hM sgM_0) (by omega) rfl rfl rfl (Nat.le_of_ble_eq_true rfl) (Nat.le_of_ble_eq_true rfl) (T_X11_no hM (-5) (by decide)) (kk_p ?_)
      refine j_iret dX11_way_15 rfl ?_
      have hz : wayZ Z c e k = ((-5), (refZ Z (-5))) := by
        clear hQ
        clear cv hM hS
        grind [wayZ, cif]
      exact hQ _ _ ⟨by rw [hz], by rw [hz]; exact MV.rf cv (by decide)⟩
set_option maxRecDepth 20000 in
set_option maxHeartbeats 4000000 in
theorem N_hum {d : Nat} {M : jk_M} {Z : ZS} (cv : MV M Z) (ok : Zok Z) (c : Int32) (k : Int32) : J Fr_X11_hum (d + 4) 0 0 0 [(0, .ref 0), (1, .int c), (2, .int k)] [] M (jk_ex (some (.int (humZ Z c k).1)) (fun M1 => MV M1 (humZ Z c k).2)) := by
  refine j_post (fun Q hQ => ?_)
  have hM := cv.1
  have hS := cv.2.1
  have okS := ok.1
  have h40 := cv.2.2.2.2.2.2.2.2.2.2.1
  refine j_iload_n 2 dX11_hum_0 rfl ?_
  refine j_if_lt (tgt := 9) dX11_hum_1 rfl (fun c1 => ?_) (fun c1 => ?_)
  · refine j_aload_n 0 dX11_hum_9 rfl ?_
    refine j_bipush (-5) dX11_hum_10 bp_n5 ?_
    refine j_callV (kc := 0) (ks := 0) (a := 0) (b := 0) (d' := d) (As := [.int (-5)]) dX11_hum_12 kX11_130 rfl (shM hM sgM_0) (by omega) rfl rfl rfl (Nat.le_of_ble_eq_true rfl) (Nat.le_of_ble_eq_true rfl) (T_X11_no hM (-5) (by decide)) (kk_p ?_)
    refine j_iret dX11_hum_15 rfl ?_
    have hz : humZ Z c k = ((-5), (refZ Z (-5))) := by
      clear hQ
      clear cv hM hS
      grind [humZ, cif]
    exact hQ _ _ ⟨by rw [hz], by rw [hz]; exact MV.rf cv (by decide)⟩
  · refine j_iload_n 2 dX11_hum_4 rfl ?_
    refine j_iconst 1 dX11_hum_5 ic_1 ?_
    refine j_icmp_le (tgt := 16) dX11_hum_6 rfl (fun c2 => ?_) (fun c2 => ?_)
    · refine j_aload_n 0 dX11_hum_16 rfl ?_
      refine j_iload_n 1 dX11_hum_17 rfl ?_
      refine j_callV (kc := 0) (ks := 0) (a := 0) (b := 0) (d' := d) (As := [.int c]) dX11_hum_18 kX11_154 rfl (shM hM sgM_0) (by omega) rfl rfl rfl (Nat.le_of_ble_eq_true rfl) (Nat.le_of_ble_eq_true rfl) (T_X11_isCell hM hS okS c) (kk_p ?_)
      refine j_if_neB (p := (isC Z.1 c)) (tgt := 31) dX11_hum_21 rfl (fun c3 => ?_) (fun c3 => ?_)
      · have hcc : isC Z.1 c := by assumption
        refine j_aload_n 0 dX11_hum_31 rfl ?_
        refine j_callV (kc := 0) (ks := 0) (a := 0) (b := 0) (d' := (d + 3)) (As := []) dX11_hum_32 kX11_181 rfl (shM hM sgM_0) (by omega) rfl rfl rfl (Nat.le_of_ble_eq_true rfl) (Nat.le_of_ble_eq_true rfl) (T_X11_looks hM hS okS h40 (GT.no okS) okS) (kk_ev (fun M4 hM5 => ?_))
        obtain ⟨h06, lk8⟩ := hM5
        have sm7 : Fm PS M M4 := Fm.mo h06 PLk_S
        refine j_iload_n 2 dX11_hum_35 rfl ?_
        refine j_if_ne (tgt := 48) dX11_hum_36 rfl (fun c9 => ?_) (fun c9 => ?_)
        · refine j_aload_n 0 dX11_hum_48 rfl ?_
          refine j_getv (dinS Z.1 (Z.1 2 0)) dX11_hum_49 fX11_245 (shM (Fm.M sm7 hM) sgM_0) rfl lk8.2.2 ?_
          refine j_iret dX11_hum_52 rfl ?_
          have hz : humZ Z c k = ((dinS Z.1 (Z.1 2 0)), Z) := by
            clear hQ
            clear cv hM hS
            grind [humZ, cif]
          exact hQ _ _ ⟨by rw [hz], by rw [hz]; exact MV.sc cv sm7⟩
        · refine j_aload_n 0 dX11_hum_39 rfl ?_
          refine j_getr (q := 25) dX11_hum_40 fX11_99 (shM (Fm.M sm7 hM) sgM_0) rfl (rfM (Fm.M sm7 hM) rfM_0_38) ?_
          refine j_iload_n 1 dX11_hum_43 rfl ?_
          refine j_iald dX11_hum_44 (shM (Fm.M sm7 hM) sgM_25) (vpin 80 (by decide) (isC_P okS hcc).1 (isC_P okS hcc).2) ?_
          refine j_topi (humC Z.1 c) (lk8.2.1 _ hcc) ?_
          refine j_goto (tgt := 52) dX11_hum_45 rfl ?_
          refine j_iret dX11_hum_52 rfl ?_
          have hz : humZ Z c k = ((humC Z.1 c), Z) := by
            clear hQ
            clear cv hM hS
            grind [humZ, cif]
          exact hQ _ _ ⟨by rw [hz], by rw [hz]; exact MV.sc cv sm7⟩
      · refine j_aload_n 0 dX11_hum_24 rfl ?_
        refine j_bipush (-6) dX11_hum_25 bp_n6 ?_
        refine j_callV (kc := 0) (ks := 0) (a := 0) (b := 0) (d' := d) (As := [.int (-6)]) dX11_hum_27 kX11_130 rfl (shM hM sgM_0) (by omega) rfl rfl rfl (Nat.le_of_ble_eq_true rfl) (Nat.le_of_ble_eq_true rfl) (T_X11_no hM (-6) (by decide)) (kk_p ?_)
        refine j_iret dX11_hum_30 rfl ?_
        have hz : humZ Z c k = ((-6), (refZ Z (-6))) := by
          clear hQ
          clear cv hM hS
          grind [humZ, cif]
        exact hQ _ _ ⟨by rw [hz], by rw [hz]; exact MV.rf cv (by decide)⟩
    · refine j_aload_n 0 dX11_hum_9 rfl ?_
      refine j_bipush (-5) dX11_hum_10 bp_n5 ?_
      refine j_callV (kc := 0) (ks := 0) (a := 0) (b := 0) (d' := d) (As := [.int (-5)]) dX11_hum_12 kX11_130 rfl (shM hM sgM_0) (by omega) rfl rfl rfl (Nat.le_of_ble_eq_true rfl) (Nat.le_of_ble_eq_true rfl) (T_X11_no hM (-5) (by decide)) (kk_p ?_)
      refine j_iret dX11_hum_15 rfl ?_
      have hz : humZ Z c k = ((-5), (refZ Z (-5))) := by
        clear hQ
        clear cv hM hS
        grind [humZ, cif]
      exact hQ _ _ ⟨by rw [hz], by rw [hz]; exact MV.rf cv (by decide)⟩
set_option maxRecDepth 20000 in
set_option maxHeartbeats 4000000 in
theorem N_filled {d : Nat} {M : jk_M} {Z : ZS} (cv : MV M Z) (ok : Zok Z) (k : Int32) : J Fr_X11_filled (d + 7) 0 0 0 [(0, .ref 0), (1, .int k)] [] M (jk_ex (some (.int (filledZ Z k).1)) (fun M1 => MV M1 (filledZ Z k).2)) := by
  refine j_post (fun Q hQ => ?_)
  have hM := cv.1
  have hS := cv.2.1
  have okS := ok.1
  have h40 := cv.2.2.2.2.2.2.2.2.2.2.1
  refine j_iload_n 1 dX11_filled_0 rfl ?_
  refine j_if_lt (tgt := 9) dX11_filled_1 rfl (fun c1 => ?_) (fun c1 => ?_)
  · refine j_aload_n 0 dX11_filled_9 rfl ?_
    refine j_bipush (-5) dX11_filled_10 bp_n5 ?_
    refine j_callV (kc := 0) (ks := 0) (a := 0) (b := 0) (d' := d) (As := [.int (-5)]) dX11_filled_12 kX11_130 rfl (shM hM sgM_0) (by omega) rfl rfl rfl (Nat.le_of_ble_eq_true rfl) (Nat.le_of_ble_eq_true rfl) (T_X11_no hM (-5) (by decide)) (kk_p ?_)
    refine j_iret dX11_filled_15 rfl ?_
    have hz : filledZ Z k = ((-5), (refZ Z (-5))) := by
      clear hQ
      clear cv hM hS
      grind [filledZ, cif]
    exact hQ _ _ ⟨by rw [hz], by rw [hz]; exact MV.rf cv (by decide)⟩
  · refine j_iload_n 1 dX11_filled_4 rfl ?_
    refine j_iconst 1 dX11_filled_5 ic_1 ?_
    refine j_icmp_le (tgt := 16) dX11_filled_6 rfl (fun c2 => ?_) (fun c2 => ?_)
    · refine j_aload_n 0 dX11_filled_16 rfl ?_
      refine j_callV (kc := 0) (ks := 0) (a := 0) (b := 0) (d' := (d + 3)) (As := []) dX11_filled_17 kX11_181 rfl (shM hM sgM_0) (by omega) rfl rfl rfl (Nat.le_of_ble_eq_true rfl) (Nat.le_of_ble_eq_true rfl) (T_X11_looks hM hS okS h40 (GT.no okS) okS) (kk_ev (fun M3 hM4 => ?_))
      obtain ⟨h05, lk7⟩ := hM4
      have sm6 : Fm PS M M3 := Fm.mo h05 PLk_S
      refine j_iload_n 1 dX11_filled_20 rfl ?_
      refine j_if_ne (tgt := 31) dX11_filled_21 rfl (fun c8 => ?_) (fun c8 => ?_)
      · refine j_aload_n 0 dX11_filled_31 rfl ?_
        refine j_callV (kc := 0) (ks := 0) (a := 0) (b := 0) (d' := (d + 6)) (As := []) dX11_filled_32 kX11_263 rfl (shM (Fm.M sm6 hM) sgM_0) (by omega) rfl rfl rfl (Nat.le_of_ble_eq_true rfl) (Nat.le_of_ble_eq_true rfl) (T_X11_served (Fm.M sm6 hM) (MEq.of (Fm.mv sm6 hS PS_H)) okS lk7) (kk_p ?_)
        refine j_iret dX11_filled_35 rfl ?_
        have hz : filledZ Z k = ((servS Z.1), Z) := by
          clear hQ
          clear cv hM hS
          grind [filledZ, cif]
        exact hQ _ _ ⟨by rw [hz], by rw [hz]; exact MV.sc cv sm6⟩
      · refine j_aload_n 0 dX11_filled_24 rfl ?_
        refine j_callV (kc := 0) (ks := 0) (a := 0) (b := 0) (d' := (d + 5)) (As := []) dX11_filled_25 kX11_260 rfl (shM (Fm.M sm6 hM) sgM_0) (by omega) rfl rfl rfl (Nat.le_of_ble_eq_true rfl) (Nat.le_of_ble_eq_true rfl) (T_X11_filledNow (Fm.M sm6 hM) (MEq.of (Fm.mv sm6 hS PS_H)) okS lk7) (kk_p ?_)
        refine j_goto (tgt := 35) dX11_filled_28 rfl ?_
        refine j_iret dX11_filled_35 rfl ?_
        have hz : filledZ Z k = ((fillS Z.1), Z) := by
          clear hQ
          clear cv hM hS
          grind [filledZ, cif]
        exact hQ _ _ ⟨by rw [hz], by rw [hz]; exact MV.sc cv sm6⟩
    · refine j_aload_n 0 dX11_filled_9 rfl ?_
      refine j_bipush (-5) dX11_filled_10 bp_n5 ?_
      refine j_callV (kc := 0) (ks := 0) (a := 0) (b := 0) (d' := d) (As := [.int (-5)]) dX11_filled_12 kX11_130 rfl (shM hM sgM_0) (by omega) rfl rfl rfl (Nat.le_of_ble_eq_true rfl) (Nat.le_of_ble_eq_true rfl) (T_X11_no hM (-5) (by decide)) (kk_p ?_)
      refine j_iret dX11_filled_15 rfl ?_
      have hz : filledZ Z k = ((-5), (refZ Z (-5))) := by
        clear hQ
        clear cv hM hS
        grind [filledZ, cif]
      exact hQ _ _ ⟨by rw [hz], by rw [hz]; exact MV.rf cv (by decide)⟩
set_option maxRecDepth 20000 in
set_option maxHeartbeats 4000000 in
theorem N_channel {d : Nat} {M : jk_M} {Z : ZS} (cv : MV M Z) (ok : Zok Z)  : J Fr_X11_channel (d + 2) 0 0 0 [(0, .ref 0)] [] M (jk_ex (some (.int (channelZ Z).1)) (fun M1 => MV M1 (channelZ Z).2)) := by
  refine j_post (fun Q hQ => ?_)
  have hM := cv.1
  have hS := cv.2.1
  have okS := ok.1
  have h40 := cv.2.2.2.2.2.2.2.2.2.2.1
  have hN := (Sok.N okS).2
  refine j_iconst 0 dX11_channel_0 ic_0 ?_
  refine j_istore_n (L' := [(1, .int 0), (0, .ref 0)]) dX11_channel_1 (by decide) rfl ?_
  refine j_iconst 0 dX11_channel_2 ic_0 ?_
  refine j_istore_n (L' := [(2, .int 0), (1, .int 0), (0, .ref 0)]) dX11_channel_3 (by decide) rfl ?_
  refine j_iconst 1 dX11_channel_4 ic_1 ?_
  refine j_istore_n (L' := [(3, .int 1), (2, .int 0), (1, .int 0), (0, .ref 0)]) dX11_channel_5 (by decide) rfl ?_
  have hi1 : (0 : Int32) = (chI Z.1 0).1 := rfl
  have hi2 : (0 : Int32) = (chI Z.1 0).2 := rfl
  refine j_L (congrArg (fun zz9 : Int32 => ([(3, .int 1), (2, .int 0), (1, .int zz9), (0, .ref 0)] : List (Nat × Value))) hi1) ?_
  refine j_L (congrArg (fun zz9 : Int32 => ([(3, .int 1), (2, .int zz9), (1, .int (chI Z.1 0).1), (0, .ref 0)] : List (Nat × Value))) hi2) ?_
  have lp3 : ∀ (k1 : Nat) (k : Nat), 13 - k < k1 → (k ≤ 13) → J Fr_X11_channel (d + 2) 0 0 6 [(0, .ref 0), (1, .int (chI Z.1 k).1), (2, .int (chI Z.1 k).2), (3, .int (nI (k + 1)))] [] M Q := by
    intro k1
    induction k1 with
    | zero => intro k hk; exact absurd hk (Nat.not_lt_zero _)
    | succ k1 ih2 =>
      intro k hk1 hk
      refine j_iload_n 3 dX11_channel_6 rfl ?_
      refine j_bipush 13 dX11_channel_7 bp_13 ?_
      refine j_icmp_gtN (tgt := 81) (k + 1) 13 dX11_channel_9 rfl (by omega) (by omega) (fun c4 => ?_) (fun c4 => ?_)
      · refine j_iload_n 1 dX11_channel_81 rfl ?_
        refine j_iret dX11_channel_82 rfl ?_
        have e : k = 13 := by omega
        subst e
        exact hQ _ _ ⟨rfl, cv⟩
      · refine j_iconst 0 dX11_channel_12 ic_0 ?_
        refine j_istore (L' := [(4, .int 0), (0, .ref 0), (1, .int (chI Z.1 k).1), (2, .int (chI Z.1 k).2), (3, .int (nI (k + 1)))]) dX11_channel_13 (by decide) rfl ?_
        refine j_iconst 0 dX11_channel_15 ic_0 ?_
        refine j_istore (L' := [(5, .int 0), (4, .int 0), (0, .ref 0), (1, .int (chI Z.1 k).1), (2, .int (chI Z.1 k).2), (3, .int (nI (k + 1)))]) dX11_channel_16 (by decide) rfl ?_
        have lp7 : ∀ (k5 : Nat) (n : Nat), nN Z.1 - n < k5 → (n ≤ nN Z.1) → J Fr_X11_channel (d + 2) 0 0 18 [(0, .ref 0), (1, .int (chI Z.1 k).1), (2, .int (chI Z.1 k).2), (3, .int (nI (k + 1))), (4, .int (sm (fun j => noiseO (Z.1 15 j) (Z.1 14 j - nI (k + 1))) n)), (5, .int (nI n))] [] M Q := by
          intro k5
          induction k5 with
          | zero => intro n hk; exact absurd hk (Nat.not_lt_zero _)
          | succ k5 ih6 =>
            intro n hk5 hn
            refine j_iload 5 dX11_channel_18 rfl ?_
            refine j_aload_n 0 dX11_channel_20 rfl ?_
            refine j_getv (nI (nN Z.1)) dX11_channel_21 fX11_144 (shM hM sgM_0) rfl ((mr_N hS).trans (Sok.N okS).1) ?_
            refine j_icmp_geN (tgt := 57) n (nN Z.1) dX11_channel_24 rfl (by omega) (by omega) (fun c8 => ?_) (fun c8 => ?_)
            · have hsum : (sm (fun j => noiseO (Z.1 15 j) (Z.1 14 j - nI (k + 1))) n) = dinS Z.1 (nI (k + 1)) := by rw [show n = nN Z.1 by omega]; rfl
              refine j_L (congrArg (fun zz9 : Int32 => ([(0, .ref 0), (1, .int (chI Z.1 k).1), (2, .int (chI Z.1 k).2), (3, .int (nI (k + 1))), (4, .int zz9), (5, .int (nI n))] : List (Nat × Value))) hsum) ?_
              refine j_iload_n 1 dX11_channel_57 rfl ?_
              refine j_if_eq (tgt := 70) dX11_channel_58 rfl (fun c9 => ?_) (fun c9 => ?_)
              · refine j_iload_n 3 dX11_channel_70 rfl ?_
                refine j_istore_n (L' := [(1, .int (nI (k + 1))), (0, .ref 0), (2, .int (chI Z.1 k).2), (3, .int (nI (k + 1))), (4, .int (dinS Z.1 (nI (k + 1)))), (5, .int (nI n))]) dX11_channel_71 (by decide) rfl ?_
                refine j_iload 4 dX11_channel_72 rfl ?_
                refine j_istore_n (L' := [(2, .int (dinS Z.1 (nI (k + 1)))), (1, .int (nI (k + 1))), (0, .ref 0), (3, .int (nI (k + 1))), (4, .int (dinS Z.1 (nI (k + 1)))), (5, .int (nI n))]) dX11_channel_74 (by decide) rfl ?_
                refine j_iinc 3 (nI ((k + 1) + 1)) (L' := [(3, .int (nI ((k + 1) + 1))), (2, .int (dinS Z.1 (nI (k + 1)))), (1, .int (nI (k + 1))), (0, .ref 0), (4, .int (dinS Z.1 (nI (k + 1)))), (5, .int (nI n))]) dX11_channel_75 rfl (inc1 (k + 1)) (by decide) rfl ?_
                refine j_goto (tgt := 6) dX11_channel_78 rfl ?_
                have hch : (chI Z.1 (k + 1)) = ((nI (k + 1)), (dinS Z.1 (nI (k + 1)))) := by
                  rw [chI_s (by omega), if_pos (Or.inl c9)]
                have h1c : (nI (k + 1)) = (chI Z.1 (k + 1)).1 := by rw [hch]
                have h2c : (dinS Z.1 (nI (k + 1))) = (chI Z.1 (k + 1)).2 := by rw [hch]
                refine j_L (congrArg (fun zz9 : Int32 => ([(3, .int (nI ((k + 1) + 1))), (2, .int (dinS Z.1 (nI (k + 1)))), (1, .int zz9), (0, .ref 0), (4, .int (dinS Z.1 (nI (k + 1)))), (5, .int (nI n))] : List (Nat × Value))) h1c) ?_
                refine j_L (congrArg (fun zz9 : Int32 => ([(3, .int (nI ((k + 1) + 1))), (2, .int zz9), (1, .int (chI Z.1 (k + 1)).1), (0, .ref 0), (4, .int (dinS Z.1 (nI (k + 1)))), (5, .int (nI n))] : List (Nat × Value))) h2c) ?_
                exact j_sub (jk_pick [3, 2, 1, 0] rfl) (ih2 (k + 1) (by omega) (by omega))
              · refine j_iload 4 dX11_channel_61 rfl ?_
                refine j_iload_n 2 dX11_channel_63 rfl ?_
                refine j_icmp_lt (tgt := 70) dX11_channel_64 rfl (fun c10 => ?_) (fun c10 => ?_)
                · refine j_iload_n 3 dX11_channel_70 rfl ?_
                  refine j_istore_n (L' := [(1, .int (nI (k + 1))), (0, .ref 0), (2, .int (chI Z.1 k).2), (3, .int (nI (k + 1))), (4, .int (dinS Z.1 (nI (k + 1)))), (5, .int (nI n))]) dX11_channel_71 (by decide) rfl ?_
                  refine j_iload 4 dX11_channel_72 rfl ?_
                  refine j_istore_n (L' := [(2, .int (dinS Z.1 (nI (k + 1)))), (1, .int (nI (k + 1))), (0, .ref 0), (3, .int (nI (k + 1))), (4, .int (dinS Z.1 (nI (k + 1)))), (5, .int (nI n))]) dX11_channel_74 (by decide) rfl ?_
                  refine j_iinc 3 (nI ((k + 1) + 1)) (L' := [(3, .int (nI ((k + 1) + 1))), (2, .int (dinS Z.1 (nI (k + 1)))), (1, .int (nI (k + 1))), (0, .ref 0), (4, .int (dinS Z.1 (nI (k + 1)))), (5, .int (nI n))]) dX11_channel_75 rfl (inc1 (k + 1)) (by decide) rfl ?_
                  refine j_goto (tgt := 6) dX11_channel_78 rfl ?_
                  have hch : (chI Z.1 (k + 1)) = ((nI (k + 1)), (dinS Z.1 (nI (k + 1)))) := by
                    rw [chI_s (by omega), if_pos (Or.inr c10)]
                  have h1c : (nI (k + 1)) = (chI Z.1 (k + 1)).1 := by rw [hch]
                  have h2c : (dinS Z.1 (nI (k + 1))) = (chI Z.1 (k + 1)).2 := by rw [hch]
                  refine j_L (congrArg (fun zz9 : Int32 => ([(3, .int (nI ((k + 1) + 1))), (2, .int (dinS Z.1 (nI (k + 1)))), (1, .int zz9), (0, .ref 0), (4, .int (dinS Z.1 (nI (k + 1)))), (5, .int (nI n))] : List (Nat × Value))) h1c) ?_
                  refine j_L (congrArg (fun zz9 : Int32 => ([(3, .int (nI ((k + 1) + 1))), (2, .int zz9), (1, .int (chI Z.1 (k + 1)).1), (0, .ref 0), (4, .int (dinS Z.1 (nI (k + 1)))), (5, .int (nI n))] : List (Nat × Value))) h2c) ?_
                  exact j_sub (jk_pick [3, 2, 1, 0] rfl) (ih2 (k + 1) (by omega) (by omega))
                · refine j_goto (tgt := 75) dX11_channel_67 rfl ?_
                  refine j_iinc 3 (nI ((k + 1) + 1)) (L' := [(3, .int (nI ((k + 1) + 1))), (0, .ref 0), (1, .int (chI Z.1 k).1), (2, .int (chI Z.1 k).2), (4, .int (dinS Z.1 (nI (k + 1)))), (5, .int (nI n))]) dX11_channel_75 rfl (inc1 (k + 1)) (by decide) rfl ?_
                  refine j_goto (tgt := 6) dX11_channel_78 rfl ?_
                  have hch : (chI Z.1 (k + 1)) = ((chI Z.1 k).1, (chI Z.1 k).2) := by
                    rw [chI_s (by omega), if_neg (fun z => z.elim c9 (fun y => c10 y))]
                  have h1c : (chI Z.1 k).1 = (chI Z.1 (k + 1)).1 := by rw [hch]
                  have h2c : (chI Z.1 k).2 = (chI Z.1 (k + 1)).2 := by rw [hch]
                  refine j_L (congrArg (fun zz9 : Int32 => ([(3, .int (nI ((k + 1) + 1))), (0, .ref 0), (1, .int zz9), (2, .int (chI Z.1 k).2), (4, .int (dinS Z.1 (nI (k + 1)))), (5, .int (nI n))] : List (Nat × Value))) h1c) ?_
                  refine j_L (congrArg (fun zz9 : Int32 => ([(3, .int (nI ((k + 1) + 1))), (0, .ref 0), (1, .int (chI Z.1 (k + 1)).1), (2, .int zz9), (4, .int (dinS Z.1 (nI (k + 1)))), (5, .int (nI n))] : List (Nat × Value))) h2c) ?_
                  exact j_sub (jk_pick [1, 2, 3, 0] rfl) (ih2 (k + 1) (by omega) (by omega))
            · refine j_iload 4 dX11_channel_27 rfl ?_
              refine j_aload_n 0 dX11_channel_29 rfl ?_
              refine j_aload_n 0 dX11_channel_30 rfl ?_
              refine j_getr (q := 7) dX11_channel_31 fX11_44 (shM hM sgM_0) rfl (rfM hM rfM_0_15) ?_
              refine j_iload 5 dX11_channel_34 rfl ?_
              refine j_ialdN n dX11_channel_36 (shM hM sgM_7) (by omega) (by omega) ?_
              refine j_topi (Z.1 15 n) (mr_arN hS (k := 1) (by omega) (by decide)) ?_
              refine j_aload_n 0 dX11_channel_37 rfl ?_
              refine j_getr (q := 6) dX11_channel_38 fX11_41 (shM hM sgM_0) rfl (rfM hM rfM_0_14) ?_
              refine j_iload 5 dX11_channel_41 rfl ?_
              refine j_ialdN n dX11_channel_43 (shM hM sgM_6) (by omega) (by omega) ?_
              refine j_topi (Z.1 14 n) (mr_arN hS (k := 0) (by omega) (by decide)) ?_
              refine j_iload_n 3 dX11_channel_44 rfl ?_
              refine j_callV (kc := 0) (ks := 0) (a := 0) (b := 0) (d' := (d + 1)) (As := [.int (Z.1 15 n), .int (Z.1 14 n), .int (nI (k + 1))]) dX11_channel_45 kX11_248 rfl (shM hM sgM_0) (by omega) rfl rfl rfl (Nat.le_of_ble_eq_true rfl) (Nat.le_of_ble_eq_true rfl) (T_X11_dinOf hM (Z.1 15 n) (Z.1 14 n) (nI (k + 1)) (okS.ne (by omega)).1 (nI13 (by omega) (by omega))) (kk_p ?_)
              refine j_iadd dX11_channel_48 ?_
              refine j_istore (L' := [(4, .int ((sm (fun j => noiseO (Z.1 15 j) (Z.1 14 j - nI (k + 1))) n) + (noiseO (Z.1 15 n) ((Z.1 14 n) - (nI (k + 1)))))), (0, .ref 0), (1, .int (chI Z.1 k).1), (2, .int (chI Z.1 k).2), (3, .int (nI (k + 1))), (5, .int (nI n))]) dX11_channel_49 (by decide) rfl ?_
              refine j_iinc 5 (nI (n + 1)) (L' := [(5, .int (nI (n + 1))), (4, .int ((sm (fun j => noiseO (Z.1 15 j) (Z.1 14 j - nI (k + 1))) n) + (noiseO (Z.1 15 n) ((Z.1 14 n) - (nI (k + 1)))))), (0, .ref 0), (1, .int (chI Z.1 k).1), (2, .int (chI Z.1 k).2), (3, .int (nI (k + 1)))]) dX11_channel_51 rfl (inc1 n) (by decide) rfl ?_
              refine j_goto (tgt := 18) dX11_channel_54 rfl ?_
              exact j_sub (jk_pick [2, 3, 4, 5, 1, 0] rfl) (ih6 (n + 1) (by omega) (by omega))
        exact j_sub (jk_pick [2, 3, 4, 5, 1, 0] rfl) (lp7 _ 0 (Nat.lt_succ_self _) (Nat.zero_le _))
  exact j_sub (jk_pick [3, 2, 1, 0] rfl) (lp3 _ 0 (Nat.lt_succ_self _) (by omega))
set_option maxRecDepth 20000 in
set_option maxHeartbeats 4000000 in
theorem N_count {d : Nat} {M : jk_M} {Z : ZS} (cv : MV M Z) (ok : Zok Z) (n : Int32) : J Fr_X11_count (d + 5) 0 0 0 [(0, .ref 0), (1, .int n)] [] M (jk_ex (some (.int (countZ Z n).1)) (fun M1 => MV M1 (countZ Z n).2)) := by
  refine j_post (fun Q hQ => ?_)
  have hM := cv.1
  have hS := cv.2.1
  have okS := ok.1
  have h40 := cv.2.2.2.2.2.2.2.2.2.2.1
  have h8 := (Sok.S okS).2.2
  refine j_aload_n 0 dX11_count_0 rfl ?_
  refine j_iload_n 1 dX11_count_1 rfl ?_
  refine j_iconst 0 dX11_count_2 ic_0 ?_
  refine j_iconst 5 dX11_count_3 ic_5 ?_
  refine j_callV (kc := 0) (ks := 0) (a := 0) (b := 0) (d' := d) (As := [.int n, .int 0, .int 5]) dX11_count_4 kX11_150 rfl (shM hM sgM_0) (by omega) rfl rfl rfl (Nat.le_of_ble_eq_true rfl) (Nat.le_of_ble_eq_true rfl) (T_X11_isFrom n 0 5) (kk_p ?_)
  refine j_if_neB (p := (0 ≤ n ∧ n ≤ 5)) (tgt := 17) dX11_count_7 rfl (fun c1 => ?_) (fun c1 => ?_)
  · refine j_aload_n 0 dX11_count_17 rfl ?_
    refine j_callV (kc := 0) (ks := 0) (a := 0) (b := 0) (d' := (d + 3)) (As := []) dX11_count_18 kX11_181 rfl (shM hM sgM_0) (by omega) rfl rfl rfl (Nat.le_of_ble_eq_true rfl) (Nat.le_of_ble_eq_true rfl) (T_X11_looks hM hS okS h40 (GT.no okS) okS) (kk_ev (fun M2 hM3 => ?_))
    obtain ⟨h04, lk6⟩ := hM3
    have sm5 : Fm PS M M2 := Fm.mo h04 PLk_S
    refine j_iconst 0 dX11_count_21 ic_0 ?_
    refine j_istore_n (L' := [(2, .int 0), (0, .ref 0), (1, .int n)]) dX11_count_22 (by decide) rfl ?_
    refine j_iconst 0 dX11_count_23 ic_0 ?_
    refine j_istore_n (L' := [(3, .int 0), (2, .int 0), (0, .ref 0), (1, .int n)]) dX11_count_24 (by decide) rfl ?_
    have lp9 : ∀ (k7 : Nat) (r : Nat), nS Z.1 - r < k7 → (r ≤ nS Z.1) → J Fr_X11_count (d + 5) 0 0 25 [(0, .ref 0), (1, .int n), (2, .int (cntS Z.1 n (10 * r))), (3, .int (nI r))] [] M2 Q := by
      intro k7
      induction k7 with
      | zero => intro r hk; exact absurd hk (Nat.not_lt_zero _)
      | succ k7 ih8 =>
        intro r hk7 hr
        refine j_iload_n 3 dX11_count_25 rfl ?_
        refine j_aload_n 0 dX11_count_26 rfl ?_
        refine j_getv (nI (nS Z.1)) dX11_count_27 fX11_7 (shM (Fm.M sm5 hM) sgM_0) rfl ((mr_side (Fm.mv sm5 hS PS_H)).trans (Sok.S okS).1) ?_
        refine j_icmp_geN (tgt := 75) r (nS Z.1) dX11_count_30 rfl (by omega) (by omega) (fun c10 => ?_) (fun c10 => ?_)
        · refine j_iload_n 2 dX11_count_75 rfl ?_
          refine j_iret dX11_count_76 rfl ?_
          have hend : cntS Z.1 n (10 * r) = cntS Z.1 n 80 := by
            rw [show r = nS Z.1 by omega]; exact sk_end okS (g := fun n_ => cntS Z.1 n n_) cnt_k
          have hmy : mayS Z.1 12 n := by rw [may_12]; assumption
          have hz : countZ Z n = ((cntS Z.1 n (10 * r)), Z) := by rw [countZ, cif_f (fun z => z hmy), hend]
          exact hQ _ _ ⟨by rw [hz], by rw [hz]; exact MV.sc cv sm5⟩
        · refine j_iconst 0 dX11_count_33 ic_0 ?_
          refine j_istore (L' := [(4, .int 0), (0, .ref 0), (1, .int n), (2, .int (cntS Z.1 n (10 * r))), (3, .int (nI r))]) dX11_count_34 (by decide) rfl ?_
          have hz0 : (cntS Z.1 n (10 * r)) = (cntS Z.1 n (10 * r + 0)) := rfl
          refine j_L (congrArg (fun zz9 : Int32 => ([(4, .int 0), (0, .ref 0), (1, .int n), (2, .int zz9), (3, .int (nI r))] : List (Nat × Value))) hz0) ?_
          have lp13 : ∀ (k11 : Nat) (c : Nat), nS Z.1 - c < k11 → (c ≤ nS Z.1) → J Fr_X11_count (d + 5) 0 0 36 [(0, .ref 0), (1, .int n), (2, .int (cntS Z.1 n (10 * r + c))), (3, .int (nI r)), (4, .int (nI c))] [] M2 Q := by
            intro k11
            induction k11 with
            | zero => intro c hk; exact absurd hk (Nat.not_lt_zero _)
            | succ k11 ih12 =>
              intro c hk11 hc
              refine j_iload 4 dX11_count_36 rfl ?_
              refine j_aload_n 0 dX11_count_38 rfl ?_
              refine j_getv (nI (nS Z.1)) dX11_count_39 fX11_7 (shM (Fm.M sm5 hM) sgM_0) rfl ((mr_side (Fm.mv sm5 hS PS_H)).trans (Sok.S okS).1) ?_
              refine j_icmp_geN (tgt := 69) c (nS Z.1) dX11_count_42 rfl (by omega) (by omega) (fun c14 => ?_) (fun c14 => ?_)
              · refine j_iinc 3 (nI (r + 1)) (L' := [(3, .int (nI (r + 1))), (0, .ref 0), (1, .int n), (2, .int (cntS Z.1 n (10 * r + c))), (4, .int (nI c))]) dX11_count_69 rfl (inc1 r) (by decide) rfl ?_
                refine j_goto (tgt := 25) dX11_count_72 rfl ?_
                have hrow : (cntS Z.1 n (10 * r + c)) = (cntS Z.1 n (10 * (r + 1))) := by
                  rw [show c = nS Z.1 by omega]; exact sk_row okS (g := fun n_ => (cntS Z.1 n n_)) cnt_k (by omega)
                refine j_L (congrArg (fun zz9 : Int32 => ([(3, .int (nI (r + 1))), (0, .ref 0), (1, .int n), (2, .int zz9), (4, .int (nI c))] : List (Nat × Value))) hrow) ?_
                exact j_sub (jk_pick [1, 2, 3, 0] rfl) (ih8 (r + 1) (by omega) (by omega))
              · refine j_aload_n 0 dX11_count_45 rfl ?_
                refine j_bipush 10 dX11_count_46 bp_10 ?_
                refine j_iload_n 3 dX11_count_48 rfl ?_
                refine j_imulN 10 r dX11_count_49 ?_
                refine j_iload 4 dX11_count_50 rfl ?_
                refine j_iaddN (10 * r) c dX11_count_52 ?_
                refine j_callV (kc := 0) (ks := 0) (a := 0) (b := 0) (d' := (d + 4)) (As := [.int (nI ((10 * r) + c))]) dX11_count_53 kX11_284 rfl (shM (Fm.M sm5 hM) sgM_0) (by omega) rfl rfl rfl (Nat.le_of_ble_eq_true rfl) (Nat.le_of_ble_eq_true rfl) (T_X11_better (Fm.M sm5 hM) (MEq.of (Fm.mv sm5 hS PS_H)) okS lk6 (nI ((10 * r) + c)) (isC_of (n := 10 * r + c) okS (show 10 * r + c < 80 by omega) (by omega) (by omega))) (kk_p ?_)
                refine j_iload_n 1 dX11_count_56 rfl ?_
                refine j_icmp_lt (tgt := 63) dX11_count_57 rfl (fun c15 => ?_) (fun c15 => ?_)
                · refine j_iinc 4 (nI (c + 1)) (L' := [(4, .int (nI (c + 1))), (0, .ref 0), (1, .int n), (2, .int (cntS Z.1 n (10 * r + c))), (3, .int (nI r))]) dX11_count_63 rfl (inc1 c) (by decide) rfl ?_
                  refine j_goto (tgt := 36) dX11_count_66 rfl ?_
                  have hst : (cntS Z.1 n (10 * r + c)) = (cntS Z.1 n (10 * r + (c + 1))) := (cif_f (fun z => absurd z.2 (Int32.not_le.mpr c15))).symm
                  refine j_L (congrArg (fun zz9 : Int32 => ([(4, .int (nI (c + 1))), (0, .ref 0), (1, .int n), (2, .int zz9), (3, .int (nI r))] : List (Nat × Value))) hst) ?_
                  exact j_sub (jk_pick [1, 2, 3, 4, 0] rfl) (ih12 (c + 1) (by omega) (by omega))
                · refine j_iinc 2 ((cntS Z.1 n (10 * r + c)) + 1) (L' := [(2, .int ((cntS Z.1 n (10 * r + c)) + 1)), (0, .ref 0), (1, .int n), (3, .int (nI r)), (4, .int (nI c))]) dX11_count_60 rfl rfl (by decide) rfl ?_
                  refine j_iinc 4 (nI (c + 1)) (L' := [(4, .int (nI (c + 1))), (2, .int ((cntS Z.1 n (10 * r + c)) + 1)), (0, .ref 0), (1, .int n), (3, .int (nI r))]) dX11_count_63 rfl (inc1 c) (by decide) rfl ?_
                  refine j_goto (tgt := 36) dX11_count_66 rfl ?_
                  have hst : ((cntS Z.1 n (10 * r + c)) + 1) = (cntS Z.1 n (10 * r + (c + 1))) := (cif_t ⟨isC_of (n := 10 * r + c) okS (show 10 * r + c < 80 by omega) (by omega) (by omega), Int32.not_lt.mp c15⟩).symm
                  refine j_L (congrArg (fun zz9 : Int32 => ([(4, .int (nI (c + 1))), (2, .int zz9), (0, .ref 0), (1, .int n), (3, .int (nI r))] : List (Nat × Value))) hst) ?_
                  exact j_sub (jk_pick [2, 3, 1, 4, 0] rfl) (ih12 (c + 1) (by omega) (by omega))
          exact j_sub (jk_pick [1, 2, 3, 4, 0] rfl) (lp13 _ 0 (Nat.lt_succ_self _) (by omega))
    exact j_sub (jk_pick [2, 3, 1, 0] rfl) (lp9 _ 0 (Nat.lt_succ_self _) (by omega))
  · refine j_aload_n 0 dX11_count_10 rfl ?_
    refine j_bipush (-6) dX11_count_11 bp_n6 ?_
    refine j_callV (kc := 0) (ks := 0) (a := 0) (b := 0) (d' := d) (As := [.int (-6)]) dX11_count_13 kX11_130 rfl (shM hM sgM_0) (by omega) rfl rfl rfl (Nat.le_of_ble_eq_true rfl) (Nat.le_of_ble_eq_true rfl) (T_X11_no hM (-6) (by decide)) (kk_p ?_)
    refine j_iret dX11_count_16 rfl ?_
    have hz : countZ Z n = ((-6), (refZ Z (-6))) := by
      clear hQ
      clear cv hM hS
      grind [countZ, cif, may_12]
    exact hQ _ _ ⟨by rw [hz], by rw [hz]; exact MV.rf cv (by decide)⟩
set_option maxRecDepth 20000 in
set_option maxHeartbeats 4000000 in
theorem N_near {d : Nat} {M : jk_M} {Z : ZS} (cv : MV M Z) (ok : Zok Z) (e : Int32) (n : Int32) : J Fr_X11_near (d + 5) 0 0 0 [(0, .ref 0), (1, .int e), (2, .int n)] [] M (jk_ex (some (.int (nearZ Z e n).1)) (fun M1 => MV M1 (nearZ Z e n).2)) := by
  refine j_post (fun Q hQ => ?_)
  have hM := cv.1
  have hS := cv.2.1
  have okS := ok.1
  have h40 := cv.2.2.2.2.2.2.2.2.2.2.1
  have h8 := (Sok.S okS).2.2
  refine j_aload_n 0 dX11_near_0 rfl ?_
  refine j_iload_n 1 dX11_near_1 rfl ?_
  refine j_callV (kc := 0) (ks := 0) (a := 0) (b := 0) (d' := d) (As := [.int e]) dX11_near_2 kX11_154 rfl (shM hM sgM_0) (by omega) rfl rfl rfl (Nat.le_of_ble_eq_true rfl) (Nat.le_of_ble_eq_true rfl) (T_X11_isCell hM hS okS e) (kk_p ?_)
  refine j_if_eqB (p := (isC Z.1 e)) (tgt := 18) dX11_near_5 rfl (fun c1 => ?_) (fun c1 => ?_)
  · refine j_aload_n 0 dX11_near_18 rfl ?_
    refine j_bipush (-6) dX11_near_19 bp_n6 ?_
    refine j_callV (kc := 0) (ks := 0) (a := 0) (b := 0) (d' := d) (As := [.int (-6)]) dX11_near_21 kX11_167 rfl (shM hM sgM_0) (by omega) rfl rfl rfl (Nat.le_of_ble_eq_true rfl) (Nat.le_of_ble_eq_true rfl) (T_X11_noTen hM (-6) (by decide)) (kk_p ?_)
    refine j_iret dX11_near_24 rfl ?_
    have hz : nearZ Z e n = (((-6) - 10), (refZ Z (-6))) := by
      clear hQ
      clear cv hM hS
      grind [nearZ, cif, may_12]
    exact hQ _ _ ⟨by rw [hz], by rw [hz]; exact MV.rf cv (by decide)⟩
  · refine j_aload_n 0 dX11_near_8 rfl ?_
    refine j_iload_n 2 dX11_near_9 rfl ?_
    refine j_iconst 0 dX11_near_10 ic_0 ?_
    refine j_iconst 5 dX11_near_11 ic_5 ?_
    refine j_callV (kc := 0) (ks := 0) (a := 0) (b := 0) (d' := d) (As := [.int n, .int 0, .int 5]) dX11_near_12 kX11_150 rfl (shM hM sgM_0) (by omega) rfl rfl rfl (Nat.le_of_ble_eq_true rfl) (Nat.le_of_ble_eq_true rfl) (T_X11_isFrom n 0 5) (kk_p ?_)
    refine j_if_neB (p := (0 ≤ n ∧ n ≤ 5)) (tgt := 25) dX11_near_15 rfl (fun c2 => ?_) (fun c2 => ?_)
    · refine j_aload_n 0 dX11_near_25 rfl ?_
      refine j_callV (kc := 0) (ks := 0) (a := 0) (b := 0) (d' := (d + 3)) (As := []) dX11_near_26 kX11_181 rfl (shM hM sgM_0) (by omega) rfl rfl rfl (Nat.le_of_ble_eq_true rfl) (Nat.le_of_ble_eq_true rfl) (T_X11_looks hM hS okS h40 (GT.no okS) okS) (kk_ev (fun M3 hM4 => ?_))
      obtain ⟨h05, lk7⟩ := hM4
      have sm6 : Fm PS M M3 := Fm.mo h05 PLk_S
      refine j_iconst (-1) dX11_near_29 ic_n1 ?_
      refine j_istore_n (L' := [(3, .int (-1)), (0, .ref 0), (1, .int e), (2, .int n)]) dX11_near_30 (by decide) rfl ?_
      refine j_iconst 0 dX11_near_31 ic_0 ?_
      refine j_istore (L' := [(4, .int 0), (3, .int (-1)), (0, .ref 0), (1, .int e), (2, .int n)]) dX11_near_32 (by decide) rfl ?_
      have lp10 : ∀ (k8 : Nat) (r : Nat), nS Z.1 - r < k8 → (r ≤ nS Z.1) → J Fr_X11_near (d + 5) 0 0 34 [(0, .ref 0), (1, .int e), (2, .int n), (3, .int (nearS Z.1 e n (10 * r))), (4, .int (nI r))] [] M3 Q := by
        intro k8
        induction k8 with
        | zero => intro r hk; exact absurd hk (Nat.not_lt_zero _)
        | succ k8 ih9 =>
          intro r hk8 hr
          refine j_iload 4 dX11_near_34 rfl ?_
          refine j_aload_n 0 dX11_near_36 rfl ?_
          refine j_getv (nI (nS Z.1)) dX11_near_37 fX11_7 (shM (Fm.M sm6 hM) sgM_0) rfl ((mr_side (Fm.mv sm6 hS PS_H)).trans (Sok.S okS).1) ?_
          refine j_icmp_geN (tgt := 111) r (nS Z.1) dX11_near_40 rfl (by omega) (by omega) (fun c11 => ?_) (fun c11 => ?_)
          · refine j_iload_n 3 dX11_near_111 rfl ?_
            refine j_iret dX11_near_112 rfl ?_
            have hend : nearS Z.1 e n (10 * r) = nearS Z.1 e n 80 := by
              rw [show r = nS Z.1 by omega]; exact sk_end okS (g := fun n_ => nearS Z.1 e n n_) near_k
            have hmy : mayS Z.1 12 n := by rw [may_12]; assumption
            have hz : nearZ Z e n = ((nearS Z.1 e n (10 * r)), Z) := by rw [nearZ, cif_f (fun z => z ⟨by assumption, hmy⟩), hend]
            exact hQ _ _ ⟨by rw [hz], by rw [hz]; exact MV.sc cv sm6⟩
          · refine j_iconst 0 dX11_near_43 ic_0 ?_
            refine j_istore (L' := [(5, .int 0), (0, .ref 0), (1, .int e), (2, .int n), (3, .int (nearS Z.1 e n (10 * r))), (4, .int (nI r))]) dX11_near_44 (by decide) rfl ?_
            have hz0 : (nearS Z.1 e n (10 * r)) = (nearS Z.1 e n (10 * r + 0)) := rfl
            refine j_L (congrArg (fun zz9 : Int32 => ([(5, .int 0), (0, .ref 0), (1, .int e), (2, .int n), (3, .int zz9), (4, .int (nI r))] : List (Nat × Value))) hz0) ?_
            have lp14 : ∀ (k12 : Nat) (c : Nat), nS Z.1 - c < k12 → (c ≤ nS Z.1) → J Fr_X11_near (d + 5) 0 0 46 [(0, .ref 0), (1, .int e), (2, .int n), (3, .int (nearS Z.1 e n (10 * r + c))), (4, .int (nI r)), (5, .int (nI c))] [] M3 Q := by
              intro k12
              induction k12 with
              | zero => intro c hk; exact absurd hk (Nat.not_lt_zero _)
              | succ k12 ih13 =>
                intro c hk12 hc
                refine j_iload 5 dX11_near_46 rfl ?_
                refine j_aload_n 0 dX11_near_48 rfl ?_
                refine j_getv (nI (nS Z.1)) dX11_near_49 fX11_7 (shM (Fm.M sm6 hM) sgM_0) rfl ((mr_side (Fm.mv sm6 hS PS_H)).trans (Sok.S okS).1) ?_
                refine j_icmp_geN (tgt := 105) c (nS Z.1) dX11_near_52 rfl (by omega) (by omega) (fun c15 => ?_) (fun c15 => ?_)
                · refine j_iinc 4 (nI (r + 1)) (L' := [(4, .int (nI (r + 1))), (0, .ref 0), (1, .int e), (2, .int n), (3, .int (nearS Z.1 e n (10 * r + c))), (5, .int (nI c))]) dX11_near_105 rfl (inc1 r) (by decide) rfl ?_
                  refine j_goto (tgt := 34) dX11_near_108 rfl ?_
                  have hrow : (nearS Z.1 e n (10 * r + c)) = (nearS Z.1 e n (10 * (r + 1))) := by
                    rw [show c = nS Z.1 by omega]; exact sk_row okS (g := fun n_ => (nearS Z.1 e n n_)) near_k (by omega)
                  refine j_L (congrArg (fun zz9 : Int32 => ([(4, .int (nI (r + 1))), (0, .ref 0), (1, .int e), (2, .int n), (3, .int zz9), (5, .int (nI c))] : List (Nat × Value))) hrow) ?_
                  exact j_sub (jk_pick [1, 2, 3, 4, 0] rfl) (ih9 (r + 1) (by omega) (by omega))
                · refine j_bipush 10 dX11_near_55 bp_10 ?_
                  refine j_iload 4 dX11_near_57 rfl ?_
                  refine j_imulN 10 r dX11_near_59 ?_
                  refine j_iload 5 dX11_near_60 rfl ?_
                  refine j_iaddN (10 * r) c dX11_near_62 ?_
                  refine j_istore (L' := [(6, .int (nI ((10 * r) + c))), (0, .ref 0), (1, .int e), (2, .int n), (3, .int (nearS Z.1 e n (10 * r + c))), (4, .int (nI r)), (5, .int (nI c))]) dX11_near_63 (by decide) rfl ?_
                  refine j_aload_n 1 dX11_near_65 rfl ?_
                  refine j_iload 0 dX11_near_66 rfl ?_
                  refine j_callV (kc := 0) (ks := 0) (a := 0) (b := 0) (d' := (d + 4)) (As := [.int (nI ((10 * r) + c))]) dX11_near_68 kX11_284 rfl (shM (Fm.M sm6 hM) sgM_0) (by omega) rfl rfl rfl (Nat.le_of_ble_eq_true rfl) (Nat.le_of_ble_eq_true rfl) (T_X11_better (Fm.M sm6 hM) (MEq.of (Fm.mv sm6 hS PS_H)) okS lk7 (nI ((10 * r) + c)) (isC_of (n := 10 * r + c) okS (show 10 * r + c < 80 by omega) (by omega) (by omega))) (kk_p ?_)
                  refine j_iload_n 3 dX11_near_71 rfl ?_
                  refine j_icmp_lt (tgt := 99) dX11_near_72 rfl (fun c16 => ?_) (fun c16 => ?_)
                  · refine j_iinc 6 (nI (c + 1)) (L' := [(5, .int (nI (c + 1))), (6, .int (nI ((10 * r) + c))), (0, .ref 0), (1, .int e), (2, .int n), (3, .int (nearS Z.1 e n (10 * r + c))), (4, .int (nI r))]) dX11_near_99 rfl (inc1 c) (by decide) rfl ?_
                    refine j_goto (tgt := 46) dX11_near_102 rfl ?_
                    have hst : (nearS Z.1 e n (10 * r + c)) = (nearS Z.1 e n (10 * r + (c + 1))) := (cif_f (fun z => absurd z.2 (Int32.not_le.mpr c16))).symm
                    refine j_L (congrArg (fun zz9 : Int32 => ([(5, .int (nI (c + 1))), (6, .int (nI ((10 * r) + c))), (0, .ref 0), (1, .int e), (2, .int n), (3, .int zz9), (4, .int (nI r))] : List (Nat × Value))) hst) ?_
                    exact j_sub (jk_pick [2, 3, 4, 5, 6, 0] rfl) (ih13 (c + 1) (by omega) (by omega))
                  · refine j_iload_n 4 dX11_near_75 rfl ?_
                    refine j_iconst (-1) dX11_near_76 ic_n1 ?_
                    refine j_icmp_eq (tgt := 91) dX11_near_77 rfl (fun c17 => ?_) (fun c17 => ?_)
                    · refine j_aload_n 1 dX11_near_91 rfl ?_
                      refine j_iload_n 2 dX11_near_92 rfl ?_
                      refine j_iload 0 dX11_near_93 rfl ?_
                      refine j_callV (kc := 0) (ks := 0) (a := 0) (b := 0) (d' := (d + 1)) (As := [.int e, .int (nI ((10 * r) + c))]) dX11_near_95 kX11_242 rfl (shM (Fm.M sm6 hM) sgM_0) (by omega) rfl rfl rfl (Nat.le_of_ble_eq_true rfl) (Nat.le_of_ble_eq_true rfl) (T_X11_far (Fm.M sm6 hM) e (nI ((10 * r) + c)) (isC_P okS (by assumption)) (isP_of (by omega))) (kk_p ?_)
                      refine j_istore_n (L' := [(3, .int (sfar e (nI ((10 * r) + c)))), (6, .int (nI ((10 * r) + c))), (0, .ref 0), (1, .int e), (2, .int n), (4, .int (nI r)), (5, .int (nI c))]) dX11_near_98 (by decide) rfl ?_
                      refine j_iinc 6 (nI (c + 1)) (L' := [(5, .int (nI (c + 1))), (3, .int (sfar e (nI ((10 * r) + c)))), (6, .int (nI ((10 * r) + c))), (0, .ref 0), (1, .int e), (2, .int n), (4, .int (nI r))]) dX11_near_99 rfl (inc1 c) (by decide) rfl ?_
                      refine j_goto (tgt := 46) dX11_near_102 rfl ?_
                      have hst : (sfar e (nI ((10 * r) + c))) = (nearS Z.1 e n (10 * r + (c + 1))) := by
                        show _ = cif _ _ _
                        rw [cif_t ⟨isC_of (n := 10 * r + c) okS (show 10 * r + c < 80 by omega) (by omega) (by omega), (Int32.not_lt.mp c16)⟩]
                        unfold jmin
                        clear hQ cv
                        grind
                      refine j_L (congrArg (fun zz9 : Int32 => ([(5, .int (nI (c + 1))), (3, .int zz9), (6, .int (nI ((10 * r) + c))), (0, .ref 0), (1, .int e), (2, .int n), (4, .int (nI r))] : List (Nat × Value))) hst) ?_
                      exact j_sub (jk_pick [3, 4, 5, 1, 6, 0] rfl) (ih13 (c + 1) (by omega) (by omega))
                    · refine j_aload_n 1 dX11_near_80 rfl ?_
                      refine j_iload_n 2 dX11_near_81 rfl ?_
                      refine j_iload 0 dX11_near_82 rfl ?_
                      refine j_callV (kc := 0) (ks := 0) (a := 0) (b := 0) (d' := (d + 1)) (As := [.int e, .int (nI ((10 * r) + c))]) dX11_near_84 kX11_242 rfl (shM (Fm.M sm6 hM) sgM_0) (by omega) rfl rfl rfl (Nat.le_of_ble_eq_true rfl) (Nat.le_of_ble_eq_true rfl) (T_X11_far (Fm.M sm6 hM) e (nI ((10 * r) + c)) (isC_P okS (by assumption)) (isP_of (by omega))) (kk_p ?_)
                      refine j_iload_n 4 dX11_near_87 rfl ?_
                      refine j_icmp_ge (tgt := 99) dX11_near_88 rfl (fun c18 => ?_) (fun c18 => ?_)
                      · refine j_iinc 6 (nI (c + 1)) (L' := [(5, .int (nI (c + 1))), (6, .int (nI ((10 * r) + c))), (0, .ref 0), (1, .int e), (2, .int n), (3, .int (nearS Z.1 e n (10 * r + c))), (4, .int (nI r))]) dX11_near_99 rfl (inc1 c) (by decide) rfl ?_
                        refine j_goto (tgt := 46) dX11_near_102 rfl ?_
                        have hst : (nearS Z.1 e n (10 * r + c)) = (nearS Z.1 e n (10 * r + (c + 1))) := by
                          show _ = cif _ _ _
                          rw [cif_t ⟨isC_of (n := 10 * r + c) okS (show 10 * r + c < 80 by omega) (by omega) (by omega), (Int32.not_lt.mp c16)⟩]
                          unfold jmin
                          clear hQ cv
                          grind
                        refine j_L (congrArg (fun zz9 : Int32 => ([(5, .int (nI (c + 1))), (6, .int (nI ((10 * r) + c))), (0, .ref 0), (1, .int e), (2, .int n), (3, .int zz9), (4, .int (nI r))] : List (Nat × Value))) hst) ?_
                        exact j_sub (jk_pick [2, 3, 4, 5, 6, 0] rfl) (ih13 (c + 1) (by omega) (by omega))
                      · refine j_aload_n 1 dX11_near_91 rfl ?_
                        refine j_iload_n 2 dX11_near_92 rfl ?_
                        refine j_iload 0 dX11_near_93 rfl ?_
                        refine j_callV (kc := 0) (ks := 0) (a := 0) (b := 0) (d' := (d + 1)) (As := [.int e, .int (nI ((10 * r) + c))]) dX11_near_95 kX11_242 rfl (shM (Fm.M sm6 hM) sgM_0) (by omega) rfl rfl rfl (Nat.le_of_ble_eq_true rfl) (Nat.le_of_ble_eq_true rfl) (T_X11_far (Fm.M sm6 hM) e (nI ((10 * r) + c)) (isC_P okS (by assumption)) (isP_of (by omega))) (kk_p ?_)
                        refine j_istore_n (L' := [(3, .int (sfar e (nI ((10 * r) + c)))), (6, .int (nI ((10 * r) + c))), (0, .ref 0), (1, .int e), (2, .int n), (4, .int (nI r)), (5, .int (nI c))]) dX11_near_98 (by decide) rfl ?_
                        refine j_iinc 6 (nI (c + 1)) (L' := [(5, .int (nI (c + 1))), (3, .int (sfar e (nI ((10 * r) + c)))), (6, .int (nI ((10 * r) + c))), (0, .ref 0), (1, .int e), (2, .int n), (4, .int (nI r))]) dX11_near_99 rfl (inc1 c) (by decide) rfl ?_
                        refine j_goto (tgt := 46) dX11_near_102 rfl ?_
                        have hst : (sfar e (nI ((10 * r) + c))) = (nearS Z.1 e n (10 * r + (c + 1))) := by
                          show _ = cif _ _ _
                          rw [cif_t ⟨isC_of (n := 10 * r + c) okS (show 10 * r + c < 80 by omega) (by omega) (by omega), (Int32.not_lt.mp c16)⟩]
                          unfold jmin
                          clear hQ cv
                          grind
                        refine j_L (congrArg (fun zz9 : Int32 => ([(5, .int (nI (c + 1))), (3, .int zz9), (6, .int (nI ((10 * r) + c))), (0, .ref 0), (1, .int e), (2, .int n), (4, .int (nI r))] : List (Nat × Value))) hst) ?_
                        exact j_sub (jk_pick [3, 4, 5, 1, 6, 0] rfl) (ih13 (c + 1) (by omega) (by omega))
            exact j_sub (jk_pick [1, 2, 3, 4, 5, 0] rfl) (lp14 _ 0 (Nat.lt_succ_self _) (by omega))
      exact j_sub (jk_pick [2, 3, 4, 1, 0] rfl) (lp10 _ 0 (Nat.lt_succ_self _) (by omega))
    · refine j_aload_n 0 dX11_near_18 rfl ?_
      refine j_bipush (-6) dX11_near_19 bp_n6 ?_
      refine j_callV (kc := 0) (ks := 0) (a := 0) (b := 0) (d' := d) (As := [.int (-6)]) dX11_near_21 kX11_167 rfl (shM hM sgM_0) (by omega) rfl rfl rfl (Nat.le_of_ble_eq_true rfl) (Nat.le_of_ble_eq_true rfl) (T_X11_noTen hM (-6) (by decide)) (kk_p ?_)
      refine j_iret dX11_near_24 rfl ?_
      have hz : nearZ Z e n = (((-6) - 10), (refZ Z (-6))) := by
        clear hQ
        clear cv hM hS
        grind [nearZ, cif, may_12]
      exact hQ _ _ ⟨by rw [hz], by rw [hz]; exact MV.rf cv (by decide)⟩
set_option maxRecDepth 20000 in
set_option maxHeartbeats 4000000 in
theorem N_blame {d : Nat} {M : jk_M} {Z : ZS} (cv : MV M Z) (ok : Zok Z) (c : Int32) : J Fr_X11_blame (d + 4) 0 0 0 [(0, .ref 0), (1, .int c)] [] M (jk_ex (some (.int (blameZ Z c).1)) (fun M1 => MV M1 (blameZ Z c).2)) := by
  refine j_post (fun Q hQ => ?_)
  have hM := cv.1
  have hS := cv.2.1
  have okS := ok.1
  have h40 := cv.2.2.2.2.2.2.2.2.2.2.1
  refine j_aload_n 0 dX11_blame_0 rfl ?_
  refine j_iload_n 1 dX11_blame_1 rfl ?_
  refine j_callV (kc := 0) (ks := 0) (a := 0) (b := 0) (d' := d) (As := [.int c]) dX11_blame_2 kX11_154 rfl (shM hM sgM_0) (by omega) rfl rfl rfl (Nat.le_of_ble_eq_true rfl) (Nat.le_of_ble_eq_true rfl) (T_X11_isCell hM hS okS c) (kk_p ?_)
  refine j_if_neB (p := (isC Z.1 c)) (tgt := 15) dX11_blame_5 rfl (fun c1 => ?_) (fun c1 => ?_)
  · have hcc : isC Z.1 c := by assumption
    refine j_aload_n 0 dX11_blame_15 rfl ?_
    refine j_callV (kc := 0) (ks := 0) (a := 0) (b := 0) (d' := (d + 3)) (As := []) dX11_blame_16 kX11_181 rfl (shM hM sgM_0) (by omega) rfl rfl rfl (Nat.le_of_ble_eq_true rfl) (Nat.le_of_ble_eq_true rfl) (T_X11_looks hM hS okS h40 (GT.no okS) okS) (kk_ev (fun M2 hM3 => ?_))
    obtain ⟨h04, lk6⟩ := hM3
    have sm5 : Fm PS M M2 := Fm.mo h04 PLk_S
    refine j_iconst 0 dX11_blame_19 ic_0 ?_
    refine j_istore_n (L' := [(2, .int 0), (0, .ref 0), (1, .int c)]) dX11_blame_20 (by decide) rfl ?_
    refine j_iconst 2 dX11_blame_21 ic_2 ?_
    refine j_aload_n 1 dX11_blame_22 rfl ?_
    refine j_aload_n 1 dX11_blame_23 rfl ?_
    refine j_getr (q := 12) dX11_blame_24 fX11_59 (shM (Fm.M sm5 hM) sgM_0) rfl (rfM (Fm.M sm5 hM) rfM_0_20) ?_
    refine j_iconst 0 dX11_blame_27 ic_0 ?_
    refine j_ialdN 0 dX11_blame_28 (shM (Fm.M sm5 hM) sgM_12) (by omega) (by omega) ?_
    refine j_topi (Z.1 5 0) (mr_b0 (Fm.mv sm5 hS PS_H)) ?_
    refine j_iload_n 2 dX11_blame_29 rfl ?_
    refine j_callV (kc := 0) (ks := 0) (a := 0) (b := 0) (d' := (d + 1)) (As := [.int (Z.1 5 0), .int c]) dX11_blame_30 kX11_242 rfl (shM (Fm.M sm5 hM) sgM_0) (by omega) rfl rfl rfl (Nat.le_of_ble_eq_true rfl) (Nat.le_of_ble_eq_true rfl) (T_X11_far (Fm.M sm5 hM) (Z.1 5 0) c (isC_P okS okS.2.2.2.2.1) (isC_P okS hcc)) (kk_p ?_)
    refine j_imul dX11_blame_33 ?_
    refine j_istore_n (L' := [(3, .int (2 * (sfar (Z.1 5 0) c))), (2, .int 0), (0, .ref 0), (1, .int c)]) dX11_blame_34 (by decide) rfl ?_
    refine j_aload_n 2 dX11_blame_35 rfl ?_
    refine j_aload_n 2 dX11_blame_36 rfl ?_
    refine j_getr (q := 12) dX11_blame_37 fX11_59 (shM (Fm.M sm5 hM) sgM_0) rfl (rfM (Fm.M sm5 hM) rfM_0_20) ?_
    refine j_iconst 0 dX11_blame_40 ic_0 ?_
    refine j_ialdN 0 dX11_blame_41 (shM (Fm.M sm5 hM) sgM_12) (by omega) (by omega) ?_
    refine j_topi (Z.1 5 0) (mr_b0 (Fm.mv sm5 hS PS_H)) ?_
    refine j_iload_n 3 dX11_blame_42 rfl ?_
    refine j_callV (kc := 0) (ks := 0) (a := 0) (b := 0) (d' := d) (As := [.int (Z.1 5 0), .int c]) dX11_blame_43 kX11_251 rfl (shM (Fm.M sm5 hM) sgM_0) (by omega) rfl rfl rfl (Nat.le_of_ble_eq_true rfl) (Nat.le_of_ble_eq_true rfl) (T_X11_wayLoss (Fm.M sm5 hM) okS lk6 (Z.1 5 0) c okS.2.2.2.2.1 hcc) (kk_p ?_)
    refine j_iload_n 0 dX11_blame_46 rfl ?_
    refine j_icmp_le (tgt := 64) dX11_blame_47 rfl (fun c7 => ?_) (fun c7 => ?_)
    · refine j_aload_n 2 dX11_blame_64 rfl ?_
      refine j_getr (q := 25) dX11_blame_65 fX11_99 (shM (Fm.M sm5 hM) sgM_0) rfl (rfM (Fm.M sm5 hM) rfM_0_38) ?_
      refine j_iload_n 3 dX11_blame_68 rfl ?_
      refine j_iald dX11_blame_69 (shM (Fm.M sm5 hM) sgM_25) (vpin 80 (by decide) (isC_P okS hcc).1 (isC_P okS hcc).2) ?_
      refine j_topi (humC Z.1 c) (lk6.2.1 _ hcc) ?_
      refine j_iload_n 0 dX11_blame_70 rfl ?_
      refine j_icmp_le (tgt := 83) dX11_blame_71 rfl (fun c8 => ?_) (fun c8 => ?_)
      · refine j_aload_n 2 dX11_blame_83 rfl ?_
        refine j_getv (dinS Z.1 (Z.1 2 0)) dX11_blame_84 fX11_245 (shM (Fm.M sm5 hM) sgM_0) rfl lk6.2.2 ?_
        refine j_iload_n 0 dX11_blame_87 rfl ?_
        refine j_icmp_le (tgt := 95) dX11_blame_88 rfl (fun c9 => ?_) (fun c9 => ?_)
        · refine j_iload_n 1 dX11_blame_95 rfl ?_
          refine j_iret dX11_blame_96 rfl ?_
          have hz : blameZ Z c = (0, Z) := by
            rw [blameZ, cif_f (fun z => z hcc), blS]
            simp only [if_neg (Int32.not_lt.mpr c7), if_neg (Int32.not_lt.mpr c8), if_neg (Int32.not_lt.mpr c9)]
          exact hQ _ _ ⟨by rw [hz], by rw [hz]; exact MV.sc cv sm5⟩
        · refine j_iconst 3 dX11_blame_91 ic_3 ?_
          refine j_goto (tgt := 96) dX11_blame_92 rfl ?_
          refine j_iret dX11_blame_96 rfl ?_
          have hz : blameZ Z c = (3, Z) := by
            rw [blameZ, cif_f (fun z => z hcc), blS]
            simp only [if_neg (Int32.not_lt.mpr c7), if_neg (Int32.not_lt.mpr c8), if_pos (Int32.not_le.mp c9)]
          exact hQ _ _ ⟨by rw [hz], by rw [hz]; exact MV.sc cv sm5⟩
      · refine j_iconst 2 dX11_blame_74 ic_2 ?_
        refine j_istore_n (L' := [(2, .int 2), (3, .int (2 * (sfar (Z.1 5 0) c))), (0, .ref 0), (1, .int c)]) dX11_blame_75 (by decide) rfl ?_
        refine j_aload_n 2 dX11_blame_76 rfl ?_
        refine j_getr (q := 25) dX11_blame_77 fX11_99 (shM (Fm.M sm5 hM) sgM_0) rfl (rfM (Fm.M sm5 hM) rfM_0_38) ?_
        refine j_iload_n 3 dX11_blame_80 rfl ?_
        refine j_iald dX11_blame_81 (shM (Fm.M sm5 hM) sgM_25) (vpin 80 (by decide) (isC_P okS hcc).1 (isC_P okS hcc).2) ?_
        refine j_topi (humC Z.1 c) (lk6.2.1 _ hcc) ?_
        refine j_istore_n (L' := [(3, .int (humC Z.1 c)), (2, .int 2), (0, .ref 0), (1, .int c)]) dX11_blame_82 (by decide) rfl ?_
        refine j_aload_n 2 dX11_blame_83 rfl ?_
        refine j_getv (dinS Z.1 (Z.1 2 0)) dX11_blame_84 fX11_245 (shM (Fm.M sm5 hM) sgM_0) rfl lk6.2.2 ?_
        refine j_iload_n 0 dX11_blame_87 rfl ?_
        refine j_icmp_le (tgt := 95) dX11_blame_88 rfl (fun c10 => ?_) (fun c10 => ?_)
        · refine j_iload_n 1 dX11_blame_95 rfl ?_
          refine j_iret dX11_blame_96 rfl ?_
          have hz : blameZ Z c = (2, Z) := by
            rw [blameZ, cif_f (fun z => z hcc), blS]
            simp only [if_neg (Int32.not_lt.mpr c7), if_pos (Int32.not_le.mp c8), if_neg (Int32.not_lt.mpr c10)]
          exact hQ _ _ ⟨by rw [hz], by rw [hz]; exact MV.sc cv sm5⟩
        · refine j_iconst 3 dX11_blame_91 ic_3 ?_
          refine j_goto (tgt := 96) dX11_blame_92 rfl ?_
          refine j_iret dX11_blame_96 rfl ?_
          have hz : blameZ Z c = (3, Z) := by
            rw [blameZ, cif_f (fun z => z hcc), blS]
            simp only [if_neg (Int32.not_lt.mpr c7), if_pos (Int32.not_le.mp c8), if_pos (Int32.not_le.mp c10)]
          exact hQ _ _ ⟨by rw [hz], by rw [hz]; exact MV.sc cv sm5⟩
    · refine j_iconst 1 dX11_blame_50 ic_1 ?_
      refine j_istore_n (L' := [(2, .int 1), (3, .int (2 * (sfar (Z.1 5 0) c))), (0, .ref 0), (1, .int c)]) dX11_blame_51 (by decide) rfl ?_
      refine j_aload_n 2 dX11_blame_52 rfl ?_
      refine j_aload_n 2 dX11_blame_53 rfl ?_
      refine j_getr (q := 12) dX11_blame_54 fX11_59 (shM (Fm.M sm5 hM) sgM_0) rfl (rfM (Fm.M sm5 hM) rfM_0_20) ?_
      refine j_iconst 0 dX11_blame_57 ic_0 ?_
      refine j_ialdN 0 dX11_blame_58 (shM (Fm.M sm5 hM) sgM_12) (by omega) (by omega) ?_
      refine j_topi (Z.1 5 0) (mr_b0 (Fm.mv sm5 hS PS_H)) ?_
      refine j_iload_n 3 dX11_blame_59 rfl ?_
      refine j_callV (kc := 0) (ks := 0) (a := 0) (b := 0) (d' := d) (As := [.int (Z.1 5 0), .int c]) dX11_blame_60 kX11_251 rfl (shM (Fm.M sm5 hM) sgM_0) (by omega) rfl rfl rfl (Nat.le_of_ble_eq_true rfl) (Nat.le_of_ble_eq_true rfl) (T_X11_wayLoss (Fm.M sm5 hM) okS lk6 (Z.1 5 0) c okS.2.2.2.2.1 hcc) (kk_p ?_)
      refine j_istore_n (L' := [(3, .int (wayS Z.1 (Z.1 5 0) c)), (2, .int 1), (0, .ref 0), (1, .int c)]) dX11_blame_63 (by decide) rfl ?_
      refine j_aload_n 2 dX11_blame_64 rfl ?_
      refine j_getr (q := 25) dX11_blame_65 fX11_99 (shM (Fm.M sm5 hM) sgM_0) rfl (rfM (Fm.M sm5 hM) rfM_0_38) ?_
      refine j_iload_n 3 dX11_blame_68 rfl ?_
      refine j_iald dX11_blame_69 (shM (Fm.M sm5 hM) sgM_25) (vpin 80 (by decide) (isC_P okS hcc).1 (isC_P okS hcc).2) ?_
      refine j_topi (humC Z.1 c) (lk6.2.1 _ hcc) ?_
      refine j_iload_n 0 dX11_blame_70 rfl ?_
      refine j_icmp_le (tgt := 83) dX11_blame_71 rfl (fun c11 => ?_) (fun c11 => ?_)
      · refine j_aload_n 2 dX11_blame_83 rfl ?_
        refine j_getv (dinS Z.1 (Z.1 2 0)) dX11_blame_84 fX11_245 (shM (Fm.M sm5 hM) sgM_0) rfl lk6.2.2 ?_
        refine j_iload_n 0 dX11_blame_87 rfl ?_
        refine j_icmp_le (tgt := 95) dX11_blame_88 rfl (fun c12 => ?_) (fun c12 => ?_)
        · refine j_iload_n 1 dX11_blame_95 rfl ?_
          refine j_iret dX11_blame_96 rfl ?_
          have hz : blameZ Z c = (1, Z) := by
            rw [blameZ, cif_f (fun z => z hcc), blS]
            simp only [if_pos (Int32.not_le.mp c7), if_neg (Int32.not_lt.mpr c11), if_neg (Int32.not_lt.mpr c12)]
          exact hQ _ _ ⟨by rw [hz], by rw [hz]; exact MV.sc cv sm5⟩
        · refine j_iconst 3 dX11_blame_91 ic_3 ?_
          refine j_goto (tgt := 96) dX11_blame_92 rfl ?_
          refine j_iret dX11_blame_96 rfl ?_
          have hz : blameZ Z c = (3, Z) := by
            rw [blameZ, cif_f (fun z => z hcc), blS]
            simp only [if_pos (Int32.not_le.mp c7), if_neg (Int32.not_lt.mpr c11), if_pos (Int32.not_le.mp c12)]
          exact hQ _ _ ⟨by rw [hz], by rw [hz]; exact MV.sc cv sm5⟩
      · refine j_iconst 2 dX11_blame_74 ic_2 ?_
        refine j_istore_n (L' := [(2, .int 2), (3, .int (wayS Z.1 (Z.1 5 0) c)), (0, .ref 0), (1, .int c)]) dX11_blame_75 (by decide) rfl ?_
        refine j_aload_n 2 dX11_blame_76 rfl ?_
        refine j_getr (q := 25) dX11_blame_77 fX11_99 (shM (Fm.M sm5 hM) sgM_0) rfl (rfM (Fm.M sm5 hM) rfM_0_38) ?_
        refine j_iload_n 3 dX11_blame_80 rfl ?_
        refine j_iald dX11_blame_81 (shM (Fm.M sm5 hM) sgM_25) (vpin 80 (by decide) (isC_P okS hcc).1 (isC_P okS hcc).2) ?_
        refine j_topi (humC Z.1 c) (lk6.2.1 _ hcc) ?_
        refine j_istore_n (L' := [(3, .int (humC Z.1 c)), (2, .int 2), (0, .ref 0), (1, .int c)]) dX11_blame_82 (by decide) rfl ?_
        refine j_aload_n 2 dX11_blame_83 rfl ?_
        refine j_getv (dinS Z.1 (Z.1 2 0)) dX11_blame_84 fX11_245 (shM (Fm.M sm5 hM) sgM_0) rfl lk6.2.2 ?_
        refine j_iload_n 0 dX11_blame_87 rfl ?_
        refine j_icmp_le (tgt := 95) dX11_blame_88 rfl (fun c13 => ?_) (fun c13 => ?_)
        · refine j_iload_n 1 dX11_blame_95 rfl ?_
          refine j_iret dX11_blame_96 rfl ?_
          have hz : blameZ Z c = (2, Z) := by
            rw [blameZ, cif_f (fun z => z hcc), blS]
            simp only [if_pos (Int32.not_le.mp c7), if_pos (Int32.not_le.mp c11), if_neg (Int32.not_lt.mpr c13)]
          exact hQ _ _ ⟨by rw [hz], by rw [hz]; exact MV.sc cv sm5⟩
        · refine j_iconst 3 dX11_blame_91 ic_3 ?_
          refine j_goto (tgt := 96) dX11_blame_92 rfl ?_
          refine j_iret dX11_blame_96 rfl ?_
          have hz : blameZ Z c = (3, Z) := by
            rw [blameZ, cif_f (fun z => z hcc), blS]
            simp only [if_pos (Int32.not_le.mp c7), if_pos (Int32.not_le.mp c11), if_pos (Int32.not_le.mp c13)]
          exact hQ _ _ ⟨by rw [hz], by rw [hz]; exact MV.sc cv sm5⟩
  · refine j_aload_n 0 dX11_blame_8 rfl ?_
    refine j_bipush (-6) dX11_blame_9 bp_n6 ?_
    refine j_callV (kc := 0) (ks := 0) (a := 0) (b := 0) (d' := d) (As := [.int (-6)]) dX11_blame_11 kX11_130 rfl (shM hM sgM_0) (by omega) rfl rfl rfl (Nat.le_of_ble_eq_true rfl) (Nat.le_of_ble_eq_true rfl) (T_X11_no hM (-6) (by decide)) (kk_p ?_)
    refine j_iret dX11_blame_14 rfl ?_
    have hz : blameZ Z c = ((-6), (refZ Z (-6))) := by
      clear hQ
      clear cv hM hS
      grind [blameZ, cif]
    exact hQ _ _ ⟨by rw [hz], by rw [hz]; exact MV.rf cv (by decide)⟩
