/-! told rows, fits -/
theorem PHu.Sc : ∀ q, PHu q → PSc q := fun q e => ⟨by have e : q = 82 + 4 := e; omega, by have e : q = 82 + 4 := e; omega⟩
theorem PSe.Sc : ∀ q, PSe q → PSc q := fun q e => by
  rcases e with e | e | e | e
  · have := AO82 e; exact ⟨by omega, by omega⟩
  all_goals exact ⟨by omega, by omega⟩
theorem td_n {Z : ZS} {k : Nat} {n e : Int32} (h : tdK Z k n e = 0) : ∃ m, m ≤ 40 ∧ n = nI m := by
  have h1 : ¬ n < 0 := fun z => by revert h; simp only [tdK, tdS, z, if_true]; split <;> grind
  have h2 : ¬ 40 < n := fun z => by revert h; simp only [tdK, tdS, z, if_true]; grind
  obtain ⟨j, hj, rfl⟩ := nI_of h1
  have h3 := Int32.not_lt.mp h2
  rw [show (40 : Int32) = nI 40 by decide, nI_leI hj (by decide)] at h3
  exact ⟨j, h3, rfl⟩
theorem prS_01 {S : HS} {tl : Int32 → Int32} {n : Nat} : prS S tl n = 0 ∨ prS S tl n = -6 := by
  unfold prS; split
  · exact Or.inl rfl
  · exact Or.inr rfl
theorem K_firstWrong {d : Nat} {M : jk_M} {Z : ZS} (cv : CV M Z) (ok : Zok Z) {k : Nat} (hk : k < 8) (m : Nat) (hm : m ≤ 40) : J Fr_X10_firstWrong (d + 2) 0 0 0 [(0, .ref 0), (1, .ref (109 + 2 * k)), (2, .int (nI m))] [] M (jk_is (some (.int (fwS Z.1 (tlK Z k) m))) M) := by
  rw [← tlK_e cv hk]; exact T_X10_firstWrong cv.1 (isS.s hk) cv.2.1 ok.1 m hm
theorem K_pairs0 {d : Nat} {M : jk_M} {Z : ZS} (cv : CV M Z) (ok : Zok Z) {k : Nat} (hk : k < 8) (n : Int32) (h : ¬ tdK Z k n 2 = 0) : J Fr_X10_pairsRefusal (d + 3) 0 0 0 [(0, .ref 0), (1, .ref (109 + 2 * k)), (2, .int n)] [] M (jk_is (some (.int (tdK Z k n 2))) M) := by
  rw [← tdK_e cv hk] at h ⊢; exact T_pairsRefusal0 cv.1 (isS.s hk) cv.2.1 ok.1 n h
theorem K_pairs1 {d : Nat} {M : jk_M} {Z : ZS} (cv : CV M Z) (ok : Zok Z) {k : Nat} (hk : k < 8) (m : Nat) (hm : m ≤ 40) (h : tdK Z k (nI m) 2 = 0) : J Fr_X10_pairsRefusal (d + 3) 0 0 0 [(0, .ref 0), (1, .ref (109 + 2 * k)), (2, .int (nI m))] [] M (jk_is (some (.int (prS Z.1 (tlK Z k) m))) M) := by
  rw [← tdK_e cv hk] at h; rw [← tlK_e cv hk]; exact T_pairsRefusal1 cv.1 (isS.s hk) cv.2.1 ok.1 m hm h
theorem K_hopsOf {d : Nat} {M : jk_M} {Z : ZS} (cv : CV M Z) (ok : Zok Z) (ha : AirOK 82 Z.1 M) {k : Nat} (hk : k < 8) (m : Nat) (hm : m ≤ 40) (r : Int32) : J Fr_X10_hopsOf (d + 5) 0 0 0 [(0, .ref 0), (1, .ref (109 + 2 * k)), (2, .int (nI m)), (3, .int r)] [] M (jk_ex (some (.int (hpS Z.1 (tlK Z k) r m).2)) (fun M1 => Sm PHu M M1 ∧ AirOK 82 Z.1 M1)) := by
  rw [← tlK_e cv hk]; exact T_X10_hopsOf cv.1 (isS.s hk) cv.2.1 ok.1 ha m hm r
theorem K_calmest {d : Nat} {M : jk_M} {Z : ZS} (cv : CV M Z) (ok : Zok Z) (ha : AirOK 82 Z.1 M) {k : Nat} (hk : k < 8) (m : Nat) (hm : m ≤ 40) : J Fr_X10_calmest (d + 6) 0 0 0 [(0, .ref 0), (1, .ref (109 + 2 * k)), (2, .int (nI m))] [] M (jk_ex (some (.int (cmS Z.1 (tlK Z k) m 4).1)) (fun M1 => Sm PHu M M1 ∧ AirOK 82 Z.1 M1)) := by
  rw [← tlK_e cv hk]; exact T_X10_calmest cv.1 (isS.s hk) cv.2.1 ok.1 ha m hm
noncomputable def ftK (Z : ZS) (m k : Nat) : List Nat := fitN Z.1 (fun c => agS Z.1 (tlK Z k) (nI c) m) 80
theorem K_look {d : Nat} {M : jk_M} {Z : ZS} (cv : CV M Z) (ok : Zok Z) {k : Nat} (hk : k < 8) (m : Nat) (hm : m ≤ 40) : J Fr_X7_look (d + 5) 0 0 0 [(0, .ref 96), (1, .ref (109 + 2 * k)), (2, .int (nI m))] [] M (jk_ex none (fun M1 => Sm PSe M M1 ∧ AirOK 82 Z.1 M1 ∧ SeW M1 (ftK Z m k))) := by
  rw [ftK, ← tlK_e cv hk]; exact T_X7_look cv.1 cv.2.1 ok.1 (isS.s hk) m hm
theorem ft_len {Z : ZS} {m k : Nat} : (ftK Z m k).length ≤ 80 := fitN_len 80
theorem ft_lt {Z : ZS} {m k i : Nat} (hi : i < (ftK Z m k).length) : (ftK Z m k).getD i 0 < 80 := by
  have h : (ftK Z m k).getD i 0 ∈ ftK Z m k := by
    simp only [List.getD, List.getElem?_eq_getElem hi, Option.getD_some]; exact List.getElem_mem hi
  exact (fitN_mem 80 _ h).1
theorem nI_n1 {n : Nat} (h : n < 2 ^ 31) : ¬ nI n = -1 := fun z => absurd (z ▸ nI_pos' h) (by decide)
noncomputable def judgeK (Z : ZS) (n : Int32) (k : Nat) : Int32 × ZS := cif (¬ tdK Z k n 1 = 0) (tdK Z k n 1 + (-10), refZ Z (tdK Z k n 1)) (fwS Z.1 (tlK Z k) n.toNatClampNeg, Z)
noncomputable def hopsK (Z : ZS) (n r : Int32) (k : Nat) : Int32 × ZS := cif (¬ tdK Z k n 1 = 0) (tdK Z k n 1, refZ Z (tdK Z k n 1)) (cif (¬ r = -1 ∧ ¬ mayS Z.1 13 r) (-6, refZ Z (-6)) (cif (¬ fwS Z.1 (tlK Z k) n.toNatClampNeg = -1) (-6, refZ Z (-6)) (cif (r = -1) ((cmS Z.1 (tlK Z k) n.toNatClampNeg 4).1, Z) ((hpS Z.1 (tlK Z k) r n.toNatClampNeg).2, Z))))
noncomputable def fitsK (Z : ZS) (n i : Int32) (k : Nat) : Int32 × ZS := cif (¬ tdK Z k n 2 = 0) (tdK Z k n 2, refZ Z (tdK Z k n 2)) (cif (¬ prS Z.1 (tlK Z k) n.toNatClampNeg = 0) (-6, refZ Z (-6)) (cif (i = -1) (nI (ftK Z n.toNatClampNeg k).length, Z) (cif (0 ≤ i ∧ i < nI (ftK Z n.toNatClampNeg k).length) (nI ((ftK Z n.toNatClampNeg k).getD i.toNatClampNeg 0), Z) (-5, refZ Z (-5)))))
noncomputable def nextK (Z : ZS) (n : Int32) (k : Nat) : Int32 × ZS := cif (¬ tdK Z k n 2 = 0) (tdK Z k n 2 + (-10), refZ Z (tdK Z k n 2)) (cif (¬ prS Z.1 (tlK Z k) n.toNatClampNeg = 0) (-16, refZ Z (-6)) (cif ((ftK Z n.toNatClampNeg k).length < 2) (-1, Z) ((bmS Z.1 (ftK Z n.toNatClampNeg k) 80).1, Z)))
noncomputable def judgeZ (Z : ZS) (s n : Int32) : Int32 × ZS := inS Z s (-11) (-1) (judgeK Z n)
noncomputable def hopsZ (Z : ZS) (s n r : Int32) : Int32 × ZS := inS Z s (-1) (-1) (hopsK Z n r)
noncomputable def fitsZ (Z : ZS) (s n i : Int32) : Int32 × ZS := inS Z s (-1) (-1) (fitsK Z n i)
noncomputable def nextZ (Z : ZS) (s n : Int32) : Int32 × ZS := inS Z s (-11) (-1) (nextK Z n)
set_option maxRecDepth 20000 in
set_option maxHeartbeats 4000000 in
theorem P_judge0 {d : Nat} {M : jk_M} {Z : ZS} (cv : CV M Z) (ok : Zok Z) (k : Nat) (hk : k < 8) (n : Int32) (h0 : ¬ tdK Z k n 1 = 0) : J Fr_X10_judge (d + 3) 0 0 0 [(0, .ref 0), (1, .int (nI k)), (2, .int n)] [] M (jk_ex (some (.int (judgeK Z n k).1)) (fun M1 => CV M1 (judgeK Z n k).2)) := by
  refine j_post (fun Q hQ => ?_)
  have hC := cv.1
  have hS := cv.2.1
  have okS := ok.1
  refine j_aload_n 0 dX10_judge_0 rfl ?_
  refine j_iload_n 1 dX10_judge_1 rfl ?_
  refine j_callV (kc := 0) (ks := 0) (a := 0) (b := 0) (d' := d) (As := [.int (nI k)]) dX10_judge_2 kX10_89 rfl (shC hC sgC_0) (by omega) rfl rfl rfl (Nat.le_of_ble_eq_true rfl) (Nat.le_of_ble_eq_true rfl) (T_shelfAtY hC k (by omega)) (kk_p ?_)
  refine j_astore_n (L' := [(3, .ref (109 + 2 * k)), (0, .ref 0), (1, .int (nI k)), (2, .int n)]) dX10_judge_5 (by decide) rfl ?_
  refine j_aload_n 0 dX10_judge_6 rfl ?_
  refine j_iload_n 3 dX10_judge_7 rfl ?_
  refine j_iconst 1 dX10_judge_8 ic_1 ?_
  refine j_callS (kc := 0) (ks := 0) (a := 0) (b := 0) (d' := (d + 2)) (As := [.ref (109 + 2 * k), .int n, .int 1]) dX10_judge_9 kX10_330 rfl (by omega) rfl rfl rfl (Nat.le_of_ble_eq_true rfl) (Nat.le_of_ble_eq_true rfl) (K_toldRefusal cv (by omega) n 1) (kk_p ?_)
  refine j_istore (L' := [(4, .int (tdK Z k n 1)), (3, .ref (109 + 2 * k)), (0, .ref 0), (1, .int (nI k)), (2, .int n)]) dX10_judge_12 (by decide) rfl ?_
  refine j_iload 0 dX10_judge_14 rfl ?_
  refine j_if_eq (tgt := 29) dX10_judge_16 rfl (fun c1 => ?_) (fun c1 => ?_)
  · exact absurd c1 h0
  · refine j_aload_n 2 dX10_judge_19 rfl ?_
    refine j_iload 0 dX10_judge_20 rfl ?_
    refine j_callV (kc := 0) (ks := 0) (a := 0) (b := 0) (d' := d) (As := [.int (tdK Z k n 1)]) dX10_judge_22 kX10_93 rfl (shC hC sgC_0) (by omega) rfl rfl rfl (Nat.le_of_ble_eq_true rfl) (Nat.le_of_ble_eq_true rfl) (T_X10_refuse hC (tdK Z k n 1)) (kk_p ?_)
    refine j_bipush (-10) dX10_judge_25 bp_n10 ?_
    refine j_iadd dX10_judge_27 ?_
    refine j_iret dX10_judge_28 rfl ?_
    have hz : judgeK Z n k = (((tdK Z k n 1) + (-10)), (refZ Z (tdK Z k n 1))) := by
      clear hQ
      clear cv hC hS
      grind [judgeK, cif]
    exact hQ _ _ ⟨by rw [hz], by rw [hz]; exact CV.rf cv ok (tdK Z k n 1)⟩
set_option maxRecDepth 20000 in
set_option maxHeartbeats 4000000 in
theorem P_judge1 {d : Nat} {M : jk_M} {Z : ZS} (cv : CV M Z) (ok : Zok Z) (k : Nat) (hk : k < 8) (m : Nat) (hm : m ≤ 40) (h0 : tdK Z k (nI m) 1 = 0) : J Fr_X10_judge (d + 3) 0 0 0 [(0, .ref 0), (1, .int (nI k)), (2, .int (nI m))] [] M (jk_ex (some (.int (judgeK Z (nI m) k).1)) (fun M1 => CV M1 (judgeK Z (nI m) k).2)) := by
  refine j_post (fun Q hQ => ?_)
  have hC := cv.1
  have hS := cv.2.1
  have okS := ok.1
  refine j_aload_n 0 dX10_judge_0 rfl ?_
  refine j_iload_n 1 dX10_judge_1 rfl ?_
  refine j_callV (kc := 0) (ks := 0) (a := 0) (b := 0) (d' := d) (As := [.int (nI k)]) dX10_judge_2 kX10_89 rfl (shC hC sgC_0) (by omega) rfl rfl rfl (Nat.le_of_ble_eq_true rfl) (Nat.le_of_ble_eq_true rfl) (T_shelfAtY hC k (by omega)) (kk_p ?_)
  refine j_astore_n (L' := [(3, .ref (109 + 2 * k)), (0, .ref 0), (1, .int (nI k)), (2, .int (nI m))]) dX10_judge_5 (by decide) rfl ?_
  refine j_aload_n 0 dX10_judge_6 rfl ?_
  refine j_iload_n 3 dX10_judge_7 rfl ?_
  refine j_iconst 1 dX10_judge_8 ic_1 ?_
  refine j_callS (kc := 0) (ks := 0) (a := 0) (b := 0) (d' := (d + 2)) (As := [.ref (109 + 2 * k), .int (nI m), .int 1]) dX10_judge_9 kX10_330 rfl (by omega) rfl rfl rfl (Nat.le_of_ble_eq_true rfl) (Nat.le_of_ble_eq_true rfl) (K_toldRefusal cv (by omega) (nI m) 1) (kk_p ?_)
  refine j_istore (L' := [(4, .int (tdK Z k (nI m) 1)), (3, .ref (109 + 2 * k)), (0, .ref 0), (1, .int (nI k)), (2, .int (nI m))]) dX10_judge_12 (by decide) rfl ?_
  refine j_iload 0 dX10_judge_14 rfl ?_
  refine j_if_eq (tgt := 29) dX10_judge_16 rfl (fun c1 => ?_) (fun c1 => ?_)
  · refine j_aload_n 2 dX10_judge_29 rfl ?_
    refine j_aload_n 1 dX10_judge_30 rfl ?_
    refine j_iload_n 4 dX10_judge_31 rfl ?_
    refine j_callV (kc := 0) (ks := 0) (a := 0) (b := 0) (d' := (d + 2)) (As := [.ref (109 + 2 * k), .int (nI m)]) dX10_judge_32 kX10_334 rfl (shC hC sgC_0) (by omega) rfl rfl rfl (Nat.le_of_ble_eq_true rfl) (Nat.le_of_ble_eq_true rfl) (K_firstWrong cv ok (by omega) m hm) (kk_p ?_)
    refine j_iret dX10_judge_35 rfl ?_
    have hz : judgeK Z (nI m) k = ((fwS Z.1 (tlK Z k) m), Z) := by
      clear hQ
      clear cv hC hS
      have hcl := nI_clamp (show m < 2 ^ 31 by omega)
      grind [judgeK, cif]
    exact hQ _ _ ⟨by rw [hz], by rw [hz]; exact cv⟩
  · exact absurd h0 c1
set_option maxRecDepth 20000 in
set_option maxHeartbeats 4000000 in
theorem P_judgeN {d : Nat} {M : jk_M} {Z : ZS} (cv : CV M Z) (ok : Zok Z) (s n : Int32) (hs : ¬ (0 ≤ s ∧ s < 8)) : J Fr_X10_judge (d + 3) 0 0 0 [(0, .ref 0), (1, .int s), (2, .int n)] [] M (jk_ex (some (.int ((((-11) : Int32), refZ Z (-1))).1)) (fun M1 => CV M1 ((((-11) : Int32), refZ Z (-1))).2)) := by
  refine j_post (fun Q hQ => ?_)
  have hC := cv.1
  have hS := cv.2.1
  have okS := ok.1
  refine j_aload_n 0 dX10_judge_0 rfl ?_
  refine j_iload_n 1 dX10_judge_1 rfl ?_
  refine j_callV (kc := 0) (ks := 0) (a := 0) (b := 0) (d' := d) (As := [.int s]) dX10_judge_2 kX10_89 rfl (shC hC sgC_0) (by omega) rfl rfl rfl (Nat.le_of_ble_eq_true rfl) (Nat.le_of_ble_eq_true rfl) (T_shelfAtN hC s (by assumption)) (kk_p ?_)
  refine j_astore_nN (L' := [(3, .null), (0, .ref 0), (1, .int s), (2, .int n)]) dX10_judge_5 (by decide) rfl ?_
  refine j_aload_nN 0 dX10_judge_6 rfl ?_
  refine j_iload_n 3 dX10_judge_7 rfl ?_
  refine j_iconst 1 dX10_judge_8 ic_1 ?_
  refine j_callS (kc := 0) (ks := 0) (a := 0) (b := 0) (d' := (d + 2)) (As := [.null, .int n, .int 1]) dX10_judge_9 kX10_330 rfl (by omega) rfl rfl rfl (Nat.le_of_ble_eq_true rfl) (Nat.le_of_ble_eq_true rfl) (T_toldRefusalN n 1) (kk_p ?_)
  refine j_istore (L' := [(4, .int (-1)), (3, .null), (0, .ref 0), (1, .int s), (2, .int n)]) dX10_judge_12 (by decide) rfl ?_
  refine j_iload 0 dX10_judge_14 rfl ?_
  refine j_if_eq (tgt := 29) dX10_judge_16 rfl (fun c1 => ?_) (fun c1 => ?_)
  · exact absurd c1 (by decide)
  · refine j_aload_n 2 dX10_judge_19 rfl ?_
    refine j_iload 0 dX10_judge_20 rfl ?_
    refine j_callV (kc := 0) (ks := 0) (a := 0) (b := 0) (d' := d) (As := [.int (-1)]) dX10_judge_22 kX10_93 rfl (shC hC sgC_0) (by omega) rfl rfl rfl (Nat.le_of_ble_eq_true rfl) (Nat.le_of_ble_eq_true rfl) (T_X10_refuse hC (-1)) (kk_p ?_)
    refine j_bipush (-10) dX10_judge_25 bp_n10 ?_
    refine j_iadd dX10_judge_27 ?_
    refine j_topi (-11) (by decide) ?_
    refine j_iret dX10_judge_28 rfl ?_
    exact hQ _ _ ⟨rfl, CV.rf cv ok (-1)⟩
theorem P_judge {d : Nat} {M : jk_M} {Z : ZS} (cv : CV M Z) (ok : Zok Z) (s n : Int32) : J Fr_X10_judge (d + 3) 0 0 0 [(0, .ref 0), (1, .int s), (2, .int n)] [] M (jk_ex (some (.int (judgeZ Z s n).1)) (fun M1 => CV M1 (judgeZ Z s n).2)) := by
  by_cases h : 0 ≤ s ∧ s < 8
  · obtain ⟨k, hk, rfl⟩ := s_in h
    rw [judgeZ, inS_y hk]
    by_cases h0 : tdK Z k n 1 = 0
    · obtain ⟨m, hm, rfl⟩ := td_n h0
      exact P_judge1 cv ok k hk m hm h0
    · exact P_judge0 cv ok k hk n h0
  · rw [judgeZ, inS_n h]; exact P_judgeN cv ok s n h
set_option maxRecDepth 20000 in
set_option maxHeartbeats 4000000 in
theorem P_hops0 {d : Nat} {M : jk_M} {Z : ZS} (cv : CV M Z) (ok : Zok Z) (k : Nat) (hk : k < 8) (n r : Int32) (h0 : ¬ tdK Z k n 1 = 0) : J Fr_X10_hops (d + 7) 0 0 0 [(0, .ref 0), (1, .int (nI k)), (2, .int n), (3, .int r)] [] M (jk_ex (some (.int (hopsK Z n r k).1)) (fun M1 => CV M1 (hopsK Z n r k).2)) := by
  refine j_post (fun Q hQ => ?_)
  have hC := cv.1
  have hS := cv.2.1
  have okS := ok.1
  refine j_aload_n 0 dX10_hops_0 rfl ?_
  refine j_iload_n 1 dX10_hops_1 rfl ?_
  refine j_callV (kc := 0) (ks := 0) (a := 0) (b := 0) (d' := d) (As := [.int (nI k)]) dX10_hops_2 kX10_89 rfl (shC hC sgC_0) (by omega) rfl rfl rfl (Nat.le_of_ble_eq_true rfl) (Nat.le_of_ble_eq_true rfl) (T_shelfAtY hC k (by omega)) (kk_p ?_)
  refine j_astore (L' := [(4, .ref (109 + 2 * k)), (0, .ref 0), (1, .int (nI k)), (2, .int n), (3, .int r)]) dX10_hops_5 (by decide) rfl ?_
  refine j_aload 0 dX10_hops_7 rfl ?_
  refine j_iload_n 3 dX10_hops_9 rfl ?_
  refine j_iconst 1 dX10_hops_10 ic_1 ?_
  refine j_callS (kc := 0) (ks := 0) (a := 0) (b := 0) (d' := (d + 2)) (As := [.ref (109 + 2 * k), .int n, .int 1]) dX10_hops_11 kX10_330 rfl (by omega) rfl rfl rfl (Nat.le_of_ble_eq_true rfl) (Nat.le_of_ble_eq_true rfl) (K_toldRefusal cv (by omega) n 1) (kk_p ?_)
  refine j_istore (L' := [(5, .int (tdK Z k n 1)), (4, .ref (109 + 2 * k)), (0, .ref 0), (1, .int (nI k)), (2, .int n), (3, .int r)]) dX10_hops_14 (by decide) rfl ?_
  refine j_iload 0 dX10_hops_16 rfl ?_
  refine j_if_ne (tgt := 43) dX10_hops_18 rfl (fun c1 => ?_) (fun c1 => ?_)
  · refine j_iload 0 dX10_hops_43 rfl ?_
    refine j_if_ne (tgt := 63) dX10_hops_45 rfl (fun c2 => ?_) (fun c2 => ?_)
    · refine j_iload 0 dX10_hops_63 rfl ?_
      refine j_if_eq (tgt := 75) dX10_hops_65 rfl (fun c3 => ?_) (fun c3 => ?_)
      · exact absurd c3 c2
      · refine j_aload_n 2 dX10_hops_68 rfl ?_
        refine j_iload 0 dX10_hops_69 rfl ?_
        refine j_callV (kc := 0) (ks := 0) (a := 0) (b := 0) (d' := d) (As := [.int (tdK Z k n 1)]) dX10_hops_71 kX10_93 rfl (shC hC sgC_0) (by omega) rfl rfl rfl (Nat.le_of_ble_eq_true rfl) (Nat.le_of_ble_eq_true rfl) (T_X10_refuse hC (tdK Z k n 1)) (kk_p ?_)
        refine j_iret dX10_hops_74 rfl ?_
        have hz : hopsK Z n r k = ((tdK Z k n 1), (refZ Z (tdK Z k n 1))) := by
          clear hQ
          clear cv hC hS
          grind [hopsK, cif]
        exact hQ _ _ ⟨by rw [hz], by rw [hz]; exact CV.rf cv ok (tdK Z k n 1)⟩
    · exact absurd c2 c1
  · exact absurd c1 h0
set_option maxRecDepth 20000 in
set_option maxHeartbeats 4000000 in
theorem P_hops1 {d : Nat} {M : jk_M} {Z : ZS} (cv : CV M Z) (ok : Zok Z) (k : Nat) (hk : k < 8) (m : Nat) (hm : m ≤ 40) (h0 : tdK Z k (nI m) 1 = 0) (r : Int32) : J Fr_X10_hops (d + 7) 0 0 0 [(0, .ref 0), (1, .int (nI k)), (2, .int (nI m)), (3, .int r)] [] M (jk_ex (some (.int (hopsK Z (nI m) r k).1)) (fun M1 => CV M1 (hopsK Z (nI m) r k).2)) := by
  refine j_post (fun Q hQ => ?_)
  have hC := cv.1
  have hS := cv.2.1
  have okS := ok.1
  refine j_aload_n 0 dX10_hops_0 rfl ?_
  refine j_iload_n 1 dX10_hops_1 rfl ?_
  refine j_callV (kc := 0) (ks := 0) (a := 0) (b := 0) (d' := d) (As := [.int (nI k)]) dX10_hops_2 kX10_89 rfl (shC hC sgC_0) (by omega) rfl rfl rfl (Nat.le_of_ble_eq_true rfl) (Nat.le_of_ble_eq_true rfl) (T_shelfAtY hC k (by omega)) (kk_p ?_)
  refine j_astore (L' := [(4, .ref (109 + 2 * k)), (0, .ref 0), (1, .int (nI k)), (2, .int (nI m)), (3, .int r)]) dX10_hops_5 (by decide) rfl ?_
  refine j_aload 0 dX10_hops_7 rfl ?_
  refine j_iload_n 3 dX10_hops_9 rfl ?_
  refine j_iconst 1 dX10_hops_10 ic_1 ?_
  refine j_callS (kc := 0) (ks := 0) (a := 0) (b := 0) (d' := (d + 2)) (As := [.ref (109 + 2 * k), .int (nI m), .int 1]) dX10_hops_11 kX10_330 rfl (by omega) rfl rfl rfl (Nat.le_of_ble_eq_true rfl) (Nat.le_of_ble_eq_true rfl) (K_toldRefusal cv (by omega) (nI m) 1) (kk_p ?_)
  refine j_istore (L' := [(5, .int (tdK Z k (nI m) 1)), (4, .ref (109 + 2 * k)), (0, .ref 0), (1, .int (nI k)), (2, .int (nI m)), (3, .int r)]) dX10_hops_14 (by decide) rfl ?_
  refine j_iload 0 dX10_hops_16 rfl ?_
  refine j_if_ne (tgt := 43) dX10_hops_18 rfl (fun c1 => ?_) (fun c1 => ?_)
  · exact absurd h0 c1
  · refine j_iload_n 5 dX10_hops_21 rfl ?_
    refine j_iconst (-1) dX10_hops_22 ic_n1 ?_
    refine j_icmp_eq (tgt := 43) dX10_hops_23 rfl (fun c2 => ?_) (fun c2 => ?_)
    · refine j_iload 0 dX10_hops_43 rfl ?_
      refine j_if_ne (tgt := 63) dX10_hops_45 rfl (fun c3 => ?_) (fun c3 => ?_)
      · exact absurd c1 c3
      · refine j_aload_n 2 dX10_hops_48 rfl ?_
        refine j_aload 1 dX10_hops_49 rfl ?_
        refine j_iload_n 4 dX10_hops_51 rfl ?_
        refine j_callV (kc := 0) (ks := 0) (a := 0) (b := 0) (d' := (d + 2)) (As := [.ref (109 + 2 * k), .int (nI m)]) dX10_hops_52 kX10_334 rfl (shC hC sgC_0) (by omega) rfl rfl rfl (Nat.le_of_ble_eq_true rfl) (Nat.le_of_ble_eq_true rfl) (K_firstWrong cv ok (by omega) m hm) (kk_p ?_)
        refine j_iconst (-1) dX10_hops_55 ic_n1 ?_
        refine j_icmp_eq (tgt := 63) dX10_hops_56 rfl (fun c4 => ?_) (fun c4 => ?_)
        · refine j_iload 0 dX10_hops_63 rfl ?_
          refine j_if_eq (tgt := 75) dX10_hops_65 rfl (fun c5 => ?_) (fun c5 => ?_)
          · refine j_aload_n 2 dX10_hops_75 rfl ?_
            refine j_getr (q := 82) dX10_hops_76 fX10_27 (shC hC sgC_0) rfl (rfC hC rfC_0_3 (nz (by decide))) ?_
            refine j_callV (kc := 0) (ks := 0) (a := 0) (b := 0) (d' := (d + 2)) (As := []) dX10_hops_79 kX10_222 rfl (shC hC (sgA isA82)) (by omega) rfl rfl rfl (Nat.le_of_ble_eq_true rfl) (Nat.le_of_ble_eq_true rfl) (T_X0_lay hC isA82 hS okS) (kk_ev (fun M6 hM7 => ?_))
            obtain ⟨sm8, ha9, -⟩ := hM7
            replace sm8 := (sm8.mo PScL)
            refine j_iload_n 5 dX10_hops_82 rfl ?_
            refine j_iconst (-1) dX10_hops_83 ic_n1 ?_
            refine j_icmp_ne (tgt := 97) dX10_hops_84 rfl (fun c10 => ?_) (fun c10 => ?_)
            · exact absurd c2 c10
            · refine j_aload_n 2 dX10_hops_87 rfl ?_
              refine j_aload 1 dX10_hops_88 rfl ?_
              refine j_iload_n 4 dX10_hops_90 rfl ?_
              refine j_callV (kc := 0) (ks := 0) (a := 0) (b := 0) (d' := (d + 6)) (As := [.ref (109 + 2 * k), .int (nI m)]) dX10_hops_91 kX10_337 rfl (shC (Sm.C sm8 hC) sgC_0) (by omega) rfl rfl rfl (Nat.le_of_ble_eq_true rfl) (Nat.le_of_ble_eq_true rfl) (K_calmest (CV.sc cv ok (Sm.g sm8)) ok ha9 (by omega) m hm) (kk_e (fun M11 hM12 => ?_))
              obtain ⟨h014, ha15⟩ := hM12
              have sm13 : Sm PSc M M11 := Sm.tr sm8 (Sm.mo h014 PHu.Sc)
              refine j_goto (tgt := 105) dX10_hops_94 rfl ?_
              refine j_iret dX10_hops_105 rfl ?_
              have hz : hopsK Z (nI m) r k = ((cmS Z.1 (tlK Z k) m 4).1, Z) := by
                clear hQ
                clear cv hC hS
                have hcl := nI_clamp (show m < 2 ^ 31 by omega)
                grind [hopsK, cif]
              exact hQ _ _ ⟨by rw [hz], by rw [hz]; exact CV.sc cv ok (Sm.g sm13)⟩
          · exact absurd c3 c5
        · refine j_bipush (-6) dX10_hops_59 bp_n6 ?_
          refine j_istore (L' := [(5, .int (-6)), (4, .ref (109 + 2 * k)), (0, .ref 0), (1, .int (nI k)), (2, .int (nI m)), (3, .int r)]) dX10_hops_61 (by decide) rfl ?_
          refine j_iload 0 dX10_hops_63 rfl ?_
          refine j_if_eq (tgt := 75) dX10_hops_65 rfl (fun c16 => ?_) (fun c16 => ?_)
          · exact absurd c16 (by decide)
          · refine j_aload_n 2 dX10_hops_68 rfl ?_
            refine j_iload 0 dX10_hops_69 rfl ?_
            refine j_callV (kc := 0) (ks := 0) (a := 0) (b := 0) (d' := d) (As := [.int (-6)]) dX10_hops_71 kX10_93 rfl (shC hC sgC_0) (by omega) rfl rfl rfl (Nat.le_of_ble_eq_true rfl) (Nat.le_of_ble_eq_true rfl) (T_X10_refuse hC (-6)) (kk_p ?_)
            refine j_iret dX10_hops_74 rfl ?_
            have hz : hopsK Z (nI m) r k = ((-6), (refZ Z (-6))) := by
              clear hQ
              clear cv hC hS
              have hcl := nI_clamp (show m < 2 ^ 31 by omega)
              grind [hopsK, cif]
            exact hQ _ _ ⟨by rw [hz], by rw [hz]; exact CV.rf cv ok (-6)⟩
    · refine j_aload_n 2 dX10_hops_26 rfl ?_
      refine j_getr (q := 1) dX10_hops_27 fX10_10 (shC hC sgC_0) rfl (rfC hC rfC_0_0 (nz (by decide))) ?_
      refine j_bipush 13 dX10_hops_30 bp_13 ?_
      refine j_iload_n 5 dX10_hops_32 rfl ?_
      refine j_callV (kc := 0) (ks := 0) (a := 0) (b := 0) (d' := (d + 1)) (As := [.int 13, .int r]) dX10_hops_33 kX10_150 rfl (shC hC (sgH (by simp [isH]))) (by omega) rfl rfl rfl (Nat.le_of_ble_eq_true rfl) (Nat.le_of_ble_eq_true rfl) (T_X2_may hC (by simp [isH]) hS okS 13 r) (kk_p ?_)
      refine j_if_neB (p := (mayS Z.1 13 r)) (tgt := 43) dX10_hops_36 rfl (fun c17 => ?_) (fun c17 => ?_)
      · refine j_iload 0 dX10_hops_43 rfl ?_
        refine j_if_ne (tgt := 63) dX10_hops_45 rfl (fun c18 => ?_) (fun c18 => ?_)
        · exact absurd c1 c18
        · refine j_aload_n 2 dX10_hops_48 rfl ?_
          refine j_aload 1 dX10_hops_49 rfl ?_
          refine j_iload_n 4 dX10_hops_51 rfl ?_
          refine j_callV (kc := 0) (ks := 0) (a := 0) (b := 0) (d' := (d + 2)) (As := [.ref (109 + 2 * k), .int (nI m)]) dX10_hops_52 kX10_334 rfl (shC hC sgC_0) (by omega) rfl rfl rfl (Nat.le_of_ble_eq_true rfl) (Nat.le_of_ble_eq_true rfl) (K_firstWrong cv ok (by omega) m hm) (kk_p ?_)
          refine j_iconst (-1) dX10_hops_55 ic_n1 ?_
          refine j_icmp_eq (tgt := 63) dX10_hops_56 rfl (fun c19 => ?_) (fun c19 => ?_)
          · refine j_iload 0 dX10_hops_63 rfl ?_
            refine j_if_eq (tgt := 75) dX10_hops_65 rfl (fun c20 => ?_) (fun c20 => ?_)
            · refine j_aload_n 2 dX10_hops_75 rfl ?_
              refine j_getr (q := 82) dX10_hops_76 fX10_27 (shC hC sgC_0) rfl (rfC hC rfC_0_3 (nz (by decide))) ?_
              refine j_callV (kc := 0) (ks := 0) (a := 0) (b := 0) (d' := (d + 2)) (As := []) dX10_hops_79 kX10_222 rfl (shC hC (sgA isA82)) (by omega) rfl rfl rfl (Nat.le_of_ble_eq_true rfl) (Nat.le_of_ble_eq_true rfl) (T_X0_lay hC isA82 hS okS) (kk_ev (fun M21 hM22 => ?_))
              obtain ⟨sm23, ha24, -⟩ := hM22
              replace sm23 := (sm23.mo PScL)
              refine j_iload_n 5 dX10_hops_82 rfl ?_
              refine j_iconst (-1) dX10_hops_83 ic_n1 ?_
              refine j_icmp_ne (tgt := 97) dX10_hops_84 rfl (fun c25 => ?_) (fun c25 => ?_)
              · refine j_aload_n 2 dX10_hops_97 rfl ?_
                refine j_aload 1 dX10_hops_98 rfl ?_
                refine j_iload_n 4 dX10_hops_100 rfl ?_
                refine j_iload_n 5 dX10_hops_101 rfl ?_
                refine j_callV (kc := 0) (ks := 0) (a := 0) (b := 0) (d' := (d + 5)) (As := [.ref (109 + 2 * k), .int (nI m), .int r]) dX10_hops_102 kX10_340 rfl (shC (Sm.C sm23 hC) sgC_0) (by omega) rfl rfl rfl (Nat.le_of_ble_eq_true rfl) (Nat.le_of_ble_eq_true rfl) (K_hopsOf (CV.sc cv ok (Sm.g sm23)) ok ha24 (by omega) m hm r) (kk_e (fun M26 hM27 => ?_))
                obtain ⟨h029, ha30⟩ := hM27
                have sm28 : Sm PSc M M26 := Sm.tr sm23 (Sm.mo h029 PHu.Sc)
                refine j_iret dX10_hops_105 rfl ?_
                have hz : hopsK Z (nI m) r k = ((hpS Z.1 (tlK Z k) r m).2, Z) := by
                  clear hQ
                  clear cv hC hS
                  have hcl := nI_clamp (show m < 2 ^ 31 by omega)
                  grind [hopsK, cif]
                exact hQ _ _ ⟨by rw [hz], by rw [hz]; exact CV.sc cv ok (Sm.g sm28)⟩
              · exact absurd c25 c2
            · exact absurd c18 c20
          · refine j_bipush (-6) dX10_hops_59 bp_n6 ?_
            refine j_istore (L' := [(5, .int (-6)), (4, .ref (109 + 2 * k)), (0, .ref 0), (1, .int (nI k)), (2, .int (nI m)), (3, .int r)]) dX10_hops_61 (by decide) rfl ?_
            refine j_iload 0 dX10_hops_63 rfl ?_
            refine j_if_eq (tgt := 75) dX10_hops_65 rfl (fun c31 => ?_) (fun c31 => ?_)
            · exact absurd c31 (by decide)
            · refine j_aload_n 2 dX10_hops_68 rfl ?_
              refine j_iload 0 dX10_hops_69 rfl ?_
              refine j_callV (kc := 0) (ks := 0) (a := 0) (b := 0) (d' := d) (As := [.int (-6)]) dX10_hops_71 kX10_93 rfl (shC hC sgC_0) (by omega) rfl rfl rfl (Nat.le_of_ble_eq_true rfl) (Nat.le_of_ble_eq_true rfl) (T_X10_refuse hC (-6)) (kk_p ?_)
              refine j_iret dX10_hops_74 rfl ?_
              have hz : hopsK Z (nI m) r k = ((-6), (refZ Z (-6))) := by
                clear hQ
                clear cv hC hS
                have hcl := nI_clamp (show m < 2 ^ 31 by omega)
                grind [hopsK, cif]
              exact hQ _ _ ⟨by rw [hz], by rw [hz]; exact CV.rf cv ok (-6)⟩
      · refine j_bipush (-6) dX10_hops_39 bp_n6 ?_
        refine j_istore (L' := [(5, .int (-6)), (4, .ref (109 + 2 * k)), (0, .ref 0), (1, .int (nI k)), (2, .int (nI m)), (3, .int r)]) dX10_hops_41 (by decide) rfl ?_
        refine j_iload 0 dX10_hops_43 rfl ?_
        refine j_if_ne (tgt := 63) dX10_hops_45 rfl (fun c32 => ?_) (fun c32 => ?_)
        · refine j_iload 0 dX10_hops_63 rfl ?_
          refine j_if_eq (tgt := 75) dX10_hops_65 rfl (fun c33 => ?_) (fun c33 => ?_)
          · exact absurd c33 (by decide)
          · refine j_aload_n 2 dX10_hops_68 rfl ?_
            refine j_iload 0 dX10_hops_69 rfl ?_
            refine j_callV (kc := 0) (ks := 0) (a := 0) (b := 0) (d' := d) (As := [.int (-6)]) dX10_hops_71 kX10_93 rfl (shC hC sgC_0) (by omega) rfl rfl rfl (Nat.le_of_ble_eq_true rfl) (Nat.le_of_ble_eq_true rfl) (T_X10_refuse hC (-6)) (kk_p ?_)
            refine j_iret dX10_hops_74 rfl ?_
            have hz : hopsK Z (nI m) r k = ((-6), (refZ Z (-6))) := by
              clear hQ
              clear cv hC hS
              have hcl := nI_clamp (show m < 2 ^ 31 by omega)
              grind [hopsK, cif]
            exact hQ _ _ ⟨by rw [hz], by rw [hz]; exact CV.rf cv ok (-6)⟩
        · exact absurd c32 (by decide)
set_option maxRecDepth 20000 in
set_option maxHeartbeats 4000000 in
theorem P_hopsN {d : Nat} {M : jk_M} {Z : ZS} (cv : CV M Z) (ok : Zok Z) (s n r : Int32) (hs : ¬ (0 ≤ s ∧ s < 8)) : J Fr_X10_hops (d + 7) 0 0 0 [(0, .ref 0), (1, .int s), (2, .int n), (3, .int r)] [] M (jk_ex (some (.int ((((-1) : Int32), refZ Z (-1))).1)) (fun M1 => CV M1 ((((-1) : Int32), refZ Z (-1))).2)) := by
  refine j_post (fun Q hQ => ?_)
  have hC := cv.1
  have hS := cv.2.1
  have okS := ok.1
  refine j_aload_n 0 dX10_hops_0 rfl ?_
  refine j_iload_n 1 dX10_hops_1 rfl ?_
  refine j_callV (kc := 0) (ks := 0) (a := 0) (b := 0) (d' := d) (As := [.int s]) dX10_hops_2 kX10_89 rfl (shC hC sgC_0) (by omega) rfl rfl rfl (Nat.le_of_ble_eq_true rfl) (Nat.le_of_ble_eq_true rfl) (T_shelfAtN hC s (by assumption)) (kk_p ?_)
  refine j_astoreN (L' := [(4, .null), (0, .ref 0), (1, .int s), (2, .int n), (3, .int r)]) dX10_hops_5 (by decide) rfl ?_
  refine j_aloadN 0 dX10_hops_7 rfl ?_
  refine j_iload_n 3 dX10_hops_9 rfl ?_
  refine j_iconst 1 dX10_hops_10 ic_1 ?_
  refine j_callS (kc := 0) (ks := 0) (a := 0) (b := 0) (d' := (d + 2)) (As := [.null, .int n, .int 1]) dX10_hops_11 kX10_330 rfl (by omega) rfl rfl rfl (Nat.le_of_ble_eq_true rfl) (Nat.le_of_ble_eq_true rfl) (T_toldRefusalN n 1) (kk_p ?_)
  refine j_istore (L' := [(5, .int (-1)), (4, .null), (0, .ref 0), (1, .int s), (2, .int n), (3, .int r)]) dX10_hops_14 (by decide) rfl ?_
  refine j_iload 0 dX10_hops_16 rfl ?_
  refine j_if_ne (tgt := 43) dX10_hops_18 rfl (fun c1 => ?_) (fun c1 => ?_)
  · refine j_iload 0 dX10_hops_43 rfl ?_
    refine j_if_ne (tgt := 63) dX10_hops_45 rfl (fun c2 => ?_) (fun c2 => ?_)
    · refine j_iload 0 dX10_hops_63 rfl ?_
      refine j_if_eq (tgt := 75) dX10_hops_65 rfl (fun c3 => ?_) (fun c3 => ?_)
      · exact absurd c3 (by decide)
      · refine j_aload_n 2 dX10_hops_68 rfl ?_
        refine j_iload 0 dX10_hops_69 rfl ?_
        refine j_callV (kc := 0) (ks := 0) (a := 0) (b := 0) (d' := d) (As := [.int (-1)]) dX10_hops_71 kX10_93 rfl (shC hC sgC_0) (by omega) rfl rfl rfl (Nat.le_of_ble_eq_true rfl) (Nat.le_of_ble_eq_true rfl) (T_X10_refuse hC (-1)) (kk_p ?_)
        refine j_iret dX10_hops_74 rfl ?_
        exact hQ _ _ ⟨rfl, CV.rf cv ok (-1)⟩
    · exact absurd c2 (by decide)
  · exact absurd c1 (by decide)
theorem P_hops {d : Nat} {M : jk_M} {Z : ZS} (cv : CV M Z) (ok : Zok Z) (s n r : Int32) : J Fr_X10_hops (d + 7) 0 0 0 [(0, .ref 0), (1, .int s), (2, .int n), (3, .int r)] [] M (jk_ex (some (.int (hopsZ Z s n r).1)) (fun M1 => CV M1 (hopsZ Z s n r).2)) := by
  by_cases h : 0 ≤ s ∧ s < 8
  · obtain ⟨k, hk, rfl⟩ := s_in h
    rw [hopsZ, inS_y hk]
    by_cases h0 : tdK Z k n 1 = 0
    · obtain ⟨m, hm, rfl⟩ := td_n h0
      exact P_hops1 cv ok k hk m hm h0 r
    · exact P_hops0 cv ok k hk n r h0
  · rw [hopsZ, inS_n h]; exact P_hopsN cv ok s n r h
set_option maxRecDepth 20000 in
set_option maxHeartbeats 4000000 in
theorem P_fits0 {d : Nat} {M : jk_M} {Z : ZS} (cv : CV M Z) (ok : Zok Z) (k : Nat) (hk : k < 8) (n i : Int32) (h0 : ¬ tdK Z k n 2 = 0) : J Fr_X10_fits (d + 6) 0 0 0 [(0, .ref 0), (1, .int (nI k)), (2, .int n), (3, .int i)] [] M (jk_ex (some (.int (fitsK Z n i k).1)) (fun M1 => CV M1 (fitsK Z n i k).2)) := by
  refine j_post (fun Q hQ => ?_)
  have hC := cv.1
  have hS := cv.2.1
  have okS := ok.1
  refine j_aload_n 0 dX10_fits_0 rfl ?_
  refine j_iload_n 1 dX10_fits_1 rfl ?_
  refine j_callV (kc := 0) (ks := 0) (a := 0) (b := 0) (d' := d) (As := [.int (nI k)]) dX10_fits_2 kX10_89 rfl (shC hC sgC_0) (by omega) rfl rfl rfl (Nat.le_of_ble_eq_true rfl) (Nat.le_of_ble_eq_true rfl) (T_shelfAtY hC k (by omega)) (kk_p ?_)
  refine j_astore (L' := [(4, .ref (109 + 2 * k)), (0, .ref 0), (1, .int (nI k)), (2, .int n), (3, .int i)]) dX10_fits_5 (by decide) rfl ?_
  refine j_aload_n 1 dX10_fits_7 rfl ?_
  refine j_aload 0 dX10_fits_8 rfl ?_
  refine j_iload_n 3 dX10_fits_10 rfl ?_
  refine j_callV (kc := 0) (ks := 0) (a := 0) (b := 0) (d' := (d + 3)) (As := [.ref (109 + 2 * k), .int n]) dX10_fits_11 kX10_301 rfl (shC hC sgC_0) (by omega) rfl rfl rfl (Nat.le_of_ble_eq_true rfl) (Nat.le_of_ble_eq_true rfl) (K_pairs0 cv ok (by omega) n h0) (kk_p ?_)
  refine j_istore (L' := [(5, .int (tdK Z k n 2)), (4, .ref (109 + 2 * k)), (0, .ref 0), (1, .int (nI k)), (2, .int n), (3, .int i)]) dX10_fits_14 (by decide) rfl ?_
  refine j_iload 0 dX10_fits_16 rfl ?_
  refine j_if_eq (tgt := 28) dX10_fits_18 rfl (fun c1 => ?_) (fun c1 => ?_)
  · exact absurd c1 h0
  · refine j_aload_n 2 dX10_fits_21 rfl ?_
    refine j_iload 0 dX10_fits_22 rfl ?_
    refine j_callV (kc := 0) (ks := 0) (a := 0) (b := 0) (d' := d) (As := [.int (tdK Z k n 2)]) dX10_fits_24 kX10_93 rfl (shC hC sgC_0) (by omega) rfl rfl rfl (Nat.le_of_ble_eq_true rfl) (Nat.le_of_ble_eq_true rfl) (T_X10_refuse hC (tdK Z k n 2)) (kk_p ?_)
    refine j_iret dX10_fits_27 rfl ?_
    have hz : fitsK Z n i k = ((tdK Z k n 2), (refZ Z (tdK Z k n 2))) := by
      clear hQ
      clear cv hC hS
      grind [fitsK, cif]
    exact hQ _ _ ⟨by rw [hz], by rw [hz]; exact CV.rf cv ok (tdK Z k n 2)⟩
set_option maxRecDepth 20000 in
set_option maxHeartbeats 4000000 in
theorem P_fits1 {d : Nat} {M : jk_M} {Z : ZS} (cv : CV M Z) (ok : Zok Z) (k : Nat) (hk : k < 8) (m : Nat) (hm : m ≤ 40) (h0 : tdK Z k (nI m) 2 = 0) : J Fr_X10_fits (d + 6) 0 0 0 [(0, .ref 0), (1, .int (nI k)), (2, .int (nI m)), (3, .int (-1))] [] M (jk_ex (some (.int (fitsK Z (nI m) (-1) k).1)) (fun M1 => CV M1 (fitsK Z (nI m) (-1) k).2)) := by
  refine j_post (fun Q hQ => ?_)
  have hC := cv.1
  have hS := cv.2.1
  have okS := ok.1
  refine j_aload_n 0 dX10_fits_0 rfl ?_
  refine j_iload_n 1 dX10_fits_1 rfl ?_
  refine j_callV (kc := 0) (ks := 0) (a := 0) (b := 0) (d' := d) (As := [.int (nI k)]) dX10_fits_2 kX10_89 rfl (shC hC sgC_0) (by omega) rfl rfl rfl (Nat.le_of_ble_eq_true rfl) (Nat.le_of_ble_eq_true rfl) (T_shelfAtY hC k (by omega)) (kk_p ?_)
  refine j_astore (L' := [(4, .ref (109 + 2 * k)), (0, .ref 0), (1, .int (nI k)), (2, .int (nI m)), (3, .int (-1))]) dX10_fits_5 (by decide) rfl ?_
  refine j_aload_n 1 dX10_fits_7 rfl ?_
  refine j_aload 0 dX10_fits_8 rfl ?_
  refine j_iload_n 3 dX10_fits_10 rfl ?_
  refine j_callV (kc := 0) (ks := 0) (a := 0) (b := 0) (d' := (d + 3)) (As := [.ref (109 + 2 * k), .int (nI m)]) dX10_fits_11 kX10_301 rfl (shC hC sgC_0) (by omega) rfl rfl rfl (Nat.le_of_ble_eq_true rfl) (Nat.le_of_ble_eq_true rfl) (K_pairs1 cv ok (by omega) m hm h0) (kk_p ?_)
  refine j_istore (L' := [(5, .int (prS Z.1 (tlK Z k) m)), (4, .ref (109 + 2 * k)), (0, .ref 0), (1, .int (nI k)), (2, .int (nI m)), (3, .int (-1))]) dX10_fits_14 (by decide) rfl ?_
  refine j_iload 0 dX10_fits_16 rfl ?_
  refine j_if_eq (tgt := 28) dX10_fits_18 rfl (fun c1 => ?_) (fun c1 => ?_)
  · refine j_aload_n 2 dX10_fits_28 rfl ?_
    refine j_getr (q := 96) dX10_fits_29 fX10_45 (shC hC sgC_0) rfl (rfC hC rfC_0_5 (nz (by decide))) ?_
    refine j_aload 1 dX10_fits_32 rfl ?_
    refine j_iload_n 4 dX10_fits_34 rfl ?_
    refine j_callV (kc := 0) (ks := 0) (a := 0) (b := 0) (d' := (d + 5)) (As := [.ref (109 + 2 * k), .int (nI m)]) dX10_fits_35 kX10_305 rfl (shC hC sgC_96) (by omega) rfl rfl rfl (Nat.le_of_ble_eq_true rfl) (Nat.le_of_ble_eq_true rfl) (K_look cv ok (by omega) m hm) (kk_ev (fun M2 hM3 => ?_))
    obtain ⟨h05, ha6, hsw⟩ := hM3
    have sm4 : Sm PSc M M2 := Sm.mo h05 PSe.Sc
    refine j_iload_n 5 dX10_fits_38 rfl ?_
    refine j_iconst (-1) dX10_fits_39 ic_n1 ?_
    refine j_icmp_ne (tgt := 51) dX10_fits_40 rfl (fun c7 => ?_) (fun c7 => ?_)
    · exact absurd c7 (by decide)
    · refine j_aload_n 2 dX10_fits_43 rfl ?_
      refine j_getr (q := 96) dX10_fits_44 fX10_45 (shC (Sm.C sm4 hC) sgC_0) rfl (rfC (Sm.C sm4 hC) rfC_0_5 (nz (by decide))) ?_
      refine j_getv (nI (ftK Z m k).length) dX10_fits_47 fX10_309 (shC (Sm.C sm4 hC) sgC_96) rfl hsw.1 ?_
      refine j_iret dX10_fits_50 rfl ?_
      have hz : fitsK Z (nI m) (-1) k = ((nI (ftK Z m k).length), Z) := by
        clear hQ
        clear cv hC hS
        have hcl := nI_clamp (show m < 2 ^ 31 by omega)
        have h6 := prS_01 (S := Z.1) (tl := tlK Z k) (n := m)
        grind [fitsK, cif]
      exact hQ _ _ ⟨by rw [hz], by rw [hz]; exact CV.sc cv ok (Sm.g sm4)⟩
  · refine j_aload_n 2 dX10_fits_21 rfl ?_
    refine j_iload 0 dX10_fits_22 rfl ?_
    refine j_topi (-6) (prS_01.resolve_left c1) ?_
    refine j_callV (kc := 0) (ks := 0) (a := 0) (b := 0) (d' := d) (As := [.int (-6)]) dX10_fits_24 kX10_93 rfl (shC hC sgC_0) (by omega) rfl rfl rfl (Nat.le_of_ble_eq_true rfl) (Nat.le_of_ble_eq_true rfl) (T_X10_refuse hC (-6)) (kk_p ?_)
    refine j_iret dX10_fits_27 rfl ?_
    have hz : fitsK Z (nI m) (-1) k = ((-6), (refZ Z (-6))) := by
      clear hQ
      clear cv hC hS
      have hcl := nI_clamp (show m < 2 ^ 31 by omega)
      have h6 := prS_01 (S := Z.1) (tl := tlK Z k) (n := m)
      grind [fitsK, cif]
    exact hQ _ _ ⟨by rw [hz], by rw [hz]; exact CV.rf cv ok (-6)⟩
set_option maxRecDepth 20000 in
set_option maxHeartbeats 4000000 in
theorem P_fits2 {d : Nat} {M : jk_M} {Z : ZS} (cv : CV M Z) (ok : Zok Z) (k : Nat) (hk : k < 8) (m : Nat) (hm : m ≤ 40) (h0 : tdK Z k (nI m) 2 = 0) (i : Nat) (hi : i < (ftK Z m k).length) : J Fr_X10_fits (d + 6) 0 0 0 [(0, .ref 0), (1, .int (nI k)), (2, .int (nI m)), (3, .int (nI i))] [] M (jk_ex (some (.int (fitsK Z (nI m) (nI i) k).1)) (fun M1 => CV M1 (fitsK Z (nI m) (nI i) k).2)) := by
  refine j_post (fun Q hQ => ?_)
  have hC := cv.1
  have hS := cv.2.1
  have okS := ok.1
  have hl80 := ft_len (Z := Z) (m := m) (k := k)
  have h80 := ft_lt hi
  have hn1 := nI_n1 (show i < 2 ^ 31 by omega)
  have hn2 := nI_n1 (show (ftK Z m k).getD i 0 < 2 ^ 31 by omega)
  refine j_aload_n 0 dX10_fits_0 rfl ?_
  refine j_iload_n 1 dX10_fits_1 rfl ?_
  refine j_callV (kc := 0) (ks := 0) (a := 0) (b := 0) (d' := d) (As := [.int (nI k)]) dX10_fits_2 kX10_89 rfl (shC hC sgC_0) (by omega) rfl rfl rfl (Nat.le_of_ble_eq_true rfl) (Nat.le_of_ble_eq_true rfl) (T_shelfAtY hC k (by omega)) (kk_p ?_)
  refine j_astore (L' := [(4, .ref (109 + 2 * k)), (0, .ref 0), (1, .int (nI k)), (2, .int (nI m)), (3, .int (nI i))]) dX10_fits_5 (by decide) rfl ?_
  refine j_aload_n 1 dX10_fits_7 rfl ?_
  refine j_aload 0 dX10_fits_8 rfl ?_
  refine j_iload_n 3 dX10_fits_10 rfl ?_
  refine j_callV (kc := 0) (ks := 0) (a := 0) (b := 0) (d' := (d + 3)) (As := [.ref (109 + 2 * k), .int (nI m)]) dX10_fits_11 kX10_301 rfl (shC hC sgC_0) (by omega) rfl rfl rfl (Nat.le_of_ble_eq_true rfl) (Nat.le_of_ble_eq_true rfl) (K_pairs1 cv ok (by omega) m hm h0) (kk_p ?_)
  refine j_istore (L' := [(5, .int (prS Z.1 (tlK Z k) m)), (4, .ref (109 + 2 * k)), (0, .ref 0), (1, .int (nI k)), (2, .int (nI m)), (3, .int (nI i))]) dX10_fits_14 (by decide) rfl ?_
  refine j_iload 0 dX10_fits_16 rfl ?_
  refine j_if_eq (tgt := 28) dX10_fits_18 rfl (fun c1 => ?_) (fun c1 => ?_)
  · refine j_aload_n 2 dX10_fits_28 rfl ?_
    refine j_getr (q := 96) dX10_fits_29 fX10_45 (shC hC sgC_0) rfl (rfC hC rfC_0_5 (nz (by decide))) ?_
    refine j_aload 1 dX10_fits_32 rfl ?_
    refine j_iload_n 4 dX10_fits_34 rfl ?_
    refine j_callV (kc := 0) (ks := 0) (a := 0) (b := 0) (d' := (d + 5)) (As := [.ref (109 + 2 * k), .int (nI m)]) dX10_fits_35 kX10_305 rfl (shC hC sgC_96) (by omega) rfl rfl rfl (Nat.le_of_ble_eq_true rfl) (Nat.le_of_ble_eq_true rfl) (K_look cv ok (by omega) m hm) (kk_ev (fun M2 hM3 => ?_))
    obtain ⟨h05, ha6, hsw⟩ := hM3
    have sm4 : Sm PSc M M2 := Sm.mo h05 PSe.Sc
    refine j_iload_n 5 dX10_fits_38 rfl ?_
    refine j_iconst (-1) dX10_fits_39 ic_n1 ?_
    refine j_icmp_ne (tgt := 51) dX10_fits_40 rfl (fun c7 => ?_) (fun c7 => ?_)
    · refine j_aload_n 2 dX10_fits_51 rfl ?_
      refine j_getr (q := 96) dX10_fits_52 fX10_45 (shC (Sm.C sm4 hC) sgC_0) rfl (rfC (Sm.C sm4 hC) rfC_0_5 (nz (by decide))) ?_
      refine j_iload_n 5 dX10_fits_55 rfl ?_
      refine j_callV (kc := 0) (ks := 0) (a := 0) (b := 0) (d' := d) (As := [.int (nI i)]) dX10_fits_56 kX10_312 rfl (shC (Sm.C sm4 hC) sgC_96) (by omega) rfl rfl rfl (Nat.le_of_ble_eq_true rfl) (Nat.le_of_ble_eq_true rfl) (T_X7_fitting (Sm.C sm4 hC) hsw ft_len i hi) (kk_p ?_)
      refine j_istore (L' := [(6, .int (nI ((ftK Z m k).getD i 0))), (5, .int (prS Z.1 (tlK Z k) m)), (4, .ref (109 + 2 * k)), (0, .ref 0), (1, .int (nI k)), (2, .int (nI m)), (3, .int (nI i))]) dX10_fits_59 (by decide) rfl ?_
      refine j_iload 0 dX10_fits_61 rfl ?_
      refine j_iconst (-1) dX10_fits_63 ic_n1 ?_
      refine j_icmp_ne (tgt := 76) dX10_fits_64 rfl (fun c8 => ?_) (fun c8 => ?_)
      · refine j_iload 0 dX10_fits_76 rfl ?_
        refine j_iret dX10_fits_78 rfl ?_
        have hz : fitsK Z (nI m) (nI i) k = ((nI ((ftK Z m k).getD i 0)), Z) := by
          clear hQ
          clear cv hC hS
          have hi2 := i_ok hi (show (ftK Z m k).length < 2 ^ 31 by have := ft_len (Z := Z) (m := m) (k := k); omega)
          have hcl2 := nI_clamp (show i < 2 ^ 31 by have := ft_len (Z := Z) (m := m) (k := k); omega)
          have hcl := nI_clamp (show m < 2 ^ 31 by omega)
          have h6 := prS_01 (S := Z.1) (tl := tlK Z k) (n := m)
          grind [fitsK, cif]
        exact hQ _ _ ⟨by rw [hz], by rw [hz]; exact CV.sc cv ok (Sm.g sm4)⟩
      · exact absurd c8 hn2
    · exact absurd c7 hn1
  · refine j_aload_n 2 dX10_fits_21 rfl ?_
    refine j_iload 0 dX10_fits_22 rfl ?_
    refine j_topi (-6) (prS_01.resolve_left c1) ?_
    refine j_callV (kc := 0) (ks := 0) (a := 0) (b := 0) (d' := d) (As := [.int (-6)]) dX10_fits_24 kX10_93 rfl (shC hC sgC_0) (by omega) rfl rfl rfl (Nat.le_of_ble_eq_true rfl) (Nat.le_of_ble_eq_true rfl) (T_X10_refuse hC (-6)) (kk_p ?_)
    refine j_iret dX10_fits_27 rfl ?_
    have hz : fitsK Z (nI m) (nI i) k = ((-6), (refZ Z (-6))) := by
      clear hQ
      clear cv hC hS
      have hi2 := i_ok hi (show (ftK Z m k).length < 2 ^ 31 by have := ft_len (Z := Z) (m := m) (k := k); omega)
      have hcl2 := nI_clamp (show i < 2 ^ 31 by have := ft_len (Z := Z) (m := m) (k := k); omega)
      have hcl := nI_clamp (show m < 2 ^ 31 by omega)
      have h6 := prS_01 (S := Z.1) (tl := tlK Z k) (n := m)
      grind [fitsK, cif]
    exact hQ _ _ ⟨by rw [hz], by rw [hz]; exact CV.rf cv ok (-6)⟩
set_option maxRecDepth 20000 in
set_option maxHeartbeats 4000000 in
theorem P_fits3 {d : Nat} {M : jk_M} {Z : ZS} (cv : CV M Z) (ok : Zok Z) (k : Nat) (hk : k < 8) (m : Nat) (hm : m ≤ 40) (h0 : tdK Z k (nI m) 2 = 0) (i : Int32) (h1 : ¬ i = -1) (hx : ¬ (0 ≤ i ∧ i < nI (ftK Z m k).length)) : J Fr_X10_fits (d + 6) 0 0 0 [(0, .ref 0), (1, .int (nI k)), (2, .int (nI m)), (3, .int i)] [] M (jk_ex (some (.int (fitsK Z (nI m) i k).1)) (fun M1 => CV M1 (fitsK Z (nI m) i k).2)) := by
  refine j_post (fun Q hQ => ?_)
  have hC := cv.1
  have hS := cv.2.1
  have okS := ok.1
  refine j_aload_n 0 dX10_fits_0 rfl ?_
  refine j_iload_n 1 dX10_fits_1 rfl ?_
  refine j_callV (kc := 0) (ks := 0) (a := 0) (b := 0) (d' := d) (As := [.int (nI k)]) dX10_fits_2 kX10_89 rfl (shC hC sgC_0) (by omega) rfl rfl rfl (Nat.le_of_ble_eq_true rfl) (Nat.le_of_ble_eq_true rfl) (T_shelfAtY hC k (by omega)) (kk_p ?_)
  refine j_astore (L' := [(4, .ref (109 + 2 * k)), (0, .ref 0), (1, .int (nI k)), (2, .int (nI m)), (3, .int i)]) dX10_fits_5 (by decide) rfl ?_
  refine j_aload_n 1 dX10_fits_7 rfl ?_
  refine j_aload 0 dX10_fits_8 rfl ?_
  refine j_iload_n 3 dX10_fits_10 rfl ?_
  refine j_callV (kc := 0) (ks := 0) (a := 0) (b := 0) (d' := (d + 3)) (As := [.ref (109 + 2 * k), .int (nI m)]) dX10_fits_11 kX10_301 rfl (shC hC sgC_0) (by omega) rfl rfl rfl (Nat.le_of_ble_eq_true rfl) (Nat.le_of_ble_eq_true rfl) (K_pairs1 cv ok (by omega) m hm h0) (kk_p ?_)
  refine j_istore (L' := [(5, .int (prS Z.1 (tlK Z k) m)), (4, .ref (109 + 2 * k)), (0, .ref 0), (1, .int (nI k)), (2, .int (nI m)), (3, .int i)]) dX10_fits_14 (by decide) rfl ?_
  refine j_iload 0 dX10_fits_16 rfl ?_
  refine j_if_eq (tgt := 28) dX10_fits_18 rfl (fun c1 => ?_) (fun c1 => ?_)
  · refine j_aload_n 2 dX10_fits_28 rfl ?_
    refine j_getr (q := 96) dX10_fits_29 fX10_45 (shC hC sgC_0) rfl (rfC hC rfC_0_5 (nz (by decide))) ?_
    refine j_aload 1 dX10_fits_32 rfl ?_
    refine j_iload_n 4 dX10_fits_34 rfl ?_
    refine j_callV (kc := 0) (ks := 0) (a := 0) (b := 0) (d' := (d + 5)) (As := [.ref (109 + 2 * k), .int (nI m)]) dX10_fits_35 kX10_305 rfl (shC hC sgC_96) (by omega) rfl rfl rfl (Nat.le_of_ble_eq_true rfl) (Nat.le_of_ble_eq_true rfl) (K_look cv ok (by omega) m hm) (kk_ev (fun M2 hM3 => ?_))
    obtain ⟨h05, ha6, hsw⟩ := hM3
    have sm4 : Sm PSc M M2 := Sm.mo h05 PSe.Sc
    refine j_iload_n 5 dX10_fits_38 rfl ?_
    refine j_iconst (-1) dX10_fits_39 ic_n1 ?_
    refine j_icmp_ne (tgt := 51) dX10_fits_40 rfl (fun c7 => ?_) (fun c7 => ?_)
    · refine j_aload_n 2 dX10_fits_51 rfl ?_
      refine j_getr (q := 96) dX10_fits_52 fX10_45 (shC (Sm.C sm4 hC) sgC_0) rfl (rfC (Sm.C sm4 hC) rfC_0_5 (nz (by decide))) ?_
      refine j_iload_n 5 dX10_fits_55 rfl ?_
      refine j_callV (kc := 0) (ks := 0) (a := 0) (b := 0) (d' := d) (As := [.int i]) dX10_fits_56 kX10_312 rfl (shC (Sm.C sm4 hC) sgC_96) (by omega) rfl rfl rfl (Nat.le_of_ble_eq_true rfl) (Nat.le_of_ble_eq_true rfl) (T_X7_fittingN (Sm.C sm4 hC) hsw ft_len i hx) (kk_p ?_)
      refine j_istore (L' := [(6, .int (-1)), (5, .int (prS Z.1 (tlK Z k) m)), (4, .ref (109 + 2 * k)), (0, .ref 0), (1, .int (nI k)), (2, .int (nI m)), (3, .int i)]) dX10_fits_59 (by decide) rfl ?_
      refine j_iload 0 dX10_fits_61 rfl ?_
      refine j_iconst (-1) dX10_fits_63 ic_n1 ?_
      refine j_icmp_ne (tgt := 76) dX10_fits_64 rfl (fun c8 => ?_) (fun c8 => ?_)
      · exact absurd c8 (by decide)
      · refine j_aload_n 3 dX10_fits_67 rfl ?_
        refine j_bipush (-5) dX10_fits_68 bp_n5 ?_
        refine j_callV (kc := 0) (ks := 0) (a := 0) (b := 0) (d' := d) (As := [.int (-5)]) dX10_fits_70 kX10_93 rfl (shC (Sm.C sm4 hC) sgC_0) (by omega) rfl rfl rfl (Nat.le_of_ble_eq_true rfl) (Nat.le_of_ble_eq_true rfl) (T_X10_refuse (Sm.C sm4 hC) (-5)) (kk_p ?_)
        refine j_goto (tgt := 78) dX10_fits_73 rfl ?_
        refine j_iret dX10_fits_78 rfl ?_
        have hz : fitsK Z (nI m) i k = ((-5), (refZ Z (-5))) := by
          clear hQ
          clear cv hC hS
          have hcl := nI_clamp (show m < 2 ^ 31 by omega)
          have h6 := prS_01 (S := Z.1) (tl := tlK Z k) (n := m)
          grind [fitsK, cif]
        exact hQ _ _ ⟨by rw [hz], by rw [hz]; exact CV.rf (CV.sc cv ok (Sm.g sm4)) ok (-5)⟩
    · exact absurd c7 h1
  · refine j_aload_n 2 dX10_fits_21 rfl ?_
    refine j_iload 0 dX10_fits_22 rfl ?_
    refine j_topi (-6) (prS_01.resolve_left c1) ?_
    refine j_callV (kc := 0) (ks := 0) (a := 0) (b := 0) (d' := d) (As := [.int (-6)]) dX10_fits_24 kX10_93 rfl (shC hC sgC_0) (by omega) rfl rfl rfl (Nat.le_of_ble_eq_true rfl) (Nat.le_of_ble_eq_true rfl) (T_X10_refuse hC (-6)) (kk_p ?_)
    refine j_iret dX10_fits_27 rfl ?_
    have hz : fitsK Z (nI m) i k = ((-6), (refZ Z (-6))) := by
      clear hQ
      clear cv hC hS
      have hcl := nI_clamp (show m < 2 ^ 31 by omega)
      have h6 := prS_01 (S := Z.1) (tl := tlK Z k) (n := m)
      grind [fitsK, cif]
    exact hQ _ _ ⟨by rw [hz], by rw [hz]; exact CV.rf cv ok (-6)⟩
set_option maxRecDepth 20000 in
set_option maxHeartbeats 4000000 in
theorem P_fitsN {d : Nat} {M : jk_M} {Z : ZS} (cv : CV M Z) (ok : Zok Z) (s n i : Int32) (hs : ¬ (0 ≤ s ∧ s < 8)) : J Fr_X10_fits (d + 6) 0 0 0 [(0, .ref 0), (1, .int s), (2, .int n), (3, .int i)] [] M (jk_ex (some (.int ((((-1) : Int32), refZ Z (-1))).1)) (fun M1 => CV M1 ((((-1) : Int32), refZ Z (-1))).2)) := by
  refine j_post (fun Q hQ => ?_)
  have hC := cv.1
  have hS := cv.2.1
  have okS := ok.1
  refine j_aload_n 0 dX10_fits_0 rfl ?_
  refine j_iload_n 1 dX10_fits_1 rfl ?_
  refine j_callV (kc := 0) (ks := 0) (a := 0) (b := 0) (d' := d) (As := [.int s]) dX10_fits_2 kX10_89 rfl (shC hC sgC_0) (by omega) rfl rfl rfl (Nat.le_of_ble_eq_true rfl) (Nat.le_of_ble_eq_true rfl) (T_shelfAtN hC s (by assumption)) (kk_p ?_)
  refine j_astoreN (L' := [(4, .null), (0, .ref 0), (1, .int s), (2, .int n), (3, .int i)]) dX10_fits_5 (by decide) rfl ?_
  refine j_aload_n 1 dX10_fits_7 rfl ?_
  refine j_aloadN 0 dX10_fits_8 rfl ?_
  refine j_iload_n 3 dX10_fits_10 rfl ?_
  refine j_callV (kc := 0) (ks := 0) (a := 0) (b := 0) (d' := (d + 3)) (As := [.null, .int n]) dX10_fits_11 kX10_301 rfl (shC hC sgC_0) (by omega) rfl rfl rfl (Nat.le_of_ble_eq_true rfl) (Nat.le_of_ble_eq_true rfl) (T_pairsRefusalN (S := Z.1) n) (kk_p ?_)
  refine j_istore (L' := [(5, .int (-1)), (4, .null), (0, .ref 0), (1, .int s), (2, .int n), (3, .int i)]) dX10_fits_14 (by decide) rfl ?_
  refine j_iload 0 dX10_fits_16 rfl ?_
  refine j_if_eq (tgt := 28) dX10_fits_18 rfl (fun c1 => ?_) (fun c1 => ?_)
  · exact absurd c1 (by decide)
  · refine j_aload_n 2 dX10_fits_21 rfl ?_
    refine j_iload 0 dX10_fits_22 rfl ?_
    refine j_callV (kc := 0) (ks := 0) (a := 0) (b := 0) (d' := d) (As := [.int (-1)]) dX10_fits_24 kX10_93 rfl (shC hC sgC_0) (by omega) rfl rfl rfl (Nat.le_of_ble_eq_true rfl) (Nat.le_of_ble_eq_true rfl) (T_X10_refuse hC (-1)) (kk_p ?_)
    refine j_iret dX10_fits_27 rfl ?_
    exact hQ _ _ ⟨rfl, CV.rf cv ok (-1)⟩
theorem P_fits {d : Nat} {M : jk_M} {Z : ZS} (cv : CV M Z) (ok : Zok Z) (s n i : Int32) : J Fr_X10_fits (d + 6) 0 0 0 [(0, .ref 0), (1, .int s), (2, .int n), (3, .int i)] [] M (jk_ex (some (.int (fitsZ Z s n i).1)) (fun M1 => CV M1 (fitsZ Z s n i).2)) := by
  by_cases h : 0 ≤ s ∧ s < 8
  · obtain ⟨k, hk, rfl⟩ := s_in h
    rw [fitsZ, inS_y hk]
    by_cases h0 : tdK Z k n 2 = 0
    · obtain ⟨m, hm, rfl⟩ := td_n h0
      by_cases h1 : i = -1
      · subst h1; exact P_fits1 cv ok k hk m hm h0
      · by_cases h2 : 0 ≤ i ∧ i < nI (ftK Z m k).length
        · obtain ⟨j, hj, rfl⟩ := i_in (by have := ft_len (Z := Z) (m := m) (k := k); omega) h2
          exact P_fits2 cv ok k hk m hm h0 j hj
        · exact P_fits3 cv ok k hk m hm h0 i h1 h2
    · exact P_fits0 cv ok k hk n i h0
  · rw [fitsZ, inS_n h]; exact P_fitsN cv ok s n i h
set_option maxRecDepth 20000 in
set_option maxHeartbeats 4000000 in
theorem P_next0 {d : Nat} {M : jk_M} {Z : ZS} (cv : CV M Z) (ok : Zok Z) (k : Nat) (hk : k < 8) (n : Int32) (h0 : ¬ tdK Z k n 2 = 0) : J Fr_X10_next (d + 6) 0 0 0 [(0, .ref 0), (1, .int (nI k)), (2, .int n)] [] M (jk_ex (some (.int (nextK Z n k).1)) (fun M1 => CV M1 (nextK Z n k).2)) := by
  refine j_post (fun Q hQ => ?_)
  have hC := cv.1
  have hS := cv.2.1
  have okS := ok.1
  refine j_aload_n 0 dX10_next_0 rfl ?_
  refine j_iload_n 1 dX10_next_1 rfl ?_
  refine j_callV (kc := 0) (ks := 0) (a := 0) (b := 0) (d' := d) (As := [.int (nI k)]) dX10_next_2 kX10_89 rfl (shC hC sgC_0) (by omega) rfl rfl rfl (Nat.le_of_ble_eq_true rfl) (Nat.le_of_ble_eq_true rfl) (T_shelfAtY hC k (by omega)) (kk_p ?_)
  refine j_astore_n (L' := [(3, .ref (109 + 2 * k)), (0, .ref 0), (1, .int (nI k)), (2, .int n)]) dX10_next_5 (by decide) rfl ?_
  refine j_aload_n 1 dX10_next_6 rfl ?_
  refine j_aload_n 0 dX10_next_7 rfl ?_
  refine j_iload_n 3 dX10_next_8 rfl ?_
  refine j_callV (kc := 0) (ks := 0) (a := 0) (b := 0) (d' := (d + 3)) (As := [.ref (109 + 2 * k), .int n]) dX10_next_9 kX10_301 rfl (shC hC sgC_0) (by omega) rfl rfl rfl (Nat.le_of_ble_eq_true rfl) (Nat.le_of_ble_eq_true rfl) (K_pairs0 cv ok (by omega) n h0) (kk_p ?_)
  refine j_istore (L' := [(4, .int (tdK Z k n 2)), (3, .ref (109 + 2 * k)), (0, .ref 0), (1, .int (nI k)), (2, .int n)]) dX10_next_12 (by decide) rfl ?_
  refine j_iload 0 dX10_next_14 rfl ?_
  refine j_if_eq (tgt := 29) dX10_next_16 rfl (fun c1 => ?_) (fun c1 => ?_)
  · exact absurd c1 h0
  · refine j_aload_n 2 dX10_next_19 rfl ?_
    refine j_iload 0 dX10_next_20 rfl ?_
    refine j_callV (kc := 0) (ks := 0) (a := 0) (b := 0) (d' := d) (As := [.int (tdK Z k n 2)]) dX10_next_22 kX10_93 rfl (shC hC sgC_0) (by omega) rfl rfl rfl (Nat.le_of_ble_eq_true rfl) (Nat.le_of_ble_eq_true rfl) (T_X10_refuse hC (tdK Z k n 2)) (kk_p ?_)
    refine j_bipush (-10) dX10_next_25 bp_n10 ?_
    refine j_iadd dX10_next_27 ?_
    refine j_iret dX10_next_28 rfl ?_
    have hz : nextK Z n k = (((tdK Z k n 2) + (-10)), (refZ Z (tdK Z k n 2))) := by
      clear hQ
      clear cv hC hS
      grind [nextK, cif]
    exact hQ _ _ ⟨by rw [hz], by rw [hz]; exact CV.rf cv ok (tdK Z k n 2)⟩
set_option maxRecDepth 20000 in
set_option maxHeartbeats 4000000 in
theorem P_next1 {d : Nat} {M : jk_M} {Z : ZS} (cv : CV M Z) (ok : Zok Z) (k : Nat) (hk : k < 8) (m : Nat) (hm : m ≤ 40) (h0 : tdK Z k (nI m) 2 = 0) : J Fr_X10_next (d + 6) 0 0 0 [(0, .ref 0), (1, .int (nI k)), (2, .int (nI m))] [] M (jk_ex (some (.int (nextK Z (nI m) k).1)) (fun M1 => CV M1 (nextK Z (nI m) k).2)) := by
  refine j_post (fun Q hQ => ?_)
  have hC := cv.1
  have hS := cv.2.1
  have okS := ok.1
  have hl80 := ft_len (Z := Z) (m := m) (k := k)
  refine j_aload_n 0 dX10_next_0 rfl ?_
  refine j_iload_n 1 dX10_next_1 rfl ?_
  refine j_callV (kc := 0) (ks := 0) (a := 0) (b := 0) (d' := d) (As := [.int (nI k)]) dX10_next_2 kX10_89 rfl (shC hC sgC_0) (by omega) rfl rfl rfl (Nat.le_of_ble_eq_true rfl) (Nat.le_of_ble_eq_true rfl) (T_shelfAtY hC k (by omega)) (kk_p ?_)
  refine j_astore_n (L' := [(3, .ref (109 + 2 * k)), (0, .ref 0), (1, .int (nI k)), (2, .int (nI m))]) dX10_next_5 (by decide) rfl ?_
  refine j_aload_n 1 dX10_next_6 rfl ?_
  refine j_aload_n 0 dX10_next_7 rfl ?_
  refine j_iload_n 3 dX10_next_8 rfl ?_
  refine j_callV (kc := 0) (ks := 0) (a := 0) (b := 0) (d' := (d + 3)) (As := [.ref (109 + 2 * k), .int (nI m)]) dX10_next_9 kX10_301 rfl (shC hC sgC_0) (by omega) rfl rfl rfl (Nat.le_of_ble_eq_true rfl) (Nat.le_of_ble_eq_true rfl) (K_pairs1 cv ok (by omega) m hm h0) (kk_p ?_)
  refine j_istore (L' := [(4, .int (prS Z.1 (tlK Z k) m)), (3, .ref (109 + 2 * k)), (0, .ref 0), (1, .int (nI k)), (2, .int (nI m))]) dX10_next_12 (by decide) rfl ?_
  refine j_iload 0 dX10_next_14 rfl ?_
  refine j_if_eq (tgt := 29) dX10_next_16 rfl (fun c1 => ?_) (fun c1 => ?_)
  · refine j_aload_n 2 dX10_next_29 rfl ?_
    refine j_getr (q := 96) dX10_next_30 fX10_45 (shC hC sgC_0) rfl (rfC hC rfC_0_5 (nz (by decide))) ?_
    refine j_aload_n 1 dX10_next_33 rfl ?_
    refine j_iload_n 4 dX10_next_34 rfl ?_
    refine j_callV (kc := 0) (ks := 0) (a := 0) (b := 0) (d' := (d + 5)) (As := [.ref (109 + 2 * k), .int (nI m)]) dX10_next_35 kX10_305 rfl (shC hC sgC_96) (by omega) rfl rfl rfl (Nat.le_of_ble_eq_true rfl) (Nat.le_of_ble_eq_true rfl) (K_look cv ok (by omega) m hm) (kk_ev (fun M2 hM3 => ?_))
    obtain ⟨h05, ha6, hsw⟩ := hM3
    have sm4 : Sm PSc M M2 := Sm.mo h05 PSe.Sc
    refine j_aload_n 2 dX10_next_38 rfl ?_
    refine j_getr (q := 96) dX10_next_39 fX10_45 (shC (Sm.C sm4 hC) sgC_0) rfl (rfC (Sm.C sm4 hC) rfC_0_5 (nz (by decide))) ?_
    refine j_getv (nI (ftK Z m k).length) dX10_next_42 fX10_309 (shC (Sm.C sm4 hC) sgC_96) rfl hsw.1 ?_
    refine j_iconst 2 dX10_next_45 ic_2 ?_
    refine j_icmp_geN (tgt := 53) ((ftK Z m k).length) 2 dX10_next_46 rfl (by omega) (by omega) (fun c7 => ?_) (fun c7 => ?_)
    · refine j_aload_n 2 dX10_next_53 rfl ?_
      refine j_getr (q := 96) dX10_next_54 fX10_45 (shC (Sm.C sm4 hC) sgC_0) rfl (rfC (Sm.C sm4 hC) rfC_0_5 (nz (by decide))) ?_
      refine j_callV (kc := 0) (ks := 0) (a := 0) (b := 0) (d' := (d + 5)) (As := []) dX10_next_57 kX10_315 rfl (shC (Sm.C sm4 hC) sgC_96) (by omega) rfl rfl rfl (Nat.le_of_ble_eq_true rfl) (Nat.le_of_ble_eq_true rfl) (T_X7_bestMeasure (Sm.C sm4 hC) (Sm.hv sm4 hS okS PScH) okS ha6 hsw ft_len) (kk_e (fun M8 hM9 => ?_))
      have sm10 : Sm PSc M M8 := Sm.tr sm4 (Sm.mo hM9 PSe.Sc)
      refine j_iret dX10_next_60 rfl ?_
      have hz : nextK Z (nI m) k = ((bmS Z.1 (ftK Z m k) 80).1, Z) := by
        clear hQ
        clear cv hC hS
        have hcl := nI_clamp (show m < 2 ^ 31 by omega)
        have h6 := prS_01 (S := Z.1) (tl := tlK Z k) (n := m)
        grind [nextK, cif]
      exact hQ _ _ ⟨by rw [hz], by rw [hz]; exact CV.sc cv ok (Sm.g sm10)⟩
    · refine j_iconst (-1) dX10_next_49 ic_n1 ?_
      refine j_goto (tgt := 60) dX10_next_50 rfl ?_
      refine j_iret dX10_next_60 rfl ?_
      have hz : nextK Z (nI m) k = ((-1), Z) := by
        clear hQ
        clear cv hC hS
        have hcl := nI_clamp (show m < 2 ^ 31 by omega)
        have h6 := prS_01 (S := Z.1) (tl := tlK Z k) (n := m)
        grind [nextK, cif]
      exact hQ _ _ ⟨by rw [hz], by rw [hz]; exact CV.sc cv ok (Sm.g sm4)⟩
  · refine j_aload_n 2 dX10_next_19 rfl ?_
    refine j_iload 0 dX10_next_20 rfl ?_
    refine j_topi (-6) (prS_01.resolve_left c1) ?_
    refine j_callV (kc := 0) (ks := 0) (a := 0) (b := 0) (d' := d) (As := [.int (-6)]) dX10_next_22 kX10_93 rfl (shC hC sgC_0) (by omega) rfl rfl rfl (Nat.le_of_ble_eq_true rfl) (Nat.le_of_ble_eq_true rfl) (T_X10_refuse hC (-6)) (kk_p ?_)
    refine j_bipush (-10) dX10_next_25 bp_n10 ?_
    refine j_iadd dX10_next_27 ?_
    refine j_topi (-16) (by decide) ?_
    refine j_iret dX10_next_28 rfl ?_
    have hz : nextK Z (nI m) k = ((-16), (refZ Z (-6))) := by
      clear hQ
      clear cv hC hS
      have hcl := nI_clamp (show m < 2 ^ 31 by omega)
      have h6 := prS_01 (S := Z.1) (tl := tlK Z k) (n := m)
      grind [nextK, cif]
    exact hQ _ _ ⟨by rw [hz], by rw [hz]; exact CV.rf cv ok (-6)⟩
set_option maxRecDepth 20000 in
set_option maxHeartbeats 4000000 in
theorem P_nextN {d : Nat} {M : jk_M} {Z : ZS} (cv : CV M Z) (ok : Zok Z) (s n : Int32) (hs : ¬ (0 ≤ s ∧ s < 8)) : J Fr_X10_next (d + 6) 0 0 0 [(0, .ref 0), (1, .int s), (2, .int n)] [] M (jk_ex (some (.int ((((-11) : Int32), refZ Z (-1))).1)) (fun M1 => CV M1 ((((-11) : Int32), refZ Z (-1))).2)) := by
  refine j_post (fun Q hQ => ?_)
  have hC := cv.1
  have hS := cv.2.1
  have okS := ok.1
  refine j_aload_n 0 dX10_next_0 rfl ?_
  refine j_iload_n 1 dX10_next_1 rfl ?_
  refine j_callV (kc := 0) (ks := 0) (a := 0) (b := 0) (d' := d) (As := [.int s]) dX10_next_2 kX10_89 rfl (shC hC sgC_0) (by omega) rfl rfl rfl (Nat.le_of_ble_eq_true rfl) (Nat.le_of_ble_eq_true rfl) (T_shelfAtN hC s (by assumption)) (kk_p ?_)
  refine j_astore_nN (L' := [(3, .null), (0, .ref 0), (1, .int s), (2, .int n)]) dX10_next_5 (by decide) rfl ?_
  refine j_aload_n 1 dX10_next_6 rfl ?_
  refine j_aload_nN 0 dX10_next_7 rfl ?_
  refine j_iload_n 3 dX10_next_8 rfl ?_
  refine j_callV (kc := 0) (ks := 0) (a := 0) (b := 0) (d' := (d + 3)) (As := [.null, .int n]) dX10_next_9 kX10_301 rfl (shC hC sgC_0) (by omega) rfl rfl rfl (Nat.le_of_ble_eq_true rfl) (Nat.le_of_ble_eq_true rfl) (T_pairsRefusalN (S := Z.1) n) (kk_p ?_)
  refine j_istore (L' := [(4, .int (-1)), (3, .null), (0, .ref 0), (1, .int s), (2, .int n)]) dX10_next_12 (by decide) rfl ?_
  refine j_iload 0 dX10_next_14 rfl ?_
  refine j_if_eq (tgt := 29) dX10_next_16 rfl (fun c1 => ?_) (fun c1 => ?_)
  · exact absurd c1 (by decide)
  · refine j_aload_n 2 dX10_next_19 rfl ?_
    refine j_iload 0 dX10_next_20 rfl ?_
    refine j_callV (kc := 0) (ks := 0) (a := 0) (b := 0) (d' := d) (As := [.int (-1)]) dX10_next_22 kX10_93 rfl (shC hC sgC_0) (by omega) rfl rfl rfl (Nat.le_of_ble_eq_true rfl) (Nat.le_of_ble_eq_true rfl) (T_X10_refuse hC (-1)) (kk_p ?_)
    refine j_bipush (-10) dX10_next_25 bp_n10 ?_
    refine j_iadd dX10_next_27 ?_
    refine j_topi (-11) (by decide) ?_
    refine j_iret dX10_next_28 rfl ?_
    exact hQ _ _ ⟨rfl, CV.rf cv ok (-1)⟩
theorem P_next {d : Nat} {M : jk_M} {Z : ZS} (cv : CV M Z) (ok : Zok Z) (s n : Int32) : J Fr_X10_next (d + 6) 0 0 0 [(0, .ref 0), (1, .int s), (2, .int n)] [] M (jk_ex (some (.int (nextZ Z s n).1)) (fun M1 => CV M1 (nextZ Z s n).2)) := by
  by_cases h : 0 ≤ s ∧ s < 8
  · obtain ⟨k, hk, rfl⟩ := s_in h
    rw [nextZ, inS_y hk]
    by_cases h0 : tdK Z k n 2 = 0
    · obtain ⟨m, hm, rfl⟩ := td_n h0
      exact P_next1 cv ok k hk m hm h0
    · exact P_next0 cv ok k hk n h0
  · rw [nextZ, inS_n h]; exact P_nextN cv ok s n h
