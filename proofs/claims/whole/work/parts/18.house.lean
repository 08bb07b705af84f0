theorem upS_s {S : HS} {b i : Nat} {x : Int32} : upS S b i x b i = x := by simp [upS]
theorem upS_n {S : HS} {b i b2 i2 : Nat} {x : Int32} (h : ¬ (b2 = b ∧ i2 = i)) : upS S b i x b2 i2 = S b2 i2 := by simp [upS, h]
theorem hv_sc {M : jk_M} {h k : Nat} {S : HS} {x : Int32} (hS : hv M.2.1 h = S) (ok : Sok S) (hk : k < 10) (h7 : k ≠ 7) (h8 : k ≠ 8) (h9 : k ≠ 9) : hv (jk_wI M h k x).2.1 h = upS S k 0 x := by
  obtain ⟨z1, z2, z3, z4, z5⟩ := hv_Hz hS
  have c7 : nT (upS S k 0 x) = nT S := by simp only [nT]; rw [upS_n (by omega)]
  have c8 : nN (upS S k 0 x) = nN S := by simp only [nN]; rw [upS_n (by omega)]
  have c9 : nD (upS S k 0 x) = nD S := by simp only [nD]; rw [upS_n (by omega)]
  obtain ⟨k1, k2, k3⟩ := ok.cn
  refine hv_of (fun b hb => ?_) (fun b i hb hi => ?_) (fun b i hb hi => ?_) (fun b i hb hi => ?_) (fun b i hb hi => ?_) (fun b i hb hi => ?_) (fun b i hb hi => ?_) (fun b i hb hi => ?_) (fun b i hb => ?_)
  · by_cases e : b = k
    · subst e; rw [rd_s, upS_s]
    · rw [rd_k e, upS_n (by omega), hvs hS hb]
  · rw [upS_n (by omega)]; exact z1 b i hb hi
  · rw [c7] at hi; rw [rd_o (by omega), upS_n (by omega), hvT hS hi hb]
  · rw [c7] at hi; rw [upS_n (by omega)]; exact z2 b i hb hi
  · rw [c8] at hi; rw [rd_o (by omega), upS_n (by omega), hvN hS hi hb]
  · rw [c8] at hi; rw [upS_n (by omega)]; exact z3 b i hb hi
  · rw [c9] at hi; rw [rd_o (by omega), upS_n (by omega), hvD hS hi hb]
  · rw [c9] at hi; rw [upS_n (by omega)]; exact z4 b i hb hi
  · rw [upS_n (by omega)]; exact z5 b i hb
theorem hv_th {M : jk_M} {h k j : Nat} {S : HS} {x : Int32} (hS : hv M.2.1 h = S) (ok : Sok S) (hj : j < nT S) (hk : k < 4) : hv (jk_wI M (h + 5 + j) k x).2.1 h = upS S (10 + k) j x := by
  obtain ⟨z1, z2, z3, z4, z5⟩ := hv_Hz hS
  have c7 : nT (upS S (10 + k) j x) = nT S := by simp only [nT]; rw [upS_n (by omega)]
  have c8 : nN (upS S (10 + k) j x) = nN S := by simp only [nN]; rw [upS_n (by omega)]
  have c9 : nD (upS S (10 + k) j x) = nD S := by simp only [nD]; rw [upS_n (by omega)]
  obtain ⟨k1, k2, k3⟩ := ok.cn
  refine hv_of (fun b hb => ?_) (fun b i hb hi => ?_) (fun b i hb hi => ?_) (fun b i hb hi => ?_) (fun b i hb hi => ?_) (fun b i hb hi => ?_) (fun b i hb hi => ?_) (fun b i hb hi => ?_) (fun b i hb => ?_)
  · rw [rd_o (by omega), upS_n (by omega), hvs hS hb]
  · rw [upS_n (by omega)]; exact z1 b i hb hi
  · rw [c7] at hi
    by_cases e : b = k ∧ i = j
    · obtain ⟨rfl, rfl⟩ := e; rw [rd_s, upS_s]
    · rw [upS_n (by omega), ← hvT hS hi hb]
      by_cases e2 : i = j
      · subst e2; exact rd_k (by omega)
      · exact rd_o (by omega)
  · rw [c7] at hi; rw [upS_n (by omega)]; exact z2 b i hb hi
  · rw [c8] at hi; rw [rd_o (by omega), upS_n (by omega), hvN hS hi hb]
  · rw [c8] at hi; rw [upS_n (by omega)]; exact z3 b i hb hi
  · rw [c9] at hi; rw [rd_o (by omega), upS_n (by omega), hvD hS hi hb]
  · rw [c9] at hi; rw [upS_n (by omega)]; exact z4 b i hb hi
  · rw [upS_n (by omega)]; exact z5 b i hb
theorem hv_nb {M : jk_M} {h k j : Nat} {S : HS} {x : Int32} (hS : hv M.2.1 h = S) (ok : Sok S) (hj : j < nN S) (hk : k < 2) : hv (jk_wI M (h + 3 + k) j x).2.1 h = upS S (14 + k) j x := by
  obtain ⟨z1, z2, z3, z4, z5⟩ := hv_Hz hS
  have c7 : nT (upS S (14 + k) j x) = nT S := by simp only [nT]; rw [upS_n (by omega)]
  have c8 : nN (upS S (14 + k) j x) = nN S := by simp only [nN]; rw [upS_n (by omega)]
  have c9 : nD (upS S (14 + k) j x) = nD S := by simp only [nD]; rw [upS_n (by omega)]
  obtain ⟨k1, k2, k3⟩ := ok.cn
  refine hv_of (fun b hb => ?_) (fun b i hb hi => ?_) (fun b i hb hi => ?_) (fun b i hb hi => ?_) (fun b i hb hi => ?_) (fun b i hb hi => ?_) (fun b i hb hi => ?_) (fun b i hb hi => ?_) (fun b i hb => ?_)
  · rw [rd_o (by omega), upS_n (by omega), hvs hS hb]
  · rw [upS_n (by omega)]; exact z1 b i hb hi
  · rw [c7] at hi; rw [rd_o (by omega), upS_n (by omega), hvT hS hi hb]
  · rw [c7] at hi; rw [upS_n (by omega)]; exact z2 b i hb hi
  · rw [c8] at hi
    by_cases e : b = k ∧ i = j
    · obtain ⟨rfl, rfl⟩ := e; rw [rd_s, upS_s]
    · rw [upS_n (by omega), ← hvN hS hi hb]
      by_cases e2 : b = k
      · subst e2; exact rd_k (by omega)
      · exact rd_o (by omega)
  · rw [c8] at hi; rw [upS_n (by omega)]; exact z3 b i hb hi
  · rw [c9] at hi; rw [rd_o (by omega), upS_n (by omega), hvD hS hi hb]
  · rw [c9] at hi; rw [upS_n (by omega)]; exact z4 b i hb hi
  · rw [upS_n (by omega)]; exact z5 b i hb
theorem hv_de {M : jk_M} {h k j : Nat} {S : HS} {x : Int32} (hS : hv M.2.1 h = S) (ok : Sok S) (hj : j < nD S) (hk : k < 4) : hv (jk_wI M (h + 21 + j) k x).2.1 h = upS S (16 + k) j x := by
  obtain ⟨z1, z2, z3, z4, z5⟩ := hv_Hz hS
  have c7 : nT (upS S (16 + k) j x) = nT S := by simp only [nT]; rw [upS_n (by omega)]
  have c8 : nN (upS S (16 + k) j x) = nN S := by simp only [nN]; rw [upS_n (by omega)]
  have c9 : nD (upS S (16 + k) j x) = nD S := by simp only [nD]; rw [upS_n (by omega)]
  obtain ⟨k1, k2, k3⟩ := ok.cn
  refine hv_of (fun b hb => ?_) (fun b i hb hi => ?_) (fun b i hb hi => ?_) (fun b i hb hi => ?_) (fun b i hb hi => ?_) (fun b i hb hi => ?_) (fun b i hb hi => ?_) (fun b i hb hi => ?_) (fun b i hb => ?_)
  · rw [rd_o (by omega), upS_n (by omega), hvs hS hb]
  · rw [upS_n (by omega)]; exact z1 b i hb hi
  · rw [c7] at hi; rw [rd_o (by omega), upS_n (by omega), hvT hS hi hb]
  · rw [c7] at hi; rw [upS_n (by omega)]; exact z2 b i hb hi
  · rw [c8] at hi; rw [rd_o (by omega), upS_n (by omega), hvN hS hi hb]
  · rw [c8] at hi; rw [upS_n (by omega)]; exact z3 b i hb hi
  · rw [c9] at hi
    by_cases e : b = k ∧ i = j
    · obtain ⟨rfl, rfl⟩ := e; rw [rd_s, upS_s]
    · rw [upS_n (by omega), ← hvD hS hi hb]
      by_cases e2 : i = j
      · subst e2; exact rd_k (by omega)
      · exact rd_o (by omega)
  · rw [c9] at hi; rw [upS_n (by omega)]; exact z4 b i hb hi
  · rw [upS_n (by omega)]; exact z5 b i hb
theorem addTS_n {S : HS} {k a c : Int32} (h : nT S < 16) : nT (addTS S k a c) = nT S + 1 ∧ nN (addTS S k a c) = nN S ∧ nD (addTS S k a c) = nD S := by
  refine ⟨?_, by simp [nN, addTS], by simp [nD, addTS]⟩
  have : addTS S k a c 7 0 = nI (nT S + 1) := by simp [addTS]
  rw [nT, this, nI_clamp (by omega)]
theorem addNS_n {S : HS} {c n : Int32} (h : nN S < 8) : nN (addNS S c n) = nN S + 1 ∧ nT (addNS S c n) = nT S ∧ nD (addNS S c n) = nD S := by
  refine ⟨?_, by simp [nT, addNS], by simp [nD, addNS]⟩
  have : addNS S c n 8 0 = nI (nN S + 1) := by simp [addNS]
  rw [nN, this, nI_clamp (by omega)]
theorem addDS_n {S : HS} {c w v : Int32} (h : nD S < 6) : nD (addDS S c w v) = nD S + 1 ∧ nT (addDS S c w v) = nT S ∧ nN (addDS S c w v) = nN S := by
  refine ⟨?_, by simp [nT, addDS], by simp [nN, addDS]⟩
  have : addDS S c w v 9 0 = nI (nD S + 1) := by simp [addDS]
  rw [nD, this, nI_clamp (by omega)]
theorem addTS_o {S : HS} {k a c : Int32} {b i : Nat} (h : ¬ (b = 7 ∧ i = 0)) (h2 : ¬ (10 ≤ b ∧ b < 14 ∧ i = nT S)) : addTS S k a c b i = S b i := by simp only [addTS, h, h2, if_false]
theorem addNS_o {S : HS} {c n : Int32} {b i : Nat} (h : ¬ (b = 8 ∧ i = 0)) (h2 : ¬ (14 ≤ b ∧ b < 16 ∧ i = nN S)) : addNS S c n b i = S b i := by simp only [addNS, h, h2, if_false]
theorem addDS_o {S : HS} {c w v : Int32} {b i : Nat} (h : ¬ (b = 9 ∧ i = 0)) (h2 : ¬ (16 ≤ b ∧ b < 20 ∧ i = nD S)) : addDS S c w v b i = S b i := by simp only [addDS, h, h2, if_false]
theorem hv_addT {M : jk_M} {h : Nat} {S : HS} {k a c : Int32} (hS : hv M.2.1 h = S) (ok : Sok S) (h16 : nT S < 16) : hv (jk_w4 (jk_wI M h 7 (nI (nT S + 1))) (h + 5 + nT S) k a c 1).2.1 h = addTS S k a c := by
  obtain ⟨z1, z2, z3, z4, z5⟩ := hv_Hz hS
  obtain ⟨c7, c8, c9⟩ := addTS_n (k := k) (a := a) (c := c) h16
  obtain ⟨k1, k2, k3⟩ := ok.cn
  refine hv_of (fun b hb => ?_) (fun b i hb hi => ?_) (fun b i hb hi => ?_) (fun b i hb hi => ?_) (fun b i hb hi => ?_) (fun b i hb hi => ?_) (fun b i hb hi => ?_) (fun b i hb hi => ?_) (fun b i hb => ?_)
  · rw [jk_w4, rd_o (by omega), rd_o (by omega), rd_o (by omega), rd_o (by omega)]
    by_cases e : b = 7
    · subst e; rw [rd_s]; simp [addTS]
    · rw [rd_k e, addTS_o (by omega) (by omega), hvs hS hb]
  · rw [addTS_o (by omega) (by omega)]; exact z1 b i hb hi
  · rw [c7] at hi
    by_cases e : i = nT S
    · subst e
      rw [jk_w4]
      have hb4 : b = 0 ∨ b = 1 ∨ b = 2 ∨ b = 3 := by omega
      rcases hb4 with rfl | rfl | rfl | rfl
      · rw [rd_k (by omega), rd_k (by omega), rd_k (by omega), rd_s]; simp [addTS]
      · rw [rd_k (by omega), rd_k (by omega), rd_s]; simp [addTS]
      · rw [rd_k (by omega), rd_s]; simp [addTS]
      · rw [rd_s]; simp [addTS]
    · rw [jk_w4, rd_o (by omega), rd_o (by omega), rd_o (by omega), rd_o (by omega), rd_o (by omega), addTS_o (by omega) (by omega), hvT hS (by omega) hb]
  · rw [c7] at hi; rw [addTS_o (by omega) (by omega)]; exact z2 b i hb (by omega)
  · rw [c8] at hi; rw [jk_w4, rd_o (by omega), rd_o (by omega), rd_o (by omega), rd_o (by omega), rd_o (by omega), addTS_o (by omega) (by omega), hvN hS hi hb]
  · rw [c8] at hi; rw [addTS_o (by omega) (by omega)]; exact z3 b i hb hi
  · rw [c9] at hi; rw [jk_w4, rd_o (by omega), rd_o (by omega), rd_o (by omega), rd_o (by omega), rd_o (by omega), addTS_o (by omega) (by omega), hvD hS hi hb]
  · rw [c9] at hi; rw [addTS_o (by omega) (by omega)]; exact z4 b i hb hi
  · rw [addTS_o (by omega) (by omega)]; exact z5 b i hb
theorem hv_addD {M : jk_M} {h : Nat} {S : HS} {c w v : Int32} (hS : hv M.2.1 h = S) (ok : Sok S) (h6 : nD S < 6) : hv (jk_w4 (jk_wI M h 9 (nI (nD S + 1))) (h + 21 + nD S) c w v 0).2.1 h = addDS S c w v := by
  obtain ⟨z1, z2, z3, z4, z5⟩ := hv_Hz hS
  obtain ⟨c9, c7, c8⟩ := addDS_n (c := c) (w := w) (v := v) h6
  obtain ⟨k1, k2, k3⟩ := ok.cn
  refine hv_of (fun b hb => ?_) (fun b i hb hi => ?_) (fun b i hb hi => ?_) (fun b i hb hi => ?_) (fun b i hb hi => ?_) (fun b i hb hi => ?_) (fun b i hb hi => ?_) (fun b i hb hi => ?_) (fun b i hb => ?_)
  · rw [jk_w4, rd_o (by omega), rd_o (by omega), rd_o (by omega), rd_o (by omega)]
    by_cases e : b = 9
    · subst e; rw [rd_s]; simp [addDS]
    · rw [rd_k e, addDS_o (by omega) (by omega), hvs hS hb]
  · rw [addDS_o (by omega) (by omega)]; exact z1 b i hb hi
  · rw [c7] at hi; rw [jk_w4, rd_o (by omega), rd_o (by omega), rd_o (by omega), rd_o (by omega), rd_o (by omega), addDS_o (by omega) (by omega), hvT hS hi hb]
  · rw [c7] at hi; rw [addDS_o (by omega) (by omega)]; exact z2 b i hb hi
  · rw [c8] at hi; rw [jk_w4, rd_o (by omega), rd_o (by omega), rd_o (by omega), rd_o (by omega), rd_o (by omega), addDS_o (by omega) (by omega), hvN hS hi hb]
  · rw [c8] at hi; rw [addDS_o (by omega) (by omega)]; exact z3 b i hb hi
  · rw [c9] at hi
    by_cases e : i = nD S
    · subst e
      rw [jk_w4]
      have hb4 : b = 0 ∨ b = 1 ∨ b = 2 ∨ b = 3 := by omega
      rcases hb4 with rfl | rfl | rfl | rfl
      · rw [rd_k (by omega), rd_k (by omega), rd_k (by omega), rd_s]; simp [addDS]
      · rw [rd_k (by omega), rd_k (by omega), rd_s]; simp [addDS]
      · rw [rd_k (by omega), rd_s]; simp [addDS]
      · rw [rd_s]; simp [addDS]
    · rw [jk_w4, rd_o (by omega), rd_o (by omega), rd_o (by omega), rd_o (by omega), rd_o (by omega), addDS_o (by omega) (by omega), hvD hS (by omega) hb]
  · rw [c9] at hi; rw [addDS_o (by omega) (by omega)]; exact z4 b i hb (by omega)
  · rw [addDS_o (by omega) (by omega)]; exact z5 b i hb
theorem hv_addN {M : jk_M} {h : Nat} {S : HS} {c n : Int32} (hS : hv M.2.1 h = S) (ok : Sok S) (h8 : nN S < 8) : hv (jk_wI (jk_wI (jk_wI M (h + 3) (nN S) c) (h + 4) (nN S) n) h 8 (nI (nN S + 1))).2.1 h = addNS S c n := by
  obtain ⟨z1, z2, z3, z4, z5⟩ := hv_Hz hS
  obtain ⟨c8, c7, c9⟩ := addNS_n (c := c) (n := n) h8
  obtain ⟨k1, k2, k3⟩ := ok.cn
  refine hv_of (fun b hb => ?_) (fun b i hb hi => ?_) (fun b i hb hi => ?_) (fun b i hb hi => ?_) (fun b i hb hi => ?_) (fun b i hb hi => ?_) (fun b i hb hi => ?_) (fun b i hb hi => ?_) (fun b i hb => ?_)
  · by_cases e : b = 8
    · subst e; rw [rd_s]; simp [addNS]
    · rw [rd_k e, rd_o (by omega), rd_o (by omega), addNS_o (by omega) (by omega), hvs hS hb]
  · rw [addNS_o (by omega) (by omega)]; exact z1 b i hb hi
  · rw [c7] at hi; rw [rd_o (by omega), rd_o (by omega), rd_o (by omega), addNS_o (by omega) (by omega), hvT hS hi hb]
  · rw [c7] at hi; rw [addNS_o (by omega) (by omega)]; exact z2 b i hb hi
  · rw [c8] at hi
    have hb2 : b = 0 ∨ b = 1 := by omega
    by_cases e : i = nN S
    · subst e
      rcases hb2 with rfl | rfl
      · rw [rd_o (by omega), rd_o (by omega), rd_s]; simp [addNS]
      · rw [rd_o (by omega), rd_s]; simp [addNS]
    · rw [addNS_o (by omega) (by omega), ← hvN hS (by omega) hb]
      rcases hb2 with rfl | rfl
      · rw [rd_o (by omega), rd_o (by omega), rd_k e]
      · rw [rd_o (by omega), rd_k e, rd_o (by omega)]
  · rw [c8] at hi; rw [addNS_o (by omega) (by omega)]; exact z3 b i hb (by omega)
  · rw [c9] at hi; rw [rd_o (by omega), rd_o (by omega), rd_o (by omega), addNS_o (by omega) (by omega), hvD hS hi hb]
  · rw [c9] at hi; rw [addNS_o (by omega) (by omega)]; exact z4 b i hb hi
  · rw [addNS_o (by omega) (by omega)]; exact z5 b i hb
theorem HO0 {h k : Nat} (hk : k ≤ 26) : HO h (h + k) := ⟨by omega, by omega⟩
