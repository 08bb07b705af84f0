/-! houses carried, images, by the model -/
def kpO (k : Nat) : Nat := if k < 64 then 2 + k / 16 else if k < 80 then 6 + (k - 64) / 8 else if k < 104 then 8 + (k - 80) / 6 else if k < 106 then 12 else 0
def kpK (k : Nat) : Nat := if k < 64 then k % 16 else if k < 80 then (k - 64) % 8 else if k < 104 then (k - 80) % 6 else if k < 106 then k - 104 else k - 106
theorem kp_T {b i : Nat} (hb : b < 4) (hi : i < 16) : kpO (16 * b + i) = 2 + b ∧ kpK (16 * b + i) = i := by
  unfold kpO kpK
  constructor
  all_goals (repeat' split)
  all_goals omega
theorem kp_N {b i : Nat} (hb : b < 2) (hi : i < 8) : kpO (64 + 8 * b + i) = 6 + b ∧ kpK (64 + 8 * b + i) = i := by
  unfold kpO kpK
  constructor
  all_goals (repeat' split)
  all_goals omega
theorem kp_D {b i : Nat} (hb : b < 4) (hi : i < 6) : kpO (80 + 6 * b + i) = 8 + b ∧ kpK (80 + 6 * b + i) = i := by
  unfold kpO kpK
  constructor
  all_goals (repeat' split)
  all_goals omega
theorem kp_B {i : Nat} (hi : i < 2) : kpO (104 + i) = 12 ∧ kpK (104 + i) = i := by
  unfold kpO kpK
  constructor
  all_goals (repeat' split)
  all_goals omega
theorem kp_0 {i : Nat} : kpO (106 + i) = 0 ∧ kpK (106 + i) = i := by
  unfold kpO kpK
  constructor
  all_goals (repeat' split)
  all_goals omega
theorem kv_mv {g : Nat → Int32} {I : Nat → Nat → Int32} (h : ∀ k, k < 114 → g k = I (kpO k) (kpK k)) (hT : (g 106).toNatClampNeg ≤ 16) (hN : (g 107).toNatClampNeg ≤ 8) (hD : (g 108).toNatClampNeg ≤ 6) : kv g = mv I := by
  have e6 : g 106 = I 0 0 := h 106 (by decide)
  have e7 : g 107 = I 0 1 := h 107 (by decide)
  have e8 : g 108 = I 0 2 := h 108 (by decide)
  rw [e6] at hT
  rw [e7] at hN
  rw [e8] at hD
  funext a i
  simp only [kv, mv, e6, e7, e8]
  by_cases b1 : a < 10
  · simp only [b1, if_true]
    by_cases hi : i = 0
    · rw [if_pos hi, if_pos hi]
      have ha : a = 0 ∨ a = 1 ∨ a = 2 ∨ a = 3 ∨ a = 4 ∨ a = 5 ∨ a = 6 ∨ a = 7 ∨ a = 8 ∨ a = 9 := by omega
      rcases ha with rfl | rfl | rfl | rfl | rfl | rfl | rfl | rfl | rfl | rfl
      · exact h 109 (by decide)
      · exact h 110 (by decide)
      · exact h 111 (by decide)
      · exact h 112 (by decide)
      · exact h 113 (by decide)
      · exact h 104 (by decide)
      · exact h 105 (by decide)
      · exact h 106 (by decide)
      · exact h 107 (by decide)
      · exact h 108 (by decide)
    · rw [if_neg hi, if_neg hi]
  · simp only [b1, if_false]
    by_cases b2 : a < 14
    · simp only [b2, if_true]
      obtain ⟨b, rfl⟩ : ∃ b, a = 10 + b := ⟨a - 10, by omega⟩
      by_cases hi : i < (I 0 0).toNatClampNeg
      · obtain ⟨o1, o2⟩ := kp_T (b := b) (i := i) (by omega) (by omega)
        have q : kvo (10 + b) i = 16 * b + i := by
          unfold kvo; rw [if_neg (by omega), if_neg (by omega), if_neg (by omega), if_pos (by omega)]; omega
        rw [if_pos hi, if_pos hi, q, h _ (by omega), o1, o2, show 10 + b - 8 = 2 + b by omega]
      · rw [if_neg hi, if_neg hi]
    · simp only [b2, if_false]
      by_cases b3 : a < 16
      · simp only [b3, if_true]
        obtain ⟨b, rfl⟩ : ∃ b, a = 14 + b := ⟨a - 14, by omega⟩
        by_cases hi : i < (I 0 1).toNatClampNeg
        · obtain ⟨o1, o2⟩ := kp_N (b := b) (i := i) (by omega) (by omega)
          have q : kvo (14 + b) i = 64 + 8 * b + i := by
            unfold kvo; rw [if_neg (by omega), if_neg (by omega), if_neg (by omega), if_neg (by omega), if_pos (by omega)]; omega
          rw [if_pos hi, if_pos hi, q, h _ (by omega), o1, o2, show 14 + b - 8 = 6 + b by omega]
        · rw [if_neg hi, if_neg hi]
      · simp only [b3, if_false]
        by_cases b4 : a < 20
        · simp only [b4, if_true]
          obtain ⟨b, rfl⟩ : ∃ b, a = 16 + b := ⟨a - 16, by omega⟩
          by_cases hi : i < (I 0 2).toNatClampNeg
          · obtain ⟨o1, o2⟩ := kp_D (b := b) (i := i) (by omega) (by omega)
            have q : kvo (16 + b) i = 80 + 6 * b + i := by
              unfold kvo; rw [if_neg (by omega), if_neg (by omega), if_neg (by omega), if_neg (by omega), if_neg (by omega)]; omega
            rw [if_pos hi, if_pos hi, q, h _ (by omega), o1, o2, show 16 + b - 8 = 8 + b by omega]
          · rw [if_neg hi, if_neg hi]
        · simp only [b4, if_false]
theorem sv_step {M M1 M2 : jk_M} {f a n p : Nat} (sm : Fm (fun q _ => q = f) M M1) (ac : ∀ k, k < p → M1.2.1 f k = M.2.1 (kpO k) (kpK k)) (h0 : Fm (fun q k => q = f ∧ p ≤ k ∧ k < p + n) M1 M2) (he : ∀ i, i < n → M2.2.1 f (p + i) = M1.2.1 a i) (hne : a ≠ f) (hk : ∀ i, i < n → kpO (p + i) = a ∧ kpK (p + i) = i) : ∀ k, k < p + n → M2.2.1 f k = M.2.1 (kpO k) (kpK k) := by
  intro k h
  by_cases c : k < p
  · rw [h0.2.2 f k (fun z => by omega)]; exact ac k c
  · obtain ⟨i, rfl⟩ : ∃ i, k = p + i := ⟨k - p, by omega⟩
    have hi : i < n := by omega
    obtain ⟨e1, e2⟩ := hk i hi
    rw [he i hi, e1, e2]; exact sm.2.2 a i hne
theorem ld_step {M M1 M2 : jk_M} {f a n p : Nat} (hf : f = 22 ∨ f = 23) (sm : Fm PH M M1) (ac : ∀ k, k < p → M1.2.1 (kpO k) (kpK k) = M.2.1 f k) (h0 : Fm (fun q k => q = a ∧ k < n) M1 M2) (he : ∀ i, i < n → M2.2.1 a i = M1.2.1 f (p + i)) (hk : ∀ i, i < n → kpO (p + i) = a ∧ kpK (p + i) = i) (hl : ∀ k, k < p → kpO k ≠ a) : ∀ k, k < p + n → M2.2.1 (kpO k) (kpK k) = M.2.1 f k := by
  intro k h
  by_cases c : k < p
  · rw [h0.2.2 _ _ (fun z => hl k c z.1)]; exact ac k c
  · obtain ⟨i, rfl⟩ : ∃ i, k = p + i := ⟨k - p, by omega⟩
    have hi : i < n := by omega
    obtain ⟨e1, e2⟩ := hk i hi
    rw [e1, e2, he i hi]; exact sm.2.2 f _ (by unfold PH; omega)
theorem kp_lt {k : Nat} : kpO k ≤ 12 ∧ (k < 106 → 2 ≤ kpO k) := by
  unfold kpO
  repeat' split
  all_goals omega
theorem i8 {j : Nat} (h : j < 8) : j = 0 ∨ j = 1 ∨ j = 2 ∨ j = 3 ∨ j = 4 ∨ j = 5 ∨ j = 6 ∨ j = 7 := by omega
theorem sv_end {M M1 : jk_M} {f : Nat} (hf : f = 22 ∨ f = 23) (ac : ∀ k, k < 106 → M1.2.1 f k = M.2.1 (kpO k) (kpK k)) : ∀ k, k < 114 → ((jk_wI (jk_wI (jk_wI (jk_wI (jk_wI (jk_wI (jk_wI (jk_wI M1 f 106 (M.2.1 0 0)) f (106 + 1) (M.2.1 0 1)) f (106 + 2) (M.2.1 0 2)) f (106 + 3) (M.2.1 0 3)) f (106 + 4) (M.2.1 0 4)) f (106 + 5) (M.2.1 0 5)) f (106 + 6) (M.2.1 0 6)) f (106 + 7) (M.2.1 0 7))).2.1 f k = M.2.1 (kpO k) (kpK k) := by
  intro k h
  by_cases c : k < 106
  · rw [rd_k (by omega), rd_k (by omega), rd_k (by omega), rd_k (by omega), rd_k (by omega), rd_k (by omega), rd_k (by omega), rd_k (by omega)]; exact ac k c
  · obtain ⟨j, rfl⟩ : ∃ j, k = 106 + j := ⟨k - 106, by omega⟩
    obtain ⟨e1, e2⟩ := kp_0 (i := j)
    rw [e1, e2]
    rcases i8 (show j < 8 by omega) with rfl | rfl | rfl | rfl | rfl | rfl | rfl | rfl
    · exact ((rd_k (by omega)).trans ((rd_k (by omega)).trans ((rd_k (by omega)).trans ((rd_k (by omega)).trans ((rd_k (by omega)).trans ((rd_k (by omega)).trans ((rd_k (by omega)).trans (rd_s))))))))
    · exact ((rd_k (by omega)).trans ((rd_k (by omega)).trans ((rd_k (by omega)).trans ((rd_k (by omega)).trans ((rd_k (by omega)).trans ((rd_k (by omega)).trans (rd_s)))))))
    · exact ((rd_k (by omega)).trans ((rd_k (by omega)).trans ((rd_k (by omega)).trans ((rd_k (by omega)).trans ((rd_k (by omega)).trans (rd_s))))))
    · exact ((rd_k (by omega)).trans ((rd_k (by omega)).trans ((rd_k (by omega)).trans ((rd_k (by omega)).trans (rd_s)))))
    · exact ((rd_k (by omega)).trans ((rd_k (by omega)).trans ((rd_k (by omega)).trans (rd_s))))
    · exact ((rd_k (by omega)).trans ((rd_k (by omega)).trans (rd_s)))
    · exact ((rd_k (by omega)).trans (rd_s))
    · exact rd_s
theorem ld_end {M M1 : jk_M} {f : Nat} (ac : ∀ k, k < 106 → M1.2.1 (kpO k) (kpK k) = M.2.1 f k) : ∀ k, k < 114 → ((jk_wI (jk_wI (jk_wI (jk_wI (jk_wI (jk_wI (jk_wI (jk_wI M1 0 0 (M.2.1 f 106)) 0 1 (M.2.1 f (106 + 1))) 0 2 (M.2.1 f (106 + 2))) 0 3 (M.2.1 f (106 + 3))) 0 4 (M.2.1 f (106 + 4))) 0 5 (M.2.1 f (106 + 5))) 0 6 (M.2.1 f (106 + 6))) 0 7 (M.2.1 f (106 + 7)))).2.1 (kpO k) (kpK k) = M.2.1 f k := by
  intro k h
  by_cases c : k < 106
  · have hn : kpO k ≠ 0 := fun z => by have := kp_lt (k := k); omega
    rw [rd_o hn, rd_o hn, rd_o hn, rd_o hn, rd_o hn, rd_o hn, rd_o hn, rd_o hn]; exact ac k c
  · obtain ⟨j, rfl⟩ : ∃ j, k = 106 + j := ⟨k - 106, by omega⟩
    obtain ⟨e1, e2⟩ := kp_0 (i := j)
    rw [e1, e2]
    rcases i8 (show j < 8 by omega) with rfl | rfl | rfl | rfl | rfl | rfl | rfl | rfl
    · exact ((rd_k (by omega)).trans ((rd_k (by omega)).trans ((rd_k (by omega)).trans ((rd_k (by omega)).trans ((rd_k (by omega)).trans ((rd_k (by omega)).trans ((rd_k (by omega)).trans (rd_s))))))))
    · exact ((rd_k (by omega)).trans ((rd_k (by omega)).trans ((rd_k (by omega)).trans ((rd_k (by omega)).trans ((rd_k (by omega)).trans ((rd_k (by omega)).trans (rd_s)))))))
    · exact ((rd_k (by omega)).trans ((rd_k (by omega)).trans ((rd_k (by omega)).trans ((rd_k (by omega)).trans ((rd_k (by omega)).trans (rd_s))))))
    · exact ((rd_k (by omega)).trans ((rd_k (by omega)).trans ((rd_k (by omega)).trans ((rd_k (by omega)).trans (rd_s)))))
    · exact ((rd_k (by omega)).trans ((rd_k (by omega)).trans ((rd_k (by omega)).trans (rd_s))))
    · exact ((rd_k (by omega)).trans ((rd_k (by omega)).trans (rd_s)))
    · exact ((rd_k (by omega)).trans (rd_s))
    · exact rd_s
theorem kv_cn {g : Nat → Int32} {S : HS} (h : kv g = S) (ok : Sok S) : (g 106).toNatClampNeg ≤ 16 ∧ (g 107).toNatClampNeg ≤ 8 ∧ (g 108).toNatClampNeg ≤ 6 := by
  have h1 := ok.T.2
  have h2 := ok.N.2
  have h3 := ok.D.2
  have e1 : S 7 0 = g 106 := by rw [← h]; rfl
  have e2 : S 8 0 = g 107 := by rw [← h]; rfl
  have e3 : S 9 0 = g 108 := by rw [← h]; rfl
  rw [nT, e1] at h1
  rw [nN, e2] at h2
  rw [nD, e3] at h3
  exact ⟨h1, h2, h3⟩
theorem sv_kv {M M2 : jk_M} {S : HS} {f : Nat} (hS : mv M.2.1 = S) (ok : Sok S) (h : ∀ k, k < 114 → M2.2.1 f k = M.2.1 (kpO k) (kpK k)) : kv (M2.2.1 f) = S := by
  rw [← hS]
  have h1 := ok.T.2
  have h2 := ok.N.2
  have h3 := ok.D.2
  refine kv_mv h ?_ ?_ ?_
  · rw [h 106 (by decide)]; exact Nat.le_trans (Nat.le_of_eq (mv_nT hS)) h1
  · rw [h 107 (by decide)]; exact Nat.le_trans (Nat.le_of_eq (mv_nN hS)) h2
  · rw [h 108 (by decide)]; exact Nat.le_trans (Nat.le_of_eq (mv_nD hS)) h3
theorem ld_mv {M M2 : jk_M} {S : HS} {f : Nat} (hK : kv (M.2.1 f) = S) (ok : Sok S) (h : ∀ k, k < 114 → M2.2.1 (kpO k) (kpK k) = M.2.1 f k) : mv M2.2.1 = S := by
  obtain ⟨h1, h2, h3⟩ := kv_cn hK ok
  exact (kv_mv (fun k hk => (h k hk).symm) h1 h2 h3).symm.trans hK
theorem MV.img {M M1 : jk_M} {Z : ZS} (h : MV M Z) (s : Fm (fun q k => q = 23 ∨ (q = 0 ∧ k = 50)) M M1) (h50 : M1.2.1 0 50 = 1) (hk : kv (M1.2.1 23) = Z.1) : MV M1 (Z.1, Z.1, Z.2.2.1, Z.2.2.2.1, va_up Z.2.2.2.2 8 1) := by
  obtain ⟨h1, h2, h3, h4, h5, h6, h7, h8, h9, h10, h11, h12, h13⟩ := h
  have en : ∀ q, q ≠ 23 → q ≠ 0 → M1.2.1 q = M.2.1 q := fun q a b => by
    funext k; exact s.2.2 q k (by omega)
  have e0 : ∀ k, k ≠ 50 → M1.2.1 0 k = M.2.1 0 k := fun k hk => s.2.2 0 k (by omega)
  refine ⟨s.M h1, s.mv h2 (fun q k hq => by unfold PH at hq; omega), fun _ => hk, fun t ht => by rw [en 13 (by omega) (by omega), en 14 (by omega) (by omega), en 15 (by omega) (by omega), en 16 (by omega) (by omega)]; exact h4 t ht, fun t ht i hi => by rw [s.2.1]; exact h5 t ht i hi, fun i hi => ?_, ?_, ?_, ?_, fun i hi => ?_, (e0 40 (by omega)).trans h11, fun i hi => by rw [en 19 (by omega) (by omega)]; exact h12 i hi, fun i hi => by rw [en 20 (by omega) (by omega)]; exact h13 i hi⟩
  · show _ = va_up Z.2.2.2.2 8 1 i
    rw [en 1 (by omega) (by omega), va_up_ne _ _ (by omega)]; exact h6 i hi
  · show _ = va_up Z.2.2.2.2 8 1 8
    rw [va_up_self]; exact h50
  · show _ = va_up Z.2.2.2.2 8 1 9
    rw [va_up_ne _ _ (by omega)]; exact (e0 8 (by omega)).trans h8
  · show _ = va_up Z.2.2.2.2 8 1 10
    rw [va_up_ne _ _ (by omega)]; exact (e0 49 (by omega)).trans h9
  · show _ = va_up Z.2.2.2.2 8 1 (11 + i)
    rw [en 31 (by omega) (by omega), va_up_ne _ _ (by omega)]; exact h10 i hi
theorem MV.clr {M : jk_M} {Z : ZS} {k : Nat} (h : MV M Z) (hk : k < 8) : MV (jk_wI M 13 k 0) (Z.1, Z.2.1, va_up Z.2.2.1 k (g3 (-1) 0 (-1)), Z.2.2.2) := by
  obtain ⟨h1, h2, h3, h4, h5, h6, h7, h8, h9, h10, h11, h12, h13⟩ := h
  have s : Fm (fun q _ => q = 13) M (jk_wI M 13 k 0) := Fm.rf.w rfl
  have en : ∀ q, q ≠ 13 → (jk_wI M 13 k 0).2.1 q = M.2.1 q := fun q a => by
    funext j; exact s.2.2 q j a
  refine ⟨s.M h1, s.mv h2 (fun q k hq => by unfold PH at hq; omega), fun h => by rw [en 23 (by omega)]; exact h3 h, fun t ht => ?_, h5, fun i hi => by rw [en 1 (by omega)]; exact h6 i hi, by rw [en 0 (by omega)]; exact h7, by rw [en 0 (by omega)]; exact h8, by rw [en 0 (by omega)]; exact h9, fun i hi => by rw [en 31 (by omega)]; exact h10 i hi, by rw [en 0 (by omega)]; exact h11, fun i hi => by rw [en 19 (by omega)]; exact h12 i hi, fun i hi => by rw [en 20 (by omega)]; exact h13 i hi⟩
  show shm _ _ _ _ (va_up Z.2.2.1 k (g3 (-1) 0 (-1)) t)
  by_cases e : t = k
  · subst e; rw [va_up_self, rd_s]; exact Or.inr (Or.inl ⟨rfl, rfl, rfl⟩)
  · rw [va_up_ne _ _ e, rd_k e, en 14 (by omega), en 15 (by omega), en 16 (by omega)]; exact h4 t ht
theorem clr_my {M : jk_M} {Z : ZS} {n i : Nat} (h : MV M (Z.2.1, Z.2.1, clrN n Z.2.2.1 i, Z.2.2.2)) (hi : i < 8) (h2 : M.2.1 13 i = 2) (hp : ¬ M.2.1 16 i < nI n) : MV (jk_wI M 13 i 0) (Z.2.1, Z.2.1, clrN n Z.2.2.1 (i + 1), Z.2.2.2) := by
  have hs : shm (M.2.1 13 i) (M.2.1 14 i) (M.2.1 15 i) (M.2.1 16 i) (clrN n Z.2.2.1 i i) := h.2.2.2.1 i hi
  rw [clr_q, h2] at hs
  have hs3 : M.2.1 16 i = Z.2.2.1 i 2 := by
    rcases hs with ⟨-, z, -⟩ | ⟨-, -, z⟩ | ⟨-, -, -, z⟩
    · exact absurd z (by decide)
    · exact absurd z (by decide)
    · exact z
  rw [clr_y (Int32.not_lt.mp (hs3 ▸ hp))]
  exact MV.clr h hi
theorem clr_mn {M : jk_M} {Z : ZS} {n i m : Nat} (h : MV M (Z.2.1, Z.2.1, clrN n Z.2.2.1 i, Z.2.2.2)) (hi : i < 8) (ok : Shok m (Z.2.2.1 i 0) (Z.2.2.1 i 1) (Z.2.2.1 i 2)) (hn : n < 2 ^ 31) (h2 : M.2.1 13 i = 2 → M.2.1 16 i < nI n) : MV M (Z.2.1, Z.2.1, clrN n Z.2.2.1 (i + 1), Z.2.2.2) := by
  have hs : shm (M.2.1 13 i) (M.2.1 14 i) (M.2.1 15 i) (M.2.1 16 i) (clrN n Z.2.2.1 i i) := h.2.2.2.1 i hi
  rw [clr_q] at hs
  have hm1 : ¬ nI n ≤ (-1 : Int32) := Int32.not_le.mpr (n1lt (nI_pos' hn))
  have : ¬ nI n ≤ Z.2.2.1 i 2 := by
    rcases hs with ⟨z, -⟩ | ⟨-, z, -⟩ | ⟨-, -, z, y⟩
    · rw [(shok0 ok).2 z]; exact hm1
    · rw [z]; exact hm1
    · rw [← y]; exact Int32.not_le.mpr (h2 z)
  rw [clr_n this]; exact h
set_option maxRecDepth 20000 in
set_option maxHeartbeats 4000000 in
theorem T_carr0 {d : Nat} {M : jk_M} (hM : WM M) {a f n p : Nat} (ga : jGM[a]? = some (1, n)) (gf : jGM[f]? = some (1, 120)) (hne : a ≠ f) (hp : p + n ≤ 120) (hn : n ≤ 16) : J Fr_X11_carries d 0 0 0 [(0, .ref 0), (1, .ref a), (2, .int (nI n)), (3, .ref f), (4, .int (nI p)), (5, .int 0)] [] M (jk_ex (some (.int (nI (p + n)))) (fun M1 => Fm (fun q k => q = f ∧ p ≤ k ∧ k < p + n) M M1 ∧ ∀ i, i < n → M1.2.1 f (p + i) = M.2.1 a i)) := by
  refine j_post (fun Q hQ => ?_)
  refine j_iconst 0 dX11_carries_0 ic_0 ?_
  refine j_istore (L' := [(6, .int 0), (0, .ref 0), (1, .ref a), (2, .int (nI n)), (3, .ref f), (4, .int (nI p)), (5, .int 0)]) dX11_carries_1 (by decide) rfl ?_
  have lp3 : ∀ (k1 : Nat) (i : Nat) (M1 : jk_M), n - i < k1 → (i ≤ n) → (Fm (fun q k => q = f ∧ p ≤ k ∧ k < p + n) M M1) → (∀ j, j < i → M1.2.1 f (p + j) = M.2.1 a j) → J Fr_X11_carries d 0 0 3 [(0, .ref 0), (1, .ref a), (2, .int (nI n)), (3, .ref f), (4, .int (nI p)), (5, .int 0), (6, .int (nI i))] [] M1 Q := by
    intro k1
    induction k1 with
    | zero => intro i M1 hk; exact absurd hk (Nat.not_lt_zero _)
    | succ k1 ih2 =>
      intro i M1 hk1 hi hs1 he
      refine j_iload 6 dX11_carries_3 rfl ?_
      refine j_iload_n 2 dX11_carries_5 rfl ?_
      refine j_icmp_geN (tgt := 45) i n dX11_carries_6 rfl (by omega) (by omega) (fun c4 => ?_) (fun c4 => ?_)
      · refine j_iload 4 dX11_carries_45 rfl ?_
        refine j_iload_n 2 dX11_carries_47 rfl ?_
        refine j_iaddN p n dX11_carries_48 ?_
        refine j_iret dX11_carries_49 rfl ?_
        have e : i = n := by omega
        exact hQ _ _ ⟨rfl, hs1, fun j hj => he j (by omega)⟩
      · refine j_iload 5 dX11_carries_9 rfl ?_
        refine j_if_eq (tgt := 28) dX11_carries_11 rfl (fun c5 => ?_) (fun c5 => ?_)
        · refine j_aload_n 3 dX11_carries_28 rfl ?_
          refine j_iload 4 dX11_carries_29 rfl ?_
          refine j_iload 6 dX11_carries_31 rfl ?_
          refine j_iaddN p i dX11_carries_33 ?_
          refine j_aload_n 1 dX11_carries_34 rfl ?_
          refine j_iload 6 dX11_carries_35 rfl ?_
          refine j_ialdN i dX11_carries_37 (shM (Fm.M hs1 hM) ga) (by omega) (by omega) ?_
          refine j_topi (M.2.1 a i) (Fm.rd hs1 (fun z => hne z.1)) ?_
          refine j_iastN (p + i) dX11_carries_38 (shM (Fm.M hs1 hM) gf) (by omega) (by omega) ?_
          have sm6 : Fm (fun q k => q = f ∧ p ≤ k ∧ k < p + n) M (jk_wI M1 f (p + i) (M.2.1 a i)) := Fm.w hs1 ⟨rfl, by omega, by omega⟩
          refine j_iinc 6 (nI (i + 1)) (L' := [(6, .int (nI (i + 1))), (0, .ref 0), (1, .ref a), (2, .int (nI n)), (3, .ref f), (4, .int (nI p)), (5, .int 0)]) dX11_carries_39 rfl (inc1 i) (by decide) rfl ?_
          refine j_goto (tgt := 3) dX11_carries_42 rfl ?_
          exact j_sub (jk_pick [1, 2, 3, 4, 5, 6, 0] rfl) (ih2 (i + 1) (jk_wI M1 f (p + i) (M.2.1 a i)) (by omega) (by omega) sm6 (fun j hj => by
          by_cases e : j = i
          · rw [e, rd_s]
          · rw [rd_k (by omega)]; exact he j (by omega)))
        · exact absurd c5 (by decide)
  exact j_sub (jk_pick [1, 2, 3, 4, 5, 6, 0] rfl) (lp3 _ 0 M (Nat.lt_succ_self _) (by omega) Fm.rf (fun j hj => absurd hj (Nat.not_lt_zero j)))
set_option maxRecDepth 20000 in
set_option maxHeartbeats 4000000 in
theorem T_carr1 {d : Nat} {M : jk_M} (hM : WM M) {a f n p : Nat} (ga : jGM[a]? = some (1, n)) (gf : jGM[f]? = some (1, 120)) (hne : a ≠ f) (hp : p + n ≤ 120) (hn : n ≤ 16) : J Fr_X11_carries d 0 0 0 [(0, .ref 0), (1, .ref a), (2, .int (nI n)), (3, .ref f), (4, .int (nI p)), (5, .int 1)] [] M (jk_ex (some (.int (nI (p + n)))) (fun M1 => Fm (fun q k => q = a ∧ k < n) M M1 ∧ ∀ i, i < n → M1.2.1 a i = M.2.1 f (p + i))) := by
  refine j_post (fun Q hQ => ?_)
  refine j_iconst 0 dX11_carries_0 ic_0 ?_
  refine j_istore (L' := [(6, .int 0), (0, .ref 0), (1, .ref a), (2, .int (nI n)), (3, .ref f), (4, .int (nI p)), (5, .int 1)]) dX11_carries_1 (by decide) rfl ?_
  have lp3 : ∀ (k1 : Nat) (i : Nat) (M1 : jk_M), n - i < k1 → (i ≤ n) → (Fm (fun q k => q = a ∧ k < n) M M1) → (∀ j, j < i → M1.2.1 a j = M.2.1 f (p + j)) → J Fr_X11_carries d 0 0 3 [(0, .ref 0), (1, .ref a), (2, .int (nI n)), (3, .ref f), (4, .int (nI p)), (5, .int 1), (6, .int (nI i))] [] M1 Q := by
    intro k1
    induction k1 with
    | zero => intro i M1 hk; exact absurd hk (Nat.not_lt_zero _)
    | succ k1 ih2 =>
      intro i M1 hk1 hi hs1 he
      refine j_iload 6 dX11_carries_3 rfl ?_
      refine j_iload_n 2 dX11_carries_5 rfl ?_
      refine j_icmp_geN (tgt := 45) i n dX11_carries_6 rfl (by omega) (by omega) (fun c4 => ?_) (fun c4 => ?_)
      · refine j_iload 4 dX11_carries_45 rfl ?_
        refine j_iload_n 2 dX11_carries_47 rfl ?_
        refine j_iaddN p n dX11_carries_48 ?_
        refine j_iret dX11_carries_49 rfl ?_
        have e : i = n := by omega
        exact hQ _ _ ⟨rfl, hs1, fun j hj => he j (by omega)⟩
      · refine j_iload 5 dX11_carries_9 rfl ?_
        refine j_if_eq (tgt := 28) dX11_carries_11 rfl (fun c5 => ?_) (fun c5 => ?_)
        · exact absurd c5 (by decide)
        · refine j_aload_n 1 dX11_carries_14 rfl ?_
          refine j_iload 6 dX11_carries_15 rfl ?_
          refine j_aload_n 3 dX11_carries_17 rfl ?_
          refine j_iload 4 dX11_carries_18 rfl ?_
          refine j_iload 6 dX11_carries_20 rfl ?_
          refine j_iaddN p i dX11_carries_22 ?_
          refine j_ialdN (p + i) dX11_carries_23 (shM (Fm.M hs1 hM) gf) (by omega) (by omega) ?_
          refine j_topi (M.2.1 f (p + i)) (Fm.rd hs1 (fun z => hne z.1.symm)) ?_
          refine j_iastN i dX11_carries_24 (shM (Fm.M hs1 hM) ga) (by omega) (by omega) ?_
          have sm6 : Fm (fun q k => q = a ∧ k < n) M (jk_wI M1 a i (M.2.1 f (p + i))) := Fm.w hs1 ⟨rfl, by omega⟩
          refine j_goto (tgt := 39) dX11_carries_25 rfl ?_
          refine j_iinc 6 (nI (i + 1)) (L' := [(6, .int (nI (i + 1))), (0, .ref 0), (1, .ref a), (2, .int (nI n)), (3, .ref f), (4, .int (nI p)), (5, .int 1)]) dX11_carries_39 rfl (inc1 i) (by decide) rfl ?_
          refine j_goto (tgt := 3) dX11_carries_42 rfl ?_
          exact j_sub (jk_pick [1, 2, 3, 4, 5, 6, 0] rfl) (ih2 (i + 1) (jk_wI M1 a i (M.2.1 f (p + i))) (by omega) (by omega) sm6 (fun j hj => by
          by_cases e : j = i
          · rw [e, rd_s]
          · rw [rd_k (by omega)]; exact he j (by omega)))
  exact j_sub (jk_pick [1, 2, 3, 4, 5, 6, 0] rfl) (lp3 _ 0 M (Nat.lt_succ_self _) (by omega) Fm.rf (fun j hj => absurd hj (Nat.not_lt_zero j)))
set_option maxRecDepth 20000 in
set_option maxHeartbeats 4000000 in
theorem T_all0 {d : Nat} {M : jk_M} {S : HS} {f : Nat} (hM : WM M) (hf : f = 22 ∨ f = 23) (ok : Sok S) (hS : mv M.2.1 = S) : J Fr_X11_all (d + 1) 0 0 0 [(0, .ref 0), (1, .ref f), (2, .int 0)] [] M (jk_ex none (fun M1 => Fm (fun q _ => q = f) M M1 ∧ kv (M1.2.1 f) = S)) := by
  refine j_post (fun Q hQ => ?_)
  have gf : jGM[f]? = some (1, 120) := by rcases hf with rfl | rfl <;> rfl
  refine j_aload_n 0 dX11_all_0 rfl ?_
  refine j_aload_n 0 dX11_all_1 rfl ?_
  refine j_getr (q := 2) dX11_all_2 fX11_29 (shM hM sgM_0) rfl (rfM hM rfM_0_10) ?_
  refine j_bipush 16 dX11_all_5 bp_16 ?_
  refine j_aload_n 1 dX11_all_7 rfl ?_
  refine j_iconst 0 dX11_all_8 ic_0 ?_
  refine j_iload_n 2 dX11_all_9 rfl ?_
  refine j_callV (kc := 0) (ks := 0) (a := 0) (b := 0) (d' := d) (As := [.ref 2, .int 16, .ref f, .int 0, .int 0]) dX11_all_10 kX11_225 rfl (shM hM sgM_0) (by omega) rfl rfl rfl (Nat.le_of_ble_eq_true rfl) (Nat.le_of_ble_eq_true rfl) (T_carr0 hM (a := 2) (f := f) (n := 16) (p := 0) sgM_2 gf (by omega) (by decide) (by decide)) (kk_e (fun M1 hM2 => ?_))
  obtain ⟨h05, he6⟩ := hM2
  have ac4 := sv_step (f := f) Fm.rf (fun k hk => absurd hk (Nat.not_lt_zero k)) h05 he6 (by omega) (fun i hi => kp_T (b := 0) (by decide) hi)
  have sm3 : Fm (fun q _ => q = f) M M1 := Fm.tr Fm.rf (Fm.mo h05 (fun q k z => z.1))
  refine j_istore_n (L' := [(3, .int (nI 16)), (0, .ref 0), (1, .ref f), (2, .int 0)]) dX11_all_13 (by decide) rfl ?_
  refine j_aload_n 1 dX11_all_14 rfl ?_
  refine j_aload_n 1 dX11_all_15 rfl ?_
  refine j_getr (q := 3) dX11_all_16 fX11_32 (shM (Fm.M sm3 hM) sgM_0) rfl (rfM (Fm.M sm3 hM) rfM_0_11) ?_
  refine j_bipush 16 dX11_all_19 bp_16 ?_
  refine j_aload_n 2 dX11_all_21 rfl ?_
  refine j_iload_n 0 dX11_all_22 rfl ?_
  refine j_iload_n 3 dX11_all_23 rfl ?_
  refine j_callV (kc := 0) (ks := 0) (a := 0) (b := 0) (d' := d) (As := [.ref 3, .int 16, .ref f, .int (nI 16), .int 0]) dX11_all_24 kX11_225 rfl (shM (Fm.M sm3 hM) sgM_0) (by omega) rfl rfl rfl (Nat.le_of_ble_eq_true rfl) (Nat.le_of_ble_eq_true rfl) (T_carr0 (Fm.M sm3 hM) (a := 3) (f := f) (n := 16) (p := 16) sgM_3 gf (by omega) (by decide) (by decide)) (kk_e (fun M7 hM8 => ?_))
  obtain ⟨h011, he12⟩ := hM8
  have ac10 := sv_step (f := f) sm3 ac4 h011 he12 (by omega) (fun i hi => kp_T (b := 1) (by decide) hi)
  have sm9 : Fm (fun q _ => q = f) M M7 := Fm.tr sm3 (Fm.mo h011 (fun q k z => z.1))
  refine j_istore_n (L' := [(3, .int (nI 32)), (0, .ref 0), (1, .ref f), (2, .int 0)]) dX11_all_27 (by decide) rfl ?_
  refine j_aload_n 1 dX11_all_28 rfl ?_
  refine j_aload_n 1 dX11_all_29 rfl ?_
  refine j_getr (q := 4) dX11_all_30 fX11_35 (shM (Fm.M sm9 hM) sgM_0) rfl (rfM (Fm.M sm9 hM) rfM_0_12) ?_
  refine j_bipush 16 dX11_all_33 bp_16 ?_
  refine j_aload_n 2 dX11_all_35 rfl ?_
  refine j_iload_n 0 dX11_all_36 rfl ?_
  refine j_iload_n 3 dX11_all_37 rfl ?_
  refine j_callV (kc := 0) (ks := 0) (a := 0) (b := 0) (d' := d) (As := [.ref 4, .int 16, .ref f, .int (nI 32), .int 0]) dX11_all_38 kX11_225 rfl (shM (Fm.M sm9 hM) sgM_0) (by omega) rfl rfl rfl (Nat.le_of_ble_eq_true rfl) (Nat.le_of_ble_eq_true rfl) (T_carr0 (Fm.M sm9 hM) (a := 4) (f := f) (n := 16) (p := 32) sgM_4 gf (by omega) (by decide) (by decide)) (kk_e (fun M13 hM14 => ?_))
  obtain ⟨h017, he18⟩ := hM14
  have ac16 := sv_step (f := f) sm9 ac10 h017 he18 (by omega) (fun i hi => kp_T (b := 2) (by decide) hi)
  have sm15 : Fm (fun q _ => q = f) M M13 := Fm.tr sm9 (Fm.mo h017 (fun q k z => z.1))
  refine j_istore_n (L' := [(3, .int (nI 48)), (0, .ref 0), (1, .ref f), (2, .int 0)]) dX11_all_41 (by decide) rfl ?_
  refine j_aload_n 1 dX11_all_42 rfl ?_
  refine j_aload_n 1 dX11_all_43 rfl ?_
  refine j_getr (q := 5) dX11_all_44 fX11_38 (shM (Fm.M sm15 hM) sgM_0) rfl (rfM (Fm.M sm15 hM) rfM_0_13) ?_
  refine j_bipush 16 dX11_all_47 bp_16 ?_
  refine j_aload_n 2 dX11_all_49 rfl ?_
  refine j_iload_n 0 dX11_all_50 rfl ?_
  refine j_iload_n 3 dX11_all_51 rfl ?_
  refine j_callV (kc := 0) (ks := 0) (a := 0) (b := 0) (d' := d) (As := [.ref 5, .int 16, .ref f, .int (nI 48), .int 0]) dX11_all_52 kX11_225 rfl (shM (Fm.M sm15 hM) sgM_0) (by omega) rfl rfl rfl (Nat.le_of_ble_eq_true rfl) (Nat.le_of_ble_eq_true rfl) (T_carr0 (Fm.M sm15 hM) (a := 5) (f := f) (n := 16) (p := 48) sgM_5 gf (by omega) (by decide) (by decide)) (kk_e (fun M19 hM20 => ?_))
  obtain ⟨h023, he24⟩ := hM20
  have ac22 := sv_step (f := f) sm15 ac16 h023 he24 (by omega) (fun i hi => kp_T (b := 3) (by decide) hi)
  have sm21 : Fm (fun q _ => q = f) M M19 := Fm.tr sm15 (Fm.mo h023 (fun q k z => z.1))
  refine j_istore_n (L' := [(3, .int (nI 64)), (0, .ref 0), (1, .ref f), (2, .int 0)]) dX11_all_55 (by decide) rfl ?_
  refine j_aload_n 1 dX11_all_56 rfl ?_
  refine j_aload_n 1 dX11_all_57 rfl ?_
  refine j_getr (q := 6) dX11_all_58 fX11_41 (shM (Fm.M sm21 hM) sgM_0) rfl (rfM (Fm.M sm21 hM) rfM_0_14) ?_
  refine j_bipush 8 dX11_all_61 bp_8 ?_
  refine j_aload_n 2 dX11_all_63 rfl ?_
  refine j_iload_n 0 dX11_all_64 rfl ?_
  refine j_iload_n 3 dX11_all_65 rfl ?_
  refine j_callV (kc := 0) (ks := 0) (a := 0) (b := 0) (d' := d) (As := [.ref 6, .int 8, .ref f, .int (nI 64), .int 0]) dX11_all_66 kX11_225 rfl (shM (Fm.M sm21 hM) sgM_0) (by omega) rfl rfl rfl (Nat.le_of_ble_eq_true rfl) (Nat.le_of_ble_eq_true rfl) (T_carr0 (Fm.M sm21 hM) (a := 6) (f := f) (n := 8) (p := 64) sgM_6 gf (by omega) (by decide) (by decide)) (kk_e (fun M25 hM26 => ?_))
  obtain ⟨h029, he30⟩ := hM26
  have ac28 := sv_step (f := f) sm21 ac22 h029 he30 (by omega) (fun i hi => kp_N (b := 0) (by decide) hi)
  have sm27 : Fm (fun q _ => q = f) M M25 := Fm.tr sm21 (Fm.mo h029 (fun q k z => z.1))
  refine j_istore_n (L' := [(3, .int (nI 72)), (0, .ref 0), (1, .ref f), (2, .int 0)]) dX11_all_69 (by decide) rfl ?_
  refine j_aload_n 1 dX11_all_70 rfl ?_
  refine j_aload_n 1 dX11_all_71 rfl ?_
  refine j_getr (q := 7) dX11_all_72 fX11_44 (shM (Fm.M sm27 hM) sgM_0) rfl (rfM (Fm.M sm27 hM) rfM_0_15) ?_
  refine j_bipush 8 dX11_all_75 bp_8 ?_
  refine j_aload_n 2 dX11_all_77 rfl ?_
  refine j_iload_n 0 dX11_all_78 rfl ?_
  refine j_iload_n 3 dX11_all_79 rfl ?_
  refine j_callV (kc := 0) (ks := 0) (a := 0) (b := 0) (d' := d) (As := [.ref 7, .int 8, .ref f, .int (nI 72), .int 0]) dX11_all_80 kX11_225 rfl (shM (Fm.M sm27 hM) sgM_0) (by omega) rfl rfl rfl (Nat.le_of_ble_eq_true rfl) (Nat.le_of_ble_eq_true rfl) (T_carr0 (Fm.M sm27 hM) (a := 7) (f := f) (n := 8) (p := 72) sgM_7 gf (by omega) (by decide) (by decide)) (kk_e (fun M31 hM32 => ?_))
  obtain ⟨h035, he36⟩ := hM32
  have ac34 := sv_step (f := f) sm27 ac28 h035 he36 (by omega) (fun i hi => kp_N (b := 1) (by decide) hi)
  have sm33 : Fm (fun q _ => q = f) M M31 := Fm.tr sm27 (Fm.mo h035 (fun q k z => z.1))
  refine j_istore_n (L' := [(3, .int (nI 80)), (0, .ref 0), (1, .ref f), (2, .int 0)]) dX11_all_83 (by decide) rfl ?_
  refine j_aload_n 1 dX11_all_84 rfl ?_
  refine j_aload_n 1 dX11_all_85 rfl ?_
  refine j_getr (q := 8) dX11_all_86 fX11_47 (shM (Fm.M sm33 hM) sgM_0) rfl (rfM (Fm.M sm33 hM) rfM_0_16) ?_
  refine j_bipush 6 dX11_all_89 bp_6 ?_
  refine j_aload_n 2 dX11_all_91 rfl ?_
  refine j_iload_n 0 dX11_all_92 rfl ?_
  refine j_iload_n 3 dX11_all_93 rfl ?_
  refine j_callV (kc := 0) (ks := 0) (a := 0) (b := 0) (d' := d) (As := [.ref 8, .int 6, .ref f, .int (nI 80), .int 0]) dX11_all_94 kX11_225 rfl (shM (Fm.M sm33 hM) sgM_0) (by omega) rfl rfl rfl (Nat.le_of_ble_eq_true rfl) (Nat.le_of_ble_eq_true rfl) (T_carr0 (Fm.M sm33 hM) (a := 8) (f := f) (n := 6) (p := 80) sgM_8 gf (by omega) (by decide) (by decide)) (kk_e (fun M37 hM38 => ?_))
  obtain ⟨h041, he42⟩ := hM38
  have ac40 := sv_step (f := f) sm33 ac34 h041 he42 (by omega) (fun i hi => kp_D (b := 0) (by decide) hi)
  have sm39 : Fm (fun q _ => q = f) M M37 := Fm.tr sm33 (Fm.mo h041 (fun q k z => z.1))
  refine j_istore_n (L' := [(3, .int (nI 86)), (0, .ref 0), (1, .ref f), (2, .int 0)]) dX11_all_97 (by decide) rfl ?_
  refine j_aload_n 1 dX11_all_98 rfl ?_
  refine j_aload_n 1 dX11_all_99 rfl ?_
  refine j_getr (q := 9) dX11_all_100 fX11_50 (shM (Fm.M sm39 hM) sgM_0) rfl (rfM (Fm.M sm39 hM) rfM_0_17) ?_
  refine j_bipush 6 dX11_all_103 bp_6 ?_
  refine j_aload_n 2 dX11_all_105 rfl ?_
  refine j_iload_n 0 dX11_all_106 rfl ?_
  refine j_iload_n 3 dX11_all_107 rfl ?_
  refine j_callV (kc := 0) (ks := 0) (a := 0) (b := 0) (d' := d) (As := [.ref 9, .int 6, .ref f, .int (nI 86), .int 0]) dX11_all_108 kX11_225 rfl (shM (Fm.M sm39 hM) sgM_0) (by omega) rfl rfl rfl (Nat.le_of_ble_eq_true rfl) (Nat.le_of_ble_eq_true rfl) (T_carr0 (Fm.M sm39 hM) (a := 9) (f := f) (n := 6) (p := 86) sgM_9 gf (by omega) (by decide) (by decide)) (kk_e (fun M43 hM44 => ?_))
  obtain ⟨h047, he48⟩ := hM44
  have ac46 := sv_step (f := f) sm39 ac40 h047 he48 (by omega) (fun i hi => kp_D (b := 1) (by decide) hi)
  have sm45 : Fm (fun q _ => q = f) M M43 := Fm.tr sm39 (Fm.mo h047 (fun q k z => z.1))
  refine j_istore_n (L' := [(3, .int (nI 92)), (0, .ref 0), (1, .ref f), (2, .int 0)]) dX11_all_111 (by decide) rfl ?_
  refine j_aload_n 1 dX11_all_112 rfl ?_
  refine j_aload_n 1 dX11_all_113 rfl ?_
  refine j_getr (q := 10) dX11_all_114 fX11_53 (shM (Fm.M sm45 hM) sgM_0) rfl (rfM (Fm.M sm45 hM) rfM_0_18) ?_
  refine j_bipush 6 dX11_all_117 bp_6 ?_
  refine j_aload_n 2 dX11_all_119 rfl ?_
  refine j_iload_n 0 dX11_all_120 rfl ?_
  refine j_iload_n 3 dX11_all_121 rfl ?_
  refine j_callV (kc := 0) (ks := 0) (a := 0) (b := 0) (d' := d) (As := [.ref 10, .int 6, .ref f, .int (nI 92), .int 0]) dX11_all_122 kX11_225 rfl (shM (Fm.M sm45 hM) sgM_0) (by omega) rfl rfl rfl (Nat.le_of_ble_eq_true rfl) (Nat.le_of_ble_eq_true rfl) (T_carr0 (Fm.M sm45 hM) (a := 10) (f := f) (n := 6) (p := 92) sgM_10 gf (by omega) (by decide) (by decide)) (kk_e (fun M49 hM50 => ?_))
  obtain ⟨h053, he54⟩ := hM50
  have ac52 := sv_step (f := f) sm45 ac46 h053 he54 (by omega) (fun i hi => kp_D (b := 2) (by decide) hi)
  have sm51 : Fm (fun q _ => q = f) M M49 := Fm.tr sm45 (Fm.mo h053 (fun q k z => z.1))
  refine j_istore_n (L' := [(3, .int (nI 98)), (0, .ref 0), (1, .ref f), (2, .int 0)]) dX11_all_125 (by decide) rfl ?_
  refine j_aload_n 1 dX11_all_126 rfl ?_
  refine j_aload_n 1 dX11_all_127 rfl ?_
  refine j_getr (q := 11) dX11_all_128 fX11_56 (shM (Fm.M sm51 hM) sgM_0) rfl (rfM (Fm.M sm51 hM) rfM_0_19) ?_
  refine j_bipush 6 dX11_all_131 bp_6 ?_
  refine j_aload_n 2 dX11_all_133 rfl ?_
  refine j_iload_n 0 dX11_all_134 rfl ?_
  refine j_iload_n 3 dX11_all_135 rfl ?_
  refine j_callV (kc := 0) (ks := 0) (a := 0) (b := 0) (d' := d) (As := [.ref 11, .int 6, .ref f, .int (nI 98), .int 0]) dX11_all_136 kX11_225 rfl (shM (Fm.M sm51 hM) sgM_0) (by omega) rfl rfl rfl (Nat.le_of_ble_eq_true rfl) (Nat.le_of_ble_eq_true rfl) (T_carr0 (Fm.M sm51 hM) (a := 11) (f := f) (n := 6) (p := 98) sgM_11 gf (by omega) (by decide) (by decide)) (kk_e (fun M55 hM56 => ?_))
  obtain ⟨h059, he60⟩ := hM56
  have ac58 := sv_step (f := f) sm51 ac52 h059 he60 (by omega) (fun i hi => kp_D (b := 3) (by decide) hi)
  have sm57 : Fm (fun q _ => q = f) M M55 := Fm.tr sm51 (Fm.mo h059 (fun q k z => z.1))
  refine j_istore_n (L' := [(3, .int (nI 104)), (0, .ref 0), (1, .ref f), (2, .int 0)]) dX11_all_139 (by decide) rfl ?_
  refine j_aload_n 1 dX11_all_140 rfl ?_
  refine j_aload_n 1 dX11_all_141 rfl ?_
  refine j_getr (q := 12) dX11_all_142 fX11_59 (shM (Fm.M sm57 hM) sgM_0) rfl (rfM (Fm.M sm57 hM) rfM_0_20) ?_
  refine j_iconst 2 dX11_all_145 ic_2 ?_
  refine j_aload_n 2 dX11_all_146 rfl ?_
  refine j_iload_n 0 dX11_all_147 rfl ?_
  refine j_iload_n 3 dX11_all_148 rfl ?_
  refine j_callV (kc := 0) (ks := 0) (a := 0) (b := 0) (d' := d) (As := [.ref 12, .int 2, .ref f, .int (nI 104), .int 0]) dX11_all_149 kX11_225 rfl (shM (Fm.M sm57 hM) sgM_0) (by omega) rfl rfl rfl (Nat.le_of_ble_eq_true rfl) (Nat.le_of_ble_eq_true rfl) (T_carr0 (Fm.M sm57 hM) (a := 12) (f := f) (n := 2) (p := 104) sgM_12 gf (by omega) (by decide) (by decide)) (kk_e (fun M61 hM62 => ?_))
  obtain ⟨h065, he66⟩ := hM62
  have ac64 := sv_step (f := f) sm57 ac58 h065 he66 (by omega) (fun i hi => kp_B hi)
  have sm63 : Fm (fun q _ => q = f) M M61 := Fm.tr sm57 (Fm.mo h065 (fun q k z => z.1))
  refine j_istore_n (L' := [(3, .int (nI 106)), (0, .ref 0), (1, .ref f), (2, .int 0)]) dX11_all_152 (by decide) rfl ?_
  refine j_iload_n 3 dX11_all_153 rfl ?_
  refine j_if_eq (tgt := 232) dX11_all_154 rfl (fun c67 => ?_) (fun c67 => ?_)
  · refine j_aload_n 2 dX11_all_232 rfl ?_
    refine j_iload_n 0 dX11_all_233 rfl ?_
    refine j_aload_n 1 dX11_all_234 rfl ?_
    refine j_getv (M.2.1 0 0) dX11_all_235 fX11_123 (shM (Fm.M sm63 hM) sgM_0) rfl (Fm.rd sm63 (by omega)) ?_
    refine j_iastN 106 dX11_all_238 (shM (Fm.M sm63 hM) gf) (by omega) (by omega) ?_
    have sm68 : Fm (fun q _ => q = f) M (jk_wI M61 f 106 (M.2.1 0 0)) := Fm.w sm63 rfl
    refine j_aload_n 2 dX11_all_239 rfl ?_
    refine j_iload_n 0 dX11_all_240 rfl ?_
    refine j_iconst 1 dX11_all_241 ic_1 ?_
    refine j_iaddN 106 1 dX11_all_242 ?_
    refine j_aload_n 1 dX11_all_243 rfl ?_
    refine j_getv (M.2.1 0 1) dX11_all_244 fX11_144 (shM (Fm.M sm68 hM) sgM_0) rfl (Fm.rd sm68 (by omega)) ?_
    refine j_iastN (106 + 1) dX11_all_247 (shM (Fm.M sm68 hM) gf) (by omega) (by omega) ?_
    have sm69 : Fm (fun q _ => q = f) M (jk_wI (jk_wI M61 f 106 (M.2.1 0 0)) f (106 + 1) (M.2.1 0 1)) := Fm.w sm68 rfl
    refine j_aload_n 2 dX11_all_248 rfl ?_
    refine j_iload_n 0 dX11_all_249 rfl ?_
    refine j_iconst 2 dX11_all_250 ic_2 ?_
    refine j_iaddN 106 2 dX11_all_251 ?_
    refine j_aload_n 1 dX11_all_252 rfl ?_
    refine j_getv (M.2.1 0 2) dX11_all_253 fX11_147 (shM (Fm.M sm69 hM) sgM_0) rfl (Fm.rd sm69 (by omega)) ?_
    refine j_iastN (106 + 2) dX11_all_256 (shM (Fm.M sm69 hM) gf) (by omega) (by omega) ?_
    have sm70 : Fm (fun q _ => q = f) M (jk_wI (jk_wI (jk_wI M61 f 106 (M.2.1 0 0)) f (106 + 1) (M.2.1 0 1)) f (106 + 2) (M.2.1 0 2)) := Fm.w sm69 rfl
    refine j_aload_n 2 dX11_all_257 rfl ?_
    refine j_iload_n 0 dX11_all_258 rfl ?_
    refine j_iconst 3 dX11_all_259 ic_3 ?_
    refine j_iaddN 106 3 dX11_all_260 ?_
    refine j_aload_n 1 dX11_all_261 rfl ?_
    refine j_getv (M.2.1 0 3) dX11_all_262 fX11_7 (shM (Fm.M sm70 hM) sgM_0) rfl (Fm.rd sm70 (by omega)) ?_
    refine j_iastN (106 + 3) dX11_all_265 (shM (Fm.M sm70 hM) gf) (by omega) (by omega) ?_
    have sm71 : Fm (fun q _ => q = f) M (jk_wI (jk_wI (jk_wI (jk_wI M61 f 106 (M.2.1 0 0)) f (106 + 1) (M.2.1 0 1)) f (106 + 2) (M.2.1 0 2)) f (106 + 3) (M.2.1 0 3)) := Fm.w sm70 rfl
    refine j_aload_n 2 dX11_all_266 rfl ?_
    refine j_iload_n 0 dX11_all_267 rfl ?_
    refine j_iconst 4 dX11_all_268 ic_4 ?_
    refine j_iaddN 106 4 dX11_all_269 ?_
    refine j_aload_n 1 dX11_all_270 rfl ?_
    refine j_getv (M.2.1 0 4) dX11_all_271 fX11_13 (shM (Fm.M sm71 hM) sgM_0) rfl (Fm.rd sm71 (by omega)) ?_
    refine j_iastN (106 + 4) dX11_all_274 (shM (Fm.M sm71 hM) gf) (by omega) (by omega) ?_
    have sm72 : Fm (fun q _ => q = f) M (jk_wI (jk_wI (jk_wI (jk_wI (jk_wI M61 f 106 (M.2.1 0 0)) f (106 + 1) (M.2.1 0 1)) f (106 + 2) (M.2.1 0 2)) f (106 + 3) (M.2.1 0 3)) f (106 + 4) (M.2.1 0 4)) := Fm.w sm71 rfl
    refine j_aload_n 2 dX11_all_275 rfl ?_
    refine j_iload_n 0 dX11_all_276 rfl ?_
    refine j_iconst 5 dX11_all_277 ic_5 ?_
    refine j_iaddN 106 5 dX11_all_278 ?_
    refine j_aload_n 1 dX11_all_279 rfl ?_
    refine j_getv (M.2.1 0 5) dX11_all_280 fX11_16 (shM (Fm.M sm72 hM) sgM_0) rfl (Fm.rd sm72 (by omega)) ?_
    refine j_iastN (106 + 5) dX11_all_283 (shM (Fm.M sm72 hM) gf) (by omega) (by omega) ?_
    have sm73 : Fm (fun q _ => q = f) M (jk_wI (jk_wI (jk_wI (jk_wI (jk_wI (jk_wI M61 f 106 (M.2.1 0 0)) f (106 + 1) (M.2.1 0 1)) f (106 + 2) (M.2.1 0 2)) f (106 + 3) (M.2.1 0 3)) f (106 + 4) (M.2.1 0 4)) f (106 + 5) (M.2.1 0 5)) := Fm.w sm72 rfl
    refine j_aload_n 2 dX11_all_284 rfl ?_
    refine j_iload_n 0 dX11_all_285 rfl ?_
    refine j_bipush 6 dX11_all_286 bp_6 ?_
    refine j_iaddN 106 6 dX11_all_288 ?_
    refine j_aload_n 1 dX11_all_289 rfl ?_
    refine j_getv (M.2.1 0 6) dX11_all_290 fX11_170 (shM (Fm.M sm73 hM) sgM_0) rfl (Fm.rd sm73 (by omega)) ?_
    refine j_iastN (106 + 6) dX11_all_293 (shM (Fm.M sm73 hM) gf) (by omega) (by omega) ?_
    have sm74 : Fm (fun q _ => q = f) M (jk_wI (jk_wI (jk_wI (jk_wI (jk_wI (jk_wI (jk_wI M61 f 106 (M.2.1 0 0)) f (106 + 1) (M.2.1 0 1)) f (106 + 2) (M.2.1 0 2)) f (106 + 3) (M.2.1 0 3)) f (106 + 4) (M.2.1 0 4)) f (106 + 5) (M.2.1 0 5)) f (106 + 6) (M.2.1 0 6)) := Fm.w sm73 rfl
    refine j_aload_n 2 dX11_all_294 rfl ?_
    refine j_iload_n 0 dX11_all_295 rfl ?_
    refine j_bipush 7 dX11_all_296 bp_7 ?_
    refine j_iaddN 106 7 dX11_all_298 ?_
    refine j_aload_n 1 dX11_all_299 rfl ?_
    refine j_getv (M.2.1 0 7) dX11_all_300 fX11_19 (shM (Fm.M sm74 hM) sgM_0) rfl (Fm.rd sm74 (by omega)) ?_
    refine j_iastN (106 + 7) dX11_all_303 (shM (Fm.M sm74 hM) gf) (by omega) (by omega) ?_
    have sm75 : Fm (fun q _ => q = f) M (jk_wI (jk_wI (jk_wI (jk_wI (jk_wI (jk_wI (jk_wI (jk_wI M61 f 106 (M.2.1 0 0)) f (106 + 1) (M.2.1 0 1)) f (106 + 2) (M.2.1 0 2)) f (106 + 3) (M.2.1 0 3)) f (106 + 4) (M.2.1 0 4)) f (106 + 5) (M.2.1 0 5)) f (106 + 6) (M.2.1 0 6)) f (106 + 7) (M.2.1 0 7)) := Fm.w sm74 rfl
    refine j_vret dX11_all_304 rfl ?_
    exact hQ _ _ ⟨rfl, sm75, sv_kv hS ok (sv_end hf ac64)⟩
  · exact absurd c67 (by decide)
set_option maxRecDepth 20000 in
set_option maxHeartbeats 4000000 in
theorem T_all1 {d : Nat} {M : jk_M} {S : HS} {f : Nat} (hM : WM M) (hf : f = 22 ∨ f = 23) (ok : Sok S) (hK : kv (M.2.1 f) = S) : J Fr_X11_all (d + 1) 0 0 0 [(0, .ref 0), (1, .ref f), (2, .int 1)] [] M (jk_ex none (fun M1 => Fm PH M M1 ∧ mv M1.2.1 = S)) := by
  refine j_post (fun Q hQ => ?_)
  have gf : jGM[f]? = some (1, 120) := by rcases hf with rfl | rfl <;> rfl
  refine j_aload_n 0 dX11_all_0 rfl ?_
  refine j_aload_n 0 dX11_all_1 rfl ?_
  refine j_getr (q := 2) dX11_all_2 fX11_29 (shM hM sgM_0) rfl (rfM hM rfM_0_10) ?_
  refine j_bipush 16 dX11_all_5 bp_16 ?_
  refine j_aload_n 1 dX11_all_7 rfl ?_
  refine j_iconst 0 dX11_all_8 ic_0 ?_
  refine j_iload_n 2 dX11_all_9 rfl ?_
  refine j_callV (kc := 0) (ks := 0) (a := 0) (b := 0) (d' := d) (As := [.ref 2, .int 16, .ref f, .int 0, .int 1]) dX11_all_10 kX11_225 rfl (shM hM sgM_0) (by omega) rfl rfl rfl (Nat.le_of_ble_eq_true rfl) (Nat.le_of_ble_eq_true rfl) (T_carr1 hM (a := 2) (f := f) (n := 16) (p := 0) sgM_2 gf (by omega) (by decide) (by decide)) (kk_e (fun M1 hM2 => ?_))
  obtain ⟨h05, he6⟩ := hM2
  have ac4 := ld_step hf Fm.rf (fun k hk => absurd hk (Nat.not_lt_zero k)) h05 he6 (fun i hi => kp_T (b := 0) (by decide) hi) (fun k h => by unfold kpO; (repeat' split); all_goals omega)
  have sm3 : Fm PH M M1 := Fm.tr Fm.rf (Fm.mo h05 (fun q k z => by unfold PH; omega))
  refine j_istore_n (L' := [(3, .int (nI 16)), (0, .ref 0), (1, .ref f), (2, .int 1)]) dX11_all_13 (by decide) rfl ?_
  refine j_aload_n 1 dX11_all_14 rfl ?_
  refine j_aload_n 1 dX11_all_15 rfl ?_
  refine j_getr (q := 3) dX11_all_16 fX11_32 (shM (Fm.M sm3 hM) sgM_0) rfl (rfM (Fm.M sm3 hM) rfM_0_11) ?_
  refine j_bipush 16 dX11_all_19 bp_16 ?_
  refine j_aload_n 2 dX11_all_21 rfl ?_
  refine j_iload_n 0 dX11_all_22 rfl ?_
  refine j_iload_n 3 dX11_all_23 rfl ?_
  refine j_callV (kc := 0) (ks := 0) (a := 0) (b := 0) (d' := d) (As := [.ref 3, .int 16, .ref f, .int (nI 16), .int 1]) dX11_all_24 kX11_225 rfl (shM (Fm.M sm3 hM) sgM_0) (by omega) rfl rfl rfl (Nat.le_of_ble_eq_true rfl) (Nat.le_of_ble_eq_true rfl) (T_carr1 (Fm.M sm3 hM) (a := 3) (f := f) (n := 16) (p := 16) sgM_3 gf (by omega) (by decide) (by decide)) (kk_e (fun M7 hM8 => ?_))
  obtain ⟨h011, he12⟩ := hM8
  have ac10 := ld_step hf sm3 ac4 h011 he12 (fun i hi => kp_T (b := 1) (by decide) hi) (fun k h => by unfold kpO; (repeat' split); all_goals omega)
  have sm9 : Fm PH M M7 := Fm.tr sm3 (Fm.mo h011 (fun q k z => by unfold PH; omega))
  refine j_istore_n (L' := [(3, .int (nI 32)), (0, .ref 0), (1, .ref f), (2, .int 1)]) dX11_all_27 (by decide) rfl ?_
  refine j_aload_n 1 dX11_all_28 rfl ?_
  refine j_aload_n 1 dX11_all_29 rfl ?_
  refine j_getr (q := 4) dX11_all_30 fX11_35 (shM (Fm.M sm9 hM) sgM_0) rfl (rfM (Fm.M sm9 hM) rfM_0_12) ?_
  refine j_bipush 16 dX11_all_33 bp_16 ?_
  refine j_aload_n 2 dX11_all_35 rfl ?_
  refine j_iload_n 0 dX11_all_36 rfl ?_
  refine j_iload_n 3 dX11_all_37 rfl ?_
  refine j_callV (kc := 0) (ks := 0) (a := 0) (b := 0) (d' := d) (As := [.ref 4, .int 16, .ref f, .int (nI 32), .int 1]) dX11_all_38 kX11_225 rfl (shM (Fm.M sm9 hM) sgM_0) (by omega) rfl rfl rfl (Nat.le_of_ble_eq_true rfl) (Nat.le_of_ble_eq_true rfl) (T_carr1 (Fm.M sm9 hM) (a := 4) (f := f) (n := 16) (p := 32) sgM_4 gf (by omega) (by decide) (by decide)) (kk_e (fun M13 hM14 => ?_))
  obtain ⟨h017, he18⟩ := hM14
  have ac16 := ld_step hf sm9 ac10 h017 he18 (fun i hi => kp_T (b := 2) (by decide) hi) (fun k h => by unfold kpO; (repeat' split); all_goals omega)
  have sm15 : Fm PH M M13 := Fm.tr sm9 (Fm.mo h017 (fun q k z => by unfold PH; omega))
  refine j_istore_n (L' := [(3, .int (nI 48)), (0, .ref 0), (1, .ref f), (2, .int 1)]) dX11_all_41 (by decide) rfl ?_
  refine j_aload_n 1 dX11_all_42 rfl ?_
  refine j_aload_n 1 dX11_all_43 rfl ?_
  refine j_getr (q := 5) dX11_all_44 fX11_38 (shM (Fm.M sm15 hM) sgM_0) rfl (rfM (Fm.M sm15 hM) rfM_0_13) ?_
  refine j_bipush 16 dX11_all_47 bp_16 ?_
  refine j_aload_n 2 dX11_all_49 rfl ?_
  refine j_iload_n 0 dX11_all_50 rfl ?_
  refine j_iload_n 3 dX11_all_51 rfl ?_
  refine j_callV (kc := 0) (ks := 0) (a := 0) (b := 0) (d' := d) (As := [.ref 5, .int 16, .ref f, .int (nI 48), .int 1]) dX11_all_52 kX11_225 rfl (shM (Fm.M sm15 hM) sgM_0) (by omega) rfl rfl rfl (Nat.le_of_ble_eq_true rfl) (Nat.le_of_ble_eq_true rfl) (T_carr1 (Fm.M sm15 hM) (a := 5) (f := f) (n := 16) (p := 48) sgM_5 gf (by omega) (by decide) (by decide)) (kk_e (fun M19 hM20 => ?_))
  obtain ⟨h023, he24⟩ := hM20
  have ac22 := ld_step hf sm15 ac16 h023 he24 (fun i hi => kp_T (b := 3) (by decide) hi) (fun k h => by unfold kpO; (repeat' split); all_goals omega)
  have sm21 : Fm PH M M19 := Fm.tr sm15 (Fm.mo h023 (fun q k z => by unfold PH; omega))
  refine j_istore_n (L' := [(3, .int (nI 64)), (0, .ref 0), (1, .ref f), (2, .int 1)]) dX11_all_55 (by decide) rfl ?_
  refine j_aload_n 1 dX11_all_56 rfl ?_
  refine j_aload_n 1 dX11_all_57 rfl ?_
  refine j_getr (q := 6) dX11_all_58 fX11_41 (shM (Fm.M sm21 hM) sgM_0) rfl (rfM (Fm.M sm21 hM) rfM_0_14) ?_
  refine j_bipush 8 dX11_all_61 bp_8 ?_
  refine j_aload_n 2 dX11_all_63 rfl ?_
  refine j_iload_n 0 dX11_all_64 rfl ?_
  refine j_iload_n 3 dX11_all_65 rfl ?_
  refine j_callV (kc := 0) (ks := 0) (a := 0) (b := 0) (d' := d) (As := [.ref 6, .int 8, .ref f, .int (nI 64), .int 1]) dX11_all_66 kX11_225 rfl (shM (Fm.M sm21 hM) sgM_0) (by omega) rfl rfl rfl (Nat.le_of_ble_eq_true rfl) (Nat.le_of_ble_eq_true rfl) (T_carr1 (Fm.M sm21 hM) (a := 6) (f := f) (n := 8) (p := 64) sgM_6 gf (by omega) (by decide) (by decide)) (kk_e (fun M25 hM26 => ?_))
  obtain ⟨h029, he30⟩ := hM26
  have ac28 := ld_step hf sm21 ac22 h029 he30 (fun i hi => kp_N (b := 0) (by decide) hi) (fun k h => by unfold kpO; (repeat' split); all_goals omega)
  have sm27 : Fm PH M M25 := Fm.tr sm21 (Fm.mo h029 (fun q k z => by unfold PH; omega))
  refine j_istore_n (L' := [(3, .int (nI 72)), (0, .ref 0), (1, .ref f), (2, .int 1)]) dX11_all_69 (by decide) rfl ?_
  refine j_aload_n 1 dX11_all_70 rfl ?_
  refine j_aload_n 1 dX11_all_71 rfl ?_
  refine j_getr (q := 7) dX11_all_72 fX11_44 (shM (Fm.M sm27 hM) sgM_0) rfl (rfM (Fm.M sm27 hM) rfM_0_15) ?_
  refine j_bipush 8 dX11_all_75 bp_8 ?_
  refine j_aload_n 2 dX11_all_77 rfl ?_
  refine j_iload_n 0 dX11_all_78 rfl ?_
  refine j_iload_n 3 dX11_all_79 rfl ?_
  refine j_callV (kc := 0) (ks := 0) (a := 0) (b := 0) (d' := d) (As := [.ref 7, .int 8, .ref f, .int (nI 72), .int 1]) dX11_all_80 kX11_225 rfl (shM (Fm.M sm27 hM) sgM_0) (by omega) rfl rfl rfl (Nat.le_of_ble_eq_true rfl) (Nat.le_of_ble_eq_true rfl) (T_carr1 (Fm.M sm27 hM) (a := 7) (f := f) (n := 8) (p := 72) sgM_7 gf (by omega) (by decide) (by decide)) (kk_e (fun M31 hM32 => ?_))
  obtain ⟨h035, he36⟩ := hM32
  have ac34 := ld_step hf sm27 ac28 h035 he36 (fun i hi => kp_N (b := 1) (by decide) hi) (fun k h => by unfold kpO; (repeat' split); all_goals omega)
  have sm33 : Fm PH M M31 := Fm.tr sm27 (Fm.mo h035 (fun q k z => by unfold PH; omega))
  refine j_istore_n (L' := [(3, .int (nI 80)), (0, .ref 0), (1, .ref f), (2, .int 1)]) dX11_all_83 (by decide) rfl ?_
  refine j_aload_n 1 dX11_all_84 rfl ?_
  refine j_aload_n 1 dX11_all_85 rfl ?_
  refine j_getr (q := 8) dX11_all_86 fX11_47 (shM (Fm.M sm33 hM) sgM_0) rfl (rfM (Fm.M sm33 hM) rfM_0_16) ?_
  refine j_bipush 6 dX11_all_89 bp_6 ?_
  refine j_aload_n 2 dX11_all_91 rfl ?_
  refine j_iload_n 0 dX11_all_92 rfl ?_
  refine j_iload_n 3 dX11_all_93 rfl ?_
  refine j_callV (kc := 0) (ks := 0) (a := 0) (b := 0) (d' := d) (As := [.ref 8, .int 6, .ref f, .int (nI 80), .int 1]) dX11_all_94 kX11_225 rfl (shM (Fm.M sm33 hM) sgM_0) (by omega) rfl rfl rfl (Nat.le_of_ble_eq_true rfl) (Nat.le_of_ble_eq_true rfl) (T_carr1 (Fm.M sm33 hM) (a := 8) (f := f) (n := 6) (p := 80) sgM_8 gf (by omega) (by decide) (by decide)) (kk_e (fun M37 hM38 => ?_))
  obtain ⟨h041, he42⟩ := hM38
  have ac40 := ld_step hf sm33 ac34 h041 he42 (fun i hi => kp_D (b := 0) (by decide) hi) (fun k h => by unfold kpO; (repeat' split); all_goals omega)
  have sm39 : Fm PH M M37 := Fm.tr sm33 (Fm.mo h041 (fun q k z => by unfold PH; omega))
  refine j_istore_n (L' := [(3, .int (nI 86)), (0, .ref 0), (1, .ref f), (2, .int 1)]) dX11_all_97 (by decide) rfl ?_
  refine j_aload_n 1 dX11_all_98 rfl ?_
  refine j_aload_n 1 dX11_all_99 rfl ?_
  refine j_getr (q := 9) dX11_all_100 fX11_50 (shM (Fm.M sm39 hM) sgM_0) rfl (rfM (Fm.M sm39 hM) rfM_0_17) ?_
  refine j_bipush 6 dX11_all_103 bp_6 ?_
  refine j_aload_n 2 dX11_all_105 rfl ?_
  refine j_iload_n 0 dX11_all_106 rfl ?_
  refine j_iload_n 3 dX11_all_107 rfl ?_
  refine j_callV (kc := 0) (ks := 0) (a := 0) (b := 0) (d' := d) (As := [.ref 9, .int 6, .ref f, .int (nI 86), .int 1]) dX11_all_108 kX11_225 rfl (shM (Fm.M sm39 hM) sgM_0) (by omega) rfl rfl rfl (Nat.le_of_ble_eq_true rfl) (Nat.le_of_ble_eq_true rfl) (T_carr1 (Fm.M sm39 hM) (a := 9) (f := f) (n := 6) (p := 86) sgM_9 gf (by omega) (by decide) (by decide)) (kk_e (fun M43 hM44 => ?_))
  obtain ⟨h047, he48⟩ := hM44
  have ac46 := ld_step hf sm39 ac40 h047 he48 (fun i hi => kp_D (b := 1) (by decide) hi) (fun k h => by unfold kpO; (repeat' split); all_goals omega)
  have sm45 : Fm PH M M43 := Fm.tr sm39 (Fm.mo h047 (fun q k z => by unfold PH; omega))
  refine j_istore_n (L' := [(3, .int (nI 92)), (0, .ref 0), (1, .ref f), (2, .int 1)]) dX11_all_111 (by decide) rfl ?_
  refine j_aload_n 1 dX11_all_112 rfl ?_
  refine j_aload_n 1 dX11_all_113 rfl ?_
  refine j_getr (q := 10) dX11_all_114 fX11_53 (shM (Fm.M sm45 hM) sgM_0) rfl (rfM (Fm.M sm45 hM) rfM_0_18) ?_
  refine j_bipush 6 dX11_all_117 bp_6 ?_
  refine j_aload_n 2 dX11_all_119 rfl ?_
  refine j_iload_n 0 dX11_all_120 rfl ?_
  refine j_iload_n 3 dX11_all_121 rfl ?_
  refine j_callV (kc := 0) (ks := 0) (a := 0) (b := 0) (d' := d) (As := [.ref 10, .int 6, .ref f, .int (nI 92), .int 1]) dX11_all_122 kX11_225 rfl (shM (Fm.M sm45 hM) sgM_0) (by omega) rfl rfl rfl (Nat.le_of_ble_eq_true rfl) (Nat.le_of_ble_eq_true rfl) (T_carr1 (Fm.M sm45 hM) (a := 10) (f := f) (n := 6) (p := 92) sgM_10 gf (by omega) (by decide) (by decide)) (kk_e (fun M49 hM50 => ?_))
  obtain ⟨h053, he54⟩ := hM50
  have ac52 := ld_step hf sm45 ac46 h053 he54 (fun i hi => kp_D (b := 2) (by decide) hi) (fun k h => by unfold kpO; (repeat' split); all_goals omega)
  have sm51 : Fm PH M M49 := Fm.tr sm45 (Fm.mo h053 (fun q k z => by unfold PH; omega))
  refine j_istore_n (L' := [(3, .int (nI 98)), (0, .ref 0), (1, .ref f), (2, .int 1)]) dX11_all_125 (by decide) rfl ?_
  refine j_aload_n 1 dX11_all_126 rfl ?_
  refine j_aload_n 1 dX11_all_127 rfl ?_
  refine j_getr (q := 11) dX11_all_128 fX11_56 (shM (Fm.M sm51 hM) sgM_0) rfl (rfM (Fm.M sm51 hM) rfM_0_19) ?_
  refine j_bipush 6 dX11_all_131 bp_6 ?_
  refine j_aload_n 2 dX11_all_133 rfl ?_
  refine j_iload_n 0 dX11_all_134 rfl ?_
  refine j_iload_n 3 dX11_all_135 rfl ?_
  refine j_callV (kc := 0) (ks := 0) (a := 0) (b := 0) (d' := d) (As := [.ref 11, .int 6, .ref f, .int (nI 98), .int 1]) dX11_all_136 kX11_225 rfl (shM (Fm.M sm51 hM) sgM_0) (by omega) rfl rfl rfl (Nat.le_of_ble_eq_true rfl) (Nat.le_of_ble_eq_true rfl) (T_carr1 (Fm.M sm51 hM) (a := 11) (f := f) (n := 6) (p := 98) sgM_11 gf (by omega) (by decide) (by decide)) (kk_e (fun M55 hM56 => ?_))
  obtain ⟨h059, he60⟩ := hM56
  have ac58 := ld_step hf sm51 ac52 h059 he60 (fun i hi => kp_D (b := 3) (by decide) hi) (fun k h => by unfold kpO; (repeat' split); all_goals omega)
  have sm57 : Fm PH M M55 := Fm.tr sm51 (Fm.mo h059 (fun q k z => by unfold PH; omega))
  refine j_istore_n (L' := [(3, .int (nI 104)), (0, .ref 0), (1, .ref f), (2, .int 1)]) dX11_all_139 (by decide) rfl ?_
  refine j_aload_n 1 dX11_all_140 rfl ?_
  refine j_aload_n 1 dX11_all_141 rfl ?_
  refine j_getr (q := 12) dX11_all_142 fX11_59 (shM (Fm.M sm57 hM) sgM_0) rfl (rfM (Fm.M sm57 hM) rfM_0_20) ?_
  refine j_iconst 2 dX11_all_145 ic_2 ?_
  refine j_aload_n 2 dX11_all_146 rfl ?_
  refine j_iload_n 0 dX11_all_147 rfl ?_
  refine j_iload_n 3 dX11_all_148 rfl ?_
  refine j_callV (kc := 0) (ks := 0) (a := 0) (b := 0) (d' := d) (As := [.ref 12, .int 2, .ref f, .int (nI 104), .int 1]) dX11_all_149 kX11_225 rfl (shM (Fm.M sm57 hM) sgM_0) (by omega) rfl rfl rfl (Nat.le_of_ble_eq_true rfl) (Nat.le_of_ble_eq_true rfl) (T_carr1 (Fm.M sm57 hM) (a := 12) (f := f) (n := 2) (p := 104) sgM_12 gf (by omega) (by decide) (by decide)) (kk_e (fun M61 hM62 => ?_))
  obtain ⟨h065, he66⟩ := hM62
  have ac64 := ld_step hf sm57 ac58 h065 he66 (fun i hi => kp_B hi) (fun k h => by unfold kpO; (repeat' split); all_goals omega)
  have sm63 : Fm PH M M61 := Fm.tr sm57 (Fm.mo h065 (fun q k z => by unfold PH; omega))
  refine j_istore_n (L' := [(3, .int (nI 106)), (0, .ref 0), (1, .ref f), (2, .int 1)]) dX11_all_152 (by decide) rfl ?_
  refine j_iload_n 3 dX11_all_153 rfl ?_
  refine j_if_eq (tgt := 232) dX11_all_154 rfl (fun c67 => ?_) (fun c67 => ?_)
  · exact absurd c67 (by decide)
  · refine j_aload_n 1 dX11_all_157 rfl ?_
    refine j_aload_n 2 dX11_all_158 rfl ?_
    refine j_iload_n 0 dX11_all_159 rfl ?_
    refine j_ialdN 106 dX11_all_160 (shM (Fm.M sm63 hM) gf) (by omega) (by omega) ?_
    refine j_topi (M.2.1 f 106) (Fm.rd sm63 (by unfold PH; omega)) ?_
    refine j_put dX11_all_161 fX11_123 (shM (Fm.M sm63 hM) sgM_0) rfl ?_
    have sm68 : Fm PH M (jk_wI M61 0 0 (M.2.1 f 106)) := Fm.w sm63 (by unfold PH; omega)
    refine j_aload_n 1 dX11_all_164 rfl ?_
    refine j_aload_n 2 dX11_all_165 rfl ?_
    refine j_iload_n 0 dX11_all_166 rfl ?_
    refine j_iconst 1 dX11_all_167 ic_1 ?_
    refine j_iaddN 106 1 dX11_all_168 ?_
    refine j_ialdN (106 + 1) dX11_all_169 (shM (Fm.M sm68 hM) gf) (by omega) (by omega) ?_
    refine j_topi (M.2.1 f (106 + 1)) (Fm.rd sm68 (by unfold PH; omega)) ?_
    refine j_put dX11_all_170 fX11_144 (shM (Fm.M sm68 hM) sgM_0) rfl ?_
    have sm69 : Fm PH M (jk_wI (jk_wI M61 0 0 (M.2.1 f 106)) 0 1 (M.2.1 f (106 + 1))) := Fm.w sm68 (by unfold PH; omega)
    refine j_aload_n 1 dX11_all_173 rfl ?_
    refine j_aload_n 2 dX11_all_174 rfl ?_
    refine j_iload_n 0 dX11_all_175 rfl ?_
    refine j_iconst 2 dX11_all_176 ic_2 ?_
    refine j_iaddN 106 2 dX11_all_177 ?_
    refine j_ialdN (106 + 2) dX11_all_178 (shM (Fm.M sm69 hM) gf) (by omega) (by omega) ?_
    refine j_topi (M.2.1 f (106 + 2)) (Fm.rd sm69 (by unfold PH; omega)) ?_
    refine j_put dX11_all_179 fX11_147 (shM (Fm.M sm69 hM) sgM_0) rfl ?_
    have sm70 : Fm PH M (jk_wI (jk_wI (jk_wI M61 0 0 (M.2.1 f 106)) 0 1 (M.2.1 f (106 + 1))) 0 2 (M.2.1 f (106 + 2))) := Fm.w sm69 (by unfold PH; omega)
    refine j_aload_n 1 dX11_all_182 rfl ?_
    refine j_aload_n 2 dX11_all_183 rfl ?_
    refine j_iload_n 0 dX11_all_184 rfl ?_
    refine j_iconst 3 dX11_all_185 ic_3 ?_
    refine j_iaddN 106 3 dX11_all_186 ?_
    refine j_ialdN (106 + 3) dX11_all_187 (shM (Fm.M sm70 hM) gf) (by omega) (by omega) ?_
    refine j_topi (M.2.1 f (106 + 3)) (Fm.rd sm70 (by unfold PH; omega)) ?_
    refine j_put dX11_all_188 fX11_7 (shM (Fm.M sm70 hM) sgM_0) rfl ?_
    have sm71 : Fm PH M (jk_wI (jk_wI (jk_wI (jk_wI M61 0 0 (M.2.1 f 106)) 0 1 (M.2.1 f (106 + 1))) 0 2 (M.2.1 f (106 + 2))) 0 3 (M.2.1 f (106 + 3))) := Fm.w sm70 (by unfold PH; omega)
    refine j_aload_n 1 dX11_all_191 rfl ?_
    refine j_aload_n 2 dX11_all_192 rfl ?_
    refine j_iload_n 0 dX11_all_193 rfl ?_
    refine j_iconst 4 dX11_all_194 ic_4 ?_
    refine j_iaddN 106 4 dX11_all_195 ?_
    refine j_ialdN (106 + 4) dX11_all_196 (shM (Fm.M sm71 hM) gf) (by omega) (by omega) ?_
    refine j_topi (M.2.1 f (106 + 4)) (Fm.rd sm71 (by unfold PH; omega)) ?_
    refine j_put dX11_all_197 fX11_13 (shM (Fm.M sm71 hM) sgM_0) rfl ?_
    have sm72 : Fm PH M (jk_wI (jk_wI (jk_wI (jk_wI (jk_wI M61 0 0 (M.2.1 f 106)) 0 1 (M.2.1 f (106 + 1))) 0 2 (M.2.1 f (106 + 2))) 0 3 (M.2.1 f (106 + 3))) 0 4 (M.2.1 f (106 + 4))) := Fm.w sm71 (by unfold PH; omega)
    refine j_aload_n 1 dX11_all_200 rfl ?_
    refine j_aload_n 2 dX11_all_201 rfl ?_
    refine j_iload_n 0 dX11_all_202 rfl ?_
    refine j_iconst 5 dX11_all_203 ic_5 ?_
    refine j_iaddN 106 5 dX11_all_204 ?_
    refine j_ialdN (106 + 5) dX11_all_205 (shM (Fm.M sm72 hM) gf) (by omega) (by omega) ?_
    refine j_topi (M.2.1 f (106 + 5)) (Fm.rd sm72 (by unfold PH; omega)) ?_
    refine j_put dX11_all_206 fX11_16 (shM (Fm.M sm72 hM) sgM_0) rfl ?_
    have sm73 : Fm PH M (jk_wI (jk_wI (jk_wI (jk_wI (jk_wI (jk_wI M61 0 0 (M.2.1 f 106)) 0 1 (M.2.1 f (106 + 1))) 0 2 (M.2.1 f (106 + 2))) 0 3 (M.2.1 f (106 + 3))) 0 4 (M.2.1 f (106 + 4))) 0 5 (M.2.1 f (106 + 5))) := Fm.w sm72 (by unfold PH; omega)
    refine j_aload_n 1 dX11_all_209 rfl ?_
    refine j_aload_n 2 dX11_all_210 rfl ?_
    refine j_iload_n 0 dX11_all_211 rfl ?_
    refine j_bipush 6 dX11_all_212 bp_6 ?_
    refine j_iaddN 106 6 dX11_all_214 ?_
    refine j_ialdN (106 + 6) dX11_all_215 (shM (Fm.M sm73 hM) gf) (by omega) (by omega) ?_
    refine j_topi (M.2.1 f (106 + 6)) (Fm.rd sm73 (by unfold PH; omega)) ?_
    refine j_put dX11_all_216 fX11_170 (shM (Fm.M sm73 hM) sgM_0) rfl ?_
    have sm74 : Fm PH M (jk_wI (jk_wI (jk_wI (jk_wI (jk_wI (jk_wI (jk_wI M61 0 0 (M.2.1 f 106)) 0 1 (M.2.1 f (106 + 1))) 0 2 (M.2.1 f (106 + 2))) 0 3 (M.2.1 f (106 + 3))) 0 4 (M.2.1 f (106 + 4))) 0 5 (M.2.1 f (106 + 5))) 0 6 (M.2.1 f (106 + 6))) := Fm.w sm73 (by unfold PH; omega)
    refine j_aload_n 1 dX11_all_219 rfl ?_
    refine j_aload_n 2 dX11_all_220 rfl ?_
    refine j_iload_n 0 dX11_all_221 rfl ?_
    refine j_bipush 7 dX11_all_222 bp_7 ?_
    refine j_iaddN 106 7 dX11_all_224 ?_
    refine j_ialdN (106 + 7) dX11_all_225 (shM (Fm.M sm74 hM) gf) (by omega) (by omega) ?_
    refine j_topi (M.2.1 f (106 + 7)) (Fm.rd sm74 (by unfold PH; omega)) ?_
    refine j_put dX11_all_226 fX11_19 (shM (Fm.M sm74 hM) sgM_0) rfl ?_
    have sm75 : Fm PH M (jk_wI (jk_wI (jk_wI (jk_wI (jk_wI (jk_wI (jk_wI (jk_wI M61 0 0 (M.2.1 f 106)) 0 1 (M.2.1 f (106 + 1))) 0 2 (M.2.1 f (106 + 2))) 0 3 (M.2.1 f (106 + 3))) 0 4 (M.2.1 f (106 + 4))) 0 5 (M.2.1 f (106 + 5))) 0 6 (M.2.1 f (106 + 6))) 0 7 (M.2.1 f (106 + 7))) := Fm.w sm74 (by unfold PH; omega)
    refine j_goto (tgt := 304) dX11_all_229 rfl ?_
    refine j_vret dX11_all_304 rfl ?_
    exact hQ _ _ ⟨rfl, sm75, ld_mv hK ok (ld_end ac64)⟩
set_option maxRecDepth 20000 in
set_option maxHeartbeats 4000000 in
theorem N_image {d : Nat} {M : jk_M} {Z : ZS} (cv : MV M Z) (ok : Zok Z) : J Fr_X11_image (d + 2) 0 0 0 [(0, .ref 0)] [] M (jk_ex (some (.int (imageZ Z).1)) (fun M1 => MV M1 (imageZ Z).2)) := by
  refine j_post (fun Q hQ => ?_)
  have hM := cv.1
  have hS := cv.2.1
  have okS := ok.1
  have h40 := cv.2.2.2.2.2.2.2.2.2.2.1
  refine j_aload_n 0 dX11_image_0 rfl ?_
  refine j_iconst 1 dX11_image_1 ic_1 ?_
  refine j_putz dX11_image_2 fX11_334 (shM hM sgM_0) rfl (by decide) ?_
  have sm1 : Fm (fun q k => q = 23 ∨ (q = 0 ∧ k = 50)) M (jk_wI M 0 50 1) := Fm.w Fm.rf (by omega)
  refine j_aload_n 0 dX11_image_5 rfl ?_
  refine j_aload_n 0 dX11_image_6 rfl ?_
  refine j_getr (q := 23) dX11_image_7 fX11_93 (shM (Fm.M sm1 hM) sgM_0) rfl (rfM (Fm.M sm1 hM) rfM_0_36) ?_
  refine j_iconst 0 dX11_image_10 ic_0 ?_
  refine j_callV (kc := 0) (ks := 0) (a := 0) (b := 0) (d' := (d + 1)) (As := [.ref 23, .int 0]) dX11_image_11 kX11_232 rfl (shM (Fm.M sm1 hM) sgM_0) (by omega) rfl rfl rfl (Nat.le_of_ble_eq_true rfl) (Nat.le_of_ble_eq_true rfl) (T_all0 (Fm.M sm1 hM) (f := 23) (Or.inr rfl) okS (Fm.mv sm1 hS (fun q k hq => by unfold PH at hq; omega))) (kk_ev (fun M2 hM3 => ?_))
  obtain ⟨h0I, hk1⟩ := hM3
  have smI : Fm (fun q k => q = 23 ∨ (q = 0 ∧ k = 50)) M M2 := Fm.tr sm1 (Fm.mo h0I (fun q k z => Or.inl z))
  have hv1 : mv M2.2.1 = Z.1 := Fm.mv smI hS (fun q k hq => by unfold PH at hq; omega)
  refine j_aload_n 0 dX11_image_14 rfl ?_
  refine j_getv (nI (nT Z.1)) dX11_image_15 fX11_123 (shM (Fm.M smI hM) sgM_0) rfl ((mr_T hv1).trans (Sok.T okS).1) ?_
  refine j_iret dX11_image_18 rfl ?_
  exact hQ _ _ ⟨rfl, MV.img cv smI ((Fm.rd h0I (by omega)).trans rd_s) hk1⟩
set_option maxRecDepth 20000 in
set_option maxHeartbeats 4000000 in
theorem N_restore {d : Nat} {M : jk_M} {Z : ZS} (cv : MV M Z) (ok : Zok Z) : J Fr_X11_restore (d + 2) 0 0 0 [(0, .ref 0)] [] M (jk_ex (some (.int (restoreZ Z).1)) (fun M1 => MV M1 (restoreZ Z).2)) := by
  refine j_post (fun Q hQ => ?_)
  have hM := cv.1
  have hS := cv.2.1
  have okS := ok.1
  have h40 := cv.2.2.2.2.2.2.2.2.2.2.1
  have okK := ok.2.1
  have hT := (Sok.T okK).2
  refine j_aload_n 0 dX11_restore_0 rfl ?_
  refine j_getv (Z.2.2.2.2 8) dX11_restore_1 fX11_334 (shM hM sgM_0) rfl cv.2.2.2.2.2.2.1 ?_
  refine j_if_ne (tgt := 14) dX11_restore_4 rfl (fun c1 => ?_) (fun c1 => ?_)
  · refine j_aload_n 0 dX11_restore_14 rfl ?_
    refine j_aload_n 0 dX11_restore_15 rfl ?_
    refine j_getr (q := 23) dX11_restore_16 fX11_93 (shM hM sgM_0) rfl (rfM hM rfM_0_36) ?_
    refine j_iconst 1 dX11_restore_19 ic_1 ?_
    refine j_callV (kc := 0) (ks := 0) (a := 0) (b := 0) (d' := (d + 1)) (As := [.ref 23, .int 1]) dX11_restore_20 kX11_232 rfl (shM hM sgM_0) (by omega) rfl rfl rfl (Nat.le_of_ble_eq_true rfl) (Nat.le_of_ble_eq_true rfl) (T_all1 hM (f := 23) (Or.inr rfl) okK (cv.2.2.1 (ok.2.2.2.2.resolve_left (by assumption)))) (kk_ev (fun M2 hM3 => ?_))
    obtain ⟨h0R, hv1⟩ := hM3
    have smR : Fm PO M M2 := Fm.mo h0R (fun q k z => Or.inl z)
    have ec0 : clrN (nT Z.2.1) Z.2.2.1 0 = Z.2.2.1 := by funext s; simp [clrN]
    have cv0 : MV M2 (Z.2.1, Z.2.1, clrN (nT Z.2.1) Z.2.2.1 0, Z.2.2.2) := ec0.symm ▸ MV.now cv smR hv1
    refine j_iconst 0 dX11_restore_23 ic_0 ?_
    refine j_istore_n (L' := [(1, .int 0), (0, .ref 0)]) dX11_restore_24 (by decide) rfl ?_
    have lp6 : ∀ (k4 : Nat) (i : Nat) (M1 : jk_M), 8 - i < k4 → (i ≤ 8) → (MV M1 (Z.2.1, Z.2.1, clrN (nT Z.2.1) Z.2.2.1 i, Z.2.2.2)) → J Fr_X11_restore (d + 2) 0 0 25 [(0, .ref 0), (1, .int (nI i))] [] M1 Q := by
      intro k4
      induction k4 with
      | zero => intro i M1 hk; exact absurd hk (Nat.not_lt_zero _)
      | succ k4 ih5 =>
        intro i M1 hk4 hi cvi
        refine j_iload_n 1 dX11_restore_25 rfl ?_
        refine j_bipush 8 dX11_restore_26 bp_8 ?_
        refine j_icmp_geN (tgt := 67) i 8 dX11_restore_28 rfl (by omega) (by omega) (fun c7 => ?_) (fun c7 => ?_)
        · refine j_aload_n 0 dX11_restore_67 rfl ?_
          refine j_getv (nI (nT Z.2.1)) dX11_restore_68 fX11_123 (shM cvi.1 sgM_0) rfl ((mr_T cvi.2.1).trans (Sok.T okK).1) ?_
          refine j_iret dX11_restore_71 rfl ?_
          have e : i = 8 := by omega
          subst e
          have hz : restoreZ Z = (nI (nT Z.2.1), (Z.2.1, Z.2.1, clrN (nT Z.2.1) Z.2.2.1 8, Z.2.2.2)) := by rw [restoreZ, cif_f (by assumption)]
          exact hQ _ _ ⟨by rw [hz], by rw [hz]; exact cvi⟩
        · refine j_aload_n 0 dX11_restore_31 rfl ?_
          refine j_getr (q := 13) dX11_restore_32 fX11_62 (shM cvi.1 sgM_0) rfl (rfM cvi.1 rfM_0_21) ?_
          refine j_iload_n 1 dX11_restore_35 rfl ?_
          refine j_ialdN i dX11_restore_36 (shM cvi.1 sgM_13) (by omega) (by omega) ?_
          refine j_iconst 2 dX11_restore_37 ic_2 ?_
          refine j_icmp_ne (tgt := 61) dX11_restore_38 rfl (fun c8 => ?_) (fun c8 => ?_)
          · refine j_iinc 1 (nI (i + 1)) (L' := [(1, .int (nI (i + 1))), (0, .ref 0)]) dX11_restore_61 rfl (inc1 i) (by decide) rfl ?_
            refine j_goto (tgt := 25) dX11_restore_64 rfl ?_
            exact j_sub (jk_pick [1, 0] rfl) (ih5 (i + 1) M1 (by omega) (by omega) (clr_mn cvi (by omega) (ok.sh (by omega)) (by omega) (fun z => by first | assumption | exact absurd z (by assumption))))
          · refine j_aload_n 0 dX11_restore_41 rfl ?_
            refine j_getr (q := 16) dX11_restore_42 fX11_71 (shM cvi.1 sgM_0) rfl (rfM cvi.1 rfM_0_24) ?_
            refine j_iload_n 1 dX11_restore_45 rfl ?_
            refine j_ialdN i dX11_restore_46 (shM cvi.1 sgM_16) (by omega) (by omega) ?_
            refine j_aload_n 0 dX11_restore_47 rfl ?_
            refine j_getv (nI (nT Z.2.1)) dX11_restore_48 fX11_123 (shM cvi.1 sgM_0) rfl ((mr_T cvi.2.1).trans (Sok.T okK).1) ?_
            refine j_icmp_lt (tgt := 61) dX11_restore_51 rfl (fun c9 => ?_) (fun c9 => ?_)
            · refine j_iinc 1 (nI (i + 1)) (L' := [(1, .int (nI (i + 1))), (0, .ref 0)]) dX11_restore_61 rfl (inc1 i) (by decide) rfl ?_
              refine j_goto (tgt := 25) dX11_restore_64 rfl ?_
              exact j_sub (jk_pick [1, 0] rfl) (ih5 (i + 1) M1 (by omega) (by omega) (clr_mn cvi (by omega) (ok.sh (by omega)) (by omega) (fun z => by first | assumption | exact absurd z (by assumption))))
            · refine j_aload_n 0 dX11_restore_54 rfl ?_
              refine j_getr (q := 13) dX11_restore_55 fX11_62 (shM cvi.1 sgM_0) rfl (rfM cvi.1 rfM_0_21) ?_
              refine j_iload_n 1 dX11_restore_58 rfl ?_
              refine j_iconst 0 dX11_restore_59 ic_0 ?_
              refine j_iastN i dX11_restore_60 (shM cvi.1 sgM_13) (by omega) (by omega) ?_
              refine j_iinc 1 (nI (i + 1)) (L' := [(1, .int (nI (i + 1))), (0, .ref 0)]) dX11_restore_61 rfl (inc1 i) (by decide) rfl ?_
              refine j_goto (tgt := 25) dX11_restore_64 rfl ?_
              exact j_sub (jk_pick [1, 0] rfl) (ih5 (i + 1) (jk_wI M1 13 i 0) (by omega) (by omega) (clr_my cvi (by omega) (by assumption) (by assumption)))
    exact j_sub (jk_pick [1, 0] rfl) (lp6 _ 0 M2 (Nat.lt_succ_self _) (by omega) cv0)
  · refine j_aload_n 0 dX11_restore_7 rfl ?_
    refine j_bipush (-6) dX11_restore_8 bp_n6 ?_
    refine j_callV (kc := 0) (ks := 0) (a := 0) (b := 0) (d' := d) (As := [.int (-6)]) dX11_restore_10 kX11_130 rfl (shM hM sgM_0) (by omega) rfl rfl rfl (Nat.le_of_ble_eq_true rfl) (Nat.le_of_ble_eq_true rfl) (T_X11_no hM (-6) (by decide)) (kk_p ?_)
    refine j_iret dX11_restore_13 rfl ?_
    have hz : restoreZ Z = (-6, refZ Z (-6)) := by rw [restoreZ, cif_t (by assumption)]
    exact hQ _ _ ⟨by rw [hz], by rw [hz]; exact MV.rf cv (by decide)⟩
