/-! a house stays as a house is -/
theorem Sok.u1 {S : HS} {x : Int32} (ok : Sok S) (h : inB x 10 60) : Sok (upS S 1 0 x) := ⟨ok.1, h, ok.2.2.1, ok.2.2.2.1, ok.2.2.2.2.1, ok.2.2.2.2.2.1, ok.2.2.2.2.2.2.1, ok.2.2.2.2.2.2.2.1, ok.2.2.2.2.2.2.2.2.1, ok.2.2.2.2.2.2.2.2.2.1, ok.2.2.2.2.2.2.2.2.2.2.1, ok.2.2.2.2.2.2.2.2.2.2.2⟩
theorem Sok.u2 {S : HS} {x : Int32} (ok : Sok S) (h : inB x 1 13) : Sok (upS S 2 0 x) := ⟨ok.1, ok.2.1, h, ok.2.2.2.1, ok.2.2.2.2.1, ok.2.2.2.2.2.1, ok.2.2.2.2.2.2.1, ok.2.2.2.2.2.2.2.1, ok.2.2.2.2.2.2.2.2.1, ok.2.2.2.2.2.2.2.2.2.1, ok.2.2.2.2.2.2.2.2.2.2.1, ok.2.2.2.2.2.2.2.2.2.2.2⟩
theorem Sok.u3 {S : HS} {x : Int32} (ok : Sok S) (h : inB x 0 59) : Sok (upS S 3 0 x) := ⟨ok.1, ok.2.1, ok.2.2.1, h, ok.2.2.2.2.1, ok.2.2.2.2.2.1, ok.2.2.2.2.2.2.1, ok.2.2.2.2.2.2.2.1, ok.2.2.2.2.2.2.2.2.1, ok.2.2.2.2.2.2.2.2.2.1, ok.2.2.2.2.2.2.2.2.2.2.1, ok.2.2.2.2.2.2.2.2.2.2.2⟩
theorem Sok.u4 {S : HS} {x : Int32} (ok : Sok S) : Sok (upS S 4 0 x) := ⟨ok.1, ok.2.1, ok.2.2.1, ok.2.2.2.1, ok.2.2.2.2.1, ok.2.2.2.2.2.1, ok.2.2.2.2.2.2.1, ok.2.2.2.2.2.2.2.1, ok.2.2.2.2.2.2.2.2.1, ok.2.2.2.2.2.2.2.2.2.1, ok.2.2.2.2.2.2.2.2.2.2.1, ok.2.2.2.2.2.2.2.2.2.2.2⟩
theorem Sok.u5 {S : HS} {x : Int32} (ok : Sok S) (h : isC S x) : Sok (upS S 5 0 x) := ⟨ok.1, ok.2.1, ok.2.2.1, ok.2.2.2.1, h, ok.2.2.2.2.2.1, ok.2.2.2.2.2.2.1, ok.2.2.2.2.2.2.2.1, ok.2.2.2.2.2.2.2.2.1, ok.2.2.2.2.2.2.2.2.2.1, ok.2.2.2.2.2.2.2.2.2.2.1, ok.2.2.2.2.2.2.2.2.2.2.2⟩
theorem Sok.u6 {S : HS} {x : Int32} (ok : Sok S) (h : x = -1 ∨ isC S x) : Sok (upS S 6 0 x) := ⟨ok.1, ok.2.1, ok.2.2.1, ok.2.2.2.1, ok.2.2.2.2.1, h, ok.2.2.2.2.2.2.1, ok.2.2.2.2.2.2.2.1, ok.2.2.2.2.2.2.2.2.1, ok.2.2.2.2.2.2.2.2.2.1, ok.2.2.2.2.2.2.2.2.2.2.1, ok.2.2.2.2.2.2.2.2.2.2.2⟩
theorem isC.mono {S T : HS} {c : Int32} (h : isC S c) (hl : S 0 0 ≤ T 0 0) : isC T c := ⟨h.1, Int32.lt_of_lt_of_le h.2.1 hl, Int32.lt_of_lt_of_le h.2.2 hl⟩
theorem Sok.u0 {S : HS} {x : Int32} (ok : Sok S) (h : inB x 2 8) (hl : S 0 0 ≤ x) : Sok (upS S 0 0 x) := ⟨h, ok.2.1, ok.2.2.1, ok.2.2.2.1, isC.mono ok.2.2.2.2.1 hl, ok.2.2.2.2.2.1.imp id (fun z => isC.mono z hl), ok.2.2.2.2.2.2.1, ok.2.2.2.2.2.2.2.1, ok.2.2.2.2.2.2.2.2.1, fun i hi => ⟨(ok.th hi).1, (ok.th hi).2.1, isC.mono (ok.th hi).2.2.1 hl, (ok.th hi).2.2.2⟩, ok.2.2.2.2.2.2.2.2.2.2.1, fun i hi => ⟨isC.mono (ok.de hi).1 hl, (ok.de hi).2⟩⟩
theorem Sok.u10 {S : HS} {j : Nat} {x : Int32} (ok : Sok S) (h : inB x 0 6) : Sok (upS S 10 j x) := ⟨ok.1, ok.2.1, ok.2.2.1, ok.2.2.2.1, ok.2.2.2.2.1, ok.2.2.2.2.2.1, ok.2.2.2.2.2.2.1, ok.2.2.2.2.2.2.2.1, ok.2.2.2.2.2.2.2.2.1, fun i hi => ⟨by
    by_cases e : i = j
    · subst e; rw [upS_s]; exact h
    · rw [upS_n (fun z => e z.2)]; exact (ok.th hi).1, (ok.th hi).2.1, (ok.th hi).2.2.1, (ok.th hi).2.2.2⟩, ok.2.2.2.2.2.2.2.2.2.2.1, ok.2.2.2.2.2.2.2.2.2.2.2⟩
theorem Sok.u11 {S : HS} {j : Nat} {x : Int32} (ok : Sok S) (h : inB x 0 9) : Sok (upS S 11 j x) := ⟨ok.1, ok.2.1, ok.2.2.1, ok.2.2.2.1, ok.2.2.2.2.1, ok.2.2.2.2.2.1, ok.2.2.2.2.2.2.1, ok.2.2.2.2.2.2.2.1, ok.2.2.2.2.2.2.2.2.1, fun i hi => ⟨(ok.th hi).1, by
    by_cases e : i = j
    · subst e; rw [upS_s]; exact h
    · rw [upS_n (fun z => e z.2)]; exact (ok.th hi).2.1, (ok.th hi).2.2.1, (ok.th hi).2.2.2⟩, ok.2.2.2.2.2.2.2.2.2.2.1, ok.2.2.2.2.2.2.2.2.2.2.2⟩
theorem Sok.u12 {S : HS} {j : Nat} {x : Int32} (ok : Sok S) (h : isC S x) : Sok (upS S 12 j x) := ⟨ok.1, ok.2.1, ok.2.2.1, ok.2.2.2.1, ok.2.2.2.2.1, ok.2.2.2.2.2.1, ok.2.2.2.2.2.2.1, ok.2.2.2.2.2.2.2.1, ok.2.2.2.2.2.2.2.2.1, fun i hi => ⟨(ok.th hi).1, (ok.th hi).2.1, by
    by_cases e : i = j
    · subst e; rw [upS_s]; exact h
    · rw [upS_n (fun z => e z.2)]; exact (ok.th hi).2.2.1, (ok.th hi).2.2.2⟩, ok.2.2.2.2.2.2.2.2.2.2.1, ok.2.2.2.2.2.2.2.2.2.2.2⟩
theorem Sok.u13 {S : HS} {j : Nat} {x : Int32} (ok : Sok S) (h : x = 0 ∨ x = 1) : Sok (upS S 13 j x) := ⟨ok.1, ok.2.1, ok.2.2.1, ok.2.2.2.1, ok.2.2.2.2.1, ok.2.2.2.2.2.1, ok.2.2.2.2.2.2.1, ok.2.2.2.2.2.2.2.1, ok.2.2.2.2.2.2.2.2.1, fun i hi => ⟨(ok.th hi).1, (ok.th hi).2.1, (ok.th hi).2.2.1, by
    by_cases e : i = j
    · subst e; rw [upS_s]; exact h
    · rw [upS_n (fun z => e z.2)]; exact (ok.th hi).2.2.2⟩, ok.2.2.2.2.2.2.2.2.2.2.1, ok.2.2.2.2.2.2.2.2.2.2.2⟩
theorem Sok.u14 {S : HS} {j : Nat} {x : Int32} (ok : Sok S) (h : inB x 1 13) : Sok (upS S 14 j x) := ⟨ok.1, ok.2.1, ok.2.2.1, ok.2.2.2.1, ok.2.2.2.2.1, ok.2.2.2.2.2.1, ok.2.2.2.2.2.2.1, ok.2.2.2.2.2.2.2.1, ok.2.2.2.2.2.2.2.2.1, ok.2.2.2.2.2.2.2.2.2.1, fun i hi => ⟨by
    by_cases e : i = j
    · subst e; rw [upS_s]; exact h
    · rw [upS_n (fun z => e z.2)]; exact (ok.ne hi).1, (ok.ne hi).2⟩, ok.2.2.2.2.2.2.2.2.2.2.2⟩
theorem Sok.u16 {S : HS} {j : Nat} {x : Int32} (ok : Sok S) (h : isC S x) : Sok (upS S 16 j x) := ⟨ok.1, ok.2.1, ok.2.2.1, ok.2.2.2.1, ok.2.2.2.2.1, ok.2.2.2.2.2.1, ok.2.2.2.2.2.2.1, ok.2.2.2.2.2.2.2.1, ok.2.2.2.2.2.2.2.2.1, ok.2.2.2.2.2.2.2.2.2.1, ok.2.2.2.2.2.2.2.2.2.2.1, fun i hi => ⟨by
    by_cases e : i = j
    · subst e; rw [upS_s]; exact h
    · rw [upS_n (fun z => e z.2)]; exact (ok.de hi).1, (ok.de hi).2.1, (ok.de hi).2.2.1, (ok.de hi).2.2.2⟩⟩
theorem Sok.u19 {S : HS} {j : Nat} {x : Int32} (ok : Sok S) (h : x = 0 ∨ x = 1) : Sok (upS S 19 j x) := ⟨ok.1, ok.2.1, ok.2.2.1, ok.2.2.2.1, ok.2.2.2.2.1, ok.2.2.2.2.2.1, ok.2.2.2.2.2.2.1, ok.2.2.2.2.2.2.2.1, ok.2.2.2.2.2.2.2.2.1, ok.2.2.2.2.2.2.2.2.2.1, ok.2.2.2.2.2.2.2.2.2.2.1, fun i hi => ⟨(ok.de hi).1, (ok.de hi).2.1, (ok.de hi).2.2.1, by
    by_cases e : i = j
    · subst e; rw [upS_s]; exact h
    · rw [upS_n (fun z => e z.2)]; exact (ok.de hi).2.2.2⟩⟩
theorem Sok.aT {S : HS} {k a c : Int32} (ok : Sok S) (h16 : nT S < 16) (hk : inB k 0 6) (ha : inB a 0 9) (hc : isC S c) : Sok (addTS S k a c) := by
  obtain ⟨c7, c8, c9⟩ := addTS_n (k := k) (a := a) (c := c) h16
  refine ⟨ok.1, ok.2.1, ok.2.2.1, ok.2.2.2.1, ok.2.2.2.2.1, ok.2.2.2.2.2.1, ⟨nT S + 1, by omega, by omega, rfl⟩, ok.2.2.2.2.2.2.2.1, ok.2.2.2.2.2.2.2.2.1, fun i hi => ?_, ok.2.2.2.2.2.2.2.2.2.2.1, ok.2.2.2.2.2.2.2.2.2.2.2⟩
  rw [c7] at hi
  have e0 : ∀ b, 10 ≤ b → b < 14 → i ≠ nT S → addTS S k a c b i = S b i := fun b h1 h2 h3 => addTS_o (by omega) (by omega)
  by_cases e : i = nT S
  · subst e
    have f10 : addTS S k a c 10 (nT S) = k := by simp [addTS]
    have f11 : addTS S k a c 11 (nT S) = a := by simp [addTS]
    have f12 : addTS S k a c 12 (nT S) = c := by simp [addTS]
    have f13 : addTS S k a c 13 (nT S) = 1 := by simp [addTS]
    rw [f10, f11, f12, f13]
    exact ⟨hk, ha, hc, Or.inr rfl⟩
  · rw [e0 10 (by omega) (by omega) e, e0 11 (by omega) (by omega) e, e0 12 (by omega) (by omega) e, e0 13 (by omega) (by omega) e]
    exact ok.th (by omega)
theorem Sok.aN {S : HS} {c n : Int32} (ok : Sok S) (h8 : nN S < 8) (hc : inB c 1 13) (hn : inB n 0 20) : Sok (addNS S c n) := by
  obtain ⟨c8, c7, c9⟩ := addNS_n (c := c) (n := n) h8
  refine ⟨ok.1, ok.2.1, ok.2.2.1, ok.2.2.2.1, ok.2.2.2.2.1, ok.2.2.2.2.2.1, ok.2.2.2.2.2.2.1, ⟨nN S + 1, by omega, by omega, rfl⟩, ok.2.2.2.2.2.2.2.2.1, ok.2.2.2.2.2.2.2.2.2.1, fun i hi => ?_, ok.2.2.2.2.2.2.2.2.2.2.2⟩
  rw [c8] at hi
  have e0 : ∀ b, 14 ≤ b → b < 16 → i ≠ nN S → addNS S c n b i = S b i := fun b h1 h2 h3 => addNS_o (by omega) (by omega)
  by_cases e : i = nN S
  · subst e
    have f14 : addNS S c n 14 (nN S) = c := by simp [addNS]
    have f15 : addNS S c n 15 (nN S) = n := by simp [addNS]
    rw [f14, f15]
    exact ⟨hc, hn⟩
  · rw [e0 14 (by omega) (by omega) e, e0 15 (by omega) (by omega) e]
    exact ok.ne (by omega)
theorem Sok.aD {S : HS} {c w v : Int32} (ok : Sok S) (h6 : nD S < 6) (hc : isC S c) (hw : inB w 1 5) (hv : inB v 1 99) : Sok (addDS S c w v) := by
  obtain ⟨c9, c7, c8⟩ := addDS_n (c := c) (w := w) (v := v) h6
  refine ⟨ok.1, ok.2.1, ok.2.2.1, ok.2.2.2.1, ok.2.2.2.2.1, ok.2.2.2.2.2.1, ok.2.2.2.2.2.2.1, ok.2.2.2.2.2.2.2.1, ⟨nD S + 1, by omega, by omega, rfl⟩, ok.2.2.2.2.2.2.2.2.2.1, ok.2.2.2.2.2.2.2.2.2.2.1, fun i hi => ?_⟩
  rw [c9] at hi
  have e0 : ∀ b, 16 ≤ b → b < 20 → i ≠ nD S → addDS S c w v b i = S b i := fun b h1 h2 h3 => addDS_o (by omega) (by omega)
  by_cases e : i = nD S
  · subst e
    have f16 : addDS S c w v 16 (nD S) = c := by simp [addDS]
    have f17 : addDS S c w v 17 (nD S) = w := by simp [addDS]
    have f18 : addDS S c w v 18 (nD S) = v := by simp [addDS]
    have f19 : addDS S c w v 19 (nD S) = 0 := by simp [addDS]
    rw [f16, f17, f18, f19]
    exact ⟨hc, hw, hv, Or.inl rfl⟩
  · rw [e0 16 (by omega) (by omega) e, e0 17 (by omega) (by omega) e, e0 18 (by omega) (by omega) e, e0 19 (by omega) (by omega) e]
    exact ok.de (by omega)
