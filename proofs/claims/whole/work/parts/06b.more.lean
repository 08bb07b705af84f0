section JC2
variable {F Fy : jk_F} {d d' kc ks a b pc idx n : Nat} {L Ly : List (Nat × Value)} {st As rest : List Value} {M : jk_M} {Q Q' : Option Value → jk_M → Prop} {y : MethodName}
def jk_kVs (own : String) (idx : Nat) (y : MethodName) (Fy : jk_F) (n : Nat) : Prop := jk_kc y Fy n ∧ Fy.2.2.2.2 = false ∧ Cond.methodLink own idx y ∈ jk_gt ∧ Cond.instanceMethod y ∈ jk_gt ∧ Cond.selects y.cls y y ∈ jk_gt ∧ "java/lang/String" = y.cls
theorem j_callVs {i : Nat} (hdg : decode F.2.1 pc = .ok (.invokevirtual idx, 3)) (hk : jk_kVs F.1 idx y Fy n) (hni : F.2.2.2.2 = false) (hi : i < 10) (hd : d' < d) (hAs : As.length = n) (hst : st = As.reverse ++ .ref (2000 + i) :: rest) (hLy : lv_args 0 (.ref (2000 + i) :: As) = Ly) (hsz : (lg_sl (.ref (2000 + i) :: As)).length ≤ Fy.2.2.1) (hrm : (rest.map fun v => v.category).sum ≤ 8) (hJ : J Fy d' a b 0 Ly [] M Q') (kk : ∀ r M', Q' r M' → J F d kc ks (pc + 3) L (r.toList ++ rest) M' Q) : J F d (kc + a) (ks + b) pc L st M Q := by
  intro ρ D dA A g0 p l e R s m args below meth c X H locs cells slots ls hW hA hc hs hl
  subst hst
  have hfr := X.2.2.2.2.2.2.2.2.2.1
  have hlo := X.2.2.2.2.2.2.2.2.2.2
  have h45 := hk.1.2.2.2.2.2.2
  have hdd : 64 * (d' + 1) + 64 ≤ 64 * (d + 1) := by omega
  have hrecv : ∃ cellB : Cell, H[ρ (2000 + i)]? = some cellB ∧ cellB.vm.isStatics = false ∧ s.vm.findClass y.cls = some cellB.cls := by
    rw [← hk.2.2.2.2.2]
    exact vk_recv (adK := fun i => ρ (2000 + i)) (i := i) hW.2.2.2.2.2.2.1 hi hW.2.2.2.1
  refine jk_behind (Fy := Fy) (Or.inl hni) kk X hW hA hc hs hl (va_runV (As := As.map (jk_V ρ)) (b := ρ (2000 + i)) ⟨X.1, X.2.1, X.2.2.1, X.2.2.2.2.2.1, X.2.2.2.2.2.2.2.1⟩ (jk_met hk.1.2.2.2.2.1 hk.1.2.2.2.2.2.1 (fun h => by rw [hk.2.1] at h; cases h) hLy hsz hJ l ρ D dA A) ⟨callB_of n X.2.2.2.2.2.2.2.1 (jk_GI1 hk.1) rfl rfl rfl (X.2.2.2.2.2.2.2.1 _ hk.1.2.1) (X.2.2.2.2.2.2.2.1 _ hk.2.2.1) ⟨hk.1.2.2.1.1, hk.1.2.2.1.2, hk.1.2.2.2.1⟩ ⟨(by show d' + 1 + 1 ≤ R.frames; omega), (by show 8 + (Fy.2.2.1 + 11) + 64 * (d' + 1) ≤ R.locals; omega)⟩, X.2.2.2.2.2.2.2.1 _ hk.2.2.2.1, X.2.2.2.2.2.2.2.1 _ hk.2.2.2.2.1⟩ ⟨jk_blind, hrecv, fun U hU hWm => ⟨rfl, jk_Brun (n0 := s.heap.size) (g0 := g0) (kc := kc) X hW (fun h => by rw [hk.2.1] at h; cases h) hU hWm⟩⟩ rfl (by rw [List.length_map]; exact hAs) hl.1 (by simp [List.map_append, List.map_reverse, jk_V]) (lv_room (by rw [jk_sum]; exact hrm)) hdg ⟨(by omega), (by omega)⟩)
theorem j_aret {q : Nat} {C : String} (hdg : decode F.2.1 pc = .ok (.areturn, 1)) (hr : F.2.2.2.1 = some (.object C)) (hq : Q (some (.ref q)) M) : J F d kc ks pc L [.ref q] M Q := by
  intro ρ D dA A g0 p l e R s m args below meth c X H locs cells slots ls hW hA hc hs hl
  refine W.widen (k := R.cells) (n := R.slots) (by omega) (by omega) ?_
  exact W.aret X.1 X.2.1 (X.2.2.2.1.trans hr) (Or.inl ⟨C, rfl⟩) (Or.inr ⟨ρ q, rfl⟩) (fun t ht hWm => ⟨⟨(some (.ref q)), M, rfl, hq, by rw [ht]; exact hW.1, hW.2.1, fun hi => by rw [ht]; exact (hA hi).1⟩, hW.2.2.2.1.F ht⟩) hW.2.2.2.1.2.2 hdg X.2.2.2.2.1
theorem j_aretN {C : String} (hdg : decode F.2.1 pc = .ok (.areturn, 1)) (hr : F.2.2.2.1 = some (.object C)) (hq : Q (some .null) M) : J F d kc ks pc L [.null] M Q := by
  intro ρ D dA A g0 p l e R s m args below meth c X H locs cells slots ls hW hA hc hs hl
  refine W.widen (k := R.cells) (n := R.slots) (by omega) (by omega) ?_
  exact W.aret X.1 X.2.1 (X.2.2.2.1.trans hr) (Or.inl ⟨C, rfl⟩) (Or.inl rfl) (fun t ht hWm => ⟨⟨(some .null), M, rfl, hq, by rw [ht]; exact hW.1, hW.2.1, fun hi => by rw [ht]; exact (hA hi).1⟩, hW.2.2.2.1.F ht⟩) hW.2.2.2.1.2.2 hdg X.2.2.2.2.1
end JC2
