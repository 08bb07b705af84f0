def jk_rm (d a b : Nat) : Room := { frames := d + 1, cells := a, slots := b, locals := 64 * (d + 1) }
def jk_nwC (own : String) (idx ci : Nat) : Prop := ∃ (C : String) (T : u_T) (N : Nat), jk_cf ci C T N ∧ Cond.classLink own idx C ∈ jk_gt ∧ Cond.instantiable C N ∈ jk_gt ∧ Cond.initialized C ∈ jk_gt ∧ ∀ k, k < N → jk_isR (jk_ft ci k) = true ∨ jk_ft ci k = .int ∨ jk_ft ci k = .boolean
theorem jk_grow {ρ : Nat → Nat} {D : va_G} {dA : Nat → ClassId} {A : Nat → Prop} {M : jk_M} {s : State} {H H1 : Heap} {locs : List Loc} {sh : Nat × Nat} (hW : jk_Wd ρ D dA A M s H locs) (hρ : ρ M.1.length = H.size) (z1 : H1.size = H.size + 1) (o1 : ∀ q, q < H.size → H1[q]? = H[q]?) (he : va_at D vwCl (H.size, jk_E ρ dA (jk_nw M sh) M.1.length sh) H1) : jk_Wd ρ D dA A (jk_nw M sh) s H1 locs := by
  obtain ⟨hP, hD, hK, hS, hA, hSt⟩ := hW
  have hk : ∀ (k : Nat) (x : Nat × va_E), (jk_w ρ dA M)[k]? = some x → H1[x.1]? = H[x.1]? := fun k x hx => o1 x.1 ((hP k x hx).lt)
  refine ⟨?_, ?_, hK, ⟨Nat.le_trans hS.1 (by omega), fun x h1 h2 => (o1 x (Nat.lt_of_lt_of_le h1 hS.1)).trans (hS.2.1 x h1 h2), hS.2.2⟩, hA, hSt⟩
  · rw [jk_nww, hρ]
    refine (hP.kept hk).app (fun k x hx => ?_)
    have hz : k < 1 := (List.getElem?_eq_some_iff.mp hx).1
    rw [show k = 0 by omega] at hx
    cases hx
    exact he
  · rw [jk_nww, hρ]
    exact hD.push hP rfl (hA _ hS.1)
theorem jk_Al.grow {ρ : Nat → Nat} {n0 g0 kc : Nat} {M : jk_M} {H H1 : Heap} {sh : Nat × Nat} (h : jk_Al ρ true n0 g0 (kc + 1) M H) (z1 : H1.size = H.size + 1) : jk_Al ρ true n0 g0 kc (jk_nw M sh) H1 := fun _ => by
  have e : (jk_nw M sh).1.length = M.1.length + 1 := by simp [jk_nw]
  obtain ⟨h1, h2⟩ := h rfl
  rw [e, z1]
  refine ⟨by omega, fun _ j hj hj2 => ?_⟩
  have := h2 (by omega) j (by omega) hj2
  omega
theorem jk_nwE {ρ : Nat → Nat} {M : jk_M} {sh : Nat × Nat} : (jk_nw M sh).2.1 M.1.length = (fun _ => 0) ∧ (jk_nw M sh).2.2.1 M.1.length = (fun _ => 0) ∧ (jk_nw M sh).2.2.2 M.1.length = (fun _ => none) := ⟨jk_up_s _ _ _, jk_up_s _ _ _, jk_up_s _ _ _⟩
section JN
variable {F : jk_F} {d kc ks pc : Nat} {L : List (Nat × Value)} {st : List Value} {M : jk_M} {Q : Option Value → jk_M → Prop} {idx ci : Nat}
theorem j_new (hdg : decode F.2.1 pc = .ok (.new idx, 3)) (hini : F.2.2.2.2 = true) (hn : jk_nwC F.1 idx ci) (hlen : M.1.length < 1000) (kk : J F d kc ks (pc + 3) L (.ref M.1.length :: st) (jk_nw M (0, ci)) Q) : J F d (kc + 1) (ks + jk_nf ci) pc L st M Q := by
  intro ρ D dA A g0 p l e R s m args below meth c X H locs cells slots ls hW hA hc hs hl
  obtain ⟨C, T, N, ⟨hc1, hN, hin, hty, hnm⟩, w1, w2, w3, hok⟩ := hn
  rw [← hN] at hs
  have hρ : ρ M.1.length = H.size := by
    have := (hA hini).2 (by omega) M.1.length (Nat.le_refl _) hlen
    omega
  have hKn := hW.2.2.1.1 ci _ hc1
  refine W.newcK X.1 X.2.1 X.2.2.2.2.2.1 (X.2.2.2.2.2.2.2.1 _ w1) (X.2.2.2.2.2.2.2.1 _ w2) (X.2.2.2.2.2.2.2.1 _ w3) rfl hdg (by omega) (by omega) hKn.2.1 rfl fun H1 kC hkC e1 z1 o1 => ?_
  have hW1 : jk_Wd ρ D dA A (jk_nw M (0, ci)) s H1 locs := by
    refine jk_grow hW hρ z1 o1 ⟨_, hc1, (u_born (jk_ft ci) X.2.2.2.2.2.2.2.1 hin hKn hkC e1 hty).to (fun j hj => ?_)⟩
    show defaultValue (jk_ft ci j) = vp_V (jk_fs ρ (jk_nw M (0, ci)) M.1.length ci) j
    have hj2 : j < jk_nf ci := by rw [← hN]; exact hj
    rw [vp_V, List.getD_eq_getElem?_getD, jk_fsat hj2]
    simp only [Option.getD_some, jk_fv, (jk_nwE (ρ := ρ) (M := M) (sh := (0, ci))).1, (jk_nwE (ρ := ρ) (M := M) (sh := (0, ci))).2.2]
    rcases hok j hj with h | h | h
    · rw [if_pos h]
      cases e : jk_ft ci j <;> rw [e] at h <;> first | rfl | (exact absurd h (by decide))
    · rw [h]; rfl
    · rw [h]; rfl
  have hA1 : jk_Al ρ F.2.2.2.2 s.heap.size g0 kc (jk_nw M (0, ci)) H1 := by rw [hini] at hA ⊢; exact hA.grow z1
  have kk1 := kk ρ D dA A g0 p l e R s m args below meth c X H1 locs (cells + 1) (slots + N) ls hW1 hA1 (by omega) (by omega) hl
  rw [List.map_cons, show jk_V ρ (.ref M.1.length) = .ref H.size from congrArg Value.ref hρ] at kk1
  exact kk1
theorem j_newaI {at1 : ArrayType} {n : Int32} {N : Nat} (hdg : decode F.2.1 pc = .ok (.newarray at1, 2)) (hat : newarray.typeOf at1 = .int) (hini : F.2.2.2.2 = true) (hw : Cond.arrayClass .int ∈ jk_gt) (hn : ¬ n < 0) (hN : n.toNatClampNeg = N) (hN2 : N ≤ 100000) (hlen : M.1.length < 1000) (kk : J F d kc ks (pc + 2) L (.ref M.1.length :: st) (jk_nw M (1, N)) Q) : J F d (kc + 1) (ks + N) pc L (.int n :: st) M Q := by
  intro ρ D dA A g0 p l e R s m args below meth c X H locs cells slots ls hW hA hc hs hl
  have hρ : ρ M.1.length = H.size := by
    have := (hA hini).2 (by omega) M.1.length (Nat.le_refl _) hlen
    omega
  refine va_newaK X.1 X.2.1 (atype := at1) (by rw [hat]; exact X.2.2.2.2.2.2.2.1 _ hw) rfl hdg rfl hn hN (by rw [hat]; exact Nat.le_trans (Nat.mul_le_mul hN2 (show componentBytes .int ≤ 8 by decide)) (by decide)) (by omega) (by omega) rfl fun H1 cA e1 z1 o1 hAr hNm => ?_
  rw [hat] at e1 hNm
  have hcA : cA = dA 0 := by
    have h2 : s.vm.findClass ("[" ++ (FieldType.int).toString) = some (dA 0) := (hW.2.2.1.2 0 (dA 0, .int) rfl).2
    exact Option.some.inj (hNm.symm.trans h2)
  subst hcA
  have hW1 : jk_Wd ρ D dA A (jk_nw M (1, N)) s H1 locs := by
    refine jk_grow hW hρ z1 o1 ?_
    show H1[H.size]? = some (vp_cell (dA 0) (N, .inl ((jk_nw M (1, N)).2.1 M.1.length)))
    rw [(jk_nwE (ρ := ρ) (M := M) (sh := (1, N))).1]
    exact e1
  have hA1 : jk_Al ρ F.2.2.2.2 s.heap.size g0 kc (jk_nw M (1, N)) H1 := by rw [hini] at hA ⊢; exact hA.grow z1
  have kk1 := kk ρ D dA A g0 p l e R s m args below meth c X H1 locs (cells + 1) (slots + N) ls hW1 hA1 (by omega) (by omega) hl
  rw [List.map_cons, show jk_V ρ (.ref M.1.length) = .ref H.size from congrArg Value.ref hρ] at kk1
  exact kk1
theorem j_newaL {at1 : ArrayType} {n : Int32} {N : Nat} (hdg : decode F.2.1 pc = .ok (.newarray at1, 2)) (hat : newarray.typeOf at1 = .long) (hini : F.2.2.2.2 = true) (hw : Cond.arrayClass .long ∈ jk_gt) (hn : ¬ n < 0) (hN : n.toNatClampNeg = N) (hN2 : N ≤ 100000) (hlen : M.1.length < 1000) (kk : J F d kc ks (pc + 2) L (.ref M.1.length :: st) (jk_nw M (2, N)) Q) : J F d (kc + 1) (ks + N) pc L (.int n :: st) M Q := by
  intro ρ D dA A g0 p l e R s m args below meth c X H locs cells slots ls hW hA hc hs hl
  have hρ : ρ M.1.length = H.size := by
    have := (hA hini).2 (by omega) M.1.length (Nat.le_refl _) hlen
    omega
  refine va_newaK X.1 X.2.1 (atype := at1) (by rw [hat]; exact X.2.2.2.2.2.2.2.1 _ hw) rfl hdg rfl hn hN (by rw [hat]; exact Nat.le_trans (Nat.mul_le_mul hN2 (show componentBytes .long ≤ 8 by decide)) (by decide)) (by omega) (by omega) rfl fun H1 cA e1 z1 o1 hAr hNm => ?_
  rw [hat] at e1 hNm
  have hcA : cA = dA 1 := by
    have h2 : s.vm.findClass ("[" ++ (FieldType.long).toString) = some (dA 1) := (hW.2.2.1.2 1 (dA 1, .long) rfl).2
    exact Option.some.inj (hNm.symm.trans h2)
  subst hcA
  have hW1 : jk_Wd ρ D dA A (jk_nw M (2, N)) s H1 locs := by
    refine jk_grow hW hρ z1 o1 ?_
    show H1[H.size]? = some (vp_cell (dA 1) (N, .inr (.inl ((jk_nw M (2, N)).2.2.1 M.1.length))))
    rw [(jk_nwE (ρ := ρ) (M := M) (sh := (2, N))).2.1]
    exact e1
  have hA1 : jk_Al ρ F.2.2.2.2 s.heap.size g0 kc (jk_nw M (2, N)) H1 := by rw [hini] at hA ⊢; exact hA.grow z1
  have kk1 := kk ρ D dA A g0 p l e R s m args below meth c X H1 locs (cells + 1) (slots + N) ls hW1 hA1 (by omega) (by omega) hl
  rw [List.map_cons, show jk_V ρ (.ref M.1.length) = .ref H.size from congrArg Value.ref hρ] at kk1
  exact kk1
theorem j_anew {t : Nat} {C : String} {n : Int32} {N : Nat} (hdg : decode F.2.1 pc = .ok (.anewarray idx, 3)) (hini : F.2.2.2.2 = true) (hlk : Cond.classLink F.1 idx C ∈ jk_gt) (hov : Cond.arrayOver (.object C) ∈ jk_ns) (hty : ∀ dA : Nat → ClassId, (jk_tys dA)[t + 2]? = some (dA (t + 2), .object C)) (hn : ¬ n < 0) (hN : n.toNatClampNeg = N) (hN2 : N ≤ 100000) (hlen : M.1.length < 1000) (kk : J F d kc ks (pc + 3) L (.ref M.1.length :: st) (jk_nw M (t + 3, N)) Q) : J F d (kc + 1) (ks + N) pc L (.int n :: st) M Q := by
  intro ρ D dA A g0 p l e R s m args below meth c X H locs cells slots ls hW hA hc hs hl
  have hρ : ρ M.1.length = H.size := by
    have := (hA hini).2 (by omega) M.1.length (Nat.le_refl _) hlen
    omega
  subst hN
  refine W.anew X.1 X.2.1 X.2.2.2.2.2.1 (X.2.2.2.2.2.2.2.1 _ hlk) (va_AO.use (X.2.2.2.2.2.2.2.2.1 _ hov)) rfl hdg rfl hn (by omega) (by omega) (by omega) fun cA kA comp f1 f2 f3 f4 => ?_
  generalize hH1 : H.push ({ cls := cA, slots := Array.replicate n.toNatClampNeg .null, vm := .none } : Cell) = H1
  have z1 : H1.size = H.size + 1 := by rw [← hH1, Array.size_push]
  have e1 : H1[H.size]? = some (arrV cA n.toNatClampNeg (fun _ => .null)) := by rw [← hH1, Array.getElem?_push_size, ← arrV_new]
  have o1 : ∀ q : Nat, q < H.size → H1[q]? = H[q]? := fun q hq => by rw [← hH1, Array.getElem?_push, if_neg (Nat.ne_of_lt hq)]
  have hcA : cA = dA (t + 2) := by
    obtain ⟨kA2, comp2, g1, g2, g3, g4⟩ := (hW.2.2.1.2 (t + 2) _ (hty dA)).2
    exact Option.some.inj (f1.symm.trans g4)
  subst hcA
  have hW1 : jk_Wd ρ D dA A (jk_nw M (t + 3, n.toNatClampNeg)) s H1 locs := by
    refine jk_grow hW hρ z1 o1 ?_
    show H1[H.size]? = some (vp_cell (dA (t + 2)) (n.toNatClampNeg, .inr (.inr (.inr (.inr fun k => ((jk_nw M (t + 3, n.toNatClampNeg)).2.2.2 M.1.length k).map ρ)))))
    rw [(jk_nwE (ρ := ρ) (M := M) (sh := (t + 3, n.toNatClampNeg))).2.2, vp_cell_q]
    exact e1
  have hA1 : jk_Al ρ F.2.2.2.2 s.heap.size g0 kc (jk_nw M (t + 3, n.toNatClampNeg)) H1 := by rw [hini] at hA ⊢; exact hA.grow z1
  have kk1 := kk ρ D dA A g0 p l e R s m args below meth c X H1 locs (cells + 1) (slots + n.toNatClampNeg) ls hW1 hA1 (by omega) (by omega) hl
  rw [List.map_cons, show jk_V ρ (.ref M.1.length) = .ref H.size from congrArg Value.ref hρ] at kk1
  exact kk1
end JN
/-! from J to a contract -/
def jk_B (ρ : Nat → Nat) (D : va_G) (dA : Nat → ClassId) (A : Nat → Prop) (ini : Bool) (a : Nat) (M : jk_M) (U : State) : Prop :=
  va_P D vwCl (jk_w ρ dA M) U.heap ∧ va_D A (jk_w ρ dA M) ∧ va_K D vwCl (jk_tys dA) U ∧ (∀ q, U.heap.size ≤ q → A q) ∧ jk_St ρ A U U.heap ∧ jk_Ns U ∧ (ini = true → a ≠ 0 → ∀ j, M.1.length ≤ j → j < 1000 → ρ j + M.1.length = U.heap.size + j)
theorem jk_St.same {ρ : Nat → Nat} {A : Nat → Prop} {u U : State} {H : Heap} (hv : U.vm = u.vm) (h : jk_St ρ A u H) : jk_St ρ A U H := by
  have hal : u.vm.Alike U.vm := by rw [hv]; exact Vm.Alike.refl _
  obtain ⟨h1, h2, h3, h4, h5⟩ := h
  refine ⟨fun j q hj => ⟨va_Z.moved hal (h1 j q hj).1, va_T.moved hal (h1 j q hj).2⟩, vk_S.moved hal h2, fun i hi => (h3 i hi).same hv, va_Z.moved hal h4, ?_⟩
  rcases h5 with h5 | h5
  · exact Or.inl (va_Z.moved hal h5)
  · exact Or.inr (va_Z.moved hal h5)
theorem jk_Ns.same {u U : State} (hv : U.vm = u.vm) (h : jk_Ns u) : jk_Ns U := by
  have hal : u.vm.Alike U.vm := by rw [hv]; exact Vm.Alike.refl _
  intro w hw
  have h1 := h w hw
  have h2 := (List.mem_filter.mp hw).2
  unfold jk_isN at h2
  split at h2
  · exact va_Nw.same rfl hv.symm h1
  · exact va_Nw.same rfl hv.symm h1
  · exact va_AO.moved hal h1
  · cases h2
theorem jk_blind {av : List Value} {ρ : Nat → Nat} {D : va_G} {dA : Nat → ClassId} {A : Nat → Prop} {ini : Bool} {a : Nat} {M : jk_M} : FrameBlind (va_Pc av (jk_B ρ D dA A ini a M)) := by
  intro args U g mk h
  obtain ⟨h0, h1, h2, h3, h4, h5, h6, h7⟩ := h
  exact ⟨h0, h1, h2, va_K.moved (u := U) (U := U.calling g mk args) (Vm.Alike.refl U.vm) h3, h4, h5.same (U := U.calling g mk args) rfl, jk_Ns.same (u := U) (U := U.calling g mk args) rfl h6, h7⟩
theorem jk_met {Fy : jk_F} {d a b : Nat} {y : MethodName} {As : List Value} {Ly : List (Nat × Value)} {M : jk_M} {Q' : Option Value → jk_M → Prop} (hy : plainName y.cls = true) (hyF : y.cls = Fy.1) (hin : Fy.2.2.2.2 = true → y.name = "<init>") (hLy : lv_args 0 As = Ly) (hsz : (lg_sl As).length ≤ Fy.2.2.1) (hJ : J Fy d a b 0 Ly [] M Q') (l : Launch) (ρ : Nat → Nat) (D : va_G) (dA : Nat → ClassId) (A : Nat → Prop) : Met l y (Cond.code y Fy.2.1 Fy.2.2.1 Fy.2.2.2.1 :: jk_gt) (jk_rm d a b) (va_Pc (As.map (jk_V ρ)) (jk_B ρ D dA A Fy.2.2.2.2 a M)) (jk_Qc ρ D dA A Fy.2.2.2.2 M.1.length Q') a b A := by
  refine Met.ofW (cc := Fy.2.1) (maxL := Fy.2.2.1) (ret := Fy.2.2.2.1) hy rfl ?_
  intro p e s m args below meth c s₁ B hml hv
  obtain ⟨rfl, hP, hD, hK, hA, hSt, hN, hal⟩ := hv
  have hts := atoms_spec (ws := Cond.code y Fy.2.1 Fy.2.2.1 Fy.2.2.2.1 :: jk_gt) B.pre
  have hown : s.vm.findClass Fy.1 = some m.cls := by rw [← hyF]; exact findClass_of_methodNamed B.named
  have hin2 : Fy.2.2.2.2 = true → meth.name = "<init>" := fun h => (name_of_methodNamed B.named B.method).1.trans (hin h)
  have hl := lv_entry (As.map (jk_V ρ)) (n := Fy.2.2.1) (by rw [jk_lsl]; exact hsz)
  rw [lg_entry_eq]
  generalize (lg_sl (As.map (jk_V ρ)) ++ List.replicate (Fy.2.2.1 - (lg_sl (As.map (jk_V ρ))).length) Slot.unset).toArray = ls at hl ⊢
  rw [jk_largs, hLy] at hl
  exact hJ ρ D dA A M.1.length p l e (jk_rm d a b) s m _ below meth c ⟨B.exec, B.bytes, hml, B.returns, B.notSynchronized, hown, hin2, fun w hw => hts w (List.mem_cons_of_mem _ hw), hN, Nat.le_refl _, Nat.le_refl _⟩ s.heap [] 0 0 ls ⟨hP, hD, hK, va_S.rf, hA, hSt⟩ (fun hi => ⟨rfl, hal hi⟩) (Nat.le_of_eq (Nat.zero_add _)) (Nat.le_of_eq (Nat.zero_add _)) hl
/-- behind a call: what the callee left -/
theorem jk_behind {F Fy : jk_F} {d kc ks a b pc : Nat} {L : List (Nat × Value)} {rest : List Value} {M : jk_M} {Q Q' : Option Value → jk_M → Prop} (hni : F.2.2.2.2 = false ∨ Fy.2.2.2.2 = true) (kk : ∀ r M', Q' r M' → J F d kc ks (pc + 3) L (r.toList ++ rest) M' Q)
    {ρ : Nat → Nat} {D : va_G} {dA : Nat → ClassId} {A : Nat → Prop} {g0 : Nat} {p : Program} {l : Launch} {e : Env} {R : Room} {s : State} {m : MethodId} {args : Array Value} {below : List Frame} {meth : Method} {c : Code} (X : jk_Fr F d p R s m args meth c) {H : Heap} {locs : List Loc} {cells slots : Nat} {ls : Array Slot} (hW : jk_Wd ρ D dA A M s H locs) (hA : jk_Al ρ F.2.2.2.2 s.heap.size g0 (kc + a) M H) (hc : cells + (kc + a) ≤ R.cells) (hs : slots + (ks + b) ≤ R.slots) (hl : lv_has ls F.2.2.1 (jk_ml ρ L)) {st0 : List Value} {av : Array Value}
    (hr : va_Run p l e R s m args below meth c H locs cells slots a b (F0 m pc ls st0) (rest.map (jk_V ρ)) (jk_Qc ρ D dA A Fy.2.2.2.2 M.1.length Q' av) A) : W p l e R s m args below meth c H locs cells slots (MQ below (jk_Qc ρ D dA A F.2.2.2.2 g0 Q) args s R.cells R.slots A) (F0 m pc ls st0) := by
  intro T hT Y
  obtain ⟨v, st₀, t, T', Lc, h0, X', hLc, e1, e2, ⟨⟨r, M', c1, c2, c3, c4, c5⟩, c6, c7⟩, hst⟩ := hr T hT Y
  have hv : v = r.map (jk_V ρ) := by cases c1; rfl
  subst hv
  rw [h0] at c6 c7
  have hS := hW.2.2.2.1
  have hW' : jk_Wd ρ D dA A M' s T'.heap (locs ++ Lc) := by
    refine ⟨by rw [e1]; exact c3, c4, hW.2.2.1, ⟨Nat.le_trans hS.1 (by rw [e1]; exact c6), fun q h1 h2 => ?_, fun q hq => ?_⟩, hW.2.2.2.2.1, hW.2.2.2.2.2⟩
    · rw [e1, c7 q (Nat.lt_of_lt_of_le h1 hS.1) h2]
      exact hS.2.1 q h1 h2
    · rcases List.mem_append.mp hq with h | h
      · exact hS.2.2 q h
      · exact hLc q h
  have hA' : jk_Al ρ F.2.2.2.2 s.heap.size g0 kc M' T'.heap := by
    intro hi
    rcases hni with h | h
    · rw [h] at hi; cases hi
    have h5 := c5 h
    rw [h0] at h5
    obtain ⟨a1, a2⟩ := hA hi
    rw [e1]
    refine ⟨by omega, fun hk j hj hj2 => ?_⟩
    have := a2 (by omega) j (by omega) hj2
    omega
  have est : (r.toList ++ rest).map (jk_V ρ) = (r.map (jk_V ρ)).toList ++ rest.map (jk_V ρ) := by cases r <;> rfl
  have k1 := kk r M' c2 ρ D dA A g0 p l e R s m args below meth c X T'.heap (locs ++ Lc) (cells + a) (slots + b) ls hW' hA' (by omega) (by omega) hl
  rw [est] at k1
  obtain ⟨t2, a1, b1⟩ := k1 T' rfl X'
  exact ⟨t2, hst t2 a1, b1⟩
/-! the links of calls -/
def jk_kc (y : MethodName) (Fy : jk_F) (n : Nat) : Prop := Cond.code y Fy.2.1 Fy.2.2.1 Fy.2.2.2.1 ∈ jk_gt ∧ Cond.initialized y.cls ∈ jk_gt ∧ (y.cls ≠ "java/lang/invoke/MethodHandle" ∧ y.cls ≠ "java/lang/invoke/VarHandle") ∧ (parseMethodDescriptor y.desc).map (fun d => d.parameters.length) = some n ∧ plainName y.cls = true ∧ y.cls = Fy.1 ∧ Fy.2.2.1 ≤ 45
def jk_kV (own : String) (idx : Nat) (y : MethodName) (Fy : jk_F) (n ci : Nat) : Prop := jk_kc y Fy n ∧ Fy.2.2.2.2 = false ∧ Cond.methodLink own idx y ∈ jk_gt ∧ Cond.instanceMethod y ∈ jk_gt ∧ Cond.selects y.cls y y ∈ jk_gt ∧ (vwCl[ci]?).map (fun r => r.1) = some y.cls
def jk_kS (own : String) (idx : Nat) (y : MethodName) (Fy : jk_F) (n : Nat) : Prop := jk_kc y Fy n ∧ Fy.2.2.2.2 = false ∧ Cond.methodLink own idx y ∈ jk_gt ∧ Cond.static y ∈ jk_gt
def jk_kSN (own : String) (idx : Nat) (y : MethodName) (Fy : jk_F) (n : Nat) : Prop := jk_kc y Fy n ∧ Fy.2.2.2.2 = false ∧ (∃ host, Cond.methodLinkNest own idx y host ∈ jk_ns) ∧ Cond.static y ∈ jk_gt
def jk_kI (own : String) (idx : Nat) (y : MethodName) (Fy : jk_F) (n : Nat) : Prop := jk_kc y Fy n ∧ Fy.2.2.2.2 = true ∧ Fy.2.2.2.1 = none ∧ y.name = "<init>" ∧ Cond.methodLink own idx y ∈ jk_gt ∧ Cond.instanceMethod y ∈ jk_gt
def jk_kIN (own : String) (idx : Nat) (y : MethodName) (Fy : jk_F) (n : Nat) : Prop := jk_kc y Fy n ∧ Fy.2.2.2.2 = true ∧ Fy.2.2.2.1 = none ∧ y.name = "<init>" ∧ (∃ host, Cond.methodLinkNest own idx y host ∈ jk_ns) ∧ Cond.instanceMethod y ∈ jk_gt
theorem jk_GI1 {y : MethodName} {Fy : jk_F} {n : Nat} (hk : jk_kc y Fy n) : GoodIn jk_gt (Cond.code y Fy.2.1 Fy.2.2.1 Fy.2.2.2.1 :: jk_gt) := jk_GI (fun w h => by
  rcases List.mem_cons.mp h with h | h
  · rw [h]; exact hk.1
  · exact h)
theorem jk_Brun {ρ : Nat → Nat} {D : va_G} {dA : Nat → ClassId} {A : Nat → Prop} {ini : Bool} {n0 g0 kc a : Nat} {F : jk_F} {d : Nat} {M : jk_M} {p : Program} {R : Room} {s U : State} {m : MethodId} {args : Array Value} {meth : Method} {c : Code} {H : Heap} {locs : List Loc} (X : jk_Fr F d p R s m args meth c) (hW : jk_Wd ρ D dA A M s H locs) (hal : ini = true → jk_Al ρ true n0 g0 (kc + a) M H) (hU : U.heap = H) (hWm : s.WarmedH U.vm) : jk_B ρ D dA A ini a M U := by
  refine ⟨by rw [hU]; exact hW.1, hW.2.1, va_K.moved hWm.alike hW.2.2.1, fun q hq => hW.2.2.2.2.1 q (Nat.le_trans hW.2.2.2.1.1 (by rw [← hU]; exact hq)), ?_, X.2.2.2.2.2.2.2.2.1.warm hWm, fun hi ha j h1 h2 => ?_⟩
  · rw [hU]
    exact hW.2.2.2.2.2.kept hWm hW.2.2.2.1.2.1
  · rw [hU]
    exact (hal hi rfl).2 (by omega) j h1 h2
section JC
variable {F Fy : jk_F} {d d' kc ks a b pc idx n : Nat} {L Ly : List (Nat × Value)} {st As rest : List Value} {M : jk_M} {Q Q' : Option Value → jk_M → Prop} {y : MethodName}
theorem j_callV {ci o : Nat} (hdg : decode F.2.1 pc = .ok (.invokevirtual idx, 3)) (hk : jk_kV F.1 idx y Fy n ci) (hni : F.2.2.2.2 = false) (hso : M.1[o]? = some (0, ci)) (hd : d' < d) (hAs : As.length = n) (hst : st = As.reverse ++ .ref o :: rest) (hLy : lv_args 0 (.ref o :: As) = Ly) (hsz : (lg_sl (.ref o :: As)).length ≤ Fy.2.2.1) (hrm : (rest.map fun v => v.category).sum ≤ 8) (hJ : J Fy d' a b 0 Ly [] M Q') (kk : ∀ r M', Q' r M' → J F d kc ks (pc + 3) L (r.toList ++ rest) M' Q) : J F d (kc + a) (ks + b) pc L st M Q := by
  intro ρ D dA A g0 p l e R s m args below meth c X H locs cells slots ls hW hA hc hs hl
  subst hst
  have hfr := X.2.2.2.2.2.2.2.2.2.1
  have hlo := X.2.2.2.2.2.2.2.2.2.2
  have h45 := hk.1.2.2.2.2.2.2
  have hdd : 64 * (d' + 1) + 64 ≤ 64 * (d + 1) := by omega
  have hrecv : ∃ cellB : Cell, H[ρ o]? = some cellB ∧ cellB.vm.isStatics = false ∧ s.vm.findClass y.cls = some cellB.cls := by
    have h6 := hk.2.2.2.2.2
    cases hr : vwCl[ci]? with
    | none => rw [hr] at h6; cases h6
    | some r =>
      rw [hr] at h6
      have h7 : r.1 = y.cls := Option.some.inj h6
      rw [← h7]
      exact va_recv hW.2.2.1 hW.1 hr (jk_get hso)
  refine jk_behind (Fy := Fy) (Or.inl hni) kk X hW hA hc hs hl (va_runV (As := As.map (jk_V ρ)) (b := ρ o) ⟨X.1, X.2.1, X.2.2.1, X.2.2.2.2.2.1, X.2.2.2.2.2.2.2.1⟩ (jk_met hk.1.2.2.2.2.1 hk.1.2.2.2.2.2.1 (fun h => by rw [hk.2.1] at h; cases h) hLy hsz hJ l ρ D dA A) ⟨callB_of n X.2.2.2.2.2.2.2.1 (jk_GI1 hk.1) rfl rfl rfl (X.2.2.2.2.2.2.2.1 _ hk.1.2.1) (X.2.2.2.2.2.2.2.1 _ hk.2.2.1) ⟨hk.1.2.2.1.1, hk.1.2.2.1.2, hk.1.2.2.2.1⟩ ⟨(by show d' + 1 + 1 ≤ R.frames; omega), (by show 8 + (Fy.2.2.1 + 11) + 64 * (d' + 1) ≤ R.locals; omega)⟩, X.2.2.2.2.2.2.2.1 _ hk.2.2.2.1, X.2.2.2.2.2.2.2.1 _ hk.2.2.2.2.1⟩ ⟨jk_blind, hrecv, fun U hU hWm => ⟨rfl, jk_Brun (n0 := s.heap.size) (g0 := g0) (kc := kc) X hW (fun h => by rw [hk.2.1] at h; cases h) hU hWm⟩⟩ rfl (by rw [List.length_map]; exact hAs) hl.1 (by simp [List.map_append, List.map_reverse, jk_V]) (lv_room (by rw [jk_sum]; exact hrm)) hdg ⟨(by omega), (by omega)⟩)
theorem j_callS (hdg : decode F.2.1 pc = .ok (.invokestatic idx, 3)) (hk : jk_kS F.1 idx y Fy n) (hni : F.2.2.2.2 = false) (hd : d' < d) (hAs : As.length = n) (hst : st = As.reverse ++ rest) (hLy : lv_args 0 (As) = Ly) (hsz : (lg_sl (As)).length ≤ Fy.2.2.1) (hrm : (rest.map fun v => v.category).sum ≤ 8) (hJ : J Fy d' a b 0 Ly [] M Q') (kk : ∀ r M', Q' r M' → J F d kc ks (pc + 3) L (r.toList ++ rest) M' Q) : J F d (kc + a) (ks + b) pc L st M Q := by
  intro ρ D dA A g0 p l e R s m args below meth c X H locs cells slots ls hW hA hc hs hl
  subst hst
  have hfr := X.2.2.2.2.2.2.2.2.2.1
  have hlo := X.2.2.2.2.2.2.2.2.2.2
  have h45 := hk.1.2.2.2.2.2.2
  have hdd : 64 * (d' + 1) + 64 ≤ 64 * (d + 1) := by omega
  refine jk_behind (Fy := Fy) (Or.inl hni) kk X hW hA hc hs hl (va_runS (As := As.map (jk_V ρ)) ⟨X.1, X.2.1, X.2.2.1, X.2.2.2.2.2.1, X.2.2.2.2.2.2.2.1⟩ (jk_met hk.1.2.2.2.2.1 hk.1.2.2.2.2.2.1 (fun h => by rw [hk.2.1] at h; cases h) hLy hsz hJ l ρ D dA A) ⟨callB_of n X.2.2.2.2.2.2.2.1 (jk_GI1 hk.1) rfl rfl rfl (X.2.2.2.2.2.2.2.1 _ hk.1.2.1) (X.2.2.2.2.2.2.2.1 _ hk.2.2.1) ⟨hk.1.2.2.1.1, hk.1.2.2.1.2, hk.1.2.2.2.1⟩ ⟨(by show d' + 1 + 1 ≤ R.frames; omega), (by show 8 + (Fy.2.2.1 + 11) + 64 * (d' + 1) ≤ R.locals; omega)⟩, X.2.2.2.2.2.2.2.1 _ hk.2.2.2⟩ ⟨jk_blind, fun U hU hWm => ⟨rfl, jk_Brun (n0 := s.heap.size) (g0 := g0) (kc := kc) X hW (fun h => by rw [hk.2.1] at h; cases h) hU hWm⟩⟩ rfl (by rw [List.length_map]; exact hAs) hl.1 (by simp [List.map_append, List.map_reverse, jk_V]) (lv_room (by rw [jk_sum]; exact hrm)) hdg ⟨(by omega), (by omega)⟩)
theorem j_callSN (hdg : decode F.2.1 pc = .ok (.invokestatic idx, 3)) (hk : jk_kSN F.1 idx y Fy n) (hni : F.2.2.2.2 = false) (hd : d' < d) (hAs : As.length = n) (hst : st = As.reverse ++ rest) (hLy : lv_args 0 (As) = Ly) (hsz : (lg_sl (As)).length ≤ Fy.2.2.1) (hrm : (rest.map fun v => v.category).sum ≤ 8) (hJ : J Fy d' a b 0 Ly [] M Q') (kk : ∀ r M', Q' r M' → J F d kc ks (pc + 3) L (r.toList ++ rest) M' Q) : J F d (kc + a) (ks + b) pc L st M Q := by
  intro ρ D dA A g0 p l e R s m args below meth c X H locs cells slots ls hW hA hc hs hl
  subst hst
  have hfr := X.2.2.2.2.2.2.2.2.2.1
  have hlo := X.2.2.2.2.2.2.2.2.2.2
  have h45 := hk.1.2.2.2.2.2.2
  have hdd : 64 * (d' + 1) + 64 ≤ 64 * (d + 1) := by omega
  refine jk_behind (Fy := Fy) (Or.inl hni) kk X hW hA hc hs hl (va_runSN (As := As.map (jk_V ρ)) (host := hk.2.2.1.choose) ⟨X.1, X.2.1, X.2.2.1, X.2.2.2.2.2.1, X.2.2.2.2.2.2.2.1⟩ (jk_met hk.1.2.2.2.2.1 hk.1.2.2.2.2.2.1 (fun h => by rw [hk.2.1] at h; cases h) hLy hsz hJ l ρ D dA A) ⟨va_cnB n X.2.2.2.2.2.2.2.1 (jk_GI1 hk.1) rfl rfl rfl (X.2.2.2.2.2.2.2.2.1 _ hk.2.2.1.choose_spec) (X.2.2.2.2.2.2.2.1 _ hk.1.2.1) ⟨hk.1.2.2.1.1, hk.1.2.2.1.2, hk.1.2.2.2.1⟩ ⟨(by show d' + 1 + 1 ≤ R.frames; omega), (by show 8 + (Fy.2.2.1 + 11) + 64 * (d' + 1) ≤ R.locals; omega)⟩, X.2.2.2.2.2.2.2.1 _ hk.2.2.2, trivial⟩ ⟨jk_blind, fun U hU hWm => ⟨rfl, jk_Brun (n0 := s.heap.size) (g0 := g0) (kc := kc) X hW (fun h => by rw [hk.2.1] at h; cases h) hU hWm⟩⟩ rfl (by rw [List.length_map]; exact hAs) hl.1 (by simp [List.map_append, List.map_reverse, jk_V]) (lv_room (by rw [jk_sum]; exact hrm)) hdg ⟨(by omega), (by omega)⟩)
theorem j_callI {o : Nat} (hdg : decode F.2.1 pc = .ok (.invokespecial idx, 3)) (hk : jk_kI F.1 idx y Fy n) (hini : F.2.2.2.2 = true) (hd : d' < d) (hAs : As.length = n) (hst : st = As.reverse ++ .ref o :: rest) (hLy : lv_args 0 (.ref o :: As) = Ly) (hsz : (lg_sl (.ref o :: As)).length ≤ Fy.2.2.1) (hrm : (rest.map fun v => v.category).sum ≤ 8) (hJ : J Fy d' a b 0 Ly [] M Q') (kk : ∀ r M', Q' r M' → J F d kc ks (pc + 3) L (r.toList ++ rest) M' Q) : J F d (kc + a) (ks + b) pc L st M Q := by
  intro ρ D dA A g0 p l e R s m args below meth c X H locs cells slots ls hW hA hc hs hl
  subst hst
  have hfr := X.2.2.2.2.2.2.2.2.2.1
  have hlo := X.2.2.2.2.2.2.2.2.2.2
  have h45 := hk.1.2.2.2.2.2.2
  have hdd : 64 * (d' + 1) + 64 ≤ 64 * (d + 1) := by omega
  refine jk_behind (Fy := Fy) (Or.inr hk.2.1) kk X hW hA hc hs hl (va_runI (As := As.map (jk_V ρ)) (b := ρ o) ⟨X.1, X.2.1, X.2.2.1, X.2.2.2.2.2.1, X.2.2.2.2.2.2.2.1⟩ (by have h9 := jk_met hk.1.2.2.2.2.1 hk.1.2.2.2.2.2.1 (fun _ => hk.2.2.2.1) hLy hsz hJ l ρ D dA A; rw [hk.2.2.1] at h9; exact h9) ⟨callB_of n X.2.2.2.2.2.2.2.1 (by have h9 := jk_GI1 hk.1; rw [hk.2.2.1] at h9; exact h9) rfl rfl rfl (X.2.2.2.2.2.2.2.1 _ hk.1.2.1) (X.2.2.2.2.2.2.2.1 _ hk.2.2.2.2.1) ⟨hk.1.2.2.1.1, hk.1.2.2.1.2, hk.1.2.2.2.1⟩ ⟨(by show d' + 1 + 1 ≤ R.frames; omega), (by show 8 + (Fy.2.2.1 + 11) + 64 * (d' + 1) ≤ R.locals; omega)⟩, hk.2.2.2.1, X.2.2.2.2.2.2.2.1 _ hk.2.2.2.2.2⟩ ⟨jk_blind, fun U hU hWm => ⟨rfl, jk_Brun (n0 := s.heap.size) (g0 := g0) (kc := kc) X hW (fun _ => by rw [hini] at hA; exact hA) hU hWm⟩⟩ rfl (by rw [List.length_map]; exact hAs) hl.1 (by simp [List.map_append, List.map_reverse, jk_V]) (lv_room (by rw [jk_sum]; exact hrm)) hdg ⟨(by omega), (by omega)⟩)
theorem j_callIN {o : Nat} (hdg : decode F.2.1 pc = .ok (.invokespecial idx, 3)) (hk : jk_kIN F.1 idx y Fy n) (hini : F.2.2.2.2 = true) (hd : d' < d) (hAs : As.length = n) (hst : st = As.reverse ++ .ref o :: rest) (hLy : lv_args 0 (.ref o :: As) = Ly) (hsz : (lg_sl (.ref o :: As)).length ≤ Fy.2.2.1) (hrm : (rest.map fun v => v.category).sum ≤ 8) (hJ : J Fy d' a b 0 Ly [] M Q') (kk : ∀ r M', Q' r M' → J F d kc ks (pc + 3) L (r.toList ++ rest) M' Q) : J F d (kc + a) (ks + b) pc L st M Q := by
  intro ρ D dA A g0 p l e R s m args below meth c X H locs cells slots ls hW hA hc hs hl
  subst hst
  have hfr := X.2.2.2.2.2.2.2.2.2.1
  have hlo := X.2.2.2.2.2.2.2.2.2.2
  have h45 := hk.1.2.2.2.2.2.2
  have hdd : 64 * (d' + 1) + 64 ≤ 64 * (d + 1) := by omega
  refine jk_behind (Fy := Fy) (Or.inr hk.2.1) kk X hW hA hc hs hl (va_runIN (As := As.map (jk_V ρ)) (b := ρ o) (host := hk.2.2.2.2.1.choose) ⟨X.1, X.2.1, X.2.2.1, X.2.2.2.2.2.1, X.2.2.2.2.2.2.2.1⟩ (by have h9 := jk_met hk.1.2.2.2.2.1 hk.1.2.2.2.2.2.1 (fun _ => hk.2.2.2.1) hLy hsz hJ l ρ D dA A; rw [hk.2.2.1] at h9; exact h9) ⟨va_cnB n X.2.2.2.2.2.2.2.1 (by have h9 := jk_GI1 hk.1; rw [hk.2.2.1] at h9; exact h9) rfl rfl rfl (X.2.2.2.2.2.2.2.2.1 _ hk.2.2.2.2.1.choose_spec) (X.2.2.2.2.2.2.2.1 _ hk.1.2.1) ⟨hk.1.2.2.1.1, hk.1.2.2.1.2, hk.1.2.2.2.1⟩ ⟨(by show d' + 1 + 1 ≤ R.frames; omega), (by show 8 + (Fy.2.2.1 + 11) + 64 * (d' + 1) ≤ R.locals; omega)⟩, hk.2.2.2.1, X.2.2.2.2.2.2.2.1 _ hk.2.2.2.2.2⟩ ⟨jk_blind, fun U hU hWm => ⟨rfl, jk_Brun (n0 := s.heap.size) (g0 := g0) (kc := kc) X hW (fun _ => by rw [hini] at hA; exact hA) hU hWm⟩⟩ rfl (by rw [List.length_map]; exact hAs) hl.1 (by simp [List.map_append, List.map_reverse, jk_V]) (lv_room (by rw [jk_sum]; exact hrm)) hdg ⟨(by omega), (by omega)⟩)
end JC
