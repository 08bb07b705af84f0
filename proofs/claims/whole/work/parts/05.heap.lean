theorem jk_Al.same {ρ : Nat → Nat} {ini : Bool} {n0 g0 kc : Nat} {M M' : jk_M} {H H1 : Heap} (h : jk_Al ρ ini n0 g0 kc M H) (hM : M'.1 = M.1) (hz : ini = true → H1.size = H.size) : jk_Al ρ ini n0 g0 kc M' H1 := fun hi => by
  rw [hM, hz hi]
  exact h hi
theorem jk_Wd.put {ρ : Nat → Nat} {D : va_G} {dA : Nat → ClassId} {A : Nat → Prop} {M M' : jk_M} {s : State} {H H1 : Heap} {locs locs1 : List Loc} {ws : va_W} (h : jk_Wd ρ D dA A M s H locs) (e : jk_w ρ dA M' = ws) (hP : va_P D vwCl ws H1) (hD : va_D A ws) (hS : va_S A s.heap H1 locs1) : jk_Wd ρ D dA A M' s H1 locs1 := by
  subst e
  exact ⟨hP, hD, h.2.2.1, hS, h.2.2.2.2.1, h.2.2.2.2.2⟩
section JV
variable {p : Program} {l : Launch} {e : Env} {R : Room} {s : State} {m : MethodId} {args : Array Value} {below : List Frame} {meth : Method} {c : Code} {H : Heap} {locs : List Loc} {cells slots : Nat} {Q : State → Prop}
variable {cc : ByteArray} {pc : Nat} {ls : Array Slot} {rest : List Value} {D : va_G} {cl : List vw_C} {A : Nat → Prop} {a : Nat} {tys : List (ClassId × FieldType)} {ws : va_W} {H0 : Heap}
theorem jk_vput (hexec : p.tables.exec = Jvm.exec) (hb : c.code = cc) {own C : String} {T : u_T} {N ci index : Nat} {Ts : List Cond} (hts : ∀ w ∈ Ts, w.before args s = true) (hin : ∀ w ∈ u_ws C T N, w ∈ Ts) (ty0 : Nat → FieldType) (hty : ∀ k, k < N → parseFieldDescriptor (T k).2.2.1 = some (ty0 k)) (hnm : ∀ a, a < N → ∀ b, b < N → a ≠ b → (T a).2.1 ≠ (T b).2.1) (hown : s.vm.findClass own = some m.cls) (hK : va_K D cl tys s) (hP : va_P D cl ws H) (hD : va_D A ws) (hS0 : va_S A H0 H locs) (q0 : Nat) {fs : List Value} (he : ws[q0]? = some (a, .inr (ci, fs))) (hc : cl[ci]? = some (C, T, N)) (k : Nat) (hk : k < N) (hC : (T k).1 = C) (hlink : (Cond.fieldLink own index C (T k).2.1 (T k).2.2.1).before args s = true) {fin : Bool} (hfin : (T k).2.2.2 = fin) (hfi : fin = false ∨ (meth.name = "<init>" ∧ C = own)) {v : Value} (hn : narrow (ty0 k) v = v) (hfit : fits (ty0 k) v = true) (hl : k < fs.length)
    (hdg : decode cc pc = .ok (.putfield index, 3)) (kk : ∀ (H1 : Heap) (locs1 : List Loc), va_P D cl (ws.set q0 (a, .inr (ci, fs.set k v))) H1 → va_D A (ws.set q0 (a, .inr (ci, fs.set k v))) → va_S A H0 H1 locs1 → H1.size = H.size → W p l e R s m args below meth c H1 locs1 cells slots Q (F0 m (pc + 3) ls rest)) : W p l e R s m args below meth c H locs cells slots Q (F0 m pc ls (v :: .ref a :: rest)) := by
  have hap := va_apart (own := own) hts hin ty0 hty hnm hK hc
  obtain ⟨r, h1, cell, q1, q2, q3, q4⟩ := hP q0 _ he
  have hr : r = (C, T, N) := Option.some.inj (h1.symm.trans hc)
  subst hr
  obtain ⟨hS, hfc, kC, hkC, hkind⟩ := hK.1 ci _ hc
  obtain ⟨cf, kf, fi, f, hi, hsl⟩ := hS k hk
  have hi' : s.fieldFound? C (T k).2.1 (T k).2.2.1 = some (cf, kf, fi, f) := by rw [hC] at hi; exact hi
  have hlay := hts _ (hin _ (u_in_lay hk))
  unfold u_lay at hlay
  have hst := (u_facts hfc hkC (u_lays hts hin hk) hi).1
  cases fin with
  | false =>
    rw [if_neg (by rw [hfin]; decide)] at hlay
    have h6 := u_store hfc hkC hkind hlay hi (hty k hk) hn hfit
    refine W.putK hexec hb (f := f) ⟨hown, hlink, ⟨_, _, _, hi'⟩, hst⟩ (by rw [q2]; exact h6) q1 q3 (by rw [hsl]; exact k2_hasslot (q4 k hk)) rfl rfl hdg fun H' e1 e2 e3 => ?_
    rw [hsl] at e1 ⊢
    exact kk H' _ (hP.set hD he ⟨_, hc, t_OB.to (V := updV (vp_V fs) k v) ⟨_, e1, q2, q3, t_set q4 hap hk v⟩ (fun j _ => vp_updV_set hl v j)⟩ e3) (hD.set he) (hS0.put e2 e3 (hD.2 q0 _ he)) e2
  | true =>
    rcases hfi with hfi | ⟨hin2, hCo⟩
    · cases hfi
    rw [if_pos hfin] at hlay
    have hcf : m.cls = cf := by
      obtain ⟨_, _, c', _, _, _, -, -, hf', -, -, -, hown2, -⟩ := Cond.laysFinal_spec hlay
      have e1 : c' = cf := by have := hi.symm.trans hf'; simp at this; exact this.1.symm
      rw [hC, hCo] at hown2
      rw [← e1]; exact Option.some.inj (hown.symm.trans hown2)
    have h6 := u_fits hfc hkC hkind (Or.inr hlay) hi (hty k hk) hn hfit
    refine W.putFinK hexec hb hown hlink hi' hst hcf hin2 (by rw [q2]; exact h6) q1 q3 (by rw [hsl]; exact k2_hasslot (q4 k hk)) rfl rfl hdg fun H' e1 e2 e3 => ?_
    rw [hsl] at e1 ⊢
    exact kk H' _ (hP.set hD he ⟨_, hc, t_OB.to (V := updV (vp_V fs) k v) ⟨_, e1, q2, q3, t_set q4 hap hk v⟩ (fun j _ => vp_updV_set hl v j)⟩ e3) (hD.set he) (hS0.put e2 e3 (hD.2 q0 _ he)) e2
theorem jk_viast (hexec : p.tables.exec = Jvm.exec) (hb : c.code = cc) (hK : va_K D cl tys s) (hP : va_P D cl ws H) (hD : va_D A ws) (hS : va_S A H0 H locs) (q0 t0 : Nat) {cA : ClassId} {n : Nat} {f : Nat → Int32} (ha : ws[q0]? = some (a, .inl (cA, n, .inl f))) (ht : tys[t0]? = some (cA, .int)) {i : Int32} {x : Int32} (hin : vp_in i n) (hdg : decode cc pc = .ok (.iastore, 1))
    (kk : ∀ (H1 : Heap) (locs1 : List Loc), va_P D cl (ws.set q0 (a, .inl (cA, n, .inl (va_up f i.toNatClampNeg x)))) H1 → va_D A (ws.set q0 (a, .inl (cA, n, .inl (va_up f i.toNatClampNeg x)))) → va_S A H0 H1 locs1 → H1.size = H.size → W p l e R s m args below meth c H1 locs1 cells slots Q (F0 m (pc + 1) ls rest)) : W p l e R s m args below meth c H locs cells slots Q (F0 m pc ls (.int x :: .int i :: .ref a :: rest)) := by
  refine W.iast hexec hb (hP q0 _ ha) ((hK.2 t0 _ ht).1 n (fun j => .int (f j))) (fun q => by cases q) (by show ¬ (i < 0 ∨ (arrV _ _ _).slots.size ≤ _); rw [arrV_size]; exact hin) rfl rfl hdg fun H1 e z oq => ?_
  refine kk H1 _ (hP.set hD ha ?_ oq) (hD.set ha) (hS.put z oq (hD.2 q0 _ ha)) z
  show H1[a]? = some (vp_cell _ _)
  rw [e]
  rw [vp_cell_i, vp_cell_i, arrV_store]
  congr 2
  funext q
  by_cases hq : q = i.toNatClampNeg
  · subst hq
    simp [updV, va_up]
  · simp [updV, va_up, hq]
theorem jk_vaast (hexec : p.tables.exec = Jvm.exec) (hb : c.code = cc) (hK : va_K D cl tys s) (hP : va_P D cl ws H) (hD : va_D A ws) (hS : va_S A H0 H locs) (q0 t0 qk ci : Nat) {cA : ClassId} {r : vw_C} {n v : Nat} {vs : List Value} {f : Nat → Option Nat} (ha : ws[q0]? = some (a, .inl (cA, n, .inr (.inr (.inr (.inr f)))))) (ht : tys[t0]? = some (cA, .object r.1)) (hv : ws[qk]? = some (v, .inr (ci, vs))) (hc : cl[ci]? = some r) {i : Int32} (hin : vp_in i n) (hdg : decode cc pc = .ok (.aastore, 1))
    (kk : ∀ (H1 : Heap) (locs1 : List Loc), va_P D cl (ws.set q0 (a, .inl (cA, n, .inr (.inr (.inr (.inr (va_up f i.toNatClampNeg (some v)))))))) H1 → va_D A (ws.set q0 (a, .inl (cA, n, .inr (.inr (.inr (.inr (va_up f i.toNatClampNeg (some v)))))))) → va_S A H0 H1 locs1 → H1.size = H.size → W p l e R s m args below meth c H1 locs1 cells slots Q (F0 m (pc + 1) ls rest)) : W p l e R s m args below meth c H locs cells slots Q (F0 m pc ls (.ref v :: .int i :: .ref a :: rest)) := by
  have hlt : i.toNatClampNeg < n := Nat.not_le.mp fun q => hin (Or.inr q)
  have h0 : ¬ i < 0 := fun q => hin (Or.inl q)
  obtain ⟨r', hr', cellV, g1, g2, g3, -⟩ := hP qk _ hv
  have hcls := (hK.1 ci r hc).2
  obtain ⟨kA, comp, k1, k2, k3, -⟩ := (hK.2 t0 _ ht).2
  have hcomp : comp = D.1 ci := Option.some.inj (k3.symm.trans hcls.1)
  subst hcomp
  obtain ⟨kC, hkC, -⟩ := hcls.2
  refine W.aast hexec hb (hP q0 _ ha) (fun q h => by cases h) (fun h => by cases h) k1 k2 rfl hkC ⟨h0, by show _ < (arrV _ _ _).slots.size; rw [arrV_size]; exact hlt⟩ g1 (fun q h => by rw [g3] at h; cases h) (by rw [g2]; exact hkC) (by rw [g2]; exact va_assign hcls) rfl rfl hdg fun H1 e z oq => ?_
  refine kk H1 _ (hP.set hD ha ?_ oq) (hD.set ha) (hS.put z oq (hD.2 q0 _ ha)) z
  show H1[a]? = some (vp_cell _ _)
  rw [e]
  rw [vp_cell_q, vp_cell_q, arrV_store]
  congr 2
  funext q
  by_cases hq : q = i.toNatClampNeg
  · subst hq
    simp [updV, va_up, va_rf]
  · simp [updV, va_up, hq]
end JV
theorem jk_upmap (f : Nat → Option Nat) (k : Nat) (x : Option Nat) (ρ : Nat → Nat) : (fun j => (va_up f k x j).map ρ) = va_up (fun j => (f j).map ρ) k (x.map ρ) := by
  funext j
  by_cases h : j = k <;> simp [va_up, h]
section JH
variable {F : jk_F} {d kc ks pc : Nat} {L : List (Nat × Value)} {st : List Value} {M : jk_M} {Q : Option Value → jk_M → Prop} {idx a ci k : Nat} {fin : Bool}

theorem j_get {fin : Bool} (hdg : decode F.2.1 pc = .ok (.getfield idx, 3)) (hf : jk_fl F.1 idx ci k fin) (hsh : M.1[a]? = some (0, ci)) (hR : jk_isR (jk_ft ci k) = false) (kk : J F d kc ks (pc + 3) L (.int (M.2.1 a k) :: st) M Q) : J F d kc ks pc L (.ref a :: st) M Q := by
  intro ρ D dA A g0 p l e R s m args below meth c X H locs cells slots ls hW hA hc hs hl
  obtain ⟨C, T, N, ⟨hc1, hN, hin, hty, hnm⟩, hk, hC, hfin, hlk⟩ := hf
  exact va_get (C := C) (T := T) (N := N) (ref := C) X.1 X.2.1 X.2.2.2.2.2.2.2.1 hin X.2.2.2.2.2.1 hW.2.2.1 hW.1 a (fs := jk_fs ρ M a ci) (jk_get hsh) hc1 k hk (X.2.2.2.2.2.2.2.1 _ hlk) (fun x h => by rw [hC] at h; exact h) (v := .int (M.2.1 a k)) (by rw [jk_fsat (by rw [← hN]; exact hk)]; simp [jk_fv, hR]) hdg (kk ρ D dA A g0 p l e R s m args below meth c X H locs cells slots ls hW hA hc hs hl)
theorem j_getr {fin : Bool} {q : Nat} (hdg : decode F.2.1 pc = .ok (.getfield idx, 3)) (hf : jk_fl F.1 idx ci k fin) (hsh : M.1[a]? = some (0, ci)) (hR : jk_isR (jk_ft ci k) = true) (hv : M.2.2.2 a k = some q) (kk : J F d kc ks (pc + 3) L (.ref q :: st) M Q) : J F d kc ks pc L (.ref a :: st) M Q := by
  intro ρ D dA A g0 p l e R s m args below meth c X H locs cells slots ls hW hA hc hs hl
  obtain ⟨C, T, N, ⟨hc1, hN, hin, hty, hnm⟩, hk, hC, hfin, hlk⟩ := hf
  exact va_get (C := C) (T := T) (N := N) (ref := C) X.1 X.2.1 X.2.2.2.2.2.2.2.1 hin X.2.2.2.2.2.1 hW.2.2.1 hW.1 a (fs := jk_fs ρ M a ci) (jk_get hsh) hc1 k hk (X.2.2.2.2.2.2.2.1 _ hlk) (fun x h => by rw [hC] at h; exact h) (v := .ref (ρ q)) (by rw [jk_fsat (by rw [← hN]; exact hk)]; simp [jk_fv, hR, hv, va_rf]) hdg (kk ρ D dA A g0 p l e R s m args below meth c X H locs cells slots ls hW hA hc hs hl)
theorem j_getn {fin : Bool} (hdg : decode F.2.1 pc = .ok (.getfield idx, 3)) (hf : jk_fl F.1 idx ci k fin) (hsh : M.1[a]? = some (0, ci)) (hR : jk_isR (jk_ft ci k) = true) (hv : M.2.2.2 a k = none) (kk : J F d kc ks (pc + 3) L (.null :: st) M Q) : J F d kc ks pc L (.ref a :: st) M Q := by
  intro ρ D dA A g0 p l e R s m args below meth c X H locs cells slots ls hW hA hc hs hl
  obtain ⟨C, T, N, ⟨hc1, hN, hin, hty, hnm⟩, hk, hC, hfin, hlk⟩ := hf
  exact va_get (C := C) (T := T) (N := N) (ref := C) X.1 X.2.1 X.2.2.2.2.2.2.2.1 hin X.2.2.2.2.2.1 hW.2.2.1 hW.1 a (fs := jk_fs ρ M a ci) (jk_get hsh) hc1 k hk (X.2.2.2.2.2.2.2.1 _ hlk) (fun x h => by rw [hC] at h; exact h) (v := .null) (by rw [jk_fsat (by rw [← hN]; exact hk)]; simp [jk_fv, hR, hv, va_rf]) hdg (kk ρ D dA A g0 p l e R s m args below meth c X H locs cells slots ls hW hA hc hs hl)
theorem j_put {x : Int32} (hdg : decode F.2.1 pc = .ok (.putfield idx, 3)) (hf : jk_fl F.1 idx ci k false) (hsh : M.1[a]? = some (0, ci)) (ht : jk_ft ci k = .int) (kk : J F d kc ks (pc + 3) L st (jk_wI M a k x) Q) : J F d kc ks pc L (.int x :: .ref a :: st) M Q := by
  intro ρ D dA A g0 p l e R s m args below meth c X H locs cells slots ls hW hA hc hs hl
  obtain ⟨C, T, N, ⟨hc1, hN, hin, hty, hnm⟩, hk, hC, hfin, hlk⟩ := hf
  have hR : jk_isR (jk_ft ci k) = false := by rw [ht]; rfl
  have hkn : k < jk_nf ci := by rw [← hN]; exact hk
  have E1 := jk_setw (ρ := ρ) (dA := dA) (M := M) (M' := jk_wI M a k x) rfl hsh jk_EI
  rw [show jk_E ρ dA (jk_wI M a k x) a (0, ci) = .inr (ci, (jk_fs ρ M a ci).set k (jk_V ρ (.int x))) from congrArg (fun z => Sum.inr (ci, z)) (jk_fsI hkn hR)] at E1
  have hnf : narrow (jk_ft ci k) (jk_V ρ (.int x)) = jk_V ρ (.int x) ∧ fits (jk_ft ci k) (jk_V ρ (.int x)) = true := by rw [ht]; exact ⟨rfl, rfl⟩
  refine jk_vput X.1 X.2.1 X.2.2.2.2.2.2.2.1 hin (jk_ft ci) hty hnm X.2.2.2.2.2.1 hW.2.2.1 hW.1 hW.2.1 hW.2.2.2.1 a (jk_get hsh) hc1 k hk hC (X.2.2.2.2.2.2.2.1 _ hlk) hfin (Or.inl rfl) hnf.1 hnf.2 (by rw [jk_fslen]; exact hkn) hdg (fun H1 locs1 P1 D1 S1 z1 => ?_)
  have hW1 : jk_Wd ρ D dA A (jk_wI M a k x) s H1 locs1 := hW.put E1 P1 D1 S1
  have hA1 : jk_Al ρ F.2.2.2.2 s.heap.size g0 kc (jk_wI M a k x) H1 := hA.same rfl (fun _ => z1)
  exact kk ρ D dA A g0 p l e R s m args below meth c X H1 locs1 cells slots ls hW1 hA1 hc hs hl
theorem j_putr {q : Nat} (hdg : decode F.2.1 pc = .ok (.putfield idx, 3)) (hf : jk_fl F.1 idx ci k false) (hsh : M.1[a]? = some (0, ci)) (hR : jk_isR (jk_ft ci k) = true) (kk : J F d kc ks (pc + 3) L st (jk_wR M a k (some q)) Q) : J F d kc ks pc L (.ref q :: .ref a :: st) M Q := by
  intro ρ D dA A g0 p l e R s m args below meth c X H locs cells slots ls hW hA hc hs hl
  obtain ⟨C, T, N, ⟨hc1, hN, hin, hty, hnm⟩, hk, hC, hfin, hlk⟩ := hf
  have hkn : k < jk_nf ci := by rw [← hN]; exact hk
  have E1 := jk_setw (ρ := ρ) (dA := dA) (M := M) (M' := jk_wR M a k (some q)) rfl hsh jk_ER
  rw [show jk_E ρ dA (jk_wR M a k (some q)) a (0, ci) = .inr (ci, (jk_fs ρ M a ci).set k (jk_V ρ (.ref q))) from congrArg (fun z => Sum.inr (ci, z)) (jk_fsR hkn hR)] at E1
  have hnf : narrow (jk_ft ci k) (jk_V ρ (.ref q)) = jk_V ρ (.ref q) ∧ fits (jk_ft ci k) (jk_V ρ (.ref q)) = true := jk_nar hR (ρ q)
  refine jk_vput X.1 X.2.1 X.2.2.2.2.2.2.2.1 hin (jk_ft ci) hty hnm X.2.2.2.2.2.1 hW.2.2.1 hW.1 hW.2.1 hW.2.2.2.1 a (jk_get hsh) hc1 k hk hC (X.2.2.2.2.2.2.2.1 _ hlk) hfin (Or.inl rfl) hnf.1 hnf.2 (by rw [jk_fslen]; exact hkn) hdg (fun H1 locs1 P1 D1 S1 z1 => ?_)
  have hW1 : jk_Wd ρ D dA A (jk_wR M a k (some q)) s H1 locs1 := hW.put E1 P1 D1 S1
  have hA1 : jk_Al ρ F.2.2.2.2 s.heap.size g0 kc (jk_wR M a k (some q)) H1 := hA.same rfl (fun _ => z1)
  exact kk ρ D dA A g0 p l e R s m args below meth c X H1 locs1 cells slots ls hW1 hA1 hc hs hl
theorem j_putF {x : Int32} (hdg : decode F.2.1 pc = .ok (.putfield idx, 3)) (hf : jk_fl F.1 idx ci k true) (hini : F.2.2.2.2 = true) (hci : (vwCl[ci]?).map (fun r => r.1) = some F.1) (hsh : M.1[a]? = some (0, ci)) (ht : jk_ft ci k = .int) (kk : J F d kc ks (pc + 3) L st (jk_wI M a k x) Q) : J F d kc ks pc L (.int x :: .ref a :: st) M Q := by
  intro ρ D dA A g0 p l e R s m args below meth c X H locs cells slots ls hW hA hc hs hl
  obtain ⟨C, T, N, ⟨hc1, hN, hin, hty, hnm⟩, hk, hC, hfin, hlk⟩ := hf
  have hR : jk_isR (jk_ft ci k) = false := by rw [ht]; rfl
  have hkn : k < jk_nf ci := by rw [← hN]; exact hk
  have E1 := jk_setw (ρ := ρ) (dA := dA) (M := M) (M' := jk_wI M a k x) rfl hsh jk_EI
  rw [show jk_E ρ dA (jk_wI M a k x) a (0, ci) = .inr (ci, (jk_fs ρ M a ci).set k (jk_V ρ (.int x))) from congrArg (fun z => Sum.inr (ci, z)) (jk_fsI hkn hR)] at E1
  have hnf : narrow (jk_ft ci k) (jk_V ρ (.int x)) = jk_V ρ (.int x) ∧ fits (jk_ft ci k) (jk_V ρ (.int x)) = true := by rw [ht]; exact ⟨rfl, rfl⟩
  refine jk_vput X.1 X.2.1 X.2.2.2.2.2.2.2.1 hin (jk_ft ci) hty hnm X.2.2.2.2.2.1 hW.2.2.1 hW.1 hW.2.1 hW.2.2.2.1 a (jk_get hsh) hc1 k hk hC (X.2.2.2.2.2.2.2.1 _ hlk) hfin (Or.inr ⟨X.2.2.2.2.2.2.1 hini, by rw [hc1] at hci; exact Option.some.inj hci⟩) hnf.1 hnf.2 (by rw [jk_fslen]; exact hkn) hdg (fun H1 locs1 P1 D1 S1 z1 => ?_)
  have hW1 : jk_Wd ρ D dA A (jk_wI M a k x) s H1 locs1 := hW.put E1 P1 D1 S1
  have hA1 : jk_Al ρ F.2.2.2.2 s.heap.size g0 kc (jk_wI M a k x) H1 := hA.same rfl (fun _ => z1)
  exact kk ρ D dA A g0 p l e R s m args below meth c X H1 locs1 cells slots ls hW1 hA1 hc hs hl
theorem j_putrF {q : Nat} (hdg : decode F.2.1 pc = .ok (.putfield idx, 3)) (hf : jk_fl F.1 idx ci k true) (hini : F.2.2.2.2 = true) (hci : (vwCl[ci]?).map (fun r => r.1) = some F.1) (hsh : M.1[a]? = some (0, ci)) (hR : jk_isR (jk_ft ci k) = true) (kk : J F d kc ks (pc + 3) L st (jk_wR M a k (some q)) Q) : J F d kc ks pc L (.ref q :: .ref a :: st) M Q := by
  intro ρ D dA A g0 p l e R s m args below meth c X H locs cells slots ls hW hA hc hs hl
  obtain ⟨C, T, N, ⟨hc1, hN, hin, hty, hnm⟩, hk, hC, hfin, hlk⟩ := hf
  have hkn : k < jk_nf ci := by rw [← hN]; exact hk
  have E1 := jk_setw (ρ := ρ) (dA := dA) (M := M) (M' := jk_wR M a k (some q)) rfl hsh jk_ER
  rw [show jk_E ρ dA (jk_wR M a k (some q)) a (0, ci) = .inr (ci, (jk_fs ρ M a ci).set k (jk_V ρ (.ref q))) from congrArg (fun z => Sum.inr (ci, z)) (jk_fsR hkn hR)] at E1
  have hnf : narrow (jk_ft ci k) (jk_V ρ (.ref q)) = jk_V ρ (.ref q) ∧ fits (jk_ft ci k) (jk_V ρ (.ref q)) = true := jk_nar hR (ρ q)
  refine jk_vput X.1 X.2.1 X.2.2.2.2.2.2.2.1 hin (jk_ft ci) hty hnm X.2.2.2.2.2.1 hW.2.2.1 hW.1 hW.2.1 hW.2.2.2.1 a (jk_get hsh) hc1 k hk hC (X.2.2.2.2.2.2.2.1 _ hlk) hfin (Or.inr ⟨X.2.2.2.2.2.2.1 hini, by rw [hc1] at hci; exact Option.some.inj hci⟩) hnf.1 hnf.2 (by rw [jk_fslen]; exact hkn) hdg (fun H1 locs1 P1 D1 S1 z1 => ?_)
  have hW1 : jk_Wd ρ D dA A (jk_wR M a k (some q)) s H1 locs1 := hW.put E1 P1 D1 S1
  have hA1 : jk_Al ρ F.2.2.2.2 s.heap.size g0 kc (jk_wR M a k (some q)) H1 := hA.same rfl (fun _ => z1)
  exact kk ρ D dA A g0 p l e R s m args below meth c X H1 locs1 cells slots ls hW1 hA1 hc hs hl
theorem j_putz {x : Int32} (hdg : decode F.2.1 pc = .ok (.putfield idx, 3)) (hf : jk_fl F.1 idx ci k false) (hsh : M.1[a]? = some (0, ci)) (ht : jk_ft ci k = .boolean) (hx : x = 0 ∨ x = 1) (kk : J F d kc ks (pc + 3) L st (jk_wI M a k x) Q) : J F d kc ks pc L (.int x :: .ref a :: st) M Q := by
  intro ρ D dA A g0 p l e R s m args below meth c X H locs cells slots ls hW hA hc hs hl
  obtain ⟨C, T, N, ⟨hc1, hN, hin, hty, hnm⟩, hk, hC, hfin, hlk⟩ := hf
  have hR : jk_isR (jk_ft ci k) = false := by rw [ht]; rfl
  have hkn : k < jk_nf ci := by rw [← hN]; exact hk
  have E1 := jk_setw (ρ := ρ) (dA := dA) (M := M) (M' := jk_wI M a k x) rfl hsh jk_EI
  rw [show jk_E ρ dA (jk_wI M a k x) a (0, ci) = .inr (ci, (jk_fs ρ M a ci).set k (jk_V ρ (.int x))) from congrArg (fun z => Sum.inr (ci, z)) (jk_fsI hkn hR)] at E1
  have hnf : narrow (jk_ft ci k) (jk_V ρ (.int x)) = jk_V ρ (.int x) ∧ fits (jk_ft ci k) (jk_V ρ (.int x)) = true := by rw [ht]; rcases hx with rfl | rfl <;> exact ⟨rfl, rfl⟩
  refine jk_vput X.1 X.2.1 X.2.2.2.2.2.2.2.1 hin (jk_ft ci) hty hnm X.2.2.2.2.2.1 hW.2.2.1 hW.1 hW.2.1 hW.2.2.2.1 a (jk_get hsh) hc1 k hk hC (X.2.2.2.2.2.2.2.1 _ hlk) hfin (Or.inl rfl) hnf.1 hnf.2 (by rw [jk_fslen]; exact hkn) hdg (fun H1 locs1 P1 D1 S1 z1 => ?_)
  have hW1 : jk_Wd ρ D dA A (jk_wI M a k x) s H1 locs1 := hW.put E1 P1 D1 S1
  have hA1 : jk_Al ρ F.2.2.2.2 s.heap.size g0 kc (jk_wI M a k x) H1 := hA.same rfl (fun _ => z1)
  exact kk ρ D dA A g0 p l e R s m args below meth c X H1 locs1 cells slots ls hW1 hA1 hc hs hl
theorem j_iald {n : Nat} {i : Int32} (hdg : decode F.2.1 pc = .ok (.iaload, 1)) (hsh : M.1[a]? = some (1, n)) (hin : vp_in i n) (kk : J F d kc ks (pc + 1) L (.int (M.2.1 a i.toNatClampNeg) :: st) M Q) : J F d kc ks pc L (.int i :: .ref a :: st) M Q := by
  intro ρ D dA A g0 p l e R s m args below meth c X H locs cells slots ls hW hA hc hs hl
  exact va_iald X.1 X.2.1 hW.2.2.1 hW.1 a 0 (jk_get hsh) rfl hin hdg (kk ρ D dA A g0 p l e R s m args below meth c X H locs cells slots ls hW hA hc hs hl)
theorem j_lald {n : Nat} {i : Int32} (hdg : decode F.2.1 pc = .ok (.laload, 1)) (hsh : M.1[a]? = some (2, n)) (hin : vp_in i n) (kk : J F d kc ks (pc + 1) L (.long (M.2.2.1 a i.toNatClampNeg) :: st) M Q) : J F d kc ks pc L (.int i :: .ref a :: st) M Q := by
  intro ρ D dA A g0 p l e R s m args below meth c X H locs cells slots ls hW hA hc hs hl
  exact va_lald X.1 X.2.1 hW.2.2.1 hW.1 a 1 (jk_get hsh) rfl hin hdg (kk ρ D dA A g0 p l e R s m args below meth c X H locs cells slots ls hW hA hc hs hl)
theorem jk_tyq {dA : Nat → ClassId} {t : Nat} (ht : t < 3) : ∃ C : String, (jk_tys dA)[t + 2]? = some (dA (t + 2), .object C) := by
  match t, ht with
  | 0, _ => exact ⟨_, rfl⟩
  | 1, _ => exact ⟨_, rfl⟩
  | 2, _ => exact ⟨_, rfl⟩
theorem j_aald {t n q : Nat} {i : Int32} (hdg : decode F.2.1 pc = .ok (.aaload, 1)) (hsh : M.1[a]? = some (t + 3, n)) (ht : t < 3) (hin : vp_in i n) (hv : M.2.2.2 a i.toNatClampNeg = some q) (kk : J F d kc ks (pc + 1) L (.ref q :: st) M Q) : J F d kc ks pc L (.int i :: .ref a :: st) M Q := by
  intro ρ D dA A g0 p l e R s m args below meth c X H locs cells slots ls hW hA hc hs hl
  obtain ⟨C, hC⟩ := jk_tyq (dA := dA) ht
  refine va_aldq X.1 X.2.1 hW.2.2.1 hW.1 a (t + 2) (C := C) (n := n) (f := fun k => (M.2.2.2 a k).map ρ) (jk_get hsh) hC hin hdg ?_
  simp only [hv]
  exact kk ρ D dA A g0 p l e R s m args below meth c X H locs cells slots ls hW hA hc hs hl
theorem jk_tysat {dA : Nat → ClassId} {t : Nat} {ty : FieldType} (h : (jk_tys dA)[t]? = some (dA t, ty)) : True := trivial
theorem j_alen {t n : Nat} (hdg : decode F.2.1 pc = .ok (.arraylength, 1)) (hsh : M.1[a]? = some (t + 1, n)) (ht : t < 5) (kk : J F d kc ks (pc + 1) L (.int (nI n) :: st) M Q) : J F d kc ks pc L (.ref a :: st) M Q := by
  intro ρ D dA A g0 p l e R s m args below meth c X H locs cells slots ls hW hA hc hs hl
  match t, ht, hsh with
  | 0, _, hsh => exact va_alen X.1 X.2.1 hW.2.2.1 hW.1 a 0 (jk_get hsh) (ty := .int) rfl rfl hdg (kk ρ D dA A g0 p l e R s m args below meth c X H locs cells slots ls hW hA hc hs hl)
  | 1, _, hsh => exact va_alen X.1 X.2.1 hW.2.2.1 hW.1 a 1 (jk_get hsh) (ty := .long) rfl rfl hdg (kk ρ D dA A g0 p l e R s m args below meth c X H locs cells slots ls hW hA hc hs hl)
  | 2, _, hsh => exact va_alen X.1 X.2.1 hW.2.2.1 hW.1 a 2 (jk_get hsh) (ty := .object RX9) rfl rfl hdg (kk ρ D dA A g0 p l e R s m args below meth c X H locs cells slots ls hW hA hc hs hl)
  | 3, _, hsh => exact va_alen X.1 X.2.1 hW.2.2.1 hW.1 a 3 (jk_get hsh) (ty := .object RX1) rfl rfl hdg (kk ρ D dA A g0 p l e R s m args below meth c X H locs cells slots ls hW hA hc hs hl)
  | 4, _, hsh => exact va_alen X.1 X.2.1 hW.2.2.1 hW.1 a 4 (jk_get hsh) (ty := .object RX8) rfl rfl hdg (kk ρ D dA A g0 p l e R s m args below meth c X H locs cells slots ls hW hA hc hs hl)
theorem j_iast {n : Nat} {i x : Int32} (hdg : decode F.2.1 pc = .ok (.iastore, 1)) (hsh : M.1[a]? = some (1, n)) (hin : vp_in i n) (kk : J F d kc ks (pc + 1) L st (jk_wI M a i.toNatClampNeg x) Q) : J F d kc ks pc L (.int x :: .int i :: .ref a :: st) M Q := by
  intro ρ D dA A g0 p l e R s m args below meth c X H locs cells slots ls hW hA hc hs hl
  have E1 := jk_setw (ρ := ρ) (dA := dA) (M := M) (M' := jk_wI M a i.toNatClampNeg x) rfl hsh jk_EI
  rw [show jk_E ρ dA (jk_wI M a i.toNatClampNeg x) a (1, n) = .inl (dA 0, n, .inl (va_up (M.2.1 a) i.toNatClampNeg x)) from congrArg (fun z => Sum.inl (dA 0, n, Sum.inl z)) (jk_up_s _ _ _)] at E1
  refine jk_viast X.1 X.2.1 hW.2.2.1 hW.1 hW.2.1 hW.2.2.2.1 a 0 (jk_get hsh) rfl hin hdg (fun H1 locs1 P1 D1 S1 z1 => ?_)
  have hW1 : jk_Wd ρ D dA A (jk_wI M a i.toNatClampNeg x) s H1 locs1 := hW.put E1 P1 D1 S1
  have hA1 : jk_Al ρ F.2.2.2.2 s.heap.size g0 kc (jk_wI M a i.toNatClampNeg x) H1 := hA.same rfl (fun _ => z1)
  exact kk ρ D dA A g0 p l e R s m args below meth c X H1 locs1 cells slots ls hW1 hA1 hc hs hl
theorem j_last {n : Nat} {i : Int32} {x : Int64} (hdg : decode F.2.1 pc = .ok (.lastore, 1)) (hni : F.2.2.2.2 = false) (hsh : M.1[a]? = some (2, n)) (hin : vp_in i n) (kk : J F d kc ks (pc + 1) L st (jk_wC M a (vp_updL (M.2.2.1 a) i.toNatClampNeg x)) Q) : J F d kc ks pc L (.long x :: .int i :: .ref a :: st) M Q := by
  intro ρ D dA A g0 p l e R s m args below meth c X H locs cells slots ls hW hA hc hs hl
  have E1 := jk_setw (ρ := ρ) (dA := dA) (M := M) (M' := jk_wC M a (vp_updL (M.2.2.1 a) i.toNatClampNeg x)) rfl hsh jk_EL
  rw [show jk_E ρ dA (jk_wC M a (vp_updL (M.2.2.1 a) i.toNatClampNeg x)) a (2, n) = .inl (dA 1, n, .inr (.inl (vp_updL (M.2.2.1 a) i.toNatClampNeg x))) from congrArg (fun z => Sum.inl (dA 1, n, Sum.inr (Sum.inl z))) (jk_up_s _ _ _)] at E1
  refine va_last X.1 X.2.1 hW.2.2.1 hW.1 hW.2.1 hW.2.2.2.1 a 1 (jk_get hsh) rfl hin hdg (fun H1 locs1 P1 D1 S1 => ?_)
  have hW1 : jk_Wd ρ D dA A (jk_wC M a (vp_updL (M.2.2.1 a) i.toNatClampNeg x)) s H1 locs1 := hW.put E1 P1 D1 S1
  have hA1 : jk_Al ρ F.2.2.2.2 s.heap.size g0 kc (jk_wC M a (vp_updL (M.2.2.1 a) i.toNatClampNeg x)) H1 := hA.same rfl (fun h => by rw [hni] at h; cases h)
  exact kk ρ D dA A g0 p l e R s m args below meth c X H1 locs1 cells slots ls hW1 hA1 hc hs hl
theorem j_aast {t n q cj : Nat} {i : Int32} {r : vw_C} (hdg : decode F.2.1 pc = .ok (.aastore, 1)) (hsh : M.1[a]? = some (t + 3, n)) (hty : ∀ dA : Nat → ClassId, (jk_tys dA)[t + 2]? = some (dA (t + 2), .object r.1)) (hsq : M.1[q]? = some (0, cj)) (hcj : vwCl[cj]? = some r) (hin : vp_in i n) (kk : J F d kc ks (pc + 1) L st (jk_wR M a i.toNatClampNeg (some q)) Q) : J F d kc ks pc L (.ref q :: .int i :: .ref a :: st) M Q := by
  intro ρ D dA A g0 p l e R s m args below meth c X H locs cells slots ls hW hA hc hs hl
  have E1 := jk_setw (ρ := ρ) (dA := dA) (M := M) (M' := jk_wR M a i.toNatClampNeg (some q)) rfl hsh jk_ER
  rw [show jk_E ρ dA (jk_wR M a i.toNatClampNeg (some q)) a (t + 3, n) = .inl (dA (t + 2), n, .inr (.inr (.inr (.inr (va_up (fun k => (M.2.2.2 a k).map ρ) i.toNatClampNeg (some (ρ q))))))) from congrArg (fun z => Sum.inl (dA (t + 2), n, Sum.inr (Sum.inr (Sum.inr (Sum.inr z))))) ((congrArg (fun f : Nat → Option Nat => fun k => (f k).map ρ) (jk_up_s _ _ _)).trans (jk_upmap _ _ _ _))] at E1
  refine jk_vaast X.1 X.2.1 hW.2.2.1 hW.1 hW.2.1 hW.2.2.2.1 a (t + 2) q cj (n := n) (f := fun k => (M.2.2.2 a k).map ρ) (jk_get hsh) (hty dA) (jk_get hsq) hcj hin hdg (fun H1 locs1 P1 D1 S1 z1 => ?_)
  have hW1 : jk_Wd ρ D dA A (jk_wR M a i.toNatClampNeg (some q)) s H1 locs1 := hW.put E1 P1 D1 S1
  have hA1 : jk_Al ρ F.2.2.2.2 s.heap.size g0 kc (jk_wR M a i.toNatClampNeg (some q)) H1 := hA.same rfl (fun _ => z1)
  exact kk ρ D dA A g0 p l e R s m args below meth c X H1 locs1 cells slots ls hW1 hA1 hc hs hl
theorem j_gets {j : Nat} {q : String × String × List Int32} (hdg : decode F.2.1 pc = .ok (.getstatic idx, 3)) (hj : jk_sA[j]? = some q) (hlk : Cond.fieldLink F.1 idx q.1 q.2.1 "[I" ∈ jk_gt) (kk : J F d kc ks (pc + 3) L (.ref (1000 + j) :: st) M Q) : J F d kc ks pc L st M Q := by
  intro ρ D dA A g0 p l e R s m args below meth c X H locs cells slots ls hW hA hc hs hl
  exact va_gets X.1 X.2.1 (C := q.1) (hW.2.2.2.2.2.1 j q hj).1 hW.2.2.2.1 X.2.2.2.2.2.1 (X.2.2.2.2.2.2.2.1 _ hlk) (fun x h => h) hdg (kk ρ D dA A g0 p l e R s m args below meth c X H locs cells slots ls hW hA hc hs hl)
theorem j_getsN {j : Nat} {q : String × String × List Int32} {host : String} (hdg : decode F.2.1 pc = .ok (.getstatic idx, 3)) (hj : jk_sA[j]? = some q) (hlk : Cond.fieldLinkNest F.1 idx q.1 q.2.1 "[I" host ∈ jk_ns) (kk : J F d kc ks (pc + 3) L (.ref (1000 + j) :: st) M Q) : J F d kc ks pc L st M Q := by
  intro ρ D dA A g0 p l e R s m args below meth c X H locs cells slots ls hW hA hc hs hl
  exact va_getsN X.1 X.2.1 (C := q.1) (hW.2.2.2.2.2.1 j q hj).1 hW.2.2.2.1 X.2.2.2.2.2.1 (va_Nw.use rfl (X.2.2.2.2.2.2.2.2.1 _ hlk)) (fun x h => h) hdg (kk ρ D dA A g0 p l e R s m args below meth c X H locs cells slots ls hW hA hc hs hl)
theorem j_ialdS {j : Nat} {q : String × String × List Int32} {i : Int32} (hdg : decode F.2.1 pc = .ok (.iaload, 1)) (hj : jk_sA[j]? = some q) (hin : vp_in i q.2.2.length) (kk : J F d kc ks (pc + 1) L (.int (q.2.2.getD i.toNatClampNeg 0) :: st) M Q) : J F d kc ks pc L (.int i :: .ref (1000 + j) :: st) M Q := by
  intro ρ D dA A g0 p l e R s m args below meth c X H locs cells slots ls hW hA hc hs hl
  obtain ⟨cell, h1, h2, h3, h4, h5, h6, h7⟩ := (hW.2.2.2.2.2.1 j q hj).2
  have hlt : i.toNatClampNeg < q.2.2.length := Nat.not_le.mp fun z => hin (Or.inr z)
  exact W.iald (v := .int (q.2.2.getD i.toNatClampNeg 0)) X.1 X.2.1 (by rw [hW.2.2.2.1.2.1 _ (Array.getElem?_eq_some_iff.mp h1).1 h7]; exact h1) h2 h3 (fun z => hin (z.imp id fun z => Nat.le_trans h4 z)) (h6 _ hlt) rfl rfl hdg (kk ρ D dA A g0 p l e R s m args below meth c X H locs cells slots ls hW hA hc hs hl)
theorem j_alenS {j : Nat} {q : String × String × List Int32} (hdg : decode F.2.1 pc = .ok (.arraylength, 1)) (hj : jk_sA[j]? = some q) (kk : J F d kc ks (pc + 1) L (.int (nI q.2.2.length) :: st) M Q) : J F d kc ks pc L (.ref (1000 + j) :: st) M Q := by
  intro ρ D dA A g0 p l e R s m args below meth c X H locs cells slots ls hW hA hc hs hl
  obtain ⟨cell, h1, h2, h3, h4, h5, h6, h7⟩ := (hW.2.2.2.2.2.1 j q hj).2
  exact W.alen (n := nI q.2.2.length) X.1 X.2.1 (by rw [hW.2.2.2.1.2.1 _ (Array.getElem?_eq_some_iff.mp h1).1 h7]; exact h1) h2 h5 rfl rfl hdg (kk ρ D dA A g0 p l e R s m args below meth c X H locs cells slots ls hW hA hc hs hl)
theorem j_ldcS {i : Nat} (hdg : decode F.2.1 pc = .ok (.ldc (jk_sI.getD i 0), 2)) (hi : i < 10) (hF : F.1 = RX5) (kk : J F d kc ks (pc + 2) L (.ref (2000 + i) :: st) M Q) : J F d kc ks pc L st M Q := by
  intro ρ D dA A g0 p l e R s m args below meth c X H locs cells slots ls hW hA hc hs hl
  exact va_ldcS X.1 X.2.1 (own := RX5) (by rw [← hF]; exact X.2.2.2.2.2.1) (hW.2.2.2.2.2.2.2.1 i hi) hdg (kk ρ D dA A g0 p l e R s m args below meth c X H locs cells slots ls hW hA hc hs hl)
theorem j_svalue {i : Nat} (hdg : decode F.2.1 pc = .ok (.getfield idx, 3)) (hi : i < 10) (hlk : Cond.fieldLink F.1 idx "java/lang/String" "value" "[B" ∈ jk_gt) (kk : J F d kc ks (pc + 3) L (.ref (3000 + i) :: st) M Q) : J F d kc ks pc L (.ref (2000 + i) :: st) M Q := by
  intro ρ D dA A g0 p l e R s m args below meth c X H locs cells slots ls hW hA hc hs hl
  exact vk_getf X.1 X.2.1 (hW.2.2.2.2.2.2.1.1 i hi).2.2.1 hW.2.2.2.1 X.2.2.2.2.2.1 (X.2.2.2.2.2.2.2.1 _ hlk) (fun x h => h) hdg (kk ρ D dA A g0 p l e R s m args below meth c X H locs cells slots ls hW hA hc hs hl)
theorem j_scoder {i : Nat} (hdg : decode F.2.1 pc = .ok (.getfield idx, 3)) (hi : i < 10) (hlk : Cond.fieldLink F.1 idx "java/lang/String" "coder" "B" ∈ jk_gt) (kk : J F d kc ks (pc + 3) L (.int 0 :: st) M Q) : J F d kc ks pc L (.ref (2000 + i) :: st) M Q := by
  intro ρ D dA A g0 p l e R s m args below meth c X H locs cells slots ls hW hA hc hs hl
  exact vk_getf X.1 X.2.1 (hW.2.2.2.2.2.2.1.1 i hi).2.1 hW.2.2.2.1 X.2.2.2.2.2.1 (X.2.2.2.2.2.2.2.1 _ hlk) (fun x h => h) hdg (kk ρ D dA A g0 p l e R s m args below meth c X H locs cells slots ls hW hA hc hs hl)
theorem j_slen {i : Nat} (hdg : decode F.2.1 pc = .ok (.arraylength, 1)) (hi : i < 10) (kk : J F d kc ks (pc + 1) L (.int (nI (jk_sL.getD i 0)) :: st) M Q) : J F d kc ks pc L (.ref (3000 + i) :: st) M Q := by
  intro ρ D dA A g0 p l e R s m args below meth c X H locs cells slots ls hW hA hc hs hl
  obtain ⟨cell, h1, h2, h3, h4, h5, h6, h7⟩ := (hW.2.2.2.2.2.2.1.1 i hi).2.2.2
  exact W.alen (n := nI (jk_sL.getD i 0)) X.1 X.2.1 (by rw [hW.2.2.2.1.2.1 _ (Array.getElem?_eq_some_iff.mp h1).1 h7]; exact h1) h2 h5 rfl rfl hdg (kk ρ D dA A g0 p l e R s m args below meth c X H locs cells slots ls hW hA hc hs hl)
theorem j_sbald {i : Nat} {j : Int32} (hdg : decode F.2.1 pc = .ok (.baload, 1)) (hi : i < 10) (hin : vp_in j (jk_sL.getD i 0)) (kk : J F d kc ks (pc + 1) L (.int ((jk_sB.getD i []).getD j.toNatClampNeg 0) :: st) M Q) : J F d kc ks pc L (.int j :: .ref (3000 + i) :: st) M Q := by
  intro ρ D dA A g0 p l e R s m args below meth c X H locs cells slots ls hW hA hc hs hl
  obtain ⟨cell, h1, h2, h3, h4, h5, h6, h7⟩ := (hW.2.2.2.2.2.2.1.1 i hi).2.2.2
  have hlt : j.toNatClampNeg < jk_sL.getD i 0 := Nat.not_le.mp fun z => hin (Or.inr z)
  exact W.bald (v := .int ((jk_sB.getD i []).getD j.toNatClampNeg 0)) X.1 X.2.1 (by rw [hW.2.2.2.1.2.1 _ (Array.getElem?_eq_some_iff.mp h1).1 h7]; exact h1) h2 h3 (fun z => hin (z.imp id fun z => Nat.le_trans h4 z)) (h6 _ hlt) rfl rfl hdg (kk ρ D dA A g0 p l e R s m args below meth c X H locs cells slots ls hW hA hc hs hl)
theorem j_compact (hdg : decode F.2.1 pc = .ok (.getstatic idx, 3)) (hlk : Cond.fieldLink F.1 idx RJ0 "COMPACT_STRINGS" "Z" ∈ jk_gt) (kk : J F d kc ks (pc + 3) L (.int 1 :: st) M Q) : J F d kc ks pc L st M Q := by
  intro ρ D dA A g0 p l e R s m args below meth c X H locs cells slots ls hW hA hc hs hl
  exact va_gets X.1 X.2.1 (C := RJ0) hW.2.2.2.2.2.2.2.2.1 hW.2.2.2.1 X.2.2.2.2.2.1 (X.2.2.2.2.2.2.2.1 _ hlk) (fun x h => h) hdg (kk ρ D dA A g0 p l e R s m args below meth c X H locs cells slots ls hW hA hc hs hl)
theorem j_format (hdg : decode F.2.1 pc = .ok (.getstatic idx, 3)) (hlk : Cond.fieldLink F.1 idx RJ3 "SIOOBE_FORMATTER" "Ljava/util/function/BiFunction;" ∈ jk_gt) (k1 : J F d kc ks (pc + 3) L (.null :: st) M Q) (k2 : J F d kc ks (pc + 3) L (.ref 4000 :: st) M Q) : J F d kc ks pc L st M Q := by
  intro ρ D dA A g0 p l e R s m args below meth c X H locs cells slots ls hW hA hc hs hl
  rcases hW.2.2.2.2.2.2.2.2.2 with hZ | hZ
  · exact va_gets X.1 X.2.1 (C := RJ3) hZ hW.2.2.2.1 X.2.2.2.2.2.1 (X.2.2.2.2.2.2.2.1 _ hlk) (fun x h => h) hdg (k1 ρ D dA A g0 p l e R s m args below meth c X H locs cells slots ls hW hA hc hs hl)
  · exact va_gets X.1 X.2.1 (C := RJ3) hZ hW.2.2.2.1 X.2.2.2.2.2.1 (X.2.2.2.2.2.2.2.1 _ hlk) (fun x h => h) hdg (k2 ρ D dA A g0 p l e R s m args below meth c X H locs cells slots ls hW hA hc hs hl)
theorem j_max {x y : Int32} (hdg : decode F.2.1 pc = .ok (.invokestatic idx, 3)) (hlk : Cond.methodLink F.1 idx Lib.Math.max.name ∈ jk_gt) (hst : Cond.static Lib.Math.max.name ∈ jk_gt) (hini : Cond.initialized "java/lang/Math" ∈ jk_gt) (hco : Cond.code Lib.Math.max.name Lib.Math.max.code 2 (some .int) ∈ jk_gt) (hrm : (st.map fun v => v.category).sum ≤ 8) (kk : J F d kc ks (pc + 3) L (.int (if x < y then y else x) :: st) M Q) : J F d kc ks pc L (.int y :: .int x :: st) M Q := by
  intro ρ D dA A g0 p l e R s m args below meth c X H locs cells slots ls hW hA hc hs hl
  exact va_mmax X.1 X.2.1 (by rw [hl.1]; exact X.2.2.1) X.2.2.2.2.2.1 (X.2.2.2.2.2.2.2.1 _ hlk) (X.2.2.2.2.2.2.2.1 _ hst) (X.2.2.2.2.2.2.2.1 _ hini) (X.2.2.2.2.2.2.2.1 _ hco) (by have := X.2.2.2.2.2.2.2.2.2.1; omega) (by rw [jk_sum]; have := X.2.2.2.2.2.2.2.2.2.2; omega) (by omega) (by omega) hdg (kk ρ D dA A g0 p l e R s m args below meth c X H locs cells slots ls hW hA hc hs hl)
theorem j_min {x y : Int32} (hdg : decode F.2.1 pc = .ok (.invokestatic idx, 3)) (hlk : Cond.methodLink F.1 idx Lib.Math.min.name ∈ jk_gt) (hst : Cond.static Lib.Math.min.name ∈ jk_gt) (hini : Cond.initialized "java/lang/Math" ∈ jk_gt) (hco : Cond.code Lib.Math.min.name Lib.Math.min.code 2 (some .int) ∈ jk_gt) (hrm : (st.map fun v => v.category).sum ≤ 8) (kk : J F d kc ks (pc + 3) L (.int (if y < x then y else x) :: st) M Q) : J F d kc ks pc L (.int y :: .int x :: st) M Q := by
  intro ρ D dA A g0 p l e R s m args below meth c X H locs cells slots ls hW hA hc hs hl
  exact va_mmin X.1 X.2.1 (by rw [hl.1]; exact X.2.2.1) X.2.2.2.2.2.1 (X.2.2.2.2.2.2.2.1 _ hlk) (X.2.2.2.2.2.2.2.1 _ hst) (X.2.2.2.2.2.2.2.1 _ hini) (X.2.2.2.2.2.2.2.1 _ hco) (by have := X.2.2.2.2.2.2.2.2.2.1; omega) (by rw [jk_sum]; have := X.2.2.2.2.2.2.2.2.2.2; omega) (by omega) (by omega) hdg (kk ρ D dA A g0 p l e R s m args below meth c X H locs cells slots ls hW hA hc hs hl)
theorem j_abs {x : Int32} (hdg : decode F.2.1 pc = .ok (.invokestatic idx, 3)) (hlk : Cond.methodLink F.1 idx Lib.Math.abs.name ∈ jk_gt) (hst : Cond.static Lib.Math.abs.name ∈ jk_gt) (hini : Cond.initialized "java/lang/Math" ∈ jk_gt) (hco : Cond.code Lib.Math.abs.name Lib.Math.abs.code 1 (some .int) ∈ jk_gt) (hrm : (st.map fun v => v.category).sum ≤ 8) (kk : J F d kc ks (pc + 3) L (.int (if 0 ≤ x then x else 0 - x) :: st) M Q) : J F d kc ks pc L (.int x :: st) M Q := by
  intro ρ D dA A g0 p l e R s m args below meth c X H locs cells slots ls hW hA hc hs hl
  exact va_mabs X.1 X.2.1 (by rw [hl.1]; exact X.2.2.1) X.2.2.2.2.2.1 (X.2.2.2.2.2.2.2.1 _ hlk) (X.2.2.2.2.2.2.2.1 _ hst) (X.2.2.2.2.2.2.2.1 _ hini) (X.2.2.2.2.2.2.2.1 _ hco) (by have := X.2.2.2.2.2.2.2.2.2.1; omega) (by rw [jk_sum]; have := X.2.2.2.2.2.2.2.2.2.2; omega) (by omega) (by omega) hdg (kk ρ D dA A g0 p l e R s m args below meth c X H locs cells slots ls hW hA hc hs hl)
theorem j_copyl {a0 n0 n1 : Nat} {sp dp n : Int32} (hdg : decode F.2.1 pc = .ok (.invokestatic idx, 3)) (hni : F.2.2.2.2 = false) (hlk : Cond.methodLink F.1 idx arraycopyName ∈ jk_gt) (hnat : Cond.native arraycopyName ∈ jk_gt) (hst : Cond.static arraycopyName ∈ jk_gt) (hini : Cond.initialized "java/lang/System" ∈ jk_gt) (hs0 : M.1[a0]? = some (2, n0)) (hs1 : M.1[a]? = some (2, n1)) (h1 : ¬ sp < 0) (h2 : ¬ dp < 0) (h3 : ¬ n < 0) (h4 : sp.toNatClampNeg + n.toNatClampNeg ≤ n0) (h5 : dp.toNatClampNeg + n.toNatClampNeg ≤ n1) (hrm : (st.map fun v => v.category).sum ≤ 8) (kk : J F d kc ks (pc + 3) L st (jk_wC M a (va_cpy (M.2.2.1 a0) (M.2.2.1 a) sp.toNatClampNeg dp.toNatClampNeg n.toNatClampNeg)) Q) : J F d kc ks pc L (.int n :: .int dp :: .ref a :: .int sp :: .ref a0 :: st) M Q := by
  intro ρ D dA A g0 p l e R s m args below meth c X H locs cells slots ls hW hA hc hs hl
  have E1 := jk_setw (ρ := ρ) (dA := dA) (M := M) (M' := jk_wC M a (va_cpy (M.2.2.1 a0) (M.2.2.1 a) sp.toNatClampNeg dp.toNatClampNeg n.toNatClampNeg)) rfl hs1 jk_EL
  rw [show jk_E ρ dA (jk_wC M a (va_cpy (M.2.2.1 a0) (M.2.2.1 a) sp.toNatClampNeg dp.toNatClampNeg n.toNatClampNeg)) a (2, n1) = .inl (dA 1, n1, .inr (.inl (va_cpy (M.2.2.1 a0) (M.2.2.1 a) sp.toNatClampNeg dp.toNatClampNeg n.toNatClampNeg))) from congrArg (fun z => Sum.inl (dA 1, n1, Sum.inr (Sum.inl z))) (jk_up_s _ _ _)] at E1
  have hq1 : nativeFrameWords "java/lang/System" "arraycopy" 5 ≤ 40 := by decide +kernel
  have hq2 := X.2.2.2.2.2.2.2.2.2.2
  refine va_copyl X.1 X.2.1 (by rw [hl.1]; exact X.2.2.1) X.2.2.2.2.2.1 (X.2.2.2.2.2.2.2.1 _ hlk) (X.2.2.2.2.2.2.2.1 _ hnat) (X.2.2.2.2.2.2.2.1 _ hst) (X.2.2.2.2.2.2.2.1 _ hini) hW.2.2.1 hW.1 hW.2.1 hW.2.2.2.1 a0 a 1 1 (jk_get hs0) (jk_get hs1) (ty := .long) rfl rfl rfl h1 h2 h3 h4 h5 (fun i _ => rfl) (by have := X.2.2.2.2.2.2.2.2.2.1; omega) (by rw [jk_sum]; omega) hdg (fun H1 locs1 P1 D1 S1 => ?_)
  have hW1 : jk_Wd ρ D dA A (jk_wC M a (va_cpy (M.2.2.1 a0) (M.2.2.1 a) sp.toNatClampNeg dp.toNatClampNeg n.toNatClampNeg)) s H1 locs1 := hW.put E1 P1 D1 S1
  have hA1 : jk_Al ρ F.2.2.2.2 s.heap.size g0 kc (jk_wC M a (va_cpy (M.2.2.1 a0) (M.2.2.1 a) sp.toNatClampNeg dp.toNatClampNeg n.toNatClampNeg)) H1 := hA.same rfl (fun h => by rw [hni] at h; cases h)
  exact kk ρ D dA A g0 p l e R s m args below meth c X H1 locs1 cells slots ls hW1 hA1 hc hs hl
theorem j_objInit {q : Nat} (hdg : decode F.2.1 pc = .ok (.invokespecial idx, 3)) (hlk : Cond.methodLink F.1 idx Lib.objectInit ∈ jk_gt) (hin : Cond.instanceMethod Lib.objectInit ∈ jk_gt) (hco : Cond.code Lib.objectInit ⟨#[0xb1]⟩ 1 none ∈ jk_gt) (hrm : (st.map fun v => v.category).sum ≤ 8) (kk : J F d kc ks (pc + 3) L st M Q) : J F d kc ks pc L (.ref q :: st) M Q := by
  intro ρ D dA A g0 p l e R s m args below meth c X H locs cells slots ls hW hA hc hs hl
  have h9 : 2 * (F0 m pc ls (List.map (jk_V ρ) (Value.ref q :: st))).monitorRoom + (((st.map (jk_V ρ)).map fun v => v.category).sum) ≤ 8 := lv_room (by rw [jk_sum]; exact hrm)
  have hq2 := X.2.2.2.2.2.2.2.2.2.2
  refine W.objInit X.1 X.2.1 X.2.2.2.2.2.1 (X.2.2.2.2.2.2.2.1 _ hlk) (X.2.2.2.2.2.2.2.1 _ hin) (X.2.2.2.2.2.2.2.1 _ hco) rfl (by rw [X.2.2.1]; exact hl.1) rfl hdg (by have := X.2.2.2.2.2.2.2.2.2.1; omega) (by omega) ?_
  exact W.eq (g2 := F0 m (pc + 3) ls (st.map (jk_V ρ))) rfl (kk ρ D dA A g0 p l e R s m args below meth c X H locs cells slots ls hW hA hc hs hl)
end JH
