/-! two worlds: the class's and the model's -/
def lw_W2 (D : va_G) (dA : Nat → ClassId) (s : State) (ρ1 : Nat → Nat) (M1 : jk_M) (ρ2 : Nat → Nat) (M2 : jk_M) (H : Heap) (locs : List Loc) : Prop :=
  va_P D vwCl (jk_w ρ1 dA M1) H ∧ va_P D vwCl (jk_w ρ2 dA M2) H ∧ va_D (fun q : Nat => s.heap.size ≤ q) (jk_w ρ1 dA M1) ∧ va_D (fun q : Nat => s.heap.size ≤ q) (jk_w ρ2 dA M2) ∧ (∀ (i j : Nat) (x y : Nat × va_E), (jk_w ρ1 dA M1)[i]? = some x → (jk_w ρ2 dA M2)[j]? = some y → x.1 ≠ y.1) ∧ va_S (fun q : Nat => s.heap.size ≤ q) s.heap H locs
def lw_Cx (D : va_G) (dA : Nat → ClassId) (s : State) (ρ : Nat → Nat) : Prop := va_K D vwCl (jk_tys dA) s ∧ jk_St ρ (fun q : Nat => s.heap.size ≤ q) s s.heap ∧ jk_Ns s
theorem jk_St.narrow {ρ : Nat → Nat} {A B : Nat → Prop} {U : State} {H : Heap} (h : jk_St ρ A U H) (hAB : ∀ q, B q → A q) : jk_St ρ B U H := by
  obtain ⟨h1, h2, h3, h4, h5⟩ := h
  refine ⟨fun j q hj => ⟨(h1 j q hj).1.narrow hAB, (h1 j q hj).2.narrow hAB⟩, h2.narrow hAB, h3, h4.narrow hAB, ?_⟩
  rcases h5 with h5 | h5
  · exact Or.inl (h5.narrow hAB)
  · exact Or.inr (h5.narrow hAB)
section LW
variable {p : Program} {l : Launch} {e : Env} {s : State} {m : MethodId} {below : List Frame} {meth : Method} {c : Code} {b L : Nat} {xs : Nat → Int32} {D : va_G} {dA : Nat → ClassId} {ρ1 ρ2 : Nat → Nat} {M1 M2 : jk_M} {H : Heap} {locs : List Loc} {cells slots pc : Nat} {ls : Array Slot} {Z : State → Prop} {st rest : List Value}
theorem lw_W2.swap (h : lw_W2 D dA s ρ1 M1 ρ2 M2 H locs) : lw_W2 D dA s ρ2 M2 ρ1 M1 H locs := ⟨h.2.1, h.1, h.2.2.2.1, h.2.2.1, fun i j x y hx hy e => h.2.2.2.2.1 j i y x hy hx e.symm, h.2.2.2.2.2⟩
theorem lw_W2.free (h : lw_W2 D dA s ρ1 M1 ρ2 M2 H locs) : ∀ q, va_A (jk_w ρ1 dA M1) H.size q → s.heap.size ≤ q := by
  intro q hq
  rcases hq with ⟨k, e, hk⟩ | hq
  · exact h.2.2.1.2 k (q, e) hk
  · exact Nat.le_trans h.2.2.2.2.2.1 hq
/-- behind a call of the first world's objects: the second world stays -/
theorem lw_behind {ini : Bool} {g ca sa : Nat} {Q' : Option Value → jk_M → Prop} {av : Array Value} {st0 : List Value} (hW : lw_W2 D dA s ρ1 M1 ρ2 M2 H locs)
    (hr : va_Run p l e room_1 s m #[Value.ref b] below meth c H locs cells slots ca sa (F0 m pc ls st0) rest (jk_Qc ρ1 D dA (va_A (jk_w ρ1 dA M1) H.size) ini g Q' av) (va_A (jk_w ρ1 dA M1) H.size))
    (kk : ∀ (r : Option Value) (M' : jk_M) (H1 : Heap) (locs1 : List Loc), Q' r M' → lw_W2 D dA s ρ1 M' ρ2 M2 H1 locs1 → (ini = true → H1.size + g = H.size + M'.1.length) → W p l e room_1 s m #[Value.ref b] below meth c H1 locs1 (cells + ca) (slots + sa) Z (F0 m (pc + 3) ls ((r.map (jk_V ρ1)).toList ++ rest))) : W p l e room_1 s m #[Value.ref b] below meth c H locs cells slots Z (F0 m pc ls st0) := by
  intro T hT Y
  have hfr := hW.free
  obtain ⟨hP1, hP2, hD1, hD2, hap, hS⟩ := hW
  obtain ⟨v, st₀, t, T', Lc, h0, X', hLc, e1, e2, ⟨⟨r, M', c1, c2, c3, c4, c5⟩, c6, c7⟩, hst⟩ := hr T hT Y
  have hv : v = r.map (jk_V ρ1) := by cases c1; rfl
  subst hv
  rw [h0] at c5 c6 c7
  have hkeep : ∀ (k : Nat) (x : Nat × va_E), (jk_w ρ2 dA M2)[k]? = some x → T'.heap[x.1]? = H[x.1]? := fun k x hx => by
    rw [e1]
    refine c7 x.1 (hP2 k x hx).lt (fun z => ?_)
    rcases z with ⟨i, en, hi⟩ | z
    · exact hap i k (x.1, en) x hi hx rfl
    · exact absurd (hP2 k x hx).lt (Nat.not_lt.mpr z)
  have hW' : lw_W2 D dA s ρ1 M' ρ2 M2 T'.heap (locs ++ Lc) := by
    refine ⟨by rw [e1]; exact c3, hP2.kept hkeep, c4.weaken (fun k q _ h => hfr q.1 h), hD2, fun i j x y hx hy e => ?_, Nat.le_trans hS.1 (by rw [e1]; exact c6), fun q h1 h2 => ?_, fun q hq => ?_⟩
    · rcases c4.2 i x hx with ⟨k, en, hk⟩ | z
      · exact hap k j (x.1, en) y hk hy e
      · exact absurd (hP2 j y hy).lt (Nat.not_lt.mpr (e ▸ z))
    · rw [e1, c7 q (Nat.lt_of_lt_of_le h1 hS.1) (fun z => h2 (hfr q z))]
      exact hS.2.1 q h1 h2
    · rcases List.mem_append.mp hq with h | h
      · exact hS.2.2 q h
      · exact hfr _ (hLc q h)
  obtain ⟨t2, a1, b1⟩ := kk r M' T'.heap (locs ++ Lc) c2 hW' (fun hi => by rw [e1]; exact c5 hi) T' rfl X'
  exact ⟨t2, hst t2 a1, b1⟩
theorem lw_Brun {ini : Bool} {a : Nat} {U : State} (hc : lw_Cx D dA s ρ1) (hW : lw_W2 D dA s ρ1 M1 ρ2 M2 H locs) (hal : ini = true → a ≠ 0 → ∀ j, M1.1.length ≤ j → j < 1000 → ρ1 j + M1.1.length = H.size + j) (hU : U.heap = H) (hWm : s.WarmedH U.vm) : jk_B ρ1 D dA (va_A (jk_w ρ1 dA M1) H.size) ini a M1 U := by
  have hfr := hW.free
  obtain ⟨hP1, hP2, hD1, hD2, hap, hS⟩ := hW
  refine ⟨by rw [hU]; exact hP1, hD1.self, va_K.moved hWm.alike hc.1, fun q hq => Or.inr (by rw [← hU]; exact hq), ?_, hc.2.2.warm hWm, fun hi ha j h1 h2 => ?_⟩
  · rw [hU]
    exact (hc.2.1.kept hWm hS.2.1).narrow hfr
  · rw [hU]
    exact hal hi ha j h1 h2
theorem lw_callV {idx n ci o d : Nat} {y : MethodName} {Fy : jk_F} {As : List Value} {Ly Lc : List (Nat × Value)} {Q' : Option Value → jk_M → Prop} (C0 : lw_At p s m meth c b L xs) (hc : lw_Cx D dA s ρ1) (hW : lw_W2 D dA s ρ1 M1 ρ2 M2 H locs) (hso : M1.1[o]? = some (0, ci)) (hk : jk_kV RL idx y Fy n ci) (hdg : decode cL_law pc = .ok (.invokevirtual idx, 3)) (hd : d ≤ 1000) (hAs : As.length = n) (hl : lv_has ls 4 Lc) (hst : st = (As.map (jk_V ρ1)).reverse ++ .ref (ρ1 o) :: rest) (hJ : J Fy d 0 0 0 Ly [] M1 Q') (hLy : lv_args 0 (.ref o :: As) = Ly) (hsz : (lg_sl (.ref o :: As)).length ≤ Fy.2.2.1) (hrm : (rest.map fun v => v.category).sum ≤ 8) (hcs : cells ≤ 600000 ∧ slots ≤ 7302250)
    (kk : ∀ (r : Option Value) (M' : jk_M) (H1 : Heap) (locs1 : List Loc), Q' r M' → lw_W2 D dA s ρ1 M' ρ2 M2 H1 locs1 → W p l e room_1 s m #[Value.ref b] below meth c H1 locs1 cells slots Z (F0 m (pc + 3) ls ((r.map (jk_V ρ1)).toList ++ rest))) : W p l e room_1 s m #[Value.ref b] below meth c H locs cells slots Z (F0 m pc ls st) := by
  obtain ⟨hx, hb, hr, hml, hown, hts0, -, -, hlocks, -⟩ := C0
  have hts : ∀ w ∈ jk_gt, w.before #[Value.ref b] s = true := fun w hw => hts0 w (List.mem_filter.mp hw).1
  have h45 := hk.1.2.2.2.2.2.2
  subst hst
  have hrecv : ∃ cellB : Cell, H[ρ1 o]? = some cellB ∧ cellB.vm.isStatics = false ∧ s.vm.findClass y.cls = some cellB.cls := by
    have h6 := hk.2.2.2.2.2
    cases hr : vwCl[ci]? with
    | none => rw [hr] at h6; cases h6
    | some r =>
      rw [hr] at h6
      have h7 : r.1 = y.cls := Option.some.inj h6
      rw [← h7]
      exact va_recv hc.1 hW.1 hr (jk_get hso)
  refine lw_behind (ca := 0) (sa := 0) hW (va_runV (As := As.map (jk_V ρ1)) (b := ρ1 o) ⟨hx, hb, hml, hown, hts⟩ (jk_met hk.1.2.2.2.2.1 hk.1.2.2.2.2.2.1 (fun h => by rw [hk.2.1] at h; cases h) hLy hsz hJ l ρ1 D dA (va_A (jk_w ρ1 dA M1) H.size)) ⟨callB_of n hts (jk_GI1 hk.1) rfl rfl rfl (hts _ hk.1.2.1) (hts _ hk.2.2.1) ⟨hk.1.2.2.1.1, hk.1.2.2.1.2, hk.1.2.2.2.1⟩ ⟨(by show d + 1 + 1 ≤ 2048; omega), (by show 8 + (Fy.2.2.1 + 11) + 64 * (d + 1) ≤ 84000; omega)⟩, hts _ hk.2.2.2.1, hts _ hk.2.2.2.2.1⟩ ⟨jk_blind, hrecv, fun U hU hWm => ⟨rfl, lw_Brun hc hW (fun h => by rw [hk.2.1] at h; cases h) hU hWm⟩⟩ rfl (by rw [List.length_map]; exact hAs) hl.1 rfl (lv_room hrm) hdg ⟨hcs.1, hcs.2⟩) (fun r M' H1 locs1 q1 q2 _ => ?_)
  exact kk r M' H1 locs1 q1 q2
theorem lw_callI {idx o d ca sa : Nat} {y : MethodName} {Fy : jk_F} {Ly Lc : List (Nat × Value)} {Q' : Option Value → jk_M → Prop} (C0 : lw_At p s m meth c b L xs) (hc : lw_Cx D dA s ρ1) (hW : lw_W2 D dA s ρ1 M1 ρ2 M2 H locs) (hal : ∀ j, M1.1.length ≤ j → j < 1000 → ρ1 j + M1.1.length = H.size + j) (hk : jk_kI RL idx y Fy 0) (hdg : decode cL_law pc = .ok (.invokespecial idx, 3)) (hd : d ≤ 1000) (hl : lv_has ls 4 Lc) (hJ : J Fy d ca sa 0 Ly [] M1 Q') (hLy : lv_args 0 [.ref o] = Ly) (hsz : (lg_sl [.ref o]).length ≤ Fy.2.2.1) (hrm : (rest.map fun v => v.category).sum ≤ 8) (hcs : cells + ca ≤ 600000 ∧ slots + sa ≤ 7302250)
    (kk : ∀ (r : Option Value) (M' : jk_M) (H1 : Heap) (locs1 : List Loc), Q' r M' → lw_W2 D dA s ρ1 M' ρ2 M2 H1 locs1 → H1.size + M1.1.length = H.size + M'.1.length → W p l e room_1 s m #[Value.ref b] below meth c H1 locs1 (cells + ca) (slots + sa) Z (F0 m (pc + 3) ls ((r.map (jk_V ρ1)).toList ++ rest))) : W p l e room_1 s m #[Value.ref b] below meth c H locs cells slots Z (F0 m pc ls (.ref (ρ1 o) :: rest)) := by
  obtain ⟨hx, hb, hr, hml, hown, hts0, -, -, hlocks, -⟩ := C0
  have hts : ∀ w ∈ jk_gt, w.before #[Value.ref b] s = true := fun w hw => hts0 w (List.mem_filter.mp hw).1
  have h45 := hk.1.2.2.2.2.2.2
  refine lw_behind (ca := ca) (sa := sa) (ini := Fy.2.2.2.2) hW (va_runI (As := []) (b := ρ1 o) ⟨hx, hb, hml, hown, hts⟩ (by have h9 := jk_met hk.1.2.2.2.2.1 hk.1.2.2.2.2.2.1 (fun _ => hk.2.2.2.1) hLy hsz hJ l ρ1 D dA (va_A (jk_w ρ1 dA M1) H.size); rw [hk.2.2.1] at h9; exact h9) ⟨callB_of 0 hts (by have h9 := jk_GI1 hk.1; rw [hk.2.2.1] at h9; exact h9) rfl rfl rfl (hts _ hk.1.2.1) (hts _ hk.2.2.2.2.1) ⟨hk.1.2.2.1.1, hk.1.2.2.1.2, hk.1.2.2.2.1⟩ ⟨(by show d + 1 + 1 ≤ 2048; omega), (by show 8 + (Fy.2.2.1 + 11) + 64 * (d + 1) ≤ 84000; omega)⟩, hk.2.2.2.1, hts _ hk.2.2.2.2.2⟩ ⟨jk_blind, fun U hU hWm => ⟨rfl, lw_Brun hc hW (fun _ _ => hal) hU hWm⟩⟩ rfl rfl hl.1 rfl (lv_room hrm) hdg ⟨hcs.1, hcs.2⟩) (fun r M' H1 locs1 q1 q2 q3 => ?_)
  exact kk r M' H1 locs1 q1 q2 (q3 hk.2.1)
/-- a new object of the first world -/
theorem lw_new {idx ci : Nat} (C0 : lw_At p s m meth c b L xs) (hc : lw_Cx D dA s ρ1) (hW : lw_W2 D dA s ρ1 M1 ρ2 M2 H locs) (hρ : ρ1 M1.1.length = H.size) (hn : jk_nwC RL idx ci) (hdg : decode cL_law pc = .ok (.new idx, 3)) (hcs : cells + 1 ≤ 600000 ∧ slots + jk_nf ci ≤ 7302250)
    (kk : ∀ (H1 : Heap), lw_W2 D dA s ρ1 (jk_nw M1 (0, ci)) ρ2 M2 H1 locs → H1.size = H.size + 1 → W p l e room_1 s m #[Value.ref b] below meth c H1 locs (cells + 1) (slots + jk_nf ci) Z (F0 m (pc + 3) ls (.ref (ρ1 M1.1.length) :: st))) : W p l e room_1 s m #[Value.ref b] below meth c H locs cells slots Z (F0 m pc ls st) := by
  obtain ⟨hx, hb, hr, hml, hown, hts0, -, -, hlocks, -⟩ := C0
  have hts : ∀ w ∈ jk_gt, w.before #[Value.ref b] s = true := fun w hw => hts0 w (List.mem_filter.mp hw).1
  obtain ⟨Cn, Tn, N, ⟨hc1, hN, hin, hty, hnm⟩, w1, w2, w3, hok⟩ := hn
  rw [← hN] at hcs kk
  have hKn := hc.1.1 ci _ hc1
  refine W.newcK hx hb hown (hts _ w1) (hts _ w2) (hts _ w3) rfl hdg (by show cells + 1 ≤ 600000; exact hcs.1) (by show slots + N ≤ 7302250; exact hcs.2) hKn.2.1 rfl fun H1 kC hkC e1 z1 o1 => ?_
  have hk : ∀ (k : Nat) (x : Nat × va_E), (jk_w ρ1 dA M1)[k]? = some x → H1[x.1]? = H[x.1]? := fun k x hx => o1 x.1 ((hW.1 k x hx).lt)
  have he : va_at D vwCl (H.size, jk_E ρ1 dA (jk_nw M1 (0, ci)) M1.1.length (0, ci)) H1 := by
    refine ⟨_, hc1, (u_born (jk_ft ci) hts hin hKn hkC e1 hty).to (fun j hj => ?_)⟩
    show defaultValue (jk_ft ci j) = vp_V (jk_fs ρ1 (jk_nw M1 (0, ci)) M1.1.length ci) j
    have hj2 : j < jk_nf ci := by rw [← hN]; exact hj
    rw [vp_V, List.getD_eq_getElem?_getD, jk_fsat hj2]
    simp only [Option.getD_some, jk_fv, (jk_nwE (ρ := ρ1) (M := M1) (sh := (0, ci))).1, (jk_nwE (ρ := ρ1) (M := M1) (sh := (0, ci))).2.2]
    rcases hok j hj with h | h | h
    · rw [if_pos h]
      cases e : jk_ft ci j <;> rw [e] at h <;> first | rfl | (exact absurd h (by decide))
    · rw [h]; rfl
    · rw [h]; rfl
  have hW1 : lw_W2 D dA s ρ1 (jk_nw M1 (0, ci)) ρ2 M2 H1 locs := by
    obtain ⟨hP1, hP2, hD1, hD2, hap, hS⟩ := hW
    refine ⟨?_, hP2.kept (fun k x hx => o1 x.1 (hP2 k x hx).lt), ?_, hD2, fun i j x y hx hy => ?_, Nat.le_trans hS.1 (by omega), fun x h1 h2 => (o1 x (Nat.lt_of_lt_of_le h1 hS.1)).trans (hS.2.1 x h1 h2), hS.2.2⟩
    · rw [jk_nww, hρ]
      refine (hP1.kept hk).app (fun k x hx => ?_)
      have hz : k < 1 := (List.getElem?_eq_some_iff.mp hx).1
      rw [show k = 0 by omega] at hx
      cases hx
      exact he
    · rw [jk_nww, hρ]
      exact hD1.push hP1 rfl hS.1
    · rw [jk_nww, hρ] at hx
      by_cases hi : i < (jk_w ρ1 dA M1).length
      · rw [List.getElem?_append_left hi] at hx
        exact hap i j x y hx hy
      · rw [List.getElem?_append_right (by omega)] at hx
        have hz : i - (jk_w ρ1 dA M1).length < 1 := (List.getElem?_eq_some_iff.mp hx).1
        rw [show i - (jk_w ρ1 dA M1).length = 0 by omega] at hx
        cases hx
        exact fun z => absurd (hP2 j y hy).lt (by rw [← z]; exact Nat.lt_irrefl _)
  have k1 := kk H1 hW1 z1
  rw [show (Value.ref (ρ1 M1.1.length)) = .ref H.size from congrArg Value.ref hρ] at k1
  exact k1
end LW
/-! the law's steps -/
def LK (p : Program) (l : Launch) (e : Env) (s : State) (m : MethodId) (below : List Frame) (meth : Method) (c : Code) (b : Nat) (D : va_G) (dA : Nat → ClassId) (ρ1 ρ2 : Nat → Nat) (nc ns : Nat) (x : Int32) (pc : Nat) (st : List Value) (Z1 Z2 : ZS) : Prop :=
  ∀ (M1 M2 : jk_M) (H : Heap) (locs : List Loc) (ls : Array Slot), CV M1 Z1 → MV M2 Z2 → lw_W2 D dA s ρ1 M1 ρ2 M2 H locs → lv_has ls 4 [(3, .int x), (2, .ref (ρ2 0)), (1, .ref (ρ1 0)), (0, .ref b)] → W p l e room_1 s m #[Value.ref b] below meth c H locs nc ns (lw_Z below #[Value.ref b] s) (F0 m pc ls st)
def LX (p : Program) (s : State) (m : MethodId) (meth : Method) (c : Code) (b L : Nat) (xs : Nat → Int32) (D : va_G) (dA : Nat → ClassId) (ρ1 ρ2 : Nat → Nat) (nc ns : Nat) : Prop := lw_At p s m meth c b L xs ∧ lw_Cx D dA s ρ1 ∧ lw_Cx D dA s ρ2 ∧ nc ≤ 600000 ∧ ns ≤ 7302250
def lw_a (xs : Nat → Int32) (x k : Int32) : Int32 := xs (x + k).toNatClampNeg
def lw_nz (x : Int32) : Int32 := if x = 0 then 0 else 1
theorem lw_nz01 (x : Int32) : lw_nz x = 0 ∨ lw_nz x = 1 := by
  unfold lw_nz
  split
  · exact Or.inl rfl
  · exact Or.inr rfl
def lw_lg (x y : Int32) : Int64 := (x.toInt64 <<< ((32 : Int32).toInt64 &&& 63)) ||| (y.toInt64 &&& 4294967295)
section LKS
variable {p : Program} {l : Launch} {e : Env} {s : State} {m : MethodId} {below : List Frame} {meth : Method} {c : Code} {b L : Nat} {xs : Nat → Int32} {D : va_G} {dA : Nat → ClassId} {ρ1 ρ2 : Nat → Nat} {nc ns : Nat} {x : Int32} {pc : Nat} {st rest : List Value} {Z1 Z2 : ZS}
theorem LK_ld1 (X : LX p s m meth c b L xs D dA ρ1 ρ2 nc ns) (h0 : decode cL_law pc = .ok (.aload_n 1, 1)) (kk : LK p l e s m below meth c b D dA ρ1 ρ2 nc ns x (pc + 1) (.ref (ρ1 0) :: st) Z1 Z2) : LK p l e s m below meth c b D dA ρ1 ρ2 nc ns x pc st Z1 Z2 := by
  intro M1 M2 H locs ls hC hM hW hl
  exact lv_aload_n X.1.1 X.1.2.1 h0 rfl (lv_at hl 2 rfl) (kk M1 M2 H locs ls hC hM hW hl)
theorem LK_ld2 (X : LX p s m meth c b L xs D dA ρ1 ρ2 nc ns) (h0 : decode cL_law pc = .ok (.aload_n 2, 1)) (kk : LK p l e s m below meth c b D dA ρ1 ρ2 nc ns x (pc + 1) (.ref (ρ2 0) :: st) Z1 Z2) : LK p l e s m below meth c b D dA ρ1 ρ2 nc ns x pc st Z1 Z2 := by
  intro M1 M2 H locs ls hC hM hW hl
  exact lv_aload_n X.1.1 X.1.2.1 h0 rfl (lv_at hl 1 rfl) (kk M1 M2 H locs ls hC hM hW hl)
theorem LK_arg {n : Int} (k : Int32) (X : LX p s m meth c b L xs D dA ρ1 ρ2 nc ns) (h0 : decode cL_law pc = .ok (.aload_n 0, 1)) (h1 : decode cL_law (pc + 1) = .ok (.iload_n 3, 1)) (h2 : decode cL_law (pc + 2) = .ok (.iconst n, 1)) (h3 : decode cL_law (pc + 3) = .ok (.iadd, 1)) (h4 : decode cL_law (pc + 4) = .ok (.iaload, 1)) (hn : Int32.ofInt n = k) (hin : vp_in (x + k) L) (kk : LK p l e s m below meth c b D dA ρ1 ρ2 nc ns x (pc + 5) (.int (lw_a xs x k) :: st) Z1 Z2) : LK p l e s m below meth c b D dA ρ1 ρ2 nc ns x pc st Z1 Z2 := by
  intro M1 M2 H locs ls hC hM hW hl
  have k1 := kk M1 M2 H locs ls hC hM hW hl
  obtain ⟨hx, hb, -, -, -, -, hX, hbl, -, -⟩ := X.1
  refine lv_aload_n hx hb h0 rfl (lv_at hl 3 rfl) ?_
  refine lv_iload_n hx hb h1 rfl (lv_at hl 0 rfl) ?_
  refine lv_iconst hx hb h2 hn ?_
  refine lv_iadd hx hb h3 ?_
  exact va_sld hx hb hX hbl (Nat.not_le.mpr hbl) hW.2.2.2.2.2 hin h4 k1
theorem LK_C {idx n d : Nat} {y : MethodName} {Fy : jk_F} (As : List Value) {Ly : List (Nat × Value)} {v : Value} {Z1' : ZS} (X : LX p s m meth c b L xs D dA ρ1 ρ2 nc ns) (hk : jk_kV RL idx y Fy n 10) (hdg : decode cL_law pc = .ok (.invokevirtual idx, 3)) (hst : st = (As.map (jk_V ρ1)).reverse ++ .ref (ρ1 0) :: rest) (hP : ∀ M, CV M Z1 → J Fy d 0 0 0 Ly [] M (jk_ex (some v) (fun M1 => CV M1 Z1'))) (hLy : lv_args 0 (.ref 0 :: As) = Ly) (hsz : (lg_sl (.ref 0 :: As)).length ≤ Fy.2.2.1) (hd : d ≤ 1000) (hAs : As.length = n) (hrm : (rest.map fun v => v.category).sum ≤ 8) (hv : jk_V ρ1 v = v) (kk : LK p l e s m below meth c b D dA ρ1 ρ2 nc ns x (pc + 3) (v :: rest) Z1' Z2) : LK p l e s m below meth c b D dA ρ1 ρ2 nc ns x pc st Z1 Z2 := by
  intro M1 M2 H locs ls hC hM hW hl
  refine lw_callV (o := 0) (ci := 10) X.1 X.2.1 hW (by rw [hC.1.1]; rfl) hk hdg hd hAs hl hst (hP M1 hC) hLy hsz hrm X.2.2.2 (fun r M' H1 locs1 q1 q2 => ?_)
  obtain ⟨rfl, q1⟩ := q1
  have k1 := kk M' M2 H1 locs1 ls q1 hM q2 hl
  rw [← hv] at k1
  exact k1
theorem LK_M {idx n d : Nat} {y : MethodName} {Fy : jk_F} (As : List Value) {Ly : List (Nat × Value)} {v : Value} {Z2' : ZS} (X : LX p s m meth c b L xs D dA ρ1 ρ2 nc ns) (hk : jk_kV RL idx y Fy n 11) (hdg : decode cL_law pc = .ok (.invokevirtual idx, 3)) (hst : st = (As.map (jk_V ρ2)).reverse ++ .ref (ρ2 0) :: rest) (hP : ∀ M, MV M Z2 → J Fy d 0 0 0 Ly [] M (jk_ex (some v) (fun M1 => MV M1 Z2'))) (hLy : lv_args 0 (.ref 0 :: As) = Ly) (hsz : (lg_sl (.ref 0 :: As)).length ≤ Fy.2.2.1) (hd : d ≤ 1000) (hAs : As.length = n) (hrm : (rest.map fun v => v.category).sum ≤ 8) (hv : jk_V ρ2 v = v) (kk : LK p l e s m below meth c b D dA ρ1 ρ2 nc ns x (pc + 3) (v :: rest) Z1 Z2') : LK p l e s m below meth c b D dA ρ1 ρ2 nc ns x pc st Z1 Z2 := by
  intro M1 M2 H locs ls hC hM hW hl
  refine lw_callV (o := 0) (ci := 11) X.1 X.2.2.1 hW.swap (by rw [hM.1.1]; rfl) hk hdg hd hAs hl hst (hP M2 hM) hLy hsz hrm X.2.2.2 (fun r M' H1 locs1 q1 q2 => ?_)
  obtain ⟨rfl, q1⟩ := q1
  have k1 := kk M1 M' H1 locs1 ls hC q1 q2.swap hl
  rw [← hv] at k1
  exact k1
theorem LK_eq {off : Int} {tgt : Nat} {v : Int32} (X : LX p s m meth c b L xs D dA ρ1 ρ2 nc ns) (hdg : decode cL_law pc = .ok (.if_icmp .eq off, 3)) (ht : (pc : Int) + off = (tgt : Int)) (kk : LK p l e s m below meth c b D dA ρ1 ρ2 nc ns x tgt st Z1 Z2) : LK p l e s m below meth c b D dA ρ1 ρ2 nc ns x pc (.int v :: .int v :: st) Z1 Z2 := by
  intro M1 M2 H locs ls hC hM hW hl
  exact lv_icmp_eq X.1.1 X.1.2.1 hdg ht (fun _ => kk M1 M2 H locs ls hC hM hW hl) (fun z => absurd rfl z)
theorem LK_lcmp {off : Int} {tgt : Nat} {v : Int64} (X : LX p s m meth c b L xs D dA ρ1 ρ2 nc ns) (hdg : decode cL_law pc = .ok (.lcmp, 1)) (hdg2 : decode cL_law (pc + 1) = .ok (.ifCond .eq off, 3)) (ht : ((pc + 1 : Nat) : Int) + off = (tgt : Int)) (kk : LK p l e s m below meth c b D dA ρ1 ρ2 nc ns x tgt st Z1 Z2) : LK p l e s m below meth c b D dA ρ1 ρ2 nc ns x pc (.long v :: .long v :: st) Z1 Z2 := by
  intro M1 M2 H locs ls hC hM hW hl
  have e : lg_cmp v v = 0 := by simp [lg_cmp]
  refine W.lcmp X.1.1 X.1.2.1 hdg ?_
  exact lv_if_eq X.1.1 X.1.2.1 hdg2 ht (fun _ => kk M1 M2 H locs ls hC hM hW hl) (fun z => absurd e z)
theorem LK_nz {v : Int32} (X : LX p s m meth c b L xs D dA ρ1 ρ2 nc ns) (h0 : decode cL_law pc = .ok (.ifCond .eq 7, 3)) (h1 : decode cL_law (pc + 3) = .ok (.iconst 1, 1)) (h2 : decode cL_law (pc + 4) = .ok (.goto 4, 3)) (h3 : decode cL_law (pc + 7) = .ok (.iconst 0, 1)) (kk : LK p l e s m below meth c b D dA ρ1 ρ2 nc ns x (pc + 8) (.int (lw_nz v) :: st) Z1 Z2) : LK p l e s m below meth c b D dA ρ1 ρ2 nc ns x pc (.int v :: st) Z1 Z2 := by
  intro M1 M2 H locs ls hC hM hW hl
  have k1 := kk M1 M2 H locs ls hC hM hW hl
  refine lv_if_eq (tgt := pc + 7) X.1.1 X.1.2.1 h0 (by omega) (fun z => ?_) (fun z => ?_)
  · refine lv_iconst (v := 0) X.1.1 X.1.2.1 h3 rfl ?_
    rw [show lw_nz v = 0 from if_pos z] at k1
    exact k1
  · refine lv_iconst (v := 1) X.1.1 X.1.2.1 h1 rfl ?_
    refine lv_goto (tgt := pc + 8) X.1.1 X.1.2.1 h2 (by omega) ?_
    rw [show lw_nz v = 1 from if_neg z] at k1
    exact k1
theorem LK_i2l {v : Int32} (X : LX p s m meth c b L xs D dA ρ1 ρ2 nc ns) (h0 : decode cL_law pc = .ok (.i2l, 1)) (kk : LK p l e s m below meth c b D dA ρ1 ρ2 nc ns x (pc + 1) (.long v.toInt64 :: st) Z1 Z2) : LK p l e s m below meth c b D dA ρ1 ρ2 nc ns x pc (.int v :: st) Z1 Z2 := by
  intro M1 M2 H locs ls hC hM hW hl
  exact lv_i2l X.1.1 X.1.2.1 h0 rfl (kk M1 M2 H locs ls hC hM hW hl)
theorem LK_shl {v : Int64} (X : LX p s m meth c b L xs D dA ρ1 ρ2 nc ns) (h0 : decode cL_law pc = .ok (.bipush 32, 2)) (h1 : decode cL_law (pc + 2) = .ok (.lshl, 1)) (kk : LK p l e s m below meth c b D dA ρ1 ρ2 nc ns x (pc + 3) (.long (v <<< ((32 : Int32).toInt64 &&& 63)) :: st) Z1 Z2) : LK p l e s m below meth c b D dA ρ1 ρ2 nc ns x pc (.long v :: st) Z1 Z2 := by
  intro M1 M2 H locs ls hC hM hW hl
  refine lv_bipush (v := 32) X.1.1 X.1.2.1 h0 (by decide) ?_
  exact lv_lshl X.1.1 X.1.2.1 h1 rfl (kk M1 M2 H locs ls hC hM hW hl)
theorem LK_or {v u : Int64} (X : LX p s m meth c b L xs D dA ρ1 ρ2 nc ns) (h0 : decode cL_law pc = .ok (.ldc2_w 18, 3)) (h1 : decode cL_law (pc + 3) = .ok (.land, 1)) (h2 : decode cL_law (pc + 4) = .ok (.lor, 1)) (kk : LK p l e s m below meth c b D dA ρ1 ρ2 nc ns x (pc + 5) (.long (u ||| (v &&& 4294967295)) :: st) Z1 Z2) : LK p l e s m below meth c b D dA ρ1 ρ2 nc ns x pc (.long v :: .long u :: st) Z1 Z2 := by
  intro M1 M2 H locs ls hC hM hW hl
  refine lv_ldc2 X.1.1 X.1.2.1 X.1.2.2.2.2.1 (X.1.2.2.2.2.2.1 _ (List.mem_filter.mp ckL_18).1) h0 ?_
  refine lv_land X.1.1 X.1.2.1 h1 ?_
  exact lv_lor X.1.1 X.1.2.1 h2 (kk M1 M2 H locs ls hC hM hW hl)
theorem LK_next (X : LX p s m meth c b L xs D dA ρ1 ρ2 nc ns) (kk : LK p l e s m below meth c b D dA ρ1 ρ2 nc ns (x + 6) 18 [] Z1 Z2) : LK p l e s m below meth c b D dA ρ1 ρ2 nc ns x 1610 [] Z1 Z2 := by
  intro M1 M2 H locs ls hC hM hW hl
  obtain ⟨x2, ex2⟩ : ∃ y : Int32, y = x + 6 := ⟨_, rfl⟩
  rw [← ex2] at kk
  refine lv_iinc (v := x2) (lv' := [(3, .int x2), (2, .ref (ρ2 0)), (1, .ref (ρ1 0)), (0, .ref b)]) X.1.1 X.1.2.1 dL_law_1610 hl (k := 0) rfl (by rw [ex2]; rfl) (by decide) rfl (fun ls hl => ?_)
  refine lv_goto (tgt := 18) X.1.1 X.1.2.1 dL_law_1613 (by decide) ?_
  exact kk M1 M2 H locs ls hC hM hW hl
end LKS
