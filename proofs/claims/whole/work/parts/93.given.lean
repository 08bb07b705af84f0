set_option maxRecDepth 20000 in
theorem lt_1 {w : Cond} (i : Nat) (h1 : tables_1_1[i]? = some w) : w ∈ lw_tbl := by
  have h := List.mem_of_getElem? h1
  exact List.mem_append_right _ (show w ∈ tables_1_1 ++ (tables_1_2 ++ (tables_1_3 ++ (tables_1_4 ++ (tables_1_5 ++ (tables_1_6 ++ (tables_1_7)))))) from List.mem_append_left _ h)
set_option maxRecDepth 20000 in
theorem lt_2 {w : Cond} (i : Nat) (h1 : tables_1_2[i]? = some w) : w ∈ lw_tbl := by
  have h := List.mem_of_getElem? h1
  exact List.mem_append_right _ (show w ∈ tables_1_1 ++ (tables_1_2 ++ (tables_1_3 ++ (tables_1_4 ++ (tables_1_5 ++ (tables_1_6 ++ (tables_1_7)))))) from List.mem_append_right _ (List.mem_append_left _ h))
set_option maxRecDepth 20000 in
theorem lt_3 {w : Cond} (i : Nat) (h1 : tables_1_3[i]? = some w) : w ∈ lw_tbl := by
  have h := List.mem_of_getElem? h1
  exact List.mem_append_right _ (show w ∈ tables_1_1 ++ (tables_1_2 ++ (tables_1_3 ++ (tables_1_4 ++ (tables_1_5 ++ (tables_1_6 ++ (tables_1_7)))))) from List.mem_append_right _ (List.mem_append_right _ (List.mem_append_left _ h)))
set_option maxRecDepth 20000 in
theorem lt_4 {w : Cond} (i : Nat) (h1 : tables_1_4[i]? = some w) : w ∈ lw_tbl := by
  have h := List.mem_of_getElem? h1
  exact List.mem_append_right _ (show w ∈ tables_1_1 ++ (tables_1_2 ++ (tables_1_3 ++ (tables_1_4 ++ (tables_1_5 ++ (tables_1_6 ++ (tables_1_7)))))) from List.mem_append_right _ (List.mem_append_right _ (List.mem_append_right _ (List.mem_append_left _ h))))
set_option maxRecDepth 20000 in
theorem lt_5 {w : Cond} (i : Nat) (h1 : tables_1_5[i]? = some w) : w ∈ lw_tbl := by
  have h := List.mem_of_getElem? h1
  exact List.mem_append_right _ (show w ∈ tables_1_1 ++ (tables_1_2 ++ (tables_1_3 ++ (tables_1_4 ++ (tables_1_5 ++ (tables_1_6 ++ (tables_1_7)))))) from List.mem_append_right _ (List.mem_append_right _ (List.mem_append_right _ (List.mem_append_right _ (List.mem_append_left _ h)))))
set_option maxRecDepth 20000 in
theorem lt_6 {w : Cond} (i : Nat) (h1 : tables_1_6[i]? = some w) : w ∈ lw_tbl := by
  have h := List.mem_of_getElem? h1
  exact List.mem_append_right _ (show w ∈ tables_1_1 ++ (tables_1_2 ++ (tables_1_3 ++ (tables_1_4 ++ (tables_1_5 ++ (tables_1_6 ++ (tables_1_7)))))) from List.mem_append_right _ (List.mem_append_right _ (List.mem_append_right _ (List.mem_append_right _ (List.mem_append_right _ (List.mem_append_left _ h))))))
set_option maxRecDepth 20000 in
theorem lt_7 {w : Cond} (i : Nat) (h1 : tables_1_7[i]? = some w) : w ∈ lw_tbl := by
  have h := List.mem_of_getElem? h1
  exact List.mem_append_right _ (show w ∈ tables_1_1 ++ (tables_1_2 ++ (tables_1_3 ++ (tables_1_4 ++ (tables_1_5 ++ (tables_1_6 ++ (tables_1_7)))))) from List.mem_append_right _ (List.mem_append_right _ (List.mem_append_right _ (List.mem_append_right _ (List.mem_append_right _ (List.mem_append_right _ (h)))))))
set_option maxRecDepth 20000 in
theorem lt_g {w : Cond} (h : w ∈ jk_gt) : w ∈ lw_tbl := (List.mem_filter.mp h).1
abbrev lw_G : List Cond := flatC (Jvm.Cond.and given_1 narrow_1)
set_option maxRecDepth 20000 in
theorem gv {args : Array Value} {s : State} {w : Cond} (hg : (Jvm.Cond.and given_1 narrow_1).before args s = true) {i : Nat} (h : lw_G[i]? = some w) : w.before args s = true := flat_of_before _ hg _ (List.mem_of_getElem? h)
set_option maxRecDepth 20000 in
theorem g_tab {args : Array Value} {s : State} (hg : (Jvm.Cond.and given_1 narrow_1).before args s = true) (hts : ∀ w ∈ lw_tbl, w.before args s = true) {C n : String} {L : List Int32} (i0 : Nat) (h0 : lw_G[i0]? = some (.arrayOf (.static C n "[I") .int)) (h1 : lw_G[i0 + 1]? = some (.eq (.length (.static C n "[I")) (.int (Int32.ofNat L.length)))) (h2 : ∀ j, j < L.length → lw_G[i0 + 2 + j]? = some (.eq (.elem (.static C n "[I") (.int (Int32.ofNat j))) (.int (L.getD j 0)))) (hl : Cond.laysStatic C n "[I" ∈ lw_tbl) (hi : Cond.initialized C ∈ lw_tbl) (hL : L.length < 2 ^ 31) : ∃ t : Nat, va_Z C n "[I" (.ref t) (fun q => s.heap.size ≤ q) s s.heap ∧ va_T .int t L.length (fun i => .int (L.getD i 0)) (fun q => s.heap.size ≤ q) s s.heap := by
  obtain ⟨t, e, hT⟩ := va_Tof (f := fun i => .int (L.getD i 0)) (A := fun q => s.heap.size ≤ q) hL (gv hg h0) (va_eqt (gv hg h1)) (fun j hj => va_eqt (gv hg (h2 j hj))) (fun a ha => Nat.not_le.mpr ha)
  exact ⟨t, va_Zref (hts _ hl) (hts _ hi) e (fun a ha => Nat.not_le.mpr ha), hT⟩
set_option maxRecDepth 20000 in
theorem gt_0 {args : Array Value} {s : State} (hg : (Jvm.Cond.and given_1 narrow_1).before args s = true) (hts : ∀ w ∈ lw_tbl, w.before args s = true) : ∃ t : Nat, ∀ q, jk_sA[0]? = some q → va_Z q.1 q.2.1 "[I" (.ref t) (fun q => s.heap.size ≤ q) s s.heap ∧ va_T .int t q.2.2.length (fun i => .int (q.2.2.getD i 0)) (fun q => s.heap.size ≤ q) s s.heap := by
  obtain ⟨t, h1, h2⟩ := g_tab (C := RX10) (n := "ABOVE") (L := (jk_sA.getD 0 ("", "", [])).2.2) hg hts 39 (by decide +kernel) (by decide +kernel) (by decide +kernel) (lt_3 21 rfl) (lt_1 1 rfl) (by decide +kernel)
  refine ⟨t, fun q hq => ?_⟩
  cases hq
  exact ⟨h1, h2⟩
set_option maxRecDepth 20000 in
theorem gt_1 {args : Array Value} {s : State} (hg : (Jvm.Cond.and given_1 narrow_1).before args s = true) (hts : ∀ w ∈ lw_tbl, w.before args s = true) : ∃ t : Nat, ∀ q, jk_sA[1]? = some q → va_Z q.1 q.2.1 "[I" (.ref t) (fun q => s.heap.size ≤ q) s s.heap ∧ va_T .int t q.2.2.length (fun i => .int (q.2.2.getD i 0)) (fun q => s.heap.size ≤ q) s s.heap := by
  obtain ⟨t, h1, h2⟩ := g_tab (C := RX10) (n := "LEAST") (L := (jk_sA.getD 1 ("", "", [])).2.2) hg hts 5 (by decide +kernel) (by decide +kernel) (by decide +kernel) (lt_3 13 rfl) (lt_1 1 rfl) (by decide +kernel)
  refine ⟨t, fun q hq => ?_⟩
  cases hq
  exact ⟨h1, h2⟩
set_option maxRecDepth 20000 in
theorem gt_2 {args : Array Value} {s : State} (hg : (Jvm.Cond.and given_1 narrow_1).before args s = true) (hts : ∀ w ∈ lw_tbl, w.before args s = true) : ∃ t : Nat, ∀ q, jk_sA[2]? = some q → va_Z q.1 q.2.1 "[I" (.ref t) (fun q => s.heap.size ≤ q) s s.heap ∧ va_T .int t q.2.2.length (fun i => .int (q.2.2.getD i 0)) (fun q => s.heap.size ≤ q) s s.heap := by
  obtain ⟨t, h1, h2⟩ := g_tab (C := RX10) (n := "MOST") (L := (jk_sA.getD 2 ("", "", [])).2.2) hg hts 22 (by decide +kernel) (by decide +kernel) (by decide +kernel) (lt_3 15 rfl) (lt_1 1 rfl) (by decide +kernel)
  refine ⟨t, fun q hq => ?_⟩
  cases hq
  exact ⟨h1, h2⟩
set_option maxRecDepth 20000 in
theorem gt_3 {args : Array Value} {s : State} (hg : (Jvm.Cond.and given_1 narrow_1).before args s = true) (hts : ∀ w ∈ lw_tbl, w.before args s = true) : ∃ t : Nat, ∀ q, jk_sA[3]? = some q → va_Z q.1 q.2.1 "[I" (.ref t) (fun q => s.heap.size ≤ q) s s.heap ∧ va_T .int t q.2.2.length (fun i => .int (q.2.2.getD i 0)) (fun q => s.heap.size ≤ q) s s.heap := by
  obtain ⟨t, h1, h2⟩ := g_tab (C := RX5) (n := "SORTS") (L := (jk_sA.getD 3 ("", "", [])).2.2) hg hts 54 (by decide +kernel) (by decide +kernel) (by decide +kernel) (lt_4 43 rfl) (lt_1 9 rfl) (by decide +kernel)
  refine ⟨t, fun q hq => ?_⟩
  cases hq
  exact ⟨h1, h2⟩
set_option maxRecDepth 20000 in
theorem gt_4 {args : Array Value} {s : State} (hg : (Jvm.Cond.and given_1 narrow_1).before args s = true) (hts : ∀ w ∈ lw_tbl, w.before args s = true) : ∃ t : Nat, ∀ q, jk_sA[4]? = some q → va_Z q.1 q.2.1 "[I" (.ref t) (fun q => s.heap.size ≤ q) s s.heap ∧ va_T .int t q.2.2.length (fun i => .int (q.2.2.getD i 0)) (fun q => s.heap.size ≤ q) s s.heap := by
  obtain ⟨t, h1, h2⟩ := g_tab (C := RX4) (n := "BODIES") (L := (jk_sA.getD 4 ("", "", [])).2.2) hg hts 87 (by decide +kernel) (by decide +kernel) (by decide +kernel) (lt_5 111 rfl) (lt_1 11 rfl) (by decide +kernel)
  refine ⟨t, fun q hq => ?_⟩
  cases hq
  exact ⟨h1, h2⟩
def lw_sb : List Nat := [146, 154, 164, 173, 185, 200, 218, 234, 249, 265]
def lw_tm (i : Nat) : Term := Term.string RX5 (jk_sI.getD i 0)
set_option maxRecDepth 20000 in
theorem gs {args : Array Value} {s : State} (hg : (Jvm.Cond.and given_1 narrow_1).before args s = true) : ∃ adK adV : Nat → Nat, vk_S 10 jk_sL jk_sB adK adV (fun q => s.heap.size ≤ q) s s.heap ∧ ∀ i : Nat, i < 10 → (lw_tm i).eval args s none [] s = some (.ref (adK i)) := by
  have k0 : ∀ i : Nat, i < 10 → jk_sL.getD i 0 < 2 ^ 31 := by decide +kernel
  have k1 : ∀ i : Nat, i < 10 → lw_G[lw_sb.getD i 0]? = some (.exactly (lw_tm i) "java/lang/String") := by decide +kernel
  have k2 : ∀ i : Nat, i < 10 → lw_G[lw_sb.getD i 0 + 1]? = some (.eq (.field (lw_tm i) "java/lang/String" "coder" "B") (.int 0)) := by decide +kernel
  have k3 : ∀ i : Nat, i < 10 → lw_G[lw_sb.getD i 0 + 2]? = some (.arrayOf (.field (lw_tm i) "java/lang/String" "value" "[B") .byte) := by decide +kernel
  have k4 : ∀ i : Nat, i < 10 → lw_G[lw_sb.getD i 0 + 3]? = some (.eq (.length (.field (lw_tm i) "java/lang/String" "value" "[B")) (.int (Int32.ofNat (jk_sL.getD i 0)))) := by decide +kernel
  have k5 : ∀ i : Nat, i < 10 → ∀ j : Nat, j < jk_sL.getD i 0 → lw_G[lw_sb.getD i 0 + 4 + j]? = some (.eq (.elem (.field (lw_tm i) "java/lang/String" "value" "[B") (.int (Int32.ofNat j))) (.int ((jk_sB.getD i []).getD j 0))) := by decide +kernel
  have k6 : ∀ j : Nat, j < 10 → ∀ i : Nat, i < j → lw_G[lw_sb.getD j 0 + 4 + jk_sL.getD j 0 + i]? = some (.not (.eq (lw_tm i) (lw_tm j))) := by decide +kernel
  refine vk_Sof k0 (fun i hi => gv hg (k1 i hi)) (fun i hi => gv hg (k2 i hi)) (fun i hi => gv hg (k3 i hi)) (fun i hi => gv hg (k4 i hi)) (fun i hi j hj => gv hg (k5 i hi j hj)) (fun i j hi hj hij => ?_) (fun a ha => Nat.not_le.mpr ha)
  rcases Nat.lt_or_gt_of_ne hij with h | h
  · exact Or.inl (gv hg (k6 j hj i h))
  · exact Or.inr (gv hg (k6 i hi j h))
set_option maxRecDepth 20000 in
theorem gr_ref : ∀ i, i < 10 → Cond.stringRef RX5 (jk_sI.getD i 0) (jk_sT.getD i "") ∈ lw_tbl := by
  intro i hi
  match i, hi with
  | 0, _ => exact lt_3 207 rfl
  | 1, _ => exact lt_3 208 rfl
  | 2, _ => exact lt_3 209 rfl
  | 3, _ => exact lt_3 210 rfl
  | 4, _ => exact lt_3 211 rfl
  | 5, _ => exact lt_3 212 rfl
  | 6, _ => exact lt_3 213 rfl
  | 7, _ => exact lt_3 214 rfl
  | 8, _ => exact lt_3 215 rfl
  | 9, _ => exact lt_3 216 rfl
  | i + 10, h => exact absurd h (by omega)
set_option maxRecDepth 20000 in
theorem vk_S.at {N : Nat} {len : List Nat} {byt : List (List Int32)} {adK adV aK aV : Nat → Nat} {A : Nat → Prop} {U : State} {H : Heap} (h : vk_S N len byt adK adV A U H) (e1 : ∀ i, i < N → aK i = adK i) (e2 : ∀ i, i < N → aV i = adV i) : vk_S N len byt aK aV A U H := by
  refine ⟨fun i hi => ?_, fun i j hi hj e => h.2 i j hi hj ?_⟩
  · rw [e1 i hi, e2 i hi]; exact h.1 i hi
  · rw [← e1 i hi, ← e1 j hj]; exact e
set_option maxRecDepth 20000 in
theorem lw_St {args : Array Value} {s : State} (hg : (Jvm.Cond.and given_1 narrow_1).before args s = true) (hts : ∀ w ∈ lw_tbl, w.before args s = true) : ∃ stat : Nat → Nat, ∀ ρ : Nat → Nat, (∀ j, 1000 ≤ j → ρ j = stat j) → jk_St ρ (fun q => s.heap.size ≤ q) s s.heap := by
  obtain ⟨t0, h0⟩ := gt_0 hg hts
  obtain ⟨t1, h1⟩ := gt_1 hg hts
  obtain ⟨t2, h2⟩ := gt_2 hg hts
  obtain ⟨t3, h3⟩ := gt_3 hg hts
  obtain ⟨t4, h4⟩ := gt_4 hg hts
  obtain ⟨adK, adV, hS, hE⟩ := gs hg
  have hC : va_Z RJ0 "COMPACT_STRINGS" "Z" (.int 1) (fun q => s.heap.size ≤ q) s s.heap := va_Zof (hts _ (lt_3 226 rfl)) (hts _ (lt_1 16 rfl)) (va_eqt (gv hg (i := 48) (by decide +kernel))) (fun a ha => Nat.not_le.mpr ha)
  have hF : va_Zq RJ3 "SIOOBE_FORMATTER" "Ljava/util/function/BiFunction;" (fun q => s.heap.size ≤ q) s s.heap := va_Zqof (hts _ (lt_4 2 rfl)) (hts _ (lt_1 18 rfl)) (gv hg (i := 49) (by decide +kernel)) (fun a ha => Nat.not_le.mpr ha)
  have hF2 : ∃ t5 : Nat, va_Z RJ3 "SIOOBE_FORMATTER" "Ljava/util/function/BiFunction;" .null (fun q => s.heap.size ≤ q) s s.heap ∨ va_Z RJ3 "SIOOBE_FORMATTER" "Ljava/util/function/BiFunction;" (.ref t5) (fun q => s.heap.size ≤ q) s s.heap := by
    rcases hF with h | ⟨t, h⟩
    · exact ⟨0, Or.inl h⟩
    · exact ⟨t, Or.inr h⟩
  obtain ⟨t5, hF⟩ := hF2
  refine ⟨fun j => if j < 2000 then [t0, t1, t2, t3, t4].getD (j - 1000) 0 else if j < 3000 then adK (j - 2000) else if j < 4000 then adV (j - 3000) else t5, fun ρ hρ => ?_⟩
  have e5 : ρ 4000 = t5 := hρ 4000 (by omega)
  have eK : ∀ i, i < 10 → ρ (2000 + i) = adK i := fun i hi => by
    rw [hρ (2000 + i) (by omega)]
    show (if 2000 + i < 2000 then _ else if 2000 + i < 3000 then _ else _) = _
    rw [if_neg (by omega), if_pos (by omega), Nat.add_sub_cancel_left]
  have eV : ∀ i, i < 10 → ρ (3000 + i) = adV i := fun i hi => by
    rw [hρ (3000 + i) (by omega)]
    show (if 3000 + i < 2000 then _ else if 3000 + i < 3000 then _ else if 3000 + i < 4000 then _ else _) = _
    rw [if_neg (by omega), if_neg (by omega), if_pos (by omega), Nat.add_sub_cancel_left]
  refine ⟨fun j q hj => ?_, hS.at eK eV, fun i hi => ?_, hC, ?_⟩
  · match j, hj with
    | 0, hj => rw [show ρ (1000 + 0) = t0 from hρ 1000 (by omega)]; exact h0 q hj
    | 1, hj => rw [show ρ (1000 + 1) = t1 from hρ 1001 (by omega)]; exact h1 q hj
    | 2, hj => rw [show ρ (1000 + 2) = t2 from hρ 1002 (by omega)]; exact h2 q hj
    | 3, hj => rw [show ρ (1000 + 3) = t3 from hρ 1003 (by omega)]; exact h3 q hj
    | 4, hj => rw [show ρ (1000 + 4) = t4 from hρ 1004 (by omega)]; exact h4 q hj
    | j + 5, hj => simp [jk_sA] at hj
  · rw [eK i hi]
    exact vk_R.of (hts _ (gr_ref i hi)) (hE i hi)
  · rw [e5]; exact hF
set_option maxRecDepth 20000 in
theorem lw_Ns {args : Array Value} {s : State} (hts : ∀ w ∈ lw_tbl, w.before args s = true) : jk_Ns s := by
  intro w hw
  have h1 := hts w (List.mem_filter.mp hw).1
  have h2 := (List.mem_filter.mp hw).2
  unfold jk_isN at h2
  split at h2
  · exact va_Nw.of rfl h1
  · exact va_Nw.of rfl h1
  · exact h1
  · cases h2
set_option maxRecDepth 20000 in
theorem lw_u {args : Array Value} {s : State} (hts : ∀ w ∈ lw_tbl, w.before args s = true) : ∀ (k : Nat) (q : vw_C), vwCl[k]? = some q → ∃ p : ClassId × (Nat → Nat), u_Kn s q.1 q.2.1 q.2.2 p.1 p.2 := by
  intro k q hq
  match k, hq with
  | 0, hq =>
    cases hq
    obtain ⟨c, i, h⟩ := u_known (C := RX0) (T := TX0) (N := 7) (n := 7) hts (fun w hw => lt_g (lyy_0 w hw)) (hts _ (lt_1 176 rfl))
    exact ⟨(c, i), h⟩
  | 1, hq =>
    cases hq
    obtain ⟨c, i, h⟩ := u_known (C := RX1) (T := TX1) (N := 4) (n := 4) hts (fun w hw => lt_g (lyy_1 w hw)) (hts _ (lt_1 72 rfl))
    exact ⟨(c, i), h⟩
  | 2, hq =>
    cases hq
    obtain ⟨c, i, h⟩ := u_known (C := RX2) (T := TX2) (N := 14) (n := 14) hts (fun w hw => lt_g (lyy_2 w hw)) (hts _ (lt_1 29 rfl))
    exact ⟨(c, i), h⟩
  | 3, hq =>
    cases hq
    obtain ⟨c, i, h⟩ := u_known (C := RX3) (T := TX3) (N := 5) (n := 5) hts (fun w hw => lt_g (lyy_3 w hw)) (hts _ (lt_1 205 rfl))
    exact ⟨(c, i), h⟩
  | 4, hq =>
    cases hq
    obtain ⟨c, i, h⟩ := u_known (C := RX4) (T := TX4) (N := 5) (n := 5) hts (fun w hw => lt_g (lyy_4 w hw)) (hts _ (lt_2 75 rfl))
    exact ⟨(c, i), h⟩
  | 5, hq =>
    cases hq
    obtain ⟨c, i, h⟩ := u_known (C := RX5) (T := TX5) (N := 5) (n := 5) hts (fun w hw => lt_g (lyy_5 w hw)) (hts _ (lt_2 28 rfl))
    exact ⟨(c, i), h⟩
  | 6, hq =>
    cases hq
    obtain ⟨c, i, h⟩ := u_known (C := RX6) (T := TX6) (N := 3) (n := 3) hts (fun w hw => lt_g (lyy_6 w hw)) (hts _ (lt_2 12 rfl))
    exact ⟨(c, i), h⟩
  | 7, hq =>
    cases hq
    obtain ⟨c, i, h⟩ := u_known (C := RX7) (T := TX7) (N := 5) (n := 5) hts (fun w hw => lt_g (lyy_7 w hw)) (hts _ (lt_1 229 rfl))
    exact ⟨(c, i), h⟩
  | 8, hq =>
    cases hq
    obtain ⟨c, i, h⟩ := u_known (C := RX8) (T := TX8) (N := 4) (n := 4) hts (fun w hw => lt_g (lyy_8 w hw)) (hts _ (lt_2 34 rfl))
    exact ⟨(c, i), h⟩
  | 9, hq =>
    cases hq
    obtain ⟨c, i, h⟩ := u_known (C := RX9) (T := TX9) (N := 4) (n := 4) hts (fun w hw => lt_g (lyy_9 w hw)) (hts _ (lt_1 38 rfl))
    exact ⟨(c, i), h⟩
  | 10, hq =>
    cases hq
    obtain ⟨c, i, h⟩ := u_known (C := RX10) (T := TX10) (N := 13) (n := 13) hts (fun w hw => lt_g (lyy_10 w hw)) (hts _ (lt_1 21 rfl))
    exact ⟨(c, i), h⟩
  | 11, hq =>
    cases hq
    obtain ⟨c, i, h⟩ := u_known (C := RX11) (T := TX11) (N := 51) (n := 51) hts (fun w hw => lt_g (lyy_11 w hw)) (hts _ (lt_5 140 rfl))
    exact ⟨(c, i), h⟩
  | k + 12, hq => simp [vwCl] at hq
set_option maxRecDepth 20000 in
theorem lw_ar {args : Array Value} {s : State} {ty : FieldType} (hty : ∀ C, ty ≠ .object C) (h : (Cond.arrayClass ty).before args s = true) : ∃ cA : ClassId, ArrOfT s cA ty ∧ va_RA s cA ty := by
  obtain ⟨cA, kA, comp, h1, h2, h3⟩ := Cond.arrayClass_spec h
  refine ⟨cA, fun n z => ⟨fun k h => (by cases h), kA, h2, comp, h3⟩, ?_⟩
  cases ty with
  | object C => exact absurd rfl (hty C)
  | _ => exact h1
theorem lw_ao {s : State} {C : String} (h : va_AO C s) : ∃ cA : ClassId, ArrOfT s cA (.object C) ∧ va_RA s cA (.object C) := by
  obtain ⟨comp, c, k, h1, h2, h3, h4, h5⟩ := Cond.arrayOver_spec h
  exact ⟨c, fun n z => ⟨fun k h => (by cases h), k, h3, comp, h4⟩, k, comp, h3, h4, h1, h5⟩
theorem lw_K {args : Array Value} {s : State} (hts : ∀ w ∈ lw_tbl, w.before args s = true) : ∃ (D : va_G) (dA : Nat → ClassId), va_K D vwCl (jk_tys dA) s := by
  have h0 : ∀ k : Nat, ∃ p : ClassId × (Nat → Nat), ∀ q : vw_C, vwCl[k]? = some q → u_Kn s q.1 q.2.1 q.2.2 p.1 p.2 := by
    intro k
    by_cases hk : k < 12
    · obtain ⟨p, hp⟩ := lw_u hts k (vwCl[k]'hk) (List.getElem?_eq_getElem hk)
      exact ⟨p, fun q hq => by rw [List.getElem?_eq_getElem hk] at hq; cases hq; exact hp⟩
    · obtain ⟨p, -⟩ := lw_u hts 0 _ rfl
      exact ⟨p, fun q hq => absurd (List.getElem?_eq_some_iff.mp hq).1 hk⟩
  obtain ⟨f, hf⟩ := Classical.axiomOfChoice h0
  have hn := lw_Ns hts
  obtain ⟨c0, a0, b0⟩ := lw_ar (ty := .int) (fun C h => by cases h) (hts _ (lt_g ac_int))
  obtain ⟨c1, a1, b1⟩ := lw_ar (ty := .long) (fun C h => by cases h) (hts _ (lt_g ac_long))
  obtain ⟨c2, a2, b2⟩ := lw_ao (hn _ ao_9)
  obtain ⟨c3, a3, b3⟩ := lw_ao (hn _ ao_1)
  obtain ⟨c4, a4, b4⟩ := lw_ao (hn _ ao_8)
  refine ⟨(fun k => (f k).1, fun k => (f k).2), fun k => [c0, c1, c2, c3, c4].getD k c0, fun c q hq => hf c q hq, fun k q hq => ?_⟩
  match k, hq with
  | 0, hq => cases hq; exact ⟨a0, b0⟩
  | 1, hq => cases hq; exact ⟨a1, b1⟩
  | 2, hq => cases hq; exact ⟨a2, b2⟩
  | 3, hq => cases hq; exact ⟨a3, b3⟩
  | 4, hq => cases hq; exact ⟨a4, b4⟩
  | k + 5, hq => simp [jk_tys] at hq
