/-! the good words of the tables, the nest mates' words -/
def jk_gt : List Cond := lw_tbl.filter goodWord
theorem jk_in {w : Cond} (i : Nat) (h : lw_tbl[i]? = some w) (hg : goodWord w = true) : w ∈ jk_gt := List.mem_filter.mpr ⟨List.mem_of_getElem? h, hg⟩
theorem jk_good {w : Cond} (h : w ∈ jk_gt) : (w.onTables && w.keeps) = true ∨ ∃ ty, w = .arrayClass ty := good_of_word (List.mem_filter.mp h).2
theorem jk_GI {ws : List Cond} (h : ∀ w ∈ ws, w ∈ jk_gt) : GoodIn jk_gt ws := fun w hw => ⟨h w hw, jk_good (h w hw)⟩
abbrev jk_F : Type := String × ByteArray × Nat × Option FieldType × Bool
abbrev jk_M : Type := List (Nat × Nat) × (Nat → Nat → Int32) × (Nat → Nat → Int64) × (Nat → Nat → Option Nat)
def jk_V (ρ : Nat → Nat) (v : Value) : Value := match v with
  | .ref a => .ref (ρ a)
  | w => w
def jk_ft (ci k : Nat) : FieldType := match ci with
  | 0 => tyX0 k
  | 1 => tyX1 k
  | 2 => tyX2 k
  | 3 => tyX3 k
  | 4 => tyX4 k
  | 5 => tyX5 k
  | 6 => tyX6 k
  | 7 => tyX7 k
  | 8 => tyX8 k
  | 9 => tyX9 k
  | 10 => tyX10 k
  | _ => tyX11 k
def jk_nf (ci : Nat) : Nat := match ci with
  | 0 => 7
  | 1 => 4
  | 2 => 14
  | 3 => 5
  | 4 => 5
  | 5 => 5
  | 6 => 3
  | 7 => 5
  | 8 => 4
  | 9 => 4
  | 10 => 13
  | _ => 51
def jk_isR (t : FieldType) : Bool := match t with
  | .object _ => true
  | .array _ => true
  | _ => false
def jk_fv (ρ : Nat → Nat) (M : jk_M) (a ci k : Nat) : Value := if jk_isR (jk_ft ci k) = true then va_rf ((M.2.2.2 a k).map ρ) else .int (M.2.1 a k)
def jk_fs (ρ : Nat → Nat) (M : jk_M) (a ci : Nat) : List Value := (List.range (jk_nf ci)).map (jk_fv ρ M a ci)
def jk_E (ρ : Nat → Nat) (dA : Nat → ClassId) (M : jk_M) (a : Nat) (sh : Nat × Nat) : va_E := match sh.1 with
  | 0 => .inr (sh.2, jk_fs ρ M a sh.2)
  | 1 => .inl (dA 0, sh.2, .inl (M.2.1 a))
  | 2 => .inl (dA 1, sh.2, .inr (.inl (M.2.2.1 a)))
  | t + 3 => .inl (dA (t + 2), sh.2, .inr (.inr (.inr (.inr fun k => (M.2.2.2 a k).map ρ))))
def jk_w (ρ : Nat → Nat) (dA : Nat → ClassId) (M : jk_M) : va_W := M.1.mapIdx fun a sh => (ρ a, jk_E ρ dA M a sh)
def jk_tys (dA : Nat → ClassId) : List (ClassId × FieldType) := [(dA 0, .int), (dA 1, .long), (dA 2, .object RX9), (dA 3, .object RX1), (dA 4, .object RX8)]
def jk_wI (M : jk_M) (a k : Nat) (x : Int32) : jk_M := (M.1, va_up M.2.1 a (va_up (M.2.1 a) k x), M.2.2)
def jk_wL (M : jk_M) (a k : Nat) (x : Int64) : jk_M := (M.1, M.2.1, va_up M.2.2.1 a (va_up (M.2.2.1 a) k x), M.2.2.2)
def jk_wR (M : jk_M) (a k : Nat) (x : Option Nat) : jk_M := (M.1, M.2.1, M.2.2.1, va_up M.2.2.2 a (va_up (M.2.2.2 a) k x))
def jk_wC (M : jk_M) (a : Nat) (f : Nat → Int64) : jk_M := (M.1, M.2.1, va_up M.2.2.1 a f, M.2.2.2)
def jk_nw (M : jk_M) (sh : Nat × Nat) : jk_M := (M.1 ++ [sh], va_up M.2.1 M.1.length (fun _ => 0), va_up M.2.2.1 M.1.length (fun _ => 0), va_up M.2.2.2 M.1.length (fun _ => none))
/-- the static tables: class, field, what they hold -/
def jk_sA : List (String × String × List Int32) := [(RX10, "ABOVE", [0, 0, 0, 1, 0, 2, 4]), (RX10, "LEAST", [2, 0, 0, 0, 0, 10, 1, 0, 1, 1, 0, 0, 0, 0]), (RX10, "MOST", [8, 6, 9, 77, 1, 60, 13, 20, 5, 99, 15, 59, 5, 4]), (RX5, "SORTS", [0, -1, -1, 1, 2, 3, 4, 3, -1, 5, -1, -1, 6, -1, -1, 6, 7, -1, 3, 8, 9, 10, -1, -1, 10, -1, -1, 11, -1, -1]), (RX4, "BODIES", [10, 11, 12, 20, 0, 0, 0, 30, 0, 0, 40, 0, 51, 0, 50, 0, 0, 60, 70, 71, 0])]
/-- the texts: their places in the reader's pool, and their letters -/
def jk_sI : List Nat := [149, 150, 152, 154, 155, 156, 158, 160, 162, 163]
def jk_sT : List String := ["side", "thing", "box", "power", "channel", "neighbour", "device", "open", "shut", "minute"]
def jk_sB : List (List Int32) := [[115, 105, 100, 101], [116, 104, 105, 110, 103], [98, 111, 120], [112, 111, 119, 101, 114], [99, 104, 97, 110, 110, 101, 108], [110, 101, 105, 103, 104, 98, 111, 117, 114], [100, 101, 118, 105, 99, 101], [111, 112, 101, 110], [115, 104, 117, 116], [109, 105, 110, 117, 116, 101]]
def jk_sL : List Nat := [4, 5, 3, 5, 7, 9, 6, 4, 4, 6]
def jk_St (ρ : Nat → Nat) (A : Nat → Prop) (U : State) (H : Heap) : Prop :=
  (∀ (j : Nat) (q : String × String × List Int32), jk_sA[j]? = some q → va_Z q.1 q.2.1 "[I" (.ref (ρ (1000 + j))) A U H ∧ va_T .int (ρ (1000 + j)) q.2.2.length (fun i => .int (q.2.2.getD i 0)) A U H) ∧
  vk_S 10 jk_sL jk_sB (fun i => ρ (2000 + i)) (fun i => ρ (3000 + i)) A U H ∧ (∀ i, i < 10 → vk_R RX5 (jk_sI.getD i 0) (jk_sT.getD i "") (ρ (2000 + i)) U) ∧
  va_Z RJ0 "COMPACT_STRINGS" "Z" (.int 1) A U H ∧ (va_Z RJ3 "SIOOBE_FORMATTER" "Ljava/util/function/BiFunction;" .null A U H ∨ va_Z RJ3 "SIOOBE_FORMATTER" "Ljava/util/function/BiFunction;" (.ref (ρ 4000)) A U H)
theorem jk_St.kept {ρ : Nat → Nat} {A : Nat → Prop} {u U : State} {H H1 : Heap} (h : jk_St ρ A u H) (hW : u.WarmedH U.vm) (hq : ∀ a : Nat, a < H.size → ¬ A a → H1[a]? = H[a]?) : jk_St ρ A U H1 := by
  obtain ⟨h1, h2, h3, h4, h5⟩ := h
  refine ⟨fun j q hj => ⟨va_Z.moved hW.alike ((h1 j q hj).1.kept hq), va_T.moved hW.alike ((h1 j q hj).2.kept hq)⟩, vk_S.moved hW.alike (h2.kept hq), fun i hi => (h3 i hi).warm hW, va_Z.moved hW.alike (h4.kept hq), ?_⟩
  rcases h5 with h5 | h5
  · exact Or.inl (va_Z.moved hW.alike (h5.kept hq))
  · exact Or.inr (va_Z.moved hW.alike (h5.kept hq))
/-! nest mates' words: all of them -/
def jk_isN (w : Cond) : Bool := match w with
  | .methodLinkNest _ _ _ _ => true
  | .fieldLinkNest _ _ _ _ _ _ => true
  | .arrayOver (.object _) => true
  | _ => false
def jk_ns : List Cond := lw_tbl.filter jk_isN
def jk_Ns (U : State) : Prop := ∀ w ∈ jk_ns, va_Nw w U
theorem jk_Ns.warm {s U : State} (hW : s.WarmedH U.vm) (h : jk_Ns s) : jk_Ns U := by
  intro w hw
  have h1 := h w hw
  have h2 := (List.mem_filter.mp hw).2
  unfold jk_isN at h2
  split at h2
  · exact va_Nw.warmM hW h1
  · exact va_Nw.warmF hW h1
  · exact va_AO.moved hW.alike h1
  · cases h2
theorem jk_inN {w : Cond} (i : Nat) (h : lw_tbl[i]? = some w) (hg : jk_isN w = true) : w ∈ jk_ns := List.mem_filter.mpr ⟨List.mem_of_getElem? h, hg⟩
/-! the frame, the world, the judgement -/
def jk_Fr (F : jk_F) (d : Nat) (p : Program) (R : Room) (s : State) (m : MethodId) (args : Array Value) (meth : Method) (c : Code) : Prop :=
  p.tables.exec = Jvm.exec ∧ c.code = F.2.1 ∧ c.maxLocals = F.2.2.1 ∧ meth.sig.returnType = F.2.2.2.1 ∧ meth.locks = false ∧ s.vm.findClass F.1 = some m.cls ∧ (F.2.2.2.2 = true → meth.name = "<init>") ∧ (∀ w ∈ jk_gt, w.before args s = true) ∧ jk_Ns s ∧ d + 1 ≤ R.frames ∧ 64 * (d + 1) ≤ R.locals
def jk_Wd (ρ : Nat → Nat) (D : va_G) (dA : Nat → ClassId) (A : Nat → Prop) (M : jk_M) (s : State) (H : Heap) (locs : List Loc) : Prop :=
  va_P D vwCl (jk_w ρ dA M) H ∧ va_D A (jk_w ρ dA M) ∧ va_K D vwCl (jk_tys dA) s ∧ va_S A s.heap H locs ∧ (∀ q, s.heap.size ≤ q → A q) ∧ jk_St ρ A s s.heap
def jk_Al (ρ : Nat → Nat) (ini : Bool) (n0 g0 kc : Nat) (M : jk_M) (H : Heap) : Prop := ini = true → H.size + g0 = n0 + M.1.length ∧ (kc ≠ 0 → ∀ j, M.1.length ≤ j → j < 1000 → ρ j + M.1.length = H.size + j)
def jk_Qc (ρ : Nat → Nat) (D : va_G) (dA : Nat → ClassId) (A : Nat → Prop) (ini : Bool) (g0 : Nat) (Q : Option Value → jk_M → Prop) : Array Value → State → Outcome → State → Prop := fun _ st o t =>
  (∃ (r : Option Value) (M' : jk_M), o = .returned (r.map (jk_V ρ)) ∧ Q r M' ∧ va_P D vwCl (jk_w ρ dA M') t.heap ∧ va_D A (jk_w ρ dA M') ∧ (ini = true → t.heap.size + g0 = st.heap.size + M'.1.length)) ∧ va_F A st t
def jk_ml (ρ : Nat → Nat) (L : List (Nat × Value)) : List (Nat × Value) := L.map fun q => (q.1, jk_V ρ q.2)
def J (F : jk_F) (d kc ks pc : Nat) (L : List (Nat × Value)) (st : List Value) (M : jk_M) (Q : Option Value → jk_M → Prop) : Prop :=
  ∀ (ρ : Nat → Nat) (D : va_G) (dA : Nat → ClassId) (A : Nat → Prop) (g0 : Nat) (p : Program) (l : Launch) (e : Env) (R : Room) (s : State) (m : MethodId) (args : Array Value) (below : List Frame) (meth : Method) (c : Code), jk_Fr F d p R s m args meth c →
  ∀ (H : Heap) (locs : List Loc) (cells slots : Nat) (ls : Array Slot), jk_Wd ρ D dA A M s H locs → jk_Al ρ F.2.2.2.2 s.heap.size g0 kc M H → cells + kc ≤ R.cells → slots + ks ≤ R.slots → lv_has ls F.2.2.1 (jk_ml ρ L) →
  W p l e R s m args below meth c H locs cells slots (MQ below (jk_Qc ρ D dA A F.2.2.2.2 g0 Q) args s R.cells R.slots A) (F0 m pc ls (st.map (jk_V ρ)))
/-! pure rows about the pictures -/
theorem jk_cat (ρ : Nat → Nat) (v : Value) : (jk_V ρ v).category = v.category := by cases v <;> rfl
theorem jk_get {ρ : Nat → Nat} {dA : Nat → ClassId} {M : jk_M} {a : Nat} {sh : Nat × Nat} (h : M.1[a]? = some sh) : (jk_w ρ dA M)[a]? = some (ρ a, jk_E ρ dA M a sh) := by
  simp [jk_w, List.getElem?_mapIdx, h]
theorem jk_setw {ρ : Nat → Nat} {dA : Nat → ClassId} {M M' : jk_M} {a : Nat} {sh : Nat × Nat} (h1 : M'.1 = M.1) (h : M.1[a]? = some sh) (hk : ∀ b, b ≠ a → ∀ sh, jk_E ρ dA M' b sh = jk_E ρ dA M b sh) : jk_w ρ dA M' = (jk_w ρ dA M).set a (ρ a, jk_E ρ dA M' a sh) := by
  apply List.ext_getElem?
  intro i
  rw [List.getElem?_set]
  simp only [jk_w, List.getElem?_mapIdx, h1, List.length_mapIdx]
  by_cases hi : a = i
  · subst hi
    obtain ⟨hl, he⟩ := List.getElem?_eq_some_iff.mp h
    simp [hl, he]
  · rw [if_neg hi]
    cases hj : M.1[i]? with
    | none => rfl
    | some sj => simp [hk i (fun e => hi e.symm) sj]
theorem jk_up_s {α : Type} (f : Nat → α) (k : Nat) (v : α) : va_up f k v k = v := by simp [va_up]
theorem jk_up_n {α : Type} (f : Nat → α) (k j : Nat) (v : α) (h : j ≠ k) : va_up f k v j = f j := by simp [va_up, h]
theorem jk_EI {ρ : Nat → Nat} {dA : Nat → ClassId} {M : jk_M} {a k : Nat} {x : Int32} (b : Nat) (hb : b ≠ a) (sh : Nat × Nat) : jk_E ρ dA (jk_wI M a k x) b sh = jk_E ρ dA M b sh := by
  have e : (jk_wI M a k x).2.1 b = M.2.1 b := jk_up_n _ _ _ _ hb
  obtain ⟨t, n⟩ := sh
  match t with
  | 0 => simp only [jk_E, jk_fs]; refine congrArg (fun z => Sum.inr (n, z)) (List.map_congr_left fun k' _ => ?_); simp only [jk_fv, e]; rfl
  | 1 => simp only [jk_E, e]
  | 2 => rfl
  | t + 3 => rfl
theorem jk_EL {ρ : Nat → Nat} {dA : Nat → ClassId} {M : jk_M} {a : Nat} {f : Nat → Int64} (b : Nat) (hb : b ≠ a) (sh : Nat × Nat) : jk_E ρ dA (jk_wC M a f) b sh = jk_E ρ dA M b sh := by
  have e : (jk_wC M a f).2.2.1 b = M.2.2.1 b := jk_up_n _ _ _ _ hb
  obtain ⟨t, n⟩ := sh
  match t with
  | 0 => rfl
  | 1 => rfl
  | 2 => simp only [jk_E, e]
  | t + 3 => rfl
theorem jk_ER {ρ : Nat → Nat} {dA : Nat → ClassId} {M : jk_M} {a k : Nat} {x : Option Nat} (b : Nat) (hb : b ≠ a) (sh : Nat × Nat) : jk_E ρ dA (jk_wR M a k x) b sh = jk_E ρ dA M b sh := by
  have e : (jk_wR M a k x).2.2.2 b = M.2.2.2 b := jk_up_n _ _ _ _ hb
  obtain ⟨t, n⟩ := sh
  match t with
  | 0 => simp only [jk_E, jk_fs]; refine congrArg (fun z => Sum.inr (n, z)) (List.map_congr_left fun k' _ => ?_); simp only [jk_fv, e]; rfl
  | 1 => rfl
  | 2 => rfl
  | t + 3 => simp only [jk_E, e]
theorem jk_setfs {n k : Nat} {f g : Nat → Value} (hk : k < n) (ho : ∀ j, j ≠ k → g j = f j) : (List.range n).map g = ((List.range n).map f).set k (g k) := by
  apply List.ext_getElem?
  intro i
  rw [List.getElem?_set, List.length_map, List.length_range, List.getElem?_map, List.getElem?_map]
  by_cases hi : k = i
  · subst hi
    simp [hk]
  · rw [if_neg hi]
    cases hj : (List.range n)[i]? with
    | none => rfl
    | some sj =>
      have e : i = sj := by
        obtain ⟨h1, h2⟩ := List.getElem?_eq_some_iff.mp hj
        simpa using h2
      subst e
      simp [ho i (fun e => hi e.symm)]
theorem jk_fsI {ρ : Nat → Nat} {M : jk_M} {a ci k : Nat} {x : Int32} (hk : k < jk_nf ci) (hR : jk_isR (jk_ft ci k) = false) : jk_fs ρ (jk_wI M a k x) a ci = (jk_fs ρ M a ci).set k (.int x) := by
  have e : (jk_wI M a k x).2.1 a = va_up (M.2.1 a) k x := jk_up_s _ _ _
  have e2 : jk_fv ρ (jk_wI M a k x) a ci k = .int x := by
    simp only [jk_fv, hR, e, jk_up_s]; simp
  rw [← e2]
  refine jk_setfs hk fun j hj => ?_
  simp only [jk_fv, e, jk_up_n _ _ _ _ hj]; rfl
theorem jk_fsR {ρ : Nat → Nat} {M : jk_M} {a ci k : Nat} {x : Option Nat} (hk : k < jk_nf ci) (hR : jk_isR (jk_ft ci k) = true) : jk_fs ρ (jk_wR M a k x) a ci = (jk_fs ρ M a ci).set k (va_rf (x.map ρ)) := by
  have e : (jk_wR M a k x).2.2.2 a = va_up (M.2.2.2 a) k x := jk_up_s _ _ _
  have e2 : jk_fv ρ (jk_wR M a k x) a ci k = va_rf (x.map ρ) := by
    simp only [jk_fv, hR, e, jk_up_s]; simp
  rw [← e2]
  refine jk_setfs hk fun j hj => ?_
  simp only [jk_fv, e, jk_up_n _ _ _ _ hj]; rfl
theorem jk_fsat {ρ : Nat → Nat} {M : jk_M} {a ci k : Nat} (hk : k < jk_nf ci) : (jk_fs ρ M a ci)[k]? = some (jk_fv ρ M a ci k) := by
  simp [jk_fs, hk]
theorem jk_fslen {ρ : Nat → Nat} {M : jk_M} {a ci : Nat} : (jk_fs ρ M a ci).length = jk_nf ci := by simp [jk_fs]
theorem jk_nww {ρ : Nat → Nat} {dA : Nat → ClassId} {M : jk_M} {sh : Nat × Nat} : jk_w ρ dA (jk_nw M sh) = jk_w ρ dA M ++ [(ρ M.1.length, jk_E ρ dA (jk_nw M sh) M.1.length sh)] := by
  simp only [jk_w]
  show List.mapIdx _ (M.1 ++ [sh]) = _
  rw [List.mapIdx_append]
  have e1 : List.mapIdx (fun a sh' => (ρ a, jk_E ρ dA (jk_nw M sh) a sh')) M.1 = List.mapIdx (fun a sh' => (ρ a, jk_E ρ dA M a sh')) M.1 := by
    apply List.ext_getElem?
    intro i
    simp only [List.getElem?_mapIdx]
    cases hj : M.1[i]? with
    | none => rfl
    | some sj =>
      have hi : i < M.1.length := (List.getElem?_eq_some_iff.mp hj).1
      have hn : i ≠ M.1.length := by omega
      have f1 : (jk_nw M sh).2.1 i = M.2.1 i := jk_up_n _ _ _ _ hn
      have f2 : (jk_nw M sh).2.2.1 i = M.2.2.1 i := jk_up_n _ _ _ _ hn
      have f3 : (jk_nw M sh).2.2.2 i = M.2.2.2 i := jk_up_n _ _ _ _ hn
      obtain ⟨t, n⟩ := sj
      match t with
      | 0 => simp only [Option.map_some, jk_E, jk_fs]; refine congrArg (fun z => some (ρ i, Sum.inr (n, z))) (List.map_congr_left fun k' _ => ?_); simp only [jk_fv, f1, f3]
      | 1 => simp only [Option.map_some, jk_E, f1]
      | 2 => simp only [Option.map_some, jk_E, f2]
      | t + 3 => simp only [Option.map_some, jk_E, f3]
  rw [e1]
  simp
theorem jk_lf1 (ρ : Nat → Nat) (i : Nat) (L : List (Nat × Value)) : (jk_ml ρ L).filter (fun q => !(q.1 == i) && !(q.1 + 1 == i && q.2.category == 2)) = jk_ml ρ (L.filter (fun q => !(q.1 == i) && !(q.1 + 1 == i && q.2.category == 2))) := by
  rw [jk_ml, List.filter_map]
  refine congrArg (List.map _) (List.filter_congr fun q _ => ?_)
  simp [jk_cat]
theorem jk_lf2 (ρ : Nat → Nat) (i : Nat) (L : List (Nat × Value)) : (jk_ml ρ L).filter (fun q => !(q.1 == i) && (!(q.1 == i + 1) && !(q.1 + 1 == i && q.2.category == 2))) = jk_ml ρ (L.filter (fun q => !(q.1 == i) && (!(q.1 == i + 1) && !(q.1 + 1 == i && q.2.category == 2)))) := by
  rw [jk_ml, List.filter_map]
  refine congrArg (List.map _) (List.filter_congr fun q _ => ?_)
  simp [jk_cat]
theorem jk_lat {ρ : Nat → Nat} {ls : Array Slot} {nL : Nat} {L : List (Nat × Value)} (h : lv_has ls nL (jk_ml ρ L)) {q i : Nat} {v : Value} (hq : L[q]? = some (i, v)) : ls[i]? = some (.val (jk_V ρ v)) := by
  refine lv_at h q ?_
  simp [jk_ml, hq]
theorem jk_largs (ρ : Nat → Nat) : ∀ (As : List Value) (i : Nat), lv_args i (As.map (jk_V ρ)) = jk_ml ρ (lv_args i As)
  | [], i => rfl
  | v :: vs, i => by
    show (i, jk_V ρ v) :: lv_args (if (jk_V ρ v).category = 2 then i + 2 else i + 1) (vs.map (jk_V ρ)) = _
    rw [jk_largs ρ vs, jk_cat]
    rfl
theorem jk_lsl (ρ : Nat → Nat) (As : List Value) : (lg_sl (As.map (jk_V ρ))).length = (lg_sl As).length := by
  induction As with
  | nil => rfl
  | cons v vs ih =>
    simp only [lg_sl, List.map_cons, List.flatMap_cons, List.length_append] at ih ⊢
    rw [ih, jk_cat]
    split <;> rfl
theorem jk_sum (ρ : Nat → Nat) (st : List Value) : ((st.map (jk_V ρ)).map fun v => v.category) = st.map fun v => v.category := by
  rw [List.map_map]
  refine List.map_congr_left fun v _ => jk_cat ρ v
def jk_sub (L L' : List (Nat × Value)) : Prop := ∀ q ∈ L', q ∈ L
theorem jk_lsub {ρ : Nat → Nat} {ls : Array Slot} {nL : Nat} {L L' : List (Nat × Value)} (h : lv_has ls nL (jk_ml ρ L)) (hs : jk_sub L L') : lv_has ls nL (jk_ml ρ L') := by
  refine ⟨h.1, h.2.1, fun q hq => ?_⟩
  obtain ⟨z, hz, rfl⟩ := List.mem_map.mp hq
  exact h.2.2 _ (List.mem_map.mpr ⟨z, hs z hz, rfl⟩)
/-! a class's facts; a field's -/
def jk_cf (ci : Nat) (C : String) (T : u_T) (N : Nat) : Prop := vwCl[ci]? = some (C, T, N) ∧ N = jk_nf ci ∧ (∀ w ∈ u_ws C T N, w ∈ jk_gt) ∧ (∀ k, k < N → parseFieldDescriptor (T k).2.2.1 = some (jk_ft ci k)) ∧ (∀ a, a < N → ∀ b, b < N → a ≠ b → (T a).2.1 ≠ (T b).2.1)
def jk_fl (own : String) (idx ci k : Nat) (fin : Bool) : Prop := ∃ (C : String) (T : u_T) (N : Nat), jk_cf ci C T N ∧ k < N ∧ (T k).1 = C ∧ (T k).2.2.2 = fin ∧ Cond.fieldLink own idx C (T k).2.1 (T k).2.2.1 ∈ jk_gt
theorem jk_nar {ci k : Nat} (h : jk_isR (jk_ft ci k) = true) (x : Nat) : narrow (jk_ft ci k) (.ref x) = .ref x ∧ fits (jk_ft ci k) (.ref x) = true := by
  cases e : jk_ft ci k <;> rw [e] at h <;> first | exact ⟨rfl, rfl⟩ | (exact absurd h (by decide))
section JR
variable {F : jk_F} {d kc ks pc : Nat} {L : List (Nat × Value)} {st : List Value} {M : jk_M} {Q : Option Value → jk_M → Prop}

theorem j_iconst {n : Int} (v : Int32) (hdg : decode F.2.1 pc = .ok (.iconst n, 1)) (hv : Int32.ofInt n = v) (kk : J F d kc ks (pc + 1) L (.int v :: st) M Q) : J F d kc ks pc L (st) M Q := by
  intro ρ D dA A g0 p l e R s m args below meth c X H locs cells slots ls hW hA hc hs hl
  exact lv_iconst X.1 X.2.1 hdg hv (kk ρ D dA A g0 p l e R s m args below meth c X H locs cells slots ls hW hA hc hs hl)
theorem j_bipush {n : Int} (v : Int32) (hdg : decode F.2.1 pc = .ok (.bipush n, 2)) (hv : (Int8.ofInt n).toInt32 = v) (kk : J F d kc ks (pc + 2) L (.int v :: st) M Q) : J F d kc ks pc L (st) M Q := by
  intro ρ D dA A g0 p l e R s m args below meth c X H locs cells slots ls hW hA hc hs hl
  exact lv_bipush X.1 X.2.1 hdg hv (kk ρ D dA A g0 p l e R s m args below meth c X H locs cells slots ls hW hA hc hs hl)
theorem j_sipush {n : Int} (v : Int32) (hdg : decode F.2.1 pc = .ok (.sipush n, 3)) (hv : (Int16.ofInt n).toInt32 = v) (kk : J F d kc ks (pc + 3) L (.int v :: st) M Q) : J F d kc ks pc L (st) M Q := by
  intro ρ D dA A g0 p l e R s m args below meth c X H locs cells slots ls hW hA hc hs hl
  exact lv_sipush X.1 X.2.1 hdg hv (kk ρ D dA A g0 p l e R s m args below meth c X H locs cells slots ls hW hA hc hs hl)
theorem j_lconst {n : Fin 2} (v : Int64) (hdg : decode F.2.1 pc = .ok (.lconst n, 1)) (hv : Int64.ofNat (n : Nat) = v) (kk : J F d kc ks (pc + 1) L (.long v :: st) M Q) : J F d kc ks pc L (st) M Q := by
  intro ρ D dA A g0 p l e R s m args below meth c X H locs cells slots ls hW hA hc hs hl
  exact lv_lconst X.1 X.2.1 hdg hv (kk ρ D dA A g0 p l e R s m args below meth c X H locs cells slots ls hW hA hc hs hl)
theorem j_iload_n {k : Fin 4} {x : Int32} (q : Nat) (hdg : decode F.2.1 pc = .ok (.iload_n k, 1)) (hq : L[q]? = some ((k : Nat), .int x)) (kk : J F d kc ks (pc + 1) L (.int x :: st) M Q) : J F d kc ks pc L (st) M Q := by
  intro ρ D dA A g0 p l e R s m args below meth c X H locs cells slots ls hW hA hc hs hl
  exact lv_iload_n X.1 X.2.1 hdg rfl (jk_lat hl hq) (kk ρ D dA A g0 p l e R s m args below meth c X H locs cells slots ls hW hA hc hs hl)
theorem j_iload {k : Nat} {x : Int32} (q : Nat) (hdg : decode F.2.1 pc = .ok (.iload k, 2)) (hq : L[q]? = some (k, .int x)) (kk : J F d kc ks (pc + 2) L (.int x :: st) M Q) : J F d kc ks pc L (st) M Q := by
  intro ρ D dA A g0 p l e R s m args below meth c X H locs cells slots ls hW hA hc hs hl
  exact lv_iload X.1 X.2.1 hdg (jk_lat hl hq) (kk ρ D dA A g0 p l e R s m args below meth c X H locs cells slots ls hW hA hc hs hl)
theorem j_lload_n {k : Fin 4} {x : Int64} (q : Nat) (hdg : decode F.2.1 pc = .ok (.lload_n k, 1)) (hq : L[q]? = some ((k : Nat), .long x)) (kk : J F d kc ks (pc + 1) L (.long x :: st) M Q) : J F d kc ks pc L (st) M Q := by
  intro ρ D dA A g0 p l e R s m args below meth c X H locs cells slots ls hW hA hc hs hl
  exact lv_lload_n X.1 X.2.1 hdg rfl (jk_lat hl hq) (kk ρ D dA A g0 p l e R s m args below meth c X H locs cells slots ls hW hA hc hs hl)
theorem j_lload {k : Nat} {x : Int64} (q : Nat) (hdg : decode F.2.1 pc = .ok (.lload k, 2)) (hq : L[q]? = some (k, .long x)) (kk : J F d kc ks (pc + 2) L (.long x :: st) M Q) : J F d kc ks pc L (st) M Q := by
  intro ρ D dA A g0 p l e R s m args below meth c X H locs cells slots ls hW hA hc hs hl
  exact lv_lload X.1 X.2.1 hdg (jk_lat hl hq) (kk ρ D dA A g0 p l e R s m args below meth c X H locs cells slots ls hW hA hc hs hl)
theorem j_aload_n {k : Fin 4} {x : Nat} (q : Nat) (hdg : decode F.2.1 pc = .ok (.aload_n k, 1)) (hq : L[q]? = some ((k : Nat), .ref x)) (kk : J F d kc ks (pc + 1) L (.ref x :: st) M Q) : J F d kc ks pc L (st) M Q := by
  intro ρ D dA A g0 p l e R s m args below meth c X H locs cells slots ls hW hA hc hs hl
  exact lv_aload_n X.1 X.2.1 hdg rfl (jk_lat hl hq) (kk ρ D dA A g0 p l e R s m args below meth c X H locs cells slots ls hW hA hc hs hl)
theorem j_aload {k : Nat} {x : Nat} (q : Nat) (hdg : decode F.2.1 pc = .ok (.aload k, 2)) (hq : L[q]? = some (k, .ref x)) (kk : J F d kc ks (pc + 2) L (.ref x :: st) M Q) : J F d kc ks pc L (st) M Q := by
  intro ρ D dA A g0 p l e R s m args below meth c X H locs cells slots ls hW hA hc hs hl
  exact lv_aload X.1 X.2.1 hdg (jk_lat hl hq) (kk ρ D dA A g0 p l e R s m args below meth c X H locs cells slots ls hW hA hc hs hl)
theorem j_aload_nN {k : Fin 4} (q : Nat) (hdg : decode F.2.1 pc = .ok (.aload_n k, 1)) (hq : L[q]? = some ((k : Nat), .null)) (kk : J F d kc ks (pc + 1) L (.null :: st) M Q) : J F d kc ks pc L (st) M Q := by
  intro ρ D dA A g0 p l e R s m args below meth c X H locs cells slots ls hW hA hc hs hl
  exact lv_aload_nN X.1 X.2.1 hdg rfl (jk_lat hl hq) (kk ρ D dA A g0 p l e R s m args below meth c X H locs cells slots ls hW hA hc hs hl)
theorem j_aloadN {k : Nat} (q : Nat) (hdg : decode F.2.1 pc = .ok (.aload k, 2)) (hq : L[q]? = some (k, .null)) (kk : J F d kc ks (pc + 2) L (.null :: st) M Q) : J F d kc ks pc L (st) M Q := by
  intro ρ D dA A g0 p l e R s m args below meth c X H locs cells slots ls hW hA hc hs hl
  exact lv_aloadN X.1 X.2.1 hdg (jk_lat hl hq) (kk ρ D dA A g0 p l e R s m args below meth c X H locs cells slots ls hW hA hc hs hl)
theorem j_istore_n {x : Int32} {k : Fin 4} {L' : List (Nat × Value)} (hdg : decode F.2.1 pc = .ok (.istore_n k, 1)) (hn : (k : Nat) < F.2.2.1) (hL : ((k : Nat), .int x) :: L.filter (fun q => !(q.1 == (k : Nat)) && !(q.1 + 1 == (k : Nat) && q.2.category == 2)) = L') (kk : J F d kc ks (pc + 1) L' st M Q) : J F d kc ks pc L (.int x :: st) M Q := by
  intro ρ D dA A g0 p l e R s m args below meth c X H locs cells slots ls hW hA hc hs hl
  subst hL
  exact lv_istore_n X.1 X.2.1 hdg rfl hl hn (by rw [jk_lf1]; rfl) (fun ls' hl' => kk ρ D dA A g0 p l e R s m args below meth c X H locs cells slots ls' hW hA hc hs hl')
theorem j_istore {x : Int32} {k : Nat} {L' : List (Nat × Value)} (hdg : decode F.2.1 pc = .ok (.istore k, 2)) (hn : k < F.2.2.1) (hL : (k, .int x) :: L.filter (fun q => !(q.1 == k) && !(q.1 + 1 == k && q.2.category == 2)) = L') (kk : J F d kc ks (pc + 2) L' st M Q) : J F d kc ks pc L (.int x :: st) M Q := by
  intro ρ D dA A g0 p l e R s m args below meth c X H locs cells slots ls hW hA hc hs hl
  subst hL
  exact lv_istore X.1 X.2.1 hdg hl hn (by rw [jk_lf1]; rfl) (fun ls' hl' => kk ρ D dA A g0 p l e R s m args below meth c X H locs cells slots ls' hW hA hc hs hl')
theorem j_astore_n {x : Nat} {k : Fin 4} {L' : List (Nat × Value)} (hdg : decode F.2.1 pc = .ok (.astore_n k, 1)) (hn : (k : Nat) < F.2.2.1) (hL : ((k : Nat), .ref x) :: L.filter (fun q => !(q.1 == (k : Nat)) && !(q.1 + 1 == (k : Nat) && q.2.category == 2)) = L') (kk : J F d kc ks (pc + 1) L' st M Q) : J F d kc ks pc L (.ref x :: st) M Q := by
  intro ρ D dA A g0 p l e R s m args below meth c X H locs cells slots ls hW hA hc hs hl
  subst hL
  exact lv_astore_n X.1 X.2.1 hdg rfl hl hn (by rw [jk_lf1]; rfl) (fun ls' hl' => kk ρ D dA A g0 p l e R s m args below meth c X H locs cells slots ls' hW hA hc hs hl')
theorem j_astore {x : Nat} {k : Nat} {L' : List (Nat × Value)} (hdg : decode F.2.1 pc = .ok (.astore k, 2)) (hn : k < F.2.2.1) (hL : (k, .ref x) :: L.filter (fun q => !(q.1 == k) && !(q.1 + 1 == k && q.2.category == 2)) = L') (kk : J F d kc ks (pc + 2) L' st M Q) : J F d kc ks pc L (.ref x :: st) M Q := by
  intro ρ D dA A g0 p l e R s m args below meth c X H locs cells slots ls hW hA hc hs hl
  subst hL
  exact lv_astore X.1 X.2.1 hdg hl hn (by rw [jk_lf1]; rfl) (fun ls' hl' => kk ρ D dA A g0 p l e R s m args below meth c X H locs cells slots ls' hW hA hc hs hl')
theorem j_astore_nN {k : Fin 4} {L' : List (Nat × Value)} (hdg : decode F.2.1 pc = .ok (.astore_n k, 1)) (hn : (k : Nat) < F.2.2.1) (hL : ((k : Nat), .null) :: L.filter (fun q => !(q.1 == (k : Nat)) && !(q.1 + 1 == (k : Nat) && q.2.category == 2)) = L') (kk : J F d kc ks (pc + 1) L' st M Q) : J F d kc ks pc L (.null :: st) M Q := by
  intro ρ D dA A g0 p l e R s m args below meth c X H locs cells slots ls hW hA hc hs hl
  subst hL
  exact lv_astore_nN X.1 X.2.1 hdg rfl hl hn (by rw [jk_lf1]; rfl) (fun ls' hl' => kk ρ D dA A g0 p l e R s m args below meth c X H locs cells slots ls' hW hA hc hs hl')
theorem j_astoreN {k : Nat} {L' : List (Nat × Value)} (hdg : decode F.2.1 pc = .ok (.astore k, 2)) (hn : k < F.2.2.1) (hL : (k, .null) :: L.filter (fun q => !(q.1 == k) && !(q.1 + 1 == k && q.2.category == 2)) = L') (kk : J F d kc ks (pc + 2) L' st M Q) : J F d kc ks pc L (.null :: st) M Q := by
  intro ρ D dA A g0 p l e R s m args below meth c X H locs cells slots ls hW hA hc hs hl
  subst hL
  exact lv_astoreN X.1 X.2.1 hdg hl hn (by rw [jk_lf1]; rfl) (fun ls' hl' => kk ρ D dA A g0 p l e R s m args below meth c X H locs cells slots ls' hW hA hc hs hl')
theorem j_lstore_n {x : Int64} {k : Fin 4} {L' : List (Nat × Value)} (hdg : decode F.2.1 pc = .ok (.lstore_n k, 1)) (hn : (k : Nat) + 1 < F.2.2.1) (hL : ((k : Nat), .long x) :: L.filter (fun q => !(q.1 == (k : Nat)) && (!(q.1 == (k : Nat) + 1) && !(q.1 + 1 == (k : Nat) && q.2.category == 2))) = L') (kk : J F d kc ks (pc + 1) L' st M Q) : J F d kc ks pc L (.long x :: st) M Q := by
  intro ρ D dA A g0 p l e R s m args below meth c X H locs cells slots ls hW hA hc hs hl
  subst hL
  exact lv_lstore_n X.1 X.2.1 hdg rfl hl hn (by rw [jk_lf2]; rfl) (fun ls' hl' => kk ρ D dA A g0 p l e R s m args below meth c X H locs cells slots ls' hW hA hc hs hl')
theorem j_lstore {x : Int64} {k : Nat} {L' : List (Nat × Value)} (hdg : decode F.2.1 pc = .ok (.lstore k, 2)) (hn : k + 1 < F.2.2.1) (hL : (k, .long x) :: L.filter (fun q => !(q.1 == k) && (!(q.1 == k + 1) && !(q.1 + 1 == k && q.2.category == 2))) = L') (kk : J F d kc ks (pc + 2) L' st M Q) : J F d kc ks pc L (.long x :: st) M Q := by
  intro ρ D dA A g0 p l e R s m args below meth c X H locs cells slots ls hW hA hc hs hl
  subst hL
  exact lv_lstore X.1 X.2.1 hdg hl hn (by rw [jk_lf2]; rfl) (fun ls' hl' => kk ρ D dA A g0 p l e R s m args below meth c X H locs cells slots ls' hW hA hc hs hl')
theorem j_iinc {i : Nat} {n : Int} {x : Int32} (q : Nat) (v : Int32) {L' : List (Nat × Value)} (hdg : decode F.2.1 pc = .ok (.iinc i n, 3)) (hq : L[q]? = some (i, .int x)) (hv : x + Int32.ofInt n = v) (hn : i < F.2.2.1) (hL : (i, Value.int v) :: L.filter (fun q => !(q.1 == i) && !(q.1 + 1 == i && q.2.category == 2)) = L') (kk : J F d kc ks (pc + 3) L' st M Q) : J F d kc ks pc L st M Q := by
  intro ρ D dA A g0 p l e R s m args below meth c X H locs cells slots ls hW hA hc hs hl
  subst hL
  exact lv_iinc (k := q) X.1 X.2.1 hdg hl (by simp [jk_ml, hq, jk_V]) hv hn (by rw [jk_lf1]; rfl) (fun ls' hl' => kk ρ D dA A g0 p l e R s m args below meth c X H locs cells slots ls' hW hA hc hs hl')
theorem j_iadd {x y : Int32} (hdg : decode F.2.1 pc = .ok (.iadd, 1)) (kk : J F d kc ks (pc + 1) L (.int (x + y) :: st) M Q) : J F d kc ks pc L (.int y :: .int x :: st) M Q := by
  intro ρ D dA A g0 p l e R s m args below meth c X H locs cells slots ls hW hA hc hs hl
  exact lv_iadd X.1 X.2.1 hdg (kk ρ D dA A g0 p l e R s m args below meth c X H locs cells slots ls hW hA hc hs hl)
theorem j_isub {x y : Int32} (hdg : decode F.2.1 pc = .ok (.isub, 1)) (kk : J F d kc ks (pc + 1) L (.int (x - y) :: st) M Q) : J F d kc ks pc L (.int y :: .int x :: st) M Q := by
  intro ρ D dA A g0 p l e R s m args below meth c X H locs cells slots ls hW hA hc hs hl
  exact lv_isub X.1 X.2.1 hdg (kk ρ D dA A g0 p l e R s m args below meth c X H locs cells slots ls hW hA hc hs hl)
theorem j_imul {x y : Int32} (hdg : decode F.2.1 pc = .ok (.imul, 1)) (kk : J F d kc ks (pc + 1) L (.int (x * y) :: st) M Q) : J F d kc ks pc L (.int y :: .int x :: st) M Q := by
  intro ρ D dA A g0 p l e R s m args below meth c X H locs cells slots ls hW hA hc hs hl
  exact lv_imul X.1 X.2.1 hdg (kk ρ D dA A g0 p l e R s m args below meth c X H locs cells slots ls hW hA hc hs hl)
theorem j_iand {x y : Int32} (hdg : decode F.2.1 pc = .ok (.iand, 1)) (kk : J F d kc ks (pc + 1) L (.int (x &&& y) :: st) M Q) : J F d kc ks pc L (.int y :: .int x :: st) M Q := by
  intro ρ D dA A g0 p l e R s m args below meth c X H locs cells slots ls hW hA hc hs hl
  exact lv_iand X.1 X.2.1 hdg (kk ρ D dA A g0 p l e R s m args below meth c X H locs cells slots ls hW hA hc hs hl)
theorem j_ior {x y : Int32} (hdg : decode F.2.1 pc = .ok (.ior, 1)) (kk : J F d kc ks (pc + 1) L (.int (x ||| y) :: st) M Q) : J F d kc ks pc L (.int y :: .int x :: st) M Q := by
  intro ρ D dA A g0 p l e R s m args below meth c X H locs cells slots ls hW hA hc hs hl
  exact lv_ior X.1 X.2.1 hdg (kk ρ D dA A g0 p l e R s m args below meth c X H locs cells slots ls hW hA hc hs hl)
theorem j_ixor {x y : Int32} (hdg : decode F.2.1 pc = .ok (.ixor, 1)) (kk : J F d kc ks (pc + 1) L (.int (x ^^^ y) :: st) M Q) : J F d kc ks pc L (.int y :: .int x :: st) M Q := by
  intro ρ D dA A g0 p l e R s m args below meth c X H locs cells slots ls hW hA hc hs hl
  exact lv_ixor X.1 X.2.1 hdg (kk ρ D dA A g0 p l e R s m args below meth c X H locs cells slots ls hW hA hc hs hl)
theorem j_ishl {x y : Int32} (hdg : decode F.2.1 pc = .ok (.ishl, 1)) (kk : J F d kc ks (pc + 1) L (.int (x <<< (y &&& 31)) :: st) M Q) : J F d kc ks pc L (.int y :: .int x :: st) M Q := by
  intro ρ D dA A g0 p l e R s m args below meth c X H locs cells slots ls hW hA hc hs hl
  exact lv_ishl X.1 X.2.1 hdg (kk ρ D dA A g0 p l e R s m args below meth c X H locs cells slots ls hW hA hc hs hl)
theorem j_ishr {x y : Int32} (hdg : decode F.2.1 pc = .ok (.ishr, 1)) (kk : J F d kc ks (pc + 1) L (.int (x >>> (y &&& 31)) :: st) M Q) : J F d kc ks pc L (.int y :: .int x :: st) M Q := by
  intro ρ D dA A g0 p l e R s m args below meth c X H locs cells slots ls hW hA hc hs hl
  exact lv_ishr X.1 X.2.1 hdg (kk ρ D dA A g0 p l e R s m args below meth c X H locs cells slots ls hW hA hc hs hl)
theorem j_ladd {x y : Int64} (hdg : decode F.2.1 pc = .ok (.ladd, 1)) (kk : J F d kc ks (pc + 1) L (.long (x + y) :: st) M Q) : J F d kc ks pc L (.long y :: .long x :: st) M Q := by
  intro ρ D dA A g0 p l e R s m args below meth c X H locs cells slots ls hW hA hc hs hl
  exact lv_ladd X.1 X.2.1 hdg (kk ρ D dA A g0 p l e R s m args below meth c X H locs cells slots ls hW hA hc hs hl)
theorem j_lsub {x y : Int64} (hdg : decode F.2.1 pc = .ok (.lsub, 1)) (kk : J F d kc ks (pc + 1) L (.long (x - y) :: st) M Q) : J F d kc ks pc L (.long y :: .long x :: st) M Q := by
  intro ρ D dA A g0 p l e R s m args below meth c X H locs cells slots ls hW hA hc hs hl
  exact lv_lsub X.1 X.2.1 hdg (kk ρ D dA A g0 p l e R s m args below meth c X H locs cells slots ls hW hA hc hs hl)
theorem j_lmul {x y : Int64} (hdg : decode F.2.1 pc = .ok (.lmul, 1)) (kk : J F d kc ks (pc + 1) L (.long (x * y) :: st) M Q) : J F d kc ks pc L (.long y :: .long x :: st) M Q := by
  intro ρ D dA A g0 p l e R s m args below meth c X H locs cells slots ls hW hA hc hs hl
  exact lv_lmul X.1 X.2.1 hdg (kk ρ D dA A g0 p l e R s m args below meth c X H locs cells slots ls hW hA hc hs hl)
theorem j_land {x y : Int64} (hdg : decode F.2.1 pc = .ok (.land, 1)) (kk : J F d kc ks (pc + 1) L (.long (x &&& y) :: st) M Q) : J F d kc ks pc L (.long y :: .long x :: st) M Q := by
  intro ρ D dA A g0 p l e R s m args below meth c X H locs cells slots ls hW hA hc hs hl
  exact lv_land X.1 X.2.1 hdg (kk ρ D dA A g0 p l e R s m args below meth c X H locs cells slots ls hW hA hc hs hl)
theorem j_lor {x y : Int64} (hdg : decode F.2.1 pc = .ok (.lor, 1)) (kk : J F d kc ks (pc + 1) L (.long (x ||| y) :: st) M Q) : J F d kc ks pc L (.long y :: .long x :: st) M Q := by
  intro ρ D dA A g0 p l e R s m args below meth c X H locs cells slots ls hW hA hc hs hl
  exact lv_lor X.1 X.2.1 hdg (kk ρ D dA A g0 p l e R s m args below meth c X H locs cells slots ls hW hA hc hs hl)
theorem j_idiv {x y : Int32} (hdg : decode F.2.1 pc = .ok (.idiv, 1)) (hne : ¬ y = 0) (kk : J F d kc ks (pc + 1) L (.int (x / y) :: st) M Q) : J F d kc ks pc L (.int y :: .int x :: st) M Q := by
  intro ρ D dA A g0 p l e R s m args below meth c X H locs cells slots ls hW hA hc hs hl
  exact lv_idiv X.1 X.2.1 hdg hne (kk ρ D dA A g0 p l e R s m args below meth c X H locs cells slots ls hW hA hc hs hl)
theorem j_irem {x y : Int32} (hdg : decode F.2.1 pc = .ok (.irem, 1)) (hne : ¬ y = 0) (kk : J F d kc ks (pc + 1) L (.int (x - x / y * y) :: st) M Q) : J F d kc ks pc L (.int y :: .int x :: st) M Q := by
  intro ρ D dA A g0 p l e R s m args below meth c X H locs cells slots ls hW hA hc hs hl
  exact lv_irem X.1 X.2.1 hdg hne (kk ρ D dA A g0 p l e R s m args below meth c X H locs cells slots ls hW hA hc hs hl)
theorem j_ineg {x : Int32} (hdg : decode F.2.1 pc = .ok (.ineg, 1)) (kk : J F d kc ks (pc + 1) L (.int (0 - x) :: st) M Q) : J F d kc ks pc L (.int x :: st) M Q := by
  intro ρ D dA A g0 p l e R s m args below meth c X H locs cells slots ls hW hA hc hs hl
  exact lv_ineg X.1 X.2.1 hdg (kk ρ D dA A g0 p l e R s m args below meth c X H locs cells slots ls hW hA hc hs hl)
theorem j_i2l {x : Int32} (hdg : decode F.2.1 pc = .ok (.i2l, 1)) (kk : J F d kc ks (pc + 1) L (.long x.toInt64 :: st) M Q) : J F d kc ks pc L (.int x :: st) M Q := by
  intro ρ D dA A g0 p l e R s m args below meth c X H locs cells slots ls hW hA hc hs hl
  exact lv_i2l X.1 X.2.1 hdg rfl (kk ρ D dA A g0 p l e R s m args below meth c X H locs cells slots ls hW hA hc hs hl)
theorem j_l2i {x : Int64} (hdg : decode F.2.1 pc = .ok (.l2i, 1)) (kk : J F d kc ks (pc + 1) L (.int x.toInt32 :: st) M Q) : J F d kc ks pc L (.long x :: st) M Q := by
  intro ρ D dA A g0 p l e R s m args below meth c X H locs cells slots ls hW hA hc hs hl
  exact lv_l2i X.1 X.2.1 hdg rfl (kk ρ D dA A g0 p l e R s m args below meth c X H locs cells slots ls hW hA hc hs hl)
theorem j_i2b {x : Int32} (hdg : decode F.2.1 pc = .ok (.i2b, 1)) (kk : J F d kc ks (pc + 1) L (.int x.toInt8.toInt32 :: st) M Q) : J F d kc ks pc L (.int x :: st) M Q := by
  intro ρ D dA A g0 p l e R s m args below meth c X H locs cells slots ls hW hA hc hs hl
  exact lv_i2b X.1 X.2.1 hdg rfl (kk ρ D dA A g0 p l e R s m args below meth c X H locs cells slots ls hW hA hc hs hl)
theorem j_i2s {x : Int32} (hdg : decode F.2.1 pc = .ok (.i2s, 1)) (kk : J F d kc ks (pc + 1) L (.int x.toInt16.toInt32 :: st) M Q) : J F d kc ks pc L (.int x :: st) M Q := by
  intro ρ D dA A g0 p l e R s m args below meth c X H locs cells slots ls hW hA hc hs hl
  exact lv_i2s X.1 X.2.1 hdg rfl (kk ρ D dA A g0 p l e R s m args below meth c X H locs cells slots ls hW hA hc hs hl)
theorem j_i2c {x : Int32} (v : Int32) (hdg : decode F.2.1 pc = .ok (.i2c, 1)) (hv : (x.toUInt32 % 65536).toInt32 = v) (kk : J F d kc ks (pc + 1) L (.int v :: st) M Q) : J F d kc ks pc L (.int x :: st) M Q := by
  intro ρ D dA A g0 p l e R s m args below meth c X H locs cells slots ls hW hA hc hs hl
  exact lv_i2c X.1 X.2.1 hdg hv (kk ρ D dA A g0 p l e R s m args below meth c X H locs cells slots ls hW hA hc hs hl)
theorem j_iushr {x y : Int32} (hdg : decode F.2.1 pc = .ok (.iushr, 1)) (kk : J F d kc ks (pc + 1) L (.int (x.toUInt32 >>> (y.toUInt32 &&& Int32.toUInt32 31)).toInt32 :: st) M Q) : J F d kc ks pc L (.int y :: .int x :: st) M Q := by
  intro ρ D dA A g0 p l e R s m args below meth c X H locs cells slots ls hW hA hc hs hl
  exact lv_iushr X.1 X.2.1 hdg rfl (kk ρ D dA A g0 p l e R s m args below meth c X H locs cells slots ls hW hA hc hs hl)
theorem j_lshl {x : Int64} {y : Int32} (hdg : decode F.2.1 pc = .ok (.lshl, 1)) (kk : J F d kc ks (pc + 1) L (.long (x <<< (y.toInt64 &&& 63)) :: st) M Q) : J F d kc ks pc L (.int y :: .long x :: st) M Q := by
  intro ρ D dA A g0 p l e R s m args below meth c X H locs cells slots ls hW hA hc hs hl
  exact lv_lshl X.1 X.2.1 hdg rfl (kk ρ D dA A g0 p l e R s m args below meth c X H locs cells slots ls hW hA hc hs hl)
theorem j_null (hdg : decode F.2.1 pc = .ok (.aconst_null, 1)) (kk : J F d kc ks (pc + 1) L (.null :: st) M Q) : J F d kc ks pc L (st) M Q := by
  intro ρ D dA A g0 p l e R s m args below meth c X H locs cells slots ls hW hA hc hs hl
  exact lv_null X.1 X.2.1 hdg (kk ρ D dA A g0 p l e R s m args below meth c X H locs cells slots ls hW hA hc hs hl)
theorem j_dup {v : Value} (hdg : decode F.2.1 pc = .ok (.dup, 1)) (hv : v.category = 1) (kk : J F d kc ks (pc + 1) L (v :: v :: st) M Q) : J F d kc ks pc L (v :: st) M Q := by
  intro ρ D dA A g0 p l e R s m args below meth c X H locs cells slots ls hW hA hc hs hl
  exact lv_dup X.1 X.2.1 hdg (by rw [jk_cat]; exact hv) (kk ρ D dA A g0 p l e R s m args below meth c X H locs cells slots ls hW hA hc hs hl)
theorem j_pop {v : Value} (hdg : decode F.2.1 pc = .ok (.pop, 1)) (hv : v.category = 1) (kk : J F d kc ks (pc + 1) L (st) M Q) : J F d kc ks pc L (v :: st) M Q := by
  intro ρ D dA A g0 p l e R s m args below meth c X H locs cells slots ls hW hA hc hs hl
  exact lv_pop X.1 X.2.1 hdg (by rw [jk_cat]; exact hv) (kk ρ D dA A g0 p l e R s m args below meth c X H locs cells slots ls hW hA hc hs hl)
theorem j_dup_x1 {v u : Value} (hdg : decode F.2.1 pc = .ok (.dup_x1, 1)) (hv : v.category = 1) (hu : u.category = 1) (kk : J F d kc ks (pc + 1) L (v :: u :: v :: st) M Q) : J F d kc ks pc L (v :: u :: st) M Q := by
  intro ρ D dA A g0 p l e R s m args below meth c X H locs cells slots ls hW hA hc hs hl
  exact lv_dup_x1 X.1 X.2.1 hdg (by rw [jk_cat]; exact hv) (by rw [jk_cat]; exact hu) (kk ρ D dA A g0 p l e R s m args below meth c X H locs cells slots ls hW hA hc hs hl)
theorem j_dup2 {v u : Value} (hdg : decode F.2.1 pc = .ok (.dup2, 1)) (hv : v.category = 1) (hu : u.category = 1) (kk : J F d kc ks (pc + 1) L (v :: u :: v :: u :: st) M Q) : J F d kc ks pc L (v :: u :: st) M Q := by
  intro ρ D dA A g0 p l e R s m args below meth c X H locs cells slots ls hW hA hc hs hl
  exact lv_dup2_11 X.1 X.2.1 hdg (by rw [jk_cat]; exact hv) (by rw [jk_cat]; exact hu) (kk ρ D dA A g0 p l e R s m args below meth c X H locs cells slots ls hW hA hc hs hl)
theorem j_if_eq {x : Int32} {off : Int} {tgt : Nat} (hdg : decode F.2.1 pc = .ok (.ifCond .eq off, 3)) (ht : (pc : Int) + off = (tgt : Int)) (kt : x = 0 → J F d kc ks tgt L st M Q) (kf : ¬ x = 0 → J F d kc ks (pc + 3) L st M Q) : J F d kc ks pc L (.int x :: st) M Q := by
  intro ρ D dA A g0 p l e R s m args below meth c X H locs cells slots ls hW hA hc hs hl
  exact lv_if_eq X.1 X.2.1 hdg ht (fun h => kt h ρ D dA A g0 p l e R s m args below meth c X H locs cells slots ls hW hA hc hs hl) (fun h => kf h ρ D dA A g0 p l e R s m args below meth c X H locs cells slots ls hW hA hc hs hl)
theorem j_icmp_eq {x y : Int32} {off : Int} {tgt : Nat} (hdg : decode F.2.1 pc = .ok (.if_icmp .eq off, 3)) (ht : (pc : Int) + off = (tgt : Int)) (kt : x = y → J F d kc ks tgt L st M Q) (kf : ¬ x = y → J F d kc ks (pc + 3) L st M Q) : J F d kc ks pc L (.int y :: .int x :: st) M Q := by
  intro ρ D dA A g0 p l e R s m args below meth c X H locs cells slots ls hW hA hc hs hl
  exact lv_icmp_eq X.1 X.2.1 hdg ht (fun h => kt h ρ D dA A g0 p l e R s m args below meth c X H locs cells slots ls hW hA hc hs hl) (fun h => kf h ρ D dA A g0 p l e R s m args below meth c X H locs cells slots ls hW hA hc hs hl)
theorem j_if_ne {x : Int32} {off : Int} {tgt : Nat} (hdg : decode F.2.1 pc = .ok (.ifCond .ne off, 3)) (ht : (pc : Int) + off = (tgt : Int)) (kt : ¬ x = 0 → J F d kc ks tgt L st M Q) (kf : x = 0 → J F d kc ks (pc + 3) L st M Q) : J F d kc ks pc L (.int x :: st) M Q := by
  intro ρ D dA A g0 p l e R s m args below meth c X H locs cells slots ls hW hA hc hs hl
  exact lv_if_ne X.1 X.2.1 hdg ht (fun h => kt h ρ D dA A g0 p l e R s m args below meth c X H locs cells slots ls hW hA hc hs hl) (fun h => kf h ρ D dA A g0 p l e R s m args below meth c X H locs cells slots ls hW hA hc hs hl)
theorem j_icmp_ne {x y : Int32} {off : Int} {tgt : Nat} (hdg : decode F.2.1 pc = .ok (.if_icmp .ne off, 3)) (ht : (pc : Int) + off = (tgt : Int)) (kt : ¬ x = y → J F d kc ks tgt L st M Q) (kf : x = y → J F d kc ks (pc + 3) L st M Q) : J F d kc ks pc L (.int y :: .int x :: st) M Q := by
  intro ρ D dA A g0 p l e R s m args below meth c X H locs cells slots ls hW hA hc hs hl
  exact lv_icmp_ne X.1 X.2.1 hdg ht (fun h => kt h ρ D dA A g0 p l e R s m args below meth c X H locs cells slots ls hW hA hc hs hl) (fun h => kf h ρ D dA A g0 p l e R s m args below meth c X H locs cells slots ls hW hA hc hs hl)
theorem j_if_lt {x : Int32} {off : Int} {tgt : Nat} (hdg : decode F.2.1 pc = .ok (.ifCond .lt off, 3)) (ht : (pc : Int) + off = (tgt : Int)) (kt : x < 0 → J F d kc ks tgt L st M Q) (kf : ¬ x < 0 → J F d kc ks (pc + 3) L st M Q) : J F d kc ks pc L (.int x :: st) M Q := by
  intro ρ D dA A g0 p l e R s m args below meth c X H locs cells slots ls hW hA hc hs hl
  exact lv_if_lt X.1 X.2.1 hdg ht (fun h => kt h ρ D dA A g0 p l e R s m args below meth c X H locs cells slots ls hW hA hc hs hl) (fun h => kf h ρ D dA A g0 p l e R s m args below meth c X H locs cells slots ls hW hA hc hs hl)
theorem j_icmp_lt {x y : Int32} {off : Int} {tgt : Nat} (hdg : decode F.2.1 pc = .ok (.if_icmp .lt off, 3)) (ht : (pc : Int) + off = (tgt : Int)) (kt : x < y → J F d kc ks tgt L st M Q) (kf : ¬ x < y → J F d kc ks (pc + 3) L st M Q) : J F d kc ks pc L (.int y :: .int x :: st) M Q := by
  intro ρ D dA A g0 p l e R s m args below meth c X H locs cells slots ls hW hA hc hs hl
  exact lv_icmp_lt X.1 X.2.1 hdg ht (fun h => kt h ρ D dA A g0 p l e R s m args below meth c X H locs cells slots ls hW hA hc hs hl) (fun h => kf h ρ D dA A g0 p l e R s m args below meth c X H locs cells slots ls hW hA hc hs hl)
theorem j_if_ge {x : Int32} {off : Int} {tgt : Nat} (hdg : decode F.2.1 pc = .ok (.ifCond .ge off, 3)) (ht : (pc : Int) + off = (tgt : Int)) (kt : 0 ≤ x → J F d kc ks tgt L st M Q) (kf : ¬ 0 ≤ x → J F d kc ks (pc + 3) L st M Q) : J F d kc ks pc L (.int x :: st) M Q := by
  intro ρ D dA A g0 p l e R s m args below meth c X H locs cells slots ls hW hA hc hs hl
  exact lv_if_ge X.1 X.2.1 hdg ht (fun h => kt h ρ D dA A g0 p l e R s m args below meth c X H locs cells slots ls hW hA hc hs hl) (fun h => kf h ρ D dA A g0 p l e R s m args below meth c X H locs cells slots ls hW hA hc hs hl)
theorem j_icmp_ge {x y : Int32} {off : Int} {tgt : Nat} (hdg : decode F.2.1 pc = .ok (.if_icmp .ge off, 3)) (ht : (pc : Int) + off = (tgt : Int)) (kt : y ≤ x → J F d kc ks tgt L st M Q) (kf : ¬ y ≤ x → J F d kc ks (pc + 3) L st M Q) : J F d kc ks pc L (.int y :: .int x :: st) M Q := by
  intro ρ D dA A g0 p l e R s m args below meth c X H locs cells slots ls hW hA hc hs hl
  exact lv_icmp_ge X.1 X.2.1 hdg ht (fun h => kt h ρ D dA A g0 p l e R s m args below meth c X H locs cells slots ls hW hA hc hs hl) (fun h => kf h ρ D dA A g0 p l e R s m args below meth c X H locs cells slots ls hW hA hc hs hl)
theorem j_if_gt {x : Int32} {off : Int} {tgt : Nat} (hdg : decode F.2.1 pc = .ok (.ifCond .gt off, 3)) (ht : (pc : Int) + off = (tgt : Int)) (kt : 0 < x → J F d kc ks tgt L st M Q) (kf : ¬ 0 < x → J F d kc ks (pc + 3) L st M Q) : J F d kc ks pc L (.int x :: st) M Q := by
  intro ρ D dA A g0 p l e R s m args below meth c X H locs cells slots ls hW hA hc hs hl
  exact lv_if_gt X.1 X.2.1 hdg ht (fun h => kt h ρ D dA A g0 p l e R s m args below meth c X H locs cells slots ls hW hA hc hs hl) (fun h => kf h ρ D dA A g0 p l e R s m args below meth c X H locs cells slots ls hW hA hc hs hl)
theorem j_icmp_gt {x y : Int32} {off : Int} {tgt : Nat} (hdg : decode F.2.1 pc = .ok (.if_icmp .gt off, 3)) (ht : (pc : Int) + off = (tgt : Int)) (kt : y < x → J F d kc ks tgt L st M Q) (kf : ¬ y < x → J F d kc ks (pc + 3) L st M Q) : J F d kc ks pc L (.int y :: .int x :: st) M Q := by
  intro ρ D dA A g0 p l e R s m args below meth c X H locs cells slots ls hW hA hc hs hl
  exact lv_icmp_gt X.1 X.2.1 hdg ht (fun h => kt h ρ D dA A g0 p l e R s m args below meth c X H locs cells slots ls hW hA hc hs hl) (fun h => kf h ρ D dA A g0 p l e R s m args below meth c X H locs cells slots ls hW hA hc hs hl)
theorem j_if_le {x : Int32} {off : Int} {tgt : Nat} (hdg : decode F.2.1 pc = .ok (.ifCond .le off, 3)) (ht : (pc : Int) + off = (tgt : Int)) (kt : x ≤ 0 → J F d kc ks tgt L st M Q) (kf : ¬ x ≤ 0 → J F d kc ks (pc + 3) L st M Q) : J F d kc ks pc L (.int x :: st) M Q := by
  intro ρ D dA A g0 p l e R s m args below meth c X H locs cells slots ls hW hA hc hs hl
  exact lv_if_le X.1 X.2.1 hdg ht (fun h => kt h ρ D dA A g0 p l e R s m args below meth c X H locs cells slots ls hW hA hc hs hl) (fun h => kf h ρ D dA A g0 p l e R s m args below meth c X H locs cells slots ls hW hA hc hs hl)
theorem j_icmp_le {x y : Int32} {off : Int} {tgt : Nat} (hdg : decode F.2.1 pc = .ok (.if_icmp .le off, 3)) (ht : (pc : Int) + off = (tgt : Int)) (kt : x ≤ y → J F d kc ks tgt L st M Q) (kf : ¬ x ≤ y → J F d kc ks (pc + 3) L st M Q) : J F d kc ks pc L (.int y :: .int x :: st) M Q := by
  intro ρ D dA A g0 p l e R s m args below meth c X H locs cells slots ls hW hA hc hs hl
  exact lv_icmp_le X.1 X.2.1 hdg ht (fun h => kt h ρ D dA A g0 p l e R s m args below meth c X H locs cells slots ls hW hA hc hs hl) (fun h => kf h ρ D dA A g0 p l e R s m args below meth c X H locs cells slots ls hW hA hc hs hl)
theorem j_goto {off : Int} {tgt : Nat} (hdg : decode F.2.1 pc = .ok (.goto off, 3)) (ht : (pc : Int) + off = (tgt : Int)) (kk : J F d kc ks tgt L st M Q) : J F d kc ks pc L st M Q := by
  intro ρ D dA A g0 p l e R s m args below meth c X H locs cells slots ls hW hA hc hs hl
  exact lv_goto X.1 X.2.1 hdg ht (kk ρ D dA A g0 p l e R s m args below meth c X H locs cells slots ls hW hA hc hs hl)
theorem j_ifnonnull {x : Nat} {off : Int} {tgt : Nat} (hdg : decode F.2.1 pc = .ok (.ifnonnull off, 3)) (ht : (pc : Int) + off = (tgt : Int)) (kk : J F d kc ks tgt L st M Q) : J F d kc ks pc L (.ref x :: st) M Q := by
  intro ρ D dA A g0 p l e R s m args below meth c X H locs cells slots ls hW hA hc hs hl
  exact lv_ifnonnull X.1 X.2.1 hdg ht (kk ρ D dA A g0 p l e R s m args below meth c X H locs cells slots ls hW hA hc hs hl)
theorem j_ifnull {x : Nat} {off : Int} (hdg : decode F.2.1 pc = .ok (.ifnull off, 3)) (kk : J F d kc ks (pc + 3) L st M Q) : J F d kc ks pc L (.ref x :: st) M Q := by
  intro ρ D dA A g0 p l e R s m args below meth c X H locs cells slots ls hW hA hc hs hl
  exact lv_ifnull X.1 X.2.1 hdg (kk ρ D dA A g0 p l e R s m args below meth c X H locs cells slots ls hW hA hc hs hl)
theorem j_ifnullN {off : Int} {tgt : Nat} (hdg : decode F.2.1 pc = .ok (.ifnull off, 3)) (ht : (pc : Int) + off = (tgt : Int)) (kk : J F d kc ks tgt L st M Q) : J F d kc ks pc L (.null :: st) M Q := by
  intro ρ D dA A g0 p l e R s m args below meth c X H locs cells slots ls hW hA hc hs hl
  exact lv_ifnullN X.1 X.2.1 hdg ht (kk ρ D dA A g0 p l e R s m args below meth c X H locs cells slots ls hW hA hc hs hl)
theorem j_ifnonnullN {off : Int} (hdg : decode F.2.1 pc = .ok (.ifnonnull off, 3)) (kk : J F d kc ks (pc + 3) L st M Q) : J F d kc ks pc L (.null :: st) M Q := by
  intro ρ D dA A g0 p l e R s m args below meth c X H locs cells slots ls hW hA hc hs hl
  exact lv_ifnonnullN X.1 X.2.1 hdg (kk ρ D dA A g0 p l e R s m args below meth c X H locs cells slots ls hW hA hc hs hl)
theorem j_tableOut {dflt lo hi : Int} {offs : Array Int} {len : Nat} {x : Int32} {tgt : Nat} (hdg : decode F.2.1 pc = .ok (.tableswitch dflt lo hi offs, len)) (h : x.toInt < lo ∨ hi < x.toInt) (ht : (pc : Int) + dflt = (tgt : Int)) (kk : J F d kc ks tgt L st M Q) : J F d kc ks pc L (.int x :: st) M Q := by
  intro ρ D dA A g0 p l e R s m args below meth c X H locs cells slots ls hW hA hc hs hl
  exact lv_tableOut X.1 X.2.1 hdg h ht (kk ρ D dA A g0 p l e R s m args below meth c X H locs cells slots ls hW hA hc hs hl)
theorem j_tableIn {dflt lo hi : Int} {offs : Array Int} {len : Nat} {x : Int32} {off : Int} {tgt : Nat} (hdg : decode F.2.1 pc = .ok (.tableswitch dflt lo hi offs, len)) (h1 : ¬ x.toInt < lo) (h2 : ¬ hi < x.toInt) (ho : offs[(x.toInt - lo).toNat]? = some off) (ht : (pc : Int) + off = (tgt : Int)) (kk : J F d kc ks tgt L st M Q) : J F d kc ks pc L (.int x :: st) M Q := by
  intro ρ D dA A g0 p l e R s m args below meth c X H locs cells slots ls hW hA hc hs hl
  exact lv_tableIn X.1 X.2.1 hdg h1 h2 ho ht (kk ρ D dA A g0 p l e R s m args below meth c X H locs cells slots ls hW hA hc hs hl)
theorem j_lookup {dflt : Int} {ps : Array (Int × Int)} {len : Nat} {x : Int32} {off : Int} {tgt : Nat} (hdg : decode F.2.1 pc = .ok (.lookupswitch dflt ps, len)) (hp : (ps.toList.zip (ps.toList.drop 1)).all (fun (a, next) => a.1 < next.1) = true) (ho : Op.lookupswitch.offset ps.toList dflt x.toInt = off) (ht : (pc : Int) + off = (tgt : Int)) (kk : J F d kc ks tgt L st M Q) : J F d kc ks pc L (.int x :: st) M Q := by
  intro ρ D dA A g0 p l e R s m args below meth c X H locs cells slots ls hW hA hc hs hl
  exact lv_lookup X.1 X.2.1 hdg hp ho ht (kk ρ D dA A g0 p l e R s m args below meth c X H locs cells slots ls hW hA hc hs hl)
theorem j_ldc {idx : Nat} {v : Int32} (hdg : decode F.2.1 pc = .ok (.ldc idx, 2)) (hk : Cond.constant F.1 idx v ∈ jk_gt) (kk : J F d kc ks (pc + 2) L (.int v :: st) M Q) : J F d kc ks pc L st M Q := by
  intro ρ D dA A g0 p l e R s m args below meth c X H locs cells slots ls hW hA hc hs hl
  exact lv_ldc X.1 X.2.1 X.2.2.2.2.2.1 (X.2.2.2.2.2.2.2.1 _ hk) hdg (kk ρ D dA A g0 p l e R s m args below meth c X H locs cells slots ls hW hA hc hs hl)
theorem j_ldcw {idx : Nat} {v : Int32} (hdg : decode F.2.1 pc = .ok (.ldc_w idx, 3)) (hk : Cond.constant F.1 idx v ∈ jk_gt) (kk : J F d kc ks (pc + 3) L (.int v :: st) M Q) : J F d kc ks pc L st M Q := by
  intro ρ D dA A g0 p l e R s m args below meth c X H locs cells slots ls hW hA hc hs hl
  exact lv_ldcw X.1 X.2.1 X.2.2.2.2.2.1 (X.2.2.2.2.2.2.2.1 _ hk) hdg (kk ρ D dA A g0 p l e R s m args below meth c X H locs cells slots ls hW hA hc hs hl)
theorem j_ldc2 {idx : Nat} {v : Int64} (hdg : decode F.2.1 pc = .ok (.ldc2_w idx, 3)) (hk : Cond.constantLong F.1 idx v ∈ jk_gt) (kk : J F d kc ks (pc + 3) L (.long v :: st) M Q) : J F d kc ks pc L st M Q := by
  intro ρ D dA A g0 p l e R s m args below meth c X H locs cells slots ls hW hA hc hs hl
  exact lv_ldc2 X.1 X.2.1 X.2.2.2.2.2.1 (X.2.2.2.2.2.2.2.1 _ hk) hdg (kk ρ D dA A g0 p l e R s m args below meth c X H locs cells slots ls hW hA hc hs hl)
theorem j_sub {L' : List (Nat × Value)} (hL : jk_sub L L') (kk : J F d kc ks pc L' st M Q) : J F d kc ks pc L st M Q := by
  intro ρ D dA A g0 p l e R s m args below meth c X H locs cells slots ls hW hA hc hs hl
  exact kk ρ D dA A g0 p l e R s m args below meth c X H locs cells slots ls hW hA hc hs (jk_lsub hl hL)
theorem j_conseq {Q' : Option Value → jk_M → Prop} (kk : J F d kc ks pc L st M Q') (h : ∀ r M', Q' r M' → Q r M') : J F d kc ks pc L st M Q := by
  intro ρ D dA A g0 p l e R s m args below meth c X H locs cells slots ls hW hA hc hs hl
  intro T hT Y
  obtain ⟨t, a1, o, b1, b2, ⟨⟨r, M', c1, c2, c3⟩, c4⟩, b4⟩ := kk ρ D dA A g0 p l e R s m args below meth c X H locs cells slots ls hW hA hc hs hl T hT Y
  exact ⟨t, a1, o, b1, b2, ⟨⟨r, M', c1, h r M' c2, c3⟩, c4⟩, b4⟩
theorem j_iret {x : Int32} (hdg : decode F.2.1 pc = .ok (.ireturn, 1)) (hr : F.2.2.2.1 = some .int) (hq : Q (some (.int x)) M) : J F d kc ks pc L [.int x] M Q := by
  intro ρ D dA A g0 p l e R s m args below meth c X H locs cells slots ls hW hA hc hs hl
  refine W.widen (k := R.cells) (n := R.slots) (by omega) (by omega) ?_
  exact W.iret X.1 X.2.1 (X.2.2.2.1.trans hr) (fun t ht hWm => ⟨⟨(some (.int x)), M, rfl, hq, by rw [ht]; exact hW.1, hW.2.1, fun hi => by rw [ht]; exact (hA hi).1⟩, hW.2.2.2.1.F ht⟩) hW.2.2.2.1.2.2 hdg X.2.2.2.2.1
theorem j_zret {x : Int32} {ty : FieldType} (hdg : decode F.2.1 pc = .ok (.ireturn, 1)) (hr : F.2.2.2.1 = some ty) (hn : narrow ty (.int x) = .int x) (hq : Q (some (.int x)) M) : J F d kc ks pc L [.int x] M Q := by
  intro ρ D dA A g0 p l e R s m args below meth c X H locs cells slots ls hW hA hc hs hl
  refine W.widen (k := R.cells) (n := R.slots) (by omega) (by omega) ?_
  exact W.zret X.1 X.2.1 (X.2.2.2.1.trans hr) hn (fun t ht hWm => ⟨⟨(some (.int x)), M, rfl, hq, by rw [ht]; exact hW.1, hW.2.1, fun hi => by rw [ht]; exact (hA hi).1⟩, hW.2.2.2.1.F ht⟩) hW.2.2.2.1.2.2 hdg X.2.2.2.2.1
theorem j_lret {x : Int64} (hdg : decode F.2.1 pc = .ok (.lreturn, 1)) (hr : F.2.2.2.1 = some .long) (hq : Q (some (.long x)) M) : J F d kc ks pc L [.long x] M Q := by
  intro ρ D dA A g0 p l e R s m args below meth c X H locs cells slots ls hW hA hc hs hl
  refine W.widen (k := R.cells) (n := R.slots) (by omega) (by omega) ?_
  exact W.lret X.1 X.2.1 (X.2.2.2.1.trans hr) (fun t ht hWm => ⟨⟨(some (.long x)), M, rfl, hq, by rw [ht]; exact hW.1, hW.2.1, fun hi => by rw [ht]; exact (hA hi).1⟩, hW.2.2.2.1.F ht⟩) hW.2.2.2.1.2.2 hdg X.2.2.2.2.1
theorem j_vret (hdg : decode F.2.1 pc = .ok (.return_, 1)) (hr : F.2.2.2.1 = none) (hq : Q none M) : J F d kc ks pc L [] M Q := by
  intro ρ D dA A g0 p l e R s m args below meth c X H locs cells slots ls hW hA hc hs hl
  refine W.widen (k := R.cells) (n := R.slots) (by omega) (by omega) ?_
  exact W.vret X.1 X.2.1 (X.2.2.2.1.trans hr) (fun t ht hWm => ⟨⟨none, M, rfl, hq, by rw [ht]; exact hW.1, hW.2.1, fun hi => by rw [ht]; exact (hA hi).1⟩, hW.2.2.2.1.F ht⟩) hW.2.2.2.1.2.2 hdg X.2.2.2.2.1
end JR
