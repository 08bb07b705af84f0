/-! doors -/
noncomputable def dorL (S : HS) : Nat → List Nat
  | 0 => []
  | n + 1 => @ite _ ((dorL S n).length < 8 ∧ oneK (S 10 n) 2) (Classical.propDecidable _) (dorL S n ++ [n]) (dorL S n)
theorem dorL_t {S : HS} {n : Nat} (h : (dorL S n).length < 8) (h2 : oneK (S 10 n) 2) : dorL S (n + 1) = dorL S n ++ [n] := @if_pos _ (Classical.propDecidable _) ⟨h, h2⟩ _ _ _
theorem dorL_f {S : HS} {n : Nat} (h : ¬ (dorL S n).length < 8 ∨ ¬ oneK (S 10 n) 2) : dorL S (n + 1) = dorL S n := @if_neg _ (Classical.propDecidable _) (fun z => h.elim (fun w => w z.1) (fun w => w z.2)) _ _ _
theorem dorL_8 {S : HS} : ∀ n, (dorL S n).length ≤ 8
  | 0 => Nat.zero_le _
  | n + 1 => by
    by_cases h : (dorL S n).length < 8 ∧ oneK (S 10 n) 2
    · rw [dorL_t h.1 h.2, List.length_append]; simp; omega
    · rw [dorL_f (by by_cases a : (dorL S n).length < 8; exact Or.inr (fun b => h ⟨a, b⟩); exact Or.inl a)]; exact dorL_8 n
theorem dorL_mem {S : HS} : ∀ n, ∀ q ∈ dorL S n, q < n
  | 0 => fun q h => by cases h
  | n + 1 => fun q h => by
    by_cases h1 : (dorL S n).length < 8 ∧ oneK (S 10 n) 2
    · rw [dorL_t h1.1 h1.2] at h
      rcases List.mem_append.mp h with h | h
      · have := dorL_mem n q h; omega
      · have e : q = n := by simpa using h
        omega
    · rw [dorL_f (by by_cases a : (dorL S n).length < 8; exact Or.inr (fun b => h1 ⟨a, b⟩); exact Or.inl a)] at h
      have := dorL_mem n q h; omega
theorem dorL_stop {S : HS} {i : Nat} (h : 8 ≤ (dorL S i).length) : ∀ k, dorL S (i + k) = dorL S i
  | 0 => rfl
  | k + 1 => (dorL_f (n := i + k) (Or.inl (by rw [dorL_stop h k]; omega))).trans (dorL_stop h k)
def DoW (M : jk_M) (l : List Nat) : Prop := ∀ i, i < l.length → M.2.1 89 i = nI (l.getD i 0)
theorem DoW.app {M : jk_M} {l : List Nat} {x : Nat} (h : DoW M l) : DoW (jk_wI M 89 l.length (nI x)) (l ++ [x]) := by
  intro i hi
  have hi2 : i < l.length + 1 := by simpa using hi
  by_cases e : i = l.length
  · subst e; rw [rd_s]; simp [List.getD]
  · rw [rd_k e, h i (by omega)]
    simp only [List.getD]
    rw [List.getElem?_append_left (by omega)]
def P89 (q : Nat) : Prop := q = 89
theorem P89H : ∀ q, HO 55 q → ¬ P89 q := fun q h e => by have := HO55 h; have e : q = 89 := e; omega
theorem P89A : ∀ q, AO 90 q → ¬ P89 q := fun q h e => by have := AO90 h; have e : q = 89 := e; omega
theorem P89B : ∀ q, P89 q → PB q := fun q e => Or.inr (Or.inr e)
theorem HO89 : ¬ HO 55 89 := fun e => by have := HO55 e; omega
theorem AO89 : ¬ AO 90 89 := fun e => by have := AO90 e; omega
theorem PR89 : ¬ PR 90 89 := fun e => AO89 (PR90 _ e)
theorem getD_mem {l : List Nat} {i : Nat} (h : i < l.length) : l.getD i 0 ∈ l := by
  simp [List.getD, List.getElem?_eq_getElem h]
/-- a door's bit -/
def bitI (bits j : Nat) : Int32 := if (nI bits >>> (nI j &&& 31)) &&& 1 = 1 then 1 else 0
def setD (S : HS) (l : List Nat) (bits : Nat) : Nat → HS
  | 0 => S
  | j + 1 => upS (setD S l bits j) 13 (l.getD j 0) (bitI bits j)
theorem bitI_01 (bits j : Nat) : bitI bits j = 0 ∨ bitI bits j = 1 := by
  unfold bitI
  split
  · exact Or.inr rfl
  · exact Or.inl rfl
theorem setD_ok {S : HS} (ok : Sok S) (l : List Nat) (bits : Nat) : ∀ j, Sok (setD S l bits j)
  | 0 => ok
  | j + 1 => (setD_ok ok l bits j).u13 (bitI_01 bits j)
/-- but for the doors, as it was -/
def EqD (S : HS) (l : List Nat) (T : HS) : Prop := ∀ b i, T b i = S b i ∨ (b = 13 ∧ ∃ q, q < l.length ∧ l.getD q 0 = i)
theorem EqD.n {S T : HS} {l : List Nat} (h : EqD S l T) {b i : Nat} (hb : b ≠ 13) : T b i = S b i := (h b i).resolve_right (fun z => hb z.1)
theorem setD_chain {S T : HS} {l : List Nat} {bits : Nat} : ∀ j b i, (T b i = S b i ∨ (b = 13 ∧ ∃ q, q < j ∧ l.getD q 0 = i)) → setD T l bits j b i = setD S l bits j b i
  | 0, b, i, h => h.resolve_right (fun z => by obtain ⟨-, q, hq, -⟩ := z; omega)
  | j + 1, b, i, h => by
    by_cases e : b = 13 ∧ i = l.getD j 0
    · simp only [setD, upS, e, and_self, if_true]
    · simp only [setD, upS, e, if_false]
      refine setD_chain j b i (h.imp id (fun z => ⟨z.1, ?_⟩))
      obtain ⟨z1, q, hq, hv⟩ := z
      refine ⟨q, ?_, hv⟩
      rcases Nat.lt_succ_iff_lt_or_eq.mp hq with hq | hq
      · exact hq
      · subst hq; exact absurd ⟨z1, hv.symm⟩ e
theorem setD_eq {S T : HS} {l : List Nat} {bits : Nat} (h : EqD S l T) : setD T l bits l.length = setD S l bits l.length := by
  funext b i
  exact setD_chain l.length b i (h b i)
theorem setD_E {S : HS} {l : List Nat} {bits : Nat} : ∀ j, j ≤ l.length → EqD S l (setD S l bits j)
  | 0, _ => fun b i => Or.inl rfl
  | j + 1, hj => fun b i => by
    by_cases e : b = 13 ∧ i = l.getD j 0
    · exact Or.inr ⟨e.1, j, by omega, e.2.symm⟩
    · have := setD_E (S := S) (l := l) (bits := bits) j (by omega) b i
      simp only [setD, upS, e, if_false]
      exact this
theorem setD_n {T : HS} {l : List Nat} {bits : Nat} {k : Nat} {b : Nat} (hb : b ≠ 13) : ∀ j, setD T l bits j b k = T b k
  | 0 => rfl
  | j + 1 => by
    rw [setD, upS_n (by omega)]
    exact setD_n hb j
theorem worth_E {S T : HS} {l : List Nat} (h : EqD S l T) : worthS T = worthS S := by
  have h9 : nD T = nD S := by simp only [nD]; rw [h.n (by omega)]
  unfold worthS
  rw [h9]
  exact sm_congr (fun j hj => h.n (by omega))
noncomputable def dorF (S : HS) (l : List Nat) (bits : Nat) : Int32 := servS (setD S l bits l.length)
theorem dor_le {S : HS} (ok : Sok S) (l : List Nat) (bits : Nat) : dorF S l bits ≤ worthS S := by
  have h := (servS_le (setD_ok ok l bits l.length)).2
  rw [worth_E (setD_E l.length (Nat.le_refl _))] at h
  exact h
noncomputable def dorR (S : HS) : Int32 := (fmx (fun _ => True) (dorF S (dorL S (nT S))) nI 0 (-1) (2 ^ (dorL S (nT S)).length)).1
/-- what the loops over doors keep of the air -/
def HD (S : HS) (M : jk_M) : Prop := HumOK 90 S M ∧ M.2.1 90 6 = dinS S (S 2 0)
theorem HD.of {S T : HS} {l : List Nat} {M : jk_M} (hE : EqD S l T) (h : AirOK 90 T M) : HD S M := by
  have hT : nT T = nT S := by simp only [nT]; rw [hE.n (by omega)]
  have hN : nN T = nN S := by simp only [nN]; rw [hE.n (by omega)]
  refine ⟨fun c hc => ?_, ?_⟩
  · rw [← hum_eq (T := T) hT (fun b i h1 h2 => hE.n (by omega)) (hE.n (by omega))]; exact h.2.1 c hc
  · rw [h.2.2, hE.n (by omega)]; exact din_eq hN (fun b i h1 h2 => hE.n (by omega))
theorem HD.air {S T : HS} {l : List Nat} {M M1 : jk_M} (hE : EqD S l T) (h : HD S M) (hl : LossOK 90 T M1) (e4 : M1.2.1 (90 + 4) = M.2.1 (90 + 4)) (e0 : M1.2.1 90 = M.2.1 90) : AirOK 90 T M1 := by
  have hT : nT T = nT S := by simp only [nT]; rw [hE.n (by omega)]
  have hN : nN T = nN S := by simp only [nN]; rw [hE.n (by omega)]
  refine ⟨hl, fun c hc => ?_, ?_⟩
  · rw [e4, hum_eq (T := T) hT (fun b i h1 h2 => hE.n (by omega)) (hE.n (by omega))]; exact h.1 c hc
  · rw [e0, h.2, hE.n (by omega)]; exact (din_eq hN (fun b i h1 h2 => hE.n (by omega))).symm
theorem HD.sm {P : Nat → Prop} {S : HS} {M M1 : jk_M} (h : HD S M) (s : Sm P M M1) (hp : ∀ q, AO 90 q → ¬ P q) : HD S M1 := by
  have e : ∀ k, k ≤ 5 → M1.2.1 (90 + k) = M.2.1 (90 + k) := fun k hk => s.2.2 _ (hp _ (AO0 hk))
  exact ⟨fun c hc => by rw [e 4 (by decide)]; exact h.1 c hc, by rw [e 0 (by decide)]; exact h.2⟩
theorem shl8 {n : Nat} (h : n ≤ 8) : (1 : Int32) <<< (nI n &&& 31) = nI (2 ^ n) ∧ 2 ^ n ≤ 256 := by
  have : n = 0 ∨ n = 1 ∨ n = 2 ∨ n = 3 ∨ n = 4 ∨ n = 5 ∨ n = 6 ∨ n = 7 ∨ n = 8 := by omega
  rcases this with rfl | rfl | rfl | rfl | rfl | rfl | rfl | rfl | rfl <;> exact ⟨by decide, by decide⟩
theorem hv_dor {M : jk_M} {S : HS} {l : List Nat} {bits j i : Nat} {x : Int32} (hS : hv M.2.1 55 = setD S l bits j) (ok : Sok S) (hi : i < nT S) (ei : i = l.getD j 0) (hx : x = bitI bits j) : hv (jk_wI M (55 + 5 + i) 3 x).2.1 55 = setD S l bits (j + 1) := by
  have h := hv_th (k := 3) (x := x) hS (setD_ok ok l bits j) (j := i) (by
    have e : nT (setD S l bits j) = nT S := by simp only [nT]; rw [setD_n (by omega)]
    omega) (by decide)
  refine h.trans ?_
  rw [hx, ei]
  rfl
set_option maxRecDepth 20000 in
set_option maxHeartbeats 4000000 in
theorem T_X3_findDoors {d : Nat} {M : jk_M} {S : HS} (hC : WC M) (hd : hv M.2.1 55 = S) (ok : Sok S) : J Fr_X3_findDoors (d + 2) 0 0 0 [(0, .ref 88)] [] M (jk_ex (some (.int (nI (dorL S (nT S)).length))) (fun M1 => Sm P89 M M1 ∧ DoW M1 (dorL S (nT S)))) := by
  refine j_post (fun Q hQ => ?_)
  have hT := (Sok.T ok).2
  refine j_iconst 0 dX3_findDoors_0 ic_0 ?_
  refine j_istore_n (L' := [(1, .int 0), (0, .ref 88)]) dX3_findDoors_1 (by decide) rfl ?_
  refine j_iconst 0 dX3_findDoors_2 ic_0 ?_
  refine j_istore_n (L' := [(2, .int 0), (1, .int 0), (0, .ref 88)]) dX3_findDoors_3 (by decide) rfl ?_
  refine j_L (congrArg (fun z : Int32 => ([(2, .int 0), (1, .int z), (0, .ref 88)] : List (Nat × Value))) (show (0 : Int32) = nI (dorL S 0).length from rfl)) ?_
  have lp3 : ∀ (k1 : Nat) (i : Nat) (M1 : jk_M), nT S - i < k1 → (i ≤ nT S) → ((dorL S i).length ≤ 8) → (Sm P89 M M1) → (DoW M1 (dorL S i)) → J Fr_X3_findDoors (d + 2) 0 0 4 [(0, .ref 88), (1, .int (nI (dorL S i).length)), (2, .int (nI i))] [] M1 Q := by
    intro k1
    induction k1 with
    | zero => intro i M1 hk; exact absurd hk (Nat.not_lt_zero _)
    | succ k1 ih2 =>
      intro i M1 hk1 hi hl0 hs1 hw1
      refine j_iload_n 2 dX3_findDoors_4 rfl ?_
      refine j_aload_n 0 dX3_findDoors_5 rfl ?_
      refine j_getr (q := 55) dX3_findDoors_6 fX3_23 (shC (Sm.C hs1 hC) sgC_88) rfl (rfC (Sm.C hs1 hC) rfC_88_1 (nz (by decide))) ?_
      refine j_getv (nI (nT S)) dX3_findDoors_9 fX3_68 (shC (Sm.C hs1 hC) (sgH (by simp [isH]))) rfl ((hvs (Sm.hv hs1 hd ok P89H) (by decide)).trans (Sok.T ok).1) ?_
      refine j_icmp_geN (tgt := 61) i (nT S) dX3_findDoors_12 rfl (by omega) (by omega) (fun c4 => ?_) (fun c4 => ?_)
      · refine j_iload_n 1 dX3_findDoors_61 rfl ?_
        refine j_iret dX3_findDoors_62 rfl ?_
        have e : i = nT S := by omega
        subst e
        exact hQ _ _ ⟨rfl, hs1, hw1⟩
      · refine j_iload_n 1 dX3_findDoors_15 rfl ?_
        refine j_aload_n 0 dX3_findDoors_16 rfl ?_
        refine j_getr (q := 89) dX3_findDoors_17 fX3_9 (shC (Sm.C hs1 hC) sgC_88) rfl (rfC (Sm.C hs1 hC) rfC_88_3 (nz (by decide))) ?_
        refine j_alen dX3_findDoors_20 (shC (Sm.C hs1 hC) sgC_89) (by decide) ?_
        refine j_icmp_geN (tgt := 61) ((dorL S i).length) 8 dX3_findDoors_21 rfl (by omega) (by omega) (fun c5 => ?_) (fun c5 => ?_)
        · refine j_iload_n 1 dX3_findDoors_61 rfl ?_
          refine j_iret dX3_findDoors_62 rfl ?_
          have e := dorL_stop (S := S) (i := i) c5 (nT S - i)
          rw [show i + (nT S - i) = nT S by omega] at e
          exact hQ _ _ ⟨by rw [e], hs1, by rw [e]; exact hw1⟩
        · have hl8 := dorL_8 (S := S) i
          refine j_aload_n 0 dX3_findDoors_24 rfl ?_
          refine j_getr (q := 55) dX3_findDoors_25 fX3_23 (shC (Sm.C hs1 hC) sgC_88) rfl (rfC (Sm.C hs1 hC) rfC_88_1 (nz (by decide))) ?_
          refine j_iload_n 2 dX3_findDoors_28 rfl ?_
          refine j_callV (kc := 0) (ks := 0) (a := 0) (b := 0) (d' := d) (As := [.int (nI i)]) dX3_findDoors_29 kX3_71 rfl (shC (Sm.C hs1 hC) (sgH (by simp [isH]))) (by omega) rfl rfl rfl (Nat.le_of_ble_eq_true rfl) (Nat.le_of_ble_eq_true rfl) (T_X2_thingAt (Sm.C hs1 hC) (by simp [isH]) (Sm.hv hs1 hd ok P89H) ok i (by omega)) (kk_p ?_)
          refine j_astore_n (L' := [(3, .ref (55 + 5 + i)), (0, .ref 88), (1, .int (nI (dorL S i).length)), (2, .int (nI i))]) dX3_findDoors_32 (by decide) rfl ?_
          refine j_aload_n 0 dX3_findDoors_33 rfl ?_
          refine j_ifnull dX3_findDoors_34 ?_
          refine j_aload_n 0 dX3_findDoors_37 rfl ?_
          refine j_iconst 2 dX3_findDoors_38 ic_2 ?_
          refine j_callV (kc := 0) (ks := 0) (a := 0) (b := 0) (d' := (d + 1)) (As := [.int 2]) dX3_findDoors_39 kX3_99 rfl (shC (Sm.C hs1 hC) (sgHT (by simp [isH]) (by have := (Sok.T ok).2; omega))) (by omega) rfl rfl rfl (Nat.le_of_ble_eq_true rfl) (Nat.le_of_ble_eq_true rfl) (T_X9_isOne (Sm.C hs1 hC) (sgHT (by simp [isH]) (by have := (Sok.T ok).2; omega)) (hvT (Sm.hv hs1 hd ok P89H) (by omega) (k := 0) (by decide)) (hvT (Sm.hv hs1 hd ok P89H) (by omega) (k := 1) (by decide)) (hvT (Sm.hv hs1 hd ok P89H) (by omega) (k := 3) (by decide)) 2) (kk_p ?_)
          refine j_if_eqB (p := (oneK (S 10 i) 2)) (tgt := 55) dX3_findDoors_42 rfl (fun c6 => ?_) (fun c6 => ?_)
          · refine j_iinc 3 (nI (i + 1)) (L' := [(2, .int (nI (i + 1))), (3, .ref (55 + 5 + i)), (0, .ref 88), (1, .int (nI (dorL S i).length))]) dX3_findDoors_55 rfl (inc1 i) (by decide) rfl ?_
            refine j_goto (tgt := 4) dX3_findDoors_58 rfl ?_
            have hb0 : dorL S (i + 1) = dorL S i := dorL_f (Or.inr c6)
            have h1 : nI (dorL S i).length = nI (dorL S (i + 1)).length := by rw [hb0]
            refine j_L (congrArg (fun z : Int32 => ([(2, .int (nI (i + 1))), (3, .ref (55 + 5 + i)), (0, .ref 88), (1, .int z)] : List (Nat × Value))) h1) ?_
            exact j_sub (jk_pick [2, 3, 0] rfl) (ih2 (i + 1) M1 (by omega) (by omega) (dorL_8 _) hs1 (by rw [hb0]; exact hw1))
          · refine j_aload_n 1 dX3_findDoors_45 rfl ?_
            refine j_getr (q := 89) dX3_findDoors_46 fX3_9 (shC (Sm.C hs1 hC) sgC_88) rfl (rfC (Sm.C hs1 hC) rfC_88_3 (nz (by decide))) ?_
            refine j_iload_n 2 dX3_findDoors_49 rfl ?_
            refine j_iload_n 3 dX3_findDoors_50 rfl ?_
            refine j_iastN ((dorL S i).length) dX3_findDoors_51 (shC (Sm.C hs1 hC) sgC_89) (by omega) (by omega) ?_
            have sm7 : Sm P89 M (jk_wI M1 89 ((dorL S i).length) (nI i)) := Sm.w hs1 rfl
            refine j_iinc 2 (nI ((dorL S i).length + 1)) (L' := [(1, .int (nI ((dorL S i).length + 1))), (3, .ref (55 + 5 + i)), (0, .ref 88), (2, .int (nI i))]) dX3_findDoors_52 rfl (inc1 ((dorL S i).length)) (by decide) rfl ?_
            refine j_iinc 3 (nI (i + 1)) (L' := [(2, .int (nI (i + 1))), (1, .int (nI ((dorL S i).length + 1))), (3, .ref (55 + 5 + i)), (0, .ref 88)]) dX3_findDoors_55 rfl (inc1 i) (by decide) rfl ?_
            refine j_goto (tgt := 4) dX3_findDoors_58 rfl ?_
            have hb0 : dorL S (i + 1) = _ := dorL_t (by omega) c6
            have h1 : (nI ((dorL S i).length + 1)) = nI (dorL S (i + 1)).length := by rw [hb0]; simp
            refine j_L (congrArg (fun z : Int32 => ([(2, .int (nI (i + 1))), (1, .int z), (3, .ref (55 + 5 + i)), (0, .ref 88)] : List (Nat × Value))) h1) ?_
            exact j_sub (jk_pick [3, 1, 0] rfl) (ih2 (i + 1) (jk_wI M1 89 ((dorL S i).length) (nI i)) (by omega) (by omega) (dorL_8 _) sm7 (by rw [hb0]; exact hw1.app))
  exact j_sub (jk_pick [2, 1, 0] rfl) (lp3 _ 0 M (Nat.lt_succ_self _) (by omega) (dorL_8 0) Sm.rf (fun i hi => absurd hi (Nat.not_lt_zero i)))
theorem setD_nT {S : HS} {l : List Nat} {bits j : Nat} : nT (setD S l bits j) = nT S := by simp only [nT]; rw [setD_n (by omega)]
set_option maxRecDepth 20000 in
set_option maxHeartbeats 4000000 in
theorem T_X3_bestDoors {d : Nat} {M : jk_M} {S : HS} (hC : WC M) (hS : hv M.2.1 55 = S) (ok : Sok S) (ha : AirOK 90 S M) (hw : M.2.1 88 4 = worthS S) : J Fr_X3_bestDoors (d + 6) 0 0 0 [(0, .ref 88)] [] M (jk_ex (some (.int (dorR S))) (fun M1 => Sm PPl M M1)) := by
  refine j_post (fun Q hQ => ?_)
  have hT := (Sok.T ok).2
  have hd := hS
  refine j_aload_n 0 dX3_bestDoors_0 rfl ?_
  refine j_callV (kc := 0) (ks := 0) (a := 0) (b := 0) (d' := (d + 2)) (As := []) dX3_bestDoors_1 kX3_89 rfl (shC hC sgC_88) (by omega) rfl rfl rfl (Nat.le_of_ble_eq_true rfl) (Nat.le_of_ble_eq_true rfl) (T_X3_findDoors hC hS ok) (kk_e (fun M1 hM2 => ?_))
  obtain ⟨h00, hw0⟩ := hM2
  have hs0 := Sm.mo (P2 := PB) h00 P89B
  have hd0 := Sm.hv h00 hd ok P89H
  have hh0 := HD.sm (S := S) ⟨ha.2.1, ha.2.2⟩ h00 P89A
  have hl8 := dorL_8 (S := S) (nT S)
  have hmem : ∀ q, q < (dorL S (nT S)).length → (dorL S (nT S)).getD q 0 < nT S := fun q hq => dorL_mem (nT S) _ (getD_mem hq)
  have hRR : dorR S = (fmx (fun _ => True) (dorF S (dorL S (nT S))) nI 0 (-1) (2 ^ (dorL S (nT S)).length)).1 := rfl
  generalize hl : dorL S (nT S) = l at hw0 hl8 hmem hRR ⊢
  obtain ⟨hsh, h256⟩ := shl8 hl8
  generalize hK : 2 ^ l.length = K at hsh h256 hRR
  refine j_istore_n (L' := [(1, .int (nI l.length)), (0, .ref 88)]) dX3_bestDoors_4 (by decide) rfl ?_
  refine j_iconst 0 dX3_bestDoors_5 ic_0 ?_
  refine j_istore_n (L' := [(2, .int 0), (1, .int (nI l.length)), (0, .ref 88)]) dX3_bestDoors_6 (by decide) rfl ?_
  refine j_iconst (-1) dX3_bestDoors_7 ic_n1 ?_
  refine j_istore_n (L' := [(3, .int (-1)), (2, .int 0), (1, .int (nI l.length)), (0, .ref 88)]) dX3_bestDoors_8 (by decide) rfl ?_
  refine j_iconst 0 dX3_bestDoors_9 ic_0 ?_
  refine j_istore (L' := [(4, .int 0), (3, .int (-1)), (2, .int 0), (1, .int (nI l.length)), (0, .ref 88)]) dX3_bestDoors_10 (by decide) rfl ?_
  have lp5 : ∀ (k3 : Nat) (b : Nat) (T : HS) (M1 : jk_M), K - b < k3 → (b ≤ K) → (Sm PB M M1) → (hv M1.2.1 55 = T) → (Sok T) → (EqD S l T) → (HD S M1) → (DoW M1 l) → J Fr_X3_bestDoors (d + 6) 0 0 12 [(0, .ref 88), (1, .int (nI l.length)), (2, .int (fmx (fun _ => True) (dorF S l) nI 0 (-1) b).1), (3, .int (fmx (fun _ => True) (dorF S l) nI 0 (-1) b).2), (4, .int (nI b))] [] M1 Q := by
    intro k3
    induction k3 with
    | zero => intro b T M1 hk; exact absurd hk (Nat.not_lt_zero _)
    | succ k3 ih4 =>
      intro b T M1 hk3 hb hs1 hd1 okT hE1 hh1 hw1
      refine j_iload 4 dX3_bestDoors_12 rfl ?_
      refine j_iconst 1 dX3_bestDoors_14 ic_1 ?_
      refine j_iload_n 1 dX3_bestDoors_15 rfl ?_
      refine j_ishl dX3_bestDoors_16 ?_
      refine j_topi (nI K) hsh ?_
      refine j_icmp_geN (tgt := 129) b K dX3_bestDoors_17 rfl (by omega) (by omega) (fun c6 => ?_) (fun c6 => ?_)
      · refine j_iload_n 2 dX3_bestDoors_129 rfl ?_
        refine j_iret dX3_bestDoors_130 rfl ?_
        have e : b = K := by omega
        subst e
        exact hQ _ _ ⟨by rw [hRR], Sm.mo hs1 PB.P⟩
      · refine j_iload_n 3 dX3_bestDoors_20 rfl ?_
        refine j_aload_n 0 dX3_bestDoors_21 rfl ?_
        refine j_getv (worthS S) dX3_bestDoors_22 fX3_15 (shC (Sm.C hs1 hC) sgC_88) rfl ((Sm.rd hs1 H88b).trans hw) ?_
        refine j_icmp_ge (tgt := 129) dX3_bestDoors_25 rfl (fun c7 => ?_) (fun c7 => ?_)
        · refine j_iload_n 2 dX3_bestDoors_129 rfl ?_
          refine j_iret dX3_bestDoors_130 rfl ?_
          have e := fmx_stop (P := fun _ => True) (f := dorF S l) (g := nI) (b := 0) (m := -1) (A := worthS S) b c7 (K - b) (fun j _ _ _ => dor_le ok l j)
          rw [show b + (K - b) = K by omega] at e
          exact hQ _ _ ⟨by rw [hRR, e], Sm.mo hs1 PB.P⟩
        · refine j_iconst 0 dX3_bestDoors_28 ic_0 ?_
          refine j_istore (L' := [(5, .int 0), (0, .ref 88), (1, .int (nI l.length)), (2, .int (fmx (fun _ => True) (dorF S l) nI 0 (-1) b).1), (3, .int (fmx (fun _ => True) (dorF S l) nI 0 (-1) b).2), (4, .int (nI b))]) dX3_bestDoors_29 (by decide) rfl ?_
          have hTT : nT T = nT S := by simp only [nT]; rw [hE1.n (by omega)]
          have lp10 : ∀ (k8 : Nat) (j : Nat) (M2 : jk_M), l.length - j < k8 → (j ≤ l.length) → (Sm PB M M2) → (hv M2.2.1 55 = setD T l b j) → (HD S M2) → (DoW M2 l) → J Fr_X3_bestDoors (d + 6) 0 0 31 [(0, .ref 88), (1, .int (nI l.length)), (2, .int (fmx (fun _ => True) (dorF S l) nI 0 (-1) b).1), (3, .int (fmx (fun _ => True) (dorF S l) nI 0 (-1) b).2), (4, .int (nI b)), (5, .int (nI j))] [] M2 Q := by
            intro k8
            induction k8 with
            | zero => intro j M2 hk; exact absurd hk (Nat.not_lt_zero _)
            | succ k8 ih9 =>
              intro j M2 hk8 hj hs2 hd2 hh2 hw2
              refine j_iload 5 dX3_bestDoors_31 rfl ?_
              refine j_iload_n 1 dX3_bestDoors_33 rfl ?_
              refine j_icmp_geN (tgt := 95) j l.length dX3_bestDoors_34 rfl (by omega) (by omega) (fun c11 => ?_) (fun c11 => ?_)
              · have ej : j = l.length := by omega
                subst ej
                have hE := setD_E (S := S) (l := l) (bits := b) l.length (Nat.le_refl _)
                have hdz : hv M2.2.1 55 = setD S l b l.length := hd2.trans (setD_eq hE1)
                refine j_aload_n 0 dX3_bestDoors_95 rfl ?_
                refine j_getr (q := 90) dX3_bestDoors_96 fX3_31 (shC (Sm.C hs2 hC) sgC_88) rfl (rfC (Sm.C hs2 hC) rfC_88_2 (nz (by decide))) ?_
                refine j_callV (kc := 0) (ks := 0) (a := 0) (b := 0) (d' := (d + 1)) (As := []) dX3_bestDoors_99 kX3_96 rfl (shC (Sm.C hs2 hC) (sgA isA90)) (by omega) rfl rfl rfl (Nat.le_of_ble_eq_true rfl) (Nat.le_of_ble_eq_true rfl) (T_X0_layLoss (Sm.C hs2 hC) isA90 hdz (setD_ok ok l b l.length)) (kk_ev (fun M12 hM13 => ?_))
                obtain ⟨h0y, hly, hy4, -, hy0⟩ := hM13
                have hsy := Sm.tr hs2 (Sm.mo (P2 := PB) h0y PB2)
                have hdy := Sm.hv h0y hdz (setD_ok ok l b l.length) PA90H
                have hay := HD.air hE hh2 hly hy4 hy0
                have hwy : DoW _ l := fun q hq => (Sm.rd h0y AO89).trans (hw2 q hq)
                refine j_aload_n 0 dX3_bestDoors_102 rfl ?_
                refine j_getr (q := 90) dX3_bestDoors_103 fX3_31 (shC (Sm.C hsy hC) sgC_88) rfl (rfC (Sm.C hsy hC) rfC_88_2 (nz (by decide))) ?_
                refine j_callV (kc := 0) (ks := 0) (a := 0) (b := 0) (d' := (d + 5)) (As := []) dX3_bestDoors_106 kX3_83 rfl (shC (Sm.C hsy hC) (sgA isA90)) (by omega) rfl rfl rfl (Nat.le_of_ble_eq_true rfl) (Nat.le_of_ble_eq_true rfl) (T_X0_servedNow (Sm.C hsy hC) isA90 hdy (setD_ok ok l b l.length) hay) (kk_e (fun M14 hM15 => ?_))
                obtain ⟨h017, ha18⟩ := hM15
                have sm16 := Sm.tr hsy (Sm.mo (P2 := PB) h017 PBr)
                have hv19 := Sm.hv h017 hdy (setD_ok ok l b l.length) PR90H
                have hwz : DoW M14 l := fun q hq => (Sm.rd h017 PR89).trans (hwy q hq)
                refine j_istore (L' := [(5, .int (servS (setD S l b l.length))), (0, .ref 88), (1, .int (nI l.length)), (2, .int (fmx (fun _ => True) (dorF S l) nI 0 (-1) b).1), (3, .int (fmx (fun _ => True) (dorF S l) nI 0 (-1) b).2), (4, .int (nI b))]) dX3_bestDoors_109 (by decide) rfl ?_
                refine j_iload 0 dX3_bestDoors_111 rfl ?_
                refine j_iload_n 4 dX3_bestDoors_113 rfl ?_
                refine j_icmp_le (tgt := 123) dX3_bestDoors_114 rfl (fun c20 => ?_) (fun c20 => ?_)
                · refine j_iinc 5 (nI (b + 1)) (L' := [(4, .int (nI (b + 1))), (5, .int (servS (setD S l b l.length))), (0, .ref 88), (1, .int (nI l.length)), (2, .int (fmx (fun _ => True) (dorF S l) nI 0 (-1) b).1), (3, .int (fmx (fun _ => True) (dorF S l) nI 0 (-1) b).2)]) dX3_bestDoors_123 rfl (inc1 b) (by decide) rfl ?_
                  refine j_goto (tgt := 12) dX3_bestDoors_126 rfl ?_
                  have hb0 : (fmx (fun _ => True) (dorF S l) nI 0 (-1) (b + 1)) = ((fmx (fun _ => True) (dorF S l) nI 0 (-1) b).1, (fmx (fun _ => True) (dorF S l) nI 0 (-1) b).2) := fmx_f (Or.inr (Int32.not_lt.mpr c20))
                  have h1 : (fmx (fun _ => True) (dorF S l) nI 0 (-1) b).1 = (fmx (fun _ => True) (dorF S l) nI 0 (-1) (b + 1)).1 := by rw [hb0]
                  refine j_L (congrArg (fun z : Int32 => ([(4, .int (nI (b + 1))), (5, .int (servS (setD S l b l.length))), (0, .ref 88), (1, .int (nI l.length)), (2, .int z), (3, .int (fmx (fun _ => True) (dorF S l) nI 0 (-1) b).2)] : List (Nat × Value))) h1) ?_
                  have h2 : (fmx (fun _ => True) (dorF S l) nI 0 (-1) b).2 = (fmx (fun _ => True) (dorF S l) nI 0 (-1) (b + 1)).2 := by rw [hb0]
                  refine j_L (congrArg (fun z : Int32 => ([(4, .int (nI (b + 1))), (5, .int (servS (setD S l b l.length))), (0, .ref 88), (1, .int (nI l.length)), (2, .int (fmx (fun _ => True) (dorF S l) nI 0 (-1) (b + 1)).1), (3, .int z)] : List (Nat × Value))) h2) ?_
                  exact j_sub (jk_pick [2, 3, 4, 5, 0] rfl) (ih4 (b + 1) (setD S l b l.length) M14 (by omega) (by omega) sm16 hv19 (setD_ok ok l b l.length) hE (HD.of hE ha18) hwz)
                · refine j_iload 0 dX3_bestDoors_117 rfl ?_
                  refine j_istore_n (L' := [(3, .int (servS (setD S l b l.length))), (5, .int (servS (setD S l b l.length))), (0, .ref 88), (1, .int (nI l.length)), (2, .int (fmx (fun _ => True) (dorF S l) nI 0 (-1) b).1), (4, .int (nI b))]) dX3_bestDoors_119 (by decide) rfl ?_
                  refine j_iload 5 dX3_bestDoors_120 rfl ?_
                  refine j_istore_n (L' := [(2, .int (nI b)), (3, .int (servS (setD S l b l.length))), (5, .int (servS (setD S l b l.length))), (0, .ref 88), (1, .int (nI l.length)), (4, .int (nI b))]) dX3_bestDoors_122 (by decide) rfl ?_
                  refine j_iinc 5 (nI (b + 1)) (L' := [(4, .int (nI (b + 1))), (2, .int (nI b)), (3, .int (servS (setD S l b l.length))), (5, .int (servS (setD S l b l.length))), (0, .ref 88), (1, .int (nI l.length))]) dX3_bestDoors_123 rfl (inc1 b) (by decide) rfl ?_
                  refine j_goto (tgt := 12) dX3_bestDoors_126 rfl ?_
                  have hb0 : (fmx (fun _ => True) (dorF S l) nI 0 (-1) (b + 1)) = ((nI b), (servS (setD S l b l.length))) := fmx_t trivial (Int32.not_le.mp c20)
                  have h1 : (nI b) = (fmx (fun _ => True) (dorF S l) nI 0 (-1) (b + 1)).1 := by rw [hb0]
                  refine j_L (congrArg (fun z : Int32 => ([(4, .int (nI (b + 1))), (2, .int z), (3, .int (servS (setD S l b l.length))), (5, .int (servS (setD S l b l.length))), (0, .ref 88), (1, .int (nI l.length))] : List (Nat × Value))) h1) ?_
                  have h2 : (servS (setD S l b l.length)) = (fmx (fun _ => True) (dorF S l) nI 0 (-1) (b + 1)).2 := by rw [hb0]
                  refine j_L (congrArg (fun z : Int32 => ([(4, .int (nI (b + 1))), (2, .int (fmx (fun _ => True) (dorF S l) nI 0 (-1) (b + 1)).1), (3, .int z), (5, .int (servS (setD S l b l.length))), (0, .ref 88), (1, .int (nI l.length))] : List (Nat × Value))) h2) ?_
                  exact j_sub (jk_pick [4, 5, 1, 2, 0] rfl) (ih4 (b + 1) (setD S l b l.length) M14 (by omega) (by omega) sm16 hv19 (setD_ok ok l b l.length) hE (HD.of hE ha18) hwz)
              · refine j_iload 5 dX3_bestDoors_37 rfl ?_
                refine j_aload_n 0 dX3_bestDoors_39 rfl ?_
                refine j_getr (q := 89) dX3_bestDoors_40 fX3_9 (shC (Sm.C hs2 hC) sgC_88) rfl (rfC (Sm.C hs2 hC) rfC_88_3 (nz (by decide))) ?_
                refine j_alen dX3_bestDoors_43 (shC (Sm.C hs2 hC) sgC_89) (by decide) ?_
                refine j_icmp_geN (tgt := 95) j 8 dX3_bestDoors_44 rfl (by omega) (by omega) (fun c21 => ?_) (fun c21 => ?_)
                · exact absurd c21 (by omega)
                · refine j_aload_n 0 dX3_bestDoors_47 rfl ?_
                  refine j_getr (q := 55) dX3_bestDoors_48 fX3_23 (shC (Sm.C hs2 hC) sgC_88) rfl (rfC (Sm.C hs2 hC) rfC_88_1 (nz (by decide))) ?_
                  refine j_aload_n 0 dX3_bestDoors_51 rfl ?_
                  refine j_getr (q := 89) dX3_bestDoors_52 fX3_9 (shC (Sm.C hs2 hC) sgC_88) rfl (rfC (Sm.C hs2 hC) rfC_88_3 (nz (by decide))) ?_
                  refine j_iload 5 dX3_bestDoors_55 rfl ?_
                  refine j_ialdN j dX3_bestDoors_57 (shC (Sm.C hs2 hC) sgC_89) (by omega) (by omega) ?_
                  refine j_topi (nI (l.getD j 0)) (hw2 j (by omega)) ?_
                  refine j_callV (kc := 0) (ks := 0) (a := 0) (b := 0) (d' := d) (As := [.int (nI (l.getD j 0))]) dX3_bestDoors_58 kX3_71 rfl (shC (Sm.C hs2 hC) (sgH (by simp [isH]))) (by omega) rfl rfl rfl (Nat.le_of_ble_eq_true rfl) (Nat.le_of_ble_eq_true rfl) (T_X2_thingAt (Sm.C hs2 hC) (by simp [isH]) hd2 (setD_ok okT l b j) (l.getD j 0) (by have := hmem j (by omega); rw [setD_nT, hTT]; exact this)) (kk_p ?_)
                  refine j_astore (L' := [(6, .ref (55 + 5 + (l.getD j 0))), (0, .ref 88), (1, .int (nI l.length)), (2, .int (fmx (fun _ => True) (dorF S l) nI 0 (-1) b).1), (3, .int (fmx (fun _ => True) (dorF S l) nI 0 (-1) b).2), (4, .int (nI b)), (5, .int (nI j))]) dX3_bestDoors_61 (by decide) rfl ?_
                  refine j_aload 0 dX3_bestDoors_63 rfl ?_
                  refine j_ifnull dX3_bestDoors_65 ?_
                  refine j_aload 0 dX3_bestDoors_68 rfl ?_
                  refine j_iload 5 dX3_bestDoors_70 rfl ?_
                  refine j_iload 6 dX3_bestDoors_72 rfl ?_
                  refine j_ishr dX3_bestDoors_74 ?_
                  refine j_iconst 1 dX3_bestDoors_75 ic_1 ?_
                  refine j_iand dX3_bestDoors_76 ?_
                  refine j_iconst 1 dX3_bestDoors_77 ic_1 ?_
                  refine j_icmp_ne (tgt := 85) dX3_bestDoors_78 rfl (fun c22 => ?_) (fun c22 => ?_)
                  · refine j_iconst 0 dX3_bestDoors_85 ic_0 ?_
                    refine j_putz dX3_bestDoors_86 fX3_92 (shC (Sm.C hs2 hC) (sgHT (by simp [isH]) (by have := hmem j (by omega); omega))) rfl (by decide) ?_
                    have sm23 : Sm PB M (jk_wI M2 (55 + 5 + (l.getD j 0)) 3 0) := Sm.w hs2 (PB1 _ (HOT (by have := hmem j (by omega); omega)))
                    refine j_iinc 6 (nI (j + 1)) (L' := [(5, .int (nI (j + 1))), (6, .ref (55 + 5 + (l.getD j 0))), (0, .ref 88), (1, .int (nI l.length)), (2, .int (fmx (fun _ => True) (dorF S l) nI 0 (-1) b).1), (3, .int (fmx (fun _ => True) (dorF S l) nI 0 (-1) b).2), (4, .int (nI b))]) dX3_bestDoors_89 rfl (inc1 j) (by decide) rfl ?_
                    refine j_goto (tgt := 31) dX3_bestDoors_92 rfl ?_
                    exact j_sub (jk_pick [2, 3, 4, 5, 6, 0] rfl) (ih9 (j + 1) (jk_wI M2 (55 + 5 + (l.getD j 0)) 3 0) (by omega) (by omega) sm23 (hv_dor hd2 okT (by rw [hTT]; exact hmem j (by omega)) rfl (show (0 : Int32) = bitI b j from (if_neg c22).symm)) (HD.sm hh2 (Sm.rf.w (P := HO 55) (HOT (by have := hmem j (by omega); omega))) HO55A) (fun q hq => (rd_o (by have := hmem j (by omega); omega)).trans (hw2 q hq)))
                  · refine j_iconst 1 dX3_bestDoors_81 ic_1 ?_
                    refine j_goto (tgt := 86) dX3_bestDoors_82 rfl ?_
                    refine j_putz dX3_bestDoors_86 fX3_92 (shC (Sm.C hs2 hC) (sgHT (by simp [isH]) (by have := hmem j (by omega); omega))) rfl (by decide) ?_
                    have sm24 : Sm PB M (jk_wI M2 (55 + 5 + (l.getD j 0)) 3 1) := Sm.w hs2 (PB1 _ (HOT (by have := hmem j (by omega); omega)))
                    refine j_iinc 6 (nI (j + 1)) (L' := [(5, .int (nI (j + 1))), (6, .ref (55 + 5 + (l.getD j 0))), (0, .ref 88), (1, .int (nI l.length)), (2, .int (fmx (fun _ => True) (dorF S l) nI 0 (-1) b).1), (3, .int (fmx (fun _ => True) (dorF S l) nI 0 (-1) b).2), (4, .int (nI b))]) dX3_bestDoors_89 rfl (inc1 j) (by decide) rfl ?_
                    refine j_goto (tgt := 31) dX3_bestDoors_92 rfl ?_
                    exact j_sub (jk_pick [2, 3, 4, 5, 6, 0] rfl) (ih9 (j + 1) (jk_wI M2 (55 + 5 + (l.getD j 0)) 3 1) (by omega) (by omega) sm24 (hv_dor hd2 okT (by rw [hTT]; exact hmem j (by omega)) rfl (show (1 : Int32) = bitI b j from (if_pos c22).symm)) (HD.sm hh2 (Sm.rf.w (P := HO 55) (HOT (by have := hmem j (by omega); omega))) HO55A) (fun q hq => (rd_o (by have := hmem j (by omega); omega)).trans (hw2 q hq)))
          exact j_sub (jk_pick [1, 2, 3, 4, 5, 0] rfl) (lp10 _ 0 M1 (Nat.lt_succ_self _) (by omega) hs1 hd1 hh1 hw1)
  exact j_sub (jk_pick [4, 3, 2, 1, 0] rfl) (lp5 _ 0 S M1 (Nat.lt_succ_self _) (by omega) hs0 hd0 ok (fun _ _ => Or.inl rfl) hh0 hw0)
