/-! doors, by the model -/
theorem one2 {k : Int32} (h : inB k 0 6) : oneK k 2 ↔ (k = 2 ∨ k = 5) := by
  have h0 : ∀ j, j < 7 → ¬ itk 0 j = 2 := by decide
  have h1 : ∀ j, j < 7 → ¬ itk 1 j = 2 := by decide
  have h3 : ∀ j, j < 7 → ¬ itk 3 j = 2 := by decide
  have h4 : ∀ j, j < 7 → ¬ itk 4 j = 2 := by decide
  have h6 : ∀ j, j < 7 → ¬ itk 6 j = 2 := by decide
  constructor
  · rintro ⟨j, hj, e⟩
    rcases kd7 h with rfl | rfl | rfl | rfl | rfl | rfl | rfl
    · exact absurd e (h0 j hj)
    · exact absurd e (h1 j hj)
    · exact Or.inl rfl
    · exact absurd e (h3 j hj)
    · exact absurd e (h4 j hj)
    · exact Or.inr rfl
    · exact absurd e (h6 j hj)
  · rintro (rfl | rfl)
    · exact ⟨0, by decide, rfl⟩
    · exact ⟨1, by decide, by decide⟩
theorem and1 (x : Int32) : x &&& 1 = if x &&& 1 = 1 then 1 else 0 := by
  have h : x &&& 1 = 0 ∨ x &&& 1 = 1 := by
    have e := BitVec.and_one_eq_setWidth_ofBool_getLsbD (x := x.toBitVec)
    cases hb : x.toBitVec.getLsbD 0 with
    | false => rw [hb] at e; exact Or.inl (Int32.toBitVec_inj.mp (e.trans (by decide)))
    | true => rw [hb] at e; exact Or.inr (Int32.toBitVec_inj.mp (e.trans (by decide)))
  rcases h with h | h
  · rw [h]; decide
  · rw [h]; decide
def TrW (M : jk_M) (l : List Nat) : Prop := ∀ i, i < l.length → M.2.1 27 i = nI (l.getD i 0)
theorem TrW.app {M : jk_M} {l : List Nat} {x : Nat} (h : TrW M l) : TrW (jk_wI M 27 l.length (nI x)) (l ++ [x]) := by
  intro i hi
  have hi2 : i < l.length + 1 := by simpa using hi
  by_cases e : i = l.length
  · subst e; rw [rd_s]; simp [List.getD]
  · rw [rd_k e, h i (by omega)]
    simp only [List.getD]
    rw [List.getElem?_append_left (by omega)]
theorem TrW.same {M M1 : jk_M} {l : List Nat} (h : TrW M l) (e : M1.2.1 27 = M.2.1 27) : TrW M1 l := fun i hi => by rw [e]; exact h i hi
def WsW (S : HS) (M : jk_M) (l : List Nat) (n : Nat) : Prop := ∀ i, i < n → M.2.1 28 i = S 13 (l.getD i 0)
theorem WsW.same {S : HS} {M M1 : jk_M} {l : List Nat} {n : Nat} (h : WsW S M l n) (e : M1.2.1 28 = M.2.1 28) : WsW S M1 l n := fun i hi => by rw [e]; exact h i hi
theorem WsW.st {S : HS} {M : jk_M} {l : List Nat} {n : Nat} (h : WsW S M l n) : WsW S (jk_wI M 28 n (S 13 (l.getD n 0))) l (n + 1) := fun i hi => by
  by_cases e : i = n
  · subst e; exact rd_s
  · exact (rd_k e).trans (h i (by omega))
noncomputable def doF (S : HS) (l : List Nat) (n : Nat) : Int32 × Int32 := fmx (fun _ => True) (dorF S l) nI 0 (-1) n
theorem EqD.tT {S T : HS} {l : List Nat} (h : EqD S l T) : nT T = nT S := by simp only [nT]; rw [h.n (by omega)]
def resD (S T : HS) (l : List Nat) : Nat → HS
  | 0 => T
  | j + 1 => upS (resD S T l j) 13 (l.getD j 0) (S 13 (l.getD j 0))
theorem resD_n {S T : HS} {l : List Nat} {b i : Nat} : ∀ j, ¬ (b = 13 ∧ ∃ q, q < j ∧ l.getD q 0 = i) → resD S T l j b i = T b i
  | 0, _ => rfl
  | j + 1, h => by
    rw [resD, upS_n (fun z => h ⟨z.1, j, by omega, z.2.symm⟩)]
    exact resD_n j (fun z => h ⟨z.1, by obtain ⟨q, h1, h2⟩ := z.2; exact ⟨q, by omega, h2⟩⟩)
theorem resD_y {S T : HS} {l : List Nat} {i : Nat} : ∀ j, (∃ q, q < j ∧ l.getD q 0 = i) → resD S T l j 13 i = S 13 i
  | 0, h => by obtain ⟨q, h1, -⟩ := h; omega
  | j + 1, h => by
    rw [resD]
    by_cases e : i = l.getD j 0
    · subst e; exact upS_s
    · rw [upS_n (fun z => e z.2)]
      obtain ⟨q, h1, h2⟩ := h
      have : q ≠ j := fun z => e (by rw [← h2, z])
      exact resD_y j ⟨q, by omega, h2⟩
theorem resD_all {S T : HS} {l : List Nat} (h : EqD S l T) : resD S T l l.length = S := by
  funext b i
  by_cases e : b = 13 ∧ ∃ q, q < l.length ∧ l.getD q 0 = i
  · obtain ⟨rfl, h2⟩ := e; exact resD_y _ h2
  · rw [resD_n _ e]; exact (h b i).resolve_right e
theorem resD_T {S T : HS} {l : List Nat} (h : EqD S l T) (j : Nat) : nT (resD S T l j) = nT S := by
  have e : resD S T l j 7 0 = T 7 0 := resD_n j (fun z => by omega)
  simp only [nT]; rw [e, h.n (by omega)]
theorem dl_lt {S : HS} {i : Nat} (h : i < (dorL S (nT S)).length) : (dorL S (nT S)).getD i 0 < nT S := dorL_mem _ _ (getD_mem h)
set_option maxRecDepth 20000 in
set_option maxHeartbeats 4000000 in
theorem N_doors {d : Nat} {M : jk_M} {Z : ZS} (cv : MV M Z) (ok : Zok Z)  : J Fr_X11_doors (d + 7) 0 0 0 [(0, .ref 0)] [] M (jk_ex (some (.int (doorsZ Z).1)) (fun M1 => MV M1 (doorsZ Z).2)) := by
  refine j_post (fun Q hQ => ?_)
  have hM := cv.1
  have hS := cv.2.1
  have okS := ok.1
  have h40 := cv.2.2.2.2.2.2.2.2.2.2.1
  have hT16 := (Sok.T okS).2
  have hl8 := dorL_8 (S := Z.1) (nT Z.1)
  refine j_iconst 0 dX11_doors_0 ic_0 ?_
  refine j_istore_n (L' := [(1, .int 0), (0, .ref 0)]) dX11_doors_1 (by decide) rfl ?_
  refine j_iconst 0 dX11_doors_2 ic_0 ?_
  refine j_istore_n (L' := [(2, .int 0), (1, .int 0), (0, .ref 0)]) dX11_doors_3 (by decide) rfl ?_
  refine j_iconst (-1) dX11_doors_4 ic_n1 ?_
  refine j_istore_n (L' := [(3, .int (-1)), (2, .int 0), (1, .int 0), (0, .ref 0)]) dX11_doors_5 (by decide) rfl ?_
  refine j_iconst 0 dX11_doors_6 ic_0 ?_
  refine j_istore (L' := [(4, .int 0), (3, .int (-1)), (2, .int 0), (1, .int 0), (0, .ref 0)]) dX11_doors_7 (by decide) rfl ?_
  have z1 : (0 : Int32) = nI (dorL Z.1 0).length := rfl
  refine j_L (congrArg (fun zz9 : Int32 => ([(4, .int 0), (3, .int (-1)), (2, .int 0), (1, .int zz9), (0, .ref 0)] : List (Nat × Value))) z1) ?_
  have lp3 : ∀ (k1 : Nat) (t : Nat) (M1 : jk_M), nT Z.1 - t < k1 → (t ≤ nT Z.1) → (Fm PG M M1) → (mv M1.2.1 = Z.1) → (TrW M1 (dorL Z.1 t)) → (M1.2.1 0 40 = -1) → J Fr_X11_doors (d + 7) 0 0 9 [(0, .ref 0), (1, .int (nI (dorL Z.1 t).length)), (2, .int 0), (3, .int (-1)), (4, .int (nI t))] [] M1 Q := by
    intro k1
    induction k1 with
    | zero => intro t M1 hk; exact absurd hk (Nat.not_lt_zero _)
    | succ k1 ih2 =>
      intro t M1 hk1 hk hs1 hx hw hg1
      refine j_iload 4 dX11_doors_9 rfl ?_
      refine j_aload_n 0 dX11_doors_11 rfl ?_
      refine j_getv (nI (nT Z.1)) dX11_doors_12 fX11_123 (shM (Fm.M hs1 hM) sgM_0) rfl ((mr_T hx).trans (Sok.T okS).1) ?_
      refine j_icmp_geN (tgt := 63) t (nT Z.1) dX11_doors_15 rfl (by omega) (by omega) (fun c4 => ?_) (fun c4 => ?_)
      · have et : t = nT Z.1 := by omega
        have hw0 : TrW M1 (dorL Z.1 (nT Z.1)) := by rw [← et]; exact hw
        have hn9 : nI (dorL Z.1 t).length = nI (dorL Z.1 (nT Z.1)).length := by rw [et]
        refine j_L (congrArg (fun zz9 : Int32 => ([(0, .ref 0), (1, .int zz9), (2, .int 0), (3, .int (-1)), (4, .int (nI t))] : List (Nat × Value))) hn9) ?_
        refine j_iconst 0 dX11_doors_63 ic_0 ?_
        refine j_istore (L' := [(4, .int 0), (0, .ref 0), (1, .int (nI (dorL Z.1 (nT Z.1)).length)), (2, .int 0), (3, .int (-1))]) dX11_doors_64 (by decide) rfl ?_
        have lp7 : ∀ (k5 : Nat) (i : Nat) (M2 : jk_M), (dorL Z.1 (nT Z.1)).length - i < k5 → (i ≤ (dorL Z.1 (nT Z.1)).length) → (Fm PG M M2) → (mv M2.2.1 = Z.1) → (TrW M2 (dorL Z.1 (nT Z.1))) → (WsW Z.1 M2 (dorL Z.1 (nT Z.1)) i) → (M2.2.1 0 40 = -1) → J Fr_X11_doors (d + 7) 0 0 66 [(0, .ref 0), (1, .int (nI (dorL Z.1 (nT Z.1)).length)), (2, .int 0), (3, .int (-1)), (4, .int (nI i))] [] M2 Q := by
          intro k5
          induction k5 with
          | zero => intro i M2 hk; exact absurd hk (Nat.not_lt_zero _)
          | succ k5 ih6 =>
            intro i M2 hk5 hi hs2 hx2 hw2 hws2 hg2
            refine j_iload 4 dX11_doors_66 rfl ?_
            refine j_iload_n 1 dX11_doors_68 rfl ?_
            refine j_icmp_geN (tgt := 97) i ((dorL Z.1 (nT Z.1)).length) dX11_doors_69 rfl (by omega) (by omega) (fun c8 => ?_) (fun c8 => ?_)
            · refine j_iconst 0 dX11_doors_97 ic_0 ?_
              refine j_istore (L' := [(4, .int 0), (0, .ref 0), (1, .int (nI (dorL Z.1 (nT Z.1)).length)), (2, .int 0), (3, .int (-1))]) dX11_doors_98 (by decide) rfl ?_
              have z1 : (0 : Int32) = (doF Z.1 (dorL Z.1 (nT Z.1)) 0).1 := rfl
              have z2 : (-1 : Int32) = (doF Z.1 (dorL Z.1 (nT Z.1)) 0).2 := rfl
              have hp256 := (shl8 hl8).2
              refine j_L (congrArg (fun zz9 : Int32 => ([(4, .int 0), (0, .ref 0), (1, .int (nI (dorL Z.1 (nT Z.1)).length)), (2, .int zz9), (3, .int (-1))] : List (Nat × Value))) z1) ?_
              refine j_L (congrArg (fun zz9 : Int32 => ([(4, .int 0), (0, .ref 0), (1, .int (nI (dorL Z.1 (nT Z.1)).length)), (2, .int (doF Z.1 (dorL Z.1 (nT Z.1)) 0).1), (3, .int zz9)] : List (Nat × Value))) z2) ?_
              have lp11 : ∀ (k9 : Nat) (q : Nat) (M3 : jk_M), 2 ^ (dorL Z.1 (nT Z.1)).length - q < k9 → (q ≤ 2 ^ (dorL Z.1 (nT Z.1)).length) → (Fm PG M M3) → (∃ T, mv M3.2.1 = T ∧ EqD Z.1 (dorL Z.1 (nT Z.1)) T ∧ Sok T) → (TrW M3 (dorL Z.1 (nT Z.1))) → (WsW Z.1 M3 (dorL Z.1 (nT Z.1)) (dorL Z.1 (nT Z.1)).length) → (M3.2.1 0 40 = -1) → J Fr_X11_doors (d + 7) 0 0 100 [(0, .ref 0), (1, .int (nI (dorL Z.1 (nT Z.1)).length)), (2, .int (doF Z.1 (dorL Z.1 (nT Z.1)) q).1), (3, .int (doF Z.1 (dorL Z.1 (nT Z.1)) q).2), (4, .int (nI q))] [] M3 Q := by
                intro k9
                induction k9 with
                | zero => intro q M3 hk; exact absurd hk (Nat.not_lt_zero _)
                | succ k9 ih10 =>
                  intro q M3 hk9 hq hs3 hxx hw3 hws3 hg3
                  refine j_iload 4 dX11_doors_100 rfl ?_
                  refine j_iconst 1 dX11_doors_102 ic_1 ?_
                  refine j_iload_n 1 dX11_doors_103 rfl ?_
                  refine j_ishl dX11_doors_104 ?_
                  refine j_topi (nI (2 ^ (dorL Z.1 (nT Z.1)).length)) (shl8 hl8).1 ?_
                  refine j_icmp_geN (tgt := 173) q (2 ^ (dorL Z.1 (nT Z.1)).length) dX11_doors_105 rfl (by omega) (by omega) (fun c12 => ?_) (fun c12 => ?_)
                  · obtain ⟨T, hmT, hET, okT⟩ := hxx
                    refine j_iconst 0 dX11_doors_173 ic_0 ?_
                    refine j_istore (L' := [(4, .int 0), (0, .ref 0), (1, .int (nI (dorL Z.1 (nT Z.1)).length)), (2, .int (doF Z.1 (dorL Z.1 (nT Z.1)) q).1), (3, .int (doF Z.1 (dorL Z.1 (nT Z.1)) q).2)]) dX11_doors_174 (by decide) rfl ?_
                    have lp15 : ∀ (k13 : Nat) (i : Nat) (M5 : jk_M), (dorL Z.1 (nT Z.1)).length - i < k13 → (i ≤ (dorL Z.1 (nT Z.1)).length) → (Fm PG M M5) → (mv M5.2.1 = resD Z.1 T (dorL Z.1 (nT Z.1)) i) → (TrW M5 (dorL Z.1 (nT Z.1))) → (WsW Z.1 M5 (dorL Z.1 (nT Z.1)) (dorL Z.1 (nT Z.1)).length) → (M5.2.1 0 40 = -1) → J Fr_X11_doors (d + 7) 0 0 176 [(0, .ref 0), (1, .int (nI (dorL Z.1 (nT Z.1)).length)), (2, .int (doF Z.1 (dorL Z.1 (nT Z.1)) q).1), (3, .int (doF Z.1 (dorL Z.1 (nT Z.1)) q).2), (4, .int (nI i))] [] M5 Q := by
                      intro k13
                      induction k13 with
                      | zero => intro i M5 hk; exact absurd hk (Nat.not_lt_zero _)
                      | succ k13 ih14 =>
                        intro i M5 hk13 hi hs5 hx5 hw5 hws5 hg5
                        refine j_iload 4 dX11_doors_176 rfl ?_
                        refine j_iload_n 1 dX11_doors_178 rfl ?_
                        refine j_icmp_geN (tgt := 207) i ((dorL Z.1 (nT Z.1)).length) dX11_doors_179 rfl (by omega) (by omega) (fun c16 => ?_) (fun c16 => ?_)
                        · refine j_iload_n 2 dX11_doors_207 rfl ?_
                          refine j_iret dX11_doors_208 rfl ?_
                          have hq9 : q = 2 ^ (dorL Z.1 (nT Z.1)).length := by omega
                          have hz : doorsZ Z = ((doF Z.1 (dorL Z.1 (nT Z.1)) q).1, Z) := by rw [doorsZ, hq9]; rfl
                          have q1 : mv M5.2.1 = Z.1 := by rw [hx5, show i = (dorL Z.1 (nT Z.1)).length by omega]; exact resD_all hET
                          exact hQ _ _ ⟨by rw [hz], by rw [hz]; exact MV.gen cv hs5 q1 hg5⟩
                        · refine j_aload_n 0 dX11_doors_182 rfl ?_
                          refine j_getr (q := 5) dX11_doors_183 fX11_38 (shM (Fm.M hs5 hM) sgM_0) rfl (rfM (Fm.M hs5 hM) rfM_0_13) ?_
                          refine j_aload_n 0 dX11_doors_186 rfl ?_
                          refine j_getr (q := 27) dX11_doors_187 fX11_108 (shM (Fm.M hs5 hM) sgM_0) rfl (rfM (Fm.M hs5 hM) rfM_0_43) ?_
                          refine j_iload 4 dX11_doors_190 rfl ?_
                          refine j_ialdN i dX11_doors_192 (shM (Fm.M hs5 hM) sgM_27) (by omega) (by omega) ?_
                          refine j_topi (nI ((dorL Z.1 (nT Z.1)).getD i 0)) (hw5 _ (by omega)) ?_
                          refine j_aload_n 0 dX11_doors_193 rfl ?_
                          refine j_getr (q := 28) dX11_doors_194 fX11_111 (shM (Fm.M hs5 hM) sgM_0) rfl (rfM (Fm.M hs5 hM) rfM_0_44) ?_
                          refine j_iload 4 dX11_doors_197 rfl ?_
                          refine j_ialdN i dX11_doors_199 (shM (Fm.M hs5 hM) sgM_28) (by omega) (by omega) ?_
                          refine j_topi (Z.1 13 ((dorL Z.1 (nT Z.1)).getD i 0)) (hws5 _ (by omega)) ?_
                          refine j_iastN ((dorL Z.1 (nT Z.1)).getD i 0) dX11_doors_200 (shM (Fm.M hs5 hM) sgM_5) (by have := dl_lt (S := Z.1) (i := i) (by omega); omega) (by omega) ?_
                          have sm17 : Fm PG M (jk_wI M5 5 ((dorL Z.1 (nT Z.1)).getD i 0) (Z.1 13 ((dorL Z.1 (nT Z.1)).getD i 0))) := Fm.w hs5 (by unfold PG PO PH PS; omega)
                          refine j_iinc 4 (nI (i + 1)) (L' := [(4, .int (nI (i + 1))), (0, .ref 0), (1, .int (nI (dorL Z.1 (nT Z.1)).length)), (2, .int (doF Z.1 (dorL Z.1 (nT Z.1)) q).1), (3, .int (doF Z.1 (dorL Z.1 (nT Z.1)) q).2)]) dX11_doors_201 rfl (inc1 i) (by decide) rfl ?_
                          refine j_goto (tgt := 176) dX11_doors_204 rfl ?_
                          have hx6 : mv (jk_wI M5 5 ((dorL Z.1 (nT Z.1)).getD i 0) (Z.1 13 ((dorL Z.1 (nT Z.1)).getD i 0))).2.1 = resD Z.1 T (dorL Z.1 (nT Z.1)) (i + 1) := mv_ar (a := 13) (j := (dorL Z.1 (nT Z.1)).getD i 0) hx5 (Or.inl ⟨by omega, by omega, by
                              have := resD_T hET i
                              have := dl_lt (S := Z.1) (i := i) (by omega)
                              omega⟩)
                          exact j_sub (jk_pick [1, 2, 3, 4, 0] rfl) (ih14 (i + 1) (jk_wI M5 5 ((dorL Z.1 (nT Z.1)).getD i 0) (Z.1 13 ((dorL Z.1 (nT Z.1)).getD i 0))) (by omega) (by omega) sm17 hx6 (hw5.same (by funext z; exact rd_o (by decide))) (hws5.same (by funext z; exact rd_o (by decide))) ((rd_p (by omega)).trans hg5))
                    exact j_sub (jk_pick [1, 2, 3, 4, 0] rfl) (lp15 _ 0 M3 (Nat.lt_succ_self _) (by omega) hs3 hmT hw3 hws3 hg3)
                  · obtain ⟨T, hmT, hET, okT⟩ := hxx
                    refine j_iconst 0 dX11_doors_108 ic_0 ?_
                    refine j_istore (L' := [(5, .int 0), (0, .ref 0), (1, .int (nI (dorL Z.1 (nT Z.1)).length)), (2, .int (doF Z.1 (dorL Z.1 (nT Z.1)) q).1), (3, .int (doF Z.1 (dorL Z.1 (nT Z.1)) q).2), (4, .int (nI q))]) dX11_doors_109 (by decide) rfl ?_
                    have lp20 : ∀ (k18 : Nat) (j : Nat) (M4 : jk_M), (dorL Z.1 (nT Z.1)).length - j < k18 → (j ≤ (dorL Z.1 (nT Z.1)).length) → (Fm PG M M4) → (mv M4.2.1 = setD T (dorL Z.1 (nT Z.1)) q j) → (TrW M4 (dorL Z.1 (nT Z.1))) → (WsW Z.1 M4 (dorL Z.1 (nT Z.1)) (dorL Z.1 (nT Z.1)).length) → (M4.2.1 0 40 = -1) → J Fr_X11_doors (d + 7) 0 0 111 [(0, .ref 0), (1, .int (nI (dorL Z.1 (nT Z.1)).length)), (2, .int (doF Z.1 (dorL Z.1 (nT Z.1)) q).1), (3, .int (doF Z.1 (dorL Z.1 (nT Z.1)) q).2), (4, .int (nI q)), (5, .int (nI j))] [] M4 Q := by
                      intro k18
                      induction k18 with
                      | zero => intro j M4 hk; exact absurd hk (Nat.not_lt_zero _)
                      | succ k18 ih19 =>
                        intro j M4 hk18 hj hs4 hx4 hw4 hws4 hg4
                        refine j_iload 5 dX11_doors_111 rfl ?_
                        refine j_iload_n 1 dX11_doors_113 rfl ?_
                        refine j_icmp_geN (tgt := 142) j ((dorL Z.1 (nT Z.1)).length) dX11_doors_114 rfl (by omega) (by omega) (fun c21 => ?_) (fun c21 => ?_)
                        · have hT : mv M4.2.1 = setD Z.1 (dorL Z.1 (nT Z.1)) q (dorL Z.1 (nT Z.1)).length := by
                            rw [← setD_eq hET, show (dorL Z.1 (nT Z.1)).length = j by omega]; exact hx4
                          have okD := setD_ok okS (dorL Z.1 (nT Z.1)) q (dorL Z.1 (nT Z.1)).length
                          refine j_aload_n 0 dX11_doors_142 rfl ?_
                          refine j_callV (kc := 0) (ks := 0) (a := 0) (b := 0) (d' := (d + 3)) (As := []) dX11_doors_143 kX11_181 rfl (shM (Fm.M hs4 hM) sgM_0) (by omega) rfl rfl rfl (Nat.le_of_ble_eq_true rfl) (Nat.le_of_ble_eq_true rfl) (T_X11_looks (Fm.M hs4 hM) hT okD hg4 (GT.no okD) okD) (kk_ev (fun M22 hM23 => ?_))
                          obtain ⟨h0L, lk9⟩ := hM23
                          have smL : Fm PG M M22 := Fm.tr hs4 (Fm.mo h0L PLk_G)
                          have hT2 : mv M22.2.1 = setD Z.1 (dorL Z.1 (nT Z.1)) q (dorL Z.1 (nT Z.1)).length := Fm.mv h0L hT PLk_H
                          have hw2 : TrW M22 (dorL Z.1 (nT Z.1)) := hw4.same (by funext z; exact Fm.rd h0L (by unfold PLk; omega))
                          have hs2 : WsW Z.1 M22 (dorL Z.1 (nT Z.1)) (dorL Z.1 (nT Z.1)).length := hws4.same (by funext z; exact Fm.rd h0L (by unfold PLk; omega))
                          have hg2 : M22.2.1 0 40 = -1 := (Fm.rd h0L (by unfold PLk; omega)).trans hg4
                          refine j_aload_n 0 dX11_doors_146 rfl ?_
                          refine j_callV (kc := 0) (ks := 0) (a := 0) (b := 0) (d' := (d + 6)) (As := []) dX11_doors_147 kX11_263 rfl (shM (Fm.M smL hM) sgM_0) (by omega) rfl rfl rfl (Nat.le_of_ble_eq_true rfl) (Nat.le_of_ble_eq_true rfl) (T_X11_served (Fm.M smL hM) (MEq.of hT2) okD lk9) (kk_p ?_)
                          refine j_istore (L' := [(5, .int (dorF Z.1 (dorL Z.1 (nT Z.1)) q)), (0, .ref 0), (1, .int (nI (dorL Z.1 (nT Z.1)).length)), (2, .int (doF Z.1 (dorL Z.1 (nT Z.1)) q).1), (3, .int (doF Z.1 (dorL Z.1 (nT Z.1)) q).2), (4, .int (nI q))]) dX11_doors_150 (by decide) rfl ?_
                          refine j_iload 0 dX11_doors_152 rfl ?_
                          refine j_iload_n 4 dX11_doors_154 rfl ?_
                          refine j_icmp_gt (tgt := 161) dX11_doors_155 rfl (fun c24 => ?_) (fun c24 => ?_)
                          · refine j_iload 5 dX11_doors_161 rfl ?_
                            refine j_istore_n (L' := [(2, .int (nI q)), (5, .int (dorF Z.1 (dorL Z.1 (nT Z.1)) q)), (0, .ref 0), (1, .int (nI (dorL Z.1 (nT Z.1)).length)), (3, .int (doF Z.1 (dorL Z.1 (nT Z.1)) q).2), (4, .int (nI q))]) dX11_doors_163 (by decide) rfl ?_
                            refine j_iload 1 dX11_doors_164 rfl ?_
                            refine j_istore_n (L' := [(3, .int (dorF Z.1 (dorL Z.1 (nT Z.1)) q)), (2, .int (nI q)), (5, .int (dorF Z.1 (dorL Z.1 (nT Z.1)) q)), (0, .ref 0), (1, .int (nI (dorL Z.1 (nT Z.1)).length)), (4, .int (nI q))]) dX11_doors_166 (by decide) rfl ?_
                            refine j_iinc 5 (nI (q + 1)) (L' := [(4, .int (nI (q + 1))), (3, .int (dorF Z.1 (dorL Z.1 (nT Z.1)) q)), (2, .int (nI q)), (5, .int (dorF Z.1 (dorL Z.1 (nT Z.1)) q)), (0, .ref 0), (1, .int (nI (dorL Z.1 (nT Z.1)).length))]) dX11_doors_167 rfl (inc1 q) (by decide) rfl ?_
                            refine j_goto (tgt := 100) dX11_doors_170 rfl ?_
                            have hb1 : (doF Z.1 (dorL Z.1 (nT Z.1)) (q + 1)) = ((nI q), (dorF Z.1 (dorL Z.1 (nT Z.1)) q)) := fmx_t trivial (c24)
                            have hb2 : (nI q) = (doF Z.1 (dorL Z.1 (nT Z.1)) (q + 1)).1 := by rw [hb1]
                            have hb3 : (dorF Z.1 (dorL Z.1 (nT Z.1)) q) = (doF Z.1 (dorL Z.1 (nT Z.1)) (q + 1)).2 := by rw [hb1]
                            refine j_L (congrArg (fun zz9 : Int32 => ([(4, .int (nI (q + 1))), (3, .int (dorF Z.1 (dorL Z.1 (nT Z.1)) q)), (2, .int zz9), (5, .int (dorF Z.1 (dorL Z.1 (nT Z.1)) q)), (0, .ref 0), (1, .int (nI (dorL Z.1 (nT Z.1)).length))] : List (Nat × Value))) hb2) ?_
                            refine j_L (congrArg (fun zz9 : Int32 => ([(4, .int (nI (q + 1))), (3, .int zz9), (2, .int (doF Z.1 (dorL Z.1 (nT Z.1)) (q + 1)).1), (5, .int (dorF Z.1 (dorL Z.1 (nT Z.1)) q)), (0, .ref 0), (1, .int (nI (dorL Z.1 (nT Z.1)).length))] : List (Nat × Value))) hb3) ?_
                            exact j_sub (jk_pick [4, 5, 2, 1, 0] rfl) (ih10 (q + 1) M22 (by omega) (by omega) smL ⟨_, hT2, setD_E _ (Nat.le_refl _), okD⟩ hw2 hs2 hg2)
                          · refine j_goto (tgt := 167) dX11_doors_158 rfl ?_
                            refine j_iinc 5 (nI (q + 1)) (L' := [(4, .int (nI (q + 1))), (5, .int (dorF Z.1 (dorL Z.1 (nT Z.1)) q)), (0, .ref 0), (1, .int (nI (dorL Z.1 (nT Z.1)).length)), (2, .int (doF Z.1 (dorL Z.1 (nT Z.1)) q).1), (3, .int (doF Z.1 (dorL Z.1 (nT Z.1)) q).2)]) dX11_doors_167 rfl (inc1 q) (by decide) rfl ?_
                            refine j_goto (tgt := 100) dX11_doors_170 rfl ?_
                            have hb1 : (doF Z.1 (dorL Z.1 (nT Z.1)) (q + 1)) = ((doF Z.1 (dorL Z.1 (nT Z.1)) q).1, (doF Z.1 (dorL Z.1 (nT Z.1)) q).2) := fmx_f (Or.inr (c24))
                            have hb2 : (doF Z.1 (dorL Z.1 (nT Z.1)) q).1 = (doF Z.1 (dorL Z.1 (nT Z.1)) (q + 1)).1 := by rw [hb1]
                            have hb3 : (doF Z.1 (dorL Z.1 (nT Z.1)) q).2 = (doF Z.1 (dorL Z.1 (nT Z.1)) (q + 1)).2 := by rw [hb1]
                            refine j_L (congrArg (fun zz9 : Int32 => ([(4, .int (nI (q + 1))), (5, .int (dorF Z.1 (dorL Z.1 (nT Z.1)) q)), (0, .ref 0), (1, .int (nI (dorL Z.1 (nT Z.1)).length)), (2, .int zz9), (3, .int (doF Z.1 (dorL Z.1 (nT Z.1)) q).2)] : List (Nat × Value))) hb2) ?_
                            refine j_L (congrArg (fun zz9 : Int32 => ([(4, .int (nI (q + 1))), (5, .int (dorF Z.1 (dorL Z.1 (nT Z.1)) q)), (0, .ref 0), (1, .int (nI (dorL Z.1 (nT Z.1)).length)), (2, .int (doF Z.1 (dorL Z.1 (nT Z.1)) (q + 1)).1), (3, .int zz9)] : List (Nat × Value))) hb3) ?_
                            exact j_sub (jk_pick [2, 3, 4, 5, 0] rfl) (ih10 (q + 1) M22 (by omega) (by omega) smL ⟨_, hT2, setD_E _ (Nat.le_refl _), okD⟩ hw2 hs2 hg2)
                        · refine j_aload_n 0 dX11_doors_117 rfl ?_
                          refine j_getr (q := 5) dX11_doors_118 fX11_38 (shM (Fm.M hs4 hM) sgM_0) rfl (rfM (Fm.M hs4 hM) rfM_0_13) ?_
                          refine j_aload_n 0 dX11_doors_121 rfl ?_
                          refine j_getr (q := 27) dX11_doors_122 fX11_108 (shM (Fm.M hs4 hM) sgM_0) rfl (rfM (Fm.M hs4 hM) rfM_0_43) ?_
                          refine j_iload 5 dX11_doors_125 rfl ?_
                          refine j_ialdN j dX11_doors_127 (shM (Fm.M hs4 hM) sgM_27) (by omega) (by omega) ?_
                          refine j_topi (nI ((dorL Z.1 (nT Z.1)).getD j 0)) (hw4 _ (by omega)) ?_
                          refine j_iload 4 dX11_doors_128 rfl ?_
                          refine j_iload 5 dX11_doors_130 rfl ?_
                          refine j_ishr dX11_doors_132 ?_
                          refine j_iconst 1 dX11_doors_133 ic_1 ?_
                          refine j_iand dX11_doors_134 ?_
                          refine j_iastN ((dorL Z.1 (nT Z.1)).getD j 0) dX11_doors_135 (shM (Fm.M hs4 hM) sgM_5) (by have := dl_lt (S := Z.1) (i := j) (by omega); omega) (by omega) ?_
                          have sm25 : Fm PG M (jk_wI M4 5 ((dorL Z.1 (nT Z.1)).getD j 0) (((nI q) >>> ((nI j) &&& 31)) &&& 1)) := Fm.w hs4 (by unfold PG PO PH PS; omega)
                          refine j_iinc 5 (nI (j + 1)) (L' := [(5, .int (nI (j + 1))), (0, .ref 0), (1, .int (nI (dorL Z.1 (nT Z.1)).length)), (2, .int (doF Z.1 (dorL Z.1 (nT Z.1)) q).1), (3, .int (doF Z.1 (dorL Z.1 (nT Z.1)) q).2), (4, .int (nI q))]) dX11_doors_136 rfl (inc1 j) (by decide) rfl ?_
                          refine j_goto (tgt := 111) dX11_doors_139 rfl ?_
                          have hx5 : mv (jk_wI M4 5 ((dorL Z.1 (nT Z.1)).getD j 0) (((nI q) >>> ((nI j) &&& 31)) &&& 1)).2.1 = setD T (dorL Z.1 (nT Z.1)) q (j + 1) := by
                            have z := mv_ar (a := 13) (j := (dorL Z.1 (nT Z.1)).getD j 0) (x := (nI q >>> (nI j &&& 31)) &&& 1) hx4 (Or.inl ⟨by omega, by omega, by
                              have e : nT (setD T (dorL Z.1 (nT Z.1)) q j) = nT T := by simp only [nT]; rw [setD_n (by omega)]
                              have := dl_lt (S := Z.1) (i := j) (by omega)
                              have := hET.tT
                              omega⟩)
                            rw [setD, bitI, ← and1]; exact z
                          exact j_sub (jk_pick [1, 2, 3, 4, 5, 0] rfl) (ih19 (j + 1) (jk_wI M4 5 ((dorL Z.1 (nT Z.1)).getD j 0) (((nI q) >>> ((nI j) &&& 31)) &&& 1)) (by omega) (by omega) sm25 hx5 (hw4.same (by funext z; exact rd_o (by decide))) (hws4.same (by funext z; exact rd_o (by decide))) ((rd_p (by omega)).trans hg4))
                    exact j_sub (jk_pick [1, 2, 3, 4, 5, 0] rfl) (lp20 _ 0 M3 (Nat.lt_succ_self _) (by omega) hs3 hmT hw3 hws3 hg3)
              exact j_sub (jk_pick [1, 2, 3, 4, 0] rfl) (lp11 _ 0 M2 (Nat.lt_succ_self _) (Nat.zero_le _) hs2 ⟨Z.1, hx2, (fun _ _ => Or.inl rfl), okS⟩ hw2 (show WsW Z.1 M2 (dorL Z.1 (nT Z.1)) (dorL Z.1 (nT Z.1)).length from (show (dorL Z.1 (nT Z.1)).length = i by omega) ▸ hws2) hg2)
            · refine j_aload_n 0 dX11_doors_72 rfl ?_
              refine j_getr (q := 28) dX11_doors_73 fX11_111 (shM (Fm.M hs2 hM) sgM_0) rfl (rfM (Fm.M hs2 hM) rfM_0_44) ?_
              refine j_iload 4 dX11_doors_76 rfl ?_
              refine j_aload_n 0 dX11_doors_78 rfl ?_
              refine j_getr (q := 5) dX11_doors_79 fX11_38 (shM (Fm.M hs2 hM) sgM_0) rfl (rfM (Fm.M hs2 hM) rfM_0_13) ?_
              refine j_aload_n 0 dX11_doors_82 rfl ?_
              refine j_getr (q := 27) dX11_doors_83 fX11_108 (shM (Fm.M hs2 hM) sgM_0) rfl (rfM (Fm.M hs2 hM) rfM_0_43) ?_
              refine j_iload 4 dX11_doors_86 rfl ?_
              refine j_ialdN i dX11_doors_88 (shM (Fm.M hs2 hM) sgM_27) (by omega) (by omega) ?_
              refine j_topi (nI ((dorL Z.1 (nT Z.1)).getD i 0)) (hw2 _ (by omega)) ?_
              have hlt := dl_lt (S := Z.1) (i := i) (by omega)
              refine j_ialdN ((dorL Z.1 (nT Z.1)).getD i 0) dX11_doors_89 (shM (Fm.M hs2 hM) sgM_5) (by have := dl_lt (S := Z.1) (i := i) (by omega); omega) (by omega) ?_
              refine j_topi (Z.1 13 ((dorL Z.1 (nT Z.1)).getD i 0)) (mr_arT hx2 (k := 3) (by omega) (by decide)) ?_
              refine j_iastN i dX11_doors_90 (shM (Fm.M hs2 hM) sgM_28) (by omega) (by omega) ?_
              have sm26 : Fm PG M (jk_wI M2 28 i (Z.1 13 ((dorL Z.1 (nT Z.1)).getD i 0))) := Fm.w hs2 (by unfold PG PO PH PS; omega)
              refine j_iinc 4 (nI (i + 1)) (L' := [(4, .int (nI (i + 1))), (0, .ref 0), (1, .int (nI (dorL Z.1 (nT Z.1)).length)), (2, .int 0), (3, .int (-1))]) dX11_doors_91 rfl (inc1 i) (by decide) rfl ?_
              refine j_goto (tgt := 66) dX11_doors_94 rfl ?_
              exact j_sub (jk_pick [1, 2, 3, 4, 0] rfl) (ih6 (i + 1) (jk_wI M2 28 i (Z.1 13 ((dorL Z.1 (nT Z.1)).getD i 0))) (by omega) (by omega) sm26 (Fm.mv (P := PS) (Fm.w Fm.rf (by unfold PS; omega)) hx2 PS_H) (hw2.same (by funext z; exact rd_o (by decide))) hws2.st ((rd_p (by omega)).trans hg2))
        exact j_sub (jk_pick [1, 2, 3, 4, 0] rfl) (lp7 _ 0 M1 (Nat.lt_succ_self _) (by omega) hs1 hx hw0 (fun i hi => absurd hi (Nat.not_lt_zero i)) hg1)
      · have hd8 := dorL_8 (S := Z.1) t
        refine j_iload_n 1 dX11_doors_18 rfl ?_
        refine j_bipush 8 dX11_doors_19 bp_8 ?_
        refine j_icmp_geN (tgt := 57) ((dorL Z.1 t).length) 8 dX11_doors_21 rfl (by omega) (by omega) (fun c27 => ?_) (fun c27 => ?_)
        · refine j_iinc 4 (nI (t + 1)) (L' := [(4, .int (nI (t + 1))), (0, .ref 0), (1, .int (nI (dorL Z.1 t).length)), (2, .int 0), (3, .int (-1))]) dX11_doors_57 rfl (inc1 t) (by decide) rfl ?_
          refine j_goto (tgt := 9) dX11_doors_60 rfl ?_
          have hdl : (dorL Z.1 (t + 1)) = dorL Z.1 t := dorL_f (Or.inl (by omega))
          have hdn : nI (dorL Z.1 t).length = nI (dorL Z.1 (t + 1)).length := congrArg nI (by rw [hdl])
          refine j_L (congrArg (fun zz9 : Int32 => ([(4, .int (nI (t + 1))), (0, .ref 0), (1, .int zz9), (2, .int 0), (3, .int (-1))] : List (Nat × Value))) hdn) ?_
          exact j_sub (jk_pick [1, 2, 3, 4, 0] rfl) (ih2 (t + 1) M1 (by omega) (by omega) hs1 hx (by rw [hdl]; exact hw) hg1)
        · refine j_aload_n 0 dX11_doors_24 rfl ?_
          refine j_getr (q := 2) dX11_doors_25 fX11_29 (shM (Fm.M hs1 hM) sgM_0) rfl (rfM (Fm.M hs1 hM) rfM_0_10) ?_
          refine j_iload 4 dX11_doors_28 rfl ?_
          refine j_ialdN t dX11_doors_30 (shM (Fm.M hs1 hM) sgM_2) (by omega) (by omega) ?_
          refine j_topi (Z.1 10 t) (mr_arT hx (k := 0) (by omega) (by decide)) ?_
          refine j_iconst 2 dX11_doors_31 ic_2 ?_
          refine j_icmp_eq (tgt := 46) dX11_doors_32 rfl (fun c28 => ?_) (fun c28 => ?_)
          · refine j_aload_n 0 dX11_doors_46 rfl ?_
            refine j_getr (q := 27) dX11_doors_47 fX11_108 (shM (Fm.M hs1 hM) sgM_0) rfl (rfM (Fm.M hs1 hM) rfM_0_43) ?_
            refine j_iload_n 1 dX11_doors_50 rfl ?_
            refine j_iinc 1 (nI ((dorL Z.1 t).length + 1)) (L' := [(1, .int (nI ((dorL Z.1 t).length + 1))), (0, .ref 0), (2, .int 0), (3, .int (-1)), (4, .int (nI t))]) dX11_doors_51 rfl (inc1 ((dorL Z.1 t).length)) (by decide) rfl ?_
            refine j_iload 4 dX11_doors_54 rfl ?_
            refine j_iastN ((dorL Z.1 t).length) dX11_doors_56 (shM (Fm.M hs1 hM) sgM_27) (by omega) (by omega) ?_
            have sm29 : Fm PG M (jk_wI M1 27 ((dorL Z.1 t).length) (nI t)) := Fm.w hs1 (by unfold PG PO PH PS; omega)
            refine j_iinc 4 (nI (t + 1)) (L' := [(4, .int (nI (t + 1))), (1, .int (nI ((dorL Z.1 t).length + 1))), (0, .ref 0), (2, .int 0), (3, .int (-1))]) dX11_doors_57 rfl (inc1 t) (by decide) rfl ?_
            refine j_goto (tgt := 9) dX11_doors_60 rfl ?_
            have hdl : (dorL Z.1 (t + 1)) = dorL Z.1 t ++ [t] := dorL_t (by omega) ((one2 (okS.th (by omega)).1).mpr (by clear hQ; grind))
            have hdn : nI ((dorL Z.1 t).length + 1) = nI (dorL Z.1 (t + 1)).length := congrArg nI (by rw [hdl]; simp)
            refine j_L (congrArg (fun zz9 : Int32 => ([(4, .int (nI (t + 1))), (1, .int zz9), (0, .ref 0), (2, .int 0), (3, .int (-1))] : List (Nat × Value))) hdn) ?_
            exact j_sub (jk_pick [2, 1, 3, 4, 0] rfl) (ih2 (t + 1) (jk_wI M1 27 ((dorL Z.1 t).length) (nI t)) (by omega) (by omega) sm29 (Fm.mv (P := PS) (Fm.w Fm.rf (by unfold PS; omega)) hx PS_H) (by rw [hdl]; exact hw.app) ((rd_p (by omega)).trans hg1))
          · refine j_aload_n 0 dX11_doors_35 rfl ?_
            refine j_getr (q := 2) dX11_doors_36 fX11_29 (shM (Fm.M hs1 hM) sgM_0) rfl (rfM (Fm.M hs1 hM) rfM_0_10) ?_
            refine j_iload 4 dX11_doors_39 rfl ?_
            refine j_ialdN t dX11_doors_41 (shM (Fm.M hs1 hM) sgM_2) (by omega) (by omega) ?_
            refine j_topi (Z.1 10 t) (mr_arT hx (k := 0) (by omega) (by decide)) ?_
            refine j_iconst 5 dX11_doors_42 ic_5 ?_
            refine j_icmp_ne (tgt := 57) dX11_doors_43 rfl (fun c30 => ?_) (fun c30 => ?_)
            · refine j_iinc 4 (nI (t + 1)) (L' := [(4, .int (nI (t + 1))), (0, .ref 0), (1, .int (nI (dorL Z.1 t).length)), (2, .int 0), (3, .int (-1))]) dX11_doors_57 rfl (inc1 t) (by decide) rfl ?_
              refine j_goto (tgt := 9) dX11_doors_60 rfl ?_
              have hdl : (dorL Z.1 (t + 1)) = dorL Z.1 t := dorL_f (Or.inr (fun z => by have z2 := (one2 (okS.th (by omega)).1).mp z; clear hQ; grind))
              have hdn : nI (dorL Z.1 t).length = nI (dorL Z.1 (t + 1)).length := congrArg nI (by rw [hdl])
              refine j_L (congrArg (fun zz9 : Int32 => ([(4, .int (nI (t + 1))), (0, .ref 0), (1, .int zz9), (2, .int 0), (3, .int (-1))] : List (Nat × Value))) hdn) ?_
              exact j_sub (jk_pick [1, 2, 3, 4, 0] rfl) (ih2 (t + 1) M1 (by omega) (by omega) hs1 hx (by rw [hdl]; exact hw) hg1)
            · refine j_aload_n 0 dX11_doors_46 rfl ?_
              refine j_getr (q := 27) dX11_doors_47 fX11_108 (shM (Fm.M hs1 hM) sgM_0) rfl (rfM (Fm.M hs1 hM) rfM_0_43) ?_
              refine j_iload_n 1 dX11_doors_50 rfl ?_
              refine j_iinc 1 (nI ((dorL Z.1 t).length + 1)) (L' := [(1, .int (nI ((dorL Z.1 t).length + 1))), (0, .ref 0), (2, .int 0), (3, .int (-1)), (4, .int (nI t))]) dX11_doors_51 rfl (inc1 ((dorL Z.1 t).length)) (by decide) rfl ?_
              refine j_iload 4 dX11_doors_54 rfl ?_
              refine j_iastN ((dorL Z.1 t).length) dX11_doors_56 (shM (Fm.M hs1 hM) sgM_27) (by omega) (by omega) ?_
              have sm31 : Fm PG M (jk_wI M1 27 ((dorL Z.1 t).length) (nI t)) := Fm.w hs1 (by unfold PG PO PH PS; omega)
              refine j_iinc 4 (nI (t + 1)) (L' := [(4, .int (nI (t + 1))), (1, .int (nI ((dorL Z.1 t).length + 1))), (0, .ref 0), (2, .int 0), (3, .int (-1))]) dX11_doors_57 rfl (inc1 t) (by decide) rfl ?_
              refine j_goto (tgt := 9) dX11_doors_60 rfl ?_
              have hdl : (dorL Z.1 (t + 1)) = dorL Z.1 t ++ [t] := dorL_t (by omega) ((one2 (okS.th (by omega)).1).mpr (by clear hQ; grind))
              have hdn : nI ((dorL Z.1 t).length + 1) = nI (dorL Z.1 (t + 1)).length := congrArg nI (by rw [hdl]; simp)
              refine j_L (congrArg (fun zz9 : Int32 => ([(4, .int (nI (t + 1))), (1, .int zz9), (0, .ref 0), (2, .int 0), (3, .int (-1))] : List (Nat × Value))) hdn) ?_
              exact j_sub (jk_pick [2, 1, 3, 4, 0] rfl) (ih2 (t + 1) (jk_wI M1 27 ((dorL Z.1 t).length) (nI t)) (by omega) (by omega) sm31 (Fm.mv (P := PS) (Fm.w Fm.rf (by unfold PS; omega)) hx PS_H) (by rw [hdl]; exact hw.app) ((rd_p (by omega)).trans hg1))
  exact j_sub (jk_pick [4, 3, 2, 1, 0] rfl) (lp3 _ 0 M (Nat.lt_succ_self _) (by omega) Fm.rf hS (fun i hi => absurd hi (Nat.not_lt_zero i)) h40)
