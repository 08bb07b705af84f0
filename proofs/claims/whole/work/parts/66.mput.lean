/-! where to put a box, by the model -/
def EqA (S T : HS) : Prop := ∀ a i, a ≠ 5 → a ≠ 6 → T a i = S a i
section EQA
variable {S T : HS} (h : EqA S T)
theorem EqA.tT (h : EqA S T) : nT T = nT S := by simp only [nT]; rw [h 7 0 (by decide) (by decide)]
theorem EqA.tN (h : EqA S T) : nN T = nN S := by simp only [nN]; rw [h 8 0 (by decide) (by decide)]
theorem EqA.tD (h : EqA S T) : nD T = nD S := by simp only [nD]; rw [h 9 0 (by decide) (by decide)]
theorem EqA.tS (h : EqA S T) : nS T = nS S := by simp only [nS]; rw [h 0 0 (by decide) (by decide)]
theorem EqA.tC (h : EqA S T) (c : Int32) : isC T c = isC S c := by simp only [isC]; rw [h 0 0 (by decide) (by decide)]
theorem EqA.loss (h : EqA S T) : lossC T = lossC S := loss_min h.tT (fun b i h1 h2 => h b i (by omega) (by omega))
theorem EqA.hum (h : EqA S T) (c : Int32) : humC T c = humC S c := hum_eq h.tT (fun b i h1 h2 => h b i (by omega) (by omega)) (h 3 0 (by decide) (by decide)) c
theorem EqA.din (h : EqA S T) : dinS T (T 2 0) = dinS S (S 2 0) := by rw [h 2 0 (by decide) (by decide)]; exact din_eq h.tN (fun b i h1 h2 => h b i (by omega) (by omega))
theorem EqA.str (h : EqA S T) (f c : Int32) : strS T f c = strS S f c := by
  unfold strS wayS
  rw [h.loss, h.hum, h.din, h 1 0 (by decide) (by decide)]
theorem EqA.sby (h : EqA S T) (c e : Int32) : servBy T c e = servBy S c e := by
  have hr : ∀ i c, rchS T i c = rchS S i c := fun i c => by
    unfold rchS
    rw [h 16 i (by decide) (by decide), h.str]
  have hg : servBy T c e = sm (fun i => if T 17 i ≤ jmax (rchS T i c) (jmin (rchS T i e / 2) (barsBy (strS T c e))) then T 18 i else 0) (nD T) := rfl
  rw [hg, h.tD]
  refine sm_congr (fun i _ => ?_)
  rw [hr, hr, h.str, h 17 i (by decide) (by decide), h 18 i (by decide) (by decide)]
theorem EqA.lk {M : jk_M} (h : EqA S T) (l : LkO S M) : LkO T M := ⟨fun c hc => by rw [h.loss]; exact l.1 c hc, fun c hc => by rw [h.tC] at hc; rw [h.hum]; exact l.2.1 c hc, by rw [h.din]; exact l.2.2⟩
end EQA
theorem EqA.u5 {S : HS} {x : Int32} : EqA S (upS S 5 0 x) := fun a i h1 _ => upS_n (fun z => h1 z.1)
theorem EqA.u6 {S : HS} {x : Int32} : EqA S (upS S 6 0 x) := fun a i _ h1 => upS_n (fun z => h1 z.1)
theorem upS_id {S : HS} {a : Nat} : upS S a 0 (S a 0) = S := by
  funext b i
  by_cases h : b = a ∧ i = 0
  · obtain ⟨rfl, rfl⟩ := h; exact upS_s
  · exact upS_n h
theorem upS_up {S : HS} {a i : Nat} {x y : Int32} : upS (upS S a i x) a i y = upS S a i y := by
  funext b j
  by_cases h : b = a ∧ j = i
  · obtain ⟨rfl, rfl⟩ := h; rw [upS_s, upS_s]
  · rw [upS_n h, upS_n h, upS_n h]
theorem LkO.fm {P : Nat → Nat → Prop} {S : HS} {M M1 : jk_M} (l : LkO S M) (s : Fm P M M1) (h : ∀ k, ¬ P 24 k ∧ ¬ P 25 k) (h2 : ¬ P 0 39) : LkO S M1 := ⟨fun c hc => (s.rd (h c).1).trans (l.1 c hc), fun c hc => (s.rd (h _).2).trans (l.2.1 c hc), (s.rd h2).trans l.2.2⟩
def PBp (q k : Nat) : Prop := q = 12 ∨ (q = 0 ∧ k = 41)
theorem LkO.bp {S : HS} {M M1 : jk_M} (l : LkO S M) (s : Fm PBp M M1) : LkO S M1 := l.fm s (fun k => by unfold PBp; omega) (by unfold PBp; omega)
noncomputable def bpF (S : HS) (b : Int32) (n : Nat) : Int32 × Int32 := fmx (fun c => isC S (nI c)) (placeF S b) nI (-1) (-1) n
theorem bpF_k {S : HS} {b : Int32} (n : Nat) (_ : n < 100) (h : ¬ isC S (nI n)) : bpF S b (n + 1) = bpF S b n := fmx_f (Or.inl h)
theorem fmx_b {P : Nat → Prop} {f g : Nat → Int32} {b b2 m : Int32} (h0 : P 0) (hf : m < f 0) : ∀ n, fmx P f g b m (n + 1) = fmx P f g b2 m (n + 1)
  | 0 => by rw [fmx_t (n := 0) h0 hf, fmx_t (n := 0) h0 hf]
  | n + 1 => by
    have e := fmx_b (g := g) (b := b) (b2 := b2) h0 hf n
    by_cases h : P (n + 1) ∧ (fmx P f g b m (n + 1)).2 < f (n + 1)
    · rw [fmx_t h.1 h.2, fmx_t h.1 (by rw [← e]; exact h.2)]
    · have h1 : ¬ P (n + 1) ∨ ¬ (fmx P f g b m (n + 1)).2 < f (n + 1) := by
        by_cases a : P (n + 1)
        · exact Or.inr (fun b => h ⟨a, b⟩)
        · exact Or.inl a
      exact (fmx_f h1).trans (e.trans (fmx_f (by rw [← e]; exact h1)).symm)
theorem isC00 {S : HS} (ok : Sok S) : isC S (nI 0) := isC_of ok (by decide) (by have := ok.S.2.1; omega) (by have := ok.S.2.1; omega)
theorem n1lt {x : Int32} (h : 0 ≤ x) : -1 < x := by grind
theorem place_ge {S : HS} (ok : Sok S) (b : Int32) (n : Nat) : 0 ≤ placeF S b n := by
  unfold placeF
  split
  · exact (servBy_le ok _ _).1
  · exact (servBy_le ok _ _).1
theorem place_e {S : HS} (ok : Sok S) (b : Int32) : placeS S b = (bpF S b 80).1 := by
  rw [placeS, bpF, fmx_b (isC00 ok) (n1lt (place_ge ok b 0)) 79 (b2 := -1)]
theorem serv_at0 {S : HS} {n : Nat} : servS (upS S 5 0 (nI n)) = placeF S 0 n := by
  rw [servS, EqA.u5.sby, upS_s, upS_n (by omega), placeF, if_pos rfl]
theorem serv_at1 {S : HS} {n : Nat} : servS (upS S 6 0 (nI n)) = placeF S 1 n := by
  rw [servS, EqA.u6.sby, upS_s, upS_n (by omega), placeF, if_neg (by decide)]
theorem T_servB0 {d : Nat} {S : HS} {M : jk_M} {n : Nat} (hM : WM M) (hT : mv M.2.1 = upS S 5 0 (nI n)) (ok : Sok S) (hc : isC S (nI n)) (hk : LkO S M) : J Fr_X11_served (d + 6) 0 0 0 [(0, .ref 0)] [] M (jk_is (some (.int (placeF S 0 n))) M) := by
  rw [← serv_at0]; exact T_X11_served hM (MEq.of hT) (ok.u5 hc) (EqA.u5.lk hk)
theorem T_servB1 {d : Nat} {S : HS} {M : jk_M} {n : Nat} (hM : WM M) (hT : mv M.2.1 = upS S 6 0 (nI n)) (ok : Sok S) (hc : isC S (nI n)) (hk : LkO S M) : J Fr_X11_served (d + 6) 0 0 0 [(0, .ref 0)] [] M (jk_is (some (.int (placeF S 1 n))) M) := by
  rw [← serv_at1]; exact T_X11_served hM (MEq.of hT) (ok.u6 (Or.inr hc)) (EqA.u6.lk hk)
/-! both boxes -/
noncomputable def pF (S : HS) (n : Nat) : Int32 × Int32 := fmx (fun k => isC S (nI (k / 80)) ∧ isC S (nI (k % 80))) (fun k => servBy S (nI (k / 80)) (nI (k % 80))) (fun k => nI (100 * (k / 80) + k % 80)) (-1) (-1) n
noncomputable def ptF (S : HS) (n : Nat) : Int32 × Int32 := pF S (80 * n)
noncomputable def innF (S : HS) (o n : Nat) : Int32 × Int32 := fmx (fun c => isC S (nI c)) (fun c => servBy S (nI o) (nI c)) nI (-1) (-1) n
theorem ptF_k {S : HS} (n : Nat) (_ : n < 100) (h : ¬ isC S (nI n)) : ptF S (n + 1) = ptF S n := by
  rw [ptF, ptF, pF, pF, show 80 * (n + 1) = 80 * n + 80 by omega]
  exact fmx_skip (80 * n) 80 (fun j h1 h2 z => h (by have := z.1; rw [show j / 80 = n by omega] at this; exact this))
theorem pF_in {S : HS} {o : Nat} (ho : isC S (nI o)) (ho80 : o < 80) : ∀ j, j ≤ 80 → pF S (80 * o + j) = if (pF S (80 * o)).2 < (innF S o j).2 then (100 * nI o + (innF S o j).1, (innF S o j).2) else pF S (80 * o)
  | 0, _ => by
    have h := fmx_ge (P := fun k => isC S (nI (k / 80)) ∧ isC S (nI (k % 80))) (f := fun k => servBy S (nI (k / 80)) (nI (k % 80))) (g := fun k => nI (100 * (k / 80) + k % 80)) (b := -1) (m := -1) (80 * o)
    have e : (innF S o 0).2 = -1 := rfl
    rw [if_neg (by rw [e]; exact Int32.not_lt.mpr h)]; rfl
  | j + 1, hj => by
    have ih := pF_in ho ho80 j (by omega)
    have e1 : (80 * o + j) / 80 = o := by omega
    have e2 : (80 * o + j) % 80 = j := by omega
    have eg : nI (100 * ((80 * o + j) / 80) + (80 * o + j) % 80) = 100 * nI o + nI j := by rw [e1, e2, ← nI_add, ← pk_mul]; rfl
    show pF S (80 * o + j + 1) = _
    by_cases hc : isC S (nI j)
    · by_cases hf : (innF S o j).2 < servBy S (nI o) (nI j)
      · have ei : innF S o (j + 1) = (nI j, servBy S (nI o) (nI j)) := fmx_t hc hf
        rw [ei]
        by_cases hA : (pF S (80 * o)).2 < servBy S (nI o) (nI j)
        · rw [if_pos hA]
          have hcur : (pF S (80 * o + j)).2 < servBy S (nI ((80 * o + j) / 80)) (nI ((80 * o + j) % 80)) := by
            rw [ih, e1, e2]; split
            · exact hf
            · exact hA
          have := fmx_t (P := fun k => isC S (nI (k / 80)) ∧ isC S (nI (k % 80))) (f := fun k => servBy S (nI (k / 80)) (nI (k % 80))) (g := fun k => nI (100 * (k / 80) + k % 80)) (b := -1) (m := -1) (n := 80 * o + j) ⟨by rw [e1]; exact ho, by rw [e2]; exact hc⟩ hcur
          rw [show pF S (80 * o + j + 1) = _ from this]
          simp only [eg]
          rw [e1, e2]
        · rw [if_neg hA]
          have hn : ¬ (pF S (80 * o)).2 < (innF S o j).2 := fun z => hA (Int32.lt_trans z hf)
          rw [if_neg hn] at ih
          have := fmx_f (P := fun k => isC S (nI (k / 80)) ∧ isC S (nI (k % 80))) (f := fun k => servBy S (nI (k / 80)) (nI (k % 80))) (g := fun k => nI (100 * (k / 80) + k % 80)) (b := -1) (m := -1) (n := 80 * o + j) (Or.inr (fun z => by
            have z : (pF S (80 * o + j)).2 < _ := z
            rw [ih] at z
            simp only [e1, e2] at z
            exact hA z))
          exact (show pF S (80 * o + j + 1) = pF S (80 * o + j) from this).trans ih
      · have ei : innF S o (j + 1) = innF S o j := fmx_f (Or.inr hf)
        rw [ei]
        have := fmx_f (P := fun k => isC S (nI (k / 80)) ∧ isC S (nI (k % 80))) (f := fun k => servBy S (nI (k / 80)) (nI (k % 80))) (g := fun k => nI (100 * (k / 80) + k % 80)) (b := -1) (m := -1) (n := 80 * o + j) (Or.inr (fun z => by
            have z : (pF S (80 * o + j)).2 < _ := z
            rw [ih] at z
            simp only [e1, e2] at z
            split at z
            · exact hf z
            · rename_i hA; exact hf (Int32.lt_of_le_of_lt (Int32.not_lt.mp hA) z)))
        exact (show pF S (80 * o + j + 1) = pF S (80 * o + j) from this).trans ih
    · have ei : innF S o (j + 1) = innF S o j := fmx_f (Or.inl hc)
      rw [ei]
      have := fmx_f (P := fun k => isC S (nI (k / 80)) ∧ isC S (nI (k % 80))) (f := fun k => servBy S (nI (k / 80)) (nI (k % 80))) (g := fun k => nI (100 * (k / 80) + k % 80)) (b := -1) (m := -1) (n := 80 * o + j) (Or.inl (fun z => hc (by have := z.2; rw [e2] at this; exact this)))
      exact (show pF S (80 * o + j + 1) = pF S (80 * o + j) from this).trans ih
theorem ptF_s {S : HS} {o : Nat} (ho : isC S (nI o)) (ho80 : o < 80) : ptF S (o + 1) = if (ptF S o).2 < (innF S o 80).2 then (100 * nI o + (innF S o 80).1, (innF S o 80).2) else ptF S o := by
  rw [ptF, show 80 * (o + 1) = 80 * o + 80 by omega, pF_in ho ho80 80 (Nat.le_refl _)]; rfl
theorem pair_e {S : HS} (ok : Sok S) : pairS S = (ptF S 80).1 := by
  rw [ptF, pairS, pF, show 80 * 80 = 6399 + 1 from rfl]
  rw [fmx_b (P := fun k => isC S (nI (k / 80)) ∧ isC S (nI (k % 80))) (f := fun k => servBy S (nI (k / 80)) (nI (k % 80))) ⟨isC00 ok, isC00 ok⟩ (n1lt (servBy_le ok _ _).1) 6399 (b2 := -1)]
theorem inn_e {S : HS} {o : Nat} (n : Nat) : bpF (upS S 5 0 (nI o)) 1 n = innF S o n := by
  have h := EqA.u5 (S := S) (x := nI o)
  have eP : (fun c => isC (upS S 5 0 (nI o)) (nI c)) = fun c => isC S (nI c) := by funext c; exact h.tC _
  have eF : placeF (upS S 5 0 (nI o)) 1 = fun c => servBy S (nI o) (nI c) := by
    funext c
    rw [placeF, if_neg (by decide), h.sby, upS_s]
  rw [bpF, eP, eF]; rfl
set_option maxRecDepth 20000 in
set_option maxHeartbeats 4000000 in
theorem T_best0 {d : Nat} {M : jk_M} {S : HS} (hM : WM M) (hS : mv M.2.1 = S) (ok : Sok S) (hk : LkO S M) : J Fr_X11_bestPlace (d + 7) 0 0 0 [(0, .ref 0), (1, .int 0)] [] M (jk_ex (some (.int (bpF S 0 80).1)) (fun M1 => Fm PBp M M1 ∧ mv M1.2.1 = S ∧ M1.2.1 0 41 = (bpF S 0 80).2)) := by
  refine j_post (fun Q hQ => ?_)
  have h8 := (Sok.S ok).2.2
  refine j_aload_n 0 dX11_bestPlace_0 rfl ?_
  refine j_getr (q := 12) dX11_bestPlace_1 fX11_59 (shM hM sgM_0) rfl (rfM hM rfM_0_20) ?_
  refine j_iload_n 1 dX11_bestPlace_4 rfl ?_
  refine j_ialdN 0 dX11_bestPlace_5 (shM hM sgM_12) (by omega) (by omega) ?_
  refine j_topi (S 5 0) (mr_b0 hS) ?_
  refine j_istore_n (L' := [(2, .int (S 5 0)), (0, .ref 0), (1, .int 0)]) dX11_bestPlace_6 (by decide) rfl ?_
  refine j_iconst (-1) dX11_bestPlace_7 ic_n1 ?_
  refine j_istore_n (L' := [(3, .int (-1)), (2, .int (S 5 0)), (0, .ref 0), (1, .int 0)]) dX11_bestPlace_8 (by decide) rfl ?_
  refine j_iconst (-1) dX11_bestPlace_9 ic_n1 ?_
  refine j_istore (L' := [(4, .int (-1)), (3, .int (-1)), (2, .int (S 5 0)), (0, .ref 0), (1, .int 0)]) dX11_bestPlace_10 (by decide) rfl ?_
  refine j_iconst 0 dX11_bestPlace_12 ic_0 ?_
  refine j_istore (L' := [(5, .int 0), (4, .int (-1)), (3, .int (-1)), (2, .int (S 5 0)), (0, .ref 0), (1, .int 0)]) dX11_bestPlace_13 (by decide) rfl ?_
  have z1 : (-1 : Int32) = (bpF S 0 (10 * 0)).1 := rfl
  have z2 : (-1 : Int32) = (bpF S 0 (10 * 0)).2 := rfl
  refine j_L (congrArg (fun zz9 : Int32 => ([(5, .int 0), (4, .int (-1)), (3, .int zz9), (2, .int (S 5 0)), (0, .ref 0), (1, .int 0)] : List (Nat × Value))) z1) ?_
  refine j_L (congrArg (fun zz9 : Int32 => ([(5, .int 0), (4, .int zz9), (3, .int (bpF S 0 (10 * 0)).1), (2, .int (S 5 0)), (0, .ref 0), (1, .int 0)] : List (Nat × Value))) z2) ?_
  have lp3 : ∀ (k1 : Nat) (r : Nat) (M1 : jk_M), nS S - r < k1 → (r ≤ nS S) → (Fm PBp M M1) → (∃ x, mv M1.2.1 = upS S 5 0 x) → J Fr_X11_bestPlace (d + 7) 0 0 15 [(0, .ref 0), (1, .int 0), (2, .int (S 5 0)), (3, .int (bpF S 0 (10 * r)).1), (4, .int (bpF S 0 (10 * r)).2), (5, .int (nI r))] [] M1 Q := by
    intro k1
    induction k1 with
    | zero => intro r M1 hk; exact absurd hk (Nat.not_lt_zero _)
    | succ k1 ih2 =>
      intro r M1 hk1 hr hs1 hxx
      refine j_iload 5 dX11_bestPlace_15 rfl ?_
      obtain ⟨x, hx⟩ := hxx
      refine j_aload_n 0 dX11_bestPlace_17 rfl ?_
      refine j_getv (nI (nS S)) dX11_bestPlace_18 fX11_7 (shM (Fm.M hs1 hM) sgM_0) rfl (((mr_side hx).trans (upS_n (by omega))).trans (Sok.S ok).1) ?_
      refine j_icmp_geN (tgt := 89) r (nS S) dX11_bestPlace_21 rfl (by omega) (by omega) (fun c4 => ?_) (fun c4 => ?_)
      · have hend : (bpF S 0 (10 * r)) = (bpF S 0 80) := by
          rw [show r = nS S by omega]; exact sk_end ok (g := fun n_ => (bpF S 0 n_)) bpF_k
        refine j_aload_n 0 dX11_bestPlace_89 rfl ?_
        refine j_getr (q := 12) dX11_bestPlace_90 fX11_59 (shM (Fm.M hs1 hM) sgM_0) rfl (rfM (Fm.M hs1 hM) rfM_0_20) ?_
        refine j_iload_n 1 dX11_bestPlace_93 rfl ?_
        refine j_iload_n 2 dX11_bestPlace_94 rfl ?_
        refine j_iastN 0 dX11_bestPlace_95 (shM (Fm.M hs1 hM) sgM_12) (by omega) (by omega) ?_
        have sm5 : Fm PBp M (jk_wI M1 12 0 (S 5 0)) := Fm.w hs1 (by unfold PBp; omega)
        refine j_aload_n 0 dX11_bestPlace_96 rfl ?_
        refine j_iload 4 dX11_bestPlace_97 rfl ?_
        refine j_put dX11_bestPlace_99 fX11_266 (shM (Fm.M sm5 hM) sgM_0) rfl ?_
        have sm6 : Fm PBp M (jk_wI (jk_wI M1 12 0 (S 5 0)) 0 41 (bpF S 0 (10 * r)).2) := Fm.w sm5 (by unfold PBp; omega)
        refine j_iload_n 3 dX11_bestPlace_102 rfl ?_
        refine j_iret dX11_bestPlace_103 rfl ?_
        refine hQ _ _ ⟨by rw [hend], sm6, ?_, by rw [← hend]; exact rd_s⟩
        have q1 := mv_sc (a := 5) (x := S 5 0) hx (by decide) (by decide) (by decide) (by decide)
        rw [upS_up, upS_id] at q1
        exact Fm.mv (P := fun q k => q = 0 ∧ k = 41) (Fm.rf.w ⟨rfl, rfl⟩) q1 (fun q k h z => by have z : q = 0 ∧ k = 41 := z; unfold PH at h; omega)
      · refine j_iconst 0 dX11_bestPlace_24 ic_0 ?_
        refine j_istore (L' := [(6, .int 0), (0, .ref 0), (1, .int 0), (2, .int (S 5 0)), (3, .int (bpF S 0 (10 * r)).1), (4, .int (bpF S 0 (10 * r)).2), (5, .int (nI r))]) dX11_bestPlace_25 (by decide) rfl ?_
        have w1 : (bpF S 0 (10 * r)).1 = (bpF S 0 (10 * r + 0)).1 := rfl
        have w2 : (bpF S 0 (10 * r)).2 = (bpF S 0 (10 * r + 0)).2 := rfl
        refine j_L (congrArg (fun zz9 : Int32 => ([(6, .int 0), (0, .ref 0), (1, .int 0), (2, .int (S 5 0)), (3, .int zz9), (4, .int (bpF S 0 (10 * r)).2), (5, .int (nI r))] : List (Nat × Value))) w1) ?_
        refine j_L (congrArg (fun zz9 : Int32 => ([(6, .int 0), (0, .ref 0), (1, .int 0), (2, .int (S 5 0)), (3, .int (bpF S 0 (10 * r + 0)).1), (4, .int zz9), (5, .int (nI r))] : List (Nat × Value))) w2) ?_
        have lp9 : ∀ (k7 : Nat) (c : Nat) (M2 : jk_M), nS S - c < k7 → (c ≤ nS S) → (Fm PBp M M2) → (∃ x, mv M2.2.1 = upS S 5 0 x) → J Fr_X11_bestPlace (d + 7) 0 0 27 [(0, .ref 0), (1, .int 0), (2, .int (S 5 0)), (3, .int (bpF S 0 (10 * r + c)).1), (4, .int (bpF S 0 (10 * r + c)).2), (5, .int (nI r)), (6, .int (nI c))] [] M2 Q := by
          intro k7
          induction k7 with
          | zero => intro c M2 hk; exact absurd hk (Nat.not_lt_zero _)
          | succ k7 ih8 =>
            intro c M2 hk7 hc hs2 hyy
            refine j_iload 6 dX11_bestPlace_27 rfl ?_
            obtain ⟨x, hx⟩ := hyy
            refine j_aload_n 0 dX11_bestPlace_29 rfl ?_
            refine j_getv (nI (nS S)) dX11_bestPlace_30 fX11_7 (shM (Fm.M hs2 hM) sgM_0) rfl (((mr_side hx).trans (upS_n (by omega))).trans (Sok.S ok).1) ?_
            refine j_icmp_geN (tgt := 83) c (nS S) dX11_bestPlace_33 rfl (by omega) (by omega) (fun c10 => ?_) (fun c10 => ?_)
            · refine j_iinc 5 (nI (r + 1)) (L' := [(5, .int (nI (r + 1))), (0, .ref 0), (1, .int 0), (2, .int (S 5 0)), (3, .int (bpF S 0 (10 * r + c)).1), (4, .int (bpF S 0 (10 * r + c)).2), (6, .int (nI c))]) dX11_bestPlace_83 rfl (inc1 r) (by decide) rfl ?_
              refine j_goto (tgt := 15) dX11_bestPlace_86 rfl ?_
              have hrow : (bpF S 0 (10 * r + c)) = (bpF S 0 (10 * (r + 1))) := by
                rw [show c = nS S by omega]; exact sk_row ok (g := fun n_ => (bpF S 0 n_)) bpF_k (by omega)
              have hr1 := congrArg Prod.fst hrow
              have hr2 := congrArg Prod.snd hrow
              refine j_L (congrArg (fun zz9 : Int32 => ([(5, .int (nI (r + 1))), (0, .ref 0), (1, .int 0), (2, .int (S 5 0)), (3, .int zz9), (4, .int (bpF S 0 (10 * r + c)).2), (6, .int (nI c))] : List (Nat × Value))) hr1) ?_
              refine j_L (congrArg (fun zz9 : Int32 => ([(5, .int (nI (r + 1))), (0, .ref 0), (1, .int 0), (2, .int (S 5 0)), (3, .int (bpF S 0 (10 * (r + 1))).1), (4, .int zz9), (6, .int (nI c))] : List (Nat × Value))) hr2) ?_
              exact j_sub (jk_pick [1, 2, 3, 4, 5, 0] rfl) (ih2 (r + 1) M2 (by omega) (by omega) hs2 ⟨x, hx⟩)
            · have hcell := isC_of (n := 10 * r + c) ok (show 10 * r + c < 80 by omega) (by omega) (by omega)
              refine j_aload_n 0 dX11_bestPlace_36 rfl ?_
              refine j_getr (q := 12) dX11_bestPlace_37 fX11_59 (shM (Fm.M hs2 hM) sgM_0) rfl (rfM (Fm.M hs2 hM) rfM_0_20) ?_
              refine j_iload_n 1 dX11_bestPlace_40 rfl ?_
              refine j_bipush 10 dX11_bestPlace_41 bp_10 ?_
              refine j_iload 5 dX11_bestPlace_43 rfl ?_
              refine j_imulN 10 r dX11_bestPlace_45 ?_
              refine j_iload 6 dX11_bestPlace_46 rfl ?_
              refine j_iaddN (10 * r) c dX11_bestPlace_48 ?_
              refine j_iastN 0 dX11_bestPlace_49 (shM (Fm.M hs2 hM) sgM_12) (by omega) (by omega) ?_
              have sm11 : Fm PBp M (jk_wI M2 12 0 (nI ((10 * r) + c))) := Fm.w hs2 (by unfold PBp; omega)
              have hT : mv (jk_wI M2 12 0 (nI ((10 * r) + c))).2.1 = upS S 5 0 (nI (10 * r + c)) := by
                have q := mv_sc (a := 5) (x := nI (10 * r + c)) hx (by decide) (by decide) (by decide) (by decide)
                rw [upS_up] at q; exact q
              refine j_aload_n 0 dX11_bestPlace_50 rfl ?_
              refine j_callV (kc := 0) (ks := 0) (a := 0) (b := 0) (d' := (d + 6)) (As := []) dX11_bestPlace_51 kX11_263 rfl (shM (Fm.M sm11 hM) sgM_0) (by omega) rfl rfl rfl (Nat.le_of_ble_eq_true rfl) (Nat.le_of_ble_eq_true rfl) (T_servB0 (Fm.M sm11 hM) hT ok hcell (LkO.bp hk sm11)) (kk_p ?_)
              refine j_istore (L' := [(7, .int (placeF S 0 (10 * r + c))), (0, .ref 0), (1, .int 0), (2, .int (S 5 0)), (3, .int (bpF S 0 (10 * r + c)).1), (4, .int (bpF S 0 (10 * r + c)).2), (5, .int (nI r)), (6, .int (nI c))]) dX11_bestPlace_54 (by decide) rfl ?_
              refine j_iload 0 dX11_bestPlace_56 rfl ?_
              refine j_iload 5 dX11_bestPlace_58 rfl ?_
              refine j_icmp_gt (tgt := 66) dX11_bestPlace_60 rfl (fun c12 => ?_) (fun c12 => ?_)
              · refine j_aload_n 1 dX11_bestPlace_66 rfl ?_
                refine j_getr (q := 12) dX11_bestPlace_67 fX11_59 (shM (Fm.M sm11 hM) sgM_0) rfl (rfM (Fm.M sm11 hM) rfM_0_20) ?_
                refine j_iload_n 2 dX11_bestPlace_70 rfl ?_
                refine j_ialdN 0 dX11_bestPlace_71 (shM (Fm.M sm11 hM) sgM_12) (by omega) (by omega) ?_
                refine j_topi (nI ((10 * r) + c)) rd_s ?_
                refine j_istore_n (L' := [(3, .int (nI ((10 * r) + c))), (7, .int (placeF S 0 (10 * r + c))), (0, .ref 0), (1, .int 0), (2, .int (S 5 0)), (4, .int (bpF S 0 (10 * r + c)).2), (5, .int (nI r)), (6, .int (nI c))]) dX11_bestPlace_72 (by decide) rfl ?_
                refine j_iload 1 dX11_bestPlace_73 rfl ?_
                refine j_istore (L' := [(4, .int (placeF S 0 (10 * r + c))), (3, .int (nI ((10 * r) + c))), (7, .int (placeF S 0 (10 * r + c))), (0, .ref 0), (1, .int 0), (2, .int (S 5 0)), (5, .int (nI r)), (6, .int (nI c))]) dX11_bestPlace_75 (by decide) rfl ?_
                refine j_iinc 7 (nI (c + 1)) (L' := [(6, .int (nI (c + 1))), (4, .int (placeF S 0 (10 * r + c))), (3, .int (nI ((10 * r) + c))), (7, .int (placeF S 0 (10 * r + c))), (0, .ref 0), (1, .int 0), (2, .int (S 5 0)), (5, .int (nI r))]) dX11_bestPlace_77 rfl (inc1 c) (by decide) rfl ?_
                refine j_goto (tgt := 27) dX11_bestPlace_80 rfl ?_
                have hb1 : (bpF S 0 (10 * r + (c + 1))) = ((nI ((10 * r) + c)), (placeF S 0 (10 * r + c))) := fmx_t hcell (c12)
                have hb2 : (nI ((10 * r) + c)) = (bpF S 0 (10 * r + (c + 1))).1 := by rw [hb1]
                have hb3 : (placeF S 0 (10 * r + c)) = (bpF S 0 (10 * r + (c + 1))).2 := by rw [hb1]
                refine j_L (congrArg (fun zz9 : Int32 => ([(6, .int (nI (c + 1))), (4, .int (placeF S 0 (10 * r + c))), (3, .int zz9), (7, .int (placeF S 0 (10 * r + c))), (0, .ref 0), (1, .int 0), (2, .int (S 5 0)), (5, .int (nI r))] : List (Nat × Value))) hb2) ?_
                refine j_L (congrArg (fun zz9 : Int32 => ([(6, .int (nI (c + 1))), (4, .int zz9), (3, .int (bpF S 0 (10 * r + (c + 1))).1), (7, .int (placeF S 0 (10 * r + c))), (0, .ref 0), (1, .int 0), (2, .int (S 5 0)), (5, .int (nI r))] : List (Nat × Value))) hb3) ?_
                exact j_sub (jk_pick [4, 5, 6, 2, 1, 7, 0] rfl) (ih8 (c + 1) (jk_wI M2 12 0 (nI ((10 * r) + c))) (by omega) (by omega) sm11 ⟨_, hT⟩)
              · refine j_goto (tgt := 77) dX11_bestPlace_63 rfl ?_
                refine j_iinc 7 (nI (c + 1)) (L' := [(6, .int (nI (c + 1))), (7, .int (placeF S 0 (10 * r + c))), (0, .ref 0), (1, .int 0), (2, .int (S 5 0)), (3, .int (bpF S 0 (10 * r + c)).1), (4, .int (bpF S 0 (10 * r + c)).2), (5, .int (nI r))]) dX11_bestPlace_77 rfl (inc1 c) (by decide) rfl ?_
                refine j_goto (tgt := 27) dX11_bestPlace_80 rfl ?_
                have hb1 : (bpF S 0 (10 * r + (c + 1))) = ((bpF S 0 (10 * r + c)).1, (bpF S 0 (10 * r + c)).2) := fmx_f (Or.inr (c12))
                have hb2 : (bpF S 0 (10 * r + c)).1 = (bpF S 0 (10 * r + (c + 1))).1 := by rw [hb1]
                have hb3 : (bpF S 0 (10 * r + c)).2 = (bpF S 0 (10 * r + (c + 1))).2 := by rw [hb1]
                refine j_L (congrArg (fun zz9 : Int32 => ([(6, .int (nI (c + 1))), (7, .int (placeF S 0 (10 * r + c))), (0, .ref 0), (1, .int 0), (2, .int (S 5 0)), (3, .int zz9), (4, .int (bpF S 0 (10 * r + c)).2), (5, .int (nI r))] : List (Nat × Value))) hb2) ?_
                refine j_L (congrArg (fun zz9 : Int32 => ([(6, .int (nI (c + 1))), (7, .int (placeF S 0 (10 * r + c))), (0, .ref 0), (1, .int 0), (2, .int (S 5 0)), (3, .int (bpF S 0 (10 * r + (c + 1))).1), (4, .int zz9), (5, .int (nI r))] : List (Nat × Value))) hb3) ?_
                exact j_sub (jk_pick [2, 3, 4, 5, 6, 7, 0] rfl) (ih8 (c + 1) (jk_wI M2 12 0 (nI ((10 * r) + c))) (by omega) (by omega) sm11 ⟨_, hT⟩)
        exact j_sub (jk_pick [1, 2, 3, 4, 5, 6, 0] rfl) (lp9 _ 0 M1 (Nat.lt_succ_self _) (by omega) hs1 ⟨x, hx⟩)
  exact j_sub (jk_pick [4, 5, 3, 2, 1, 0] rfl) (lp3 _ 0 M (Nat.lt_succ_self _) (by omega) Fm.rf ⟨S 5 0, hS.trans upS_id.symm⟩)
set_option maxRecDepth 20000 in
set_option maxHeartbeats 4000000 in
theorem T_best1 {d : Nat} {M : jk_M} {S : HS} (hM : WM M) (hS : mv M.2.1 = S) (ok : Sok S) (hk : LkO S M) : J Fr_X11_bestPlace (d + 7) 0 0 0 [(0, .ref 0), (1, .int 1)] [] M (jk_ex (some (.int (bpF S 1 80).1)) (fun M1 => Fm PBp M M1 ∧ mv M1.2.1 = S ∧ M1.2.1 0 41 = (bpF S 1 80).2)) := by
  refine j_post (fun Q hQ => ?_)
  have h8 := (Sok.S ok).2.2
  refine j_aload_n 0 dX11_bestPlace_0 rfl ?_
  refine j_getr (q := 12) dX11_bestPlace_1 fX11_59 (shM hM sgM_0) rfl (rfM hM rfM_0_20) ?_
  refine j_iload_n 1 dX11_bestPlace_4 rfl ?_
  refine j_ialdN 1 dX11_bestPlace_5 (shM hM sgM_12) (by omega) (by omega) ?_
  refine j_topi (S 6 0) (mr_b1 hS) ?_
  refine j_istore_n (L' := [(2, .int (S 6 0)), (0, .ref 0), (1, .int 1)]) dX11_bestPlace_6 (by decide) rfl ?_
  refine j_iconst (-1) dX11_bestPlace_7 ic_n1 ?_
  refine j_istore_n (L' := [(3, .int (-1)), (2, .int (S 6 0)), (0, .ref 0), (1, .int 1)]) dX11_bestPlace_8 (by decide) rfl ?_
  refine j_iconst (-1) dX11_bestPlace_9 ic_n1 ?_
  refine j_istore (L' := [(4, .int (-1)), (3, .int (-1)), (2, .int (S 6 0)), (0, .ref 0), (1, .int 1)]) dX11_bestPlace_10 (by decide) rfl ?_
  refine j_iconst 0 dX11_bestPlace_12 ic_0 ?_
  refine j_istore (L' := [(5, .int 0), (4, .int (-1)), (3, .int (-1)), (2, .int (S 6 0)), (0, .ref 0), (1, .int 1)]) dX11_bestPlace_13 (by decide) rfl ?_
  have z1 : (-1 : Int32) = (bpF S 1 (10 * 0)).1 := rfl
  have z2 : (-1 : Int32) = (bpF S 1 (10 * 0)).2 := rfl
  refine j_L (congrArg (fun zz9 : Int32 => ([(5, .int 0), (4, .int (-1)), (3, .int zz9), (2, .int (S 6 0)), (0, .ref 0), (1, .int 1)] : List (Nat × Value))) z1) ?_
  refine j_L (congrArg (fun zz9 : Int32 => ([(5, .int 0), (4, .int zz9), (3, .int (bpF S 1 (10 * 0)).1), (2, .int (S 6 0)), (0, .ref 0), (1, .int 1)] : List (Nat × Value))) z2) ?_
  have lp3 : ∀ (k1 : Nat) (r : Nat) (M1 : jk_M), nS S - r < k1 → (r ≤ nS S) → (Fm PBp M M1) → (∃ x, mv M1.2.1 = upS S 6 0 x) → J Fr_X11_bestPlace (d + 7) 0 0 15 [(0, .ref 0), (1, .int 1), (2, .int (S 6 0)), (3, .int (bpF S 1 (10 * r)).1), (4, .int (bpF S 1 (10 * r)).2), (5, .int (nI r))] [] M1 Q := by
    intro k1
    induction k1 with
    | zero => intro r M1 hk; exact absurd hk (Nat.not_lt_zero _)
    | succ k1 ih2 =>
      intro r M1 hk1 hr hs1 hxx
      refine j_iload 5 dX11_bestPlace_15 rfl ?_
      obtain ⟨x, hx⟩ := hxx
      refine j_aload_n 0 dX11_bestPlace_17 rfl ?_
      refine j_getv (nI (nS S)) dX11_bestPlace_18 fX11_7 (shM (Fm.M hs1 hM) sgM_0) rfl (((mr_side hx).trans (upS_n (by omega))).trans (Sok.S ok).1) ?_
      refine j_icmp_geN (tgt := 89) r (nS S) dX11_bestPlace_21 rfl (by omega) (by omega) (fun c4 => ?_) (fun c4 => ?_)
      · have hend : (bpF S 1 (10 * r)) = (bpF S 1 80) := by
          rw [show r = nS S by omega]; exact sk_end ok (g := fun n_ => (bpF S 1 n_)) bpF_k
        refine j_aload_n 0 dX11_bestPlace_89 rfl ?_
        refine j_getr (q := 12) dX11_bestPlace_90 fX11_59 (shM (Fm.M hs1 hM) sgM_0) rfl (rfM (Fm.M hs1 hM) rfM_0_20) ?_
        refine j_iload_n 1 dX11_bestPlace_93 rfl ?_
        refine j_iload_n 2 dX11_bestPlace_94 rfl ?_
        refine j_iastN 1 dX11_bestPlace_95 (shM (Fm.M hs1 hM) sgM_12) (by omega) (by omega) ?_
        have sm5 : Fm PBp M (jk_wI M1 12 1 (S 6 0)) := Fm.w hs1 (by unfold PBp; omega)
        refine j_aload_n 0 dX11_bestPlace_96 rfl ?_
        refine j_iload 4 dX11_bestPlace_97 rfl ?_
        refine j_put dX11_bestPlace_99 fX11_266 (shM (Fm.M sm5 hM) sgM_0) rfl ?_
        have sm6 : Fm PBp M (jk_wI (jk_wI M1 12 1 (S 6 0)) 0 41 (bpF S 1 (10 * r)).2) := Fm.w sm5 (by unfold PBp; omega)
        refine j_iload_n 3 dX11_bestPlace_102 rfl ?_
        refine j_iret dX11_bestPlace_103 rfl ?_
        refine hQ _ _ ⟨by rw [hend], sm6, ?_, by rw [← hend]; exact rd_s⟩
        have q1 := mv_sc (a := 6) (x := S 6 0) hx (by decide) (by decide) (by decide) (by decide)
        rw [upS_up, upS_id] at q1
        exact Fm.mv (P := fun q k => q = 0 ∧ k = 41) (Fm.rf.w ⟨rfl, rfl⟩) q1 (fun q k h z => by have z : q = 0 ∧ k = 41 := z; unfold PH at h; omega)
      · refine j_iconst 0 dX11_bestPlace_24 ic_0 ?_
        refine j_istore (L' := [(6, .int 0), (0, .ref 0), (1, .int 1), (2, .int (S 6 0)), (3, .int (bpF S 1 (10 * r)).1), (4, .int (bpF S 1 (10 * r)).2), (5, .int (nI r))]) dX11_bestPlace_25 (by decide) rfl ?_
        have w1 : (bpF S 1 (10 * r)).1 = (bpF S 1 (10 * r + 0)).1 := rfl
        have w2 : (bpF S 1 (10 * r)).2 = (bpF S 1 (10 * r + 0)).2 := rfl
        refine j_L (congrArg (fun zz9 : Int32 => ([(6, .int 0), (0, .ref 0), (1, .int 1), (2, .int (S 6 0)), (3, .int zz9), (4, .int (bpF S 1 (10 * r)).2), (5, .int (nI r))] : List (Nat × Value))) w1) ?_
        refine j_L (congrArg (fun zz9 : Int32 => ([(6, .int 0), (0, .ref 0), (1, .int 1), (2, .int (S 6 0)), (3, .int (bpF S 1 (10 * r + 0)).1), (4, .int zz9), (5, .int (nI r))] : List (Nat × Value))) w2) ?_
        have lp9 : ∀ (k7 : Nat) (c : Nat) (M2 : jk_M), nS S - c < k7 → (c ≤ nS S) → (Fm PBp M M2) → (∃ x, mv M2.2.1 = upS S 6 0 x) → J Fr_X11_bestPlace (d + 7) 0 0 27 [(0, .ref 0), (1, .int 1), (2, .int (S 6 0)), (3, .int (bpF S 1 (10 * r + c)).1), (4, .int (bpF S 1 (10 * r + c)).2), (5, .int (nI r)), (6, .int (nI c))] [] M2 Q := by
          intro k7
          induction k7 with
          | zero => intro c M2 hk; exact absurd hk (Nat.not_lt_zero _)
          | succ k7 ih8 =>
            intro c M2 hk7 hc hs2 hyy
            refine j_iload 6 dX11_bestPlace_27 rfl ?_
            obtain ⟨x, hx⟩ := hyy
            refine j_aload_n 0 dX11_bestPlace_29 rfl ?_
            refine j_getv (nI (nS S)) dX11_bestPlace_30 fX11_7 (shM (Fm.M hs2 hM) sgM_0) rfl (((mr_side hx).trans (upS_n (by omega))).trans (Sok.S ok).1) ?_
            refine j_icmp_geN (tgt := 83) c (nS S) dX11_bestPlace_33 rfl (by omega) (by omega) (fun c10 => ?_) (fun c10 => ?_)
            · refine j_iinc 5 (nI (r + 1)) (L' := [(5, .int (nI (r + 1))), (0, .ref 0), (1, .int 1), (2, .int (S 6 0)), (3, .int (bpF S 1 (10 * r + c)).1), (4, .int (bpF S 1 (10 * r + c)).2), (6, .int (nI c))]) dX11_bestPlace_83 rfl (inc1 r) (by decide) rfl ?_
              refine j_goto (tgt := 15) dX11_bestPlace_86 rfl ?_
              have hrow : (bpF S 1 (10 * r + c)) = (bpF S 1 (10 * (r + 1))) := by
                rw [show c = nS S by omega]; exact sk_row ok (g := fun n_ => (bpF S 1 n_)) bpF_k (by omega)
              have hr1 := congrArg Prod.fst hrow
              have hr2 := congrArg Prod.snd hrow
              refine j_L (congrArg (fun zz9 : Int32 => ([(5, .int (nI (r + 1))), (0, .ref 0), (1, .int 1), (2, .int (S 6 0)), (3, .int zz9), (4, .int (bpF S 1 (10 * r + c)).2), (6, .int (nI c))] : List (Nat × Value))) hr1) ?_
              refine j_L (congrArg (fun zz9 : Int32 => ([(5, .int (nI (r + 1))), (0, .ref 0), (1, .int 1), (2, .int (S 6 0)), (3, .int (bpF S 1 (10 * (r + 1))).1), (4, .int zz9), (6, .int (nI c))] : List (Nat × Value))) hr2) ?_
              exact j_sub (jk_pick [1, 2, 3, 4, 5, 0] rfl) (ih2 (r + 1) M2 (by omega) (by omega) hs2 ⟨x, hx⟩)
            · have hcell := isC_of (n := 10 * r + c) ok (show 10 * r + c < 80 by omega) (by omega) (by omega)
              refine j_aload_n 0 dX11_bestPlace_36 rfl ?_
              refine j_getr (q := 12) dX11_bestPlace_37 fX11_59 (shM (Fm.M hs2 hM) sgM_0) rfl (rfM (Fm.M hs2 hM) rfM_0_20) ?_
              refine j_iload_n 1 dX11_bestPlace_40 rfl ?_
              refine j_bipush 10 dX11_bestPlace_41 bp_10 ?_
              refine j_iload 5 dX11_bestPlace_43 rfl ?_
              refine j_imulN 10 r dX11_bestPlace_45 ?_
              refine j_iload 6 dX11_bestPlace_46 rfl ?_
              refine j_iaddN (10 * r) c dX11_bestPlace_48 ?_
              refine j_iastN 1 dX11_bestPlace_49 (shM (Fm.M hs2 hM) sgM_12) (by omega) (by omega) ?_
              have sm11 : Fm PBp M (jk_wI M2 12 1 (nI ((10 * r) + c))) := Fm.w hs2 (by unfold PBp; omega)
              have hT : mv (jk_wI M2 12 1 (nI ((10 * r) + c))).2.1 = upS S 6 0 (nI (10 * r + c)) := by
                have q := mv_sc (a := 6) (x := nI (10 * r + c)) hx (by decide) (by decide) (by decide) (by decide)
                rw [upS_up] at q; exact q
              refine j_aload_n 0 dX11_bestPlace_50 rfl ?_
              refine j_callV (kc := 0) (ks := 0) (a := 0) (b := 0) (d' := (d + 6)) (As := []) dX11_bestPlace_51 kX11_263 rfl (shM (Fm.M sm11 hM) sgM_0) (by omega) rfl rfl rfl (Nat.le_of_ble_eq_true rfl) (Nat.le_of_ble_eq_true rfl) (T_servB1 (Fm.M sm11 hM) hT ok hcell (LkO.bp hk sm11)) (kk_p ?_)
              refine j_istore (L' := [(7, .int (placeF S 1 (10 * r + c))), (0, .ref 0), (1, .int 1), (2, .int (S 6 0)), (3, .int (bpF S 1 (10 * r + c)).1), (4, .int (bpF S 1 (10 * r + c)).2), (5, .int (nI r)), (6, .int (nI c))]) dX11_bestPlace_54 (by decide) rfl ?_
              refine j_iload 0 dX11_bestPlace_56 rfl ?_
              refine j_iload 5 dX11_bestPlace_58 rfl ?_
              refine j_icmp_gt (tgt := 66) dX11_bestPlace_60 rfl (fun c12 => ?_) (fun c12 => ?_)
              · refine j_aload_n 1 dX11_bestPlace_66 rfl ?_
                refine j_getr (q := 12) dX11_bestPlace_67 fX11_59 (shM (Fm.M sm11 hM) sgM_0) rfl (rfM (Fm.M sm11 hM) rfM_0_20) ?_
                refine j_iload_n 2 dX11_bestPlace_70 rfl ?_
                refine j_ialdN 1 dX11_bestPlace_71 (shM (Fm.M sm11 hM) sgM_12) (by omega) (by omega) ?_
                refine j_topi (nI ((10 * r) + c)) rd_s ?_
                refine j_istore_n (L' := [(3, .int (nI ((10 * r) + c))), (7, .int (placeF S 1 (10 * r + c))), (0, .ref 0), (1, .int 1), (2, .int (S 6 0)), (4, .int (bpF S 1 (10 * r + c)).2), (5, .int (nI r)), (6, .int (nI c))]) dX11_bestPlace_72 (by decide) rfl ?_
                refine j_iload 1 dX11_bestPlace_73 rfl ?_
                refine j_istore (L' := [(4, .int (placeF S 1 (10 * r + c))), (3, .int (nI ((10 * r) + c))), (7, .int (placeF S 1 (10 * r + c))), (0, .ref 0), (1, .int 1), (2, .int (S 6 0)), (5, .int (nI r)), (6, .int (nI c))]) dX11_bestPlace_75 (by decide) rfl ?_
                refine j_iinc 7 (nI (c + 1)) (L' := [(6, .int (nI (c + 1))), (4, .int (placeF S 1 (10 * r + c))), (3, .int (nI ((10 * r) + c))), (7, .int (placeF S 1 (10 * r + c))), (0, .ref 0), (1, .int 1), (2, .int (S 6 0)), (5, .int (nI r))]) dX11_bestPlace_77 rfl (inc1 c) (by decide) rfl ?_
                refine j_goto (tgt := 27) dX11_bestPlace_80 rfl ?_
                have hb1 : (bpF S 1 (10 * r + (c + 1))) = ((nI ((10 * r) + c)), (placeF S 1 (10 * r + c))) := fmx_t hcell (c12)
                have hb2 : (nI ((10 * r) + c)) = (bpF S 1 (10 * r + (c + 1))).1 := by rw [hb1]
                have hb3 : (placeF S 1 (10 * r + c)) = (bpF S 1 (10 * r + (c + 1))).2 := by rw [hb1]
                refine j_L (congrArg (fun zz9 : Int32 => ([(6, .int (nI (c + 1))), (4, .int (placeF S 1 (10 * r + c))), (3, .int zz9), (7, .int (placeF S 1 (10 * r + c))), (0, .ref 0), (1, .int 1), (2, .int (S 6 0)), (5, .int (nI r))] : List (Nat × Value))) hb2) ?_
                refine j_L (congrArg (fun zz9 : Int32 => ([(6, .int (nI (c + 1))), (4, .int zz9), (3, .int (bpF S 1 (10 * r + (c + 1))).1), (7, .int (placeF S 1 (10 * r + c))), (0, .ref 0), (1, .int 1), (2, .int (S 6 0)), (5, .int (nI r))] : List (Nat × Value))) hb3) ?_
                exact j_sub (jk_pick [4, 5, 6, 2, 1, 7, 0] rfl) (ih8 (c + 1) (jk_wI M2 12 1 (nI ((10 * r) + c))) (by omega) (by omega) sm11 ⟨_, hT⟩)
              · refine j_goto (tgt := 77) dX11_bestPlace_63 rfl ?_
                refine j_iinc 7 (nI (c + 1)) (L' := [(6, .int (nI (c + 1))), (7, .int (placeF S 1 (10 * r + c))), (0, .ref 0), (1, .int 1), (2, .int (S 6 0)), (3, .int (bpF S 1 (10 * r + c)).1), (4, .int (bpF S 1 (10 * r + c)).2), (5, .int (nI r))]) dX11_bestPlace_77 rfl (inc1 c) (by decide) rfl ?_
                refine j_goto (tgt := 27) dX11_bestPlace_80 rfl ?_
                have hb1 : (bpF S 1 (10 * r + (c + 1))) = ((bpF S 1 (10 * r + c)).1, (bpF S 1 (10 * r + c)).2) := fmx_f (Or.inr (c12))
                have hb2 : (bpF S 1 (10 * r + c)).1 = (bpF S 1 (10 * r + (c + 1))).1 := by rw [hb1]
                have hb3 : (bpF S 1 (10 * r + c)).2 = (bpF S 1 (10 * r + (c + 1))).2 := by rw [hb1]
                refine j_L (congrArg (fun zz9 : Int32 => ([(6, .int (nI (c + 1))), (7, .int (placeF S 1 (10 * r + c))), (0, .ref 0), (1, .int 1), (2, .int (S 6 0)), (3, .int zz9), (4, .int (bpF S 1 (10 * r + c)).2), (5, .int (nI r))] : List (Nat × Value))) hb2) ?_
                refine j_L (congrArg (fun zz9 : Int32 => ([(6, .int (nI (c + 1))), (7, .int (placeF S 1 (10 * r + c))), (0, .ref 0), (1, .int 1), (2, .int (S 6 0)), (3, .int (bpF S 1 (10 * r + (c + 1))).1), (4, .int zz9), (5, .int (nI r))] : List (Nat × Value))) hb3) ?_
                exact j_sub (jk_pick [2, 3, 4, 5, 6, 7, 0] rfl) (ih8 (c + 1) (jk_wI M2 12 1 (nI ((10 * r) + c))) (by omega) (by omega) sm11 ⟨_, hT⟩)
        exact j_sub (jk_pick [1, 2, 3, 4, 5, 6, 0] rfl) (lp9 _ 0 M1 (Nat.lt_succ_self _) (by omega) hs1 ⟨x, hx⟩)
  exact j_sub (jk_pick [4, 5, 3, 2, 1, 0] rfl) (lp3 _ 0 M (Nat.lt_succ_self _) (by omega) Fm.rf ⟨S 6 0, hS.trans upS_id.symm⟩)
set_option maxRecDepth 20000 in
set_option maxHeartbeats 4000000 in
theorem T_X11_bestTwo {d : Nat} {M : jk_M} {S : HS} (hM : WM M) (hS : mv M.2.1 = S) (ok : Sok S) (hk : LkO S M) : J Fr_X11_bestTwo (d + 8) 0 0 0 [(0, .ref 0)] [] M (jk_ex (some (.int (ptF S 80).1)) (fun M1 => Fm PBp M M1 ∧ mv M1.2.1 = S)) := by
  refine j_post (fun Q hQ => ?_)
  have h8 := (Sok.S ok).2.2
  refine j_aload_n 0 dX11_bestTwo_0 rfl ?_
  refine j_getr (q := 12) dX11_bestTwo_1 fX11_59 (shM hM sgM_0) rfl (rfM hM rfM_0_20) ?_
  refine j_iconst 0 dX11_bestTwo_4 ic_0 ?_
  refine j_ialdN 0 dX11_bestTwo_5 (shM hM sgM_12) (by omega) (by omega) ?_
  refine j_topi (S 5 0) (mr_b0 hS) ?_
  refine j_istore_n (L' := [(1, .int (S 5 0)), (0, .ref 0)]) dX11_bestTwo_6 (by decide) rfl ?_
  refine j_iconst (-1) dX11_bestTwo_7 ic_n1 ?_
  refine j_istore_n (L' := [(2, .int (-1)), (1, .int (S 5 0)), (0, .ref 0)]) dX11_bestTwo_8 (by decide) rfl ?_
  refine j_iconst (-1) dX11_bestTwo_9 ic_n1 ?_
  refine j_istore_n (L' := [(3, .int (-1)), (2, .int (-1)), (1, .int (S 5 0)), (0, .ref 0)]) dX11_bestTwo_10 (by decide) rfl ?_
  refine j_iconst 0 dX11_bestTwo_11 ic_0 ?_
  refine j_istore (L' := [(4, .int 0), (3, .int (-1)), (2, .int (-1)), (1, .int (S 5 0)), (0, .ref 0)]) dX11_bestTwo_12 (by decide) rfl ?_
  have z1 : (-1 : Int32) = (ptF S (10 * 0)).1 := rfl
  have z2 : (-1 : Int32) = (ptF S (10 * 0)).2 := rfl
  refine j_L (congrArg (fun zz9 : Int32 => ([(4, .int 0), (3, .int (-1)), (2, .int zz9), (1, .int (S 5 0)), (0, .ref 0)] : List (Nat × Value))) z1) ?_
  refine j_L (congrArg (fun zz9 : Int32 => ([(4, .int 0), (3, .int zz9), (2, .int (ptF S (10 * 0)).1), (1, .int (S 5 0)), (0, .ref 0)] : List (Nat × Value))) z2) ?_
  have lp3 : ∀ (k1 : Nat) (r : Nat) (M1 : jk_M), nS S - r < k1 → (r ≤ nS S) → (Fm PBp M M1) → (∃ x, mv M1.2.1 = upS S 5 0 x) → J Fr_X11_bestTwo (d + 8) 0 0 14 [(0, .ref 0), (1, .int (S 5 0)), (2, .int (ptF S (10 * r)).1), (3, .int (ptF S (10 * r)).2), (4, .int (nI r))] [] M1 Q := by
    intro k1
    induction k1 with
    | zero => intro r M1 hk; exact absurd hk (Nat.not_lt_zero _)
    | succ k1 ih2 =>
      intro r M1 hk1 hr hs1 hxx
      refine j_iload 4 dX11_bestTwo_14 rfl ?_
      obtain ⟨x, hx⟩ := hxx
      refine j_aload_n 0 dX11_bestTwo_16 rfl ?_
      refine j_getv (nI (nS S)) dX11_bestTwo_17 fX11_7 (shM (Fm.M hs1 hM) sgM_0) rfl (((mr_side hx).trans (upS_n (by omega))).trans (Sok.S ok).1) ?_
      refine j_icmp_geN (tgt := 97) r (nS S) dX11_bestTwo_20 rfl (by omega) (by omega) (fun c4 => ?_) (fun c4 => ?_)
      · have hend : (ptF S (10 * r)) = (ptF S 80) := by
          rw [show r = nS S by omega]; exact sk_end ok (g := fun n_ => (ptF S n_)) ptF_k
        refine j_aload_n 0 dX11_bestTwo_97 rfl ?_
        refine j_getr (q := 12) dX11_bestTwo_98 fX11_59 (shM (Fm.M hs1 hM) sgM_0) rfl (rfM (Fm.M hs1 hM) rfM_0_20) ?_
        refine j_iconst 0 dX11_bestTwo_101 ic_0 ?_
        refine j_iload_n 1 dX11_bestTwo_102 rfl ?_
        refine j_iastN 0 dX11_bestTwo_103 (shM (Fm.M hs1 hM) sgM_12) (by omega) (by omega) ?_
        have sm5 : Fm PBp M (jk_wI M1 12 0 (S 5 0)) := Fm.w hs1 (by unfold PBp; omega)
        refine j_iload_n 2 dX11_bestTwo_104 rfl ?_
        refine j_iret dX11_bestTwo_105 rfl ?_
        refine hQ _ _ ⟨by rw [hend], sm5, ?_⟩
        have q1 := mv_sc (a := 5) (x := S 5 0) hx (by decide) (by decide) (by decide) (by decide)
        rw [upS_up, upS_id] at q1
        exact q1
      · refine j_iconst 0 dX11_bestTwo_23 ic_0 ?_
        refine j_istore (L' := [(5, .int 0), (0, .ref 0), (1, .int (S 5 0)), (2, .int (ptF S (10 * r)).1), (3, .int (ptF S (10 * r)).2), (4, .int (nI r))]) dX11_bestTwo_24 (by decide) rfl ?_
        have w1 : (ptF S (10 * r)).1 = (ptF S (10 * r + 0)).1 := rfl
        have w2 : (ptF S (10 * r)).2 = (ptF S (10 * r + 0)).2 := rfl
        refine j_L (congrArg (fun zz9 : Int32 => ([(5, .int 0), (0, .ref 0), (1, .int (S 5 0)), (2, .int zz9), (3, .int (ptF S (10 * r)).2), (4, .int (nI r))] : List (Nat × Value))) w1) ?_
        refine j_L (congrArg (fun zz9 : Int32 => ([(5, .int 0), (0, .ref 0), (1, .int (S 5 0)), (2, .int (ptF S (10 * r + 0)).1), (3, .int zz9), (4, .int (nI r))] : List (Nat × Value))) w2) ?_
        have lp8 : ∀ (k6 : Nat) (c : Nat) (M2 : jk_M), nS S - c < k6 → (c ≤ nS S) → (Fm PBp M M2) → (∃ x, mv M2.2.1 = upS S 5 0 x) → J Fr_X11_bestTwo (d + 8) 0 0 26 [(0, .ref 0), (1, .int (S 5 0)), (2, .int (ptF S (10 * r + c)).1), (3, .int (ptF S (10 * r + c)).2), (4, .int (nI r)), (5, .int (nI c))] [] M2 Q := by
          intro k6
          induction k6 with
          | zero => intro c M2 hk; exact absurd hk (Nat.not_lt_zero _)
          | succ k6 ih7 =>
            intro c M2 hk6 hc hs2 hyy
            refine j_iload 5 dX11_bestTwo_26 rfl ?_
            obtain ⟨x, hx⟩ := hyy
            refine j_aload_n 0 dX11_bestTwo_28 rfl ?_
            refine j_getv (nI (nS S)) dX11_bestTwo_29 fX11_7 (shM (Fm.M hs2 hM) sgM_0) rfl (((mr_side hx).trans (upS_n (by omega))).trans (Sok.S ok).1) ?_
            refine j_icmp_geN (tgt := 91) c (nS S) dX11_bestTwo_32 rfl (by omega) (by omega) (fun c9 => ?_) (fun c9 => ?_)
            · refine j_iinc 4 (nI (r + 1)) (L' := [(4, .int (nI (r + 1))), (0, .ref 0), (1, .int (S 5 0)), (2, .int (ptF S (10 * r + c)).1), (3, .int (ptF S (10 * r + c)).2), (5, .int (nI c))]) dX11_bestTwo_91 rfl (inc1 r) (by decide) rfl ?_
              refine j_goto (tgt := 14) dX11_bestTwo_94 rfl ?_
              have hrow : (ptF S (10 * r + c)) = (ptF S (10 * (r + 1))) := by
                rw [show c = nS S by omega]; exact sk_row ok (g := fun n_ => (ptF S n_)) ptF_k (by omega)
              have hr1 := congrArg Prod.fst hrow
              have hr2 := congrArg Prod.snd hrow
              refine j_L (congrArg (fun zz9 : Int32 => ([(4, .int (nI (r + 1))), (0, .ref 0), (1, .int (S 5 0)), (2, .int zz9), (3, .int (ptF S (10 * r + c)).2), (5, .int (nI c))] : List (Nat × Value))) hr1) ?_
              refine j_L (congrArg (fun zz9 : Int32 => ([(4, .int (nI (r + 1))), (0, .ref 0), (1, .int (S 5 0)), (2, .int (ptF S (10 * (r + 1))).1), (3, .int zz9), (5, .int (nI c))] : List (Nat × Value))) hr2) ?_
              exact j_sub (jk_pick [1, 2, 3, 4, 0] rfl) (ih2 (r + 1) M2 (by omega) (by omega) hs2 ⟨x, hx⟩)
            · have hcell := isC_of (n := 10 * r + c) ok (show 10 * r + c < 80 by omega) (by omega) (by omega)
              refine j_aload_n 0 dX11_bestTwo_35 rfl ?_
              refine j_getr (q := 12) dX11_bestTwo_36 fX11_59 (shM (Fm.M hs2 hM) sgM_0) rfl (rfM (Fm.M hs2 hM) rfM_0_20) ?_
              refine j_iconst 0 dX11_bestTwo_39 ic_0 ?_
              refine j_bipush 10 dX11_bestTwo_40 bp_10 ?_
              refine j_iload 4 dX11_bestTwo_42 rfl ?_
              refine j_imulN 10 r dX11_bestTwo_44 ?_
              refine j_iload 5 dX11_bestTwo_45 rfl ?_
              refine j_iaddN (10 * r) c dX11_bestTwo_47 ?_
              refine j_iastN 0 dX11_bestTwo_48 (shM (Fm.M hs2 hM) sgM_12) (by omega) (by omega) ?_
              have sm10 : Fm PBp M (jk_wI M2 12 0 (nI ((10 * r) + c))) := Fm.w hs2 (by unfold PBp; omega)
              have hT : mv (jk_wI M2 12 0 (nI ((10 * r) + c))).2.1 = upS S 5 0 (nI (10 * r + c)) := by
                have q := mv_sc (a := 5) (x := nI (10 * r + c)) hx (by decide) (by decide) (by decide) (by decide)
                rw [upS_up] at q; exact q
              refine j_aload_n 0 dX11_bestTwo_49 rfl ?_
              refine j_iconst 1 dX11_bestTwo_50 ic_1 ?_
              refine j_callV (kc := 0) (ks := 0) (a := 0) (b := 0) (d' := (d + 7)) (As := [.int 1]) dX11_bestTwo_51 kX11_269 rfl (shM (Fm.M sm10 hM) sgM_0) (by omega) rfl rfl rfl (Nat.le_of_ble_eq_true rfl) (Nat.le_of_ble_eq_true rfl) ((by have q := T_best1 (d := d) (Fm.M sm10 hM) hT (ok.u5 hcell) (EqA.u5.lk (LkO.bp hk sm10)); rw [show (bpF (upS S 5 0 (nI (10 * r + c))) 1 80).1 = (innF S (10 * r + c) 80).1 from by rw [inn_e]] at q; exact q)) (kk_e (fun M11 hM12 => ?_))
              obtain ⟨h0T, hT2, hf2⟩ := hM12
              have sm13 := Fm.tr sm10 h0T
              have hfound : M11.2.1 0 41 = (innF S (10 * r + c) 80).2 := by rw [hf2, inn_e]
              refine j_istore (L' := [(6, .int (innF S (10 * r + c) 80).1), (0, .ref 0), (1, .int (S 5 0)), (2, .int (ptF S (10 * r + c)).1), (3, .int (ptF S (10 * r + c)).2), (4, .int (nI r)), (5, .int (nI c))]) dX11_bestTwo_54 (by decide) rfl ?_
              refine j_aload_n 1 dX11_bestTwo_56 rfl ?_
              refine j_getv (innF S (10 * r + c) 80).2 dX11_bestTwo_57 fX11_266 (shM (Fm.M sm13 hM) sgM_0) rfl hfound ?_
              refine j_iload_n 4 dX11_bestTwo_60 rfl ?_
              refine j_icmp_gt (tgt := 67) dX11_bestTwo_61 rfl (fun c14 => ?_) (fun c14 => ?_)
              · refine j_bipush 100 dX11_bestTwo_67 bp_100 ?_
                refine j_aload_n 1 dX11_bestTwo_69 rfl ?_
                refine j_getr (q := 12) dX11_bestTwo_70 fX11_59 (shM (Fm.M sm13 hM) sgM_0) rfl (rfM (Fm.M sm13 hM) rfM_0_20) ?_
                refine j_iconst 0 dX11_bestTwo_73 ic_0 ?_
                refine j_ialdN 0 dX11_bestTwo_74 (shM (Fm.M sm13 hM) sgM_12) (by omega) (by omega) ?_
                refine j_topi (nI (10 * r + c)) ((mr_b0 hT2).trans upS_s) ?_
                refine j_imul dX11_bestTwo_75 ?_
                refine j_iload 0 dX11_bestTwo_76 rfl ?_
                refine j_iadd dX11_bestTwo_78 ?_
                refine j_istore_n (L' := [(2, .int ((100 * (nI (10 * r + c))) + (innF S (10 * r + c) 80).1)), (6, .int (innF S (10 * r + c) 80).1), (0, .ref 0), (1, .int (S 5 0)), (3, .int (ptF S (10 * r + c)).2), (4, .int (nI r)), (5, .int (nI c))]) dX11_bestTwo_79 (by decide) rfl ?_
                refine j_aload_n 2 dX11_bestTwo_80 rfl ?_
                refine j_getv (innF S (10 * r + c) 80).2 dX11_bestTwo_81 fX11_266 (shM (Fm.M sm13 hM) sgM_0) rfl hfound ?_
                refine j_istore_n (L' := [(3, .int (innF S (10 * r + c) 80).2), (2, .int ((100 * (nI (10 * r + c))) + (innF S (10 * r + c) 80).1)), (6, .int (innF S (10 * r + c) 80).1), (0, .ref 0), (1, .int (S 5 0)), (4, .int (nI r)), (5, .int (nI c))]) dX11_bestTwo_84 (by decide) rfl ?_
                refine j_iinc 6 (nI (c + 1)) (L' := [(5, .int (nI (c + 1))), (3, .int (innF S (10 * r + c) 80).2), (2, .int ((100 * (nI (10 * r + c))) + (innF S (10 * r + c) 80).1)), (6, .int (innF S (10 * r + c) 80).1), (0, .ref 0), (1, .int (S 5 0)), (4, .int (nI r))]) dX11_bestTwo_85 rfl (inc1 c) (by decide) rfl ?_
                refine j_goto (tgt := 26) dX11_bestTwo_88 rfl ?_
                have hb1 : (ptF S (10 * r + (c + 1))) = (((100 * (nI (10 * r + c))) + (innF S (10 * r + c) 80).1), (innF S (10 * r + c) 80).2) := (ptF_s hcell (by omega)).trans (if_pos (c14))
                have hb2 : ((100 * (nI (10 * r + c))) + (innF S (10 * r + c) 80).1) = (ptF S (10 * r + (c + 1))).1 := by rw [hb1]
                have hb3 : (innF S (10 * r + c) 80).2 = (ptF S (10 * r + (c + 1))).2 := by rw [hb1]
                refine j_L (congrArg (fun zz9 : Int32 => ([(5, .int (nI (c + 1))), (3, .int (innF S (10 * r + c) 80).2), (2, .int zz9), (6, .int (innF S (10 * r + c) 80).1), (0, .ref 0), (1, .int (S 5 0)), (4, .int (nI r))] : List (Nat × Value))) hb2) ?_
                refine j_L (congrArg (fun zz9 : Int32 => ([(5, .int (nI (c + 1))), (3, .int zz9), (2, .int (ptF S (10 * r + (c + 1))).1), (6, .int (innF S (10 * r + c) 80).1), (0, .ref 0), (1, .int (S 5 0)), (4, .int (nI r))] : List (Nat × Value))) hb3) ?_
                exact j_sub (jk_pick [4, 5, 2, 1, 6, 0] rfl) (ih7 (c + 1) M11 (by omega) (by omega) sm13 ⟨_, hT2⟩)
              · refine j_goto (tgt := 85) dX11_bestTwo_64 rfl ?_
                refine j_iinc 6 (nI (c + 1)) (L' := [(5, .int (nI (c + 1))), (6, .int (innF S (10 * r + c) 80).1), (0, .ref 0), (1, .int (S 5 0)), (2, .int (ptF S (10 * r + c)).1), (3, .int (ptF S (10 * r + c)).2), (4, .int (nI r))]) dX11_bestTwo_85 rfl (inc1 c) (by decide) rfl ?_
                refine j_goto (tgt := 26) dX11_bestTwo_88 rfl ?_
                have hb1 : (ptF S (10 * r + (c + 1))) = ((ptF S (10 * r + c)).1, (ptF S (10 * r + c)).2) := (ptF_s hcell (by omega)).trans (if_neg (c14))
                have hb2 : (ptF S (10 * r + c)).1 = (ptF S (10 * r + (c + 1))).1 := by rw [hb1]
                have hb3 : (ptF S (10 * r + c)).2 = (ptF S (10 * r + (c + 1))).2 := by rw [hb1]
                refine j_L (congrArg (fun zz9 : Int32 => ([(5, .int (nI (c + 1))), (6, .int (innF S (10 * r + c) 80).1), (0, .ref 0), (1, .int (S 5 0)), (2, .int zz9), (3, .int (ptF S (10 * r + c)).2), (4, .int (nI r))] : List (Nat × Value))) hb2) ?_
                refine j_L (congrArg (fun zz9 : Int32 => ([(5, .int (nI (c + 1))), (6, .int (innF S (10 * r + c) 80).1), (0, .ref 0), (1, .int (S 5 0)), (2, .int (ptF S (10 * r + (c + 1))).1), (3, .int zz9), (4, .int (nI r))] : List (Nat × Value))) hb3) ?_
                exact j_sub (jk_pick [2, 3, 4, 5, 6, 0] rfl) (ih7 (c + 1) M11 (by omega) (by omega) sm13 ⟨_, hT2⟩)
        exact j_sub (jk_pick [1, 2, 3, 4, 5, 0] rfl) (lp8 _ 0 M1 (Nat.lt_succ_self _) (by omega) hs1 ⟨x, hx⟩)
  exact j_sub (jk_pick [4, 3, 2, 1, 0] rfl) (lp3 _ 0 M (Nat.lt_succ_self _) (by omega) Fm.rf ⟨S 5 0, hS.trans upS_id.symm⟩)
theorem PBp_S : ∀ q k, PBp q k → PO q k := fun q k h => by unfold PBp at h; unfold PO PH PS; omega
theorem MV.ba {M M1 : jk_M} {Z : ZS} (h : MV M Z) (s : Fm PO M M1) (e : mv M1.2.1 = Z.1) : MV M1 Z := MV.now h s e
set_option maxRecDepth 20000 in
set_option maxHeartbeats 4000000 in
theorem N_put0 {d : Nat} {M : jk_M} {Z : ZS} (cv : MV M Z) (ok : Zok Z)  : J Fr_X11_put (d + 9) 0 0 0 [(0, .ref 0), (1, .int 0)] [] M (jk_ex (some (.int (putZ Z 0).1)) (fun M1 => MV M1 (putZ Z 0).2)) := by
  refine j_post (fun Q hQ => ?_)
  have hM := cv.1
  have hS := cv.2.1
  have okS := ok.1
  have h40 := cv.2.2.2.2.2.2.2.2.2.2.1
  refine j_iload_n 1 dX11_put_0 rfl ?_
  refine j_if_lt (tgt := 9) dX11_put_1 rfl (fun c1 => ?_) (fun c1 => ?_)
  · exact absurd c1 (by decide)
  · refine j_iload_n 1 dX11_put_4 rfl ?_
    refine j_iconst 2 dX11_put_5 ic_2 ?_
    refine j_icmp_le (tgt := 16) dX11_put_6 rfl (fun c2 => ?_) (fun c2 => ?_)
    · refine j_aload_n 0 dX11_put_16 rfl ?_
      refine j_callV (kc := 0) (ks := 0) (a := 0) (b := 0) (d' := (d + 3)) (As := []) dX11_put_17 kX11_181 rfl (shM hM sgM_0) (by omega) rfl rfl rfl (Nat.le_of_ble_eq_true rfl) (Nat.le_of_ble_eq_true rfl) (T_X11_looks hM hS okS h40 (GT.no okS) okS) (kk_ev (fun M3 hM4 => ?_))
      obtain ⟨h05, lk7⟩ := hM4
      have sm6 : Fm PS M M3 := Fm.mo h05 PLk_S
      refine j_iload_n 1 dX11_put_20 rfl ?_
      refine j_iconst 2 dX11_put_21 ic_2 ?_
      refine j_icmp_ne (tgt := 32) dX11_put_22 rfl (fun c8 => ?_) (fun c8 => ?_)
      · refine j_aload_n 0 dX11_put_32 rfl ?_
        refine j_iload_n 1 dX11_put_33 rfl ?_
        refine j_callV (kc := 0) (ks := 0) (a := 0) (b := 0) (d' := (d + 7)) (As := [.int 0]) dX11_put_34 kX11_269 rfl (shM (Fm.M sm6 hM) sgM_0) (by omega) rfl rfl rfl (Nat.le_of_ble_eq_true rfl) (Nat.le_of_ble_eq_true rfl) (T_best0 (Fm.M sm6 hM) (Fm.mv sm6 hS PS_H) okS lk7) (kk_e (fun M9 hM10 => ?_))
        obtain ⟨h0P, hP, -⟩ := hM10
        have smP : Fm PO M M9 := Fm.tr (Fm.mo sm6 PS_O) (Fm.mo h0P PBp_S)
        refine j_iret dX11_put_37 rfl ?_
        have hz : putZ Z 0 = ((bpF Z.1 0 80).1, Z) := by
          rw [putZ, cif_f (by decide), cif_f (by decide), place_e okS 0]
        exact hQ _ _ ⟨by rw [hz], by rw [hz]; exact MV.ba cv smP hP⟩
      · exact absurd c8 (by decide)
    · exact absurd c2 (by decide)
set_option maxRecDepth 20000 in
set_option maxHeartbeats 4000000 in
theorem N_put1 {d : Nat} {M : jk_M} {Z : ZS} (cv : MV M Z) (ok : Zok Z)  : J Fr_X11_put (d + 9) 0 0 0 [(0, .ref 0), (1, .int 1)] [] M (jk_ex (some (.int (putZ Z 1).1)) (fun M1 => MV M1 (putZ Z 1).2)) := by
  refine j_post (fun Q hQ => ?_)
  have hM := cv.1
  have hS := cv.2.1
  have okS := ok.1
  have h40 := cv.2.2.2.2.2.2.2.2.2.2.1
  refine j_iload_n 1 dX11_put_0 rfl ?_
  refine j_if_lt (tgt := 9) dX11_put_1 rfl (fun c1 => ?_) (fun c1 => ?_)
  · exact absurd c1 (by decide)
  · refine j_iload_n 1 dX11_put_4 rfl ?_
    refine j_iconst 2 dX11_put_5 ic_2 ?_
    refine j_icmp_le (tgt := 16) dX11_put_6 rfl (fun c2 => ?_) (fun c2 => ?_)
    · refine j_aload_n 0 dX11_put_16 rfl ?_
      refine j_callV (kc := 0) (ks := 0) (a := 0) (b := 0) (d' := (d + 3)) (As := []) dX11_put_17 kX11_181 rfl (shM hM sgM_0) (by omega) rfl rfl rfl (Nat.le_of_ble_eq_true rfl) (Nat.le_of_ble_eq_true rfl) (T_X11_looks hM hS okS h40 (GT.no okS) okS) (kk_ev (fun M3 hM4 => ?_))
      obtain ⟨h05, lk7⟩ := hM4
      have sm6 : Fm PS M M3 := Fm.mo h05 PLk_S
      refine j_iload_n 1 dX11_put_20 rfl ?_
      refine j_iconst 2 dX11_put_21 ic_2 ?_
      refine j_icmp_ne (tgt := 32) dX11_put_22 rfl (fun c8 => ?_) (fun c8 => ?_)
      · refine j_aload_n 0 dX11_put_32 rfl ?_
        refine j_iload_n 1 dX11_put_33 rfl ?_
        refine j_callV (kc := 0) (ks := 0) (a := 0) (b := 0) (d' := (d + 7)) (As := [.int 1]) dX11_put_34 kX11_269 rfl (shM (Fm.M sm6 hM) sgM_0) (by omega) rfl rfl rfl (Nat.le_of_ble_eq_true rfl) (Nat.le_of_ble_eq_true rfl) (T_best1 (Fm.M sm6 hM) (Fm.mv sm6 hS PS_H) okS lk7) (kk_e (fun M9 hM10 => ?_))
        obtain ⟨h0P, hP, -⟩ := hM10
        have smP : Fm PO M M9 := Fm.tr (Fm.mo sm6 PS_O) (Fm.mo h0P PBp_S)
        refine j_iret dX11_put_37 rfl ?_
        have hz : putZ Z 1 = ((bpF Z.1 1 80).1, Z) := by
          rw [putZ, cif_f (by decide), cif_f (by decide), place_e okS 1]
        exact hQ _ _ ⟨by rw [hz], by rw [hz]; exact MV.ba cv smP hP⟩
      · exact absurd c8 (by decide)
    · exact absurd c2 (by decide)
set_option maxRecDepth 20000 in
set_option maxHeartbeats 4000000 in
theorem N_put2 {d : Nat} {M : jk_M} {Z : ZS} (cv : MV M Z) (ok : Zok Z)  : J Fr_X11_put (d + 9) 0 0 0 [(0, .ref 0), (1, .int 2)] [] M (jk_ex (some (.int (putZ Z 2).1)) (fun M1 => MV M1 (putZ Z 2).2)) := by
  refine j_post (fun Q hQ => ?_)
  have hM := cv.1
  have hS := cv.2.1
  have okS := ok.1
  have h40 := cv.2.2.2.2.2.2.2.2.2.2.1
  refine j_iload_n 1 dX11_put_0 rfl ?_
  refine j_if_lt (tgt := 9) dX11_put_1 rfl (fun c1 => ?_) (fun c1 => ?_)
  · exact absurd c1 (by decide)
  · refine j_iload_n 1 dX11_put_4 rfl ?_
    refine j_iconst 2 dX11_put_5 ic_2 ?_
    refine j_icmp_le (tgt := 16) dX11_put_6 rfl (fun c2 => ?_) (fun c2 => ?_)
    · refine j_aload_n 0 dX11_put_16 rfl ?_
      refine j_callV (kc := 0) (ks := 0) (a := 0) (b := 0) (d' := (d + 3)) (As := []) dX11_put_17 kX11_181 rfl (shM hM sgM_0) (by omega) rfl rfl rfl (Nat.le_of_ble_eq_true rfl) (Nat.le_of_ble_eq_true rfl) (T_X11_looks hM hS okS h40 (GT.no okS) okS) (kk_ev (fun M3 hM4 => ?_))
      obtain ⟨h05, lk7⟩ := hM4
      have sm6 : Fm PS M M3 := Fm.mo h05 PLk_S
      refine j_iload_n 1 dX11_put_20 rfl ?_
      refine j_iconst 2 dX11_put_21 ic_2 ?_
      refine j_icmp_ne (tgt := 32) dX11_put_22 rfl (fun c8 => ?_) (fun c8 => ?_)
      · exact absurd c8 (by decide)
      · refine j_aload_n 0 dX11_put_25 rfl ?_
        refine j_callV (kc := 0) (ks := 0) (a := 0) (b := 0) (d' := (d + 8)) (As := []) dX11_put_26 kX11_272 rfl (shM (Fm.M sm6 hM) sgM_0) (by omega) rfl rfl rfl (Nat.le_of_ble_eq_true rfl) (Nat.le_of_ble_eq_true rfl) (T_X11_bestTwo (Fm.M sm6 hM) (Fm.mv sm6 hS PS_H) okS lk7) (kk_e (fun M9 hM10 => ?_))
        obtain ⟨h0P, hP⟩ := hM10
        have smP : Fm PO M M9 := Fm.tr (Fm.mo sm6 PS_O) (Fm.mo h0P PBp_S)
        refine j_goto (tgt := 37) dX11_put_29 rfl ?_
        refine j_iret dX11_put_37 rfl ?_
        have hz : putZ Z 2 = ((ptF Z.1 80).1, Z) := by
          rw [putZ, cif_f (by decide), cif_t rfl, pair_e okS]
        exact hQ _ _ ⟨by rw [hz], by rw [hz]; exact MV.ba cv smP hP⟩
    · exact absurd c2 (by decide)
set_option maxRecDepth 20000 in
set_option maxHeartbeats 4000000 in
theorem N_putX {d : Nat} {M : jk_M} {Z : ZS} (cv : MV M Z) (ok : Zok Z) (k : Int32) (hk9 : ¬ (0 ≤ k ∧ k ≤ 2)) : J Fr_X11_put (d + 9) 0 0 0 [(0, .ref 0), (1, .int k)] [] M (jk_ex (some (.int (putZ Z k).1)) (fun M1 => MV M1 (putZ Z k).2)) := by
  refine j_post (fun Q hQ => ?_)
  have hM := cv.1
  have hS := cv.2.1
  have okS := ok.1
  have h40 := cv.2.2.2.2.2.2.2.2.2.2.1
  refine j_iload_n 1 dX11_put_0 rfl ?_
  refine j_if_lt (tgt := 9) dX11_put_1 rfl (fun c1 => ?_) (fun c1 => ?_)
  · refine j_aload_n 0 dX11_put_9 rfl ?_
    refine j_bipush (-5) dX11_put_10 bp_n5 ?_
    refine j_callV (kc := 0) (ks := 0) (a := 0) (b := 0) (d' := d) (As := [.int (-5)]) dX11_put_12 kX11_130 rfl (shM hM sgM_0) (by omega) rfl rfl rfl (Nat.le_of_ble_eq_true rfl) (Nat.le_of_ble_eq_true rfl) (T_X11_no hM (-5) (by decide)) (kk_p ?_)
    refine j_iret dX11_put_15 rfl ?_
    have hz : putZ Z k = ((-5), (refZ Z (-5))) := by
      clear hQ
      clear cv hM hS
      grind [putZ, cif]
    exact hQ _ _ ⟨by rw [hz], by rw [hz]; exact MV.rf cv (by decide)⟩
  · refine j_iload_n 1 dX11_put_4 rfl ?_
    refine j_iconst 2 dX11_put_5 ic_2 ?_
    refine j_icmp_le (tgt := 16) dX11_put_6 rfl (fun c2 => ?_) (fun c2 => ?_)
    · exact absurd (show 0 ≤ k ∧ k ≤ 2 by clear hQ; grind) hk9
    · refine j_aload_n 0 dX11_put_9 rfl ?_
      refine j_bipush (-5) dX11_put_10 bp_n5 ?_
      refine j_callV (kc := 0) (ks := 0) (a := 0) (b := 0) (d' := d) (As := [.int (-5)]) dX11_put_12 kX11_130 rfl (shM hM sgM_0) (by omega) rfl rfl rfl (Nat.le_of_ble_eq_true rfl) (Nat.le_of_ble_eq_true rfl) (T_X11_no hM (-5) (by decide)) (kk_p ?_)
      refine j_iret dX11_put_15 rfl ?_
      have hz : putZ Z k = ((-5), (refZ Z (-5))) := by
        clear hQ
        clear cv hM hS
        grind [putZ, cif]
      exact hQ _ _ ⟨by rw [hz], by rw [hz]; exact MV.rf cv (by decide)⟩
theorem N_put {d : Nat} {M : jk_M} {Z : ZS} (cv : MV M Z) (ok : Zok Z) (k : Int32) : J Fr_X11_put (d + 9) 0 0 0 [(0, .ref 0), (1, .int k)] [] M (jk_ex (some (.int (putZ Z k).1)) (fun M1 => MV M1 (putZ Z k).2)) := by
  by_cases h : 0 ≤ k ∧ k ≤ 2
  · have h3 : k = 0 ∨ k = 1 ∨ k = 2 := by grind
    rcases h3 with rfl | rfl | rfl
    · exact N_put0 cv ok
    · exact N_put1 cv ok
    · exact N_put2 cv ok
  · exact N_putX cv ok k h
