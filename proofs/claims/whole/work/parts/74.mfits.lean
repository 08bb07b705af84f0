/-! fits, by the model -/
def gdS (S : HS) (tl : Int32 → Int32) (j : Nat) : Prop := isC S (tl (nI (2 * j))) ∧ (0 ≤ tl (nI (2 * j + 1)) ∧ tl (nI (2 * j + 1)) ≤ 5)
theorem gd_y {S : HS} {tl : Int32 → Int32} {n : Nat} (h : ∀ j, j < n → gdS S tl j) : prS S tl n = 0 := prS_y (fun j hj => ⟨(h j hj).1, by rw [may_12]; exact (h j hj).2⟩)
theorem gd_n {S : HS} {tl : Int32 → Int32} {n j : Nat} (hj : j < n) (h : ¬ gdS S tl j) : prS S tl n = -6 := prS_n (fun z => h ⟨(z j hj).1, by have := (z j hj).2; rw [may_12] at this; exact this⟩)
theorem gd_of {S : HS} {tl : Int32 → Int32} {n : Nat} (h : prS S tl n = 0) : ∀ j, j < n → gdS S tl j := fun j hj => Classical.byContradiction (fun z => by rw [gd_n hj z] at h; exact absurd h (by decide))
theorem fit_len2 {S : HS} (ok : Sok S) {A : Nat → Prop} : ∀ n, n ≤ 80 → (fitN S A n).length ≤ 8 * (n / 10) + min (n % 10) 8
  | 0, _ => Nat.zero_le _
  | n + 1, h => by
    have ih := fit_len2 ok (A := A) n (by omega)
    have h8 := ok.S.2.2
    by_cases hc : isC S (nI n)
    · obtain ⟨-, h1, h2, -⟩ := isC_nat ok hc
      rw [nI_clamp (by omega)] at h1 h2
      have : (fitN S A (n + 1)).length ≤ (fitN S A n).length + 1 := by
        by_cases a : A n
        · rw [fitN_t hc a, List.length_append]; simp
        · rw [fitN_f (Or.inr a)]; omega
      omega
    · rw [fitN_f (Or.inl hc)]; omega
def FtO (M : jk_M) (l : List Nat) : Prop := M.2.1 0 47 = nI l.length ∧ ∀ i, i < l.length → M.2.1 29 i = nI (l.getD i 0)
theorem FtO.app {M : jk_M} {l : List Nat} {x : Nat} (h : FtO M l) : FtO (jk_wI (jk_wI M 0 47 (nI (l.length + 1))) 29 l.length (nI x)) (l ++ [x]) := by
  refine ⟨by rw [rd_o (by decide), rd_s]; simp, fun i hi => ?_⟩
  have hi2 : i < l.length + 1 := by simpa using hi
  by_cases e : i = l.length
  · subst e; rw [rd_s]; simp [List.getD]
  · rw [rd_k e, rd_o (by decide), h.2 i (by omega)]
    simp only [List.getD]
    rw [List.getElem?_append_left (by omega)]
theorem FtO.fm {P : Nat → Nat → Prop} {M M1 : jk_M} {l : List Nat} (h : FtO M l) (s : Fm P M M1) (h1 : ¬ P 0 47) (h2 : ∀ k, ¬ P 29 k) : FtO M1 l := ⟨(s.rd h1).trans h.1, fun i hi => (s.rd (h2 i)).trans (h.2 i hi)⟩
theorem fit_k {S : HS} {A : Nat → Prop} (n : Nat) (_ : n < 100) (h : ¬ isC S (nI n)) : fitN S A (n + 1) = fitN S A n := fitN_f (Or.inl h)
def PFf (q k : Nat) : Prop := PLk q k ∨ q = 12 ∨ q = 29 ∨ q = 30 ∨ (q = 0 ∧ k = 47)
theorem PFf_O : ∀ q k, PFf q k → PO q k := fun q k h => by unfold PFf PLk at h; unfold PO PH PS; omega
theorem PLk_F : ∀ q k, PLk q k → PFf q k := fun q k h => Or.inl h
theorem bar_u5 {S : HS} {f c : Int32} : barS (upS S 5 0 f) 0 c = barsBy (strS S f c) := by
  rw [barS, show plO (upS S 5 0 f) 0 = f from by rw [plO, if_pos rfl, upS_s], EqA.u5.str]
def okP (S : HS) (tl : Int32 → Int32) (f : Int32) (i : Nat) : Prop := barsBy (strS S f (tl (nI (2 * i)))) = tl (nI (2 * i + 1))
theorem ag_all {S : HS} {tl : Int32 → Int32} {f : Int32} {m : Nat} : agS S tl f m = ∀ i, i < m → okP S tl f i := rfl
theorem bars_n {S : HS} {f c : Int32} : ∃ k, k ≤ 5 ∧ barsBy (strS S f c) = nI k := by
  have h0 : 0 ≤ strS S f c := by
    unfold strS
    split
    · decide
    · unfold jmax; split
      · rename_i h; exact Int32.le_of_lt h
      · decide
  obtain ⟨x, hx, e⟩ := nI_of (Int32.not_lt.mpr h0)
  rw [e]
  unfold barsBy jmin
  rw [show (10 : Int32) = nI 10 from rfl, pk_div hx (by decide) (by decide), show (5 : Int32) = nI 5 from rfl]
  split
  · rename_i h; exact ⟨x / 10, by rw [nI_ltI (by omega) (by omega)] at h; omega, rfl⟩
  · exact ⟨5, Nat.le_refl _, rfl⟩
theorem wl_le {S : HS} {c : Int32} {l : List Nat} : ∀ i, i < 1000 → ∃ w, w ≤ i ∧ (wlS S c l i).2 = nI w ∧ ∀ k, ∃ q, q ≤ i ∧ (wlS S c l i).1 k = nI q
  | 0, _ => ⟨0, Nat.le_refl _, rfl, fun k => ⟨0, Nat.le_refl _, rfl⟩⟩
  | i + 1, h => by
    obtain ⟨w, h1, h2, h3⟩ := wl_le (S := S) (c := c) (l := l) i (by omega)
    obtain ⟨k, hk, e⟩ := bars_n (S := S) (f := nI (l.getD i 0)) (c := c)
    rw [wl_s hk e]
    obtain ⟨q, hq, eq⟩ := h3 k
    have e1 : (wlS S c l i).1 k + 1 = nI (q + 1) := by rw [eq, nI_succ]
    rw [e1, h2]
    refine ⟨if w < q + 1 then q + 1 else w, by split <;> omega, ?_, fun j => ?_⟩
    · unfold jmax
      by_cases c : w < q + 1
      · rw [if_pos c, if_pos (nI_lt c (by omega))]
      · rw [if_neg c, if_neg (nI_nlt (by omega) (by omega))]
    · show ∃ p, p ≤ i + 1 ∧ va_up (wlS S c l i).1 k (nI (q + 1)) j = nI p
      by_cases e : j = k
      · subst e; rw [va_up_self]; exact ⟨q + 1, by omega, rfl⟩
      · rw [va_up_ne _ _ e]; obtain ⟨p, hp, ep⟩ := h3 j; exact ⟨p, by omega, ep⟩
noncomputable def bmI (S : HS) (l : List Nat) : Nat → Int32 × Int32
  | 0 => (-1, 0)
  | n + 1 => bmS S l (n + 1)
theorem bm_n {S : HS} {l : List Nat} : ∀ n, n ≤ 100 → ∃ m, m ≤ n ∧ (bmS S l n).1 = nI m
  | 0, _ => ⟨0, Nat.le_refl _, rfl⟩
  | n + 1, h => by
    obtain ⟨m, h1, h2⟩ := bm_n (S := S) (l := l) n (by omega)
    by_cases c : isC S (nI n) ∧ (wlS S (nI n) l l.length).2 < (bmS S l n).2
    · rw [bmS_t c.1 c.2]; exact ⟨n, by omega, rfl⟩
    · rw [bmS_f (by by_cases a : isC S (nI n); exact Or.inr (fun b => c ⟨a, b⟩); exact Or.inl a)]; exact ⟨m, by omega, h2⟩
theorem bmI_s {S : HS} (ok : Sok S) {l : List Nat} (hl : l.length < 900) {n : Nat} (hn : n ≤ 90) (hc : isC S (nI n)) : bmI S l (n + 1) = if (bmI S l n).1 = -1 ∨ (wlS S (nI n) l l.length).2 < (bmI S l n).2 then (nI n, (wlS S (nI n) l l.length).2) else bmI S l n := by
  cases n with
  | zero =>
    show bmS S l 1 = if ((-1 : Int32) = -1 ∨ (wlS S (nI 0) l l.length).2 < 0) then (nI 0, (wlS S (nI 0) l l.length).2) else bmI S l 0
    rw [if_pos (Or.inl rfl)]
    obtain ⟨w, h1, h2, -⟩ := wl_le (S := S) (c := nI 0) (l := l) l.length (by omega)
    exact bmS_t hc (by rw [h2]; exact nI_lt (by omega) (by omega))
  | succ j =>
    obtain ⟨m, h1, h2⟩ := bm_n (S := S) (l := l) (j + 1) (by omega)
    show bmS S l (j + 1 + 1) = if ((bmS S l (j + 1)).1 = -1 ∨ (wlS S (nI (j + 1)) l l.length).2 < (bmS S l (j + 1)).2) then (nI (j + 1), (wlS S (nI (j + 1)) l l.length).2) else bmS S l (j + 1)
    by_cases c : (wlS S (nI (j + 1)) l l.length).2 < (bmS S l (j + 1)).2
    · rw [if_pos (Or.inr c)]; exact bmS_t hc c
    · rw [if_neg (fun z => z.elim (fun y => nI_n1 (by omega) (h2.symm.trans y)) c)]; exact bmS_f (Or.inr c)
theorem bmI_k {S : HS} (ok : Sok S) {l : List Nat} (n : Nat) (_ : n < 100) (h : ¬ isC S (nI n)) : bmI S l (n + 1) = bmI S l n := by
  cases n with
  | zero => exact absurd (isC00 ok) h
  | succ j => exact bmS_f (Or.inl h)
theorem T_bars5 {d : Nat} {S : HS} {M : jk_M} {f c : Int32} (hM : WM M) (hT : mv M.2.1 = upS S 5 0 f) (ok : Sok S) (hf : isC S f) (hk : LkO S M) (hc : isC S c) : J Fr_X11_barsAt (d + 3) 0 0 0 [(0, .ref 0), (1, .int 0), (2, .int c)] [] M (jk_is (some (.int (barsBy (strS S f c)))) M) := by
  rw [← bar_u5]; exact T_X11_barsAt hM (MEq.of hT) (ok.u5 hf) (EqA.u5.lk hk) 0 c (Or.inl rfl) hc
def LfW (M : jk_M) (f : Nat → Int32) : Prop := ∀ k, k < 6 → M.2.1 30 k = f k
set_option maxRecDepth 20000 in
set_option maxHeartbeats 4000000 in
theorem T_barsF0 {d : Nat} {M : jk_M} {Z : ZS} (cv : MV M Z) (ok : Zok Z) (k : Nat) (hk : k < 8) (n : Int32) (h0 : ¬ tdK Z k n 2 = 0) : J Fr_X11_barsOfFits (d + 2) 0 0 0 [(0, .ref 0), (1, .int (nI k)), (2, .int n)] [] M (jk_is (some (.int (tdK Z k n 2))) M) := by
  refine j_post (fun Q hQ => ?_)
  have hM := cv.1
  have hS := cv.2.1
  have okS := ok.1
  have h40 := cv.2.2.2.2.2.2.2.2.2.2.1
  have hsk := shl_k hk
  have hsmk := shm_g (cv.2.2.2.1 k hk)
  have hzzk := shok0 (ok.sh hk)
  refine j_aload_n 0 dX11_barsOfFits_0 rfl ?_
  refine j_iload_n 1 dX11_barsOfFits_1 rfl ?_
  refine j_callV (kc := 0) (ks := 0) (a := 0) (b := 0) (d' := (d + 1)) (As := [.int (nI k)]) dX11_barsOfFits_2 kX11_229 rfl (shM hM sgM_0) (by omega) rfl rfl rfl (Nat.le_of_ble_eq_true rfl) (Nat.le_of_ble_eq_true rfl) (T_wanted cv ok k hk) (kk_p ?_)
  refine j_istore_n (L' := [(3, .int (rrK Z k)), (0, .ref 0), (1, .int (nI k)), (2, .int n)]) dX11_barsOfFits_5 (by decide) rfl ?_
  refine j_iload_n 0 dX11_barsOfFits_6 rfl ?_
  refine j_if_ne (tgt := 49) dX11_barsOfFits_7 rfl (fun c1 => ?_) (fun c1 => ?_)
  · refine j_iconst 0 dX11_barsOfFits_49 ic_0 ?_
    refine j_istore (L' := [(4, .int 0), (3, .int (rrK Z k)), (0, .ref 0), (1, .int (nI k)), (2, .int n)]) dX11_barsOfFits_50 (by decide) rfl ?_
    refine j_iload 0 dX11_barsOfFits_52 rfl ?_
    refine j_iload_n 4 dX11_barsOfFits_54 rfl ?_
    refine j_icmp_ge (tgt := 107) dX11_barsOfFits_55 rfl (fun c2 => ?_) (fun c2 => ?_)
    · refine j_iload_n 1 dX11_barsOfFits_107 rfl ?_
      refine j_iret dX11_barsOfFits_108 rfl ?_
      have hz : tdK Z k n 2 = (rrK Z k) := by
        have ok9 := ok
        have hk9 := hk
        have htd := fun hn => td2 (n := n) (ok9.sz hk9) hn
        have hcl9 : rrK Z k = 0 → ¬ Z.2.2.1 k 0 = -1 := (by unfold rrK rrS; grind)
        clear hQ cv hM hS ok ok9
        grind [tdK, tdS]
      exact hQ _ _ ⟨by rw [hz], rfl⟩
    · refine j_iload_n 1 dX11_barsOfFits_58 rfl ?_
      refine j_if_ne (tgt := 107) dX11_barsOfFits_59 rfl (fun c3 => ?_) (fun c3 => ?_)
      · refine j_iload_n 1 dX11_barsOfFits_107 rfl ?_
        refine j_iret dX11_barsOfFits_108 rfl ?_
        have hz : tdK Z k n 2 = (rrK Z k) := by
          have ok9 := ok
          have hk9 := hk
          have htd := fun hn => td2 (n := n) (ok9.sz hk9) hn
          have hcl9 : rrK Z k = 0 → ¬ Z.2.2.1 k 0 = -1 := (by unfold rrK rrS; grind)
          clear hQ cv hM hS ok ok9
          grind [tdK, tdS]
        exact hQ _ _ ⟨by rw [hz], rfl⟩
      · exact absurd c3 c1
  · refine j_iload_n 3 dX11_barsOfFits_10 rfl ?_
    refine j_if_ge (tgt := 19) dX11_barsOfFits_11 rfl (fun c4 => ?_) (fun c4 => ?_)
    · refine j_iload_n 3 dX11_barsOfFits_19 rfl ?_
      refine j_aload_n 1 dX11_barsOfFits_20 rfl ?_
      refine j_getr (q := 15) dX11_barsOfFits_21 fX11_68 (shM hM sgM_0) rfl (rfM hM rfM_0_23) ?_
      refine j_iload_n 2 dX11_barsOfFits_24 rfl ?_
      refine j_ialdN k dX11_barsOfFits_25 (shM hM sgM_15) (by omega) (by omega) ?_
      refine j_iconst 2 dX11_barsOfFits_26 ic_2 ?_
      refine j_idiv dX11_barsOfFits_27 (by decide) ?_
      refine j_icmp_le (tgt := 36) dX11_barsOfFits_28 rfl (fun c5 => ?_) (fun c5 => ?_)
      · refine j_iload_n 3 dX11_barsOfFits_36 rfl ?_
        refine j_bipush 40 dX11_barsOfFits_37 bp_40 ?_
        refine j_icmp_le (tgt := 47) dX11_barsOfFits_39 rfl (fun c6 => ?_) (fun c6 => ?_)
        · exact absurd (show tdK Z k n 2 = 0 by have ok9 := ok; have hk9 := hk; have htd := fun hn => td2 (n := n) (ok9.sz hk9) hn; have hcl9 : rrK Z k = 0 → ¬ Z.2.2.1 k 0 = -1 := (by unfold rrK rrS; grind); clear hQ cv hM hS ok ok9; grind [tdK, tdS]) h0
        · refine j_bipush (-6) dX11_barsOfFits_42 bp_n6 ?_
          refine j_goto (tgt := 48) dX11_barsOfFits_44 rfl ?_
          refine j_istore_n (L' := [(3, .int (-6)), (0, .ref 0), (1, .int (nI k)), (2, .int n)]) dX11_barsOfFits_48 (by decide) rfl ?_
          refine j_iconst 0 dX11_barsOfFits_49 ic_0 ?_
          refine j_istore (L' := [(4, .int 0), (3, .int (-6)), (0, .ref 0), (1, .int (nI k)), (2, .int n)]) dX11_barsOfFits_50 (by decide) rfl ?_
          refine j_iload 0 dX11_barsOfFits_52 rfl ?_
          refine j_iload_n 4 dX11_barsOfFits_54 rfl ?_
          refine j_icmp_ge (tgt := 107) dX11_barsOfFits_55 rfl (fun c7 => ?_) (fun c7 => ?_)
          · refine j_iload_n 1 dX11_barsOfFits_107 rfl ?_
            refine j_iret dX11_barsOfFits_108 rfl ?_
            have hz : tdK Z k n 2 = (-6) := by
              have ok9 := ok
              have hk9 := hk
              have htd := fun hn => td2 (n := n) (ok9.sz hk9) hn
              have hcl9 : rrK Z k = 0 → ¬ Z.2.2.1 k 0 = -1 := (by unfold rrK rrS; grind)
              clear hQ cv hM hS ok ok9
              grind [tdK, tdS]
            exact hQ _ _ ⟨by rw [hz], rfl⟩
          · refine j_iload_n 1 dX11_barsOfFits_58 rfl ?_
            refine j_if_ne (tgt := 107) dX11_barsOfFits_59 rfl (fun c8 => ?_) (fun c8 => ?_)
            · refine j_iload_n 1 dX11_barsOfFits_107 rfl ?_
              refine j_iret dX11_barsOfFits_108 rfl ?_
              have hz : tdK Z k n 2 = (-6) := by
                have ok9 := ok
                have hk9 := hk
                have htd := fun hn => td2 (n := n) (ok9.sz hk9) hn
                have hcl9 : rrK Z k = 0 → ¬ Z.2.2.1 k 0 = -1 := (by unfold rrK rrS; grind)
                clear hQ cv hM hS ok ok9
                grind [tdK, tdS]
              exact hQ _ _ ⟨by rw [hz], rfl⟩
            · exact absurd c8 (by decide)
      · refine j_bipush (-5) dX11_barsOfFits_31 bp_n5 ?_
        refine j_goto (tgt := 48) dX11_barsOfFits_33 rfl ?_
        refine j_istore_n (L' := [(3, .int (-5)), (0, .ref 0), (1, .int (nI k)), (2, .int n)]) dX11_barsOfFits_48 (by decide) rfl ?_
        refine j_iconst 0 dX11_barsOfFits_49 ic_0 ?_
        refine j_istore (L' := [(4, .int 0), (3, .int (-5)), (0, .ref 0), (1, .int (nI k)), (2, .int n)]) dX11_barsOfFits_50 (by decide) rfl ?_
        refine j_iload 0 dX11_barsOfFits_52 rfl ?_
        refine j_iload_n 4 dX11_barsOfFits_54 rfl ?_
        refine j_icmp_ge (tgt := 107) dX11_barsOfFits_55 rfl (fun c9 => ?_) (fun c9 => ?_)
        · refine j_iload_n 1 dX11_barsOfFits_107 rfl ?_
          refine j_iret dX11_barsOfFits_108 rfl ?_
          have hz : tdK Z k n 2 = (-5) := by
            have ok9 := ok
            have hk9 := hk
            have htd := fun hn => td2 (n := n) (ok9.sz hk9) hn
            have hcl9 : rrK Z k = 0 → ¬ Z.2.2.1 k 0 = -1 := (by unfold rrK rrS; grind)
            clear hQ cv hM hS ok ok9
            grind [tdK, tdS]
          exact hQ _ _ ⟨by rw [hz], rfl⟩
        · refine j_iload_n 1 dX11_barsOfFits_58 rfl ?_
          refine j_if_ne (tgt := 107) dX11_barsOfFits_59 rfl (fun c10 => ?_) (fun c10 => ?_)
          · refine j_iload_n 1 dX11_barsOfFits_107 rfl ?_
            refine j_iret dX11_barsOfFits_108 rfl ?_
            have hz : tdK Z k n 2 = (-5) := by
              have ok9 := ok
              have hk9 := hk
              have htd := fun hn => td2 (n := n) (ok9.sz hk9) hn
              have hcl9 : rrK Z k = 0 → ¬ Z.2.2.1 k 0 = -1 := (by unfold rrK rrS; grind)
              clear hQ cv hM hS ok ok9
              grind [tdK, tdS]
            exact hQ _ _ ⟨by rw [hz], rfl⟩
          · exact absurd c10 (by decide)
    · refine j_bipush (-4) dX11_barsOfFits_14 bp_n4 ?_
      refine j_goto (tgt := 48) dX11_barsOfFits_16 rfl ?_
      refine j_istore_n (L' := [(3, .int (-4)), (0, .ref 0), (1, .int (nI k)), (2, .int n)]) dX11_barsOfFits_48 (by decide) rfl ?_
      refine j_iconst 0 dX11_barsOfFits_49 ic_0 ?_
      refine j_istore (L' := [(4, .int 0), (3, .int (-4)), (0, .ref 0), (1, .int (nI k)), (2, .int n)]) dX11_barsOfFits_50 (by decide) rfl ?_
      refine j_iload 0 dX11_barsOfFits_52 rfl ?_
      refine j_iload_n 4 dX11_barsOfFits_54 rfl ?_
      refine j_icmp_ge (tgt := 107) dX11_barsOfFits_55 rfl (fun c11 => ?_) (fun c11 => ?_)
      · refine j_iload_n 1 dX11_barsOfFits_107 rfl ?_
        refine j_iret dX11_barsOfFits_108 rfl ?_
        have hz : tdK Z k n 2 = (-4) := by
          have ok9 := ok
          have hk9 := hk
          have htd := fun hn => td2 (n := n) (ok9.sz hk9) hn
          have hcl9 : rrK Z k = 0 → ¬ Z.2.2.1 k 0 = -1 := (by unfold rrK rrS; grind)
          clear hQ cv hM hS ok ok9
          grind [tdK, tdS]
        exact hQ _ _ ⟨by rw [hz], rfl⟩
      · refine j_iload_n 1 dX11_barsOfFits_58 rfl ?_
        refine j_if_ne (tgt := 107) dX11_barsOfFits_59 rfl (fun c12 => ?_) (fun c12 => ?_)
        · refine j_iload_n 1 dX11_barsOfFits_107 rfl ?_
          refine j_iret dX11_barsOfFits_108 rfl ?_
          have hz : tdK Z k n 2 = (-4) := by
            have ok9 := ok
            have hk9 := hk
            have htd := fun hn => td2 (n := n) (ok9.sz hk9) hn
            have hcl9 : rrK Z k = 0 → ¬ Z.2.2.1 k 0 = -1 := (by unfold rrK rrS; grind)
            clear hQ cv hM hS ok ok9
            grind [tdK, tdS]
          exact hQ _ _ ⟨by rw [hz], rfl⟩
        · exact absurd c12 (by decide)
set_option maxRecDepth 20000 in
set_option maxHeartbeats 4000000 in
theorem T_barsF1 {d : Nat} {M : jk_M} {Z : ZS} (cv : MV M Z) (ok : Zok Z) (k : Nat) (hk : k < 8) (m : Nat) (hm : m ≤ 40) (z : Nat) (hz9 : z ≤ 160) (ez9 : Z.2.2.1 k 1 = nI z) (hmz : 2 * m ≤ z) (hr0 : rrK Z k = 0) : J Fr_X11_barsOfFits (d + 2) 0 0 0 [(0, .ref 0), (1, .int (nI k)), (2, .int (nI m))] [] M (jk_is (some (.int (prS Z.1 (tlK Z k) m))) M) := by
  refine j_post (fun Q hQ => ?_)
  have hM := cv.1
  have hS := cv.2.1
  have okS := ok.1
  have h40 := cv.2.2.2.2.2.2.2.2.2.2.1
  have hsk := shl_k hk
  have hsmk := shm_g (cv.2.2.2.1 k hk)
  have hzzk := shok0 (ok.sh hk)
  have hszk : M.2.1 15 k = nI z := by rw [← ez9]; clear hQ; grind [rrK, rrS]
  refine j_aload_n 0 dX11_barsOfFits_0 rfl ?_
  refine j_iload_n 1 dX11_barsOfFits_1 rfl ?_
  refine j_callV (kc := 0) (ks := 0) (a := 0) (b := 0) (d' := (d + 1)) (As := [.int (nI k)]) dX11_barsOfFits_2 kX11_229 rfl (shM hM sgM_0) (by omega) rfl rfl rfl (Nat.le_of_ble_eq_true rfl) (Nat.le_of_ble_eq_true rfl) (T_wanted cv ok k hk) (kk_p ?_)
  refine j_istore_n (L' := [(3, .int (rrK Z k)), (0, .ref 0), (1, .int (nI k)), (2, .int (nI m))]) dX11_barsOfFits_5 (by decide) rfl ?_
  refine j_iload_n 0 dX11_barsOfFits_6 rfl ?_
  refine j_if_ne (tgt := 49) dX11_barsOfFits_7 rfl (fun c1 => ?_) (fun c1 => ?_)
  · exact absurd hr0 c1
  · refine j_iload_n 3 dX11_barsOfFits_10 rfl ?_
    refine j_if_geN (tgt := 19) m dX11_barsOfFits_11 (by omega) rfl ?_
    refine j_iload_n 3 dX11_barsOfFits_19 rfl ?_
    refine j_aload_n 1 dX11_barsOfFits_20 rfl ?_
    refine j_getr (q := 15) dX11_barsOfFits_21 fX11_68 (shM hM sgM_0) rfl (rfM hM rfM_0_23) ?_
    refine j_iload_n 2 dX11_barsOfFits_24 rfl ?_
    refine j_ialdN k dX11_barsOfFits_25 (shM hM sgM_15) (by omega) (by omega) ?_
    refine j_topi (nI z) hszk ?_
    refine j_iconst 2 dX11_barsOfFits_26 ic_2 ?_
    refine j_idivN z 2 dX11_barsOfFits_27 (by omega) (by omega) (by omega) ?_
    refine j_icmp_leN (tgt := 36) m (z / 2) dX11_barsOfFits_28 rfl (by omega) (by omega) (fun c3 => ?_) (fun c3 => ?_)
    · refine j_iload_n 3 dX11_barsOfFits_36 rfl ?_
      refine j_bipush 40 dX11_barsOfFits_37 bp_40 ?_
      refine j_icmp_leN (tgt := 47) m 40 dX11_barsOfFits_39 rfl (by omega) (by omega) (fun c4 => ?_) (fun c4 => ?_)
      · refine j_iconst 0 dX11_barsOfFits_47 ic_0 ?_
        refine j_istore_n (L' := [(3, .int 0), (0, .ref 0), (1, .int (nI k)), (2, .int (nI m))]) dX11_barsOfFits_48 (by decide) rfl ?_
        refine j_iconst 0 dX11_barsOfFits_49 ic_0 ?_
        refine j_istore (L' := [(4, .int 0), (3, .int 0), (0, .ref 0), (1, .int (nI k)), (2, .int (nI m))]) dX11_barsOfFits_50 (by decide) rfl ?_
        have lp7 : ∀ (k5 : Nat) (i : Nat) (b : Int32), m - i < k5 → (i ≤ m) → ((b = 0 ∧ ∀ j, j < i → gdS Z.1 (tlK Z k) j) ∨ (b = -6 ∧ ∃ j, j < m ∧ ¬ gdS Z.1 (tlK Z k) j)) → J Fr_X11_barsOfFits (d + 2) 0 0 52 [(0, .ref 0), (1, .int (nI k)), (2, .int (nI m)), (3, .int b), (4, .int (nI i))] [] M Q := by
          intro k5
          induction k5 with
          | zero => intro i b hk; exact absurd hk (Nat.not_lt_zero _)
          | succ k5 ih6 =>
            intro i b hk5 hi hb
            refine j_iload 4 dX11_barsOfFits_52 rfl ?_
            refine j_iload_n 2 dX11_barsOfFits_54 rfl ?_
            refine j_icmp_geN (tgt := 107) i m dX11_barsOfFits_55 rfl (by omega) (by omega) (fun c8 => ?_) (fun c8 => ?_)
            · refine j_iload_n 3 dX11_barsOfFits_107 rfl ?_
              refine j_iret dX11_barsOfFits_108 rfl ?_
              have hz : prS Z.1 (tlK Z k) m = b := by
                rcases hb with ⟨e, hg⟩ | ⟨e, j, hj, hg⟩
                · rw [e]; exact gd_y (fun j hj => hg j (by omega))
                · rw [e]; exact gd_n hj hg
              exact hQ _ _ ⟨by rw [hz], rfl⟩
            · refine j_iload_n 3 dX11_barsOfFits_58 rfl ?_
              refine j_if_ne (tgt := 107) dX11_barsOfFits_59 rfl (fun c9 => ?_) (fun c9 => ?_)
              · refine j_iload_n 3 dX11_barsOfFits_107 rfl ?_
                refine j_iret dX11_barsOfFits_108 rfl ?_
                have hz : prS Z.1 (tlK Z k) m = b := by
                  rcases hb with ⟨e, hg⟩ | ⟨e, j, hj, hg⟩
                  · exact absurd e c9
                  · rw [e]; exact gd_n hj hg
                exact hQ _ _ ⟨by rw [hz], rfl⟩
              · refine j_aload_n 0 dX11_barsOfFits_62 rfl ?_
                refine j_aload_n 0 dX11_barsOfFits_63 rfl ?_
                refine j_iload_n 1 dX11_barsOfFits_64 rfl ?_
                refine j_iconst 2 dX11_barsOfFits_65 ic_2 ?_
                refine j_iload 4 dX11_barsOfFits_66 rfl ?_
                refine j_imulN 2 i dX11_barsOfFits_68 ?_
                refine j_callV (kc := 0) (ks := 0) (a := 0) (b := 0) (d' := d) (As := [.int (nI k), .int (nI (2 * i))]) dX11_barsOfFits_69 kX11_287 rfl (shM hM sgM_0) (by omega) rfl rfl rfl (Nat.le_of_ble_eq_true rfl) (Nat.le_of_ble_eq_true rfl) (T_intAt cv rfl hM k hk (2 * i) (by omega) (has_z hz9 ez9 (by omega))) (kk_p ?_)
                refine j_callV (kc := 0) (ks := 0) (a := 0) (b := 0) (d' := d) (As := [.int (tlK Z k (nI (2 * i)))]) dX11_barsOfFits_72 kX11_154 rfl (shM hM sgM_0) (by omega) rfl rfl rfl (Nat.le_of_ble_eq_true rfl) (Nat.le_of_ble_eq_true rfl) (T_X11_isCell hM hS okS (tlK Z k (nI (2 * i)))) (kk_p ?_)
                refine j_if_eqB (p := (isC Z.1 (tlK Z k (nI (2 * i))))) (tgt := 98) dX11_barsOfFits_75 rfl (fun c10 => ?_) (fun c10 => ?_)
                · refine j_bipush (-6) dX11_barsOfFits_98 bp_n6 ?_
                  refine j_istore_n (L' := [(3, .int (-6)), (0, .ref 0), (1, .int (nI k)), (2, .int (nI m)), (4, .int (nI i))]) dX11_barsOfFits_100 (by decide) rfl ?_
                  refine j_iinc 4 (nI (i + 1)) (L' := [(4, .int (nI (i + 1))), (3, .int (-6)), (0, .ref 0), (1, .int (nI k)), (2, .int (nI m))]) dX11_barsOfFits_101 rfl (inc1 i) (by decide) rfl ?_
                  refine j_goto (tgt := 52) dX11_barsOfFits_104 rfl ?_
                  exact j_sub (jk_pick [2, 3, 4, 1, 0] rfl) (ih6 (i + 1) (-6) (by omega) (by omega) (Or.inr ⟨rfl, i, by omega, fun z => c10 z.1⟩))
                · refine j_aload_n 0 dX11_barsOfFits_78 rfl ?_
                  refine j_aload_n 0 dX11_barsOfFits_79 rfl ?_
                  refine j_iload_n 1 dX11_barsOfFits_80 rfl ?_
                  refine j_iconst 2 dX11_barsOfFits_81 ic_2 ?_
                  refine j_iload 4 dX11_barsOfFits_82 rfl ?_
                  refine j_imulN 2 i dX11_barsOfFits_84 ?_
                  refine j_iconst 1 dX11_barsOfFits_85 ic_1 ?_
                  refine j_iaddN (2 * i) 1 dX11_barsOfFits_86 ?_
                  refine j_callV (kc := 0) (ks := 0) (a := 0) (b := 0) (d' := d) (As := [.int (nI k), .int (nI ((2 * i) + 1))]) dX11_barsOfFits_87 kX11_287 rfl (shM hM sgM_0) (by omega) rfl rfl rfl (Nat.le_of_ble_eq_true rfl) (Nat.le_of_ble_eq_true rfl) (T_intAt cv rfl hM k hk ((2 * i) + 1) (by omega) (has_z hz9 ez9 (by omega))) (kk_p ?_)
                  refine j_iconst 0 dX11_barsOfFits_90 ic_0 ?_
                  refine j_iconst 5 dX11_barsOfFits_91 ic_5 ?_
                  refine j_callV (kc := 0) (ks := 0) (a := 0) (b := 0) (d' := d) (As := [.int (tlK Z k (nI ((2 * i) + 1))), .int 0, .int 5]) dX11_barsOfFits_92 kX11_150 rfl (shM hM sgM_0) (by omega) rfl rfl rfl (Nat.le_of_ble_eq_true rfl) (Nat.le_of_ble_eq_true rfl) (T_X11_isFrom (tlK Z k (nI ((2 * i) + 1))) 0 5) (kk_p ?_)
                  refine j_if_neB (p := (0 ≤ (tlK Z k (nI ((2 * i) + 1))) ∧ (tlK Z k (nI ((2 * i) + 1))) ≤ 5)) (tgt := 101) dX11_barsOfFits_95 rfl (fun c11 => ?_) (fun c11 => ?_)
                  · refine j_iinc 4 (nI (i + 1)) (L' := [(4, .int (nI (i + 1))), (0, .ref 0), (1, .int (nI k)), (2, .int (nI m)), (3, .int b)]) dX11_barsOfFits_101 rfl (inc1 i) (by decide) rfl ?_
                    refine j_goto (tgt := 52) dX11_barsOfFits_104 rfl ?_
                    exact j_sub (jk_pick [1, 2, 3, 4, 0] rfl) (ih6 (i + 1) b (by omega) (by omega) (Or.inl ⟨c9, fun j hj => (Nat.lt_succ_iff_lt_or_eq.mp hj).elim (fun q => (hb.elim id (fun y => absurd (y.1.symm.trans c9) (by decide))).2 j q) (fun e => by rw [e]; exact ⟨c10, c11⟩)⟩))
                  · refine j_bipush (-6) dX11_barsOfFits_98 bp_n6 ?_
                    refine j_istore_n (L' := [(3, .int (-6)), (0, .ref 0), (1, .int (nI k)), (2, .int (nI m)), (4, .int (nI i))]) dX11_barsOfFits_100 (by decide) rfl ?_
                    refine j_iinc 4 (nI (i + 1)) (L' := [(4, .int (nI (i + 1))), (3, .int (-6)), (0, .ref 0), (1, .int (nI k)), (2, .int (nI m))]) dX11_barsOfFits_101 rfl (inc1 i) (by decide) rfl ?_
                    refine j_goto (tgt := 52) dX11_barsOfFits_104 rfl ?_
                    exact j_sub (jk_pick [2, 3, 4, 1, 0] rfl) (ih6 (i + 1) (-6) (by omega) (by omega) (Or.inr ⟨rfl, i, by omega, fun z => c11 z.2⟩))
        exact j_sub (jk_pick [2, 3, 4, 1, 0] rfl) (lp7 _ 0 0 (Nat.lt_succ_self _) (by omega) (Or.inl ⟨rfl, fun j hj => absurd hj (Nat.not_lt_zero j)⟩))
      · exact absurd c4 (by omega)
    · exact absurd c3 (by omega)
set_option maxRecDepth 20000 in
set_option maxHeartbeats 4000000 in
theorem T_barsFN {d : Nat} {M : jk_M} (hM : WM M) (s n : Int32) (hs : ¬ (0 ≤ s ∧ s < 8)) : J Fr_X11_barsOfFits (d + 2) 0 0 0 [(0, .ref 0), (1, .int s), (2, .int n)] [] M (jk_is (some (.int (-1))) M) := by
  refine j_post (fun Q hQ => ?_)
  refine j_aload_n 0 dX11_barsOfFits_0 rfl ?_
  refine j_iload_n 1 dX11_barsOfFits_1 rfl ?_
  refine j_callV (kc := 0) (ks := 0) (a := 0) (b := 0) (d' := (d + 1)) (As := [.int s]) dX11_barsOfFits_2 kX11_229 rfl (shM hM sgM_0) (by omega) rfl rfl rfl (Nat.le_of_ble_eq_true rfl) (Nat.le_of_ble_eq_true rfl) (T_wantedN hM s hs) (kk_p ?_)
  refine j_istore_n (L' := [(3, .int (-1)), (0, .ref 0), (1, .int s), (2, .int n)]) dX11_barsOfFits_5 (by decide) rfl ?_
  refine j_iload_n 0 dX11_barsOfFits_6 rfl ?_
  refine j_if_ne (tgt := 49) dX11_barsOfFits_7 rfl (fun c1 => ?_) (fun c1 => ?_)
  · refine j_iconst 0 dX11_barsOfFits_49 ic_0 ?_
    refine j_istore (L' := [(4, .int 0), (3, .int (-1)), (0, .ref 0), (1, .int s), (2, .int n)]) dX11_barsOfFits_50 (by decide) rfl ?_
    refine j_iload 0 dX11_barsOfFits_52 rfl ?_
    refine j_iload_n 4 dX11_barsOfFits_54 rfl ?_
    refine j_icmp_ge (tgt := 107) dX11_barsOfFits_55 rfl (fun c2 => ?_) (fun c2 => ?_)
    · refine j_iload_n 1 dX11_barsOfFits_107 rfl ?_
      refine j_iret dX11_barsOfFits_108 rfl ?_
      exact hQ _ _ ⟨rfl, rfl⟩
    · refine j_iload_n 1 dX11_barsOfFits_58 rfl ?_
      refine j_if_ne (tgt := 107) dX11_barsOfFits_59 rfl (fun c3 => ?_) (fun c3 => ?_)
      · refine j_iload_n 1 dX11_barsOfFits_107 rfl ?_
        refine j_iret dX11_barsOfFits_108 rfl ?_
        exact hQ _ _ ⟨rfl, rfl⟩
      · exact absurd c3 (by decide)
  · exact absurd c1 (by decide)
def PFf0 (q k : Nat) : Prop := q = 12 ∨ q = 29 ∨ q = 30 ∨ (q = 0 ∧ k = 47)
theorem PFf0_F : ∀ q k, PFf0 q k → PFf q k := fun q k h => by unfold PFf0 at h; unfold PFf; omega
set_option maxRecDepth 20000 in
set_option maxHeartbeats 4000000 in
theorem T_X11_findsFits {d : Nat} {M : jk_M} {Z : ZS} (cv : MV M Z) (ok : Zok Z) (k : Nat) (hk : k < 8) (m : Nat) (hm : m ≤ 40) (z : Nat) (hz9 : z ≤ 160) (ez9 : Z.2.2.1 k 1 = nI z) (hmz : 2 * m ≤ z) (hr0 : rrK Z k = 0) (hpr : prS Z.1 (tlK Z k) m = 0) : J Fr_X11_findsFits (d + 4) 0 0 0 [(0, .ref 0), (1, .int (nI k)), (2, .int (nI m))] [] M (jk_ex none (fun M1 => Fm PFf M M1 ∧ mv M1.2.1 = Z.1 ∧ LkO Z.1 M1 ∧ FtO M1 (fitN Z.1 (fun c => agS Z.1 (tlK Z k) (nI c) m) 80))) := by
  refine j_post (fun Q hQ => ?_)
  have hM := cv.1
  have hS := cv.2.1
  have okS := ok.1
  have h40 := cv.2.2.2.2.2.2.2.2.2.2.1
  have h8 := (Sok.S okS).2.2
  have hgd := gd_of hpr
  refine j_aload_n 0 dX11_findsFits_0 rfl ?_
  refine j_getr (q := 12) dX11_findsFits_1 fX11_59 (shM hM sgM_0) rfl (rfM hM rfM_0_20) ?_
  refine j_iconst 0 dX11_findsFits_4 ic_0 ?_
  refine j_ialdN 0 dX11_findsFits_5 (shM hM sgM_12) (by omega) (by omega) ?_
  refine j_topi (Z.1 5 0) (mr_b0 hS) ?_
  refine j_istore_n (L' := [(3, .int (Z.1 5 0)), (0, .ref 0), (1, .int (nI k)), (2, .int (nI m))]) dX11_findsFits_6 (by decide) rfl ?_
  refine j_aload_n 1 dX11_findsFits_7 rfl ?_
  refine j_callV (kc := 0) (ks := 0) (a := 0) (b := 0) (d' := (d + 3)) (As := []) dX11_findsFits_8 kX11_181 rfl (shM hM sgM_0) (by omega) rfl rfl rfl (Nat.le_of_ble_eq_true rfl) (Nat.le_of_ble_eq_true rfl) (T_X11_looks hM hS okS h40 (GT.no okS) okS) (kk_ev (fun M1 hM2 => ?_))
  obtain ⟨h0L, lk0⟩ := hM2
  have smL : Fm PFf M M1 := Fm.mo h0L PLk_F
  have h5L : mv M1.2.1 = upS Z.1 5 0 (Z.1 5 0) := (Fm.mv h0L hS PLk_H).trans upS_id.symm
  refine j_aload_n 1 dX11_findsFits_11 rfl ?_
  refine j_iconst 0 dX11_findsFits_12 ic_0 ?_
  refine j_put dX11_findsFits_13 fX11_290 (shM (Fm.M smL hM) sgM_0) rfl ?_
  have sm3 : Fm PFf M (jk_wI M1 0 47 0) := Fm.w smL (by unfold PFf PLk; omega)
  refine j_iconst 0 dX11_findsFits_16 ic_0 ?_
  refine j_istore (L' := [(4, .int 0), (3, .int (Z.1 5 0)), (0, .ref 0), (1, .int (nI k)), (2, .int (nI m))]) dX11_findsFits_17 (by decide) rfl ?_
  have lp6 : ∀ (k4 : Nat) (r : Nat) (M1 : jk_M), nS Z.1 - r < k4 → (r ≤ nS Z.1) → (Fm PFf M M1) → (∃ x, mv M1.2.1 = upS Z.1 5 0 x) → (LkO Z.1 M1) → (FtO M1 (fitN Z.1 (fun c => agS Z.1 (tlK Z k) (nI c) m) (10 * r))) → J Fr_X11_findsFits (d + 4) 0 0 19 [(0, .ref 0), (1, .int (nI k)), (2, .int (nI m)), (3, .int (Z.1 5 0)), (4, .int (nI r))] [] M1 Q := by
    intro k4
    induction k4 with
    | zero => intro r M1 hk; exact absurd hk (Nat.not_lt_zero _)
    | succ k4 ih5 =>
      intro r M1 hk4 hr hs1 hxx lk1 hf1
      refine j_iload 4 dX11_findsFits_19 rfl ?_
      obtain ⟨x, hx⟩ := hxx
      refine j_aload_n 0 dX11_findsFits_21 rfl ?_
      refine j_getv (nI (nS Z.1)) dX11_findsFits_22 fX11_7 (shM (Fm.M hs1 hM) sgM_0) rfl (((mr_side hx).trans (upS_n (by omega))).trans (Sok.S okS).1) ?_
      refine j_icmp_geN (tgt := 151) r (nS Z.1) dX11_findsFits_25 rfl (by omega) (by omega) (fun c7 => ?_) (fun c7 => ?_)
      · have hend : (fitN Z.1 (fun c => agS Z.1 (tlK Z k) (nI c) m) (10 * r)) = (fitN Z.1 (fun c => agS Z.1 (tlK Z k) (nI c) m) 80) := by
          rw [show r = nS Z.1 by omega]; exact sk_end okS (g := fun n_ => (fitN Z.1 (fun c => agS Z.1 (tlK Z k) (nI c) m) n_)) fit_k
        refine j_aload_n 0 dX11_findsFits_151 rfl ?_
        refine j_getr (q := 12) dX11_findsFits_152 fX11_59 (shM (Fm.M hs1 hM) sgM_0) rfl (rfM (Fm.M hs1 hM) rfM_0_20) ?_
        refine j_iconst 0 dX11_findsFits_155 ic_0 ?_
        refine j_iload_n 3 dX11_findsFits_156 rfl ?_
        refine j_iastN 0 dX11_findsFits_157 (shM (Fm.M hs1 hM) sgM_12) (by omega) (by omega) ?_
        have sm8 : Fm PFf M (jk_wI M1 12 0 (Z.1 5 0)) := Fm.w hs1 (by unfold PFf PLk; omega)
        refine j_vret dX11_findsFits_158 rfl ?_
        have hmvE : mv (jk_wI M1 12 0 (Z.1 5 0)).2.1 = Z.1 := by
          have q := mv_sc (a := 5) (x := Z.1 5 0) hx (by decide) (by decide) (by decide) (by decide)
          rw [upS_up, upS_id] at q; exact q
        exact hQ _ _ ⟨rfl, sm8, hmvE, (lk1.fm (P := PFf0) (Fm.w Fm.rf (by unfold PFf0; omega)) (fun k => by unfold PFf0; omega) (by unfold PFf0; omega)), by rw [← hend]; exact FtO.fm hf1 (P := fun q _ => q = 12) (Fm.rf.w rfl) (fun z => by have z : (0 : Nat) = 12 := z; omega) (fun k z => by have z : (29 : Nat) = 12 := z; omega)⟩
      · refine j_iconst 0 dX11_findsFits_28 ic_0 ?_
        refine j_istore (L' := [(5, .int 0), (0, .ref 0), (1, .int (nI k)), (2, .int (nI m)), (3, .int (Z.1 5 0)), (4, .int (nI r))]) dX11_findsFits_29 (by decide) rfl ?_
        have lp11 : ∀ (k9 : Nat) (c : Nat) (M2 : jk_M), nS Z.1 - c < k9 → (c ≤ nS Z.1) → (Fm PFf M M2) → (∃ x, mv M2.2.1 = upS Z.1 5 0 x) → (LkO Z.1 M2) → (FtO M2 (fitN Z.1 (fun c => agS Z.1 (tlK Z k) (nI c) m) (10 * r + c))) → J Fr_X11_findsFits (d + 4) 0 0 31 [(0, .ref 0), (1, .int (nI k)), (2, .int (nI m)), (3, .int (Z.1 5 0)), (4, .int (nI r)), (5, .int (nI c))] [] M2 Q := by
          intro k9
          induction k9 with
          | zero => intro c M2 hk; exact absurd hk (Nat.not_lt_zero _)
          | succ k9 ih10 =>
            intro c M2 hk9 hc hs2 hyy lk2 hf2
            refine j_iload 5 dX11_findsFits_31 rfl ?_
            obtain ⟨x, hx⟩ := hyy
            refine j_aload_n 0 dX11_findsFits_33 rfl ?_
            refine j_getv (nI (nS Z.1)) dX11_findsFits_34 fX11_7 (shM (Fm.M hs2 hM) sgM_0) rfl (((mr_side hx).trans (upS_n (by omega))).trans (Sok.S okS).1) ?_
            refine j_icmp_geN (tgt := 145) c (nS Z.1) dX11_findsFits_37 rfl (by omega) (by omega) (fun c12 => ?_) (fun c12 => ?_)
            · refine j_iinc 4 (nI (r + 1)) (L' := [(4, .int (nI (r + 1))), (0, .ref 0), (1, .int (nI k)), (2, .int (nI m)), (3, .int (Z.1 5 0)), (5, .int (nI c))]) dX11_findsFits_145 rfl (inc1 r) (by decide) rfl ?_
              refine j_goto (tgt := 19) dX11_findsFits_148 rfl ?_
              exact j_sub (jk_pick [1, 2, 3, 4, 0] rfl) (ih5 (r + 1) M2 (by omega) (by omega) hs2 ⟨x, hx⟩ lk2 (by have e := sk_row okS (g := fun n_ => (fitN Z.1 (fun c => agS Z.1 (tlK Z k) (nI c) m) n_)) fit_k (show r < 8 by omega); rw [← e, ← show c = nS Z.1 by omega]; exact hf2))
            · have hcell := isC_of (n := 10 * r + c) okS (show 10 * r + c < 80 by omega) (by omega) (by omega)
              refine j_aload_n 0 dX11_findsFits_40 rfl ?_
              refine j_getr (q := 12) dX11_findsFits_41 fX11_59 (shM (Fm.M hs2 hM) sgM_0) rfl (rfM (Fm.M hs2 hM) rfM_0_20) ?_
              refine j_iconst 0 dX11_findsFits_44 ic_0 ?_
              refine j_bipush 10 dX11_findsFits_45 bp_10 ?_
              refine j_iload 4 dX11_findsFits_47 rfl ?_
              refine j_imulN 10 r dX11_findsFits_49 ?_
              refine j_iload 5 dX11_findsFits_50 rfl ?_
              refine j_iaddN (10 * r) c dX11_findsFits_52 ?_
              refine j_iastN 0 dX11_findsFits_53 (shM (Fm.M hs2 hM) sgM_12) (by omega) (by omega) ?_
              have sm13 : Fm PFf M (jk_wI M2 12 0 (nI ((10 * r) + c))) := Fm.w hs2 (by unfold PFf PLk; omega)
              have hT : mv (jk_wI M2 12 0 (nI ((10 * r) + c))).2.1 = upS Z.1 5 0 (nI (10 * r + c)) := by
                have q := mv_sc (a := 5) (x := nI (10 * r + c)) hx (by decide) (by decide) (by decide) (by decide)
                rw [upS_up] at q; exact q
              have lk3 : LkO Z.1 (jk_wI M2 12 0 (nI ((10 * r) + c))) := lk2.fm (P := PFf0) (Fm.w Fm.rf (by unfold PFf0; omega)) (fun k => by unfold PFf0; omega) (by unfold PFf0; omega)
              refine j_iconst 1 dX11_findsFits_54 ic_1 ?_
              refine j_istore (L' := [(6, .int 1), (0, .ref 0), (1, .int (nI k)), (2, .int (nI m)), (3, .int (Z.1 5 0)), (4, .int (nI r)), (5, .int (nI c))]) dX11_findsFits_55 (by decide) rfl ?_
              refine j_iconst 0 dX11_findsFits_57 ic_0 ?_
              refine j_istore (L' := [(7, .int 0), (6, .int 1), (0, .ref 0), (1, .int (nI k)), (2, .int (nI m)), (3, .int (Z.1 5 0)), (4, .int (nI r)), (5, .int (nI c))]) dX11_findsFits_58 (by decide) rfl ?_
              have lp16 : ∀ (k14 : Nat) (i : Nat) (b : Int32), m - i < k14 → (i ≤ m) → ((b = 1 ∧ ∀ j, j < i → okP Z.1 (tlK Z k) (nI (10 * r + c)) j) ∨ (b = 0 ∧ ¬ agS Z.1 (tlK Z k) (nI (10 * r + c)) m)) → J Fr_X11_findsFits (d + 4) 0 0 60 [(0, .ref 0), (1, .int (nI k)), (2, .int (nI m)), (3, .int (Z.1 5 0)), (4, .int (nI r)), (5, .int (nI c)), (6, .int b), (7, .int (nI i))] [] (jk_wI M2 12 0 (nI ((10 * r) + c))) Q := by
                intro k14
                induction k14 with
                | zero => intro i b hk; exact absurd hk (Nat.not_lt_zero _)
                | succ k14 ih15 =>
                  intro i b hk14 hi hb
                  refine j_iload 7 dX11_findsFits_60 rfl ?_
                  refine j_iload_n 2 dX11_findsFits_62 rfl ?_
                  refine j_icmp_geN (tgt := 112) i m dX11_findsFits_63 rfl (by omega) (by omega) (fun c17 => ?_) (fun c17 => ?_)
                  · refine j_iload 6 dX11_findsFits_112 rfl ?_
                    refine j_if_eq (tgt := 139) dX11_findsFits_114 rfl (fun c18 => ?_) (fun c18 => ?_)
                    · have hnot : ¬ agS Z.1 (tlK Z k) (nI (10 * r + c)) m := by
                        rcases hb with ⟨e, hg⟩ | ⟨e, hg⟩
                        · exact absurd (e.symm.trans c18) (by decide)
                        · exact hg
                      refine j_iinc 5 (nI (c + 1)) (L' := [(5, .int (nI (c + 1))), (0, .ref 0), (1, .int (nI k)), (2, .int (nI m)), (3, .int (Z.1 5 0)), (4, .int (nI r)), (6, .int b), (7, .int (nI i))]) dX11_findsFits_139 rfl (inc1 c) (by decide) rfl ?_
                      refine j_goto (tgt := 31) dX11_findsFits_142 rfl ?_
                      exact j_sub (jk_pick [1, 2, 3, 4, 5, 0] rfl) (ih10 (c + 1) (jk_wI M2 12 0 (nI ((10 * r) + c))) (by omega) (by omega) sm13 ⟨_, hT⟩ (lk2.fm (P := PFf0) (Fm.w Fm.rf (by unfold PFf0; omega)) (fun k => by unfold PFf0; omega) (by unfold PFf0; omega)) (by rw [show 10 * r + (c + 1) = 10 * r + c + 1 by omega, fitN_f (A := (fun c => agS Z.1 (tlK Z k) (nI c) m)) (n := 10 * r + c) (Or.inr hnot)]; exact FtO.fm hf2 (P := fun q _ => q = 12) (Fm.rf.w rfl) (fun z => by have z : (0 : Nat) = 12 := z; omega) (fun k z => by have z : (29 : Nat) = 12 := z; omega)))
                    · have hall : agS Z.1 (tlK Z k) (nI (10 * r + c)) m := by
                        rcases hb with ⟨e, hg⟩ | ⟨e, hg⟩
                        · exact fun i_ hi_ => hg i_ (by omega)
                        · exact absurd e (by assumption)
                      have hl64 := fit_len2 okS (A := (fun c => agS Z.1 (tlK Z k) (nI c) m)) (10 * r + c) (by omega)
                      refine j_aload_n 0 dX11_findsFits_117 rfl ?_
                      refine j_getr (q := 29) dX11_findsFits_118 fX11_114 (shM (Fm.M sm13 hM) sgM_0) rfl (rfM (Fm.M sm13 hM) rfM_0_45) ?_
                      refine j_aload_n 0 dX11_findsFits_121 rfl ?_
                      refine j_dup dX11_findsFits_122 rfl ?_
                      refine j_getv (nI ((fitN Z.1 (fun c => agS Z.1 (tlK Z k) (nI c) m) (10 * r + c))).length) dX11_findsFits_123 fX11_290 (shM (Fm.M sm13 hM) sgM_0) rfl (FtO.fm hf2 (P := fun q _ => q = 12) (Fm.rf.w rfl) (fun z => by have z : (0 : Nat) = 12 := z; omega) (fun k z => by have z : (29 : Nat) = 12 := z; omega)).1 ?_
                      refine j_dup_x1 dX11_findsFits_126 rfl rfl ?_
                      refine j_iconst 1 dX11_findsFits_127 ic_1 ?_
                      refine j_iaddN (((fitN Z.1 (fun c => agS Z.1 (tlK Z k) (nI c) m) (10 * r + c))).length) 1 dX11_findsFits_128 ?_
                      refine j_put dX11_findsFits_129 fX11_290 (shM (Fm.M sm13 hM) sgM_0) rfl ?_
                      have sm19 : Fm PFf M (jk_wI (jk_wI M2 12 0 (nI ((10 * r) + c))) 0 47 (nI (((fitN Z.1 (fun c => agS Z.1 (tlK Z k) (nI c) m) (10 * r + c))).length + 1))) := Fm.w sm13 (by unfold PFf PLk; omega)
                      refine j_aload_n 0 dX11_findsFits_132 rfl ?_
                      refine j_getr (q := 12) dX11_findsFits_133 fX11_59 (shM (Fm.M sm19 hM) sgM_0) rfl (rfM (Fm.M sm19 hM) rfM_0_20) ?_
                      refine j_iconst 0 dX11_findsFits_136 ic_0 ?_
                      refine j_ialdN 0 dX11_findsFits_137 (shM (Fm.M sm19 hM) sgM_12) (by omega) (by omega) ?_
                      refine j_topi (nI (10 * r + c)) ((rd_o (by decide)).trans rd_s) ?_
                      refine j_iastN (((fitN Z.1 (fun c => agS Z.1 (tlK Z k) (nI c) m) (10 * r + c))).length) dX11_findsFits_138 (shM (Fm.M sm19 hM) sgM_29) (by omega) (by omega) ?_
                      have sm20 : Fm PFf M (jk_wI (jk_wI (jk_wI M2 12 0 (nI ((10 * r) + c))) 0 47 (nI (((fitN Z.1 (fun c => agS Z.1 (tlK Z k) (nI c) m) (10 * r + c))).length + 1))) 29 (((fitN Z.1 (fun c => agS Z.1 (tlK Z k) (nI c) m) (10 * r + c))).length) (nI (10 * r + c))) := Fm.w sm19 (by unfold PFf PLk; omega)
                      have hmv5 : ∃ x, mv (jk_wI (jk_wI (jk_wI M2 12 0 (nI ((10 * r) + c))) 0 47 (nI (((fitN Z.1 (fun c => agS Z.1 (tlK Z k) (nI c) m) (10 * r + c))).length + 1))) 29 (((fitN Z.1 (fun c => agS Z.1 (tlK Z k) (nI c) m) (10 * r + c))).length) (nI (10 * r + c))).2.1 = upS Z.1 5 0 x := ⟨_, Fm.mv (P := PS) (Fm.w (Fm.w Fm.rf (by unfold PS; omega)) (by unfold PS; omega)) hT PS_H⟩
                      refine j_iinc 5 (nI (c + 1)) (L' := [(5, .int (nI (c + 1))), (0, .ref 0), (1, .int (nI k)), (2, .int (nI m)), (3, .int (Z.1 5 0)), (4, .int (nI r)), (6, .int b), (7, .int (nI i))]) dX11_findsFits_139 rfl (inc1 c) (by decide) rfl ?_
                      refine j_goto (tgt := 31) dX11_findsFits_142 rfl ?_
                      exact j_sub (jk_pick [1, 2, 3, 4, 5, 0] rfl) (ih10 (c + 1) (jk_wI (jk_wI (jk_wI M2 12 0 (nI ((10 * r) + c))) 0 47 (nI (((fitN Z.1 (fun c => agS Z.1 (tlK Z k) (nI c) m) (10 * r + c))).length + 1))) 29 (((fitN Z.1 (fun c => agS Z.1 (tlK Z k) (nI c) m) (10 * r + c))).length) (nI (10 * r + c))) (by omega) (by omega) sm20 hmv5 (lk2.fm (P := PFf0) (Fm.w (Fm.w (Fm.w Fm.rf (by unfold PFf0; omega)) (by unfold PFf0; omega)) (by unfold PFf0; omega)) (fun k => by unfold PFf0; omega) (by unfold PFf0; omega)) (by rw [show 10 * r + (c + 1) = 10 * r + c + 1 by omega, fitN_t (A := (fun c => agS Z.1 (tlK Z k) (nI c) m)) (n := 10 * r + c) hcell hall]; exact FtO.app (FtO.fm hf2 (P := fun q _ => q = 12) (Fm.rf.w rfl) (fun z => by have z : (0 : Nat) = 12 := z; omega) (fun k z => by have z : (29 : Nat) = 12 := z; omega))))
                  · refine j_iload 6 dX11_findsFits_66 rfl ?_
                    refine j_if_eq (tgt := 112) dX11_findsFits_68 rfl (fun c21 => ?_) (fun c21 => ?_)
                    · refine j_iload 6 dX11_findsFits_112 rfl ?_
                      refine j_if_eq (tgt := 139) dX11_findsFits_114 rfl (fun c22 => ?_) (fun c22 => ?_)
                      · have hnot : ¬ agS Z.1 (tlK Z k) (nI (10 * r + c)) m := by
                          rcases hb with ⟨e, hg⟩ | ⟨e, hg⟩
                          · exact absurd (e.symm.trans c22) (by decide)
                          · exact hg
                        refine j_iinc 5 (nI (c + 1)) (L' := [(5, .int (nI (c + 1))), (0, .ref 0), (1, .int (nI k)), (2, .int (nI m)), (3, .int (Z.1 5 0)), (4, .int (nI r)), (6, .int b), (7, .int (nI i))]) dX11_findsFits_139 rfl (inc1 c) (by decide) rfl ?_
                        refine j_goto (tgt := 31) dX11_findsFits_142 rfl ?_
                        exact j_sub (jk_pick [1, 2, 3, 4, 5, 0] rfl) (ih10 (c + 1) (jk_wI M2 12 0 (nI ((10 * r) + c))) (by omega) (by omega) sm13 ⟨_, hT⟩ (lk2.fm (P := PFf0) (Fm.w Fm.rf (by unfold PFf0; omega)) (fun k => by unfold PFf0; omega) (by unfold PFf0; omega)) (by rw [show 10 * r + (c + 1) = 10 * r + c + 1 by omega, fitN_f (A := (fun c => agS Z.1 (tlK Z k) (nI c) m)) (n := 10 * r + c) (Or.inr hnot)]; exact FtO.fm hf2 (P := fun q _ => q = 12) (Fm.rf.w rfl) (fun z => by have z : (0 : Nat) = 12 := z; omega) (fun k z => by have z : (29 : Nat) = 12 := z; omega)))
                      · exact absurd c21 c22
                    · have hb1 : ¬ b = 0 := by assumption
                      refine j_aload_n 0 dX11_findsFits_71 rfl ?_
                      refine j_iconst 0 dX11_findsFits_72 ic_0 ?_
                      refine j_aload_n 0 dX11_findsFits_73 rfl ?_
                      refine j_iload_n 1 dX11_findsFits_74 rfl ?_
                      refine j_iconst 2 dX11_findsFits_75 ic_2 ?_
                      refine j_iload 7 dX11_findsFits_76 rfl ?_
                      refine j_imulN 2 i dX11_findsFits_78 ?_
                      refine j_callV (kc := 0) (ks := 0) (a := 0) (b := 0) (d' := d) (As := [.int (nI k), .int (nI (2 * i))]) dX11_findsFits_79 kX11_287 rfl (shM (Fm.M sm13 hM) sgM_0) (by omega) rfl rfl rfl (Nat.le_of_ble_eq_true rfl) (Nat.le_of_ble_eq_true rfl) (T_intAt cv sm13.2.1 (Fm.M sm13 hM) k hk (2 * i) (by omega) (has_z hz9 ez9 (by omega))) (kk_p ?_)
                      refine j_callV (kc := 0) (ks := 0) (a := 0) (b := 0) (d' := (d + 3)) (As := [.int 0, .int (tlK Z k (nI (2 * i)))]) dX11_findsFits_82 kX11_257 rfl (shM (Fm.M sm13 hM) sgM_0) (by omega) rfl rfl rfl (Nat.le_of_ble_eq_true rfl) (Nat.le_of_ble_eq_true rfl) (T_bars5 (Fm.M sm13 hM) hT okS hcell lk3 (hgd _ (by omega)).1) (kk_p ?_)
                      refine j_aload_n 0 dX11_findsFits_85 rfl ?_
                      refine j_iload_n 1 dX11_findsFits_86 rfl ?_
                      refine j_iconst 2 dX11_findsFits_87 ic_2 ?_
                      refine j_iload 7 dX11_findsFits_88 rfl ?_
                      refine j_imulN 2 i dX11_findsFits_90 ?_
                      refine j_iconst 1 dX11_findsFits_91 ic_1 ?_
                      refine j_iaddN (2 * i) 1 dX11_findsFits_92 ?_
                      refine j_callV (kc := 0) (ks := 0) (a := 0) (b := 0) (d' := d) (As := [.int (nI k), .int (nI ((2 * i) + 1))]) dX11_findsFits_93 kX11_287 rfl (shM (Fm.M sm13 hM) sgM_0) (by omega) rfl rfl rfl (Nat.le_of_ble_eq_true rfl) (Nat.le_of_ble_eq_true rfl) (T_intAt cv sm13.2.1 (Fm.M sm13 hM) k hk ((2 * i) + 1) (by omega) (has_z hz9 ez9 (by omega))) (kk_p ?_)
                      refine j_icmp_ne (tgt := 103) dX11_findsFits_96 rfl (fun c23 => ?_) (fun c23 => ?_)
                      · refine j_iconst 0 dX11_findsFits_103 ic_0 ?_
                        refine j_istore (L' := [(6, .int 0), (0, .ref 0), (1, .int (nI k)), (2, .int (nI m)), (3, .int (Z.1 5 0)), (4, .int (nI r)), (5, .int (nI c)), (7, .int (nI i))]) dX11_findsFits_104 (by decide) rfl ?_
                        refine j_iinc 7 (nI (i + 1)) (L' := [(7, .int (nI (i + 1))), (6, .int 0), (0, .ref 0), (1, .int (nI k)), (2, .int (nI m)), (3, .int (Z.1 5 0)), (4, .int (nI r)), (5, .int (nI c))]) dX11_findsFits_106 rfl (inc1 i) (by decide) rfl ?_
                        refine j_goto (tgt := 60) dX11_findsFits_109 rfl ?_
                        exact j_sub (jk_pick [2, 3, 4, 5, 6, 7, 1, 0] rfl) (ih15 (i + 1) 0 (by omega) (by omega) (Or.inr ⟨rfl, fun z => c23 (z i (by omega))⟩))
                      · refine j_iconst 1 dX11_findsFits_99 ic_1 ?_
                        refine j_goto (tgt := 104) dX11_findsFits_100 rfl ?_
                        refine j_istore (L' := [(6, .int 1), (0, .ref 0), (1, .int (nI k)), (2, .int (nI m)), (3, .int (Z.1 5 0)), (4, .int (nI r)), (5, .int (nI c)), (7, .int (nI i))]) dX11_findsFits_104 (by decide) rfl ?_
                        refine j_iinc 7 (nI (i + 1)) (L' := [(7, .int (nI (i + 1))), (6, .int 1), (0, .ref 0), (1, .int (nI k)), (2, .int (nI m)), (3, .int (Z.1 5 0)), (4, .int (nI r)), (5, .int (nI c))]) dX11_findsFits_106 rfl (inc1 i) (by decide) rfl ?_
                        refine j_goto (tgt := 60) dX11_findsFits_109 rfl ?_
                        exact j_sub (jk_pick [2, 3, 4, 5, 6, 7, 1, 0] rfl) (ih15 (i + 1) 1 (by omega) (by omega) (Or.inl ⟨rfl, fun j hj => (Nat.lt_succ_iff_lt_or_eq.mp hj).elim (fun q => (hb.elim id (fun y => absurd y.1 hb1)).2 j q) (fun e => by rw [e]; exact c23)⟩))
              exact j_sub (jk_pick [2, 3, 4, 5, 6, 7, 1, 0] rfl) (lp16 _ 0 1 (Nat.lt_succ_self _) (by omega) (Or.inl ⟨rfl, fun j hj => absurd hj (Nat.not_lt_zero j)⟩))
        exact j_sub (jk_pick [1, 2, 3, 4, 5, 0] rfl) (lp11 _ 0 M1 (Nat.lt_succ_self _) (by omega) hs1 ⟨x, hx⟩ lk1 hf1)
  exact j_sub (jk_pick [2, 3, 4, 1, 0] rfl) (lp6 _ 0 (jk_wI M1 0 47 0) (Nat.lt_succ_self _) (by omega) sm3 ⟨_, Fm.mv (P := PS) (Fm.w Fm.rf (by unfold PS; omega)) h5L PS_H⟩ (lk0.fm (P := PFf0) (Fm.w Fm.rf (by unfold PFf0; omega)) (fun k => by unfold PFf0; omega) (by unfold PFf0; omega)) ⟨rd_s, fun i hi => absurd hi (Nat.not_lt_zero i)⟩)
