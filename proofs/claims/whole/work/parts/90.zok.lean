/-! every call keeps the state good -/
theorem cif_k {p : Prop} {a b : Int32 × ZS} (ha : p → Zok a.2) (hb : ¬ p → Zok b.2) : Zok (cif p a b).2 := by
  by_cases h : p
  · rw [cif_t h]; exact ha h
  · rw [cif_f h]; exact hb h
theorem cif_kl {p : Prop} {a b : Int64 × ZS} (ha : p → Zok a.2) (hb : ¬ p → Zok b.2) : Zok (cif p a b).2 := by
  by_cases h : p
  · rw [cif_t h]; exact ha h
  · rw [cif_f h]; exact hb h
theorem refV_hi {V : Nat → Int32} {c : Int32} {i : Nat} (h : 8 ≤ i) : refV V c i = V i := by
  unfold refV
  split
  · rename_i z
    obtain ⟨k, hk, e⟩ := neg_in z
    rw [e, va_up_ne _ _ (by omega)]
  · rfl
theorem rf_ok {Z : ZS} (ok : Zok Z) (c : Int32) : Zok (refZ Z c) := ⟨ok.1, ok.2.1, ok.2.2.1, by
  show inB (refV Z.2.2.2.2 c 10) 0 100
  rw [refV_hi (by decide)]; exact ok.2.2.2.1, by
  show refV Z.2.2.2.2 c 8 = 0 ∨ refV Z.2.2.2.2 c 8 = 1
  rw [refV_hi (by decide)]; exact ok.2.2.2.2⟩
theorem Shok.mono {n m : Nat} {a z p : Int32} (h : Shok n a z p) (hm : n ≤ m) : Shok m a z p := h.imp id (fun ⟨h1, h2, h3⟩ => ⟨h1, h2, h3.imp id (fun ⟨i, hi, e⟩ => ⟨i, by omega, e⟩)⟩)
theorem now_ok {Z : ZS} {S : HS} (ok : Zok Z) (o : Sok S) (h : nT Z.1 ≤ nT S) : Zok (nowZ Z S) := ⟨o, ok.2.1, fun s hs => (ok.2.2.1 s hs).mono h, ok.2.2.2⟩
theorem up_nT {S : HS} {a i : Nat} {x : Int32} (h : a ≠ 7) : nT (upS S a i x) = nT S := by simp only [nT]; rw [upS_n (by omega)]
theorem nowu {Z : ZS} {a i : Nat} {x : Int32} (ok : Zok Z) (h : a ≠ 7) (o : Sok (upS Z.1 a i x)) : Zok (nowZ Z (upS Z.1 a i x)) := now_ok ok o (Nat.le_of_eq (up_nT h).symm)
theorem sh_ok {Z : ZS} {k : Nat} {g : Nat → Int32} {f : Nat → Int64} (ok : Zok Z) (h : k < 8 → Shok (nT Z.1) (g 0) (g 1) (g 2)) : Zok (shZ Z k g f) := ⟨ok.1, ok.2.1, fun s hs => by
  show Shok (nT Z.1) (va_up Z.2.2.1 k g s 0) (va_up Z.2.2.1 k g s 1) (va_up Z.2.2.1 k g s 2)
  by_cases e : s = k
  · subst e; rw [va_up_self]; exact h hs
  · rw [va_up_ne _ _ e]; exact ok.2.2.1 s hs, ok.2.2.2⟩
theorem vz_ok {Z : ZS} {V : Nat → Int32} (ok : Zok Z) (h : inB (V 10) 0 100) (h8 : V 8 = Z.2.2.2.2 8) : Zok (vZ Z V) := ⟨ok.1, ok.2.1, ok.2.2.1, h, by
  show V 8 = 0 ∨ V 8 = 1
  rw [h8]; exact ok.2.2.2.2⟩
theorem s_lt {s : Int32} (h : 0 ≤ s ∧ s < 8) : s.toNatClampNeg < 8 := by
  obtain ⟨k, hk, rfl⟩ := s_in h
  rw [nI_clamp (by omega)]; exact hk
theorem addT_nT {S : HS} (ok : Sok S) {k a c : Int32} : nT S ≤ nT (addTS S k a c) := by
  have := ok.T.2
  have e : addTS S k a c 7 0 = nI (nT S + 1) := if_pos ⟨rfl, rfl⟩
  show _ ≤ (addTS S k a c 7 0).toNatClampNeg
  rw [e, nI_clamp (by omega)]; omega
theorem addN_nT {S : HS} {c n : Int32} : nT (addNS S c n) = nT S := by
  simp only [nT, addNS]; rw [if_neg (by omega), if_neg (by omega)]
theorem addD_nT {S : HS} {c w v : Int32} : nT (addDS S c w v) = nT S := by
  simp only [nT, addDS]; rw [if_neg (by omega), if_neg (by omega)]
theorem apS_nT {S : HS} (ok : Sok S) {w : Nat} (hw : w < 10) {x0 x1 x2 : Int32} : nT S ≤ nT (apS S w x0 x1 x2) := by
  have hw10 : w = 0 ∨ w = 1 ∨ w = 2 ∨ w = 3 ∨ w = 4 ∨ w = 5 ∨ w = 6 ∨ w = 7 ∨ w = 8 ∨ w = 9 := by omega
  rcases hw10 with rfl | rfl | rfl | rfl | rfl | rfl | rfl | rfl | rfl | rfl
  · exact Nat.le_of_eq (up_nT (S := S) (a := 0) (i := 0) (x := x0) (by decide)).symm
  · exact addT_nT (S := S) (k := x0) (a := x1) (c := x2) ok
  · show _ ≤ nT (if x0 = 0 then upS S 5 0 x1 else upS S 6 0 x1)
    split
    · exact Nat.le_of_eq (up_nT (by decide)).symm
    · exact Nat.le_of_eq (up_nT (by decide)).symm
  · exact Nat.le_of_eq (up_nT (S := S) (a := 1) (i := 0) (x := x0) (by decide)).symm
  · exact Nat.le_of_eq (up_nT (S := S) (a := 2) (i := 0) (x := x0) (by decide)).symm
  · exact Nat.le_of_eq (addN_nT (S := S) (c := x0) (n := x1)).symm
  · exact Nat.le_of_eq (addD_nT (S := S) (c := x0) (w := x1) (v := x2)).symm
  · exact Nat.le_of_eq (up_nT (S := S) (a := 13) (i := x0.toNatClampNeg) (x := 0) (by decide)).symm
  · exact Nat.le_of_eq (up_nT (S := S) (a := 13) (i := x0.toNatClampNeg) (x := 1) (by decide)).symm
  · exact Nat.le_of_eq (up_nT (S := S) (a := 3) (i := 0) (x := x0) (by decide)).symm
theorem itS_nT {S T : HS} (ok : Sok S) {n p q : Nat} {t : Nat → Int32} (h : itS S n t p = .inr (T, q)) : nT S ≤ nT T := by
  cases hw : wdN n t p 10 with
  | none => rw [itS_0 hw] at h; cases h
  | some w =>
    by_cases hr : roomS S w
    · cases hn : nuL S n t w (p + jk_sL.getD w 0) 3 with
      | inl f => rw [itS_2 hw hr hn] at h; cases h
      | inr qv =>
        obtain ⟨q0, v⟩ := qv
        rw [itS_3 hw hr hn] at h
        have e : (apS S w (v 0) (v 1) (v 2), q0) = (T, q) := by simpa using h
        obtain ⟨rfl, rfl⟩ := Prod.mk.inj e
        exact apS_nT ok (wd_lt 10 hw).1
    · rw [itS_1 hw hr] at h; cases h
theorem rdL_nT {n : Nat} {t : Nat → Int32} : ∀ f S p k T m, Sok S → p ≤ n → rdL n t f S p k = .inr (T, m) → nT S ≤ nT T
  | 0, S, p, k, T, m, _, _, h => by cases h
  | f + 1, S, p, k, T, m, ok, hp, h => by
    cases hi : itS S n t p with
    | inl x => rw [rdL_0 hi] at h; cases h
    | inr Tq =>
      obtain ⟨T1, q⟩ := Tq
      obtain ⟨ok1, l1, l2⟩ := itS_in ok hp hi
      have l3 := itS_nT ok hi
      by_cases e : q = n
      · rw [rdL_1 hi e] at h
        have e2 : (T1, k) = (T, m) := by simpa using h
        obtain ⟨rfl, rfl⟩ := Prod.mk.inj e2
        exact l3
      · by_cases e2 : q < n ∧ t q = 59
        · rw [rdL_2 hi e e2] at h
          have := rdL_nT f T1 (q + 1) (k + 1) T m ok1 (by omega) h
          omega
        · rw [rdL_3 hi e e2] at h; cases h
theorem pm_nT {S : HS} {r : Int32} : ∀ d, nT (pmT S r d) = nT S
  | 0 => up_nT (by decide)
  | d + 1 => (up_nT (by decide)).trans (pm_nT d)
theorem ev_nT {S : HS} {r : Int32} : ∀ k, nT (evS S r k) = nT S
  | 0 => rfl
  | k + 1 => (pm_nT _).trans (ev_nT k)
theorem ds_nT {S : HS} : nT (ds S) = nT S := ds_n.2.1
theorem ch_nT {S : HS} : nT (chS S) = nT S := by
  unfold chS
  repeat' split
  all_goals (repeat rw [up_nT (by decide)])
  all_goals simp only [ds_nT]
theorem wk_nT {S : HS} : ∀ k, nT (wkS S k).1 = nT S
  | 0 => rfl
  | k + 1 => ((pm_nT _).trans ch_nT).trans (wk_nT k)
theorem mb (z : Int32) {S : HS} {x : Int32} (h : mayS S z x) (hz : ¬ z = 3) (a b : Nat) (ha : a < 2 ^ 31) (hb : b < 2 ^ 31) (h1 : jk_le.getD z.toNatClampNeg 0 = nI a) (h2 : jk_mo.getD z.toNatClampNeg 0 = nI b) : inB x a b := may_B z hz a b ha hb h1 h2 h
theorem nt_lo {V : Nat → Int32} {b : Int32} {i : Nat} (h : i < 10) : noteV V b i = V i := by
  unfold noteV
  rw [va_up_ne _ _ (by omega)]
  split
  · rw [va_up_ne _ _ (by omega)]
  · rfl
theorem nl_lo {i : Nat} (h : i < 10) : ∀ (l : List Int32) (V : Nat → Int32), noteVL V l i = V i
  | [], _ => rfl
  | b :: l, V => (nl_lo h l (noteV V b)).trans (nt_lo h)
theorem hm_len (k : Nat) : (hmL k).length ≤ 10 := by
  have := st_len k
  have := tk_len k
  unfold hmL
  (repeat' split) <;> simp only [List.length_cons, List.length_append] <;> omega
theorem act_ok {Z : ZS} (ok : Zok Z) {l : List Int32} (hl : l.length ≤ 10) : Zok (vZ Z (noteVL (v0 Z.2.2.2.2) l)) := vz_ok ok (by
  have e := nl_10 l (V := v0 Z.2.2.2.2) (q := 0) (va_up_self _ _ _)
  rw [e]
  exact ⟨0 + l.length, by omega, by omega, rfl⟩) (by rw [nl_lo (by decide), v0, va_up_ne _ _ (by decide)])
theorem zk_elem {Z : ZS} (ok : Zok Z) (s i : Int32) : Zok (elemZ Z s i).2 := by
  unfold elemZ 
  repeat' first
    | exact ok
    | exact rf_ok ok _
    | refine cif_k (fun _ => ?_) (fun _ => ?_)
    | refine cif_kl (fun _ => ?_) (fun _ => ?_)
    | split
theorem zk_holds {Z : ZS} (ok : Zok Z) (s : Int32) : Zok (holdsZ Z s).2 := by
  unfold holdsZ 
  repeat' first
    | exact ok
    | exact rf_ok ok _
    | refine cif_k (fun _ => ?_) (fun _ => ?_)
    | refine cif_kl (fun _ => ?_) (fun _ => ?_)
    | split
theorem zk_says {Z : ZS} (ok : Zok Z) (s q : Int32) : Zok (saysZ Z s q).2 := by
  unfold saysZ inS saysK inZ saysI
  repeat' first
    | exact ok
    | exact rf_ok ok _
    | refine cif_k (fun _ => ?_) (fun _ => ?_)
    | refine cif_kl (fun _ => ?_) (fun _ => ?_)
    | split
theorem zk_tof {Z : ZS} (ok : Zok Z) (t w : Int32) : Zok (tofZ Z t w).2 := by
  unfold tofZ inZ tofK
  repeat' first
    | exact ok
    | exact rf_ok ok _
    | refine cif_k (fun _ => ?_) (fun _ => ?_)
    | refine cif_kl (fun _ => ?_) (fun _ => ?_)
    | split
theorem zk_dof {Z : ZS} (ok : Zok Z) (t w : Int32) : Zok (dofZ Z t w).2 := by
  unfold dofZ inZ dofK
  repeat' first
    | exact ok
    | exact rf_ok ok _
    | refine cif_k (fun _ => ?_) (fun _ => ?_)
    | refine cif_kl (fun _ => ?_) (fun _ => ?_)
    | split
theorem zk_fault {Z : ZS} (ok : Zok Z) : Zok (faultZ Z).2 := by
  unfold faultZ 
  repeat' first
    | exact ok
    | exact rf_ok ok _
    | refine cif_k (fun _ => ?_) (fun _ => ?_)
    | refine cif_kl (fun _ => ?_) (fun _ => ?_)
    | split
theorem zk_bars {Z : ZS} (ok : Zok Z) (b c w : Int32) : Zok (barsZ Z b c w).2 := by
  unfold barsZ 
  repeat' first
    | exact ok
    | exact rf_ok ok _
    | refine cif_k (fun _ => ?_) (fun _ => ?_)
    | refine cif_kl (fun _ => ?_) (fun _ => ?_)
    | split
theorem zk_way {Z : ZS} (ok : Zok Z) (c e w : Int32) : Zok (wayZ Z c e w).2 := by
  unfold wayZ 
  repeat' first
    | exact ok
    | exact rf_ok ok _
    | refine cif_k (fun _ => ?_) (fun _ => ?_)
    | refine cif_kl (fun _ => ?_) (fun _ => ?_)
    | split
theorem zk_hum {Z : ZS} (ok : Zok Z) (c w : Int32) : Zok (humZ Z c w).2 := by
  unfold humZ 
  repeat' first
    | exact ok
    | exact rf_ok ok _
    | refine cif_k (fun _ => ?_) (fun _ => ?_)
    | refine cif_kl (fun _ => ?_) (fun _ => ?_)
    | split
theorem zk_filled {Z : ZS} (ok : Zok Z) (w : Int32) : Zok (filledZ Z w).2 := by
  unfold filledZ 
  repeat' first
    | exact ok
    | exact rf_ok ok _
    | refine cif_k (fun _ => ?_) (fun _ => ?_)
    | refine cif_kl (fun _ => ?_) (fun _ => ?_)
    | split
theorem zk_put {Z : ZS} (ok : Zok Z) (k : Int32) : Zok (putZ Z k).2 := by
  unfold putZ 
  repeat' first
    | exact ok
    | exact rf_ok ok _
    | refine cif_k (fun _ => ?_) (fun _ => ?_)
    | refine cif_kl (fun _ => ?_) (fun _ => ?_)
    | split
theorem zk_channel {Z : ZS} (ok : Zok Z) : Zok (channelZ Z).2 := by
  unfold channelZ 
  repeat' first
    | exact ok
    | exact rf_ok ok _
    | refine cif_k (fun _ => ?_) (fun _ => ?_)
    | refine cif_kl (fun _ => ?_) (fun _ => ?_)
    | split
theorem zk_rests {Z : ZS} (ok : Zok Z) : Zok (restsZ Z).2 := by
  unfold restsZ 
  repeat' first
    | exact ok
    | exact rf_ok ok _
    | refine cif_k (fun _ => ?_) (fun _ => ?_)
    | refine cif_kl (fun _ => ?_) (fun _ => ?_)
    | split
theorem zk_goes {Z : ZS} (ok : Zok Z) (t n : Int32) : Zok (goesZ Z t n).2 := by
  unfold goesZ inZ goK
  repeat' first
    | exact ok
    | exact rf_ok ok _
    | refine cif_k (fun _ => ?_) (fun _ => ?_)
    | refine cif_kl (fun _ => ?_) (fun _ => ?_)
    | split
theorem zk_moved {Z : ZS} (ok : Zok Z) : Zok (movedZ Z).2 := by
  unfold movedZ 
  repeat' first
    | exact ok
    | exact rf_ok ok _
    | refine cif_k (fun _ => ?_) (fun _ => ?_)
    | refine cif_kl (fun _ => ?_) (fun _ => ?_)
    | split
theorem zk_doors {Z : ZS} (ok : Zok Z) : Zok (doorsZ Z).2 := by
  unfold doorsZ 
  repeat' first
    | exact ok
    | exact rf_ok ok _
    | refine cif_k (fun _ => ?_) (fun _ => ?_)
    | refine cif_kl (fun _ => ?_) (fun _ => ?_)
    | split
theorem zk_count {Z : ZS} (ok : Zok Z) (n : Int32) : Zok (countZ Z n).2 := by
  unfold countZ 
  repeat' first
    | exact ok
    | exact rf_ok ok _
    | refine cif_k (fun _ => ?_) (fun _ => ?_)
    | refine cif_kl (fun _ => ?_) (fun _ => ?_)
    | split
theorem zk_fits {Z : ZS} (ok : Zok Z) (s n i : Int32) : Zok (fitsZ Z s n i).2 := by
  unfold fitsZ inS fitsK
  repeat' first
    | exact ok
    | exact rf_ok ok _
    | refine cif_k (fun _ => ?_) (fun _ => ?_)
    | refine cif_kl (fun _ => ?_) (fun _ => ?_)
    | split
theorem zk_next {Z : ZS} (ok : Zok Z) (s n : Int32) : Zok (nextZ Z s n).2 := by
  unfold nextZ inS nextK
  repeat' first
    | exact ok
    | exact rf_ok ok _
    | refine cif_k (fun _ => ?_) (fun _ => ?_)
    | refine cif_kl (fun _ => ?_) (fun _ => ?_)
    | split
theorem zk_near {Z : ZS} (ok : Zok Z) (c n : Int32) : Zok (nearZ Z c n).2 := by
  unfold nearZ 
  repeat' first
    | exact ok
    | exact rf_ok ok _
    | refine cif_k (fun _ => ?_) (fun _ => ?_)
    | refine cif_kl (fun _ => ?_) (fun _ => ?_)
    | split
theorem zk_minute {Z : ZS} (ok : Zok Z) : Zok (minuteZ Z).2 := by
  unfold minuteZ 
  repeat' first
    | exact ok
    | exact rf_ok ok _
    | refine cif_k (fun _ => ?_) (fun _ => ?_)
    | refine cif_kl (fun _ => ?_) (fun _ => ?_)
    | split
theorem zk_blame {Z : ZS} (ok : Zok Z) (c : Int32) : Zok (blameZ Z c).2 := by
  unfold blameZ 
  repeat' first
    | exact ok
    | exact rf_ok ok _
    | refine cif_k (fun _ => ?_) (fun _ => ?_)
    | refine cif_kl (fun _ => ?_) (fun _ => ?_)
    | split
theorem zk_judge {Z : ZS} (ok : Zok Z) (s n : Int32) : Zok (judgeZ Z s n).2 := by
  unfold judgeZ inS judgeK
  repeat' first
    | exact ok
    | exact rf_ok ok _
    | refine cif_k (fun _ => ?_) (fun _ => ?_)
    | refine cif_kl (fun _ => ?_) (fun _ => ?_)
    | split
theorem zk_hops {Z : ZS} (ok : Zok Z) (s n r : Int32) : Zok (hopsZ Z s n r).2 := by
  unfold hopsZ inS hopsK
  repeat' first
    | exact ok
    | exact rf_ok ok _
    | refine cif_k (fun _ => ?_) (fun _ => ?_)
    | refine cif_kl (fun _ => ?_) (fun _ => ?_)
    | split
theorem zk_trace {Z : ZS} (ok : Zok Z) (i : Int32) : Zok (traceZ Z i).2 := by
  unfold traceZ 
  repeat' first
    | exact ok
    | exact rf_ok ok _
    | refine cif_k (fun _ => ?_) (fun _ => ?_)
    | refine cif_kl (fun _ => ?_) (fun _ => ?_)
    | split
theorem zk_stat {Z : ZS} (ok : Zok Z) (w : Int32) : Zok (statZ Z w).2 := by
  unfold statZ 
  repeat' first
    | exact ok
    | exact rf_ok ok _
    | refine cif_k (fun _ => ?_) (fun _ => ?_)
    | refine cif_kl (fun _ => ?_) (fun _ => ?_)
    | split
theorem zk_row {Z : ZS} (ok : Zok Z) (s a n : Int32) : Zok (rowZ Z s a n).2 := by
  unfold rowZ inS rowK
  refine cif_k (fun hs => cif_k (fun _ => rf_ok ok _) (fun h1 => cif_k (fun _ => rf_ok ok _) (fun h2 => cif_k (fun _ => rf_ok ok _) (fun h3 => ?_)))) (fun _ => rf_ok ok _)
  have h2 := Classical.not_not.mp h2
  refine sh_ok ok (fun _ => Or.inl ⟨inB_of (by decide) (by decide) h2.1 h2.2, inB_of (a := 0) (b := 160) (by decide) (by decide) (Int32.not_lt.mp h1) (Int32.not_lt.mp h3), rfl⟩)
theorem zk_set {Z : ZS} (ok : Zok Z) (s i : Int32) (v : Int64) : Zok (setZ Z s i v).2 := by
  unfold setZ inS setK
  exact cif_k (fun hs => cif_k (fun _ => rf_ok ok _) (fun _ => cif_k (fun _ => rf_ok ok _) (fun _ => sh_ok ok (fun hk => ok.2.2.1 _ hk)))) (fun _ => rf_ok ok _)
theorem zk_copy {Z : ZS} (ok : Zok Z) (s t i j n : Int32) : Zok (copyZ Z s t i j n).2 := by
  unfold copyZ inS copyK
  exact cif_k (fun hs => cif_k (fun _ => cif_k (fun _ => rf_ok ok _) (fun _ => cif_k (fun _ => rf_ok ok _) (fun _ => cif_k (fun _ => rf_ok ok _) (fun _ => sh_ok ok (fun hk => ok.2.2.1 _ hk))))) (fun _ => rf_ok ok _)) (fun _ => rf_ok ok _)
theorem zk_show {Z : ZS} (ok : Zok Z) (s t : Int32) : Zok (showZ Z s t).2 := by
  unfold showZ inS showK
  refine cif_k (fun hs => cif_k (fun _ => sh_ok ok (fun _ => Or.inr ⟨rfl, rfl, Or.inl rfl⟩)) (fun _ => cif_k (fun h => sh_ok ok (fun _ => Or.inr ⟨rfl, rfl, Or.inr ?_⟩)) (fun _ => rf_ok ok _))) (fun _ => rf_ok ok _)
  obtain ⟨i, hi, e⟩ := thing_in ok.1.T.2 h
  exact ⟨i, hi, e⟩
theorem zk_side {Z : ZS} (ok : Zok Z) (n : Int32) : Zok (sideZ Z n).2 := by
  unfold sideZ
  refine cif_k (fun _ => rf_ok ok _) (fun h => ?_)
  have h := Classical.not_not.mp h
  exact nowu ok (by decide) (ok.1.u0 (mb 0 h (by decide) 2 8 (by decide) (by decide) (by decide) (by decide)) (may_side h))
theorem zk_thing {Z : ZS} (ok : Zok Z) (k a c : Int32) : Zok (thingZ Z k a c).2 := by
  unfold thingZ
  refine cif_k (fun _ => rf_ok ok _) (fun h1 => cif_k (fun _ => rf_ok ok _) (fun h2 => cif_k (fun _ => rf_ok ok _) (fun h3 => ?_)))
  have h1 := Classical.not_not.mp h1
  have h2 := Classical.not_not.mp h2
  exact now_ok ok (ok.1.aT (by omega) (mb 1 h1 (by decide) 0 6 (by decide) (by decide) (by decide) (by decide)) (mb 2 h2.1 (by decide) 0 9 (by decide) (by decide) (by decide) (by decide)) h2.2) (addT_nT ok.1)
theorem zk_neigh {Z : ZS} (ok : Zok Z) (c n : Int32) : Zok (neighZ Z c n).2 := by
  unfold neighZ
  refine cif_k (fun _ => rf_ok ok _) (fun h1 => cif_k (fun _ => rf_ok ok _) (fun h2 => ?_))
  have h1 := Classical.not_not.mp h1
  exact now_ok ok (ok.1.aN (by omega) (mb 6 h1.1 (by decide) 1 13 (by decide) (by decide) (by decide) (by decide)) (mb 7 h1.2 (by decide) 0 20 (by decide) (by decide) (by decide) (by decide))) (Nat.le_of_eq addN_nT.symm)
theorem zk_dev {Z : ZS} (ok : Zok Z) (c w v : Int32) : Zok (devZ Z c w v).2 := by
  unfold devZ
  refine cif_k (fun _ => rf_ok ok _) (fun h1 => cif_k (fun _ => rf_ok ok _) (fun h2 => ?_))
  have h1 := Classical.not_not.mp h1
  exact now_ok ok (ok.1.aD (by omega) h1.1 (mb 8 h1.2.1 (by decide) 1 5 (by decide) (by decide) (by decide) (by decide)) (mb 9 h1.2.2 (by decide) 1 99 (by decide) (by decide) (by decide) (by decide))) (Nat.le_of_eq addD_nT.symm)
theorem zk_box {Z : ZS} (ok : Zok Z) (b c : Int32) : Zok (boxZ Z b c).2 := by
  unfold boxZ
  refine cif_k (fun _ => rf_ok ok _) (fun h => ?_)
  have h := Classical.not_not.mp h
  show Zok (nowZ Z (if b = 0 then _ else _))
  split
  · rename_i hb
    exact nowu ok (by decide) (ok.1.u5 (h.2.elim (fun z => absurd (hb.symm.trans z.1) (by decide)) id))
  · exact nowu ok (by decide) (ok.1.u6 (h.2.imp (fun z => z.2) id))
theorem zk_ask {Z : ZS} (ok : Zok Z) (w v : Int32) : Zok (askZ Z w v).2 := by
  unfold askZ
  refine cif_k (fun h => ?_) (fun _ => cif_k (fun h => ?_) (fun _ => cif_k (fun h => ?_) (fun _ => rf_ok ok _)))
  · exact nowu ok (by decide) (ok.1.u1 (mb 5 h.2 (by decide) 10 60 (by decide) (by decide) (by decide) (by decide)))
  · exact nowu ok (by decide) (ok.1.u2 (mb 6 h.2 (by decide) 1 13 (by decide) (by decide) (by decide) (by decide)))
  · exact nowu ok (by decide) (ok.1.u3 (mb 11 h.2 (by decide) 0 59 (by decide) (by decide) (by decide) (by decide)))
theorem zk_shut {Z : ZS} (ok : Zok Z) (t b : Int32) (hb : b = 0 ∨ b = 1) : Zok (shutZ Z t b).2 := by
  unfold shutZ inZ shutK
  exact cif_k (fun _ => nowu ok (by decide) (ok.1.u13 hb)) (fun _ => rf_ok ok _)
theorem zk_move {Z : ZS} (ok : Zok Z) (t c : Int32) : Zok (moveZ Z t c).2 := by
  unfold moveZ inZ moveK
  exact cif_k (fun _ => cif_k (fun _ => rf_ok ok _) (fun h => nowu ok (by decide) (ok.1.u12 (Classical.not_not.mp h)))) (fun _ => rf_ok ok _)
theorem zk_seed {Z : ZS} (ok : Zok Z) (v : Int32) : Zok (seedZ Z v).2 := nowu ok (by decide) ok.1.u4
theorem zk_house {Z : ZS} (ok : Zok Z) (s : Int32) : Zok (houseZ Z s).2 := by
  unfold houseZ inS houseK
  refine cif_k (fun hs => cif_k (fun _ => rf_ok ok _) (fun _ => ?_)) (fun _ => rf_ok ok _)
  cases hR : hsR Z s.toNatClampNeg with
  | inl x => exact rf_ok (flt_ok ok _) _
  | inr y =>
    obtain ⟨T, m⟩ := y
    exact now_ok (flt_ok ok _) (rdL_ok _ _ _ _ _ _ ok.1 (Nat.zero_le _) hR) (rdL_nT _ _ _ _ _ _ ok.1 (Nat.zero_le _) hR)
theorem zk_even {Z : ZS} (ok : Zok Z) (n r : Int32) : Zok (evenZ Z n r).2 := by
  unfold evenZ evenK
  exact cif_k (fun _ => rf_ok ok _) (fun _ => now_ok ok (ev_ok ok.1 r _) (Nat.le_of_eq (ev_nT _).symm))
theorem zk_week {Z : ZS} (ok : Zok Z) (n : Int32) : Zok (weekZ Z n).2 := by
  unfold weekZ weekK
  exact cif_k (fun _ => rf_ok ok _) (fun _ => now_ok ok (wk_ok ok.1 _) (Nat.le_of_eq (wk_nT _).symm))
theorem zk_act {Z : ZS} (ok : Zok Z) (t m x : Int32) : Zok (actZ Z t m x).2 := by
  unfold actZ actK
  refine cif_k (fun _ => ?_) (fun _ => act_ok ok (l := []) (by decide))
  repeat' split
  · exact act_ok ok (by have := st_len (Z.1 10 t.toNatClampNeg).toNatClampNeg; omega)
  · exact act_ok ok (by have := tk_len (Z.1 10 t.toNatClampNeg).toNatClampNeg; omega)
  · exact act_ok ok (hm_len _)
theorem zk_image {Z : ZS} (ok : Zok Z) : Zok (imageZ Z).2 := ⟨ok.1, ok.1, ok.2.2.1, by
  show inB (va_up Z.2.2.2.2 8 1 10) 0 100
  rw [va_up_ne _ _ (by decide)]; exact ok.2.2.2.1, by
  show va_up Z.2.2.2.2 8 1 8 = 0 ∨ va_up Z.2.2.2.2 8 1 8 = 1
  rw [va_up_self]; exact Or.inr rfl⟩
theorem zk_restore {Z : ZS} (ok : Zok Z) : Zok (restoreZ Z).2 := by
  unfold restoreZ
  refine cif_k (fun _ => rf_ok ok _) (fun _ => ⟨ok.2.1, ok.2.1, fun s hs => ?_, ok.2.2.2.1, ok.2.2.2.2⟩)
  show Shok (nT Z.2.1) (clrN (nT Z.2.1) Z.2.2.1 8 s 0) (clrN (nT Z.2.1) Z.2.2.1 8 s 1) (clrN (nT Z.2.1) Z.2.2.1 8 s 2)
  rw [clrN, if_pos hs, clrS]
  have h := ok.2.2.1 s hs
  split
  · exact Or.inr ⟨rfl, rfl, Or.inl rfl⟩
  · rename_i c
    refine h.imp id (fun ⟨h1, h2, h3⟩ => ⟨h1, h2, h3.imp id (fun ⟨i, hi, e⟩ => ⟨i, ?_, e⟩)⟩)
    have h16 := ok.1.T.2
    have h17 := ok.2.1.T.2
    rw [e, nI_leI (by omega) (by omega)] at c
    omega
