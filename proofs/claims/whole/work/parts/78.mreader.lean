/-! the model's reader -/
def RX (M : jk_M) (b n : Nat) (t : Nat → Int32) : Prop := b ≤ 1120 ∧ n ≤ 160 ∧ M.2.1 0 30 = nI b ∧ M.2.1 0 32 = nI n ∧ (∀ i, i < n → Int64.toInt32 (M.2.2.1 17 (b + i)) = t i) ∧ (∀ i, i < 73 → M.2.1 19 i = wdT.getD i 0) ∧ (∀ i, i < 10 → M.2.1 20 i = nbT.getD i 0)
theorem RX.fm {P : Nat → Nat → Prop} {M M1 : jk_M} {b n : Nat} {t : Nat → Int32} (h : RX M b n t) (s : Fm P M M1) (h1 : ¬ P 0 30) (h2 : ¬ P 0 32) (h3 : ∀ k, ¬ P 19 k) (h4 : ∀ k, ¬ P 20 k) : RX M1 b n t := ⟨h.1, h.2.1, (s.rd h1).trans h.2.2.1, (s.rd h2).trans h.2.2.2.1, fun i hi => by rw [s.2.1]; exact h.2.2.2.2.1 i hi, fun i hi => (s.rd (h3 i)).trans (h.2.2.2.2.2.1 i hi), fun i hi => (s.rd (h4 i)).trans (h.2.2.2.2.2.2 i hi)⟩
def PQr (q k : Nat) : Prop := q = 0 ∧ (k = 31 ∨ k = 33 ∨ k = 34)
theorem RX.q {M M1 : jk_M} {b n : Nat} {t : Nat → Int32} (h : RX M b n t) (s : Fm PQr M M1) : RX M1 b n t := h.fm s (by unfold PQr; omega) (by unfold PQr; omega) (fun k => by unfold PQr; omega) (fun k => by unfold PQr; omega)
theorem PQr_S : ∀ q k, PQr q k → PS q k := fun q k h => by unfold PQr at h; unfold PS; omega
theorem dg_y {n p : Nat} {t : Nat → Int32} (h1 : p < n) (h2 : 48 ≤ t p) (h3 : t p ≤ 57) : ¬ dgS n t p = -1 := by
  rw [dgS, if_pos ⟨h1, h2, h3⟩]; grind
theorem dg_n {n p : Nat} {t : Nat → Int32} (h : ¬ (p < n ∧ 48 ≤ t p ∧ t p ≤ 57)) : dgS n t p = -1 := if_neg h
theorem dg_v {n p : Nat} {t : Nat → Int32} (h : ¬ dgS n t p = -1) : p < n ∧ dgS n t p = t p - 48 ∧ 48 ≤ t p ∧ t p ≤ 57 := by
  by_cases c : p < n ∧ 48 ≤ t p ∧ t p ≤ 57
  · exact ⟨c.1, if_pos c, c.2⟩
  · exact absurd (dg_n c) h
theorem nuV_pos {n p : Nat} {t : Nat → Int32} (h : ¬ dgS n t p = -1) : 0 ≤ (nuV n t p).1 := by
  obtain ⟨-, e, h1, h2⟩ := dg_v h
  by_cases c : dgS n t (p + 1) = -1
  · rw [nuV_1 c]; show 0 ≤ dgS n t p; rw [e]; grind
  · obtain ⟨-, e3, h3, h4⟩ := dg_v c
    rw [nuV_2 c]; show 0 ≤ 10 * dgS n t p + dgS n t (p + 1); rw [e, e3]; grind
theorem may_3 {S : HS} {v : Int32} : mayS S 3 v = isC S v := by unfold mayS; exact if_pos rfl
theorem may_10 {S : HS} (ok : Sok S) {v : Int32} : mayS S 10 v = (0 ≤ v ∧ v < nI (nT S)) := by
  have h16 := ok.T.2
  apply propext
  unfold mayS
  rw [if_neg (by decide)]
  show (_ ∧ _ ∧ _ ∧ _ ∧ (0 : Int32) ≤ v ∧ v ≤ (15 : Int32)) ↔ _
  constructor
  · rintro ⟨-, -, -, h, h1, -⟩; exact ⟨h1, Int32.not_le.mp (fun z => h ⟨rfl, z⟩)⟩
  · rintro ⟨h1, h2⟩
    obtain ⟨j, hj, e⟩ := nI_of (Int32.not_lt.mpr h1)
    rw [e, nI_ltI hj (by omega)] at h2
    refine ⟨by decide, by decide, fun z => absurd z.1 (by decide), fun z => ?_, h1, ?_⟩
    · have := z.2; rw [e, nI_leI (by omega) hj] at this; omega
    · rw [e, show (15 : Int32) = nI 15 by decide]; exact nI_le (by omega) (by decide)
/-! words -/
def stW : List Nat := [0, 6, 13, 18, 25, 34, 45, 53, 59, 65, 73]
def lw (w s : Nat) : Int32 := wdT.getD (stW.getD w 0 + s) 0
def zcW (i : Nat) : Nat := ((wdT.take i).filter (fun x => x == 0)).length
theorem zc_s : ∀ i, i < 73 → zcW (i + 1) = zcW i + (if wdT.getD i 0 = 0 then 1 else 0) := by decide +kernel
theorem zc_lt0 : ∀ w, w < 10 → ∀ i, i < stW.getD w 0 → zcW i < w := by decide +kernel
theorem zc_w : ∀ w, w < 10 → zcW (stW.getD w 0) = w := by decide +kernel
theorem st_b : ∀ w, w < 10 → stW.getD w 0 + jk_sL.getD w 0 + 2 ≤ 73 := by decide +kernel
theorem st_s : ∀ w, w < 10 → stW.getD w 0 + jk_sL.getD w 0 + 2 = stW.getD (w + 1) 0 := by decide +kernel
theorem lw_l0 : ∀ w, w < 10 → ∀ s, s < jk_sL.getD w 0 → lw w s = chW w s ∧ ¬ lw w s = 0 ∧ 32 < lw w s := by decide +kernel
theorem lw_e : ∀ w, w < 10 → lw w (jk_sL.getD w 0) = 32 ∧ lw w (jk_sL.getD w 0 + 1) = 0 := by decide +kernel
theorem pre2 : ∀ w, w < 10 → ∀ j, j < 10 → w ≠ j → ¬ (chW w 0 = chW j 0 ∧ chW w 1 = chW j 1) := by decide +kernel
theorem zc_ge {w i : Nat} (hw : w < 10) (hi : i ≤ stW.getD w 0) (h : w ≤ zcW i) : i = stW.getD w 0 := by
  by_cases c : i = stW.getD w 0
  · exact c
  · have := zc_lt0 w hw i (by omega); omega
theorem zc_lt {w i : Nat} (hw : w < 10) (hi : i ≤ stW.getD w 0) (h : zcW i < w) : i + 1 ≤ stW.getD w 0 := by
  by_cases c : i = stW.getD w 0
  · have := zc_w w hw; rw [← c] at this; omega
  · omega
theorem lw_gt {w s : Nat} (hw : w < 10) (hs : s ≤ jk_sL.getD w 0) (h : ¬ lw w s ≤ 32) : s < jk_sL.getD w 0 := by
  by_cases c : s = jk_sL.getD w 0
  · rw [c, (lw_e w hw).1] at h; exact absurd (Int32.le_refl _) h
  · omega
theorem lw_le {w s : Nat} (hw : w < 10) (hs : s ≤ jk_sL.getD w 0) (h : lw w s ≤ 32) : s = jk_sL.getD w 0 := by
  by_cases c : s < jk_sL.getD w 0
  · exact absurd (lw_l0 w hw s c).2.2 (Int32.not_lt.mpr h)
  · omega
theorem lw_0 {w s : Nat} (hw : w < 10) (hs : s ≤ jk_sL.getD w 0 + 1) (h : lw w s = 0) : s = jk_sL.getD w 0 + 1 := by
  by_cases c : s < jk_sL.getD w 0
  · exact absurd h (lw_l0 w hw s c).2.1
  · by_cases c2 : s = jk_sL.getD w 0
    · rw [c2, (lw_e w hw).1] at h; exact absurd h (by decide)
    · omega
theorem lw_n0 {w s : Nat} (hw : w < 10) (hs : s ≤ jk_sL.getD w 0 + 1) (h : ¬ lw w s = 0) : s ≤ jk_sL.getD w 0 := by
  by_cases c : s = jk_sL.getD w 0 + 1
  · rw [c, (lw_e w hw).2] at h; exact absurd rfl h
  · omega
def mmf (n : Nat) (t : Nat → Int32) (p w : Nat) : Nat → Nat → Nat
  | 0, s => s
  | f + 1, s => if ¬ lw w s = 0 ∧ (p + s < n ∧ t (p + s) = lw w s) then mmf n t p w f (s + 1) else s
def mm (n : Nat) (t : Nat → Int32) (p w : Nat) : Nat := mmf n t p w 11 0
section MMS
variable {n : Nat} {t : Nat → Int32} {p w s : Nat}
theorem mmf_t (hs : s < 11) (h1 : ¬ lw w s = 0) (h2 : p + s < n ∧ t (p + s) = lw w s) : mmf n t p w (11 - s) s = mmf n t p w (11 - (s + 1)) (s + 1) := by
  obtain ⟨f, hf⟩ : ∃ f, 11 - s = f + 1 := ⟨11 - s - 1, by omega⟩
  rw [hf, mmf, if_pos ⟨h1, h2⟩, show 11 - (s + 1) = f by omega]
theorem mmf_f (h : lw w s = 0 ∨ ¬ (p + s < n ∧ t (p + s) = lw w s)) : mmf n t p w (11 - s) s = s := by
  cases h2 : 11 - s with
  | zero => rfl
  | succ f => rw [mmf, if_neg (fun z => h.elim z.1 (fun y => y z.2))]
theorem mm_g (hw : w < 10) : ∀ f s, s + f = 10 → s ≤ jk_sL.getD w 0 → mmf n t p w (f + 1) s = if mtf n t p w f s = jk_sL.getD w 0 ∧ (p + jk_sL.getD w 0 < n ∧ t (p + jk_sL.getD w 0) = 32) then jk_sL.getD w 0 + 1 else mtf n t p w f s
  | 0, s, h, hs => by have := sL9 w hw; omega
  | f + 1, s, h, hs => by
    by_cases c : s < jk_sL.getD w 0
    · obtain ⟨e1, e2, -⟩ := lw_l0 w hw s c
      rw [e1] at e2
      by_cases c2 : p + s < n ∧ t (p + s) = chW w s
      · have e3 : mtf n t p w (f + 1) s = mtf n t p w f (s + 1) := by rw [mtf, if_pos ⟨c, c2⟩]
        rw [e3, mmf, e1, if_pos ⟨e2, c2⟩]; exact mm_g hw f (s + 1) (by omega) c
      · have e3 : mtf n t p w (f + 1) s = s := by rw [mtf, if_neg (fun z => c2 z.2)]
        rw [e3, mmf, e1, if_neg (fun z => c2 z.2), if_neg (fun z => by have := z.1; omega)]
    · have es : s = jk_sL.getD w 0 := by omega
      obtain ⟨e1, e2⟩ := lw_e w hw
      have em : mtf n t p w (f + 1) s = s := by rw [mtf, if_neg (fun z => c z.1)]
      rw [em, mmf]
      subst es
      rw [e1]
      by_cases c2 : p + jk_sL.getD w 0 < n ∧ t (p + jk_sL.getD w 0) = 32
      · rw [if_pos ⟨by decide, c2⟩, if_pos ⟨rfl, c2⟩, mmf, e2, if_neg (fun z => z.1 rfl)]
      · rw [if_neg (fun z => c2 z.2), if_neg (fun z => c2 z.2)]
theorem mm_mt (hw : w < 10) : mm n t p w = if mt n t p w = jk_sL.getD w 0 ∧ (p + jk_sL.getD w 0 < n ∧ t (p + jk_sL.getD w 0) = 32) then jk_sL.getD w 0 + 1 else mt n t p w := mm_g hw 10 0 rfl (Nat.zero_le _)
theorem mt_allf : ∀ f s i, s ≤ i → i < mtf n t p w f s → p + i < n ∧ t (p + i) = chW w i
  | 0, s, i, h1, h2 => by have h2 : i < s := h2; omega
  | f + 1, s, i, h1, h2 => by
    rw [mtf] at h2
    by_cases c : s < jk_sL.getD w 0 ∧ (p + s < n ∧ t (p + s) = chW w s)
    · rw [if_pos c] at h2
      by_cases e : i = s
      · subst e; exact c.2
      · exact mt_allf f (s + 1) i (by omega) h2
    · rw [if_neg c] at h2; omega
theorem mt_all {i : Nat} (h : i < mt n t p w) : p + i < n ∧ t (p + i) = chW w i := mt_allf 10 0 i (Nat.zero_le _) h
end MMS
def wmN (n : Nat) (t : Nat → Int32) (p : Nat) : Nat → Option Nat
  | 0 => none
  | k + 1 => match wmN n t p k with
    | some w => some w
    | none => if mm n t p k = jk_sL.getD k 0 + 1 then some k else none
def mxN (n : Nat) (t : Nat → Int32) (p : Nat) : Nat → Nat
  | 0 => 0
  | k + 1 => if mxN n t p k < mm n t p k then mm n t p k else mxN n t p k
section WMN
variable {n : Nat} {t : Nat → Int32} {p w k : Nat}
theorem wm_y (h : wmN n t p k = none) (e : mm n t p k = jk_sL.getD k 0 + 1) : wmN n t p (k + 1) = some k := by simp only [wmN, h, e, if_true]
theorem wm_n (h : wmN n t p k = none) (e : ¬ mm n t p k = jk_sL.getD k 0 + 1) : wmN n t p (k + 1) = none := by simp only [wmN, h, e, if_false]
theorem wm_st {i : Nat} (h : wmN n t p i = some w) : ∀ k, wmN n t p (i + k) = some w
  | 0 => h
  | k + 1 => by
    show (match wmN n t p (i + k) with | some w => some w | none => _) = _
    rw [wm_st h k]
theorem mx_s : mxN n t p (k + 1) = if mxN n t p k < mm n t p k then mm n t p k else mxN n t p k := rfl
theorem mm10 (hw : w < 10) : mm n t p w ≤ 10 := by
  have := sL9 w hw
  have h9 := mt9 (n := n) (t := t) (p := p) hw
  rw [mm_mt hw]; split <;> omega
theorem mx10 : ∀ k, k ≤ 10 → mxN n t p k ≤ 10
  | 0, _ => Nat.zero_le _
  | k + 1, h => by
    rw [mx_s]
    split
    · exact mm10 (by omega)
    · exact mx10 k (by omega)
theorem tw_0 : ∀ k, k ≤ 10 → wdN n t p k = none → wmN n t p k = none ∧ mxN n t p k = msN n t p k
  | 0, _, _ => ⟨rfl, rfl⟩
  | k + 1, hk, h => by
    cases hn : wdN n t p k with
    | some v => rw [wd_st hn 1] at h; cases h
    | none =>
      by_cases e : mt n t p k = jk_sL.getD k 0
      · rw [wd_y hn e] at h; cases h
      · obtain ⟨i1, i2⟩ := tw_0 k (by omega) hn
        have em : mm n t p k = mt n t p k := by rw [mm_mt (by omega), if_neg (fun z => e z.1)]
        have l9 := mt_le (n := n) (t := t) (p := p) (w := k) 10 0 (Nat.zero_le _)
        have l9 : mt n t p k ≤ jk_sL.getD k 0 := l9
        refine ⟨wm_n i1 (by omega), ?_⟩
        rw [mx_s, ms_s, em, i2]
theorem tw_1 (sp : p + jk_sL.getD w 0 < n ∧ t (p + jk_sL.getD w 0) = 32) : ∀ k, k ≤ 10 → wdN n t p k = some w → wmN n t p k = some w
  | 0, _, h => by cases h
  | k + 1, hk, h => by
    cases hn : wdN n t p k with
    | some v =>
      have h2 := h
      rw [wd_st hn 1] at h2
      have e : v = w := by simpa using h2
      rw [e] at hn
      exact wm_st (tw_1 sp k (by omega) hn) 1
    | none =>
      by_cases e : mt n t p k = jk_sL.getD k 0
      · rw [wd_y hn e] at h
        have ew : k = w := by simpa using h
        subst ew
        exact wm_y (tw_0 k (by omega) hn).1 (by rw [mm_mt (by omega), if_pos ⟨e, sp⟩])
      · rw [wd_n hn e] at h; cases h
theorem tw_2 (hw : w < 10) (hm : mt n t p w = jk_sL.getD w 0) (sp : ¬ (p + jk_sL.getD w 0 < n ∧ t (p + jk_sL.getD w 0) = 32)) : ∀ k, k ≤ 10 → wmN n t p k = none ∧ (k ≤ w → mxN n t p k ≤ 1) ∧ (w < k → mxN n t p k = jk_sL.getD w 0)
  | 0, _ => ⟨rfl, fun _ => Nat.zero_le _, fun h => absurd h (Nat.not_lt_zero _)⟩
  | k + 1, hk => by
    obtain ⟨i1, i2, i3⟩ := tw_2 hw hm sp k (by omega)
    have l3 := sL3 w hw
    by_cases e : k = w
    · subst e
      have em : mm n t p k = jk_sL.getD k 0 := by rw [mm_mt hw, if_neg (fun z => sp z.2)]; exact hm
      refine ⟨wm_n i1 (by omega), fun h => by omega, fun _ => ?_⟩
      have := i2 (Nat.le_refl _)
      rw [mx_s, em, if_pos (by omega)]
    · have l3k := sL3 k (by omega)
      have m1 : mt n t p k ≤ 1 := by
        by_cases c : mt n t p k ≤ 1
        · exact c
        · have a0 := (mt_all (n := n) (t := t) (p := p) (w := k) (i := 0) (by omega)).2
          have a1 := (mt_all (n := n) (t := t) (p := p) (w := k) (i := 1) (by omega)).2
          have b0 := (mt_all (n := n) (t := t) (p := p) (w := w) (i := 0) (by omega)).2
          have b1 := (mt_all (n := n) (t := t) (p := p) (w := w) (i := 1) (by omega)).2
          exact absurd ⟨b0.symm.trans a0, b1.symm.trans a1⟩ (pre2 w hw k (by omega) (fun z => e z.symm))
      have em : mm n t p k = mt n t p k := by rw [mm_mt (by omega), if_neg (by omega)]
      refine ⟨wm_n i1 (by omega), fun h => ?_, fun h => ?_⟩
      · have := i2 (by omega)
        rw [mx_s, em]; split <;> omega
      · have := i3 (by omega)
        rw [mx_s, em, if_neg (by omega)]; exact this
end WMN
set_option maxRecDepth 20000 in
set_option maxHeartbeats 4000000 in
theorem T_X11_wrong {d : Nat} {M : jk_M} (hM : WM M) (x : Int32) : J Fr_X11_wrong d 0 0 0 [(0, .ref 0), (1, .int x)] [] M (jk_is (some (.int 0)) (jk_wI M 0 34 x)) := by
  refine j_post (fun Q hQ => ?_)
  refine j_aload_n 0 dX11_wrong_0 rfl ?_
  refine j_iload_n 1 dX11_wrong_1 rfl ?_
  refine j_put dX11_wrong_2 fX11_190 (shM hM sgM_0) rfl ?_
  refine j_iconst 0 dX11_wrong_5 ic_0 ?_
  refine j_zret dX11_wrong_6 rfl rfl ?_
  exact hQ _ _ ⟨rfl, rfl⟩
set_option maxRecDepth 20000 in
set_option maxHeartbeats 4000000 in
theorem T_X11_isDigit {d : Nat} {M : jk_M} (hM : WM M) {b n : Nat} {t : Nat → Int32} (rx : RX M b n t) {p : Nat} (hp : M.2.1 0 31 = nI p) (hpn : p ≤ 1000) : J Fr_X11_isDigit d 0 0 0 [(0, .ref 0)] [] M (jk_is (some (.int (bI (¬ dgS n t p = -1)))) M) := by
  refine j_post (fun Q hQ => ?_)
  have hb := rx.1
  have hn := rx.2.1
  refine j_aload_n 0 dX11_isDigit_0 rfl ?_
  refine j_getv (nI p) dX11_isDigit_1 fX11_193 (shM hM sgM_0) rfl hp ?_
  refine j_aload_n 0 dX11_isDigit_4 rfl ?_
  refine j_getv (nI n) dX11_isDigit_5 fX11_196 (shM hM sgM_0) rfl rx.2.2.2.1 ?_
  refine j_icmp_geN (tgt := 55) p n dX11_isDigit_8 rfl (by omega) (by omega) (fun c1 => ?_) (fun c1 => ?_)
  · refine j_iconst 0 dX11_isDigit_55 ic_0 ?_
    refine j_zret dX11_isDigit_56 rfl rfl ?_
    exact hQ _ _ ⟨by rw [bI_f (not_not_intro (dg_n (fun z => by clear hQ; grind)))], rfl⟩
  · refine j_aload_n 0 dX11_isDigit_11 rfl ?_
    refine j_getr (q := 17) dX11_isDigit_12 fX11_74 (shM hM sgM_0) rfl (rfM hM rfM_0_25) ?_
    refine j_aload_n 0 dX11_isDigit_15 rfl ?_
    refine j_getv (nI b) dX11_isDigit_16 fX11_199 (shM hM sgM_0) rfl rx.2.2.1 ?_
    refine j_aload_n 0 dX11_isDigit_19 rfl ?_
    refine j_getv (nI p) dX11_isDigit_20 fX11_193 (shM hM sgM_0) rfl hp ?_
    refine j_iaddN b p dX11_isDigit_23 ?_
    refine j_laldN (b + p) dX11_isDigit_24 (shM hM sgM_17) (by omega) (by omega) ?_
    refine j_l2i dX11_isDigit_25 ?_
    refine j_topi (t p) (rx.2.2.2.2.1 _ (by omega)) ?_
    refine j_bipush 48 dX11_isDigit_26 bp_48 ?_
    refine j_icmp_lt (tgt := 55) dX11_isDigit_28 rfl (fun c2 => ?_) (fun c2 => ?_)
    · refine j_iconst 0 dX11_isDigit_55 ic_0 ?_
      refine j_zret dX11_isDigit_56 rfl rfl ?_
      exact hQ _ _ ⟨by rw [bI_f (not_not_intro (dg_n (fun z => by clear hQ; grind)))], rfl⟩
    · refine j_aload_n 0 dX11_isDigit_31 rfl ?_
      refine j_getr (q := 17) dX11_isDigit_32 fX11_74 (shM hM sgM_0) rfl (rfM hM rfM_0_25) ?_
      refine j_aload_n 0 dX11_isDigit_35 rfl ?_
      refine j_getv (nI b) dX11_isDigit_36 fX11_199 (shM hM sgM_0) rfl rx.2.2.1 ?_
      refine j_aload_n 0 dX11_isDigit_39 rfl ?_
      refine j_getv (nI p) dX11_isDigit_40 fX11_193 (shM hM sgM_0) rfl hp ?_
      refine j_iaddN b p dX11_isDigit_43 ?_
      refine j_laldN (b + p) dX11_isDigit_44 (shM hM sgM_17) (by omega) (by omega) ?_
      refine j_l2i dX11_isDigit_45 ?_
      refine j_topi (t p) (rx.2.2.2.2.1 _ (by omega)) ?_
      refine j_bipush 57 dX11_isDigit_46 bp_57 ?_
      refine j_icmp_gt (tgt := 55) dX11_isDigit_48 rfl (fun c3 => ?_) (fun c3 => ?_)
      · refine j_iconst 0 dX11_isDigit_55 ic_0 ?_
        refine j_zret dX11_isDigit_56 rfl rfl ?_
        exact hQ _ _ ⟨by rw [bI_f (not_not_intro (dg_n (fun z => by clear hQ; grind)))], rfl⟩
      · refine j_iconst 1 dX11_isDigit_51 ic_1 ?_
        refine j_goto (tgt := 56) dX11_isDigit_52 rfl ?_
        refine j_zret dX11_isDigit_56 rfl rfl ?_
        exact hQ _ _ ⟨by rw [bI_t (dg_y (by omega) (by clear hQ; grind) (by clear hQ; grind))], rfl⟩
set_option maxRecDepth 20000 in
set_option maxHeartbeats 4000000 in
theorem T_X11_reads {d : Nat} {M : jk_M} (hM : WM M) {b n : Nat} {t : Nat → Int32} (rx : RX M b n t) {p : Nat} (hp : M.2.1 0 31 = nI p) (hpn : p ≤ 1000) : J Fr_X11_reads (d + 1) 0 0 0 [(0, .ref 0)] [] M (jk_or (.int 1) (fun M1 => ¬ dgS n t p = -1 ∧ Fm PQr M M1 ∧ M1.2.1 0 33 = (nuV n t p).1 ∧ M1.2.1 0 31 = nI (nuV n t p).2) (.int 0) (fun M1 => dgS n t p = -1 ∧ Fm PQr M M1 ∧ M1.2.1 0 34 = nI p)) := by
  refine j_post (fun Q hQ => ?_)
  have hb := rx.1
  have hn := rx.2.1
  refine j_aload_n 0 dX11_reads_0 rfl ?_
  refine j_iconst 0 dX11_reads_1 ic_0 ?_
  refine j_put dX11_reads_2 fX11_202 (shM hM sgM_0) rfl ?_
  have sm1 : Fm PQr M (jk_wI M 0 33 0) := Fm.w Fm.rf (by unfold PQr; omega)
  refine j_aload_n 0 dX11_reads_5 rfl ?_
  refine j_callV (kc := 0) (ks := 0) (a := 0) (b := 0) (d' := d) (As := []) dX11_reads_6 kX11_205 rfl (shM (Fm.M sm1 hM) sgM_0) (by omega) rfl rfl rfl (Nat.le_of_ble_eq_true rfl) (Nat.le_of_ble_eq_true rfl) (T_X11_isDigit (Fm.M sm1 hM) (RX.q rx sm1) ((rd_k (by decide)).trans hp) (by omega)) (kk_p ?_)
  refine j_if_neB (p := (¬ dgS n t p = -1)) (tgt := 21) dX11_reads_9 rfl (fun c2 => ?_) (fun c2 => ?_)
  · refine j_iconst 0 dX11_reads_21 ic_0 ?_
    refine j_istore_n (L' := [(1, .int 0), (0, .ref 0)]) dX11_reads_22 (by decide) rfl ?_
    refine j_iload_n 0 dX11_reads_23 rfl ?_
    refine j_iconst 2 dX11_reads_24 ic_2 ?_
    refine j_icmp_ge (tgt := 81) dX11_reads_25 rfl (fun c3 => ?_) (fun c3 => ?_)
    · exact absurd c3 (by decide)
    · refine j_aload_n 1 dX11_reads_28 rfl ?_
      refine j_callV (kc := 0) (ks := 0) (a := 0) (b := 0) (d' := d) (As := []) dX11_reads_29 kX11_205 rfl (shM (Fm.M sm1 hM) sgM_0) (by omega) rfl rfl rfl (Nat.le_of_ble_eq_true rfl) (Nat.le_of_ble_eq_true rfl) (T_X11_isDigit (Fm.M sm1 hM) (RX.q rx sm1) ((rd_k (by decide)).trans hp) (by omega)) (kk_p ?_)
      refine j_if_eqB (p := (¬ dgS n t p = -1)) (tgt := 81) dX11_reads_32 rfl (fun c4 => ?_) (fun c4 => ?_)
      · exact absurd c2 c4
      · refine j_aload_n 1 dX11_reads_35 rfl ?_
        refine j_bipush 10 dX11_reads_36 bp_10 ?_
        refine j_aload_n 1 dX11_reads_38 rfl ?_
        refine j_getv 0 dX11_reads_39 fX11_202 (shM (Fm.M sm1 hM) sgM_0) rfl rd_s ?_
        refine j_imul dX11_reads_42 ?_
        refine j_topi 0 (by decide) ?_
        refine j_aload_n 1 dX11_reads_43 rfl ?_
        have hlt := (dg_v (n := n) (t := t) (p := p) (by assumption)).1
        refine j_getr (q := 17) dX11_reads_44 fX11_74 (shM (Fm.M sm1 hM) sgM_0) rfl (rfM (Fm.M sm1 hM) rfM_0_25) ?_
        refine j_aload_n 1 dX11_reads_47 rfl ?_
        refine j_getv (nI b) dX11_reads_48 fX11_199 (shM (Fm.M sm1 hM) sgM_0) rfl (RX.q rx sm1).2.2.1 ?_
        refine j_aload_n 1 dX11_reads_51 rfl ?_
        refine j_getv (nI p) dX11_reads_52 fX11_193 (shM (Fm.M sm1 hM) sgM_0) rfl ((rd_k (by decide)).trans hp) ?_
        refine j_iaddN b p dX11_reads_55 ?_
        refine j_laldN (b + p) dX11_reads_56 (shM (Fm.M sm1 hM) sgM_17) (by omega) (by omega) ?_
        refine j_l2i dX11_reads_57 ?_
        refine j_topi (t p) ((RX.q rx sm1).2.2.2.2.1 _ (by omega)) ?_
        refine j_iadd dX11_reads_58 ?_
        refine j_bipush 48 dX11_reads_59 bp_48 ?_
        refine j_isub dX11_reads_61 ?_
        refine j_put dX11_reads_62 fX11_202 (shM (Fm.M sm1 hM) sgM_0) rfl ?_
        have sm5 : Fm PQr M (jk_wI (jk_wI M 0 33 0) 0 33 ((0 + (t p)) - 48)) := Fm.w sm1 (by unfold PQr; omega)
        refine j_aload_n 1 dX11_reads_65 rfl ?_
        refine j_dup dX11_reads_66 rfl ?_
        refine j_getv (nI p) dX11_reads_67 fX11_193 (shM (Fm.M sm5 hM) sgM_0) rfl ((rd_k (by decide)).trans ((rd_k (by decide)).trans hp)) ?_
        refine j_iconst 1 dX11_reads_70 ic_1 ?_
        refine j_iaddN p 1 dX11_reads_71 ?_
        refine j_put dX11_reads_72 fX11_193 (shM (Fm.M sm5 hM) sgM_0) rfl ?_
        have sm6 : Fm PQr M (jk_wI (jk_wI (jk_wI M 0 33 0) 0 33 ((0 + (t p)) - 48)) 0 31 (nI (p + 1))) := Fm.w sm5 (by unfold PQr; omega)
        refine j_iinc 0 1 (L' := [(1, .int 1), (0, .ref 0)]) dX11_reads_75 rfl (by decide) (by decide) rfl ?_
        refine j_goto (tgt := 23) dX11_reads_78 rfl ?_
        refine j_iload_n 0 dX11_reads_23 rfl ?_
        refine j_iconst 2 dX11_reads_24 ic_2 ?_
        refine j_icmp_ge (tgt := 81) dX11_reads_25 rfl (fun c7 => ?_) (fun c7 => ?_)
        · exact absurd c7 (by decide)
        · refine j_aload_n 1 dX11_reads_28 rfl ?_
          refine j_callV (kc := 0) (ks := 0) (a := 0) (b := 0) (d' := d) (As := []) dX11_reads_29 kX11_205 rfl (shM (Fm.M sm6 hM) sgM_0) (by omega) rfl rfl rfl (Nat.le_of_ble_eq_true rfl) (Nat.le_of_ble_eq_true rfl) (T_X11_isDigit (Fm.M sm6 hM) (RX.q rx sm6) rd_s (by omega)) (kk_p ?_)
          refine j_if_eqB (p := (¬ dgS n t (p + 1) = -1)) (tgt := 81) dX11_reads_32 rfl (fun c8 => ?_) (fun c8 => ?_)
          · refine j_iconst 1 dX11_reads_81 ic_1 ?_
            refine j_zret dX11_reads_82 rfl rfl ?_
            obtain ⟨l0, e0, -, -⟩ := dg_v (n := n) (t := t) (p := p) (by assumption)
            have hd1 : dgS n t (p + 1) = -1 := by first | assumption | exact Classical.not_not.mp (by assumption)
            have hnv : nuV n t p = (dgS n t p, p + 1) := nuV_1 hd1
            have q1 : (jk_wI (jk_wI (jk_wI M 0 33 0) 0 33 ((0 + (t p)) - 48)) 0 31 (nI (p + 1))).2.1 0 33 = (nuV n t p).1 := by
              refine Eq.trans ((rd_k (by decide)).trans rd_s) ?_
              rw [hnv]
              clear hQ
              grind
            exact hQ _ _ (Or.inl ⟨rfl, by assumption, sm6, q1, by rw [hnv]; exact rd_s⟩)
          · refine j_aload_n 1 dX11_reads_35 rfl ?_
            refine j_bipush 10 dX11_reads_36 bp_10 ?_
            refine j_aload_n 1 dX11_reads_38 rfl ?_
            refine j_getv ((0 + (t p)) - 48) dX11_reads_39 fX11_202 (shM (Fm.M sm6 hM) sgM_0) rfl ((rd_k (by decide)).trans rd_s) ?_
            refine j_imul dX11_reads_42 ?_
            refine j_aload_n 1 dX11_reads_43 rfl ?_
            have hlt := (dg_v (n := n) (t := t) (p := (p + 1)) (by assumption)).1
            refine j_getr (q := 17) dX11_reads_44 fX11_74 (shM (Fm.M sm6 hM) sgM_0) rfl (rfM (Fm.M sm6 hM) rfM_0_25) ?_
            refine j_aload_n 1 dX11_reads_47 rfl ?_
            refine j_getv (nI b) dX11_reads_48 fX11_199 (shM (Fm.M sm6 hM) sgM_0) rfl (RX.q rx sm6).2.2.1 ?_
            refine j_aload_n 1 dX11_reads_51 rfl ?_
            refine j_getv (nI (p + 1)) dX11_reads_52 fX11_193 (shM (Fm.M sm6 hM) sgM_0) rfl rd_s ?_
            refine j_iaddN b (p + 1) dX11_reads_55 ?_
            refine j_laldN (b + (p + 1)) dX11_reads_56 (shM (Fm.M sm6 hM) sgM_17) (by omega) (by omega) ?_
            refine j_l2i dX11_reads_57 ?_
            refine j_topi (t (p + 1)) ((RX.q rx sm6).2.2.2.2.1 _ (by omega)) ?_
            refine j_iadd dX11_reads_58 ?_
            refine j_bipush 48 dX11_reads_59 bp_48 ?_
            refine j_isub dX11_reads_61 ?_
            refine j_put dX11_reads_62 fX11_202 (shM (Fm.M sm6 hM) sgM_0) rfl ?_
            have sm9 : Fm PQr M (jk_wI (jk_wI (jk_wI (jk_wI M 0 33 0) 0 33 ((0 + (t p)) - 48)) 0 31 (nI (p + 1))) 0 33 (((10 * ((0 + (t p)) - 48)) + (t (p + 1))) - 48)) := Fm.w sm6 (by unfold PQr; omega)
            refine j_aload_n 1 dX11_reads_65 rfl ?_
            refine j_dup dX11_reads_66 rfl ?_
            refine j_getv (nI (p + 1)) dX11_reads_67 fX11_193 (shM (Fm.M sm9 hM) sgM_0) rfl ((rd_k (by decide)).trans rd_s) ?_
            refine j_iconst 1 dX11_reads_70 ic_1 ?_
            refine j_iaddN (p + 1) 1 dX11_reads_71 ?_
            refine j_put dX11_reads_72 fX11_193 (shM (Fm.M sm9 hM) sgM_0) rfl ?_
            have sm10 : Fm PQr M (jk_wI (jk_wI (jk_wI (jk_wI (jk_wI M 0 33 0) 0 33 ((0 + (t p)) - 48)) 0 31 (nI (p + 1))) 0 33 (((10 * ((0 + (t p)) - 48)) + (t (p + 1))) - 48)) 0 31 (nI ((p + 1) + 1))) := Fm.w sm9 (by unfold PQr; omega)
            refine j_iinc 0 2 (L' := [(1, .int 2), (0, .ref 0)]) dX11_reads_75 rfl (by decide) (by decide) rfl ?_
            refine j_goto (tgt := 23) dX11_reads_78 rfl ?_
            refine j_iload_n 0 dX11_reads_23 rfl ?_
            refine j_iconst 2 dX11_reads_24 ic_2 ?_
            refine j_icmp_ge (tgt := 81) dX11_reads_25 rfl (fun c11 => ?_) (fun c11 => ?_)
            · refine j_iconst 1 dX11_reads_81 ic_1 ?_
              refine j_zret dX11_reads_82 rfl rfl ?_
              obtain ⟨l0, e0, -, -⟩ := dg_v (n := n) (t := t) (p := p) (by assumption)
              obtain ⟨l1, e1, -, -⟩ := dg_v (n := n) (t := t) (p := p + 1) (by assumption)
              have hnv : nuV n t p = (10 * dgS n t p + dgS n t (p + 1), p + 2) := nuV_2 (by assumption)
              have q1 : (jk_wI (jk_wI (jk_wI (jk_wI (jk_wI M 0 33 0) 0 33 ((0 + (t p)) - 48)) 0 31 (nI (p + 1))) 0 33 (((10 * ((0 + (t p)) - 48)) + (t (p + 1))) - 48)) 0 31 (nI ((p + 1) + 1))).2.1 0 33 = (nuV n t p).1 := by
                refine Eq.trans ((rd_k (by decide)).trans rd_s) ?_
                rw [hnv]
                clear hQ
                grind
              exact hQ _ _ (Or.inl ⟨rfl, by assumption, sm10, q1, by rw [hnv]; exact rd_s⟩)
            · exact absurd c11 (by decide)
  · refine j_aload_n 0 dX11_reads_12 rfl ?_
    refine j_aload_n 0 dX11_reads_13 rfl ?_
    refine j_getv (nI p) dX11_reads_14 fX11_193 (shM (Fm.M sm1 hM) sgM_0) rfl ((rd_k (by decide)).trans hp) ?_
    refine j_callV (kc := 0) (ks := 0) (a := 0) (b := 0) (d' := d) (As := [.int (nI p)]) dX11_reads_17 kX11_209 rfl (shM (Fm.M sm1 hM) sgM_0) (by omega) rfl rfl rfl (Nat.le_of_ble_eq_true rfl) (Nat.le_of_ble_eq_true rfl) (T_X11_wrong (Fm.M sm1 hM) (nI p)) (kk_p ?_)
    have sm12 : Fm PQr M (jk_wI (jk_wI M 0 33 0) 0 34 (nI p)) := Fm.w sm1 (by unfold PQr; omega)
    refine j_zret dX11_reads_20 rfl rfl ?_
    exact hQ _ _ (Or.inr ⟨rfl, by first | assumption | exact Classical.not_not.mp (by assumption), sm12, rd_s⟩)
set_option maxRecDepth 20000 in
set_option maxHeartbeats 4000000 in
theorem T_so0_0 {d : Nat} {M : jk_M} {S : HS} (hM : WM M) (hS : mv M.2.1 = S) (ok : Sok S) {x : Int32} (hx : 0 ≤ x) (hnum : M.2.1 0 33 = x) : J Fr_X11_isSo (d + 2) 0 0 0 [(0, .ref 0), (1, .int 0), (2, .int 0)] [] M (jk_is (some (.int (bI (mayS S (soN 0 0) x)))) M) := by
  refine j_post (fun Q hQ => ?_)
  refine j_iload_n 1 dX11_isSo_0 rfl ?_
  refine j_tableIn (tgt := 56) dX11_isSo_1 (by decide) (by decide) (off := 55) (by decide) rfl ?_
  refine j_aload_n 0 dX11_isSo_56 rfl ?_
  refine j_aload_n 0 dX11_isSo_57 rfl ?_
  refine j_getv x dX11_isSo_58 fX11_202 (shM hM sgM_0) rfl hnum ?_
  refine j_aload_n 0 dX11_isSo_61 rfl ?_
  refine j_getv (S 0 0) dX11_isSo_62 fX11_7 (shM hM sgM_0) rfl (mr_side hS) ?_
  refine j_bipush 8 dX11_isSo_65 bp_8 ?_
  refine j_callV (kc := 0) (ks := 0) (a := 0) (b := 0) (d' := d) (As := [.int x, .int (S 0 0), .int 8]) dX11_isSo_67 kX11_150 rfl (shM hM sgM_0) (by omega) rfl rfl rfl (Nat.le_of_ble_eq_true rfl) (Nat.le_of_ble_eq_true rfl) (T_X11_isFrom x (S 0 0) 8) (kk_p ?_)
  refine j_zret dX11_isSo_70 rfl bI_nar ?_
  have em := (congrArg (fun z => mayS S z x) (show soN 0 0 = 0 by decide)).trans (may_0 ok)
  have hz : bI (mayS S (soN 0 0) x) = (bI ((S 0 0) ≤ x ∧ x ≤ 8)) := congrArg bI em
  exact hQ _ _ ⟨by rw [hz], rfl⟩
set_option maxRecDepth 20000 in
set_option maxHeartbeats 4000000 in
theorem T_so1_0 {d : Nat} {M : jk_M} {S : HS} (hM : WM M) (hS : mv M.2.1 = S) (ok : Sok S) {x : Int32} (hx : 0 ≤ x) (hnum : M.2.1 0 33 = x) : J Fr_X11_isSo (d + 2) 0 0 0 [(0, .ref 0), (1, .int 1), (2, .int 0)] [] M (jk_is (some (.int (bI (mayS S (soN 1 0) x)))) M) := by
  refine j_post (fun Q hQ => ?_)
  refine j_iload_n 1 dX11_isSo_0 rfl ?_
  refine j_tableIn (tgt := 71) dX11_isSo_1 (by decide) (by decide) (off := 70) (by decide) rfl ?_
  refine j_iload_n 2 dX11_isSo_71 rfl ?_
  refine j_if_ne (tgt := 92) dX11_isSo_72 rfl (fun c1 => ?_) (fun c1 => ?_)
  · exact absurd c1 (by decide)
  · refine j_aload_n 0 dX11_isSo_75 rfl ?_
    refine j_getv x dX11_isSo_76 fX11_202 (shM hM sgM_0) rfl hnum ?_
    refine j_bipush 6 dX11_isSo_79 bp_6 ?_
    refine j_icmp_gt (tgt := 88) dX11_isSo_81 rfl (fun c2 => ?_) (fun c2 => ?_)
    · refine j_iconst 0 dX11_isSo_88 ic_0 ?_
      refine j_goto (tgt := 122) dX11_isSo_89 rfl ?_
      refine j_zret dX11_isSo_122 rfl rfl ?_
      have em := (congrArg (fun z => mayS S z x) (show soN 1 0 = 1 by decide)).trans (may_1)
      have hz : bI (mayS S (soN 1 0) x) = 0 := (congrArg bI em).trans (bI_f (by clear hQ em; grind))
      exact hQ _ _ ⟨by rw [hz], rfl⟩
    · refine j_iconst 1 dX11_isSo_84 ic_1 ?_
      refine j_goto (tgt := 122) dX11_isSo_85 rfl ?_
      refine j_zret dX11_isSo_122 rfl rfl ?_
      have em := (congrArg (fun z => mayS S z x) (show soN 1 0 = 1 by decide)).trans (may_1)
      have hz : bI (mayS S (soN 1 0) x) = 1 := (congrArg bI em).trans (bI_t (by clear hQ em; grind))
      exact hQ _ _ ⟨by rw [hz], rfl⟩
set_option maxRecDepth 20000 in
set_option maxHeartbeats 4000000 in
theorem T_so1_1 {d : Nat} {M : jk_M} {S : HS} (hM : WM M) (hS : mv M.2.1 = S) (ok : Sok S) {x : Int32} (hx : 0 ≤ x) (hnum : M.2.1 0 33 = x) : J Fr_X11_isSo (d + 2) 0 0 0 [(0, .ref 0), (1, .int 1), (2, .int 1)] [] M (jk_is (some (.int (bI (mayS S (soN 1 1) x)))) M) := by
  refine j_post (fun Q hQ => ?_)
  refine j_iload_n 1 dX11_isSo_0 rfl ?_
  refine j_tableIn (tgt := 71) dX11_isSo_1 (by decide) (by decide) (off := 70) (by decide) rfl ?_
  refine j_iload_n 2 dX11_isSo_71 rfl ?_
  refine j_if_ne (tgt := 92) dX11_isSo_72 rfl (fun c1 => ?_) (fun c1 => ?_)
  · refine j_iload_n 2 dX11_isSo_92 rfl ?_
    refine j_iconst 1 dX11_isSo_93 ic_1 ?_
    refine j_icmp_ne (tgt := 114) dX11_isSo_94 rfl (fun c2 => ?_) (fun c2 => ?_)
    · exact absurd c2 (by decide)
    · refine j_aload_n 0 dX11_isSo_97 rfl ?_
      refine j_getv x dX11_isSo_98 fX11_202 (shM hM sgM_0) rfl hnum ?_
      refine j_bipush 9 dX11_isSo_101 bp_9 ?_
      refine j_icmp_gt (tgt := 110) dX11_isSo_103 rfl (fun c3 => ?_) (fun c3 => ?_)
      · refine j_iconst 0 dX11_isSo_110 ic_0 ?_
        refine j_goto (tgt := 122) dX11_isSo_111 rfl ?_
        refine j_zret dX11_isSo_122 rfl rfl ?_
        have em := (congrArg (fun z => mayS S z x) (show soN 1 1 = 2 by decide)).trans (may_2)
        have hz : bI (mayS S (soN 1 1) x) = 0 := (congrArg bI em).trans (bI_f (by clear hQ em; grind))
        exact hQ _ _ ⟨by rw [hz], rfl⟩
      · refine j_iconst 1 dX11_isSo_106 ic_1 ?_
        refine j_goto (tgt := 122) dX11_isSo_107 rfl ?_
        refine j_zret dX11_isSo_122 rfl rfl ?_
        have em := (congrArg (fun z => mayS S z x) (show soN 1 1 = 2 by decide)).trans (may_2)
        have hz : bI (mayS S (soN 1 1) x) = 1 := (congrArg bI em).trans (bI_t (by clear hQ em; grind))
        exact hQ _ _ ⟨by rw [hz], rfl⟩
  · exact absurd c1 (by decide)
set_option maxRecDepth 20000 in
set_option maxHeartbeats 4000000 in
theorem T_so1_2 {d : Nat} {M : jk_M} {S : HS} (hM : WM M) (hS : mv M.2.1 = S) (ok : Sok S) {x : Int32} (hx : 0 ≤ x) (hnum : M.2.1 0 33 = x) : J Fr_X11_isSo (d + 2) 0 0 0 [(0, .ref 0), (1, .int 1), (2, .int 2)] [] M (jk_is (some (.int (bI (mayS S (soN 1 2) x)))) M) := by
  refine j_post (fun Q hQ => ?_)
  refine j_iload_n 1 dX11_isSo_0 rfl ?_
  refine j_tableIn (tgt := 71) dX11_isSo_1 (by decide) (by decide) (off := 70) (by decide) rfl ?_
  refine j_iload_n 2 dX11_isSo_71 rfl ?_
  refine j_if_ne (tgt := 92) dX11_isSo_72 rfl (fun c1 => ?_) (fun c1 => ?_)
  · refine j_iload_n 2 dX11_isSo_92 rfl ?_
    refine j_iconst 1 dX11_isSo_93 ic_1 ?_
    refine j_icmp_ne (tgt := 114) dX11_isSo_94 rfl (fun c2 => ?_) (fun c2 => ?_)
    · refine j_aload_n 0 dX11_isSo_114 rfl ?_
      refine j_aload_n 0 dX11_isSo_115 rfl ?_
      refine j_getv x dX11_isSo_116 fX11_202 (shM hM sgM_0) rfl hnum ?_
      refine j_callV (kc := 0) (ks := 0) (a := 0) (b := 0) (d' := d) (As := [.int x]) dX11_isSo_119 kX11_154 rfl (shM hM sgM_0) (by omega) rfl rfl rfl (Nat.le_of_ble_eq_true rfl) (Nat.le_of_ble_eq_true rfl) (T_X11_isCell hM hS ok x) (kk_p ?_)
      refine j_zret dX11_isSo_122 rfl bI_nar ?_
      have em := (congrArg (fun z => mayS S z x) (show soN 1 2 = 3 by decide)).trans (may_3)
      have hz : bI (mayS S (soN 1 2) x) = (bI (isC S x)) := congrArg bI em
      exact hQ _ _ ⟨by rw [hz], rfl⟩
    · exact absurd c2 (by decide)
  · exact absurd c1 (by decide)
set_option maxRecDepth 20000 in
set_option maxHeartbeats 4000000 in
theorem T_so2_0 {d : Nat} {M : jk_M} {S : HS} (hM : WM M) (hS : mv M.2.1 = S) (ok : Sok S) {x : Int32} (hx : 0 ≤ x) (hnum : M.2.1 0 33 = x) : J Fr_X11_isSo (d + 2) 0 0 0 [(0, .ref 0), (1, .int 2), (2, .int 0)] [] M (jk_is (some (.int (bI (mayS S (soN 2 0) x)))) M) := by
  refine j_post (fun Q hQ => ?_)
  refine j_iload_n 1 dX11_isSo_0 rfl ?_
  refine j_tableIn (tgt := 123) dX11_isSo_1 (by decide) (by decide) (off := 122) (by decide) rfl ?_
  refine j_iload_n 2 dX11_isSo_123 rfl ?_
  refine j_if_ne (tgt := 143) dX11_isSo_124 rfl (fun c1 => ?_) (fun c1 => ?_)
  · exact absurd c1 (by decide)
  · refine j_aload_n 0 dX11_isSo_127 rfl ?_
    refine j_getv x dX11_isSo_128 fX11_202 (shM hM sgM_0) rfl hnum ?_
    refine j_iconst 1 dX11_isSo_131 ic_1 ?_
    refine j_icmp_gt (tgt := 139) dX11_isSo_132 rfl (fun c2 => ?_) (fun c2 => ?_)
    · refine j_iconst 0 dX11_isSo_139 ic_0 ?_
      refine j_goto (tgt := 151) dX11_isSo_140 rfl ?_
      refine j_zret dX11_isSo_151 rfl rfl ?_
      have em := (congrArg (fun z => mayS S z x) (show soN 2 0 = 4 by decide)).trans (may_4)
      have hz : bI (mayS S (soN 2 0) x) = 0 := (congrArg bI em).trans (bI_f (by clear hQ em; grind))
      exact hQ _ _ ⟨by rw [hz], rfl⟩
    · refine j_iconst 1 dX11_isSo_135 ic_1 ?_
      refine j_goto (tgt := 151) dX11_isSo_136 rfl ?_
      refine j_zret dX11_isSo_151 rfl rfl ?_
      have em := (congrArg (fun z => mayS S z x) (show soN 2 0 = 4 by decide)).trans (may_4)
      have hz : bI (mayS S (soN 2 0) x) = 1 := (congrArg bI em).trans (bI_t (by clear hQ em; grind))
      exact hQ _ _ ⟨by rw [hz], rfl⟩
set_option maxRecDepth 20000 in
set_option maxHeartbeats 4000000 in
theorem T_so2_1 {d : Nat} {M : jk_M} {S : HS} (hM : WM M) (hS : mv M.2.1 = S) (ok : Sok S) {x : Int32} (hx : 0 ≤ x) (hnum : M.2.1 0 33 = x) : J Fr_X11_isSo (d + 2) 0 0 0 [(0, .ref 0), (1, .int 2), (2, .int 1)] [] M (jk_is (some (.int (bI (mayS S (soN 2 1) x)))) M) := by
  refine j_post (fun Q hQ => ?_)
  refine j_iload_n 1 dX11_isSo_0 rfl ?_
  refine j_tableIn (tgt := 123) dX11_isSo_1 (by decide) (by decide) (off := 122) (by decide) rfl ?_
  refine j_iload_n 2 dX11_isSo_123 rfl ?_
  refine j_if_ne (tgt := 143) dX11_isSo_124 rfl (fun c1 => ?_) (fun c1 => ?_)
  · refine j_aload_n 0 dX11_isSo_143 rfl ?_
    refine j_aload_n 0 dX11_isSo_144 rfl ?_
    refine j_getv x dX11_isSo_145 fX11_202 (shM hM sgM_0) rfl hnum ?_
    refine j_callV (kc := 0) (ks := 0) (a := 0) (b := 0) (d' := d) (As := [.int x]) dX11_isSo_148 kX11_154 rfl (shM hM sgM_0) (by omega) rfl rfl rfl (Nat.le_of_ble_eq_true rfl) (Nat.le_of_ble_eq_true rfl) (T_X11_isCell hM hS ok x) (kk_p ?_)
    refine j_zret dX11_isSo_151 rfl bI_nar ?_
    have em := (congrArg (fun z => mayS S z x) (show soN 2 1 = 3 by decide)).trans (may_3)
    have hz : bI (mayS S (soN 2 1) x) = (bI (isC S x)) := congrArg bI em
    exact hQ _ _ ⟨by rw [hz], rfl⟩
  · exact absurd c1 (by decide)
set_option maxRecDepth 20000 in
set_option maxHeartbeats 4000000 in
theorem T_so3_0 {d : Nat} {M : jk_M} {S : HS} (hM : WM M) (hS : mv M.2.1 = S) (ok : Sok S) {x : Int32} (hx : 0 ≤ x) (hnum : M.2.1 0 33 = x) : J Fr_X11_isSo (d + 2) 0 0 0 [(0, .ref 0), (1, .int 3), (2, .int 0)] [] M (jk_is (some (.int (bI (mayS S (soN 3 0) x)))) M) := by
  refine j_post (fun Q hQ => ?_)
  refine j_iload_n 1 dX11_isSo_0 rfl ?_
  refine j_tableIn (tgt := 152) dX11_isSo_1 (by decide) (by decide) (off := 151) (by decide) rfl ?_
  refine j_aload_n 0 dX11_isSo_152 rfl ?_
  refine j_iconst 0 dX11_isSo_153 ic_0 ?_
  refine j_aload_n 0 dX11_isSo_154 rfl ?_
  refine j_getv x dX11_isSo_155 fX11_202 (shM hM sgM_0) rfl hnum ?_
  refine j_callV (kc := 0) (ks := 0) (a := 0) (b := 0) (d' := (d + 1)) (As := [.int 0, .int x]) dX11_isSo_158 kX11_173 rfl (shM hM sgM_0) (by omega) rfl rfl rfl (Nat.le_of_ble_eq_true rfl) (Nat.le_of_ble_eq_true rfl) (T_asked0 hM x) (kk_p ?_)
  refine j_zret dX11_isSo_161 rfl bI_nar ?_
  have em := (congrArg (fun z => mayS S z x) (show soN 3 0 = 5 by decide)).trans (may_5)
  have hz : bI (mayS S (soN 3 0) x) = (bI (10 ≤ x ∧ x ≤ 60)) := congrArg bI em
  exact hQ _ _ ⟨by rw [hz], rfl⟩
set_option maxRecDepth 20000 in
set_option maxHeartbeats 4000000 in
theorem T_so4_0 {d : Nat} {M : jk_M} {S : HS} (hM : WM M) (hS : mv M.2.1 = S) (ok : Sok S) {x : Int32} (hx : 0 ≤ x) (hnum : M.2.1 0 33 = x) : J Fr_X11_isSo (d + 2) 0 0 0 [(0, .ref 0), (1, .int 4), (2, .int 0)] [] M (jk_is (some (.int (bI (mayS S (soN 4 0) x)))) M) := by
  refine j_post (fun Q hQ => ?_)
  refine j_iload_n 1 dX11_isSo_0 rfl ?_
  refine j_tableIn (tgt := 162) dX11_isSo_1 (by decide) (by decide) (off := 161) (by decide) rfl ?_
  refine j_aload_n 0 dX11_isSo_162 rfl ?_
  refine j_iconst 1 dX11_isSo_163 ic_1 ?_
  refine j_aload_n 0 dX11_isSo_164 rfl ?_
  refine j_getv x dX11_isSo_165 fX11_202 (shM hM sgM_0) rfl hnum ?_
  refine j_callV (kc := 0) (ks := 0) (a := 0) (b := 0) (d' := (d + 1)) (As := [.int 1, .int x]) dX11_isSo_168 kX11_173 rfl (shM hM sgM_0) (by omega) rfl rfl rfl (Nat.le_of_ble_eq_true rfl) (Nat.le_of_ble_eq_true rfl) (T_asked1 hM x) (kk_p ?_)
  refine j_zret dX11_isSo_171 rfl bI_nar ?_
  have em := (congrArg (fun z => mayS S z x) (show soN 4 0 = 6 by decide)).trans (may_6)
  have hz : bI (mayS S (soN 4 0) x) = (bI (1 ≤ x ∧ x ≤ 13)) := congrArg bI em
  exact hQ _ _ ⟨by rw [hz], rfl⟩
set_option maxRecDepth 20000 in
set_option maxHeartbeats 4000000 in
theorem T_so5_0 {d : Nat} {M : jk_M} {S : HS} (hM : WM M) (hS : mv M.2.1 = S) (ok : Sok S) {x : Int32} (hx : 0 ≤ x) (hnum : M.2.1 0 33 = x) : J Fr_X11_isSo (d + 2) 0 0 0 [(0, .ref 0), (1, .int 5), (2, .int 0)] [] M (jk_is (some (.int (bI (mayS S (soN 5 0) x)))) M) := by
  refine j_post (fun Q hQ => ?_)
  refine j_iload_n 1 dX11_isSo_0 rfl ?_
  refine j_tableIn (tgt := 172) dX11_isSo_1 (by decide) (by decide) (off := 171) (by decide) rfl ?_
  refine j_iload_n 2 dX11_isSo_172 rfl ?_
  refine j_if_ne (tgt := 188) dX11_isSo_173 rfl (fun c1 => ?_) (fun c1 => ?_)
  · exact absurd c1 (by decide)
  · refine j_aload_n 0 dX11_isSo_176 rfl ?_
    refine j_iconst 1 dX11_isSo_177 ic_1 ?_
    refine j_aload_n 0 dX11_isSo_178 rfl ?_
    refine j_getv x dX11_isSo_179 fX11_202 (shM hM sgM_0) rfl hnum ?_
    refine j_callV (kc := 0) (ks := 0) (a := 0) (b := 0) (d' := (d + 1)) (As := [.int 1, .int x]) dX11_isSo_182 kX11_173 rfl (shM hM sgM_0) (by omega) rfl rfl rfl (Nat.le_of_ble_eq_true rfl) (Nat.le_of_ble_eq_true rfl) (T_asked1 hM x) (kk_p ?_)
    refine j_goto (tgt := 202) dX11_isSo_185 rfl ?_
    refine j_zret dX11_isSo_202 rfl bI_nar ?_
    have em := (congrArg (fun z => mayS S z x) (show soN 5 0 = 6 by decide)).trans (may_6)
    have hz : bI (mayS S (soN 5 0) x) = (bI (1 ≤ x ∧ x ≤ 13)) := congrArg bI em
    exact hQ _ _ ⟨by rw [hz], rfl⟩
set_option maxRecDepth 20000 in
set_option maxHeartbeats 4000000 in
theorem T_so5_1 {d : Nat} {M : jk_M} {S : HS} (hM : WM M) (hS : mv M.2.1 = S) (ok : Sok S) {x : Int32} (hx : 0 ≤ x) (hnum : M.2.1 0 33 = x) : J Fr_X11_isSo (d + 2) 0 0 0 [(0, .ref 0), (1, .int 5), (2, .int 1)] [] M (jk_is (some (.int (bI (mayS S (soN 5 1) x)))) M) := by
  refine j_post (fun Q hQ => ?_)
  refine j_iload_n 1 dX11_isSo_0 rfl ?_
  refine j_tableIn (tgt := 172) dX11_isSo_1 (by decide) (by decide) (off := 171) (by decide) rfl ?_
  refine j_iload_n 2 dX11_isSo_172 rfl ?_
  refine j_if_ne (tgt := 188) dX11_isSo_173 rfl (fun c1 => ?_) (fun c1 => ?_)
  · refine j_aload_n 0 dX11_isSo_188 rfl ?_
    refine j_getv x dX11_isSo_189 fX11_202 (shM hM sgM_0) rfl hnum ?_
    refine j_bipush 20 dX11_isSo_192 bp_20 ?_
    refine j_icmp_gt (tgt := 201) dX11_isSo_194 rfl (fun c2 => ?_) (fun c2 => ?_)
    · refine j_iconst 0 dX11_isSo_201 ic_0 ?_
      refine j_zret dX11_isSo_202 rfl rfl ?_
      have em := (congrArg (fun z => mayS S z x) (show soN 5 1 = 7 by decide)).trans (may_7)
      have hz : bI (mayS S (soN 5 1) x) = 0 := (congrArg bI em).trans (bI_f (by clear hQ em; grind))
      exact hQ _ _ ⟨by rw [hz], rfl⟩
    · refine j_iconst 1 dX11_isSo_197 ic_1 ?_
      refine j_goto (tgt := 202) dX11_isSo_198 rfl ?_
      refine j_zret dX11_isSo_202 rfl rfl ?_
      have em := (congrArg (fun z => mayS S z x) (show soN 5 1 = 7 by decide)).trans (may_7)
      have hz : bI (mayS S (soN 5 1) x) = 1 := (congrArg bI em).trans (bI_t (by clear hQ em; grind))
      exact hQ _ _ ⟨by rw [hz], rfl⟩
  · exact absurd c1 (by decide)
set_option maxRecDepth 20000 in
set_option maxHeartbeats 4000000 in
theorem T_so6_0 {d : Nat} {M : jk_M} {S : HS} (hM : WM M) (hS : mv M.2.1 = S) (ok : Sok S) {x : Int32} (hx : 0 ≤ x) (hnum : M.2.1 0 33 = x) : J Fr_X11_isSo (d + 2) 0 0 0 [(0, .ref 0), (1, .int 6), (2, .int 0)] [] M (jk_is (some (.int (bI (mayS S (soN 6 0) x)))) M) := by
  refine j_post (fun Q hQ => ?_)
  refine j_iload_n 1 dX11_isSo_0 rfl ?_
  refine j_tableIn (tgt := 203) dX11_isSo_1 (by decide) (by decide) (off := 202) (by decide) rfl ?_
  refine j_iload_n 2 dX11_isSo_203 rfl ?_
  refine j_if_ne (tgt := 218) dX11_isSo_204 rfl (fun c1 => ?_) (fun c1 => ?_)
  · exact absurd c1 (by decide)
  · refine j_aload_n 0 dX11_isSo_207 rfl ?_
    refine j_aload_n 0 dX11_isSo_208 rfl ?_
    refine j_getv x dX11_isSo_209 fX11_202 (shM hM sgM_0) rfl hnum ?_
    refine j_callV (kc := 0) (ks := 0) (a := 0) (b := 0) (d' := d) (As := [.int x]) dX11_isSo_212 kX11_154 rfl (shM hM sgM_0) (by omega) rfl rfl rfl (Nat.le_of_ble_eq_true rfl) (Nat.le_of_ble_eq_true rfl) (T_X11_isCell hM hS ok x) (kk_p ?_)
    refine j_goto (tgt := 238) dX11_isSo_215 rfl ?_
    refine j_zret dX11_isSo_238 rfl bI_nar ?_
    have em := (congrArg (fun z => mayS S z x) (show soN 6 0 = 3 by decide)).trans (may_3)
    have hz : bI (mayS S (soN 6 0) x) = (bI (isC S x)) := congrArg bI em
    exact hQ _ _ ⟨by rw [hz], rfl⟩
set_option maxRecDepth 20000 in
set_option maxHeartbeats 4000000 in
theorem T_so6_1 {d : Nat} {M : jk_M} {S : HS} (hM : WM M) (hS : mv M.2.1 = S) (ok : Sok S) {x : Int32} (hx : 0 ≤ x) (hnum : M.2.1 0 33 = x) : J Fr_X11_isSo (d + 2) 0 0 0 [(0, .ref 0), (1, .int 6), (2, .int 1)] [] M (jk_is (some (.int (bI (mayS S (soN 6 1) x)))) M) := by
  refine j_post (fun Q hQ => ?_)
  refine j_iload_n 1 dX11_isSo_0 rfl ?_
  refine j_tableIn (tgt := 203) dX11_isSo_1 (by decide) (by decide) (off := 202) (by decide) rfl ?_
  refine j_iload_n 2 dX11_isSo_203 rfl ?_
  refine j_if_ne (tgt := 218) dX11_isSo_204 rfl (fun c1 => ?_) (fun c1 => ?_)
  · refine j_aload_n 0 dX11_isSo_218 rfl ?_
    refine j_aload_n 0 dX11_isSo_219 rfl ?_
    refine j_getv x dX11_isSo_220 fX11_202 (shM hM sgM_0) rfl hnum ?_
    refine j_iconst 1 dX11_isSo_223 ic_1 ?_
    refine j_iload_n 2 dX11_isSo_224 rfl ?_
    refine j_iconst 1 dX11_isSo_225 ic_1 ?_
    refine j_icmp_ne (tgt := 233) dX11_isSo_226 rfl (fun c2 => ?_) (fun c2 => ?_)
    · exact absurd c2 (by decide)
    · refine j_iconst 5 dX11_isSo_229 ic_5 ?_
      refine j_goto (tgt := 235) dX11_isSo_230 rfl ?_
      refine j_callV (kc := 0) (ks := 0) (a := 0) (b := 0) (d' := d) (As := [.int x, .int 1, .int 5]) dX11_isSo_235 kX11_150 rfl (shM hM sgM_0) (by omega) rfl rfl rfl (Nat.le_of_ble_eq_true rfl) (Nat.le_of_ble_eq_true rfl) (T_X11_isFrom x 1 5) (kk_p ?_)
      refine j_zret dX11_isSo_238 rfl bI_nar ?_
      have em := (congrArg (fun z => mayS S z x) (show soN 6 1 = 8 by decide)).trans (may_8)
      have hz : bI (mayS S (soN 6 1) x) = (bI (1 ≤ x ∧ x ≤ 5)) := congrArg bI em
      exact hQ _ _ ⟨by rw [hz], rfl⟩
  · exact absurd c1 (by decide)
set_option maxRecDepth 20000 in
set_option maxHeartbeats 4000000 in
theorem T_so6_2 {d : Nat} {M : jk_M} {S : HS} (hM : WM M) (hS : mv M.2.1 = S) (ok : Sok S) {x : Int32} (hx : 0 ≤ x) (hnum : M.2.1 0 33 = x) : J Fr_X11_isSo (d + 2) 0 0 0 [(0, .ref 0), (1, .int 6), (2, .int 2)] [] M (jk_is (some (.int (bI (mayS S (soN 6 2) x)))) M) := by
  refine j_post (fun Q hQ => ?_)
  refine j_iload_n 1 dX11_isSo_0 rfl ?_
  refine j_tableIn (tgt := 203) dX11_isSo_1 (by decide) (by decide) (off := 202) (by decide) rfl ?_
  refine j_iload_n 2 dX11_isSo_203 rfl ?_
  refine j_if_ne (tgt := 218) dX11_isSo_204 rfl (fun c1 => ?_) (fun c1 => ?_)
  · refine j_aload_n 0 dX11_isSo_218 rfl ?_
    refine j_aload_n 0 dX11_isSo_219 rfl ?_
    refine j_getv x dX11_isSo_220 fX11_202 (shM hM sgM_0) rfl hnum ?_
    refine j_iconst 1 dX11_isSo_223 ic_1 ?_
    refine j_iload_n 2 dX11_isSo_224 rfl ?_
    refine j_iconst 1 dX11_isSo_225 ic_1 ?_
    refine j_icmp_ne (tgt := 233) dX11_isSo_226 rfl (fun c2 => ?_) (fun c2 => ?_)
    · refine j_bipush 99 dX11_isSo_233 bp_99 ?_
      refine j_callV (kc := 0) (ks := 0) (a := 0) (b := 0) (d' := d) (As := [.int x, .int 1, .int 99]) dX11_isSo_235 kX11_150 rfl (shM hM sgM_0) (by omega) rfl rfl rfl (Nat.le_of_ble_eq_true rfl) (Nat.le_of_ble_eq_true rfl) (T_X11_isFrom x 1 99) (kk_p ?_)
      refine j_zret dX11_isSo_238 rfl bI_nar ?_
      have em := (congrArg (fun z => mayS S z x) (show soN 6 2 = 9 by decide)).trans (may_9)
      have hz : bI (mayS S (soN 6 2) x) = (bI (1 ≤ x ∧ x ≤ 99)) := congrArg bI em
      exact hQ _ _ ⟨by rw [hz], rfl⟩
    · exact absurd c2 (by decide)
  · exact absurd c1 (by decide)
set_option maxRecDepth 20000 in
set_option maxHeartbeats 4000000 in
theorem T_so7_0 {d : Nat} {M : jk_M} {S : HS} (hM : WM M) (hS : mv M.2.1 = S) (ok : Sok S) {x : Int32} (hx : 0 ≤ x) (hnum : M.2.1 0 33 = x) : J Fr_X11_isSo (d + 2) 0 0 0 [(0, .ref 0), (1, .int 7), (2, .int 0)] [] M (jk_is (some (.int (bI (mayS S (soN 7 0) x)))) M) := by
  refine j_post (fun Q hQ => ?_)
  refine j_iload_n 1 dX11_isSo_0 rfl ?_
  refine j_tableIn (tgt := 249) dX11_isSo_1 (by decide) (by decide) (off := 248) (by decide) rfl ?_
  refine j_aload_n 0 dX11_isSo_249 rfl ?_
  refine j_getv x dX11_isSo_250 fX11_202 (shM hM sgM_0) rfl hnum ?_
  refine j_aload_n 0 dX11_isSo_253 rfl ?_
  refine j_getv (nI (nT S)) dX11_isSo_254 fX11_123 (shM hM sgM_0) rfl ((mr_T hS).trans (Sok.T ok).1) ?_
  refine j_icmp_ge (tgt := 264) dX11_isSo_257 rfl (fun c1 => ?_) (fun c1 => ?_)
  · refine j_iconst 0 dX11_isSo_264 ic_0 ?_
    refine j_zret dX11_isSo_265 rfl rfl ?_
    have em := (congrArg (fun z => mayS S z x) (show soN 7 0 = 10 by decide)).trans (may_10 ok)
    have hz : bI (mayS S (soN 7 0) x) = 0 := (congrArg bI em).trans (bI_f (by clear hQ em; grind))
    exact hQ _ _ ⟨by rw [hz], rfl⟩
  · refine j_iconst 1 dX11_isSo_260 ic_1 ?_
    refine j_goto (tgt := 265) dX11_isSo_261 rfl ?_
    refine j_zret dX11_isSo_265 rfl rfl ?_
    have em := (congrArg (fun z => mayS S z x) (show soN 7 0 = 10 by decide)).trans (may_10 ok)
    have hz : bI (mayS S (soN 7 0) x) = 1 := (congrArg bI em).trans (bI_t (by clear hQ em; grind))
    exact hQ _ _ ⟨by rw [hz], rfl⟩
set_option maxRecDepth 20000 in
set_option maxHeartbeats 4000000 in
theorem T_so8_0 {d : Nat} {M : jk_M} {S : HS} (hM : WM M) (hS : mv M.2.1 = S) (ok : Sok S) {x : Int32} (hx : 0 ≤ x) (hnum : M.2.1 0 33 = x) : J Fr_X11_isSo (d + 2) 0 0 0 [(0, .ref 0), (1, .int 8), (2, .int 0)] [] M (jk_is (some (.int (bI (mayS S (soN 8 0) x)))) M) := by
  refine j_post (fun Q hQ => ?_)
  refine j_iload_n 1 dX11_isSo_0 rfl ?_
  refine j_tableIn (tgt := 249) dX11_isSo_1 (by decide) (by decide) (off := 248) (by decide) rfl ?_
  refine j_aload_n 0 dX11_isSo_249 rfl ?_
  refine j_getv x dX11_isSo_250 fX11_202 (shM hM sgM_0) rfl hnum ?_
  refine j_aload_n 0 dX11_isSo_253 rfl ?_
  refine j_getv (nI (nT S)) dX11_isSo_254 fX11_123 (shM hM sgM_0) rfl ((mr_T hS).trans (Sok.T ok).1) ?_
  refine j_icmp_ge (tgt := 264) dX11_isSo_257 rfl (fun c1 => ?_) (fun c1 => ?_)
  · refine j_iconst 0 dX11_isSo_264 ic_0 ?_
    refine j_zret dX11_isSo_265 rfl rfl ?_
    have em := (congrArg (fun z => mayS S z x) (show soN 8 0 = 10 by decide)).trans (may_10 ok)
    have hz : bI (mayS S (soN 8 0) x) = 0 := (congrArg bI em).trans (bI_f (by clear hQ em; grind))
    exact hQ _ _ ⟨by rw [hz], rfl⟩
  · refine j_iconst 1 dX11_isSo_260 ic_1 ?_
    refine j_goto (tgt := 265) dX11_isSo_261 rfl ?_
    refine j_zret dX11_isSo_265 rfl rfl ?_
    have em := (congrArg (fun z => mayS S z x) (show soN 8 0 = 10 by decide)).trans (may_10 ok)
    have hz : bI (mayS S (soN 8 0) x) = 1 := (congrArg bI em).trans (bI_t (by clear hQ em; grind))
    exact hQ _ _ ⟨by rw [hz], rfl⟩
set_option maxRecDepth 20000 in
set_option maxHeartbeats 4000000 in
theorem T_so9_0 {d : Nat} {M : jk_M} {S : HS} (hM : WM M) (hS : mv M.2.1 = S) (ok : Sok S) {x : Int32} (hx : 0 ≤ x) (hnum : M.2.1 0 33 = x) : J Fr_X11_isSo (d + 2) 0 0 0 [(0, .ref 0), (1, .int 9), (2, .int 0)] [] M (jk_is (some (.int (bI (mayS S (soN 9 0) x)))) M) := by
  refine j_post (fun Q hQ => ?_)
  refine j_iload_n 1 dX11_isSo_0 rfl ?_
  refine j_tableIn (tgt := 239) dX11_isSo_1 (by decide) (by decide) (off := 238) (by decide) rfl ?_
  refine j_aload_n 0 dX11_isSo_239 rfl ?_
  refine j_iconst 2 dX11_isSo_240 ic_2 ?_
  refine j_aload_n 0 dX11_isSo_241 rfl ?_
  refine j_getv x dX11_isSo_242 fX11_202 (shM hM sgM_0) rfl hnum ?_
  refine j_callV (kc := 0) (ks := 0) (a := 0) (b := 0) (d' := (d + 1)) (As := [.int 2, .int x]) dX11_isSo_245 kX11_173 rfl (shM hM sgM_0) (by omega) rfl rfl rfl (Nat.le_of_ble_eq_true rfl) (Nat.le_of_ble_eq_true rfl) (T_asked2 hM x) (kk_p ?_)
  refine j_zret dX11_isSo_248 rfl bI_nar ?_
  have em := (congrArg (fun z => mayS S z x) (show soN 9 0 = 11 by decide)).trans (may_11)
  have hz : bI (mayS S (soN 9 0) x) = (bI (0 ≤ x ∧ x ≤ 59)) := congrArg bI em
  exact hQ _ _ ⟨by rw [hz], rfl⟩
def nbN (w : Nat) : Nat := [1, 3, 2, 1, 1, 2, 3, 1, 1, 1].getD w 0
theorem nb_T : ∀ w, w < 10 → nbT.getD w 0 = nI (nbN w) ∧ nbN w ≤ 3 ∧ 1 ≤ nbN w ∧ ∀ i, i < 3 → (soN w i = -1 ↔ nbN w ≤ i) := by decide +kernel
theorem T_X11_isSo {d : Nat} {M : jk_M} {S : HS} (hM : WM M) (hS : mv M.2.1 = S) (ok : Sok S) {x : Int32} (hx : 0 ≤ x) (hnum : M.2.1 0 33 = x) {w i : Nat} (hw : w < 10) (hi : i < nbN w) : J Fr_X11_isSo (d + 2) 0 0 0 [(0, .ref 0), (1, .int (nI w)), (2, .int (nI i))] [] M (jk_is (some (.int (bI (mayS S (soN w i) x)))) M) := by
  have hw10 : w = 0 ∨ w = 1 ∨ w = 2 ∨ w = 3 ∨ w = 4 ∨ w = 5 ∨ w = 6 ∨ w = 7 ∨ w = 8 ∨ w = 9 := by omega
  rcases hw10 with rfl | rfl | rfl | rfl | rfl | rfl | rfl | rfl | rfl | rfl
  · have hi2 : i < 1 := hi
    obtain rfl : i = 0 := by omega
    exact T_so0_0 hM hS ok hx hnum
  · have hi2 : i < 3 := hi
    have hi3 : i = 0 ∨ i = 1 ∨ i = 2 := by omega
    rcases hi3 with rfl | rfl | rfl
    · exact T_so1_0 hM hS ok hx hnum
    · exact T_so1_1 hM hS ok hx hnum
    · exact T_so1_2 hM hS ok hx hnum
  · have hi2 : i < 2 := hi
    have hi3 : i = 0 ∨ i = 1 := by omega
    rcases hi3 with rfl | rfl
    · exact T_so2_0 hM hS ok hx hnum
    · exact T_so2_1 hM hS ok hx hnum
  · have hi2 : i < 1 := hi
    obtain rfl : i = 0 := by omega
    exact T_so3_0 hM hS ok hx hnum
  · have hi2 : i < 1 := hi
    obtain rfl : i = 0 := by omega
    exact T_so4_0 hM hS ok hx hnum
  · have hi2 : i < 2 := hi
    have hi3 : i = 0 ∨ i = 1 := by omega
    rcases hi3 with rfl | rfl
    · exact T_so5_0 hM hS ok hx hnum
    · exact T_so5_1 hM hS ok hx hnum
  · have hi2 : i < 3 := hi
    have hi3 : i = 0 ∨ i = 1 ∨ i = 2 := by omega
    rcases hi3 with rfl | rfl | rfl
    · exact T_so6_0 hM hS ok hx hnum
    · exact T_so6_1 hM hS ok hx hnum
    · exact T_so6_2 hM hS ok hx hnum
  · have hi2 : i < 1 := hi
    obtain rfl : i = 0 := by omega
    exact T_so7_0 hM hS ok hx hnum
  · have hi2 : i < 1 := hi
    obtain rfl : i = 0 := by omega
    exact T_so8_0 hM hS ok hx hnum
  · have hi2 : i < 1 := hi
    obtain rfl : i = 0 := by omega
    exact T_so9_0 hM hS ok hx hnum
